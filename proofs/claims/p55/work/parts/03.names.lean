def RX0 : String := "RumourHives$History"
def TX0 : u_T := fun k => match k with
  | 0 => ("RumourHives$History", "scenes", "[LRumourHives$Scene;", true)
  | 1 => ("RumourHives$History", "kept", "I", false)
  | _ => ("RumourHives$History", "next", "I", false)
def tyX0 : Nat → FieldType := fun k => match k with
  | 0 => .array (.object "RumourHives$Scene")
  | 1 => .int
  | _ => .int
abbrev wsX00 : List Cond := u_ws RX0 TX0 3
theorem nmX0 : ∀ a, a < 3 → ∀ b, b < 3 → a ≠ b → (TX0 a).2.1 ≠ (TX0 b).2.1 := by decide +kernel
theorem tyX0_ok : ∀ k, k < 3 → parseFieldDescriptor (TX0 k).2.2.1 = some (tyX0 k) := by decide +kernel
abbrev cX0_init : ByteArray := prog_2_method_1_code
def yX0_init : MethodName := ⟨RX0, "<init>", "()V"⟩
abbrev cX0_keep : ByteArray := prog_2_method_2_code
def yX0_keep : MethodName := ⟨RX0, "keep", "(LRumourHives$Scene;)V"⟩
abbrev cX0_takeBack : ByteArray := prog_2_method_3_code
def yX0_takeBack : MethodName := ⟨RX0, "takeBack", "(LRumourHives$Scene;)V"⟩
def RX1 : String := "RumourHives$Net"
def TX1 : u_T := fun k => match k with
  | 0 => ("RumourHives$Net", "size", "I", false)
  | 1 => ("RumourHives$Net", "links", "I", false)
  | 2 => ("RumourHives$Net", "neighbours", "[I", true)
  | 3 => ("RumourHives$Net", "parents", "[I", true)
  | _ => ("RumourHives$Net", "steps", "[I", true)
def tyX1 : Nat → FieldType := fun k => match k with
  | 0 => .int
  | 1 => .int
  | 2 => .array .int
  | 3 => .array .int
  | _ => .array .int
abbrev wsX10 : List Cond := u_ws RX1 TX1 5
theorem nmX1 : ∀ a, a < 5 → ∀ b, b < 5 → a ≠ b → (TX1 a).2.1 ≠ (TX1 b).2.1 := by decide +kernel
theorem tyX1_ok : ∀ k, k < 5 → parseFieldDescriptor (TX1 k).2.2.1 = some (tyX1 k) := by decide +kernel
abbrev cX1_init : ByteArray := prog_3_method_1_code
def yX1_init : MethodName := ⟨RX1, "<init>", "()V"⟩
abbrev cX1_copyFrom : ByteArray := prog_3_method_2_code
def yX1_copyFrom : MethodName := ⟨RX1, "copyFrom", "(LRumourHives$Net;)V"⟩
abbrev cX1_joined : ByteArray := prog_3_method_3_code
def yX1_joined : MethodName := ⟨RX1, "joined", "(II)Z"⟩
abbrev cX1_join : ByteArray := prog_3_method_4_code
def yX1_join : MethodName := ⟨RX1, "join", "(II)I"⟩
abbrev cX1_cut : ByteArray := prog_3_method_5_code
def yX1_cut : MethodName := ⟨RX1, "cut", "(II)I"⟩
abbrev cX1_around : ByteArray := prog_3_method_6_code
def yX1_around : MethodName := ⟨RX1, "around", "(I)I"⟩
abbrev cX1_piecesBySearch : ByteArray := prog_3_method_7_code
def yX1_piecesBySearch : MethodName := ⟨RX1, "piecesBySearch", "()I"⟩
abbrev cX1_pieceOf : ByteArray := prog_3_method_8_code
def yX1_pieceOf : MethodName := ⟨RX1, "pieceOf", "(I)I"⟩
abbrev cX1_piecesByUnion : ByteArray := prog_3_method_9_code
def yX1_piecesByUnion : MethodName := ⟨RX1, "piecesByUnion", "()I"⟩
abbrev cX1_unite : ByteArray := prog_3_method_10_code
def yX1_unite : MethodName := ⟨RX1, "unite", "(II)Z"⟩
abbrev cX1_rootOf : ByteArray := prog_3_method_11_code
def yX1_rootOf : MethodName := ⟨RX1, "rootOf", "(I)I"⟩
abbrev cX1_stepsBySearch : ByteArray := prog_3_method_12_code
def yX1_stepsBySearch : MethodName := ⟨RX1, "stepsBySearch", "(II)I"⟩
abbrev cX1_stepsByRelaxing : ByteArray := prog_3_method_13_code
def yX1_stepsByRelaxing : MethodName := ⟨RX1, "stepsByRelaxing", "(II)I"⟩
abbrev cX1_relaxLinks : ByteArray := prog_3_method_14_code
def yX1_relaxLinks : MethodName := ⟨RX1, "relaxLinks", "()V"⟩
def RX2 : String := "RumourHives$Rumour"
def TX2 : u_T := fun k => match k with
  | 0 => ("RumourHives$Rumour", "source", "I", false)
  | 1 => ("RumourHives$Rumour", "force", "I", false)
  | 2 => ("RumourHives$Rumour", "alive", "Z", false)
  | 3 => ("RumourHives$Rumour", "spreaders", "I", false)
  | 4 => ("RumourHives$Rumour", "sceptics", "I", false)
  | _ => ("RumourHives$Rumour", "heardIn", "[I", true)
def tyX2 : Nat → FieldType := fun k => match k with
  | 0 => .int
  | 1 => .int
  | 2 => .boolean
  | 3 => .int
  | 4 => .int
  | _ => .array .int
abbrev wsX20 : List Cond := u_ws RX2 TX2 6
theorem nmX2 : ∀ a, a < 6 → ∀ b, b < 6 → a ≠ b → (TX2 a).2.1 ≠ (TX2 b).2.1 := by decide +kernel
theorem tyX2_ok : ∀ k, k < 6 → parseFieldDescriptor (TX2 k).2.2.1 = some (tyX2 k) := by decide +kernel
abbrev cX2_init : ByteArray := prog_4_method_1_code
def yX2_init : MethodName := ⟨RX2, "<init>", "()V"⟩
abbrev cX2_copyFrom : ByteArray := prog_4_method_2_code
def yX2_copyFrom : MethodName := ⟨RX2, "copyFrom", "(LRumourHives$Rumour;)V"⟩
abbrev cX2_comeUp : ByteArray := prog_4_method_3_code
def yX2_comeUp : MethodName := ⟨RX2, "comeUp", "(III)V"⟩
abbrev cX2_aware : ByteArray := prog_4_method_4_code
def yX2_aware : MethodName := ⟨RX2, "aware", "()I"⟩
abbrev cX2_silence : ByteArray := prog_4_method_5_code
def yX2_silence : MethodName := ⟨RX2, "silence", "()I"⟩
abbrev cX2_revive : ByteArray := prog_4_method_6_code
def yX2_revive : MethodName := ⟨RX2, "revive", "(I)I"⟩
abbrev cX2_weaken : ByteArray := prog_4_method_7_code
def yX2_weaken : MethodName := ⟨RX2, "weaken", "()V"⟩
abbrev cX2_signOf : ByteArray := prog_4_method_8_code
def yX2_signOf : MethodName := ⟨RX2, "signOf", "(I)C"⟩
def RX3 : String := "RumourHives$Scene"
def TX3 : u_T := fun k => match k with
  | 0 => ("RumourHives$Scene", "net", "LRumourHives$Net;", true)
  | 1 => ("RumourHives$Scene", "hiveOf", "[I", true)
  | 2 => ("RumourHives$Scene", "doubtOf", "[I", true)
  | 3 => ("RumourHives$Scene", "rumours", "[LRumourHives$Rumour;", true)
  | 4 => ("RumourHives$Scene", "started", "I", false)
  | 5 => ("RumourHives$Scene", "passedRounds", "I", false)
  | 6 => ("RumourHives$Scene", "hearings", "I", false)
  | _ => ("RumourHives$Scene", "conversions", "I", false)
def tyX3 : Nat → FieldType := fun k => match k with
  | 0 => .object "RumourHives$Net"
  | 1 => .array .int
  | 2 => .array .int
  | 3 => .array (.object "RumourHives$Rumour")
  | 4 => .int
  | 5 => .int
  | 6 => .int
  | _ => .int
abbrev wsX30 : List Cond := u_ws RX3 TX3 8
theorem nmX3 : ∀ a, a < 8 → ∀ b, b < 8 → a ≠ b → (TX3 a).2.1 ≠ (TX3 b).2.1 := by decide +kernel
theorem tyX3_ok : ∀ k, k < 8 → parseFieldDescriptor (TX3 k).2.2.1 = some (tyX3 k) := by decide +kernel
abbrev cX3_init : ByteArray := prog_5_method_1_code
def yX3_init : MethodName := ⟨RX3, "<init>", "()V"⟩
abbrev cX3_copyFrom : ByteArray := prog_5_method_2_code
def yX3_copyFrom : MethodName := ⟨RX3, "copyFrom", "(LRumourHives$Scene;)V"⟩
abbrev cX3_hasListener : ByteArray := prog_5_method_3_code
def yX3_hasListener : MethodName := ⟨RX3, "hasListener", "(I)Z"⟩
abbrev cX3_hasRumour : ByteArray := prog_5_method_4_code
def yX3_hasRumour : MethodName := ⟨RX3, "hasRumour", "(I)Z"⟩
abbrev cX3_refusalToAdd : ByteArray := prog_5_method_5_code
def yX3_refusalToAdd : MethodName := ⟨RX3, "refusalToAdd", "(II)I"⟩
abbrev cX3_add : ByteArray := prog_5_method_6_code
def yX3_add : MethodName := ⟨RX3, "add", "(II)I"⟩
abbrev cX3_refusalToJoin : ByteArray := prog_5_method_7_code
def yX3_refusalToJoin : MethodName := ⟨RX3, "refusalToJoin", "(II)I"⟩
abbrev cX3_refusalToCut : ByteArray := prog_5_method_8_code
def yX3_refusalToCut : MethodName := ⟨RX3, "refusalToCut", "(II)I"⟩
abbrev cX3_refusalToMove : ByteArray := prog_5_method_9_code
def yX3_refusalToMove : MethodName := ⟨RX3, "refusalToMove", "(II)I"⟩
abbrev cX3_move : ByteArray := prog_5_method_10_code
def yX3_move : MethodName := ⟨RX3, "move", "(II)I"⟩
abbrev cX3_refusalToStart : ByteArray := prog_5_method_11_code
def yX3_refusalToStart : MethodName := ⟨RX3, "refusalToStart", "(II)I"⟩
abbrev cX3_begin : ByteArray := prog_5_method_12_code
def yX3_begin : MethodName := ⟨RX3, "begin", "(II)I"⟩
abbrev cX3_refusalToConvert : ByteArray := prog_5_method_13_code
def yX3_refusalToConvert : MethodName := ⟨RX3, "refusalToConvert", "(II)I"⟩
abbrev cX3_convert : ByteArray := prog_5_method_14_code
def yX3_convert : MethodName := ⟨RX3, "convert", "(II)I"⟩
abbrev cX3_refusalToSilence : ByteArray := prog_5_method_15_code
def yX3_refusalToSilence : MethodName := ⟨RX3, "refusalToSilence", "(I)I"⟩
abbrev cX3_refusalToRevive : ByteArray := prog_5_method_16_code
def yX3_refusalToRevive : MethodName := ⟨RX3, "refusalToRevive", "(II)I"⟩
abbrev cX3_passRounds : ByteArray := prog_5_method_17_code
def yX3_passRounds : MethodName := ⟨RX3, "passRounds", "(I)I"⟩
abbrev cX3_spreadOnce : ByteArray := prog_5_method_18_code
def yX3_spreadOnce : MethodName := ⟨RX3, "spreadOnce", "(LRumourHives$Rumour;)I"⟩
abbrev cX3_hears : ByteArray := prog_5_method_19_code
def yX3_hears : MethodName := ⟨RX3, "hears", "(LRumourHives$Rumour;I)Z"⟩
abbrev cX3_believes : ByteArray := prog_5_method_20_code
def yX3_believes : MethodName := ⟨RX3, "believes", "(LRumourHives$Rumour;I)Z"⟩
abbrev cX3_believersToCome : ByteArray := prog_5_method_21_code
def yX3_believersToCome : MethodName := ⟨RX3, "believersToCome", "(LRumourHives$Rumour;)I"⟩
abbrev cX3_membersOf : ByteArray := prog_5_method_22_code
def yX3_membersOf : MethodName := ⟨RX3, "membersOf", "(I)I"⟩
abbrev cX3_hiveWithMost : ByteArray := prog_5_method_23_code
def yX3_hiveWithMost : MethodName := ⟨RX3, "hiveWithMost", "(I)I"⟩
abbrev cX3_rumourAtRank : ByteArray := prog_5_method_24_code
def yX3_rumourAtRank : MethodName := ⟨RX3, "rumourAtRank", "(I)I"⟩
abbrev cX3_spreadsAhead : ByteArray := prog_5_method_25_code
def yX3_spreadsAhead : MethodName := ⟨RX3, "spreadsAhead", "(II)Z"⟩
abbrev cX3_listenerAtRank : ByteArray := prog_5_method_26_code
def yX3_listenerAtRank : MethodName := ⟨RX3, "listenerAtRank", "(I)I"⟩
abbrev cX3_gossipsAhead : ByteArray := prog_5_method_27_code
def yX3_gossipsAhead : MethodName := ⟨RX3, "gossipsAhead", "(II)Z"⟩
abbrev cX3_spreadBy : ByteArray := prog_5_method_28_code
def yX3_spreadBy : MethodName := ⟨RX3, "spreadBy", "(I)I"⟩
abbrev cX3_gossips : ByteArray := prog_5_method_29_code
def yX3_gossips : MethodName := ⟨RX3, "gossips", "()I"⟩
abbrev cX3_sumOfDoubts : ByteArray := prog_5_method_30_code
def yX3_sumOfDoubts : MethodName := ⟨RX3, "sumOfDoubts", "()I"⟩
abbrev cX3_distancesAgree : ByteArray := prog_5_method_31_code
def yX3_distancesAgree : MethodName := ⟨RX3, "distancesAgree", "()Z"⟩
abbrev cX3_standsAreClear : ByteArray := prog_5_method_32_code
def yX3_standsAreClear : MethodName := ⟨RX3, "standsAreClear", "()Z"⟩
abbrev cX3_hivesAddUp : ByteArray := prog_5_method_33_code
def yX3_hivesAddUp : MethodName := ⟨RX3, "hivesAddUp", "()Z"⟩
def RX4 : String := "RumourHives$Script"
def TX4 : u_T := fun k => match k with
  | 0 => ("RumourHives$Script", "text", "[C", true)
  | 1 => ("RumourHives$Script", "length", "I", false)
  | 2 => ("RumourHives$Script", "kinds", "[I", true)
  | 3 => ("RumourHives$Script", "firsts", "[I", true)
  | 4 => ("RumourHives$Script", "seconds", "[I", true)
  | 5 => ("RumourHives$Script", "commands", "I", false)
  | 6 => ("RumourHives$Script", "reached", "I", false)
  | 7 => ("RumourHives$Script", "complete", "Z", false)
  | 8 => ("RumourHives$Script", "numbers", "I", false)
  | 9 => ("RumourHives$Script", "firstNumber", "I", false)
  | _ => ("RumourHives$Script", "secondNumber", "I", false)
def tyX4 : Nat → FieldType := fun k => match k with
  | 0 => .array .char
  | 1 => .int
  | 2 => .array .int
  | 3 => .array .int
  | 4 => .array .int
  | 5 => .int
  | 6 => .int
  | 7 => .boolean
  | 8 => .int
  | 9 => .int
  | _ => .int
abbrev wsX40 : List Cond := u_ws RX4 TX4 11
theorem nmX4 : ∀ a, a < 11 → ∀ b, b < 11 → a ≠ b → (TX4 a).2.1 ≠ (TX4 b).2.1 := by decide +kernel
theorem tyX4_ok : ∀ k, k < 11 → parseFieldDescriptor (TX4 k).2.2.1 = some (tyX4 k) := by decide +kernel
abbrev cX4_init : ByteArray := prog_6_method_1_code
def yX4_init : MethodName := ⟨RX4, "<init>", "()V"⟩
abbrev cX4_put : ByteArray := prog_6_method_2_code
def yX4_put : MethodName := ⟨RX4, "put", "(C)V"⟩
abbrev cX4_readAll : ByteArray := prog_6_method_3_code
def yX4_readAll : MethodName := ⟨RX4, "readAll", "()I"⟩
abbrev cX4_keepCommand : ByteArray := prog_6_method_4_code
def yX4_keepCommand : MethodName := ⟨RX4, "keepCommand", "(II)V"⟩
abbrev cX4_furthestKind : ByteArray := prog_6_method_5_code
def yX4_furthestKind : MethodName := ⟨RX4, "furthestKind", "(I)I"⟩
abbrev cX4_formOf : ByteArray := prog_6_method_6_code
def yX4_formOf : MethodName := ⟨RX4, "formOf", "(I)Ljava/lang/String;"⟩
abbrev cX4_match : ByteArray := prog_6_method_7_code
def yX4_match : MethodName := ⟨RX4, "match", "(II)V"⟩
abbrev cX4_takes : ByteArray := prog_6_method_8_code
def yX4_takes : MethodName := ⟨RX4, "takes", "(C)Z"⟩
abbrev cX4_takesNumber : ByteArray := prog_6_method_9_code
def yX4_takesNumber : MethodName := ⟨RX4, "takesNumber", "(I)Z"⟩
abbrev cX4_digitFollows : ByteArray := prog_6_method_10_code
def yX4_digitFollows : MethodName := ⟨RX4, "digitFollows", "()Z"⟩
def RX5 : String := "RumourHives"
def TX5 : u_T := fun k => match k with
  | 0 => ("RumourHives", "now", "LRumourHives$Scene;", true)
  | 1 => ("RumourHives", "beforeScript", "LRumourHives$Scene;", true)
  | 2 => ("RumourHives", "snapshot", "LRumourHives$Scene;", true)
  | 3 => ("RumourHives", "history", "LRumourHives$History;", true)
  | 4 => ("RumourHives", "forecast", "LRumourHives$Rumour;", true)
  | 5 => ("RumourHives", "script", "LRumourHives$Script;", true)
  | 6 => ("RumourHives", "output", "Ljava/lang/StringBuilder;", true)
  | 7 => ("RumourHives", "hasSnapshot", "Z", false)
  | 8 => ("RumourHives", "latestError", "I", false)
  | _ => ("RumourHives", "latestFailure", "I", false)
def tyX5 : Nat → FieldType := fun k => match k with
  | 0 => .object "RumourHives$Scene"
  | 1 => .object "RumourHives$Scene"
  | 2 => .object "RumourHives$Scene"
  | 3 => .object "RumourHives$History"
  | 4 => .object "RumourHives$Rumour"
  | 5 => .object "RumourHives$Script"
  | 6 => .object "java/lang/StringBuilder"
  | 7 => .boolean
  | 8 => .int
  | _ => .int
abbrev wsX50 : List Cond := u_ws RX5 TX5 10
theorem nmX5 : ∀ a, a < 10 → ∀ b, b < 10 → a ≠ b → (TX5 a).2.1 ≠ (TX5 b).2.1 := by decide +kernel
theorem tyX5_ok : ∀ k, k < 10 → parseFieldDescriptor (TX5 k).2.2.1 = some (tyX5 k) := by decide +kernel
abbrev cX5_init : ByteArray := prog_1_method_1_code
def yX5_init : MethodName := ⟨RX5, "<init>", "()V"⟩
abbrev cX5_addListener : ByteArray := prog_1_method_2_code
def yX5_addListener : MethodName := ⟨RX5, "addListener", "(II)I"⟩
abbrev cX5_link : ByteArray := prog_1_method_3_code
def yX5_link : MethodName := ⟨RX5, "link", "(II)I"⟩
abbrev cX5_unlink : ByteArray := prog_1_method_4_code
def yX5_unlink : MethodName := ⟨RX5, "unlink", "(II)I"⟩
abbrev cX5_moveListener : ByteArray := prog_1_method_5_code
def yX5_moveListener : MethodName := ⟨RX5, "moveListener", "(II)I"⟩
abbrev cX5_startRumour : ByteArray := prog_1_method_6_code
def yX5_startRumour : MethodName := ⟨RX5, "startRumour", "(II)I"⟩
abbrev cX5_check : ByteArray := prog_1_method_7_code
def yX5_check : MethodName := ⟨RX5, "check", "(II)Z"⟩
abbrev cX5_deny : ByteArray := prog_1_method_8_code
def yX5_deny : MethodName := ⟨RX5, "deny", "(I)I"⟩
abbrev cX5_answer : ByteArray := prog_1_method_9_code
def yX5_answer : MethodName := ⟨RX5, "answer", "(II)I"⟩
abbrev cX5_advance : ByteArray := prog_1_method_10_code
def yX5_advance : MethodName := ⟨RX5, "advance", "(I)I"⟩
abbrev cX5_listenerCount : ByteArray := prog_1_method_11_code
def yX5_listenerCount : MethodName := ⟨RX5, "listenerCount", "()I"⟩
abbrev cX5_hive : ByteArray := prog_1_method_12_code
def yX5_hive : MethodName := ⟨RX5, "hive", "(I)I"⟩
abbrev cX5_doubt : ByteArray := prog_1_method_13_code
def yX5_doubt : MethodName := ⟨RX5, "doubt", "(I)I"⟩
abbrev cX5_isLinked : ByteArray := prog_1_method_14_code
def yX5_isLinked : MethodName := ⟨RX5, "isLinked", "(II)Z"⟩
abbrev cX5_neighbourCount : ByteArray := prog_1_method_15_code
def yX5_neighbourCount : MethodName := ⟨RX5, "neighbourCount", "(I)I"⟩
abbrev cX5_linkCount : ByteArray := prog_1_method_16_code
def yX5_linkCount : MethodName := ⟨RX5, "linkCount", "()I"⟩
abbrev cX5_hiveSize : ByteArray := prog_1_method_17_code
def yX5_hiveSize : MethodName := ⟨RX5, "hiveSize", "(I)I"⟩
abbrev cX5_componentCount : ByteArray := prog_1_method_18_code
def yX5_componentCount : MethodName := ⟨RX5, "componentCount", "()I"⟩
abbrev cX5_componentCountByUnion : ByteArray := prog_1_method_19_code
def yX5_componentCountByUnion : MethodName := ⟨RX5, "componentCountByUnion", "()I"⟩
abbrev cX5_rumourCount : ByteArray := prog_1_method_20_code
def yX5_rumourCount : MethodName := ⟨RX5, "rumourCount", "()I"⟩
abbrev cX5_strength : ByteArray := prog_1_method_21_code
def yX5_strength : MethodName := ⟨RX5, "strength", "(I)I"⟩
abbrev cX5_isAlive : ByteArray := prog_1_method_22_code
def yX5_isAlive : MethodName := ⟨RX5, "isAlive", "(I)Z"⟩
abbrev cX5_starter : ByteArray := prog_1_method_23_code
def yX5_starter : MethodName := ⟨RX5, "starter", "(I)I"⟩
abbrev cX5_isSpreader : ByteArray := prog_1_method_24_code
def yX5_isSpreader : MethodName := ⟨RX5, "isSpreader", "(II)Z"⟩
abbrev cX5_isSceptic : ByteArray := prog_1_method_25_code
def yX5_isSceptic : MethodName := ⟨RX5, "isSceptic", "(II)Z"⟩
abbrev cX5_heardRound : ByteArray := prog_1_method_26_code
def yX5_heardRound : MethodName := ⟨RX5, "heardRound", "(II)I"⟩
abbrev cX5_spreaderCount : ByteArray := prog_1_method_27_code
def yX5_spreaderCount : MethodName := ⟨RX5, "spreaderCount", "(I)I"⟩
abbrev cX5_scepticCount : ByteArray := prog_1_method_28_code
def yX5_scepticCount : MethodName := ⟨RX5, "scepticCount", "(I)I"⟩
abbrev cX5_countedHive : ByteArray := prog_1_method_29_code
def yX5_countedHive : MethodName := ⟨RX5, "countedHive", "(I)I"⟩
abbrev cX5_spreadersInHive : ByteArray := prog_1_method_30_code
def yX5_spreadersInHive : MethodName := ⟨RX5, "spreadersInHive", "(II)I"⟩
abbrev cX5_distance : ByteArray := prog_1_method_31_code
def yX5_distance : MethodName := ⟨RX5, "distance", "(II)I"⟩
abbrev cX5_distanceByRelaxation : ByteArray := prog_1_method_32_code
def yX5_distanceByRelaxation : MethodName := ⟨RX5, "distanceByRelaxation", "(II)I"⟩
abbrev cX5_nextSpreaders : ByteArray := prog_1_method_33_code
def yX5_nextSpreaders : MethodName := ⟨RX5, "nextSpreaders", "(I)I"⟩
abbrev cX5_roundsUntilHeard : ByteArray := prog_1_method_34_code
def yX5_roundsUntilHeard : MethodName := ⟨RX5, "roundsUntilHeard", "(II)I"⟩
abbrev cX5_spreadersAfter : ByteArray := prog_1_method_35_code
def yX5_spreadersAfter : MethodName := ⟨RX5, "spreadersAfter", "(II)I"⟩
abbrev cX5_rumourBySpread : ByteArray := prog_1_method_36_code
def yX5_rumourBySpread : MethodName := ⟨RX5, "rumourBySpread", "(I)I"⟩
abbrev cX5_listenerByGossip : ByteArray := prog_1_method_37_code
def yX5_listenerByGossip : MethodName := ⟨RX5, "listenerByGossip", "(I)I"⟩
abbrev cX5_round : ByteArray := prog_1_method_38_code
def yX5_round : MethodName := ⟨RX5, "round", "()I"⟩
abbrev cX5_heardTotal : ByteArray := prog_1_method_39_code
def yX5_heardTotal : MethodName := ⟨RX5, "heardTotal", "()I"⟩
abbrev cX5_successfulChecks : ByteArray := prog_1_method_40_code
def yX5_successfulChecks : MethodName := ⟨RX5, "successfulChecks", "()I"⟩
abbrev cX5_meanDoubt : ByteArray := prog_1_method_41_code
def yX5_meanDoubt : MethodName := ⟨RX5, "meanDoubt", "()D"⟩
abbrev cX5_gossipShare : ByteArray := prog_1_method_42_code
def yX5_gossipShare : MethodName := ⟨RX5, "gossipShare", "()F"⟩
abbrev cX5_isConsistent : ByteArray := prog_1_method_43_code
def yX5_isConsistent : MethodName := ⟨RX5, "isConsistent", "()Z"⟩
abbrev cX5_renderRumour : ByteArray := prog_1_method_44_code
def yX5_renderRumour : MethodName := ⟨RX5, "renderRumour", "(I)I"⟩
abbrev cX5_renderHive : ByteArray := prog_1_method_45_code
def yX5_renderHive : MethodName := ⟨RX5, "renderHive", "(I)I"⟩
abbrev cX5_outputAt : ByteArray := prog_1_method_46_code
def yX5_outputAt : MethodName := ⟨RX5, "outputAt", "(I)C"⟩
abbrev cX5_type : ByteArray := prog_1_method_47_code
def yX5_type : MethodName := ⟨RX5, "type", "(C)I"⟩
abbrev cX5_runScript : ByteArray := prog_1_method_48_code
def yX5_runScript : MethodName := ⟨RX5, "runScript", "()I"⟩
abbrev cX5_errorPosition : ByteArray := prog_1_method_49_code
def yX5_errorPosition : MethodName := ⟨RX5, "errorPosition", "()I"⟩
abbrev cX5_failedCommand : ByteArray := prog_1_method_50_code
def yX5_failedCommand : MethodName := ⟨RX5, "failedCommand", "()I"⟩
abbrev cX5_undo : ByteArray := prog_1_method_51_code
def yX5_undo : MethodName := ⟨RX5, "undo", "()I"⟩
abbrev cX5_save : ByteArray := prog_1_method_52_code
def yX5_save : MethodName := ⟨RX5, "save", "()I"⟩
abbrev cX5_restore : ByteArray := prog_1_method_53_code
def yX5_restore : MethodName := ⟨RX5, "restore", "()I"⟩
abbrev cX5_needListener : ByteArray := prog_1_method_54_code
def yX5_needListener : MethodName := ⟨RX5, "needListener", "(I)V"⟩
abbrev cX5_needRumour : ByteArray := prog_1_method_55_code
def yX5_needRumour : MethodName := ⟨RX5, "needRumour", "(I)V"⟩
abbrev cX5_needHive : ByteArray := prog_1_method_56_code
def yX5_needHive : MethodName := ⟨RX5, "needHive", "(I)V"⟩
abbrev cX5_found : ByteArray := prog_1_method_57_code
def yX5_found : MethodName := ⟨RX5, "found", "(I)I"⟩
abbrev cX5_isHive : ByteArray := prog_1_method_58_code
def yX5_isHive : MethodName := ⟨RX5, "isHive", "(I)Z"⟩
abbrev cX5_isLevel : ByteArray := prog_1_method_59_code
def yX5_isLevel : MethodName := ⟨RX5, "isLevel", "(I)Z"⟩
abbrev cX5_contains : ByteArray := prog_1_method_60_code
def yX5_contains : MethodName := ⟨RX5, "contains", "(II)Z"⟩
abbrev cX5_change : ByteArray := prog_1_method_61_code
def yX5_change : MethodName := ⟨RX5, "change", "(III)I"⟩
abbrev cX5_refuse : ByteArray := prog_1_method_62_code
def yX5_refuse : MethodName := ⟨RX5, "refuse", "(I)V"⟩
abbrev cX5_refusalOf : ByteArray := prog_1_method_63_code
def yX5_refusalOf : MethodName := ⟨RX5, "refusalOf", "(III)I"⟩
abbrev cX5_perform : ByteArray := prog_1_method_64_code
def yX5_perform : MethodName := ⟨RX5, "perform", "(III)I"⟩
abbrev cX5_runCommands : ByteArray := prog_1_method_65_code
def yX5_runCommands : MethodName := ⟨RX5, "runCommands", "()I"⟩
abbrev cX5_foreseenHearing : ByteArray := prog_1_method_66_code
def yX5_foreseenHearing : MethodName := ⟨RX5, "foreseenHearing", "(LRumourHives$Rumour;I)I"⟩
def RX6 : String := "RumourHivesLaw$Bits"
def TX6 : u_T := fun k => match k with
  | _ => ("RumourHivesLaw$Bits", "bits", "I", false)
def tyX6 : Nat → FieldType := fun k => match k with
  | _ => .int
abbrev wsX60 : List Cond := u_ws RX6 TX6 1
theorem nmX6 : ∀ a, a < 1 → ∀ b, b < 1 → a ≠ b → (TX6 a).2.1 ≠ (TX6 b).2.1 := by decide +kernel
theorem tyX6_ok : ∀ k, k < 1 → parseFieldDescriptor (TX6 k).2.2.1 = some (tyX6 k) := by decide +kernel
abbrev cX6_init : ByteArray := prog_8_method_1_code
def yX6_init : MethodName := ⟨RX6, "<init>", "(I)V"⟩
abbrev cX6_next : ByteArray := prog_8_method_2_code
def yX6_next : MethodName := ⟨RX6, "next", "(I)I"⟩
def RX7 : String := "RumourHivesModel"
def TX7 : u_T := fun k => match k with
  | _ => ("", "", "", false)
def tyX7 : Nat → FieldType := fun k => match k with
  | _ => .int
abbrev wsX70 : List Cond := u_ws RX7 TX7 0
theorem nmX7 : ∀ a, a < 0 → ∀ b, b < 0 → a ≠ b → (TX7 a).2.1 ≠ (TX7 b).2.1 := by decide +kernel
theorem tyX7_ok : ∀ k, k < 0 → parseFieldDescriptor (TX7 k).2.2.1 = some (tyX7 k) := by decide +kernel
def RJx145de : String := "java/io/Serializable"
def TJx145de : u_T := fun k => match k with
  | _ => ("", "", "", false)
def tyJx145de : Nat → FieldType := fun k => match k with
  | _ => .int
abbrev wsJx145de0 : List Cond := u_ws RJx145de TJx145de 0
theorem nmJx145de : ∀ a, a < 0 → ∀ b, b < 0 → a ≠ b → (TJx145de a).2.1 ≠ (TJx145de b).2.1 := by decide +kernel
theorem tyJx145de_ok : ∀ k, k < 0 → parseFieldDescriptor (TJx145de k).2.2.1 = some (tyJx145de k) := by decide +kernel
def RJ5 : String := "java/lang/AbstractStringBuilder"
def TJ5 : u_T := fun k => match k with
  | _ => ("", "", "", false)
def tyJ5 : Nat → FieldType := fun k => match k with
  | _ => .int
abbrev wsJ50 : List Cond := u_ws RJ5 TJ5 0
theorem nmJ5 : ∀ a, a < 0 → ∀ b, b < 0 → a ≠ b → (TJ5 a).2.1 ≠ (TJ5 b).2.1 := by decide +kernel
theorem tyJ5_ok : ∀ k, k < 0 → parseFieldDescriptor (TJ5 k).2.2.1 = some (tyJ5 k) := by decide +kernel
abbrev cJ5_init_d00df : ByteArray := prog_11_method_2_code
def yJ5_init_d00df : MethodName := ⟨RJ5, "<init>", "(I)V"⟩
abbrev cJ5_init_a7421 : ByteArray := prog_11_method_3_code
def yJ5_init_a7421 : MethodName := ⟨RJ5, "<init>", "(Ljava/lang/String;)V"⟩
abbrev cJ5_length_8abf5 : ByteArray := prog_11_method_6_code
def yJ5_length_8abf5 : MethodName := ⟨RJ5, "length", "()I"⟩
abbrev cJ5_ensureCapacityInternal_d00df : ByteArray := prog_11_method_9_code
def yJ5_ensureCapacityInternal_d00df : MethodName := ⟨RJ5, "ensureCapacityInternal", "(I)V"⟩
abbrev cJ5_newCapacity_0f7a4 : ByteArray := prog_11_method_10_code
def yJ5_newCapacity_0f7a4 : MethodName := ⟨RJ5, "newCapacity", "(I)I"⟩
abbrev cJ5_inflate_da8c8 : ByteArray := prog_11_method_11_code
def yJ5_inflate_da8c8 : MethodName := ⟨RJ5, "inflate", "()V"⟩
abbrev cJ5_setLength_d00df : ByteArray := prog_11_method_13_code
def yJ5_setLength_d00df : MethodName := ⟨RJ5, "setLength", "(I)V"⟩
abbrev cJ5_charAt_5068e : ByteArray := prog_11_method_14_code
def yJ5_charAt_5068e : MethodName := ⟨RJ5, "charAt", "(I)C"⟩
abbrev cJ5_append_cf1ce : ByteArray := prog_11_method_22_code
def yJ5_append_cf1ce : MethodName := ⟨RJ5, "append", "(Ljava/lang/String;)Ljava/lang/AbstractStringBuilder;"⟩
abbrev cJ5_appendNull_278bc : ByteArray := prog_11_method_26_code
def yJ5_appendNull_278bc : MethodName := ⟨RJ5, "appendNull", "()Ljava/lang/AbstractStringBuilder;"⟩
abbrev cJ5_append_3fe6f : ByteArray := prog_11_method_31_code
def yJ5_append_3fe6f : MethodName := ⟨RJ5, "append", "(C)Ljava/lang/AbstractStringBuilder;"⟩
abbrev cJ5_append_c97b9 : ByteArray := prog_11_method_32_code
def yJ5_append_c97b9 : MethodName := ⟨RJ5, "append", "(I)Ljava/lang/AbstractStringBuilder;"⟩
abbrev cJ5_getValue_6d5f1 : ByteArray := prog_11_method_64_code
def yJ5_getValue_6d5f1 : MethodName := ⟨RJ5, "getValue", "()[B"⟩
abbrev cJ5_isLatin1_aae02 : ByteArray := prog_11_method_68_code
def yJ5_isLatin1_aae02 : MethodName := ⟨RJ5, "isLatin1", "()Z"⟩
abbrev cJ5_inflateIfNeededFor_a7421 : ByteArray := prog_11_method_71_code
def yJ5_inflateIfNeededFor_a7421 : MethodName := ⟨RJ5, "inflateIfNeededFor", "(Ljava/lang/String;)V"⟩
abbrev cJ5_putStringAt_47b60 : ByteArray := prog_11_method_73_code
def yJ5_putStringAt_47b60 : MethodName := ⟨RJ5, "putStringAt", "(ILjava/lang/String;)V"⟩
def RJx2cfe8 : String := "java/lang/Appendable"
def TJx2cfe8 : u_T := fun k => match k with
  | _ => ("", "", "", false)
def tyJx2cfe8 : Nat → FieldType := fun k => match k with
  | _ => .int
abbrev wsJx2cfe80 : List Cond := u_ws RJx2cfe8 TJx2cfe8 0
theorem nmJx2cfe8 : ∀ a, a < 0 → ∀ b, b < 0 → a ≠ b → (TJx2cfe8 a).2.1 ≠ (TJx2cfe8 b).2.1 := by decide +kernel
theorem tyJx2cfe8_ok : ∀ k, k < 0 → parseFieldDescriptor (TJx2cfe8 k).2.2.1 = some (tyJx2cfe8 k) := by decide +kernel
def RJx00060 : String := "java/lang/ArrayIndexOutOfBoundsException"
def TJx00060 : u_T := fun k => match k with
  | 0 => ("java/lang/Throwable", "backtrace", "Ljava/lang/Object;", false)
  | 1 => ("java/lang/Throwable", "detailMessage", "Ljava/lang/String;", false)
  | 2 => ("java/lang/Throwable", "cause", "Ljava/lang/Throwable;", false)
  | 3 => ("java/lang/Throwable", "stackTrace", "[Ljava/lang/StackTraceElement;", false)
  | 4 => ("java/lang/Throwable", "depth", "I", false)
  | _ => ("java/lang/Throwable", "suppressedExceptions", "Ljava/util/List;", false)
def tyJx00060 : Nat → FieldType := fun k => match k with
  | 0 => .object "java/lang/Object"
  | 1 => .object "java/lang/String"
  | 2 => .object "java/lang/Throwable"
  | 3 => .array (.object "java/lang/StackTraceElement")
  | 4 => .int
  | _ => .object "java/util/List"
abbrev wsJx000600 : List Cond := u_ws RJx00060 TJx00060 6
theorem nmJx00060 : ∀ a, a < 6 → ∀ b, b < 6 → a ≠ b → (TJx00060 a).2.1 ≠ (TJx00060 b).2.1 := by decide +kernel
theorem tyJx00060_ok : ∀ k, k < 6 → parseFieldDescriptor (TJx00060 k).2.2.1 = some (tyJx00060 k) := by decide +kernel
abbrev cJx00060_init_a7421 : ByteArray := prog_14_method_2_code
def yJx00060_init_a7421 : MethodName := ⟨RJx00060, "<init>", "(Ljava/lang/String;)V"⟩
abbrev cJx00060_init_d00df : ByteArray := prog_14_method_3_code
def yJx00060_init_d00df : MethodName := ⟨RJx00060, "<init>", "(I)V"⟩
def RJx9f9b0 : String := "java/lang/CharSequence"
def TJx9f9b0 : u_T := fun k => match k with
  | _ => ("", "", "", false)
def tyJx9f9b0 : Nat → FieldType := fun k => match k with
  | _ => .int
abbrev wsJx9f9b00 : List Cond := u_ws RJx9f9b0 TJx9f9b0 0
theorem nmJx9f9b0 : ∀ a, a < 0 → ∀ b, b < 0 → a ≠ b → (TJx9f9b0 a).2.1 ≠ (TJx9f9b0 b).2.1 := by decide +kernel
theorem tyJx9f9b0_ok : ∀ k, k < 0 → parseFieldDescriptor (TJx9f9b0 k).2.2.1 = some (tyJx9f9b0 k) := by decide +kernel
def RJx8e188 : String := "java/lang/Cloneable"
def TJx8e188 : u_T := fun k => match k with
  | _ => ("", "", "", false)
def tyJx8e188 : Nat → FieldType := fun k => match k with
  | _ => .int
abbrev wsJx8e1880 : List Cond := u_ws RJx8e188 TJx8e188 0
theorem nmJx8e188 : ∀ a, a < 0 → ∀ b, b < 0 → a ≠ b → (TJx8e188 a).2.1 ≠ (TJx8e188 b).2.1 := by decide +kernel
theorem tyJx8e188_ok : ∀ k, k < 0 → parseFieldDescriptor (TJx8e188 k).2.2.1 = some (tyJx8e188 k) := by decide +kernel
def RJxb160c : String := "java/lang/Comparable"
def TJxb160c : u_T := fun k => match k with
  | _ => ("", "", "", false)
def tyJxb160c : Nat → FieldType := fun k => match k with
  | _ => .int
abbrev wsJxb160c0 : List Cond := u_ws RJxb160c TJxb160c 0
theorem nmJxb160c : ∀ a, a < 0 → ∀ b, b < 0 → a ≠ b → (TJxb160c a).2.1 ≠ (TJxb160c b).2.1 := by decide +kernel
theorem tyJxb160c_ok : ∀ k, k < 0 → parseFieldDescriptor (TJxb160c k).2.2.1 = some (tyJxb160c k) := by decide +kernel
def RJ6 : String := "java/lang/Integer"
def TJ6 : u_T := fun k => match k with
  | _ => ("", "", "", false)
def tyJ6 : Nat → FieldType := fun k => match k with
  | _ => .int
abbrev wsJ60 : List Cond := u_ws RJ6 TJ6 0
theorem nmJ6 : ∀ a, a < 0 → ∀ b, b < 0 → a ≠ b → (TJ6 a).2.1 ≠ (TJ6 b).2.1 := by decide +kernel
theorem tyJ6_ok : ∀ k, k < 0 → parseFieldDescriptor (TJ6 k).2.2.1 = some (tyJ6 k) := by decide +kernel
abbrev cJ6_getChars_ba4f3 : ByteArray := prog_22_method_12_code
def yJ6_getChars_ba4f3 : MethodName := ⟨RJ6, "getChars", "(II[B)I"⟩
abbrev cJ6_stringSize_0f7a4 : ByteArray := prog_22_method_13_code
def yJ6_stringSize_0f7a4 : MethodName := ⟨RJ6, "stringSize", "(I)I"⟩
abbrev cJ6_bitCount_0f7a4 : ByteArray := prog_22_method_49_code
def yJ6_bitCount_0f7a4 : MethodName := ⟨RJ6, "bitCount", "(I)I"⟩
def RJ9 : String := "java/lang/Math"
def TJ9 : u_T := fun k => match k with
  | _ => ("", "", "", false)
def tyJ9 : Nat → FieldType := fun k => match k with
  | _ => .int
abbrev wsJ90 : List Cond := u_ws RJ9 TJ9 0
theorem nmJ9 : ∀ a, a < 0 → ∀ b, b < 0 → a ≠ b → (TJ9 a).2.1 ≠ (TJ9 b).2.1 := by decide +kernel
theorem tyJ9_ok : ∀ k, k < 0 → parseFieldDescriptor (TJ9 k).2.2.1 = some (tyJ9 k) := by decide +kernel
abbrev cJ9_max_7cf53 : ByteArray := prog_23_method_65_code
def yJ9_max_7cf53 : MethodName := ⟨RJ9, "max", "(II)I"⟩
abbrev cJ9_min_7cf53 : ByteArray := prog_23_method_69_code
def yJ9_min_7cf53 : MethodName := ⟨RJ9, "min", "(II)I"⟩
def RJxd2413 : String := "java/lang/Number"
def TJxd2413 : u_T := fun k => match k with
  | _ => ("", "", "", false)
def tyJxd2413 : Nat → FieldType := fun k => match k with
  | _ => .int
abbrev wsJxd24130 : List Cond := u_ws RJxd2413 TJxd2413 0
theorem nmJxd2413 : ∀ a, a < 0 → ∀ b, b < 0 → a ≠ b → (TJxd2413 a).2.1 ≠ (TJxd2413 b).2.1 := by decide +kernel
theorem tyJxd2413_ok : ∀ k, k < 0 → parseFieldDescriptor (TJxd2413 k).2.2.1 = some (tyJxd2413 k) := by decide +kernel
def RJ0 : String := "java/lang/String"
def TJ0 : u_T := fun k => match k with
  | 0 => ("java/lang/String", "value", "[B", true)
  | 1 => ("java/lang/String", "coder", "B", true)
  | 2 => ("java/lang/String", "hash", "I", false)
  | _ => ("java/lang/String", "hashIsZero", "Z", false)
def tyJ0 : Nat → FieldType := fun k => match k with
  | 0 => .array .byte
  | 1 => .byte
  | 2 => .int
  | _ => .boolean
abbrev wsJ00 : List Cond := u_ws RJ0 TJ0 4
theorem nmJ0 : ∀ a, a < 4 → ∀ b, b < 4 → a ≠ b → (TJ0 a).2.1 ≠ (TJ0 b).2.1 := by decide +kernel
theorem tyJ0_ok : ∀ k, k < 4 → parseFieldDescriptor (TJ0 k).2.2.1 = some (tyJ0 k) := by decide +kernel
abbrev cJ0_init_81219 : ByteArray := prog_26_method_53_code
def yJ0_init_81219 : MethodName := ⟨RJ0, "<init>", "(Ljava/lang/StringBuilder;)V"⟩
abbrev cJ0_length_8abf5 : ByteArray := prog_26_method_54_code
def yJ0_length_8abf5 : MethodName := ⟨RJ0, "length", "()I"⟩
abbrev cJ0_charAt_5068e : ByteArray := prog_26_method_56_code
def yJ0_charAt_5068e : MethodName := ⟨RJ0, "charAt", "(I)C"⟩
abbrev cJ0_equals_9ea2d : ByteArray := prog_26_method_66_code
def yJ0_equals_9ea2d : MethodName := ⟨RJ0, "equals", "(Ljava/lang/Object;)Z"⟩
abbrev cJ0_getBytes_840e7 : ByteArray := prog_26_method_147_code
def yJ0_getBytes_840e7 : MethodName := ⟨RJ0, "getBytes", "([BIB)V"⟩
abbrev cJ0_init_db425 : ByteArray := prog_26_method_150_code
def yJ0_init_db425 : MethodName := ⟨RJ0, "<init>", "(Ljava/lang/AbstractStringBuilder;Ljava/lang/Void;)V"⟩
abbrev cJ0_coder_7d493 : ByteArray := prog_26_method_152_code
def yJ0_coder_7d493 : MethodName := ⟨RJ0, "coder", "()B"⟩
abbrev cJ0_isLatin1_aae02 : ByteArray := prog_26_method_154_code
def yJ0_isLatin1_aae02 : MethodName := ⟨RJ0, "isLatin1", "()Z"⟩
abbrev cJ0_checkIndex_df160 : ByteArray := prog_26_method_155_code
def yJ0_checkIndex_df160 : MethodName := ⟨RJ0, "checkIndex", "(II)V"⟩
abbrev cJ0_checkBoundsOffCount_cabcc : ByteArray := prog_26_method_157_code
def yJ0_checkBoundsOffCount_cabcc : MethodName := ⟨RJ0, "checkBoundsOffCount", "(III)I"⟩
abbrev cJ0_checkBoundsBeginEnd_23922 : ByteArray := prog_26_method_158_code
def yJ0_checkBoundsBeginEnd_23922 : MethodName := ⟨RJ0, "checkBoundsBeginEnd", "(III)V"⟩
def RJ4 : String := "java/lang/StringBuilder"
def TJ4 : u_T := fun k => match k with
  | 0 => ("java/lang/AbstractStringBuilder", "value", "[B", false)
  | 1 => ("java/lang/AbstractStringBuilder", "coder", "B", false)
  | 2 => ("java/lang/AbstractStringBuilder", "maybeLatin1", "Z", false)
  | _ => ("java/lang/AbstractStringBuilder", "count", "I", false)
def tyJ4 : Nat → FieldType := fun k => match k with
  | 0 => .array .byte
  | 1 => .byte
  | 2 => .boolean
  | _ => .int
abbrev wsJ40 : List Cond := u_ws RJ4 TJ4 4
theorem nmJ4 : ∀ a, a < 4 → ∀ b, b < 4 → a ≠ b → (TJ4 a).2.1 ≠ (TJ4 b).2.1 := by decide +kernel
theorem tyJ4_ok : ∀ k, k < 4 → parseFieldDescriptor (TJ4 k).2.2.1 = some (tyJ4 k) := by decide +kernel
abbrev cJ4_init_da8c8 : ByteArray := prog_27_method_1_code
def yJ4_init_da8c8 : MethodName := ⟨RJ4, "<init>", "()V"⟩
abbrev cJ4_init_a7421 : ByteArray := prog_27_method_3_code
def yJ4_init_a7421 : MethodName := ⟨RJ4, "<init>", "(Ljava/lang/String;)V"⟩
abbrev cJ4_append_15ec4 : ByteArray := prog_27_method_7_code
def yJ4_append_15ec4 : MethodName := ⟨RJ4, "append", "(Ljava/lang/String;)Ljava/lang/StringBuilder;"⟩
abbrev cJ4_append_cf468 : ByteArray := prog_27_method_14_code
def yJ4_append_cf468 : MethodName := ⟨RJ4, "append", "(C)Ljava/lang/StringBuilder;"⟩
abbrev cJ4_append_bf812 : ByteArray := prog_27_method_15_code
def yJ4_append_bf812 : MethodName := ⟨RJ4, "append", "(I)Ljava/lang/StringBuilder;"⟩
abbrev cJ4_toString_0e30d : ByteArray := prog_27_method_42_code
def yJ4_toString_0e30d : MethodName := ⟨RJ4, "toString", "()Ljava/lang/String;"⟩
abbrev cJ4_append_cf1ce : ByteArray := prog_27_method_80_code
def yJ4_append_cf1ce : MethodName := ⟨RJ4, "append", "(Ljava/lang/String;)Ljava/lang/AbstractStringBuilder;"⟩
abbrev cJ4_charAt_5068e : ByteArray := prog_27_method_88_code
def yJ4_charAt_5068e : MethodName := ⟨RJ4, "charAt", "(I)C"⟩
abbrev cJ4_setLength_d00df : ByteArray := prog_27_method_89_code
def yJ4_setLength_d00df : MethodName := ⟨RJ4, "setLength", "(I)V"⟩
abbrev cJ4_length_8abf5 : ByteArray := prog_27_method_93_code
def yJ4_length_8abf5 : MethodName := ⟨RJ4, "length", "()I"⟩
def RJx7c733 : String := "java/lang/StringIndexOutOfBoundsException"
def TJx7c733 : u_T := fun k => match k with
  | 0 => ("java/lang/Throwable", "backtrace", "Ljava/lang/Object;", false)
  | 1 => ("java/lang/Throwable", "detailMessage", "Ljava/lang/String;", false)
  | 2 => ("java/lang/Throwable", "cause", "Ljava/lang/Throwable;", false)
  | 3 => ("java/lang/Throwable", "stackTrace", "[Ljava/lang/StackTraceElement;", false)
  | 4 => ("java/lang/Throwable", "depth", "I", false)
  | _ => ("java/lang/Throwable", "suppressedExceptions", "Ljava/util/List;", false)
def tyJx7c733 : Nat → FieldType := fun k => match k with
  | 0 => .object "java/lang/Object"
  | 1 => .object "java/lang/String"
  | 2 => .object "java/lang/Throwable"
  | 3 => .array (.object "java/lang/StackTraceElement")
  | 4 => .int
  | _ => .object "java/util/List"
abbrev wsJx7c7330 : List Cond := u_ws RJx7c733 TJx7c733 6
theorem nmJx7c733 : ∀ a, a < 6 → ∀ b, b < 6 → a ≠ b → (TJx7c733 a).2.1 ≠ (TJx7c733 b).2.1 := by decide +kernel
theorem tyJx7c733_ok : ∀ k, k < 6 → parseFieldDescriptor (TJx7c733 k).2.2.1 = some (tyJx7c733 k) := by decide +kernel
abbrev cJx7c733_init_d00df : ByteArray := prog_28_method_3_code
def yJx7c733_init_d00df : MethodName := ⟨RJx7c733, "<init>", "(I)V"⟩
def RJ1 : String := "java/lang/StringLatin1"
def TJ1 : u_T := fun k => match k with
  | _ => ("", "", "", false)
def tyJ1 : Nat → FieldType := fun k => match k with
  | _ => .int
abbrev wsJ10 : List Cond := u_ws RJ1 TJ1 0
theorem nmJ1 : ∀ a, a < 0 → ∀ b, b < 0 → a ≠ b → (TJ1 a).2.1 ≠ (TJ1 b).2.1 := by decide +kernel
theorem tyJ1_ok : ∀ k, k < 0 → parseFieldDescriptor (TJ1 k).2.2.1 = some (tyJ1 k) := by decide +kernel
abbrev cJ1_charAt_3b067 : ByteArray := prog_29_method_2_code
def yJ1_charAt_3b067 : MethodName := ⟨RJ1, "charAt", "([BI)C"⟩
abbrev cJ1_canEncode_fc78d : ByteArray := prog_29_method_3_code
def yJ1_canEncode_fc78d : MethodName := ⟨RJ1, "canEncode", "(C)Z"⟩
abbrev cJ1_equals_b5fdf : ByteArray := prog_29_method_13_code
def yJ1_equals_b5fdf : MethodName := ⟨RJ1, "equals", "([B[B)Z"⟩
abbrev cJ1_fillNull_b72d1 : ByteArray := prog_29_method_48_code
def yJ1_fillNull_b72d1 : MethodName := ⟨RJ1, "fillNull", "([BII)V"⟩
abbrev cJ1_inflate_0e8fd : ByteArray := prog_29_method_50_code
def yJ1_inflate_0e8fd : MethodName := ⟨RJ1, "inflate", "([BI[BII)V"⟩
def RJ2 : String := "java/lang/StringUTF16"
def TJ2 : u_T := fun k => match k with
  | _ => ("", "", "", false)
def tyJ2 : Nat → FieldType := fun k => match k with
  | _ => .int
abbrev wsJ20 : List Cond := u_ws RJ2 TJ2 0
theorem nmJ2 : ∀ a, a < 0 → ∀ b, b < 0 → a ≠ b → (TJ2 a).2.1 ≠ (TJ2 b).2.1 := by decide +kernel
theorem tyJ2_ok : ∀ k, k < 0 → parseFieldDescriptor (TJ2 k).2.2.1 = some (tyJ2 k) := by decide +kernel
abbrev cJ2_newBytesFor_77867 : ByteArray := prog_30_method_2_code
def yJ2_newBytesFor_77867 : MethodName := ⟨RJ2, "newBytesFor", "(I)[B"⟩
abbrev cJ2_newBytesLength_0f7a4 : ByteArray := prog_30_method_3_code
def yJ2_newBytesLength_0f7a4 : MethodName := ⟨RJ2, "newBytesLength", "(I)I"⟩
abbrev cJ2_putChar_b72d1 : ByteArray := prog_30_method_4_code
def yJ2_putChar_b72d1 : MethodName := ⟨RJ2, "putChar", "([BII)V"⟩
abbrev cJ2_getChar_3b067 : ByteArray := prog_30_method_5_code
def yJ2_getChar_3b067 : MethodName := ⟨RJ2, "getChar", "([BI)C"⟩
abbrev cJ2_length_9d52b : ByteArray := prog_30_method_6_code
def yJ2_length_9d52b : MethodName := ⟨RJ2, "length", "([B)I"⟩
abbrev cJ2_coderFromArrayLen_85cad : ByteArray := prog_30_method_15_code
def yJ2_coderFromArrayLen_85cad : MethodName := ⟨RJ2, "coderFromArrayLen", "([BI)B"⟩
abbrev cJ2_compress_39247 : ByteArray := prog_30_method_17_code
def yJ2_compress_39247 : MethodName := ⟨RJ2, "compress", "([BII)[B"⟩
abbrev cJ2_compress_5af95 : ByteArray := prog_30_method_22_code
def yJ2_compress_5af95 : MethodName := ⟨RJ2, "compress", "([BI[BII)I"⟩
abbrev cJ2_fillNull_b72d1 : ByteArray := prog_30_method_70_code
def yJ2_fillNull_b72d1 : MethodName := ⟨RJ2, "fillNull", "([BII)V"⟩
abbrev cJ2_putCharSB_b72d1 : ByteArray := prog_30_method_71_code
def yJ2_putCharSB_b72d1 : MethodName := ⟨RJ2, "putCharSB", "([BII)V"⟩
abbrev cJ2_getChars_46870 : ByteArray := prog_30_method_77_code
def yJ2_getChars_46870 : MethodName := ⟨RJ2, "getChars", "(III[B)I"⟩
abbrev cJ2_putCharsAt_cd4e5 : ByteArray := prog_30_method_81_code
def yJ2_putCharsAt_cd4e5 : MethodName := ⟨RJ2, "putCharsAt", "([BICCCC)I"⟩
abbrev cJ2_charAt_3b067 : ByteArray := prog_30_method_83_code
def yJ2_charAt_3b067 : MethodName := ⟨RJ2, "charAt", "([BI)C"⟩
abbrev cJ2_inflate_0e8fd : ByteArray := prog_30_method_86_code
def yJ2_inflate_0e8fd : MethodName := ⟨RJ2, "inflate", "([BI[BII)V"⟩
abbrev cJ2_getChars_ba4f3 : ByteArray := prog_30_method_89_code
def yJ2_getChars_ba4f3 : MethodName := ⟨RJ2, "getChars", "(II[B)I"⟩
abbrev cJ2_checkIndex_2214a : ByteArray := prog_30_method_91_code
def yJ2_checkIndex_2214a : MethodName := ⟨RJ2, "checkIndex", "(I[B)V"⟩
abbrev cJ2_checkBoundsBeginEnd_d044e : ByteArray := prog_30_method_93_code
def yJ2_checkBoundsBeginEnd_d044e : MethodName := ⟨RJ2, "checkBoundsBeginEnd", "(II[B)V"⟩
abbrev cJ2_checkBoundsOffCount_d044e : ByteArray := prog_30_method_94_code
def yJ2_checkBoundsOffCount_d044e : MethodName := ⟨RJ2, "checkBoundsOffCount", "(II[B)V"⟩
def RJ10 : String := "java/lang/System"
def TJ10 : u_T := fun k => match k with
  | _ => ("", "", "", false)
def tyJ10 : Nat → FieldType := fun k => match k with
  | _ => .int
abbrev wsJ100 : List Cond := u_ws RJ10 TJ10 0
theorem nmJ10 : ∀ a, a < 0 → ∀ b, b < 0 → a ≠ b → (TJ10 a).2.1 ≠ (TJ10 b).2.1 := by decide +kernel
theorem tyJ10_ok : ∀ k, k < 0 → parseFieldDescriptor (TJ10 k).2.2.1 = some (tyJ10 k) := by decide +kernel
def RJxfd54e : String := "java/lang/constant/Constable"
def TJxfd54e : u_T := fun k => match k with
  | _ => ("", "", "", false)
def tyJxfd54e : Nat → FieldType := fun k => match k with
  | _ => .int
abbrev wsJxfd54e0 : List Cond := u_ws RJxfd54e TJxfd54e 0
theorem nmJxfd54e : ∀ a, a < 0 → ∀ b, b < 0 → a ≠ b → (TJxfd54e a).2.1 ≠ (TJxfd54e b).2.1 := by decide +kernel
theorem tyJxfd54e_ok : ∀ k, k < 0 → parseFieldDescriptor (TJxfd54e k).2.2.1 = some (tyJxfd54e k) := by decide +kernel
def RJx3cf43 : String := "java/lang/constant/ConstantDesc"
def TJx3cf43 : u_T := fun k => match k with
  | _ => ("", "", "", false)
def tyJx3cf43 : Nat → FieldType := fun k => match k with
  | _ => .int
abbrev wsJx3cf430 : List Cond := u_ws RJx3cf43 TJx3cf43 0
theorem nmJx3cf43 : ∀ a, a < 0 → ∀ b, b < 0 → a ≠ b → (TJx3cf43 a).2.1 ≠ (TJx3cf43 b).2.1 := by decide +kernel
theorem tyJx3cf43_ok : ∀ k, k < 0 → parseFieldDescriptor (TJx3cf43 k).2.2.1 = some (tyJx3cf43 k) := by decide +kernel
def RJ7 : String := "java/util/Arrays"
def TJ7 : u_T := fun k => match k with
  | _ => ("", "", "", false)
def tyJ7 : Nat → FieldType := fun k => match k with
  | _ => .int
abbrev wsJ70 : List Cond := u_ws RJ7 TJ7 0
theorem nmJ7 : ∀ a, a < 0 → ∀ b, b < 0 → a ≠ b → (TJ7 a).2.1 ≠ (TJ7 b).2.1 := by decide +kernel
theorem tyJ7_ok : ∀ k, k < 0 → parseFieldDescriptor (TJ7 k).2.2.1 = some (tyJ7 k) := by decide +kernel
abbrev cJ7_rangeCheck_23922 : ByteArray := prog_35_method_30_code
def yJ7_rangeCheck_23922 : MethodName := ⟨RJ7, "rangeCheck", "(III)V"⟩
abbrev cJ7_fill_eb02e : ByteArray := prog_35_method_110_code
def yJ7_fill_eb02e : MethodName := ⟨RJ7, "fill", "([BIIB)V"⟩
abbrev cJ7_copyOf_9075b : ByteArray := prog_35_method_121_code
def yJ7_copyOf_9075b : MethodName := ⟨RJ7, "copyOf", "([BI)[B"⟩
abbrev cJ7_checkLength_df160 : ByteArray := prog_35_method_131_code
def yJ7_checkLength_df160 : MethodName := ⟨RJ7, "checkLength", "(II)V"⟩
abbrev cJ7_copyOfRange_39247 : ByteArray := prog_35_method_132_code
def yJ7_copyOfRange_39247 : MethodName := ⟨RJ7, "copyOfRange", "([BII)[B"⟩
abbrev cJ7_copyOfRangeByte_39247 : ByteArray := prog_35_method_133_code
def yJ7_copyOfRangeByte_39247 : MethodName := ⟨RJ7, "copyOfRangeByte", "([BII)[B"⟩
def RJ8 : String := "jdk/internal/util/ArraysSupport"
def TJ8 : u_T := fun k => match k with
  | _ => ("", "", "", false)
def tyJ8 : Nat → FieldType := fun k => match k with
  | _ => .int
abbrev wsJ80 : List Cond := u_ws RJ8 TJ8 0
theorem nmJ8 : ∀ a, a < 0 → ∀ b, b < 0 → a ≠ b → (TJ8 a).2.1 ≠ (TJ8 b).2.1 := by decide +kernel
theorem tyJ8_ok : ∀ k, k < 0 → parseFieldDescriptor (TJ8 k).2.2.1 = some (tyJ8 k) := by decide +kernel
abbrev cJ8_newLength_cabcc : ByteArray := prog_37_method_27_code
def yJ8_newLength_cabcc : MethodName := ⟨RJ8, "newLength", "(III)I"⟩
abbrev cJ8_hugeLength_7cf53 : ByteArray := prog_37_method_28_code
def yJ8_hugeLength_7cf53 : MethodName := ⟨RJ8, "hugeLength", "(II)I"⟩
def RJ3 : String := "jdk/internal/util/Preconditions"
def TJ3 : u_T := fun k => match k with
  | _ => ("", "", "", false)
def tyJ3 : Nat → FieldType := fun k => match k with
  | _ => .int
abbrev wsJ30 : List Cond := u_ws RJ3 TJ3 0
theorem nmJ3 : ∀ a, a < 0 → ∀ b, b < 0 → a ≠ b → (TJ3 a).2.1 ≠ (TJ3 b).2.1 := by decide +kernel
theorem tyJ3_ok : ∀ k, k < 0 → parseFieldDescriptor (TJ3 k).2.2.1 = some (tyJ3 k) := by decide +kernel
abbrev cJ3_checkIndex_8e157 : ByteArray := prog_38_method_11_code
def yJ3_checkIndex_8e157 : MethodName := ⟨RJ3, "checkIndex", "(IILjava/util/function/BiFunction;)I"⟩
abbrev cJ3_checkFromToIndex_8c36e : ByteArray := prog_38_method_12_code
def yJ3_checkFromToIndex_8c36e : MethodName := ⟨RJ3, "checkFromToIndex", "(IIILjava/util/function/BiFunction;)I"⟩
abbrev cJ3_checkFromIndexSize_8c36e : ByteArray := prog_38_method_13_code
def yJ3_checkFromIndexSize_8c36e : MethodName := ⟨RJ3, "checkFromIndexSize", "(IIILjava/util/function/BiFunction;)I"⟩
def RL : String := "RumourHivesLaw"
abbrev cL_cell : ByteArray := method_2_code
def yL_cell : MethodName := ⟨RL, "cell", "([II)I"⟩
abbrev cL_addListener : ByteArray := method_3_code
def yL_addListener : MethodName := ⟨RL, "addListener", "(LRumourHives;II)I"⟩
abbrev cL_link : ByteArray := method_4_code
def yL_link : MethodName := ⟨RL, "link", "(LRumourHives;II)I"⟩
abbrev cL_unlink : ByteArray := method_5_code
def yL_unlink : MethodName := ⟨RL, "unlink", "(LRumourHives;II)I"⟩
abbrev cL_moveListener : ByteArray := method_6_code
def yL_moveListener : MethodName := ⟨RL, "moveListener", "(LRumourHives;II)I"⟩
abbrev cL_startRumour : ByteArray := method_7_code
def yL_startRumour : MethodName := ⟨RL, "startRumour", "(LRumourHives;II)I"⟩
abbrev cL_check : ByteArray := method_8_code
def yL_check : MethodName := ⟨RL, "check", "(LRumourHives;II)I"⟩
abbrev cL_deny : ByteArray := method_9_code
def yL_deny : MethodName := ⟨RL, "deny", "(LRumourHives;I)I"⟩
abbrev cL_answer : ByteArray := method_10_code
def yL_answer : MethodName := ⟨RL, "answer", "(LRumourHives;II)I"⟩
abbrev cL_advance : ByteArray := method_11_code
def yL_advance : MethodName := ⟨RL, "advance", "(LRumourHives;I)I"⟩
abbrev cL_hive : ByteArray := method_12_code
def yL_hive : MethodName := ⟨RL, "hive", "(LRumourHives;I)I"⟩
abbrev cL_doubt : ByteArray := method_13_code
def yL_doubt : MethodName := ⟨RL, "doubt", "(LRumourHives;I)I"⟩
abbrev cL_isLinked : ByteArray := method_14_code
def yL_isLinked : MethodName := ⟨RL, "isLinked", "(LRumourHives;II)I"⟩
abbrev cL_neighbourCount : ByteArray := method_15_code
def yL_neighbourCount : MethodName := ⟨RL, "neighbourCount", "(LRumourHives;I)I"⟩
abbrev cL_hiveSize : ByteArray := method_16_code
def yL_hiveSize : MethodName := ⟨RL, "hiveSize", "(LRumourHives;I)I"⟩
abbrev cL_strength : ByteArray := method_17_code
def yL_strength : MethodName := ⟨RL, "strength", "(LRumourHives;I)I"⟩
abbrev cL_isAlive : ByteArray := method_18_code
def yL_isAlive : MethodName := ⟨RL, "isAlive", "(LRumourHives;I)I"⟩
abbrev cL_starter : ByteArray := method_19_code
def yL_starter : MethodName := ⟨RL, "starter", "(LRumourHives;I)I"⟩
abbrev cL_isSpreader : ByteArray := method_20_code
def yL_isSpreader : MethodName := ⟨RL, "isSpreader", "(LRumourHives;II)I"⟩
abbrev cL_isSceptic : ByteArray := method_21_code
def yL_isSceptic : MethodName := ⟨RL, "isSceptic", "(LRumourHives;II)I"⟩
abbrev cL_heardRound : ByteArray := method_22_code
def yL_heardRound : MethodName := ⟨RL, "heardRound", "(LRumourHives;II)I"⟩
abbrev cL_spreaderCount : ByteArray := method_23_code
def yL_spreaderCount : MethodName := ⟨RL, "spreaderCount", "(LRumourHives;I)I"⟩
abbrev cL_scepticCount : ByteArray := method_24_code
def yL_scepticCount : MethodName := ⟨RL, "scepticCount", "(LRumourHives;I)I"⟩
abbrev cL_countedHive : ByteArray := method_25_code
def yL_countedHive : MethodName := ⟨RL, "countedHive", "(LRumourHives;I)I"⟩
abbrev cL_spreadersInHive : ByteArray := method_26_code
def yL_spreadersInHive : MethodName := ⟨RL, "spreadersInHive", "(LRumourHives;II)I"⟩
abbrev cL_distance : ByteArray := method_27_code
def yL_distance : MethodName := ⟨RL, "distance", "(LRumourHives;II)I"⟩
abbrev cL_distanceByRelaxation : ByteArray := method_28_code
def yL_distanceByRelaxation : MethodName := ⟨RL, "distanceByRelaxation", "(LRumourHives;II)I"⟩
abbrev cL_nextSpreaders : ByteArray := method_29_code
def yL_nextSpreaders : MethodName := ⟨RL, "nextSpreaders", "(LRumourHives;I)I"⟩
abbrev cL_roundsUntilHeard : ByteArray := method_30_code
def yL_roundsUntilHeard : MethodName := ⟨RL, "roundsUntilHeard", "(LRumourHives;II)I"⟩
abbrev cL_spreadersAfter : ByteArray := method_31_code
def yL_spreadersAfter : MethodName := ⟨RL, "spreadersAfter", "(LRumourHives;II)I"⟩
abbrev cL_rumourBySpread : ByteArray := method_32_code
def yL_rumourBySpread : MethodName := ⟨RL, "rumourBySpread", "(LRumourHives;I)I"⟩
abbrev cL_listenerByGossip : ByteArray := method_33_code
def yL_listenerByGossip : MethodName := ⟨RL, "listenerByGossip", "(LRumourHives;I)I"⟩
abbrev cL_meanDoubt : ByteArray := method_34_code
def yL_meanDoubt : MethodName := ⟨RL, "meanDoubt", "(LRumourHives;)D"⟩
abbrev cL_gossipShare : ByteArray := method_35_code
def yL_gossipShare : MethodName := ⟨RL, "gossipShare", "(LRumourHives;)F"⟩
abbrev cL_renderRumour : ByteArray := method_36_code
def yL_renderRumour : MethodName := ⟨RL, "renderRumour", "(LRumourHives;I)I"⟩
abbrev cL_renderHive : ByteArray := method_37_code
def yL_renderHive : MethodName := ⟨RL, "renderHive", "(LRumourHives;I)I"⟩
abbrev cL_outputAt : ByteArray := method_38_code
def yL_outputAt : MethodName := ⟨RL, "outputAt", "(LRumourHives;I)I"⟩
abbrev cL_type : ByteArray := method_39_code
def yL_type : MethodName := ⟨RL, "type", "(LRumourHives;C)I"⟩
abbrev cL_runScript : ByteArray := method_40_code
def yL_runScript : MethodName := ⟨RL, "runScript", "(LRumourHives;)I"⟩
abbrev cL_errorPosition : ByteArray := method_41_code
def yL_errorPosition : MethodName := ⟨RL, "errorPosition", "(LRumourHives;)I"⟩
abbrev cL_failedCommand : ByteArray := method_42_code
def yL_failedCommand : MethodName := ⟨RL, "failedCommand", "(LRumourHives;)I"⟩
abbrev cL_undo : ByteArray := method_43_code
def yL_undo : MethodName := ⟨RL, "undo", "(LRumourHives;)I"⟩
abbrev cL_restore : ByteArray := method_44_code
def yL_restore : MethodName := ⟨RL, "restore", "(LRumourHives;)I"⟩
abbrev cL_said : ByteArray := method_45_code
def yL_said : MethodName := ⟨RL, "said", "(LRumourHives;I)Ljava/lang/String;"⟩
abbrev cL_some : ByteArray := method_47_code
def yL_some : MethodName := ⟨RL, "some", "(LRumourHivesLaw$Bits;I)I"⟩
abbrev cL_acts : ByteArray := method_48_code
def yL_acts : MethodName := ⟨RL, "acts", "(LRumourHives;ILRumourHivesLaw$Bits;)I"⟩
abbrev cL_told : ByteArray := method_49_code
def yL_told : MethodName := ⟨RL, "told", "(LRumourHives;)Ljava/lang/String;"⟩
abbrev cL_stock : ByteArray := method_50_code
def yL_stock : MethodName := ⟨RL, "stock", "(LRumourHives;)I"⟩
abbrev cL_listeners : ByteArray := method_51_code
def yL_listeners : MethodName := ⟨RL, "listeners", "(LRumourHives;)Z"⟩
abbrev cL_gossip : ByteArray := method_52_code
def yL_gossip : MethodName := ⟨RL, "gossip", "(LRumourHives;I)I"⟩
abbrev cL_rumours : ByteArray := method_53_code
def yL_rumours : MethodName := ⟨RL, "rumours", "(LRumourHives;)Z"⟩
abbrev cL_distances : ByteArray := method_54_code
def yL_distances : MethodName := ⟨RL, "distances", "(LRumourHives;I)Z"⟩
abbrev cL_foretold : ByteArray := method_55_code
def yL_foretold : MethodName := ⟨RL, "foretold", "(LRumourHives;LRumourHivesLaw$Bits;)Z"⟩
abbrev cL_law : ByteArray := code
def yL_law : MethodName := ⟨RL, "law", "([I)Z"⟩
abbrev vwCl : List vw_C := [(RJ0, TJ0, 4), (RJ4, TJ4, 4), (RJx00060, TJx00060, 6), (RJx7c733, TJx7c733, 6), (RX0, TX0, 3), (RX1, TX1, 5), (RX2, TX2, 6), (RX3, TX3, 8), (RX4, TX4, 11), (RX5, TX5, 10), (RX6, TX6, 1)]
theorem dX0_init_0 : decode cX0_init 0 = .ok (.aload_n 0, 1) := by decide +kernel
theorem dX0_init_1 : decode cX0_init 1 = .ok (.invokespecial 3, 3) := by decide +kernel
theorem dX0_init_4 : decode cX0_init 4 = .ok (.aload_n 0, 1) := by decide +kernel
theorem dX0_init_5 : decode cX0_init 5 = .ok (.bipush 8, 2) := by decide +kernel
theorem dX0_init_7 : decode cX0_init 7 = .ok (.anewarray 9, 3) := by decide +kernel
theorem dX0_init_10 : decode cX0_init 10 = .ok (.putfield 11, 3) := by decide +kernel
theorem dX0_init_13 : decode cX0_init 13 = .ok (.aload_n 0, 1) := by decide +kernel
theorem dX0_init_14 : decode cX0_init 14 = .ok (.iconst 0, 1) := by decide +kernel
theorem dX0_init_15 : decode cX0_init 15 = .ok (.putfield 17, 3) := by decide +kernel
theorem dX0_init_18 : decode cX0_init 18 = .ok (.aload_n 0, 1) := by decide +kernel
theorem dX0_init_19 : decode cX0_init 19 = .ok (.iconst 0, 1) := by decide +kernel
theorem dX0_init_20 : decode cX0_init 20 = .ok (.putfield 21, 3) := by decide +kernel
theorem dX0_init_23 : decode cX0_init 23 = .ok (.iconst 0, 1) := by decide +kernel
theorem dX0_init_24 : decode cX0_init 24 = .ok (.istore_n 1, 1) := by decide +kernel
theorem dX0_init_25 : decode cX0_init 25 = .ok (.iload_n 1, 1) := by decide +kernel
theorem dX0_init_26 : decode cX0_init 26 = .ok (.bipush 8, 2) := by decide +kernel
theorem dX0_init_28 : decode cX0_init 28 = .ok (.if_icmp .ge 22, 3) := by decide +kernel
theorem dX0_init_31 : decode cX0_init 31 = .ok (.aload_n 0, 1) := by decide +kernel
theorem dX0_init_32 : decode cX0_init 32 = .ok (.getfield 11, 3) := by decide +kernel
theorem dX0_init_35 : decode cX0_init 35 = .ok (.iload_n 1, 1) := by decide +kernel
theorem dX0_init_36 : decode cX0_init 36 = .ok (.new 9, 3) := by decide +kernel
theorem dX0_init_39 : decode cX0_init 39 = .ok (.dup, 1) := by decide +kernel
theorem dX0_init_40 : decode cX0_init 40 = .ok (.invokespecial 24, 3) := by decide +kernel
theorem dX0_init_43 : decode cX0_init 43 = .ok (.aastore, 1) := by decide +kernel
theorem dX0_init_44 : decode cX0_init 44 = .ok (.iinc 1 1, 3) := by decide +kernel
theorem dX0_init_47 : decode cX0_init 47 = .ok (.goto (-22), 3) := by decide +kernel
theorem dX0_init_50 : decode cX0_init 50 = .ok (.return_, 1) := by decide +kernel
theorem dX0_keep_0 : decode cX0_keep 0 = .ok (.aload_n 0, 1) := by decide +kernel
theorem dX0_keep_1 : decode cX0_keep 1 = .ok (.getfield 11, 3) := by decide +kernel
theorem dX0_keep_4 : decode cX0_keep 4 = .ok (.aload_n 0, 1) := by decide +kernel
theorem dX0_keep_5 : decode cX0_keep 5 = .ok (.getfield 21, 3) := by decide +kernel
theorem dX0_keep_8 : decode cX0_keep 8 = .ok (.aaload, 1) := by decide +kernel
theorem dX0_keep_9 : decode cX0_keep 9 = .ok (.aload_n 1, 1) := by decide +kernel
theorem dX0_keep_10 : decode cX0_keep 10 = .ok (.invokevirtual 25, 3) := by decide +kernel
theorem dX0_keep_13 : decode cX0_keep 13 = .ok (.aload_n 0, 1) := by decide +kernel
theorem dX0_keep_14 : decode cX0_keep 14 = .ok (.aload_n 0, 1) := by decide +kernel
theorem dX0_keep_15 : decode cX0_keep 15 = .ok (.getfield 21, 3) := by decide +kernel
theorem dX0_keep_18 : decode cX0_keep 18 = .ok (.iconst 1, 1) := by decide +kernel
theorem dX0_keep_19 : decode cX0_keep 19 = .ok (.iadd, 1) := by decide +kernel
theorem dX0_keep_20 : decode cX0_keep 20 = .ok (.bipush 8, 2) := by decide +kernel
theorem dX0_keep_22 : decode cX0_keep 22 = .ok (.irem, 1) := by decide +kernel
theorem dX0_keep_23 : decode cX0_keep 23 = .ok (.putfield 21, 3) := by decide +kernel
theorem dX0_keep_26 : decode cX0_keep 26 = .ok (.aload_n 0, 1) := by decide +kernel
theorem dX0_keep_27 : decode cX0_keep 27 = .ok (.bipush 8, 2) := by decide +kernel
theorem dX0_keep_29 : decode cX0_keep 29 = .ok (.aload_n 0, 1) := by decide +kernel
theorem dX0_keep_30 : decode cX0_keep 30 = .ok (.getfield 17, 3) := by decide +kernel
theorem dX0_keep_33 : decode cX0_keep 33 = .ok (.iconst 1, 1) := by decide +kernel
theorem dX0_keep_34 : decode cX0_keep 34 = .ok (.iadd, 1) := by decide +kernel
theorem dX0_keep_35 : decode cX0_keep 35 = .ok (.invokestatic 29, 3) := by decide +kernel
theorem dX0_keep_38 : decode cX0_keep 38 = .ok (.putfield 17, 3) := by decide +kernel
theorem dX0_keep_41 : decode cX0_keep 41 = .ok (.return_, 1) := by decide +kernel
theorem dX0_takeBack_0 : decode cX0_takeBack 0 = .ok (.aload_n 0, 1) := by decide +kernel
theorem dX0_takeBack_1 : decode cX0_takeBack 1 = .ok (.aload_n 0, 1) := by decide +kernel
theorem dX0_takeBack_2 : decode cX0_takeBack 2 = .ok (.getfield 21, 3) := by decide +kernel
theorem dX0_takeBack_5 : decode cX0_takeBack 5 = .ok (.bipush 8, 2) := by decide +kernel
theorem dX0_takeBack_7 : decode cX0_takeBack 7 = .ok (.iadd, 1) := by decide +kernel
theorem dX0_takeBack_8 : decode cX0_takeBack 8 = .ok (.iconst 1, 1) := by decide +kernel
theorem dX0_takeBack_9 : decode cX0_takeBack 9 = .ok (.isub, 1) := by decide +kernel
theorem dX0_takeBack_10 : decode cX0_takeBack 10 = .ok (.bipush 8, 2) := by decide +kernel
theorem dX0_takeBack_12 : decode cX0_takeBack 12 = .ok (.irem, 1) := by decide +kernel
theorem dX0_takeBack_13 : decode cX0_takeBack 13 = .ok (.putfield 21, 3) := by decide +kernel
theorem dX0_takeBack_16 : decode cX0_takeBack 16 = .ok (.aload_n 0, 1) := by decide +kernel
theorem dX0_takeBack_17 : decode cX0_takeBack 17 = .ok (.dup, 1) := by decide +kernel
theorem dX0_takeBack_18 : decode cX0_takeBack 18 = .ok (.getfield 17, 3) := by decide +kernel
theorem dX0_takeBack_21 : decode cX0_takeBack 21 = .ok (.iconst 1, 1) := by decide +kernel
theorem dX0_takeBack_22 : decode cX0_takeBack 22 = .ok (.isub, 1) := by decide +kernel
theorem dX0_takeBack_23 : decode cX0_takeBack 23 = .ok (.putfield 17, 3) := by decide +kernel
theorem dX0_takeBack_26 : decode cX0_takeBack 26 = .ok (.aload_n 1, 1) := by decide +kernel
theorem dX0_takeBack_27 : decode cX0_takeBack 27 = .ok (.aload_n 0, 1) := by decide +kernel
theorem dX0_takeBack_28 : decode cX0_takeBack 28 = .ok (.getfield 11, 3) := by decide +kernel
theorem dX0_takeBack_31 : decode cX0_takeBack 31 = .ok (.aload_n 0, 1) := by decide +kernel
theorem dX0_takeBack_32 : decode cX0_takeBack 32 = .ok (.getfield 21, 3) := by decide +kernel
theorem dX0_takeBack_35 : decode cX0_takeBack 35 = .ok (.aaload, 1) := by decide +kernel
theorem dX0_takeBack_36 : decode cX0_takeBack 36 = .ok (.invokevirtual 25, 3) := by decide +kernel
theorem dX0_takeBack_39 : decode cX0_takeBack 39 = .ok (.return_, 1) := by decide +kernel
theorem dX1_init_0 : decode cX1_init 0 = .ok (.aload_n 0, 1) := by decide +kernel
theorem dX1_init_1 : decode cX1_init 1 = .ok (.invokespecial 3, 3) := by decide +kernel
theorem dX1_init_4 : decode cX1_init 4 = .ok (.aload_n 0, 1) := by decide +kernel
theorem dX1_init_5 : decode cX1_init 5 = .ok (.iconst 0, 1) := by decide +kernel
theorem dX1_init_6 : decode cX1_init 6 = .ok (.putfield 9, 3) := by decide +kernel
theorem dX1_init_9 : decode cX1_init 9 = .ok (.aload_n 0, 1) := by decide +kernel
theorem dX1_init_10 : decode cX1_init 10 = .ok (.iconst 0, 1) := by decide +kernel
theorem dX1_init_11 : decode cX1_init 11 = .ok (.putfield 15, 3) := by decide +kernel
theorem dX1_init_14 : decode cX1_init 14 = .ok (.aload_n 0, 1) := by decide +kernel
theorem dX1_init_15 : decode cX1_init 15 = .ok (.bipush 12, 2) := by decide +kernel
theorem dX1_init_17 : decode cX1_init 17 = .ok (.newarray .int, 2) := by decide +kernel
theorem dX1_init_19 : decode cX1_init 19 = .ok (.putfield 18, 3) := by decide +kernel
theorem dX1_init_22 : decode cX1_init 22 = .ok (.aload_n 0, 1) := by decide +kernel
theorem dX1_init_23 : decode cX1_init 23 = .ok (.bipush 12, 2) := by decide +kernel
theorem dX1_init_25 : decode cX1_init 25 = .ok (.newarray .int, 2) := by decide +kernel
theorem dX1_init_27 : decode cX1_init 27 = .ok (.putfield 22, 3) := by decide +kernel
theorem dX1_init_30 : decode cX1_init 30 = .ok (.aload_n 0, 1) := by decide +kernel
theorem dX1_init_31 : decode cX1_init 31 = .ok (.bipush 12, 2) := by decide +kernel
theorem dX1_init_33 : decode cX1_init 33 = .ok (.newarray .int, 2) := by decide +kernel
theorem dX1_init_35 : decode cX1_init 35 = .ok (.putfield 25, 3) := by decide +kernel
theorem dX1_init_38 : decode cX1_init 38 = .ok (.return_, 1) := by decide +kernel
theorem dX1_copyFrom_0 : decode cX1_copyFrom 0 = .ok (.aload_n 0, 1) := by decide +kernel
theorem dX1_copyFrom_1 : decode cX1_copyFrom 1 = .ok (.aload_n 1, 1) := by decide +kernel
theorem dX1_copyFrom_2 : decode cX1_copyFrom 2 = .ok (.getfield 9, 3) := by decide +kernel
theorem dX1_copyFrom_5 : decode cX1_copyFrom 5 = .ok (.putfield 9, 3) := by decide +kernel
theorem dX1_copyFrom_8 : decode cX1_copyFrom 8 = .ok (.aload_n 0, 1) := by decide +kernel
theorem dX1_copyFrom_9 : decode cX1_copyFrom 9 = .ok (.aload_n 1, 1) := by decide +kernel
theorem dX1_copyFrom_10 : decode cX1_copyFrom 10 = .ok (.getfield 15, 3) := by decide +kernel
theorem dX1_copyFrom_13 : decode cX1_copyFrom 13 = .ok (.putfield 15, 3) := by decide +kernel
theorem dX1_copyFrom_16 : decode cX1_copyFrom 16 = .ok (.aload_n 1, 1) := by decide +kernel
theorem dX1_copyFrom_17 : decode cX1_copyFrom 17 = .ok (.getfield 18, 3) := by decide +kernel
theorem dX1_copyFrom_20 : decode cX1_copyFrom 20 = .ok (.iconst 0, 1) := by decide +kernel
theorem dX1_copyFrom_21 : decode cX1_copyFrom 21 = .ok (.aload_n 0, 1) := by decide +kernel
theorem dX1_copyFrom_22 : decode cX1_copyFrom 22 = .ok (.getfield 18, 3) := by decide +kernel
theorem dX1_copyFrom_25 : decode cX1_copyFrom 25 = .ok (.iconst 0, 1) := by decide +kernel
theorem dX1_copyFrom_26 : decode cX1_copyFrom 26 = .ok (.bipush 12, 2) := by decide +kernel
theorem dX1_copyFrom_28 : decode cX1_copyFrom 28 = .ok (.invokestatic 28, 3) := by decide +kernel
theorem dX1_copyFrom_31 : decode cX1_copyFrom 31 = .ok (.return_, 1) := by decide +kernel
theorem dX1_joined_0 : decode cX1_joined 0 = .ok (.aload_n 0, 1) := by decide +kernel
theorem dX1_joined_1 : decode cX1_joined 1 = .ok (.getfield 18, 3) := by decide +kernel
theorem dX1_joined_4 : decode cX1_joined 4 = .ok (.iload_n 1, 1) := by decide +kernel
theorem dX1_joined_5 : decode cX1_joined 5 = .ok (.iaload, 1) := by decide +kernel
theorem dX1_joined_6 : decode cX1_joined 6 = .ok (.iload_n 2, 1) := by decide +kernel
theorem dX1_joined_7 : decode cX1_joined 7 = .ok (.invokestatic 34, 3) := by decide +kernel
theorem dX1_joined_10 : decode cX1_joined 10 = .ok (.ireturn, 1) := by decide +kernel
theorem dX1_join_0 : decode cX1_join 0 = .ok (.aload_n 0, 1) := by decide +kernel
theorem dX1_join_1 : decode cX1_join 1 = .ok (.getfield 18, 3) := by decide +kernel
theorem dX1_join_4 : decode cX1_join 4 = .ok (.iload_n 1, 1) := by decide +kernel
theorem dX1_join_5 : decode cX1_join 5 = .ok (.dup2, 1) := by decide +kernel
theorem dX1_join_6 : decode cX1_join 6 = .ok (.iaload, 1) := by decide +kernel
theorem dX1_join_7 : decode cX1_join 7 = .ok (.iconst 1, 1) := by decide +kernel
theorem dX1_join_8 : decode cX1_join 8 = .ok (.iload_n 2, 1) := by decide +kernel
theorem dX1_join_9 : decode cX1_join 9 = .ok (.ishl, 1) := by decide +kernel
theorem dX1_join_10 : decode cX1_join 10 = .ok (.ior, 1) := by decide +kernel
theorem dX1_join_11 : decode cX1_join 11 = .ok (.iastore, 1) := by decide +kernel
theorem dX1_join_12 : decode cX1_join 12 = .ok (.aload_n 0, 1) := by decide +kernel
theorem dX1_join_13 : decode cX1_join 13 = .ok (.getfield 18, 3) := by decide +kernel
theorem dX1_join_16 : decode cX1_join 16 = .ok (.iload_n 2, 1) := by decide +kernel
theorem dX1_join_17 : decode cX1_join 17 = .ok (.dup2, 1) := by decide +kernel
theorem dX1_join_18 : decode cX1_join 18 = .ok (.iaload, 1) := by decide +kernel
theorem dX1_join_19 : decode cX1_join 19 = .ok (.iconst 1, 1) := by decide +kernel
theorem dX1_join_20 : decode cX1_join 20 = .ok (.iload_n 1, 1) := by decide +kernel
theorem dX1_join_21 : decode cX1_join 21 = .ok (.ishl, 1) := by decide +kernel
theorem dX1_join_22 : decode cX1_join 22 = .ok (.ior, 1) := by decide +kernel
theorem dX1_join_23 : decode cX1_join 23 = .ok (.iastore, 1) := by decide +kernel
theorem dX1_join_24 : decode cX1_join 24 = .ok (.aload_n 0, 1) := by decide +kernel
theorem dX1_join_25 : decode cX1_join 25 = .ok (.dup, 1) := by decide +kernel
theorem dX1_join_26 : decode cX1_join 26 = .ok (.getfield 15, 3) := by decide +kernel
theorem dX1_join_29 : decode cX1_join 29 = .ok (.iconst 1, 1) := by decide +kernel
theorem dX1_join_30 : decode cX1_join 30 = .ok (.iadd, 1) := by decide +kernel
theorem dX1_join_31 : decode cX1_join 31 = .ok (.putfield 15, 3) := by decide +kernel
theorem dX1_join_34 : decode cX1_join 34 = .ok (.aload_n 0, 1) := by decide +kernel
theorem dX1_join_35 : decode cX1_join 35 = .ok (.getfield 15, 3) := by decide +kernel
theorem dX1_join_38 : decode cX1_join 38 = .ok (.ireturn, 1) := by decide +kernel
theorem dX1_cut_0 : decode cX1_cut 0 = .ok (.aload_n 0, 1) := by decide +kernel
theorem dX1_cut_1 : decode cX1_cut 1 = .ok (.getfield 18, 3) := by decide +kernel
theorem dX1_cut_4 : decode cX1_cut 4 = .ok (.iload_n 1, 1) := by decide +kernel
theorem dX1_cut_5 : decode cX1_cut 5 = .ok (.dup2, 1) := by decide +kernel
theorem dX1_cut_6 : decode cX1_cut 6 = .ok (.iaload, 1) := by decide +kernel
theorem dX1_cut_7 : decode cX1_cut 7 = .ok (.iconst 1, 1) := by decide +kernel
theorem dX1_cut_8 : decode cX1_cut 8 = .ok (.iload_n 2, 1) := by decide +kernel
theorem dX1_cut_9 : decode cX1_cut 9 = .ok (.ishl, 1) := by decide +kernel
theorem dX1_cut_10 : decode cX1_cut 10 = .ok (.iconst (-1), 1) := by decide +kernel
theorem dX1_cut_11 : decode cX1_cut 11 = .ok (.ixor, 1) := by decide +kernel
theorem dX1_cut_12 : decode cX1_cut 12 = .ok (.iand, 1) := by decide +kernel
theorem dX1_cut_13 : decode cX1_cut 13 = .ok (.iastore, 1) := by decide +kernel
theorem dX1_cut_14 : decode cX1_cut 14 = .ok (.aload_n 0, 1) := by decide +kernel
theorem dX1_cut_15 : decode cX1_cut 15 = .ok (.getfield 18, 3) := by decide +kernel
theorem dX1_cut_18 : decode cX1_cut 18 = .ok (.iload_n 2, 1) := by decide +kernel
theorem dX1_cut_19 : decode cX1_cut 19 = .ok (.dup2, 1) := by decide +kernel
theorem dX1_cut_20 : decode cX1_cut 20 = .ok (.iaload, 1) := by decide +kernel
theorem dX1_cut_21 : decode cX1_cut 21 = .ok (.iconst 1, 1) := by decide +kernel
theorem dX1_cut_22 : decode cX1_cut 22 = .ok (.iload_n 1, 1) := by decide +kernel
theorem dX1_cut_23 : decode cX1_cut 23 = .ok (.ishl, 1) := by decide +kernel
theorem dX1_cut_24 : decode cX1_cut 24 = .ok (.iconst (-1), 1) := by decide +kernel
theorem dX1_cut_25 : decode cX1_cut 25 = .ok (.ixor, 1) := by decide +kernel
theorem dX1_cut_26 : decode cX1_cut 26 = .ok (.iand, 1) := by decide +kernel
theorem dX1_cut_27 : decode cX1_cut 27 = .ok (.iastore, 1) := by decide +kernel
theorem dX1_cut_28 : decode cX1_cut 28 = .ok (.aload_n 0, 1) := by decide +kernel
theorem dX1_cut_29 : decode cX1_cut 29 = .ok (.dup, 1) := by decide +kernel
theorem dX1_cut_30 : decode cX1_cut 30 = .ok (.getfield 15, 3) := by decide +kernel
theorem dX1_cut_33 : decode cX1_cut 33 = .ok (.iconst 1, 1) := by decide +kernel
theorem dX1_cut_34 : decode cX1_cut 34 = .ok (.isub, 1) := by decide +kernel
theorem dX1_cut_35 : decode cX1_cut 35 = .ok (.putfield 15, 3) := by decide +kernel
theorem dX1_cut_38 : decode cX1_cut 38 = .ok (.aload_n 0, 1) := by decide +kernel
theorem dX1_cut_39 : decode cX1_cut 39 = .ok (.getfield 15, 3) := by decide +kernel
theorem dX1_cut_42 : decode cX1_cut 42 = .ok (.ireturn, 1) := by decide +kernel
theorem dX1_around_0 : decode cX1_around 0 = .ok (.iconst 0, 1) := by decide +kernel
theorem dX1_around_1 : decode cX1_around 1 = .ok (.istore_n 2, 1) := by decide +kernel
theorem dX1_around_2 : decode cX1_around 2 = .ok (.iconst 0, 1) := by decide +kernel
theorem dX1_around_3 : decode cX1_around 3 = .ok (.istore_n 3, 1) := by decide +kernel
theorem dX1_around_4 : decode cX1_around 4 = .ok (.iload_n 3, 1) := by decide +kernel
theorem dX1_around_5 : decode cX1_around 5 = .ok (.aload_n 0, 1) := by decide +kernel
theorem dX1_around_6 : decode cX1_around 6 = .ok (.getfield 9, 3) := by decide +kernel
theorem dX1_around_9 : decode cX1_around 9 = .ok (.if_icmp .ge 26, 3) := by decide +kernel
theorem dX1_around_12 : decode cX1_around 12 = .ok (.iload_n 1, 1) := by decide +kernel
theorem dX1_around_13 : decode cX1_around 13 = .ok (.iload_n 3, 1) := by decide +kernel
theorem dX1_around_14 : decode cX1_around 14 = .ok (.invokestatic 34, 3) := by decide +kernel
theorem dX1_around_17 : decode cX1_around 17 = .ok (.ifCond .eq 12, 3) := by decide +kernel
theorem dX1_around_20 : decode cX1_around 20 = .ok (.iload_n 2, 1) := by decide +kernel
theorem dX1_around_21 : decode cX1_around 21 = .ok (.aload_n 0, 1) := by decide +kernel
theorem dX1_around_22 : decode cX1_around 22 = .ok (.getfield 18, 3) := by decide +kernel
theorem dX1_around_25 : decode cX1_around 25 = .ok (.iload_n 3, 1) := by decide +kernel
theorem dX1_around_26 : decode cX1_around 26 = .ok (.iaload, 1) := by decide +kernel
theorem dX1_around_27 : decode cX1_around 27 = .ok (.ior, 1) := by decide +kernel
theorem dX1_around_28 : decode cX1_around 28 = .ok (.istore_n 2, 1) := by decide +kernel
theorem dX1_around_29 : decode cX1_around 29 = .ok (.iinc 3 1, 3) := by decide +kernel
theorem dX1_around_32 : decode cX1_around 32 = .ok (.goto (-28), 3) := by decide +kernel
theorem dX1_around_35 : decode cX1_around 35 = .ok (.iload_n 2, 1) := by decide +kernel
theorem dX1_around_36 : decode cX1_around 36 = .ok (.ireturn, 1) := by decide +kernel
theorem dX1_piecesBySearch_0 : decode cX1_piecesBySearch 0 = .ok (.iconst 0, 1) := by decide +kernel
theorem dX1_piecesBySearch_1 : decode cX1_piecesBySearch 1 = .ok (.istore_n 1, 1) := by decide +kernel
theorem dX1_piecesBySearch_2 : decode cX1_piecesBySearch 2 = .ok (.iconst 0, 1) := by decide +kernel
theorem dX1_piecesBySearch_3 : decode cX1_piecesBySearch 3 = .ok (.istore_n 2, 1) := by decide +kernel
theorem dX1_piecesBySearch_4 : decode cX1_piecesBySearch 4 = .ok (.iconst 0, 1) := by decide +kernel
theorem dX1_piecesBySearch_5 : decode cX1_piecesBySearch 5 = .ok (.istore_n 3, 1) := by decide +kernel
theorem dX1_piecesBySearch_6 : decode cX1_piecesBySearch 6 = .ok (.iload_n 3, 1) := by decide +kernel
theorem dX1_piecesBySearch_7 : decode cX1_piecesBySearch 7 = .ok (.aload_n 0, 1) := by decide +kernel
theorem dX1_piecesBySearch_8 : decode cX1_piecesBySearch 8 = .ok (.getfield 9, 3) := by decide +kernel
theorem dX1_piecesBySearch_11 : decode cX1_piecesBySearch 11 = .ok (.if_icmp .ge 28, 3) := by decide +kernel
theorem dX1_piecesBySearch_14 : decode cX1_piecesBySearch 14 = .ok (.iload_n 2, 1) := by decide +kernel
theorem dX1_piecesBySearch_15 : decode cX1_piecesBySearch 15 = .ok (.iload_n 3, 1) := by decide +kernel
theorem dX1_piecesBySearch_16 : decode cX1_piecesBySearch 16 = .ok (.invokestatic 34, 3) := by decide +kernel
theorem dX1_piecesBySearch_19 : decode cX1_piecesBySearch 19 = .ok (.ifCond .ne 14, 3) := by decide +kernel
theorem dX1_piecesBySearch_22 : decode cX1_piecesBySearch 22 = .ok (.iinc 1 1, 3) := by decide +kernel
theorem dX1_piecesBySearch_25 : decode cX1_piecesBySearch 25 = .ok (.iload_n 2, 1) := by decide +kernel
theorem dX1_piecesBySearch_26 : decode cX1_piecesBySearch 26 = .ok (.aload_n 0, 1) := by decide +kernel
theorem dX1_piecesBySearch_27 : decode cX1_piecesBySearch 27 = .ok (.iload_n 3, 1) := by decide +kernel
theorem dX1_piecesBySearch_28 : decode cX1_piecesBySearch 28 = .ok (.invokevirtual 38, 3) := by decide +kernel
theorem dX1_piecesBySearch_31 : decode cX1_piecesBySearch 31 = .ok (.ior, 1) := by decide +kernel
theorem dX1_piecesBySearch_32 : decode cX1_piecesBySearch 32 = .ok (.istore_n 2, 1) := by decide +kernel
theorem dX1_piecesBySearch_33 : decode cX1_piecesBySearch 33 = .ok (.iinc 3 1, 3) := by decide +kernel
theorem dX1_piecesBySearch_36 : decode cX1_piecesBySearch 36 = .ok (.goto (-30), 3) := by decide +kernel
theorem dX1_piecesBySearch_39 : decode cX1_piecesBySearch 39 = .ok (.iload_n 1, 1) := by decide +kernel
theorem dX1_piecesBySearch_40 : decode cX1_piecesBySearch 40 = .ok (.ireturn, 1) := by decide +kernel
theorem dX1_pieceOf_0 : decode cX1_pieceOf 0 = .ok (.iconst 1, 1) := by decide +kernel
theorem dX1_pieceOf_1 : decode cX1_pieceOf 1 = .ok (.iload_n 1, 1) := by decide +kernel
theorem dX1_pieceOf_2 : decode cX1_pieceOf 2 = .ok (.ishl, 1) := by decide +kernel
theorem dX1_pieceOf_3 : decode cX1_pieceOf 3 = .ok (.istore_n 2, 1) := by decide +kernel
theorem dX1_pieceOf_4 : decode cX1_pieceOf 4 = .ok (.iconst 1, 1) := by decide +kernel
theorem dX1_pieceOf_5 : decode cX1_pieceOf 5 = .ok (.istore_n 3, 1) := by decide +kernel
theorem dX1_pieceOf_6 : decode cX1_pieceOf 6 = .ok (.iload_n 3, 1) := by decide +kernel
theorem dX1_pieceOf_7 : decode cX1_pieceOf 7 = .ok (.aload_n 0, 1) := by decide +kernel
theorem dX1_pieceOf_8 : decode cX1_pieceOf 8 = .ok (.getfield 9, 3) := by decide +kernel
theorem dX1_pieceOf_11 : decode cX1_pieceOf 11 = .ok (.if_icmp .ge 17, 3) := by decide +kernel
theorem dX1_pieceOf_14 : decode cX1_pieceOf 14 = .ok (.iload_n 2, 1) := by decide +kernel
theorem dX1_pieceOf_15 : decode cX1_pieceOf 15 = .ok (.aload_n 0, 1) := by decide +kernel
theorem dX1_pieceOf_16 : decode cX1_pieceOf 16 = .ok (.iload_n 2, 1) := by decide +kernel
theorem dX1_pieceOf_17 : decode cX1_pieceOf 17 = .ok (.invokevirtual 42, 3) := by decide +kernel
theorem dX1_pieceOf_20 : decode cX1_pieceOf 20 = .ok (.ior, 1) := by decide +kernel
theorem dX1_pieceOf_21 : decode cX1_pieceOf 21 = .ok (.istore_n 2, 1) := by decide +kernel
theorem dX1_pieceOf_22 : decode cX1_pieceOf 22 = .ok (.iinc 3 1, 3) := by decide +kernel
theorem dX1_pieceOf_25 : decode cX1_pieceOf 25 = .ok (.goto (-19), 3) := by decide +kernel
theorem dX1_pieceOf_28 : decode cX1_pieceOf 28 = .ok (.iload_n 2, 1) := by decide +kernel
theorem dX1_pieceOf_29 : decode cX1_pieceOf 29 = .ok (.ireturn, 1) := by decide +kernel
theorem dX1_piecesByUnion_0 : decode cX1_piecesByUnion 0 = .ok (.iconst 0, 1) := by decide +kernel
theorem dX1_piecesByUnion_1 : decode cX1_piecesByUnion 1 = .ok (.istore_n 1, 1) := by decide +kernel
theorem dX1_piecesByUnion_2 : decode cX1_piecesByUnion 2 = .ok (.iload_n 1, 1) := by decide +kernel
theorem dX1_piecesByUnion_3 : decode cX1_piecesByUnion 3 = .ok (.aload_n 0, 1) := by decide +kernel
theorem dX1_piecesByUnion_4 : decode cX1_piecesByUnion 4 = .ok (.getfield 9, 3) := by decide +kernel
theorem dX1_piecesByUnion_7 : decode cX1_piecesByUnion 7 = .ok (.if_icmp .ge 16, 3) := by decide +kernel
theorem dX1_piecesByUnion_10 : decode cX1_piecesByUnion 10 = .ok (.aload_n 0, 1) := by decide +kernel
theorem dX1_piecesByUnion_11 : decode cX1_piecesByUnion 11 = .ok (.getfield 22, 3) := by decide +kernel
theorem dX1_piecesByUnion_14 : decode cX1_piecesByUnion 14 = .ok (.iload_n 1, 1) := by decide +kernel
theorem dX1_piecesByUnion_15 : decode cX1_piecesByUnion 15 = .ok (.iload_n 1, 1) := by decide +kernel
theorem dX1_piecesByUnion_16 : decode cX1_piecesByUnion 16 = .ok (.iastore, 1) := by decide +kernel
theorem dX1_piecesByUnion_17 : decode cX1_piecesByUnion 17 = .ok (.iinc 1 1, 3) := by decide +kernel
theorem dX1_piecesByUnion_20 : decode cX1_piecesByUnion 20 = .ok (.goto (-18), 3) := by decide +kernel
theorem dX1_piecesByUnion_23 : decode cX1_piecesByUnion 23 = .ok (.aload_n 0, 1) := by decide +kernel
theorem dX1_piecesByUnion_24 : decode cX1_piecesByUnion 24 = .ok (.getfield 9, 3) := by decide +kernel
theorem dX1_piecesByUnion_27 : decode cX1_piecesByUnion 27 = .ok (.istore_n 1, 1) := by decide +kernel
theorem dX1_piecesByUnion_28 : decode cX1_piecesByUnion 28 = .ok (.iconst 0, 1) := by decide +kernel
theorem dX1_piecesByUnion_29 : decode cX1_piecesByUnion 29 = .ok (.istore_n 2, 1) := by decide +kernel
theorem dX1_piecesByUnion_30 : decode cX1_piecesByUnion 30 = .ok (.iload_n 2, 1) := by decide +kernel
theorem dX1_piecesByUnion_31 : decode cX1_piecesByUnion 31 = .ok (.aload_n 0, 1) := by decide +kernel
theorem dX1_piecesByUnion_32 : decode cX1_piecesByUnion 32 = .ok (.getfield 9, 3) := by decide +kernel
theorem dX1_piecesByUnion_35 : decode cX1_piecesByUnion 35 = .ok (.if_icmp .ge 43, 3) := by decide +kernel
theorem dX1_piecesByUnion_38 : decode cX1_piecesByUnion 38 = .ok (.iconst 0, 1) := by decide +kernel
theorem dX1_piecesByUnion_39 : decode cX1_piecesByUnion 39 = .ok (.istore_n 3, 1) := by decide +kernel
theorem dX1_piecesByUnion_40 : decode cX1_piecesByUnion 40 = .ok (.iload_n 3, 1) := by decide +kernel
theorem dX1_piecesByUnion_41 : decode cX1_piecesByUnion 41 = .ok (.iload_n 2, 1) := by decide +kernel
theorem dX1_piecesByUnion_42 : decode cX1_piecesByUnion 42 = .ok (.if_icmp .ge 30, 3) := by decide +kernel
theorem dX1_piecesByUnion_45 : decode cX1_piecesByUnion 45 = .ok (.aload_n 0, 1) := by decide +kernel
theorem dX1_piecesByUnion_46 : decode cX1_piecesByUnion 46 = .ok (.iload_n 2, 1) := by decide +kernel
theorem dX1_piecesByUnion_47 : decode cX1_piecesByUnion 47 = .ok (.iload_n 3, 1) := by decide +kernel
theorem dX1_piecesByUnion_48 : decode cX1_piecesByUnion 48 = .ok (.invokevirtual 45, 3) := by decide +kernel
theorem dX1_piecesByUnion_51 : decode cX1_piecesByUnion 51 = .ok (.ifCond .eq 15, 3) := by decide +kernel
theorem dX1_piecesByUnion_54 : decode cX1_piecesByUnion 54 = .ok (.aload_n 0, 1) := by decide +kernel
theorem dX1_piecesByUnion_55 : decode cX1_piecesByUnion 55 = .ok (.iload_n 2, 1) := by decide +kernel
theorem dX1_piecesByUnion_56 : decode cX1_piecesByUnion 56 = .ok (.iload_n 3, 1) := by decide +kernel
theorem dX1_piecesByUnion_57 : decode cX1_piecesByUnion 57 = .ok (.invokevirtual 48, 3) := by decide +kernel
theorem dX1_piecesByUnion_60 : decode cX1_piecesByUnion 60 = .ok (.ifCond .eq 6, 3) := by decide +kernel
theorem dX1_piecesByUnion_63 : decode cX1_piecesByUnion 63 = .ok (.iinc 1 (-1), 3) := by decide +kernel
theorem dX1_piecesByUnion_66 : decode cX1_piecesByUnion 66 = .ok (.iinc 3 1, 3) := by decide +kernel
theorem dX1_piecesByUnion_69 : decode cX1_piecesByUnion 69 = .ok (.goto (-29), 3) := by decide +kernel
theorem dX1_piecesByUnion_72 : decode cX1_piecesByUnion 72 = .ok (.iinc 2 1, 3) := by decide +kernel
theorem dX1_piecesByUnion_75 : decode cX1_piecesByUnion 75 = .ok (.goto (-45), 3) := by decide +kernel
theorem dX1_piecesByUnion_78 : decode cX1_piecesByUnion 78 = .ok (.iload_n 1, 1) := by decide +kernel
theorem dX1_piecesByUnion_79 : decode cX1_piecesByUnion 79 = .ok (.ireturn, 1) := by decide +kernel
theorem dX1_unite_0 : decode cX1_unite 0 = .ok (.aload_n 0, 1) := by decide +kernel
theorem dX1_unite_1 : decode cX1_unite 1 = .ok (.iload_n 1, 1) := by decide +kernel
theorem dX1_unite_2 : decode cX1_unite 2 = .ok (.invokevirtual 51, 3) := by decide +kernel
theorem dX1_unite_5 : decode cX1_unite 5 = .ok (.istore_n 3, 1) := by decide +kernel
theorem dX1_unite_6 : decode cX1_unite 6 = .ok (.aload_n 0, 1) := by decide +kernel
theorem dX1_unite_7 : decode cX1_unite 7 = .ok (.iload_n 2, 1) := by decide +kernel
theorem dX1_unite_8 : decode cX1_unite 8 = .ok (.invokevirtual 51, 3) := by decide +kernel
theorem dX1_unite_11 : decode cX1_unite 11 = .ok (.istore 4, 2) := by decide +kernel
theorem dX1_unite_13 : decode cX1_unite 13 = .ok (.aload_n 0, 1) := by decide +kernel
theorem dX1_unite_14 : decode cX1_unite 14 = .ok (.getfield 22, 3) := by decide +kernel
theorem dX1_unite_17 : decode cX1_unite 17 = .ok (.iload_n 3, 1) := by decide +kernel
theorem dX1_unite_18 : decode cX1_unite 18 = .ok (.iload 4, 2) := by decide +kernel
theorem dX1_unite_20 : decode cX1_unite 20 = .ok (.iastore, 1) := by decide +kernel
theorem dX1_unite_21 : decode cX1_unite 21 = .ok (.iload_n 3, 1) := by decide +kernel
theorem dX1_unite_22 : decode cX1_unite 22 = .ok (.iload 4, 2) := by decide +kernel
theorem dX1_unite_24 : decode cX1_unite 24 = .ok (.if_icmp .eq 7, 3) := by decide +kernel
theorem dX1_unite_27 : decode cX1_unite 27 = .ok (.iconst 1, 1) := by decide +kernel
theorem dX1_unite_28 : decode cX1_unite 28 = .ok (.goto 4, 3) := by decide +kernel
theorem dX1_unite_31 : decode cX1_unite 31 = .ok (.iconst 0, 1) := by decide +kernel
theorem dX1_unite_32 : decode cX1_unite 32 = .ok (.ireturn, 1) := by decide +kernel
theorem dX1_rootOf_0 : decode cX1_rootOf 0 = .ok (.iload_n 1, 1) := by decide +kernel
theorem dX1_rootOf_1 : decode cX1_rootOf 1 = .ok (.istore_n 2, 1) := by decide +kernel
theorem dX1_rootOf_2 : decode cX1_rootOf 2 = .ok (.iconst 0, 1) := by decide +kernel
theorem dX1_rootOf_3 : decode cX1_rootOf 3 = .ok (.istore_n 3, 1) := by decide +kernel
theorem dX1_rootOf_4 : decode cX1_rootOf 4 = .ok (.iload_n 3, 1) := by decide +kernel
theorem dX1_rootOf_5 : decode cX1_rootOf 5 = .ok (.aload_n 0, 1) := by decide +kernel
theorem dX1_rootOf_6 : decode cX1_rootOf 6 = .ok (.getfield 9, 3) := by decide +kernel
theorem dX1_rootOf_9 : decode cX1_rootOf 9 = .ok (.if_icmp .ge 26, 3) := by decide +kernel
theorem dX1_rootOf_12 : decode cX1_rootOf 12 = .ok (.aload_n 0, 1) := by decide +kernel
theorem dX1_rootOf_13 : decode cX1_rootOf 13 = .ok (.getfield 22, 3) := by decide +kernel
theorem dX1_rootOf_16 : decode cX1_rootOf 16 = .ok (.iload_n 2, 1) := by decide +kernel
theorem dX1_rootOf_17 : decode cX1_rootOf 17 = .ok (.iaload, 1) := by decide +kernel
theorem dX1_rootOf_18 : decode cX1_rootOf 18 = .ok (.iload_n 2, 1) := by decide +kernel
theorem dX1_rootOf_19 : decode cX1_rootOf 19 = .ok (.if_icmp .eq 16, 3) := by decide +kernel
theorem dX1_rootOf_22 : decode cX1_rootOf 22 = .ok (.aload_n 0, 1) := by decide +kernel
theorem dX1_rootOf_23 : decode cX1_rootOf 23 = .ok (.getfield 22, 3) := by decide +kernel
theorem dX1_rootOf_26 : decode cX1_rootOf 26 = .ok (.iload_n 2, 1) := by decide +kernel
theorem dX1_rootOf_27 : decode cX1_rootOf 27 = .ok (.iaload, 1) := by decide +kernel
theorem dX1_rootOf_28 : decode cX1_rootOf 28 = .ok (.istore_n 2, 1) := by decide +kernel
theorem dX1_rootOf_29 : decode cX1_rootOf 29 = .ok (.iinc 3 1, 3) := by decide +kernel
theorem dX1_rootOf_32 : decode cX1_rootOf 32 = .ok (.goto (-28), 3) := by decide +kernel
theorem dX1_rootOf_35 : decode cX1_rootOf 35 = .ok (.iload_n 2, 1) := by decide +kernel
theorem dX1_rootOf_36 : decode cX1_rootOf 36 = .ok (.ireturn, 1) := by decide +kernel
theorem dX1_stepsBySearch_0 : decode cX1_stepsBySearch 0 = .ok (.iconst 1, 1) := by decide +kernel
theorem dX1_stepsBySearch_1 : decode cX1_stepsBySearch 1 = .ok (.iload_n 1, 1) := by decide +kernel
theorem dX1_stepsBySearch_2 : decode cX1_stepsBySearch 2 = .ok (.ishl, 1) := by decide +kernel
theorem dX1_stepsBySearch_3 : decode cX1_stepsBySearch 3 = .ok (.istore_n 3, 1) := by decide +kernel
theorem dX1_stepsBySearch_4 : decode cX1_stepsBySearch 4 = .ok (.iload_n 3, 1) := by decide +kernel
theorem dX1_stepsBySearch_5 : decode cX1_stepsBySearch 5 = .ok (.istore 4, 2) := by decide +kernel
theorem dX1_stepsBySearch_7 : decode cX1_stepsBySearch 7 = .ok (.iconst 0, 1) := by decide +kernel
theorem dX1_stepsBySearch_8 : decode cX1_stepsBySearch 8 = .ok (.istore 5, 2) := by decide +kernel
theorem dX1_stepsBySearch_10 : decode cX1_stepsBySearch 10 = .ok (.iload 5, 2) := by decide +kernel
theorem dX1_stepsBySearch_12 : decode cX1_stepsBySearch 12 = .ok (.aload_n 0, 1) := by decide +kernel
theorem dX1_stepsBySearch_13 : decode cX1_stepsBySearch 13 = .ok (.getfield 9, 3) := by decide +kernel
theorem dX1_stepsBySearch_16 : decode cX1_stepsBySearch 16 = .ok (.if_icmp .ge 35, 3) := by decide +kernel
theorem dX1_stepsBySearch_19 : decode cX1_stepsBySearch 19 = .ok (.iload_n 3, 1) := by decide +kernel
theorem dX1_stepsBySearch_20 : decode cX1_stepsBySearch 20 = .ok (.iload_n 2, 1) := by decide +kernel
theorem dX1_stepsBySearch_21 : decode cX1_stepsBySearch 21 = .ok (.iand, 1) := by decide +kernel
theorem dX1_stepsBySearch_22 : decode cX1_stepsBySearch 22 = .ok (.ifCond .eq 6, 3) := by decide +kernel
theorem dX1_stepsBySearch_25 : decode cX1_stepsBySearch 25 = .ok (.iload 5, 2) := by decide +kernel
theorem dX1_stepsBySearch_27 : decode cX1_stepsBySearch 27 = .ok (.ireturn, 1) := by decide +kernel
theorem dX1_stepsBySearch_28 : decode cX1_stepsBySearch 28 = .ok (.aload_n 0, 1) := by decide +kernel
theorem dX1_stepsBySearch_29 : decode cX1_stepsBySearch 29 = .ok (.iload_n 3, 1) := by decide +kernel
theorem dX1_stepsBySearch_30 : decode cX1_stepsBySearch 30 = .ok (.invokevirtual 42, 3) := by decide +kernel
theorem dX1_stepsBySearch_33 : decode cX1_stepsBySearch 33 = .ok (.iload 4, 2) := by decide +kernel
theorem dX1_stepsBySearch_35 : decode cX1_stepsBySearch 35 = .ok (.iconst (-1), 1) := by decide +kernel
theorem dX1_stepsBySearch_36 : decode cX1_stepsBySearch 36 = .ok (.ixor, 1) := by decide +kernel
theorem dX1_stepsBySearch_37 : decode cX1_stepsBySearch 37 = .ok (.iand, 1) := by decide +kernel
theorem dX1_stepsBySearch_38 : decode cX1_stepsBySearch 38 = .ok (.istore_n 3, 1) := by decide +kernel
theorem dX1_stepsBySearch_39 : decode cX1_stepsBySearch 39 = .ok (.iload 4, 2) := by decide +kernel
theorem dX1_stepsBySearch_41 : decode cX1_stepsBySearch 41 = .ok (.iload_n 3, 1) := by decide +kernel
theorem dX1_stepsBySearch_42 : decode cX1_stepsBySearch 42 = .ok (.ior, 1) := by decide +kernel
theorem dX1_stepsBySearch_43 : decode cX1_stepsBySearch 43 = .ok (.istore 4, 2) := by decide +kernel
theorem dX1_stepsBySearch_45 : decode cX1_stepsBySearch 45 = .ok (.iinc 5 1, 3) := by decide +kernel
theorem dX1_stepsBySearch_48 : decode cX1_stepsBySearch 48 = .ok (.goto (-38), 3) := by decide +kernel
theorem dX1_stepsBySearch_51 : decode cX1_stepsBySearch 51 = .ok (.iconst (-1), 1) := by decide +kernel
theorem dX1_stepsBySearch_52 : decode cX1_stepsBySearch 52 = .ok (.ireturn, 1) := by decide +kernel
theorem dX1_stepsByRelaxing_0 : decode cX1_stepsByRelaxing 0 = .ok (.iconst 0, 1) := by decide +kernel
theorem dX1_stepsByRelaxing_1 : decode cX1_stepsByRelaxing 1 = .ok (.istore_n 3, 1) := by decide +kernel
theorem dX1_stepsByRelaxing_2 : decode cX1_stepsByRelaxing 2 = .ok (.iload_n 3, 1) := by decide +kernel
theorem dX1_stepsByRelaxing_3 : decode cX1_stepsByRelaxing 3 = .ok (.aload_n 0, 1) := by decide +kernel
theorem dX1_stepsByRelaxing_4 : decode cX1_stepsByRelaxing 4 = .ok (.getfield 9, 3) := by decide +kernel
theorem dX1_stepsByRelaxing_7 : decode cX1_stepsByRelaxing 7 = .ok (.if_icmp .ge 30, 3) := by decide +kernel
theorem dX1_stepsByRelaxing_10 : decode cX1_stepsByRelaxing 10 = .ok (.aload_n 0, 1) := by decide +kernel
theorem dX1_stepsByRelaxing_11 : decode cX1_stepsByRelaxing 11 = .ok (.getfield 25, 3) := by decide +kernel
theorem dX1_stepsByRelaxing_14 : decode cX1_stepsByRelaxing 14 = .ok (.iload_n 3, 1) := by decide +kernel
theorem dX1_stepsByRelaxing_15 : decode cX1_stepsByRelaxing 15 = .ok (.iload_n 2, 1) := by decide +kernel
theorem dX1_stepsByRelaxing_16 : decode cX1_stepsByRelaxing 16 = .ok (.iload_n 3, 1) := by decide +kernel
theorem dX1_stepsByRelaxing_17 : decode cX1_stepsByRelaxing 17 = .ok (.invokestatic 34, 3) := by decide +kernel
theorem dX1_stepsByRelaxing_20 : decode cX1_stepsByRelaxing 20 = .ok (.ifCond .eq 7, 3) := by decide +kernel
theorem dX1_stepsByRelaxing_23 : decode cX1_stepsByRelaxing 23 = .ok (.iconst 0, 1) := by decide +kernel
theorem dX1_stepsByRelaxing_24 : decode cX1_stepsByRelaxing 24 = .ok (.goto 6, 3) := by decide +kernel
theorem dX1_stepsByRelaxing_27 : decode cX1_stepsByRelaxing 27 = .ok (.sipush 1000, 3) := by decide +kernel
theorem dX1_stepsByRelaxing_30 : decode cX1_stepsByRelaxing 30 = .ok (.iastore, 1) := by decide +kernel
theorem dX1_stepsByRelaxing_31 : decode cX1_stepsByRelaxing 31 = .ok (.iinc 3 1, 3) := by decide +kernel
theorem dX1_stepsByRelaxing_34 : decode cX1_stepsByRelaxing 34 = .ok (.goto (-32), 3) := by decide +kernel
theorem dX1_stepsByRelaxing_37 : decode cX1_stepsByRelaxing 37 = .ok (.iconst 1, 1) := by decide +kernel
theorem dX1_stepsByRelaxing_38 : decode cX1_stepsByRelaxing 38 = .ok (.istore_n 3, 1) := by decide +kernel
theorem dX1_stepsByRelaxing_39 : decode cX1_stepsByRelaxing 39 = .ok (.iload_n 3, 1) := by decide +kernel
theorem dX1_stepsByRelaxing_40 : decode cX1_stepsByRelaxing 40 = .ok (.aload_n 0, 1) := by decide +kernel
theorem dX1_stepsByRelaxing_41 : decode cX1_stepsByRelaxing 41 = .ok (.getfield 9, 3) := by decide +kernel
theorem dX1_stepsByRelaxing_44 : decode cX1_stepsByRelaxing 44 = .ok (.if_icmp .ge 13, 3) := by decide +kernel
theorem dX1_stepsByRelaxing_47 : decode cX1_stepsByRelaxing 47 = .ok (.aload_n 0, 1) := by decide +kernel
theorem dX1_stepsByRelaxing_48 : decode cX1_stepsByRelaxing 48 = .ok (.invokevirtual 54, 3) := by decide +kernel
theorem dX1_stepsByRelaxing_51 : decode cX1_stepsByRelaxing 51 = .ok (.iinc 3 1, 3) := by decide +kernel
theorem dX1_stepsByRelaxing_54 : decode cX1_stepsByRelaxing 54 = .ok (.goto (-15), 3) := by decide +kernel
theorem dX1_stepsByRelaxing_57 : decode cX1_stepsByRelaxing 57 = .ok (.aload_n 0, 1) := by decide +kernel
theorem dX1_stepsByRelaxing_58 : decode cX1_stepsByRelaxing 58 = .ok (.getfield 25, 3) := by decide +kernel
theorem dX1_stepsByRelaxing_61 : decode cX1_stepsByRelaxing 61 = .ok (.iload_n 1, 1) := by decide +kernel
theorem dX1_stepsByRelaxing_62 : decode cX1_stepsByRelaxing 62 = .ok (.iaload, 1) := by decide +kernel
theorem dX1_stepsByRelaxing_63 : decode cX1_stepsByRelaxing 63 = .ok (.sipush 1000, 3) := by decide +kernel
theorem dX1_stepsByRelaxing_66 : decode cX1_stepsByRelaxing 66 = .ok (.if_icmp .ne 7, 3) := by decide +kernel
theorem dX1_stepsByRelaxing_69 : decode cX1_stepsByRelaxing 69 = .ok (.iconst (-1), 1) := by decide +kernel
theorem dX1_stepsByRelaxing_70 : decode cX1_stepsByRelaxing 70 = .ok (.goto 9, 3) := by decide +kernel
theorem dX1_stepsByRelaxing_73 : decode cX1_stepsByRelaxing 73 = .ok (.aload_n 0, 1) := by decide +kernel
theorem dX1_stepsByRelaxing_74 : decode cX1_stepsByRelaxing 74 = .ok (.getfield 25, 3) := by decide +kernel
theorem dX1_stepsByRelaxing_77 : decode cX1_stepsByRelaxing 77 = .ok (.iload_n 1, 1) := by decide +kernel
theorem dX1_stepsByRelaxing_78 : decode cX1_stepsByRelaxing 78 = .ok (.iaload, 1) := by decide +kernel
theorem dX1_stepsByRelaxing_79 : decode cX1_stepsByRelaxing 79 = .ok (.ireturn, 1) := by decide +kernel
theorem dX1_relaxLinks_0 : decode cX1_relaxLinks 0 = .ok (.iconst 0, 1) := by decide +kernel
theorem dX1_relaxLinks_1 : decode cX1_relaxLinks 1 = .ok (.istore_n 1, 1) := by decide +kernel
theorem dX1_relaxLinks_2 : decode cX1_relaxLinks 2 = .ok (.iload_n 1, 1) := by decide +kernel
theorem dX1_relaxLinks_3 : decode cX1_relaxLinks 3 = .ok (.aload_n 0, 1) := by decide +kernel
theorem dX1_relaxLinks_4 : decode cX1_relaxLinks 4 = .ok (.getfield 9, 3) := by decide +kernel
theorem dX1_relaxLinks_7 : decode cX1_relaxLinks 7 = .ok (.if_icmp .ge 57, 3) := by decide +kernel
theorem dX1_relaxLinks_10 : decode cX1_relaxLinks 10 = .ok (.iconst 0, 1) := by decide +kernel
theorem dX1_relaxLinks_11 : decode cX1_relaxLinks 11 = .ok (.istore_n 2, 1) := by decide +kernel
theorem dX1_relaxLinks_12 : decode cX1_relaxLinks 12 = .ok (.iload_n 2, 1) := by decide +kernel
theorem dX1_relaxLinks_13 : decode cX1_relaxLinks 13 = .ok (.aload_n 0, 1) := by decide +kernel
theorem dX1_relaxLinks_14 : decode cX1_relaxLinks 14 = .ok (.getfield 9, 3) := by decide +kernel
theorem dX1_relaxLinks_17 : decode cX1_relaxLinks 17 = .ok (.if_icmp .ge 41, 3) := by decide +kernel
theorem dX1_relaxLinks_20 : decode cX1_relaxLinks 20 = .ok (.aload_n 0, 1) := by decide +kernel
theorem dX1_relaxLinks_21 : decode cX1_relaxLinks 21 = .ok (.iload_n 1, 1) := by decide +kernel
theorem dX1_relaxLinks_22 : decode cX1_relaxLinks 22 = .ok (.iload_n 2, 1) := by decide +kernel
theorem dX1_relaxLinks_23 : decode cX1_relaxLinks 23 = .ok (.invokevirtual 45, 3) := by decide +kernel
theorem dX1_relaxLinks_26 : decode cX1_relaxLinks 26 = .ok (.ifCond .eq 26, 3) := by decide +kernel
theorem dX1_relaxLinks_29 : decode cX1_relaxLinks 29 = .ok (.aload_n 0, 1) := by decide +kernel
theorem dX1_relaxLinks_30 : decode cX1_relaxLinks 30 = .ok (.getfield 25, 3) := by decide +kernel
theorem dX1_relaxLinks_33 : decode cX1_relaxLinks 33 = .ok (.iload_n 1, 1) := by decide +kernel
theorem dX1_relaxLinks_34 : decode cX1_relaxLinks 34 = .ok (.aload_n 0, 1) := by decide +kernel
theorem dX1_relaxLinks_35 : decode cX1_relaxLinks 35 = .ok (.getfield 25, 3) := by decide +kernel
theorem dX1_relaxLinks_38 : decode cX1_relaxLinks 38 = .ok (.iload_n 1, 1) := by decide +kernel
theorem dX1_relaxLinks_39 : decode cX1_relaxLinks 39 = .ok (.iaload, 1) := by decide +kernel
theorem dX1_relaxLinks_40 : decode cX1_relaxLinks 40 = .ok (.aload_n 0, 1) := by decide +kernel
theorem dX1_relaxLinks_41 : decode cX1_relaxLinks 41 = .ok (.getfield 25, 3) := by decide +kernel
theorem dX1_relaxLinks_44 : decode cX1_relaxLinks 44 = .ok (.iload_n 2, 1) := by decide +kernel
theorem dX1_relaxLinks_45 : decode cX1_relaxLinks 45 = .ok (.iaload, 1) := by decide +kernel
theorem dX1_relaxLinks_46 : decode cX1_relaxLinks 46 = .ok (.iconst 1, 1) := by decide +kernel
theorem dX1_relaxLinks_47 : decode cX1_relaxLinks 47 = .ok (.iadd, 1) := by decide +kernel
theorem dX1_relaxLinks_48 : decode cX1_relaxLinks 48 = .ok (.invokestatic 57, 3) := by decide +kernel
theorem dX1_relaxLinks_51 : decode cX1_relaxLinks 51 = .ok (.iastore, 1) := by decide +kernel
theorem dX1_relaxLinks_52 : decode cX1_relaxLinks 52 = .ok (.iinc 2 1, 3) := by decide +kernel
theorem dX1_relaxLinks_55 : decode cX1_relaxLinks 55 = .ok (.goto (-43), 3) := by decide +kernel
theorem dX1_relaxLinks_58 : decode cX1_relaxLinks 58 = .ok (.iinc 1 1, 3) := by decide +kernel
theorem dX1_relaxLinks_61 : decode cX1_relaxLinks 61 = .ok (.goto (-59), 3) := by decide +kernel
theorem dX1_relaxLinks_64 : decode cX1_relaxLinks 64 = .ok (.return_, 1) := by decide +kernel
theorem dX2_init_0 : decode cX2_init 0 = .ok (.aload_n 0, 1) := by decide +kernel
theorem dX2_init_1 : decode cX2_init 1 = .ok (.invokespecial 3, 3) := by decide +kernel
theorem dX2_init_4 : decode cX2_init 4 = .ok (.aload_n 0, 1) := by decide +kernel
theorem dX2_init_5 : decode cX2_init 5 = .ok (.iconst 0, 1) := by decide +kernel
theorem dX2_init_6 : decode cX2_init 6 = .ok (.putfield 9, 3) := by decide +kernel
theorem dX2_init_9 : decode cX2_init 9 = .ok (.aload_n 0, 1) := by decide +kernel
theorem dX2_init_10 : decode cX2_init 10 = .ok (.iconst 0, 1) := by decide +kernel
theorem dX2_init_11 : decode cX2_init 11 = .ok (.putfield 15, 3) := by decide +kernel
theorem dX2_init_14 : decode cX2_init 14 = .ok (.aload_n 0, 1) := by decide +kernel
theorem dX2_init_15 : decode cX2_init 15 = .ok (.iconst 0, 1) := by decide +kernel
theorem dX2_init_16 : decode cX2_init 16 = .ok (.putfield 18, 3) := by decide +kernel
theorem dX2_init_19 : decode cX2_init 19 = .ok (.aload_n 0, 1) := by decide +kernel
theorem dX2_init_20 : decode cX2_init 20 = .ok (.iconst 0, 1) := by decide +kernel
theorem dX2_init_21 : decode cX2_init 21 = .ok (.putfield 22, 3) := by decide +kernel
theorem dX2_init_24 : decode cX2_init 24 = .ok (.aload_n 0, 1) := by decide +kernel
theorem dX2_init_25 : decode cX2_init 25 = .ok (.iconst 0, 1) := by decide +kernel
theorem dX2_init_26 : decode cX2_init 26 = .ok (.putfield 25, 3) := by decide +kernel
theorem dX2_init_29 : decode cX2_init 29 = .ok (.aload_n 0, 1) := by decide +kernel
theorem dX2_init_30 : decode cX2_init 30 = .ok (.bipush 12, 2) := by decide +kernel
theorem dX2_init_32 : decode cX2_init 32 = .ok (.newarray .int, 2) := by decide +kernel
theorem dX2_init_34 : decode cX2_init 34 = .ok (.putfield 28, 3) := by decide +kernel
theorem dX2_init_37 : decode cX2_init 37 = .ok (.return_, 1) := by decide +kernel
theorem dX2_copyFrom_0 : decode cX2_copyFrom 0 = .ok (.aload_n 0, 1) := by decide +kernel
theorem dX2_copyFrom_1 : decode cX2_copyFrom 1 = .ok (.aload_n 1, 1) := by decide +kernel
theorem dX2_copyFrom_2 : decode cX2_copyFrom 2 = .ok (.getfield 9, 3) := by decide +kernel
theorem dX2_copyFrom_5 : decode cX2_copyFrom 5 = .ok (.putfield 9, 3) := by decide +kernel
theorem dX2_copyFrom_8 : decode cX2_copyFrom 8 = .ok (.aload_n 0, 1) := by decide +kernel
theorem dX2_copyFrom_9 : decode cX2_copyFrom 9 = .ok (.aload_n 1, 1) := by decide +kernel
theorem dX2_copyFrom_10 : decode cX2_copyFrom 10 = .ok (.getfield 15, 3) := by decide +kernel
theorem dX2_copyFrom_13 : decode cX2_copyFrom 13 = .ok (.putfield 15, 3) := by decide +kernel
theorem dX2_copyFrom_16 : decode cX2_copyFrom 16 = .ok (.aload_n 0, 1) := by decide +kernel
theorem dX2_copyFrom_17 : decode cX2_copyFrom 17 = .ok (.aload_n 1, 1) := by decide +kernel
theorem dX2_copyFrom_18 : decode cX2_copyFrom 18 = .ok (.getfield 18, 3) := by decide +kernel
theorem dX2_copyFrom_21 : decode cX2_copyFrom 21 = .ok (.putfield 18, 3) := by decide +kernel
theorem dX2_copyFrom_24 : decode cX2_copyFrom 24 = .ok (.aload_n 0, 1) := by decide +kernel
theorem dX2_copyFrom_25 : decode cX2_copyFrom 25 = .ok (.aload_n 1, 1) := by decide +kernel
theorem dX2_copyFrom_26 : decode cX2_copyFrom 26 = .ok (.getfield 22, 3) := by decide +kernel
theorem dX2_copyFrom_29 : decode cX2_copyFrom 29 = .ok (.putfield 22, 3) := by decide +kernel
theorem dX2_copyFrom_32 : decode cX2_copyFrom 32 = .ok (.aload_n 0, 1) := by decide +kernel
theorem dX2_copyFrom_33 : decode cX2_copyFrom 33 = .ok (.aload_n 1, 1) := by decide +kernel
theorem dX2_copyFrom_34 : decode cX2_copyFrom 34 = .ok (.getfield 25, 3) := by decide +kernel
theorem dX2_copyFrom_37 : decode cX2_copyFrom 37 = .ok (.putfield 25, 3) := by decide +kernel
theorem dX2_copyFrom_40 : decode cX2_copyFrom 40 = .ok (.aload_n 1, 1) := by decide +kernel
theorem dX2_copyFrom_41 : decode cX2_copyFrom 41 = .ok (.getfield 28, 3) := by decide +kernel
theorem dX2_copyFrom_44 : decode cX2_copyFrom 44 = .ok (.iconst 0, 1) := by decide +kernel
theorem dX2_copyFrom_45 : decode cX2_copyFrom 45 = .ok (.aload_n 0, 1) := by decide +kernel
theorem dX2_copyFrom_46 : decode cX2_copyFrom 46 = .ok (.getfield 28, 3) := by decide +kernel
theorem dX2_copyFrom_49 : decode cX2_copyFrom 49 = .ok (.iconst 0, 1) := by decide +kernel
theorem dX2_copyFrom_50 : decode cX2_copyFrom 50 = .ok (.bipush 12, 2) := by decide +kernel
theorem dX2_copyFrom_52 : decode cX2_copyFrom 52 = .ok (.invokestatic 32, 3) := by decide +kernel
theorem dX2_copyFrom_55 : decode cX2_copyFrom 55 = .ok (.return_, 1) := by decide +kernel
theorem dX2_comeUp_0 : decode cX2_comeUp 0 = .ok (.aload_n 0, 1) := by decide +kernel
theorem dX2_comeUp_1 : decode cX2_comeUp 1 = .ok (.iload_n 1, 1) := by decide +kernel
theorem dX2_comeUp_2 : decode cX2_comeUp 2 = .ok (.putfield 9, 3) := by decide +kernel
theorem dX2_comeUp_5 : decode cX2_comeUp 5 = .ok (.aload_n 0, 1) := by decide +kernel
theorem dX2_comeUp_6 : decode cX2_comeUp 6 = .ok (.iload_n 2, 1) := by decide +kernel
theorem dX2_comeUp_7 : decode cX2_comeUp 7 = .ok (.putfield 15, 3) := by decide +kernel
theorem dX2_comeUp_10 : decode cX2_comeUp 10 = .ok (.aload_n 0, 1) := by decide +kernel
theorem dX2_comeUp_11 : decode cX2_comeUp 11 = .ok (.iconst 1, 1) := by decide +kernel
theorem dX2_comeUp_12 : decode cX2_comeUp 12 = .ok (.putfield 18, 3) := by decide +kernel
theorem dX2_comeUp_15 : decode cX2_comeUp 15 = .ok (.aload_n 0, 1) := by decide +kernel
theorem dX2_comeUp_16 : decode cX2_comeUp 16 = .ok (.iconst 1, 1) := by decide +kernel
theorem dX2_comeUp_17 : decode cX2_comeUp 17 = .ok (.iload_n 1, 1) := by decide +kernel
theorem dX2_comeUp_18 : decode cX2_comeUp 18 = .ok (.ishl, 1) := by decide +kernel
theorem dX2_comeUp_19 : decode cX2_comeUp 19 = .ok (.putfield 22, 3) := by decide +kernel
theorem dX2_comeUp_22 : decode cX2_comeUp 22 = .ok (.aload_n 0, 1) := by decide +kernel
theorem dX2_comeUp_23 : decode cX2_comeUp 23 = .ok (.iconst 0, 1) := by decide +kernel
theorem dX2_comeUp_24 : decode cX2_comeUp 24 = .ok (.putfield 25, 3) := by decide +kernel
theorem dX2_comeUp_27 : decode cX2_comeUp 27 = .ok (.aload_n 0, 1) := by decide +kernel
theorem dX2_comeUp_28 : decode cX2_comeUp 28 = .ok (.getfield 28, 3) := by decide +kernel
theorem dX2_comeUp_31 : decode cX2_comeUp 31 = .ok (.iload_n 1, 1) := by decide +kernel
theorem dX2_comeUp_32 : decode cX2_comeUp 32 = .ok (.iload_n 3, 1) := by decide +kernel
theorem dX2_comeUp_33 : decode cX2_comeUp 33 = .ok (.iastore, 1) := by decide +kernel
theorem dX2_comeUp_34 : decode cX2_comeUp 34 = .ok (.return_, 1) := by decide +kernel
theorem dX2_aware_0 : decode cX2_aware 0 = .ok (.aload_n 0, 1) := by decide +kernel
theorem dX2_aware_1 : decode cX2_aware 1 = .ok (.getfield 22, 3) := by decide +kernel
theorem dX2_aware_4 : decode cX2_aware 4 = .ok (.aload_n 0, 1) := by decide +kernel
theorem dX2_aware_5 : decode cX2_aware 5 = .ok (.getfield 25, 3) := by decide +kernel
theorem dX2_aware_8 : decode cX2_aware 8 = .ok (.ior, 1) := by decide +kernel
theorem dX2_aware_9 : decode cX2_aware 9 = .ok (.ireturn, 1) := by decide +kernel
theorem dX2_silence_0 : decode cX2_silence 0 = .ok (.aload_n 0, 1) := by decide +kernel
theorem dX2_silence_1 : decode cX2_silence 1 = .ok (.iconst 0, 1) := by decide +kernel
theorem dX2_silence_2 : decode cX2_silence 2 = .ok (.putfield 18, 3) := by decide +kernel
theorem dX2_silence_5 : decode cX2_silence 5 = .ok (.aload_n 0, 1) := by decide +kernel
theorem dX2_silence_6 : decode cX2_silence 6 = .ok (.getfield 22, 3) := by decide +kernel
theorem dX2_silence_9 : decode cX2_silence 9 = .ok (.invokestatic 38, 3) := by decide +kernel
theorem dX2_silence_12 : decode cX2_silence 12 = .ok (.ireturn, 1) := by decide +kernel
theorem dX2_revive_0 : decode cX2_revive 0 = .ok (.aload_n 0, 1) := by decide +kernel
theorem dX2_revive_1 : decode cX2_revive 1 = .ok (.getfield 15, 3) := by decide +kernel
theorem dX2_revive_4 : decode cX2_revive 4 = .ok (.istore_n 2, 1) := by decide +kernel
theorem dX2_revive_5 : decode cX2_revive 5 = .ok (.aload_n 0, 1) := by decide +kernel
theorem dX2_revive_6 : decode cX2_revive 6 = .ok (.iconst 1, 1) := by decide +kernel
theorem dX2_revive_7 : decode cX2_revive 7 = .ok (.putfield 18, 3) := by decide +kernel
theorem dX2_revive_10 : decode cX2_revive 10 = .ok (.aload_n 0, 1) := by decide +kernel
theorem dX2_revive_11 : decode cX2_revive 11 = .ok (.iload_n 1, 1) := by decide +kernel
theorem dX2_revive_12 : decode cX2_revive 12 = .ok (.putfield 15, 3) := by decide +kernel
theorem dX2_revive_15 : decode cX2_revive 15 = .ok (.iload_n 2, 1) := by decide +kernel
theorem dX2_revive_16 : decode cX2_revive 16 = .ok (.ireturn, 1) := by decide +kernel
theorem dX2_weaken_0 : decode cX2_weaken 0 = .ok (.aload_n 0, 1) := by decide +kernel
theorem dX2_weaken_1 : decode cX2_weaken 1 = .ok (.iconst 0, 1) := by decide +kernel
theorem dX2_weaken_2 : decode cX2_weaken 2 = .ok (.aload_n 0, 1) := by decide +kernel
theorem dX2_weaken_3 : decode cX2_weaken 3 = .ok (.getfield 15, 3) := by decide +kernel
theorem dX2_weaken_6 : decode cX2_weaken 6 = .ok (.iconst 1, 1) := by decide +kernel
theorem dX2_weaken_7 : decode cX2_weaken 7 = .ok (.isub, 1) := by decide +kernel
theorem dX2_weaken_8 : decode cX2_weaken 8 = .ok (.invokestatic 44, 3) := by decide +kernel
theorem dX2_weaken_11 : decode cX2_weaken 11 = .ok (.putfield 15, 3) := by decide +kernel
theorem dX2_weaken_14 : decode cX2_weaken 14 = .ok (.return_, 1) := by decide +kernel
theorem dX2_signOf_0 : decode cX2_signOf 0 = .ok (.aload_n 0, 1) := by decide +kernel
theorem dX2_signOf_1 : decode cX2_signOf 1 = .ok (.getfield 22, 3) := by decide +kernel
theorem dX2_signOf_4 : decode cX2_signOf 4 = .ok (.iload_n 1, 1) := by decide +kernel
theorem dX2_signOf_5 : decode cX2_signOf 5 = .ok (.invokestatic 50, 3) := by decide +kernel
theorem dX2_signOf_8 : decode cX2_signOf 8 = .ok (.ifCond .eq 6, 3) := by decide +kernel
theorem dX2_signOf_11 : decode cX2_signOf 11 = .ok (.bipush 43, 2) := by decide +kernel
theorem dX2_signOf_13 : decode cX2_signOf 13 = .ok (.ireturn, 1) := by decide +kernel
theorem dX2_signOf_14 : decode cX2_signOf 14 = .ok (.aload_n 0, 1) := by decide +kernel
theorem dX2_signOf_15 : decode cX2_signOf 15 = .ok (.getfield 25, 3) := by decide +kernel
theorem dX2_signOf_18 : decode cX2_signOf 18 = .ok (.iload_n 1, 1) := by decide +kernel
theorem dX2_signOf_19 : decode cX2_signOf 19 = .ok (.invokestatic 50, 3) := by decide +kernel
theorem dX2_signOf_22 : decode cX2_signOf 22 = .ok (.ifCond .eq 8, 3) := by decide +kernel
theorem dX2_signOf_25 : decode cX2_signOf 25 = .ok (.bipush 45, 2) := by decide +kernel
theorem dX2_signOf_27 : decode cX2_signOf 27 = .ok (.goto 5, 3) := by decide +kernel
theorem dX2_signOf_30 : decode cX2_signOf 30 = .ok (.bipush 46, 2) := by decide +kernel
theorem dX2_signOf_32 : decode cX2_signOf 32 = .ok (.ireturn, 1) := by decide +kernel
theorem dX3_init_0 : decode cX3_init 0 = .ok (.aload_n 0, 1) := by decide +kernel
theorem dX3_init_1 : decode cX3_init 1 = .ok (.invokespecial 3, 3) := by decide +kernel
theorem dX3_init_4 : decode cX3_init 4 = .ok (.aload_n 0, 1) := by decide +kernel
theorem dX3_init_5 : decode cX3_init 5 = .ok (.new 9, 3) := by decide +kernel
theorem dX3_init_8 : decode cX3_init 8 = .ok (.dup, 1) := by decide +kernel
theorem dX3_init_9 : decode cX3_init 9 = .ok (.invokespecial 11, 3) := by decide +kernel
theorem dX3_init_12 : decode cX3_init 12 = .ok (.putfield 12, 3) := by decide +kernel
theorem dX3_init_15 : decode cX3_init 15 = .ok (.aload_n 0, 1) := by decide +kernel
theorem dX3_init_16 : decode cX3_init 16 = .ok (.bipush 12, 2) := by decide +kernel
theorem dX3_init_18 : decode cX3_init 18 = .ok (.newarray .int, 2) := by decide +kernel
theorem dX3_init_20 : decode cX3_init 20 = .ok (.putfield 18, 3) := by decide +kernel
theorem dX3_init_23 : decode cX3_init 23 = .ok (.aload_n 0, 1) := by decide +kernel
theorem dX3_init_24 : decode cX3_init 24 = .ok (.bipush 12, 2) := by decide +kernel
theorem dX3_init_26 : decode cX3_init 26 = .ok (.newarray .int, 2) := by decide +kernel
theorem dX3_init_28 : decode cX3_init 28 = .ok (.putfield 22, 3) := by decide +kernel
theorem dX3_init_31 : decode cX3_init 31 = .ok (.aload_n 0, 1) := by decide +kernel
theorem dX3_init_32 : decode cX3_init 32 = .ok (.iconst 4, 1) := by decide +kernel
theorem dX3_init_33 : decode cX3_init 33 = .ok (.anewarray 25, 3) := by decide +kernel
theorem dX3_init_36 : decode cX3_init 36 = .ok (.putfield 27, 3) := by decide +kernel
theorem dX3_init_39 : decode cX3_init 39 = .ok (.aload_n 0, 1) := by decide +kernel
theorem dX3_init_40 : decode cX3_init 40 = .ok (.iconst 0, 1) := by decide +kernel
theorem dX3_init_41 : decode cX3_init 41 = .ok (.putfield 31, 3) := by decide +kernel
theorem dX3_init_44 : decode cX3_init 44 = .ok (.aload_n 0, 1) := by decide +kernel
theorem dX3_init_45 : decode cX3_init 45 = .ok (.iconst 0, 1) := by decide +kernel
theorem dX3_init_46 : decode cX3_init 46 = .ok (.putfield 35, 3) := by decide +kernel
theorem dX3_init_49 : decode cX3_init 49 = .ok (.aload_n 0, 1) := by decide +kernel
theorem dX3_init_50 : decode cX3_init 50 = .ok (.iconst 0, 1) := by decide +kernel
theorem dX3_init_51 : decode cX3_init 51 = .ok (.putfield 38, 3) := by decide +kernel
theorem dX3_init_54 : decode cX3_init 54 = .ok (.aload_n 0, 1) := by decide +kernel
theorem dX3_init_55 : decode cX3_init 55 = .ok (.iconst 0, 1) := by decide +kernel
theorem dX3_init_56 : decode cX3_init 56 = .ok (.putfield 41, 3) := by decide +kernel
theorem dX3_init_59 : decode cX3_init 59 = .ok (.iconst 0, 1) := by decide +kernel
theorem dX3_init_60 : decode cX3_init 60 = .ok (.istore_n 1, 1) := by decide +kernel
theorem dX3_init_61 : decode cX3_init 61 = .ok (.iload_n 1, 1) := by decide +kernel
theorem dX3_init_62 : decode cX3_init 62 = .ok (.iconst 4, 1) := by decide +kernel
theorem dX3_init_63 : decode cX3_init 63 = .ok (.if_icmp .ge 22, 3) := by decide +kernel
theorem dX3_init_66 : decode cX3_init 66 = .ok (.aload_n 0, 1) := by decide +kernel
theorem dX3_init_67 : decode cX3_init 67 = .ok (.getfield 27, 3) := by decide +kernel
theorem dX3_init_70 : decode cX3_init 70 = .ok (.iload_n 1, 1) := by decide +kernel
theorem dX3_init_71 : decode cX3_init 71 = .ok (.new 25, 3) := by decide +kernel
theorem dX3_init_74 : decode cX3_init 74 = .ok (.dup, 1) := by decide +kernel
theorem dX3_init_75 : decode cX3_init 75 = .ok (.invokespecial 44, 3) := by decide +kernel
theorem dX3_init_78 : decode cX3_init 78 = .ok (.aastore, 1) := by decide +kernel
theorem dX3_init_79 : decode cX3_init 79 = .ok (.iinc 1 1, 3) := by decide +kernel
theorem dX3_init_82 : decode cX3_init 82 = .ok (.goto (-21), 3) := by decide +kernel
theorem dX3_init_85 : decode cX3_init 85 = .ok (.return_, 1) := by decide +kernel
theorem dX3_copyFrom_0 : decode cX3_copyFrom 0 = .ok (.aload_n 0, 1) := by decide +kernel
theorem dX3_copyFrom_1 : decode cX3_copyFrom 1 = .ok (.getfield 12, 3) := by decide +kernel
theorem dX3_copyFrom_4 : decode cX3_copyFrom 4 = .ok (.aload_n 1, 1) := by decide +kernel
theorem dX3_copyFrom_5 : decode cX3_copyFrom 5 = .ok (.getfield 12, 3) := by decide +kernel
theorem dX3_copyFrom_8 : decode cX3_copyFrom 8 = .ok (.invokevirtual 45, 3) := by decide +kernel
theorem dX3_copyFrom_11 : decode cX3_copyFrom 11 = .ok (.aload_n 1, 1) := by decide +kernel
theorem dX3_copyFrom_12 : decode cX3_copyFrom 12 = .ok (.getfield 18, 3) := by decide +kernel
theorem dX3_copyFrom_15 : decode cX3_copyFrom 15 = .ok (.iconst 0, 1) := by decide +kernel
theorem dX3_copyFrom_16 : decode cX3_copyFrom 16 = .ok (.aload_n 0, 1) := by decide +kernel
theorem dX3_copyFrom_17 : decode cX3_copyFrom 17 = .ok (.getfield 18, 3) := by decide +kernel
theorem dX3_copyFrom_20 : decode cX3_copyFrom 20 = .ok (.iconst 0, 1) := by decide +kernel
theorem dX3_copyFrom_21 : decode cX3_copyFrom 21 = .ok (.bipush 12, 2) := by decide +kernel
theorem dX3_copyFrom_23 : decode cX3_copyFrom 23 = .ok (.invokestatic 49, 3) := by decide +kernel
theorem dX3_copyFrom_26 : decode cX3_copyFrom 26 = .ok (.aload_n 1, 1) := by decide +kernel
theorem dX3_copyFrom_27 : decode cX3_copyFrom 27 = .ok (.getfield 22, 3) := by decide +kernel
theorem dX3_copyFrom_30 : decode cX3_copyFrom 30 = .ok (.iconst 0, 1) := by decide +kernel
theorem dX3_copyFrom_31 : decode cX3_copyFrom 31 = .ok (.aload_n 0, 1) := by decide +kernel
theorem dX3_copyFrom_32 : decode cX3_copyFrom 32 = .ok (.getfield 22, 3) := by decide +kernel
theorem dX3_copyFrom_35 : decode cX3_copyFrom 35 = .ok (.iconst 0, 1) := by decide +kernel
theorem dX3_copyFrom_36 : decode cX3_copyFrom 36 = .ok (.bipush 12, 2) := by decide +kernel
theorem dX3_copyFrom_38 : decode cX3_copyFrom 38 = .ok (.invokestatic 49, 3) := by decide +kernel
theorem dX3_copyFrom_41 : decode cX3_copyFrom 41 = .ok (.iconst 0, 1) := by decide +kernel
theorem dX3_copyFrom_42 : decode cX3_copyFrom 42 = .ok (.istore_n 2, 1) := by decide +kernel
theorem dX3_copyFrom_43 : decode cX3_copyFrom 43 = .ok (.iload_n 2, 1) := by decide +kernel
theorem dX3_copyFrom_44 : decode cX3_copyFrom 44 = .ok (.iconst 4, 1) := by decide +kernel
theorem dX3_copyFrom_45 : decode cX3_copyFrom 45 = .ok (.if_icmp .ge 24, 3) := by decide +kernel
theorem dX3_copyFrom_48 : decode cX3_copyFrom 48 = .ok (.aload_n 0, 1) := by decide +kernel
theorem dX3_copyFrom_49 : decode cX3_copyFrom 49 = .ok (.getfield 27, 3) := by decide +kernel
theorem dX3_copyFrom_52 : decode cX3_copyFrom 52 = .ok (.iload_n 2, 1) := by decide +kernel
theorem dX3_copyFrom_53 : decode cX3_copyFrom 53 = .ok (.aaload, 1) := by decide +kernel
theorem dX3_copyFrom_54 : decode cX3_copyFrom 54 = .ok (.aload_n 1, 1) := by decide +kernel
theorem dX3_copyFrom_55 : decode cX3_copyFrom 55 = .ok (.getfield 27, 3) := by decide +kernel
theorem dX3_copyFrom_58 : decode cX3_copyFrom 58 = .ok (.iload_n 2, 1) := by decide +kernel
theorem dX3_copyFrom_59 : decode cX3_copyFrom 59 = .ok (.aaload, 1) := by decide +kernel
theorem dX3_copyFrom_60 : decode cX3_copyFrom 60 = .ok (.invokevirtual 55, 3) := by decide +kernel
theorem dX3_copyFrom_63 : decode cX3_copyFrom 63 = .ok (.iinc 2 1, 3) := by decide +kernel
theorem dX3_copyFrom_66 : decode cX3_copyFrom 66 = .ok (.goto (-23), 3) := by decide +kernel
theorem dX3_copyFrom_69 : decode cX3_copyFrom 69 = .ok (.aload_n 0, 1) := by decide +kernel
theorem dX3_copyFrom_70 : decode cX3_copyFrom 70 = .ok (.aload_n 1, 1) := by decide +kernel
theorem dX3_copyFrom_71 : decode cX3_copyFrom 71 = .ok (.getfield 31, 3) := by decide +kernel
theorem dX3_copyFrom_74 : decode cX3_copyFrom 74 = .ok (.putfield 31, 3) := by decide +kernel
theorem dX3_copyFrom_77 : decode cX3_copyFrom 77 = .ok (.aload_n 0, 1) := by decide +kernel
theorem dX3_copyFrom_78 : decode cX3_copyFrom 78 = .ok (.aload_n 1, 1) := by decide +kernel
theorem dX3_copyFrom_79 : decode cX3_copyFrom 79 = .ok (.getfield 35, 3) := by decide +kernel
theorem dX3_copyFrom_82 : decode cX3_copyFrom 82 = .ok (.putfield 35, 3) := by decide +kernel
theorem dX3_copyFrom_85 : decode cX3_copyFrom 85 = .ok (.aload_n 0, 1) := by decide +kernel
theorem dX3_copyFrom_86 : decode cX3_copyFrom 86 = .ok (.aload_n 1, 1) := by decide +kernel
theorem dX3_copyFrom_87 : decode cX3_copyFrom 87 = .ok (.getfield 38, 3) := by decide +kernel
theorem dX3_copyFrom_90 : decode cX3_copyFrom 90 = .ok (.putfield 38, 3) := by decide +kernel
theorem dX3_copyFrom_93 : decode cX3_copyFrom 93 = .ok (.aload_n 0, 1) := by decide +kernel
theorem dX3_copyFrom_94 : decode cX3_copyFrom 94 = .ok (.aload_n 1, 1) := by decide +kernel
theorem dX3_copyFrom_95 : decode cX3_copyFrom 95 = .ok (.getfield 41, 3) := by decide +kernel
theorem dX3_copyFrom_98 : decode cX3_copyFrom 98 = .ok (.putfield 41, 3) := by decide +kernel
theorem dX3_copyFrom_101 : decode cX3_copyFrom 101 = .ok (.return_, 1) := by decide +kernel
theorem dX3_hasListener_0 : decode cX3_hasListener 0 = .ok (.iload_n 1, 1) := by decide +kernel
theorem dX3_hasListener_1 : decode cX3_hasListener 1 = .ok (.ifCond .lt 18, 3) := by decide +kernel
theorem dX3_hasListener_4 : decode cX3_hasListener 4 = .ok (.iload_n 1, 1) := by decide +kernel
theorem dX3_hasListener_5 : decode cX3_hasListener 5 = .ok (.aload_n 0, 1) := by decide +kernel
theorem dX3_hasListener_6 : decode cX3_hasListener 6 = .ok (.getfield 12, 3) := by decide +kernel
theorem dX3_hasListener_9 : decode cX3_hasListener 9 = .ok (.getfield 58, 3) := by decide +kernel
theorem dX3_hasListener_12 : decode cX3_hasListener 12 = .ok (.if_icmp .ge 7, 3) := by decide +kernel
theorem dX3_hasListener_15 : decode cX3_hasListener 15 = .ok (.iconst 1, 1) := by decide +kernel
theorem dX3_hasListener_16 : decode cX3_hasListener 16 = .ok (.goto 4, 3) := by decide +kernel
theorem dX3_hasListener_19 : decode cX3_hasListener 19 = .ok (.iconst 0, 1) := by decide +kernel
theorem dX3_hasListener_20 : decode cX3_hasListener 20 = .ok (.ireturn, 1) := by decide +kernel
theorem dX3_hasRumour_0 : decode cX3_hasRumour 0 = .ok (.iload_n 1, 1) := by decide +kernel
theorem dX3_hasRumour_1 : decode cX3_hasRumour 1 = .ok (.ifCond .lt 15, 3) := by decide +kernel
theorem dX3_hasRumour_4 : decode cX3_hasRumour 4 = .ok (.iload_n 1, 1) := by decide +kernel
theorem dX3_hasRumour_5 : decode cX3_hasRumour 5 = .ok (.aload_n 0, 1) := by decide +kernel
theorem dX3_hasRumour_6 : decode cX3_hasRumour 6 = .ok (.getfield 31, 3) := by decide +kernel
theorem dX3_hasRumour_9 : decode cX3_hasRumour 9 = .ok (.if_icmp .ge 7, 3) := by decide +kernel
theorem dX3_hasRumour_12 : decode cX3_hasRumour 12 = .ok (.iconst 1, 1) := by decide +kernel
theorem dX3_hasRumour_13 : decode cX3_hasRumour 13 = .ok (.goto 4, 3) := by decide +kernel
theorem dX3_hasRumour_16 : decode cX3_hasRumour 16 = .ok (.iconst 0, 1) := by decide +kernel
theorem dX3_hasRumour_17 : decode cX3_hasRumour 17 = .ok (.ireturn, 1) := by decide +kernel
theorem dX3_refusalToAdd_0 : decode cX3_refusalToAdd 0 = .ok (.iload_n 1, 1) := by decide +kernel
theorem dX3_refusalToAdd_1 : decode cX3_refusalToAdd 1 = .ok (.invokestatic 61, 3) := by decide +kernel
theorem dX3_refusalToAdd_4 : decode cX3_refusalToAdd 4 = .ok (.ifCond .eq 10, 3) := by decide +kernel
theorem dX3_refusalToAdd_7 : decode cX3_refusalToAdd 7 = .ok (.iload_n 2, 1) := by decide +kernel
theorem dX3_refusalToAdd_8 : decode cX3_refusalToAdd 8 = .ok (.invokestatic 65, 3) := by decide +kernel
theorem dX3_refusalToAdd_11 : decode cX3_refusalToAdd 11 = .ok (.ifCond .ne 5, 3) := by decide +kernel
theorem dX3_refusalToAdd_14 : decode cX3_refusalToAdd 14 = .ok (.iconst 2, 1) := by decide +kernel
theorem dX3_refusalToAdd_15 : decode cX3_refusalToAdd 15 = .ok (.ireturn, 1) := by decide +kernel
theorem dX3_refusalToAdd_16 : decode cX3_refusalToAdd 16 = .ok (.aload_n 0, 1) := by decide +kernel
theorem dX3_refusalToAdd_17 : decode cX3_refusalToAdd 17 = .ok (.getfield 12, 3) := by decide +kernel
theorem dX3_refusalToAdd_20 : decode cX3_refusalToAdd 20 = .ok (.getfield 58, 3) := by decide +kernel
theorem dX3_refusalToAdd_23 : decode cX3_refusalToAdd 23 = .ok (.bipush 12, 2) := by decide +kernel
theorem dX3_refusalToAdd_25 : decode cX3_refusalToAdd 25 = .ok (.if_icmp .ge 7, 3) := by decide +kernel
theorem dX3_refusalToAdd_28 : decode cX3_refusalToAdd 28 = .ok (.iconst 0, 1) := by decide +kernel
theorem dX3_refusalToAdd_29 : decode cX3_refusalToAdd 29 = .ok (.goto 4, 3) := by decide +kernel
theorem dX3_refusalToAdd_32 : decode cX3_refusalToAdd 32 = .ok (.iconst 3, 1) := by decide +kernel
theorem dX3_refusalToAdd_33 : decode cX3_refusalToAdd 33 = .ok (.ireturn, 1) := by decide +kernel
theorem dX3_add_0 : decode cX3_add 0 = .ok (.aload_n 0, 1) := by decide +kernel
theorem dX3_add_1 : decode cX3_add 1 = .ok (.getfield 12, 3) := by decide +kernel
theorem dX3_add_4 : decode cX3_add 4 = .ok (.getfield 58, 3) := by decide +kernel
theorem dX3_add_7 : decode cX3_add 7 = .ok (.istore_n 3, 1) := by decide +kernel
theorem dX3_add_8 : decode cX3_add 8 = .ok (.aload_n 0, 1) := by decide +kernel
theorem dX3_add_9 : decode cX3_add 9 = .ok (.getfield 18, 3) := by decide +kernel
theorem dX3_add_12 : decode cX3_add 12 = .ok (.iload_n 3, 1) := by decide +kernel
theorem dX3_add_13 : decode cX3_add 13 = .ok (.iload_n 1, 1) := by decide +kernel
theorem dX3_add_14 : decode cX3_add 14 = .ok (.iastore, 1) := by decide +kernel
theorem dX3_add_15 : decode cX3_add 15 = .ok (.aload_n 0, 1) := by decide +kernel
theorem dX3_add_16 : decode cX3_add 16 = .ok (.getfield 22, 3) := by decide +kernel
theorem dX3_add_19 : decode cX3_add 19 = .ok (.iload_n 3, 1) := by decide +kernel
theorem dX3_add_20 : decode cX3_add 20 = .ok (.iload_n 2, 1) := by decide +kernel
theorem dX3_add_21 : decode cX3_add 21 = .ok (.iastore, 1) := by decide +kernel
theorem dX3_add_22 : decode cX3_add 22 = .ok (.aload_n 0, 1) := by decide +kernel
theorem dX3_add_23 : decode cX3_add 23 = .ok (.getfield 12, 3) := by decide +kernel
theorem dX3_add_26 : decode cX3_add 26 = .ok (.dup, 1) := by decide +kernel
theorem dX3_add_27 : decode cX3_add 27 = .ok (.getfield 58, 3) := by decide +kernel
theorem dX3_add_30 : decode cX3_add 30 = .ok (.iconst 1, 1) := by decide +kernel
theorem dX3_add_31 : decode cX3_add 31 = .ok (.iadd, 1) := by decide +kernel
theorem dX3_add_32 : decode cX3_add 32 = .ok (.putfield 58, 3) := by decide +kernel
theorem dX3_add_35 : decode cX3_add 35 = .ok (.iload_n 3, 1) := by decide +kernel
theorem dX3_add_36 : decode cX3_add 36 = .ok (.ireturn, 1) := by decide +kernel
theorem dX3_refusalToJoin_0 : decode cX3_refusalToJoin 0 = .ok (.aload_n 0, 1) := by decide +kernel
theorem dX3_refusalToJoin_1 : decode cX3_refusalToJoin 1 = .ok (.iload_n 1, 1) := by decide +kernel
theorem dX3_refusalToJoin_2 : decode cX3_refusalToJoin 2 = .ok (.invokevirtual 68, 3) := by decide +kernel
theorem dX3_refusalToJoin_5 : decode cX3_refusalToJoin 5 = .ok (.ifCond .eq 11, 3) := by decide +kernel
theorem dX3_refusalToJoin_8 : decode cX3_refusalToJoin 8 = .ok (.aload_n 0, 1) := by decide +kernel
theorem dX3_refusalToJoin_9 : decode cX3_refusalToJoin 9 = .ok (.iload_n 2, 1) := by decide +kernel
theorem dX3_refusalToJoin_10 : decode cX3_refusalToJoin 10 = .ok (.invokevirtual 68, 3) := by decide +kernel
theorem dX3_refusalToJoin_13 : decode cX3_refusalToJoin 13 = .ok (.ifCond .ne 5, 3) := by decide +kernel
theorem dX3_refusalToJoin_16 : decode cX3_refusalToJoin 16 = .ok (.iconst 1, 1) := by decide +kernel
theorem dX3_refusalToJoin_17 : decode cX3_refusalToJoin 17 = .ok (.ireturn, 1) := by decide +kernel
theorem dX3_refusalToJoin_18 : decode cX3_refusalToJoin 18 = .ok (.iload_n 1, 1) := by decide +kernel
theorem dX3_refusalToJoin_19 : decode cX3_refusalToJoin 19 = .ok (.iload_n 2, 1) := by decide +kernel
theorem dX3_refusalToJoin_20 : decode cX3_refusalToJoin 20 = .ok (.if_icmp .ne 5, 3) := by decide +kernel
theorem dX3_refusalToJoin_23 : decode cX3_refusalToJoin 23 = .ok (.iconst 2, 1) := by decide +kernel
theorem dX3_refusalToJoin_24 : decode cX3_refusalToJoin 24 = .ok (.ireturn, 1) := by decide +kernel
theorem dX3_refusalToJoin_25 : decode cX3_refusalToJoin 25 = .ok (.aload_n 0, 1) := by decide +kernel
theorem dX3_refusalToJoin_26 : decode cX3_refusalToJoin 26 = .ok (.getfield 12, 3) := by decide +kernel
theorem dX3_refusalToJoin_29 : decode cX3_refusalToJoin 29 = .ok (.iload_n 1, 1) := by decide +kernel
theorem dX3_refusalToJoin_30 : decode cX3_refusalToJoin 30 = .ok (.iload_n 2, 1) := by decide +kernel
theorem dX3_refusalToJoin_31 : decode cX3_refusalToJoin 31 = .ok (.invokevirtual 71, 3) := by decide +kernel
theorem dX3_refusalToJoin_34 : decode cX3_refusalToJoin 34 = .ok (.ifCond .eq 7, 3) := by decide +kernel
theorem dX3_refusalToJoin_37 : decode cX3_refusalToJoin 37 = .ok (.iconst 3, 1) := by decide +kernel
theorem dX3_refusalToJoin_38 : decode cX3_refusalToJoin 38 = .ok (.goto 4, 3) := by decide +kernel
theorem dX3_refusalToJoin_41 : decode cX3_refusalToJoin 41 = .ok (.iconst 0, 1) := by decide +kernel
theorem dX3_refusalToJoin_42 : decode cX3_refusalToJoin 42 = .ok (.ireturn, 1) := by decide +kernel
theorem dX3_refusalToCut_0 : decode cX3_refusalToCut 0 = .ok (.aload_n 0, 1) := by decide +kernel
theorem dX3_refusalToCut_1 : decode cX3_refusalToCut 1 = .ok (.iload_n 1, 1) := by decide +kernel
theorem dX3_refusalToCut_2 : decode cX3_refusalToCut 2 = .ok (.invokevirtual 68, 3) := by decide +kernel
theorem dX3_refusalToCut_5 : decode cX3_refusalToCut 5 = .ok (.ifCond .eq 11, 3) := by decide +kernel
theorem dX3_refusalToCut_8 : decode cX3_refusalToCut 8 = .ok (.aload_n 0, 1) := by decide +kernel
theorem dX3_refusalToCut_9 : decode cX3_refusalToCut 9 = .ok (.iload_n 2, 1) := by decide +kernel
theorem dX3_refusalToCut_10 : decode cX3_refusalToCut 10 = .ok (.invokevirtual 68, 3) := by decide +kernel
theorem dX3_refusalToCut_13 : decode cX3_refusalToCut 13 = .ok (.ifCond .ne 5, 3) := by decide +kernel
theorem dX3_refusalToCut_16 : decode cX3_refusalToCut 16 = .ok (.iconst 1, 1) := by decide +kernel
theorem dX3_refusalToCut_17 : decode cX3_refusalToCut 17 = .ok (.ireturn, 1) := by decide +kernel
theorem dX3_refusalToCut_18 : decode cX3_refusalToCut 18 = .ok (.aload_n 0, 1) := by decide +kernel
theorem dX3_refusalToCut_19 : decode cX3_refusalToCut 19 = .ok (.getfield 12, 3) := by decide +kernel
theorem dX3_refusalToCut_22 : decode cX3_refusalToCut 22 = .ok (.iload_n 1, 1) := by decide +kernel
theorem dX3_refusalToCut_23 : decode cX3_refusalToCut 23 = .ok (.iload_n 2, 1) := by decide +kernel
theorem dX3_refusalToCut_24 : decode cX3_refusalToCut 24 = .ok (.invokevirtual 71, 3) := by decide +kernel
theorem dX3_refusalToCut_27 : decode cX3_refusalToCut 27 = .ok (.ifCond .eq 7, 3) := by decide +kernel
theorem dX3_refusalToCut_30 : decode cX3_refusalToCut 30 = .ok (.iconst 0, 1) := by decide +kernel
theorem dX3_refusalToCut_31 : decode cX3_refusalToCut 31 = .ok (.goto 4, 3) := by decide +kernel
theorem dX3_refusalToCut_34 : decode cX3_refusalToCut 34 = .ok (.iconst 4, 1) := by decide +kernel
theorem dX3_refusalToCut_35 : decode cX3_refusalToCut 35 = .ok (.ireturn, 1) := by decide +kernel
theorem dX3_refusalToMove_0 : decode cX3_refusalToMove 0 = .ok (.aload_n 0, 1) := by decide +kernel
theorem dX3_refusalToMove_1 : decode cX3_refusalToMove 1 = .ok (.iload_n 1, 1) := by decide +kernel
theorem dX3_refusalToMove_2 : decode cX3_refusalToMove 2 = .ok (.invokevirtual 68, 3) := by decide +kernel
theorem dX3_refusalToMove_5 : decode cX3_refusalToMove 5 = .ok (.ifCond .ne 5, 3) := by decide +kernel
theorem dX3_refusalToMove_8 : decode cX3_refusalToMove 8 = .ok (.iconst 1, 1) := by decide +kernel
theorem dX3_refusalToMove_9 : decode cX3_refusalToMove 9 = .ok (.ireturn, 1) := by decide +kernel
theorem dX3_refusalToMove_10 : decode cX3_refusalToMove 10 = .ok (.iload_n 2, 1) := by decide +kernel
theorem dX3_refusalToMove_11 : decode cX3_refusalToMove 11 = .ok (.invokestatic 61, 3) := by decide +kernel
theorem dX3_refusalToMove_14 : decode cX3_refusalToMove 14 = .ok (.ifCond .ne 5, 3) := by decide +kernel
theorem dX3_refusalToMove_17 : decode cX3_refusalToMove 17 = .ok (.iconst 2, 1) := by decide +kernel
theorem dX3_refusalToMove_18 : decode cX3_refusalToMove 18 = .ok (.ireturn, 1) := by decide +kernel
theorem dX3_refusalToMove_19 : decode cX3_refusalToMove 19 = .ok (.aload_n 0, 1) := by decide +kernel
theorem dX3_refusalToMove_20 : decode cX3_refusalToMove 20 = .ok (.getfield 18, 3) := by decide +kernel
theorem dX3_refusalToMove_23 : decode cX3_refusalToMove 23 = .ok (.iload_n 1, 1) := by decide +kernel
theorem dX3_refusalToMove_24 : decode cX3_refusalToMove 24 = .ok (.iaload, 1) := by decide +kernel
theorem dX3_refusalToMove_25 : decode cX3_refusalToMove 25 = .ok (.iload_n 2, 1) := by decide +kernel
theorem dX3_refusalToMove_26 : decode cX3_refusalToMove 26 = .ok (.if_icmp .ne 7, 3) := by decide +kernel
theorem dX3_refusalToMove_29 : decode cX3_refusalToMove 29 = .ok (.iconst 3, 1) := by decide +kernel
theorem dX3_refusalToMove_30 : decode cX3_refusalToMove 30 = .ok (.goto 4, 3) := by decide +kernel
theorem dX3_refusalToMove_33 : decode cX3_refusalToMove 33 = .ok (.iconst 0, 1) := by decide +kernel
theorem dX3_refusalToMove_34 : decode cX3_refusalToMove 34 = .ok (.ireturn, 1) := by decide +kernel
theorem dX3_move_0 : decode cX3_move 0 = .ok (.aload_n 0, 1) := by decide +kernel
theorem dX3_move_1 : decode cX3_move 1 = .ok (.getfield 18, 3) := by decide +kernel
theorem dX3_move_4 : decode cX3_move 4 = .ok (.iload_n 1, 1) := by decide +kernel
theorem dX3_move_5 : decode cX3_move 5 = .ok (.iaload, 1) := by decide +kernel
theorem dX3_move_6 : decode cX3_move 6 = .ok (.istore_n 3, 1) := by decide +kernel
theorem dX3_move_7 : decode cX3_move 7 = .ok (.aload_n 0, 1) := by decide +kernel
theorem dX3_move_8 : decode cX3_move 8 = .ok (.getfield 18, 3) := by decide +kernel
theorem dX3_move_11 : decode cX3_move 11 = .ok (.iload_n 1, 1) := by decide +kernel
theorem dX3_move_12 : decode cX3_move 12 = .ok (.iload_n 2, 1) := by decide +kernel
theorem dX3_move_13 : decode cX3_move 13 = .ok (.iastore, 1) := by decide +kernel
theorem dX3_move_14 : decode cX3_move 14 = .ok (.iload_n 3, 1) := by decide +kernel
theorem dX3_move_15 : decode cX3_move 15 = .ok (.ireturn, 1) := by decide +kernel
theorem dX3_refusalToStart_0 : decode cX3_refusalToStart 0 = .ok (.aload_n 0, 1) := by decide +kernel
theorem dX3_refusalToStart_1 : decode cX3_refusalToStart 1 = .ok (.iload_n 1, 1) := by decide +kernel
theorem dX3_refusalToStart_2 : decode cX3_refusalToStart 2 = .ok (.invokevirtual 68, 3) := by decide +kernel
theorem dX3_refusalToStart_5 : decode cX3_refusalToStart 5 = .ok (.ifCond .ne 5, 3) := by decide +kernel
theorem dX3_refusalToStart_8 : decode cX3_refusalToStart 8 = .ok (.iconst 1, 1) := by decide +kernel
theorem dX3_refusalToStart_9 : decode cX3_refusalToStart 9 = .ok (.ireturn, 1) := by decide +kernel
theorem dX3_refusalToStart_10 : decode cX3_refusalToStart 10 = .ok (.iload_n 2, 1) := by decide +kernel
theorem dX3_refusalToStart_11 : decode cX3_refusalToStart 11 = .ok (.invokestatic 65, 3) := by decide +kernel
theorem dX3_refusalToStart_14 : decode cX3_refusalToStart 14 = .ok (.ifCond .ne 5, 3) := by decide +kernel
theorem dX3_refusalToStart_17 : decode cX3_refusalToStart 17 = .ok (.iconst 2, 1) := by decide +kernel
theorem dX3_refusalToStart_18 : decode cX3_refusalToStart 18 = .ok (.ireturn, 1) := by decide +kernel
theorem dX3_refusalToStart_19 : decode cX3_refusalToStart 19 = .ok (.aload_n 0, 1) := by decide +kernel
theorem dX3_refusalToStart_20 : decode cX3_refusalToStart 20 = .ok (.getfield 31, 3) := by decide +kernel
theorem dX3_refusalToStart_23 : decode cX3_refusalToStart 23 = .ok (.iconst 4, 1) := by decide +kernel
theorem dX3_refusalToStart_24 : decode cX3_refusalToStart 24 = .ok (.if_icmp .ge 7, 3) := by decide +kernel
theorem dX3_refusalToStart_27 : decode cX3_refusalToStart 27 = .ok (.iconst 0, 1) := by decide +kernel
theorem dX3_refusalToStart_28 : decode cX3_refusalToStart 28 = .ok (.goto 4, 3) := by decide +kernel
theorem dX3_refusalToStart_31 : decode cX3_refusalToStart 31 = .ok (.iconst 3, 1) := by decide +kernel
theorem dX3_refusalToStart_32 : decode cX3_refusalToStart 32 = .ok (.ireturn, 1) := by decide +kernel
theorem dX3_begin_0 : decode cX3_begin 0 = .ok (.aload_n 0, 1) := by decide +kernel
theorem dX3_begin_1 : decode cX3_begin 1 = .ok (.getfield 31, 3) := by decide +kernel
theorem dX3_begin_4 : decode cX3_begin 4 = .ok (.istore_n 3, 1) := by decide +kernel
theorem dX3_begin_5 : decode cX3_begin 5 = .ok (.aload_n 0, 1) := by decide +kernel
theorem dX3_begin_6 : decode cX3_begin 6 = .ok (.getfield 27, 3) := by decide +kernel
theorem dX3_begin_9 : decode cX3_begin 9 = .ok (.iload_n 3, 1) := by decide +kernel
theorem dX3_begin_10 : decode cX3_begin 10 = .ok (.aaload, 1) := by decide +kernel
theorem dX3_begin_11 : decode cX3_begin 11 = .ok (.iload_n 1, 1) := by decide +kernel
theorem dX3_begin_12 : decode cX3_begin 12 = .ok (.iload_n 2, 1) := by decide +kernel
theorem dX3_begin_13 : decode cX3_begin 13 = .ok (.aload_n 0, 1) := by decide +kernel
theorem dX3_begin_14 : decode cX3_begin 14 = .ok (.getfield 35, 3) := by decide +kernel
theorem dX3_begin_17 : decode cX3_begin 17 = .ok (.invokevirtual 75, 3) := by decide +kernel
theorem dX3_begin_20 : decode cX3_begin 20 = .ok (.aload_n 0, 1) := by decide +kernel
theorem dX3_begin_21 : decode cX3_begin 21 = .ok (.dup, 1) := by decide +kernel
theorem dX3_begin_22 : decode cX3_begin 22 = .ok (.getfield 31, 3) := by decide +kernel
theorem dX3_begin_25 : decode cX3_begin 25 = .ok (.iconst 1, 1) := by decide +kernel
theorem dX3_begin_26 : decode cX3_begin 26 = .ok (.iadd, 1) := by decide +kernel
theorem dX3_begin_27 : decode cX3_begin 27 = .ok (.putfield 31, 3) := by decide +kernel
theorem dX3_begin_30 : decode cX3_begin 30 = .ok (.iload_n 3, 1) := by decide +kernel
theorem dX3_begin_31 : decode cX3_begin 31 = .ok (.ireturn, 1) := by decide +kernel
theorem dX3_refusalToConvert_0 : decode cX3_refusalToConvert 0 = .ok (.aload_n 0, 1) := by decide +kernel
theorem dX3_refusalToConvert_1 : decode cX3_refusalToConvert 1 = .ok (.iload_n 1, 1) := by decide +kernel
theorem dX3_refusalToConvert_2 : decode cX3_refusalToConvert 2 = .ok (.invokevirtual 79, 3) := by decide +kernel
theorem dX3_refusalToConvert_5 : decode cX3_refusalToConvert 5 = .ok (.ifCond .eq 11, 3) := by decide +kernel
theorem dX3_refusalToConvert_8 : decode cX3_refusalToConvert 8 = .ok (.aload_n 0, 1) := by decide +kernel
theorem dX3_refusalToConvert_9 : decode cX3_refusalToConvert 9 = .ok (.iload_n 2, 1) := by decide +kernel
theorem dX3_refusalToConvert_10 : decode cX3_refusalToConvert 10 = .ok (.invokevirtual 68, 3) := by decide +kernel
theorem dX3_refusalToConvert_13 : decode cX3_refusalToConvert 13 = .ok (.ifCond .ne 5, 3) := by decide +kernel
theorem dX3_refusalToConvert_16 : decode cX3_refusalToConvert 16 = .ok (.iconst 1, 1) := by decide +kernel
theorem dX3_refusalToConvert_17 : decode cX3_refusalToConvert 17 = .ok (.ireturn, 1) := by decide +kernel
theorem dX3_refusalToConvert_18 : decode cX3_refusalToConvert 18 = .ok (.aload_n 0, 1) := by decide +kernel
theorem dX3_refusalToConvert_19 : decode cX3_refusalToConvert 19 = .ok (.getfield 27, 3) := by decide +kernel
theorem dX3_refusalToConvert_22 : decode cX3_refusalToConvert 22 = .ok (.iload_n 1, 1) := by decide +kernel
theorem dX3_refusalToConvert_23 : decode cX3_refusalToConvert 23 = .ok (.aaload, 1) := by decide +kernel
theorem dX3_refusalToConvert_24 : decode cX3_refusalToConvert 24 = .ok (.getfield 82, 3) := by decide +kernel
theorem dX3_refusalToConvert_27 : decode cX3_refusalToConvert 27 = .ok (.iload_n 2, 1) := by decide +kernel
theorem dX3_refusalToConvert_28 : decode cX3_refusalToConvert 28 = .ok (.invokestatic 85, 3) := by decide +kernel
theorem dX3_refusalToConvert_31 : decode cX3_refusalToConvert 31 = .ok (.ifCond .eq 7, 3) := by decide +kernel
theorem dX3_refusalToConvert_34 : decode cX3_refusalToConvert 34 = .ok (.iconst 0, 1) := by decide +kernel
theorem dX3_refusalToConvert_35 : decode cX3_refusalToConvert 35 = .ok (.goto 4, 3) := by decide +kernel
theorem dX3_refusalToConvert_38 : decode cX3_refusalToConvert 38 = .ok (.iconst 3, 1) := by decide +kernel
theorem dX3_refusalToConvert_39 : decode cX3_refusalToConvert 39 = .ok (.ireturn, 1) := by decide +kernel
theorem dX3_convert_0 : decode cX3_convert 0 = .ok (.aload_n 0, 1) := by decide +kernel
theorem dX3_convert_1 : decode cX3_convert 1 = .ok (.getfield 27, 3) := by decide +kernel
theorem dX3_convert_4 : decode cX3_convert 4 = .ok (.iload_n 1, 1) := by decide +kernel
theorem dX3_convert_5 : decode cX3_convert 5 = .ok (.aaload, 1) := by decide +kernel
theorem dX3_convert_6 : decode cX3_convert 6 = .ok (.astore_n 3, 1) := by decide +kernel
theorem dX3_convert_7 : decode cX3_convert 7 = .ok (.aload_n 0, 1) := by decide +kernel
theorem dX3_convert_8 : decode cX3_convert 8 = .ok (.getfield 22, 3) := by decide +kernel
theorem dX3_convert_11 : decode cX3_convert 11 = .ok (.iload_n 2, 1) := by decide +kernel
theorem dX3_convert_12 : decode cX3_convert 12 = .ok (.iaload, 1) := by decide +kernel
theorem dX3_convert_13 : decode cX3_convert 13 = .ok (.aload_n 3, 1) := by decide +kernel
theorem dX3_convert_14 : decode cX3_convert 14 = .ok (.getfield 88, 3) := by decide +kernel
theorem dX3_convert_17 : decode cX3_convert 17 = .ok (.if_icmp .gt 5, 3) := by decide +kernel
theorem dX3_convert_20 : decode cX3_convert 20 = .ok (.iconst 0, 1) := by decide +kernel
theorem dX3_convert_21 : decode cX3_convert 21 = .ok (.ireturn, 1) := by decide +kernel
theorem dX3_convert_22 : decode cX3_convert 22 = .ok (.aload_n 3, 1) := by decide +kernel
theorem dX3_convert_23 : decode cX3_convert 23 = .ok (.dup, 1) := by decide +kernel
theorem dX3_convert_24 : decode cX3_convert 24 = .ok (.getfield 82, 3) := by decide +kernel
theorem dX3_convert_27 : decode cX3_convert 27 = .ok (.iconst 1, 1) := by decide +kernel
theorem dX3_convert_28 : decode cX3_convert 28 = .ok (.iload_n 2, 1) := by decide +kernel
theorem dX3_convert_29 : decode cX3_convert 29 = .ok (.ishl, 1) := by decide +kernel
theorem dX3_convert_30 : decode cX3_convert 30 = .ok (.iconst (-1), 1) := by decide +kernel
theorem dX3_convert_31 : decode cX3_convert 31 = .ok (.ixor, 1) := by decide +kernel
theorem dX3_convert_32 : decode cX3_convert 32 = .ok (.iand, 1) := by decide +kernel
theorem dX3_convert_33 : decode cX3_convert 33 = .ok (.putfield 82, 3) := by decide +kernel
theorem dX3_convert_36 : decode cX3_convert 36 = .ok (.aload_n 3, 1) := by decide +kernel
theorem dX3_convert_37 : decode cX3_convert 37 = .ok (.dup, 1) := by decide +kernel
theorem dX3_convert_38 : decode cX3_convert 38 = .ok (.getfield 91, 3) := by decide +kernel
theorem dX3_convert_41 : decode cX3_convert 41 = .ok (.iconst 1, 1) := by decide +kernel
theorem dX3_convert_42 : decode cX3_convert 42 = .ok (.iload_n 2, 1) := by decide +kernel
theorem dX3_convert_43 : decode cX3_convert 43 = .ok (.ishl, 1) := by decide +kernel
theorem dX3_convert_44 : decode cX3_convert 44 = .ok (.ior, 1) := by decide +kernel
theorem dX3_convert_45 : decode cX3_convert 45 = .ok (.putfield 91, 3) := by decide +kernel
theorem dX3_convert_48 : decode cX3_convert 48 = .ok (.aload_n 0, 1) := by decide +kernel
theorem dX3_convert_49 : decode cX3_convert 49 = .ok (.dup, 1) := by decide +kernel
theorem dX3_convert_50 : decode cX3_convert 50 = .ok (.getfield 41, 3) := by decide +kernel
theorem dX3_convert_53 : decode cX3_convert 53 = .ok (.iconst 1, 1) := by decide +kernel
theorem dX3_convert_54 : decode cX3_convert 54 = .ok (.iadd, 1) := by decide +kernel
theorem dX3_convert_55 : decode cX3_convert 55 = .ok (.putfield 41, 3) := by decide +kernel
theorem dX3_convert_58 : decode cX3_convert 58 = .ok (.iconst 1, 1) := by decide +kernel
theorem dX3_convert_59 : decode cX3_convert 59 = .ok (.ireturn, 1) := by decide +kernel
theorem dX3_refusalToSilence_0 : decode cX3_refusalToSilence 0 = .ok (.aload_n 0, 1) := by decide +kernel
theorem dX3_refusalToSilence_1 : decode cX3_refusalToSilence 1 = .ok (.iload_n 1, 1) := by decide +kernel
theorem dX3_refusalToSilence_2 : decode cX3_refusalToSilence 2 = .ok (.invokevirtual 79, 3) := by decide +kernel
theorem dX3_refusalToSilence_5 : decode cX3_refusalToSilence 5 = .ok (.ifCond .ne 5, 3) := by decide +kernel
theorem dX3_refusalToSilence_8 : decode cX3_refusalToSilence 8 = .ok (.iconst 1, 1) := by decide +kernel
theorem dX3_refusalToSilence_9 : decode cX3_refusalToSilence 9 = .ok (.ireturn, 1) := by decide +kernel
theorem dX3_refusalToSilence_10 : decode cX3_refusalToSilence 10 = .ok (.aload_n 0, 1) := by decide +kernel
theorem dX3_refusalToSilence_11 : decode cX3_refusalToSilence 11 = .ok (.getfield 27, 3) := by decide +kernel
theorem dX3_refusalToSilence_14 : decode cX3_refusalToSilence 14 = .ok (.iload_n 1, 1) := by decide +kernel
theorem dX3_refusalToSilence_15 : decode cX3_refusalToSilence 15 = .ok (.aaload, 1) := by decide +kernel
theorem dX3_refusalToSilence_16 : decode cX3_refusalToSilence 16 = .ok (.getfield 94, 3) := by decide +kernel
theorem dX3_refusalToSilence_19 : decode cX3_refusalToSilence 19 = .ok (.ifCond .eq 7, 3) := by decide +kernel
theorem dX3_refusalToSilence_22 : decode cX3_refusalToSilence 22 = .ok (.iconst 0, 1) := by decide +kernel
theorem dX3_refusalToSilence_23 : decode cX3_refusalToSilence 23 = .ok (.goto 4, 3) := by decide +kernel
theorem dX3_refusalToSilence_26 : decode cX3_refusalToSilence 26 = .ok (.iconst 3, 1) := by decide +kernel
theorem dX3_refusalToSilence_27 : decode cX3_refusalToSilence 27 = .ok (.ireturn, 1) := by decide +kernel
theorem dX3_refusalToRevive_0 : decode cX3_refusalToRevive 0 = .ok (.aload_n 0, 1) := by decide +kernel
theorem dX3_refusalToRevive_1 : decode cX3_refusalToRevive 1 = .ok (.iload_n 1, 1) := by decide +kernel
theorem dX3_refusalToRevive_2 : decode cX3_refusalToRevive 2 = .ok (.invokevirtual 79, 3) := by decide +kernel
theorem dX3_refusalToRevive_5 : decode cX3_refusalToRevive 5 = .ok (.ifCond .ne 5, 3) := by decide +kernel
theorem dX3_refusalToRevive_8 : decode cX3_refusalToRevive 8 = .ok (.iconst 1, 1) := by decide +kernel
theorem dX3_refusalToRevive_9 : decode cX3_refusalToRevive 9 = .ok (.ireturn, 1) := by decide +kernel
theorem dX3_refusalToRevive_10 : decode cX3_refusalToRevive 10 = .ok (.iload_n 2, 1) := by decide +kernel
theorem dX3_refusalToRevive_11 : decode cX3_refusalToRevive 11 = .ok (.invokestatic 65, 3) := by decide +kernel
theorem dX3_refusalToRevive_14 : decode cX3_refusalToRevive 14 = .ok (.ifCond .ne 5, 3) := by decide +kernel
theorem dX3_refusalToRevive_17 : decode cX3_refusalToRevive 17 = .ok (.iconst 2, 1) := by decide +kernel
theorem dX3_refusalToRevive_18 : decode cX3_refusalToRevive 18 = .ok (.ireturn, 1) := by decide +kernel
theorem dX3_refusalToRevive_19 : decode cX3_refusalToRevive 19 = .ok (.aload_n 0, 1) := by decide +kernel
theorem dX3_refusalToRevive_20 : decode cX3_refusalToRevive 20 = .ok (.getfield 27, 3) := by decide +kernel
theorem dX3_refusalToRevive_23 : decode cX3_refusalToRevive 23 = .ok (.iload_n 1, 1) := by decide +kernel
theorem dX3_refusalToRevive_24 : decode cX3_refusalToRevive 24 = .ok (.aaload, 1) := by decide +kernel
theorem dX3_refusalToRevive_25 : decode cX3_refusalToRevive 25 = .ok (.getfield 94, 3) := by decide +kernel
theorem dX3_refusalToRevive_28 : decode cX3_refusalToRevive 28 = .ok (.ifCond .eq 7, 3) := by decide +kernel
theorem dX3_refusalToRevive_31 : decode cX3_refusalToRevive 31 = .ok (.iconst 3, 1) := by decide +kernel
theorem dX3_refusalToRevive_32 : decode cX3_refusalToRevive 32 = .ok (.goto 4, 3) := by decide +kernel
theorem dX3_refusalToRevive_35 : decode cX3_refusalToRevive 35 = .ok (.iconst 0, 1) := by decide +kernel
theorem dX3_refusalToRevive_36 : decode cX3_refusalToRevive 36 = .ok (.ireturn, 1) := by decide +kernel
theorem dX3_passRounds_0 : decode cX3_passRounds 0 = .ok (.iconst 0, 1) := by decide +kernel
theorem dX3_passRounds_1 : decode cX3_passRounds 1 = .ok (.istore_n 2, 1) := by decide +kernel
theorem dX3_passRounds_2 : decode cX3_passRounds 2 = .ok (.iconst 0, 1) := by decide +kernel
theorem dX3_passRounds_3 : decode cX3_passRounds 3 = .ok (.istore_n 3, 1) := by decide +kernel
theorem dX3_passRounds_4 : decode cX3_passRounds 4 = .ok (.iload_n 3, 1) := by decide +kernel
theorem dX3_passRounds_5 : decode cX3_passRounds 5 = .ok (.iload_n 1, 1) := by decide +kernel
theorem dX3_passRounds_6 : decode cX3_passRounds 6 = .ok (.if_icmp .ge 91, 3) := by decide +kernel
theorem dX3_passRounds_9 : decode cX3_passRounds 9 = .ok (.iconst 0, 1) := by decide +kernel
theorem dX3_passRounds_10 : decode cX3_passRounds 10 = .ok (.istore 4, 2) := by decide +kernel
theorem dX3_passRounds_12 : decode cX3_passRounds 12 = .ok (.iload 4, 2) := by decide +kernel
theorem dX3_passRounds_14 : decode cX3_passRounds 14 = .ok (.aload_n 0, 1) := by decide +kernel
theorem dX3_passRounds_15 : decode cX3_passRounds 15 = .ok (.getfield 31, 3) := by decide +kernel
theorem dX3_passRounds_18 : decode cX3_passRounds 18 = .ok (.if_icmp .ge 63, 3) := by decide +kernel
theorem dX3_passRounds_21 : decode cX3_passRounds 21 = .ok (.aload_n 0, 1) := by decide +kernel
theorem dX3_passRounds_22 : decode cX3_passRounds 22 = .ok (.getfield 27, 3) := by decide +kernel
theorem dX3_passRounds_25 : decode cX3_passRounds 25 = .ok (.iload 4, 2) := by decide +kernel
theorem dX3_passRounds_27 : decode cX3_passRounds 27 = .ok (.aaload, 1) := by decide +kernel
theorem dX3_passRounds_28 : decode cX3_passRounds 28 = .ok (.invokevirtual 98, 3) := by decide +kernel
theorem dX3_passRounds_31 : decode cX3_passRounds 31 = .ok (.invokestatic 102, 3) := by decide +kernel
theorem dX3_passRounds_34 : decode cX3_passRounds 34 = .ok (.istore 5, 2) := by decide +kernel
theorem dX3_passRounds_36 : decode cX3_passRounds 36 = .ok (.iload_n 2, 1) := by decide +kernel
theorem dX3_passRounds_37 : decode cX3_passRounds 37 = .ok (.aload_n 0, 1) := by decide +kernel
theorem dX3_passRounds_38 : decode cX3_passRounds 38 = .ok (.aload_n 0, 1) := by decide +kernel
theorem dX3_passRounds_39 : decode cX3_passRounds 39 = .ok (.getfield 27, 3) := by decide +kernel
theorem dX3_passRounds_42 : decode cX3_passRounds 42 = .ok (.iload 4, 2) := by decide +kernel
theorem dX3_passRounds_44 : decode cX3_passRounds 44 = .ok (.aaload, 1) := by decide +kernel
theorem dX3_passRounds_45 : decode cX3_passRounds 45 = .ok (.invokevirtual 108, 3) := by decide +kernel
theorem dX3_passRounds_48 : decode cX3_passRounds 48 = .ok (.iadd, 1) := by decide +kernel
theorem dX3_passRounds_49 : decode cX3_passRounds 49 = .ok (.istore_n 2, 1) := by decide +kernel
theorem dX3_passRounds_50 : decode cX3_passRounds 50 = .ok (.aload_n 0, 1) := by decide +kernel
theorem dX3_passRounds_51 : decode cX3_passRounds 51 = .ok (.dup, 1) := by decide +kernel
theorem dX3_passRounds_52 : decode cX3_passRounds 52 = .ok (.getfield 38, 3) := by decide +kernel
theorem dX3_passRounds_55 : decode cX3_passRounds 55 = .ok (.aload_n 0, 1) := by decide +kernel
theorem dX3_passRounds_56 : decode cX3_passRounds 56 = .ok (.getfield 27, 3) := by decide +kernel
theorem dX3_passRounds_59 : decode cX3_passRounds 59 = .ok (.iload 4, 2) := by decide +kernel
theorem dX3_passRounds_61 : decode cX3_passRounds 61 = .ok (.aaload, 1) := by decide +kernel
theorem dX3_passRounds_62 : decode cX3_passRounds 62 = .ok (.invokevirtual 98, 3) := by decide +kernel
theorem dX3_passRounds_65 : decode cX3_passRounds 65 = .ok (.invokestatic 102, 3) := by decide +kernel
theorem dX3_passRounds_68 : decode cX3_passRounds 68 = .ok (.iload 5, 2) := by decide +kernel
theorem dX3_passRounds_70 : decode cX3_passRounds 70 = .ok (.isub, 1) := by decide +kernel
theorem dX3_passRounds_71 : decode cX3_passRounds 71 = .ok (.iadd, 1) := by decide +kernel
theorem dX3_passRounds_72 : decode cX3_passRounds 72 = .ok (.putfield 38, 3) := by decide +kernel
theorem dX3_passRounds_75 : decode cX3_passRounds 75 = .ok (.iinc 4 1, 3) := by decide +kernel
theorem dX3_passRounds_78 : decode cX3_passRounds 78 = .ok (.goto (-66), 3) := by decide +kernel
theorem dX3_passRounds_81 : decode cX3_passRounds 81 = .ok (.aload_n 0, 1) := by decide +kernel
theorem dX3_passRounds_82 : decode cX3_passRounds 82 = .ok (.dup, 1) := by decide +kernel
theorem dX3_passRounds_83 : decode cX3_passRounds 83 = .ok (.getfield 35, 3) := by decide +kernel
theorem dX3_passRounds_86 : decode cX3_passRounds 86 = .ok (.iconst 1, 1) := by decide +kernel
theorem dX3_passRounds_87 : decode cX3_passRounds 87 = .ok (.iadd, 1) := by decide +kernel
theorem dX3_passRounds_88 : decode cX3_passRounds 88 = .ok (.putfield 35, 3) := by decide +kernel
theorem dX3_passRounds_91 : decode cX3_passRounds 91 = .ok (.iinc 3 1, 3) := by decide +kernel
theorem dX3_passRounds_94 : decode cX3_passRounds 94 = .ok (.goto (-90), 3) := by decide +kernel
theorem dX3_passRounds_97 : decode cX3_passRounds 97 = .ok (.iload_n 2, 1) := by decide +kernel
theorem dX3_passRounds_98 : decode cX3_passRounds 98 = .ok (.ireturn, 1) := by decide +kernel
theorem dX3_spreadOnce_0 : decode cX3_spreadOnce 0 = .ok (.aload_n 1, 1) := by decide +kernel
theorem dX3_spreadOnce_1 : decode cX3_spreadOnce 1 = .ok (.getfield 94, 3) := by decide +kernel
theorem dX3_spreadOnce_4 : decode cX3_spreadOnce 4 = .ok (.ifCond .ne 5, 3) := by decide +kernel
theorem dX3_spreadOnce_7 : decode cX3_spreadOnce 7 = .ok (.iconst 0, 1) := by decide +kernel
theorem dX3_spreadOnce_8 : decode cX3_spreadOnce 8 = .ok (.ireturn, 1) := by decide +kernel
theorem dX3_spreadOnce_9 : decode cX3_spreadOnce 9 = .ok (.iconst 0, 1) := by decide +kernel
theorem dX3_spreadOnce_10 : decode cX3_spreadOnce 10 = .ok (.istore_n 2, 1) := by decide +kernel
theorem dX3_spreadOnce_11 : decode cX3_spreadOnce 11 = .ok (.iconst 0, 1) := by decide +kernel
theorem dX3_spreadOnce_12 : decode cX3_spreadOnce 12 = .ok (.istore_n 3, 1) := by decide +kernel
theorem dX3_spreadOnce_13 : decode cX3_spreadOnce 13 = .ok (.iconst 0, 1) := by decide +kernel
theorem dX3_spreadOnce_14 : decode cX3_spreadOnce 14 = .ok (.istore 4, 2) := by decide +kernel
theorem dX3_spreadOnce_16 : decode cX3_spreadOnce 16 = .ok (.iload 4, 2) := by decide +kernel
theorem dX3_spreadOnce_18 : decode cX3_spreadOnce 18 = .ok (.aload_n 0, 1) := by decide +kernel
theorem dX3_spreadOnce_19 : decode cX3_spreadOnce 19 = .ok (.getfield 12, 3) := by decide +kernel
theorem dX3_spreadOnce_22 : decode cX3_spreadOnce 22 = .ok (.getfield 58, 3) := by decide +kernel
theorem dX3_spreadOnce_25 : decode cX3_spreadOnce 25 = .ok (.if_icmp .ge 57, 3) := by decide +kernel
theorem dX3_spreadOnce_28 : decode cX3_spreadOnce 28 = .ok (.aload_n 0, 1) := by decide +kernel
theorem dX3_spreadOnce_29 : decode cX3_spreadOnce 29 = .ok (.aload_n 1, 1) := by decide +kernel
theorem dX3_spreadOnce_30 : decode cX3_spreadOnce 30 = .ok (.iload 4, 2) := by decide +kernel
theorem dX3_spreadOnce_32 : decode cX3_spreadOnce 32 = .ok (.invokevirtual 112, 3) := by decide +kernel
theorem dX3_spreadOnce_35 : decode cX3_spreadOnce 35 = .ok (.ifCond .eq 41, 3) := by decide +kernel
theorem dX3_spreadOnce_38 : decode cX3_spreadOnce 38 = .ok (.aload_n 1, 1) := by decide +kernel
theorem dX3_spreadOnce_39 : decode cX3_spreadOnce 39 = .ok (.getfield 116, 3) := by decide +kernel
theorem dX3_spreadOnce_42 : decode cX3_spreadOnce 42 = .ok (.iload 4, 2) := by decide +kernel
theorem dX3_spreadOnce_44 : decode cX3_spreadOnce 44 = .ok (.aload_n 0, 1) := by decide +kernel
theorem dX3_spreadOnce_45 : decode cX3_spreadOnce 45 = .ok (.getfield 35, 3) := by decide +kernel
theorem dX3_spreadOnce_48 : decode cX3_spreadOnce 48 = .ok (.iastore, 1) := by decide +kernel
theorem dX3_spreadOnce_49 : decode cX3_spreadOnce 49 = .ok (.aload_n 0, 1) := by decide +kernel
theorem dX3_spreadOnce_50 : decode cX3_spreadOnce 50 = .ok (.aload_n 1, 1) := by decide +kernel
theorem dX3_spreadOnce_51 : decode cX3_spreadOnce 51 = .ok (.iload 4, 2) := by decide +kernel
theorem dX3_spreadOnce_53 : decode cX3_spreadOnce 53 = .ok (.invokevirtual 119, 3) := by decide +kernel
theorem dX3_spreadOnce_56 : decode cX3_spreadOnce 56 = .ok (.ifCond .eq 13, 3) := by decide +kernel
theorem dX3_spreadOnce_59 : decode cX3_spreadOnce 59 = .ok (.iload_n 2, 1) := by decide +kernel
theorem dX3_spreadOnce_60 : decode cX3_spreadOnce 60 = .ok (.iconst 1, 1) := by decide +kernel
theorem dX3_spreadOnce_61 : decode cX3_spreadOnce 61 = .ok (.iload 4, 2) := by decide +kernel
theorem dX3_spreadOnce_63 : decode cX3_spreadOnce 63 = .ok (.ishl, 1) := by decide +kernel
theorem dX3_spreadOnce_64 : decode cX3_spreadOnce 64 = .ok (.ior, 1) := by decide +kernel
theorem dX3_spreadOnce_65 : decode cX3_spreadOnce 65 = .ok (.istore_n 2, 1) := by decide +kernel
theorem dX3_spreadOnce_66 : decode cX3_spreadOnce 66 = .ok (.goto 10, 3) := by decide +kernel
theorem dX3_spreadOnce_69 : decode cX3_spreadOnce 69 = .ok (.iload_n 3, 1) := by decide +kernel
theorem dX3_spreadOnce_70 : decode cX3_spreadOnce 70 = .ok (.iconst 1, 1) := by decide +kernel
theorem dX3_spreadOnce_71 : decode cX3_spreadOnce 71 = .ok (.iload 4, 2) := by decide +kernel
theorem dX3_spreadOnce_73 : decode cX3_spreadOnce 73 = .ok (.ishl, 1) := by decide +kernel
theorem dX3_spreadOnce_74 : decode cX3_spreadOnce 74 = .ok (.ior, 1) := by decide +kernel
theorem dX3_spreadOnce_75 : decode cX3_spreadOnce 75 = .ok (.istore_n 3, 1) := by decide +kernel
theorem dX3_spreadOnce_76 : decode cX3_spreadOnce 76 = .ok (.iinc 4 1, 3) := by decide +kernel
theorem dX3_spreadOnce_79 : decode cX3_spreadOnce 79 = .ok (.goto (-63), 3) := by decide +kernel
theorem dX3_spreadOnce_82 : decode cX3_spreadOnce 82 = .ok (.aload_n 1, 1) := by decide +kernel
theorem dX3_spreadOnce_83 : decode cX3_spreadOnce 83 = .ok (.dup, 1) := by decide +kernel
theorem dX3_spreadOnce_84 : decode cX3_spreadOnce 84 = .ok (.getfield 82, 3) := by decide +kernel
theorem dX3_spreadOnce_87 : decode cX3_spreadOnce 87 = .ok (.iload_n 2, 1) := by decide +kernel
theorem dX3_spreadOnce_88 : decode cX3_spreadOnce 88 = .ok (.ior, 1) := by decide +kernel
theorem dX3_spreadOnce_89 : decode cX3_spreadOnce 89 = .ok (.putfield 82, 3) := by decide +kernel
theorem dX3_spreadOnce_92 : decode cX3_spreadOnce 92 = .ok (.aload_n 1, 1) := by decide +kernel
theorem dX3_spreadOnce_93 : decode cX3_spreadOnce 93 = .ok (.dup, 1) := by decide +kernel
theorem dX3_spreadOnce_94 : decode cX3_spreadOnce 94 = .ok (.getfield 91, 3) := by decide +kernel
theorem dX3_spreadOnce_97 : decode cX3_spreadOnce 97 = .ok (.iload_n 3, 1) := by decide +kernel
theorem dX3_spreadOnce_98 : decode cX3_spreadOnce 98 = .ok (.ior, 1) := by decide +kernel
theorem dX3_spreadOnce_99 : decode cX3_spreadOnce 99 = .ok (.putfield 91, 3) := by decide +kernel
theorem dX3_spreadOnce_102 : decode cX3_spreadOnce 102 = .ok (.iload_n 2, 1) := by decide +kernel
theorem dX3_spreadOnce_103 : decode cX3_spreadOnce 103 = .ok (.ifCond .ne 7, 3) := by decide +kernel
theorem dX3_spreadOnce_106 : decode cX3_spreadOnce 106 = .ok (.aload_n 1, 1) := by decide +kernel
theorem dX3_spreadOnce_107 : decode cX3_spreadOnce 107 = .ok (.invokevirtual 122, 3) := by decide +kernel
theorem dX3_spreadOnce_110 : decode cX3_spreadOnce 110 = .ok (.iload_n 2, 1) := by decide +kernel
theorem dX3_spreadOnce_111 : decode cX3_spreadOnce 111 = .ok (.invokestatic 102, 3) := by decide +kernel
theorem dX3_spreadOnce_114 : decode cX3_spreadOnce 114 = .ok (.ireturn, 1) := by decide +kernel
theorem dX3_hears_0 : decode cX3_hears 0 = .ok (.aload_n 1, 1) := by decide +kernel
theorem dX3_hears_1 : decode cX3_hears 1 = .ok (.invokevirtual 98, 3) := by decide +kernel
theorem dX3_hears_4 : decode cX3_hears 4 = .ok (.iload_n 2, 1) := by decide +kernel
theorem dX3_hears_5 : decode cX3_hears 5 = .ok (.invokestatic 85, 3) := by decide +kernel
theorem dX3_hears_8 : decode cX3_hears 8 = .ok (.ifCond .ne 24, 3) := by decide +kernel
theorem dX3_hears_11 : decode cX3_hears 11 = .ok (.aload_n 0, 1) := by decide +kernel
theorem dX3_hears_12 : decode cX3_hears 12 = .ok (.getfield 12, 3) := by decide +kernel
theorem dX3_hears_15 : decode cX3_hears 15 = .ok (.getfield 125, 3) := by decide +kernel
theorem dX3_hears_18 : decode cX3_hears 18 = .ok (.iload_n 2, 1) := by decide +kernel
theorem dX3_hears_19 : decode cX3_hears 19 = .ok (.iaload, 1) := by decide +kernel
theorem dX3_hears_20 : decode cX3_hears 20 = .ok (.aload_n 1, 1) := by decide +kernel
theorem dX3_hears_21 : decode cX3_hears 21 = .ok (.getfield 82, 3) := by decide +kernel
theorem dX3_hears_24 : decode cX3_hears 24 = .ok (.iand, 1) := by decide +kernel
theorem dX3_hears_25 : decode cX3_hears 25 = .ok (.ifCond .eq 7, 3) := by decide +kernel
theorem dX3_hears_28 : decode cX3_hears 28 = .ok (.iconst 1, 1) := by decide +kernel
theorem dX3_hears_29 : decode cX3_hears 29 = .ok (.goto 4, 3) := by decide +kernel
theorem dX3_hears_32 : decode cX3_hears 32 = .ok (.iconst 0, 1) := by decide +kernel
theorem dX3_hears_33 : decode cX3_hears 33 = .ok (.ireturn, 1) := by decide +kernel
theorem dX3_believes_0 : decode cX3_believes 0 = .ok (.aload_n 0, 1) := by decide +kernel
theorem dX3_believes_1 : decode cX3_believes 1 = .ok (.getfield 12, 3) := by decide +kernel
theorem dX3_believes_4 : decode cX3_believes 4 = .ok (.getfield 125, 3) := by decide +kernel
theorem dX3_believes_7 : decode cX3_believes 7 = .ok (.iload_n 2, 1) := by decide +kernel
theorem dX3_believes_8 : decode cX3_believes 8 = .ok (.iaload, 1) := by decide +kernel
theorem dX3_believes_9 : decode cX3_believes 9 = .ok (.aload_n 1, 1) := by decide +kernel
theorem dX3_believes_10 : decode cX3_believes 10 = .ok (.getfield 82, 3) := by decide +kernel
theorem dX3_believes_13 : decode cX3_believes 13 = .ok (.iand, 1) := by decide +kernel
theorem dX3_believes_14 : decode cX3_believes 14 = .ok (.invokestatic 102, 3) := by decide +kernel
theorem dX3_believes_17 : decode cX3_believes 17 = .ok (.istore_n 3, 1) := by decide +kernel
theorem dX3_believes_18 : decode cX3_believes 18 = .ok (.aload_n 1, 1) := by decide +kernel
theorem dX3_believes_19 : decode cX3_believes 19 = .ok (.getfield 88, 3) := by decide +kernel
theorem dX3_believes_22 : decode cX3_believes 22 = .ok (.iload_n 3, 1) := by decide +kernel
theorem dX3_believes_23 : decode cX3_believes 23 = .ok (.iadd, 1) := by decide +kernel
theorem dX3_believes_24 : decode cX3_believes 24 = .ok (.aload_n 0, 1) := by decide +kernel
theorem dX3_believes_25 : decode cX3_believes 25 = .ok (.getfield 22, 3) := by decide +kernel
theorem dX3_believes_28 : decode cX3_believes 28 = .ok (.iload_n 2, 1) := by decide +kernel
theorem dX3_believes_29 : decode cX3_believes 29 = .ok (.iaload, 1) := by decide +kernel
theorem dX3_believes_30 : decode cX3_believes 30 = .ok (.if_icmp .le 7, 3) := by decide +kernel
theorem dX3_believes_33 : decode cX3_believes 33 = .ok (.iconst 1, 1) := by decide +kernel
theorem dX3_believes_34 : decode cX3_believes 34 = .ok (.goto 4, 3) := by decide +kernel
theorem dX3_believes_37 : decode cX3_believes 37 = .ok (.iconst 0, 1) := by decide +kernel
theorem dX3_believes_38 : decode cX3_believes 38 = .ok (.ireturn, 1) := by decide +kernel
theorem dX3_believersToCome_0 : decode cX3_believersToCome 0 = .ok (.iconst 0, 1) := by decide +kernel
theorem dX3_believersToCome_1 : decode cX3_believersToCome 1 = .ok (.istore_n 2, 1) := by decide +kernel
theorem dX3_believersToCome_2 : decode cX3_believersToCome 2 = .ok (.iconst 0, 1) := by decide +kernel
theorem dX3_believersToCome_3 : decode cX3_believersToCome 3 = .ok (.istore_n 3, 1) := by decide +kernel
theorem dX3_believersToCome_4 : decode cX3_believersToCome 4 = .ok (.iload_n 3, 1) := by decide +kernel
theorem dX3_believersToCome_5 : decode cX3_believersToCome 5 = .ok (.aload_n 0, 1) := by decide +kernel
theorem dX3_believersToCome_6 : decode cX3_believersToCome 6 = .ok (.getfield 12, 3) := by decide +kernel
theorem dX3_believersToCome_9 : decode cX3_believersToCome 9 = .ok (.getfield 58, 3) := by decide +kernel
theorem dX3_believersToCome_12 : decode cX3_believersToCome 12 = .ok (.if_icmp .ge 37, 3) := by decide +kernel
theorem dX3_believersToCome_15 : decode cX3_believersToCome 15 = .ok (.aload_n 1, 1) := by decide +kernel
theorem dX3_believersToCome_16 : decode cX3_believersToCome 16 = .ok (.getfield 94, 3) := by decide +kernel
theorem dX3_believersToCome_19 : decode cX3_believersToCome 19 = .ok (.ifCond .eq 24, 3) := by decide +kernel
theorem dX3_believersToCome_22 : decode cX3_believersToCome 22 = .ok (.aload_n 0, 1) := by decide +kernel
theorem dX3_believersToCome_23 : decode cX3_believersToCome 23 = .ok (.aload_n 1, 1) := by decide +kernel
theorem dX3_believersToCome_24 : decode cX3_believersToCome 24 = .ok (.iload_n 3, 1) := by decide +kernel
theorem dX3_believersToCome_25 : decode cX3_believersToCome 25 = .ok (.invokevirtual 112, 3) := by decide +kernel
theorem dX3_believersToCome_28 : decode cX3_believersToCome 28 = .ok (.ifCond .eq 15, 3) := by decide +kernel
theorem dX3_believersToCome_31 : decode cX3_believersToCome 31 = .ok (.aload_n 0, 1) := by decide +kernel
theorem dX3_believersToCome_32 : decode cX3_believersToCome 32 = .ok (.aload_n 1, 1) := by decide +kernel
theorem dX3_believersToCome_33 : decode cX3_believersToCome 33 = .ok (.iload_n 3, 1) := by decide +kernel
theorem dX3_believersToCome_34 : decode cX3_believersToCome 34 = .ok (.invokevirtual 119, 3) := by decide +kernel
theorem dX3_believersToCome_37 : decode cX3_believersToCome 37 = .ok (.ifCond .eq 6, 3) := by decide +kernel
theorem dX3_believersToCome_40 : decode cX3_believersToCome 40 = .ok (.iinc 2 1, 3) := by decide +kernel
theorem dX3_believersToCome_43 : decode cX3_believersToCome 43 = .ok (.iinc 3 1, 3) := by decide +kernel
theorem dX3_believersToCome_46 : decode cX3_believersToCome 46 = .ok (.goto (-42), 3) := by decide +kernel
theorem dX3_believersToCome_49 : decode cX3_believersToCome 49 = .ok (.iload_n 2, 1) := by decide +kernel
theorem dX3_believersToCome_50 : decode cX3_believersToCome 50 = .ok (.ireturn, 1) := by decide +kernel
theorem dX3_membersOf_0 : decode cX3_membersOf 0 = .ok (.iconst 0, 1) := by decide +kernel
theorem dX3_membersOf_1 : decode cX3_membersOf 1 = .ok (.istore_n 2, 1) := by decide +kernel
theorem dX3_membersOf_2 : decode cX3_membersOf 2 = .ok (.iconst 0, 1) := by decide +kernel
theorem dX3_membersOf_3 : decode cX3_membersOf 3 = .ok (.istore_n 3, 1) := by decide +kernel
theorem dX3_membersOf_4 : decode cX3_membersOf 4 = .ok (.iload_n 3, 1) := by decide +kernel
theorem dX3_membersOf_5 : decode cX3_membersOf 5 = .ok (.aload_n 0, 1) := by decide +kernel
theorem dX3_membersOf_6 : decode cX3_membersOf 6 = .ok (.getfield 12, 3) := by decide +kernel
theorem dX3_membersOf_9 : decode cX3_membersOf 9 = .ok (.getfield 58, 3) := by decide +kernel
theorem dX3_membersOf_12 : decode cX3_membersOf 12 = .ok (.if_icmp .ge 25, 3) := by decide +kernel
theorem dX3_membersOf_15 : decode cX3_membersOf 15 = .ok (.aload_n 0, 1) := by decide +kernel
theorem dX3_membersOf_16 : decode cX3_membersOf 16 = .ok (.getfield 18, 3) := by decide +kernel
theorem dX3_membersOf_19 : decode cX3_membersOf 19 = .ok (.iload_n 3, 1) := by decide +kernel
theorem dX3_membersOf_20 : decode cX3_membersOf 20 = .ok (.iaload, 1) := by decide +kernel
theorem dX3_membersOf_21 : decode cX3_membersOf 21 = .ok (.iload_n 1, 1) := by decide +kernel
theorem dX3_membersOf_22 : decode cX3_membersOf 22 = .ok (.if_icmp .ne 9, 3) := by decide +kernel
theorem dX3_membersOf_25 : decode cX3_membersOf 25 = .ok (.iload_n 2, 1) := by decide +kernel
theorem dX3_membersOf_26 : decode cX3_membersOf 26 = .ok (.iconst 1, 1) := by decide +kernel
theorem dX3_membersOf_27 : decode cX3_membersOf 27 = .ok (.iload_n 3, 1) := by decide +kernel
theorem dX3_membersOf_28 : decode cX3_membersOf 28 = .ok (.ishl, 1) := by decide +kernel
theorem dX3_membersOf_29 : decode cX3_membersOf 29 = .ok (.ior, 1) := by decide +kernel
theorem dX3_membersOf_30 : decode cX3_membersOf 30 = .ok (.istore_n 2, 1) := by decide +kernel
theorem dX3_membersOf_31 : decode cX3_membersOf 31 = .ok (.iinc 3 1, 3) := by decide +kernel
theorem dX3_membersOf_34 : decode cX3_membersOf 34 = .ok (.goto (-30), 3) := by decide +kernel
theorem dX3_membersOf_37 : decode cX3_membersOf 37 = .ok (.iload_n 2, 1) := by decide +kernel
theorem dX3_membersOf_38 : decode cX3_membersOf 38 = .ok (.ireturn, 1) := by decide +kernel
theorem dX3_hiveWithMost_0 : decode cX3_hiveWithMost 0 = .ok (.iconst 0, 1) := by decide +kernel
theorem dX3_hiveWithMost_1 : decode cX3_hiveWithMost 1 = .ok (.istore_n 2, 1) := by decide +kernel
theorem dX3_hiveWithMost_2 : decode cX3_hiveWithMost 2 = .ok (.iconst 0, 1) := by decide +kernel
theorem dX3_hiveWithMost_3 : decode cX3_hiveWithMost 3 = .ok (.istore_n 3, 1) := by decide +kernel
theorem dX3_hiveWithMost_4 : decode cX3_hiveWithMost 4 = .ok (.iconst 0, 1) := by decide +kernel
theorem dX3_hiveWithMost_5 : decode cX3_hiveWithMost 5 = .ok (.istore 4, 2) := by decide +kernel
theorem dX3_hiveWithMost_7 : decode cX3_hiveWithMost 7 = .ok (.iload 4, 2) := by decide +kernel
theorem dX3_hiveWithMost_9 : decode cX3_hiveWithMost 9 = .ok (.iconst 4, 1) := by decide +kernel
theorem dX3_hiveWithMost_10 : decode cX3_hiveWithMost 10 = .ok (.if_icmp .ge 34, 3) := by decide +kernel
theorem dX3_hiveWithMost_13 : decode cX3_hiveWithMost 13 = .ok (.iload_n 1, 1) := by decide +kernel
theorem dX3_hiveWithMost_14 : decode cX3_hiveWithMost 14 = .ok (.aload_n 0, 1) := by decide +kernel
theorem dX3_hiveWithMost_15 : decode cX3_hiveWithMost 15 = .ok (.iload 4, 2) := by decide +kernel
theorem dX3_hiveWithMost_17 : decode cX3_hiveWithMost 17 = .ok (.invokevirtual 128, 3) := by decide +kernel
theorem dX3_hiveWithMost_20 : decode cX3_hiveWithMost 20 = .ok (.iand, 1) := by decide +kernel
theorem dX3_hiveWithMost_21 : decode cX3_hiveWithMost 21 = .ok (.invokestatic 102, 3) := by decide +kernel
theorem dX3_hiveWithMost_24 : decode cX3_hiveWithMost 24 = .ok (.istore 5, 2) := by decide +kernel
theorem dX3_hiveWithMost_26 : decode cX3_hiveWithMost 26 = .ok (.iload 5, 2) := by decide +kernel
theorem dX3_hiveWithMost_28 : decode cX3_hiveWithMost 28 = .ok (.iload_n 3, 1) := by decide +kernel
theorem dX3_hiveWithMost_29 : decode cX3_hiveWithMost 29 = .ok (.if_icmp .le 9, 3) := by decide +kernel
theorem dX3_hiveWithMost_32 : decode cX3_hiveWithMost 32 = .ok (.iload 4, 2) := by decide +kernel
theorem dX3_hiveWithMost_34 : decode cX3_hiveWithMost 34 = .ok (.istore_n 2, 1) := by decide +kernel
theorem dX3_hiveWithMost_35 : decode cX3_hiveWithMost 35 = .ok (.iload 5, 2) := by decide +kernel
theorem dX3_hiveWithMost_37 : decode cX3_hiveWithMost 37 = .ok (.istore_n 3, 1) := by decide +kernel
theorem dX3_hiveWithMost_38 : decode cX3_hiveWithMost 38 = .ok (.iinc 4 1, 3) := by decide +kernel
theorem dX3_hiveWithMost_41 : decode cX3_hiveWithMost 41 = .ok (.goto (-34), 3) := by decide +kernel
theorem dX3_hiveWithMost_44 : decode cX3_hiveWithMost 44 = .ok (.iload_n 2, 1) := by decide +kernel
theorem dX3_hiveWithMost_45 : decode cX3_hiveWithMost 45 = .ok (.ireturn, 1) := by decide +kernel
theorem dX3_rumourAtRank_0 : decode cX3_rumourAtRank 0 = .ok (.iconst 0, 1) := by decide +kernel
theorem dX3_rumourAtRank_1 : decode cX3_rumourAtRank 1 = .ok (.istore_n 2, 1) := by decide +kernel
theorem dX3_rumourAtRank_2 : decode cX3_rumourAtRank 2 = .ok (.iload_n 2, 1) := by decide +kernel
theorem dX3_rumourAtRank_3 : decode cX3_rumourAtRank 3 = .ok (.aload_n 0, 1) := by decide +kernel
theorem dX3_rumourAtRank_4 : decode cX3_rumourAtRank 4 = .ok (.getfield 31, 3) := by decide +kernel
theorem dX3_rumourAtRank_7 : decode cX3_rumourAtRank 7 = .ok (.if_icmp .ge 55, 3) := by decide +kernel
theorem dX3_rumourAtRank_10 : decode cX3_rumourAtRank 10 = .ok (.iconst 0, 1) := by decide +kernel
theorem dX3_rumourAtRank_11 : decode cX3_rumourAtRank 11 = .ok (.istore_n 3, 1) := by decide +kernel
theorem dX3_rumourAtRank_12 : decode cX3_rumourAtRank 12 = .ok (.iconst 0, 1) := by decide +kernel
theorem dX3_rumourAtRank_13 : decode cX3_rumourAtRank 13 = .ok (.istore 4, 2) := by decide +kernel
theorem dX3_rumourAtRank_15 : decode cX3_rumourAtRank 15 = .ok (.iload 4, 2) := by decide +kernel
theorem dX3_rumourAtRank_17 : decode cX3_rumourAtRank 17 = .ok (.aload_n 0, 1) := by decide +kernel
theorem dX3_rumourAtRank_18 : decode cX3_rumourAtRank 18 = .ok (.getfield 31, 3) := by decide +kernel
theorem dX3_rumourAtRank_21 : decode cX3_rumourAtRank 21 = .ok (.if_icmp .ge 28, 3) := by decide +kernel
theorem dX3_rumourAtRank_24 : decode cX3_rumourAtRank 24 = .ok (.iload 4, 2) := by decide +kernel
theorem dX3_rumourAtRank_26 : decode cX3_rumourAtRank 26 = .ok (.iload_n 2, 1) := by decide +kernel
theorem dX3_rumourAtRank_27 : decode cX3_rumourAtRank 27 = .ok (.if_icmp .eq 16, 3) := by decide +kernel
theorem dX3_rumourAtRank_30 : decode cX3_rumourAtRank 30 = .ok (.aload_n 0, 1) := by decide +kernel
theorem dX3_rumourAtRank_31 : decode cX3_rumourAtRank 31 = .ok (.iload 4, 2) := by decide +kernel
theorem dX3_rumourAtRank_33 : decode cX3_rumourAtRank 33 = .ok (.iload_n 2, 1) := by decide +kernel
theorem dX3_rumourAtRank_34 : decode cX3_rumourAtRank 34 = .ok (.invokevirtual 131, 3) := by decide +kernel
theorem dX3_rumourAtRank_37 : decode cX3_rumourAtRank 37 = .ok (.ifCond .eq 6, 3) := by decide +kernel
theorem dX3_rumourAtRank_40 : decode cX3_rumourAtRank 40 = .ok (.iinc 3 1, 3) := by decide +kernel
theorem dX3_rumourAtRank_43 : decode cX3_rumourAtRank 43 = .ok (.iinc 4 1, 3) := by decide +kernel
theorem dX3_rumourAtRank_46 : decode cX3_rumourAtRank 46 = .ok (.goto (-31), 3) := by decide +kernel
theorem dX3_rumourAtRank_49 : decode cX3_rumourAtRank 49 = .ok (.iload_n 3, 1) := by decide +kernel
theorem dX3_rumourAtRank_50 : decode cX3_rumourAtRank 50 = .ok (.iload_n 1, 1) := by decide +kernel
theorem dX3_rumourAtRank_51 : decode cX3_rumourAtRank 51 = .ok (.if_icmp .ne 5, 3) := by decide +kernel
theorem dX3_rumourAtRank_54 : decode cX3_rumourAtRank 54 = .ok (.iload_n 2, 1) := by decide +kernel
theorem dX3_rumourAtRank_55 : decode cX3_rumourAtRank 55 = .ok (.ireturn, 1) := by decide +kernel
theorem dX3_rumourAtRank_56 : decode cX3_rumourAtRank 56 = .ok (.iinc 2 1, 3) := by decide +kernel
theorem dX3_rumourAtRank_59 : decode cX3_rumourAtRank 59 = .ok (.goto (-57), 3) := by decide +kernel
theorem dX3_rumourAtRank_62 : decode cX3_rumourAtRank 62 = .ok (.iconst (-1), 1) := by decide +kernel
theorem dX3_rumourAtRank_63 : decode cX3_rumourAtRank 63 = .ok (.ireturn, 1) := by decide +kernel
theorem dX3_spreadsAhead_0 : decode cX3_spreadsAhead 0 = .ok (.aload_n 0, 1) := by decide +kernel
theorem dX3_spreadsAhead_1 : decode cX3_spreadsAhead 1 = .ok (.getfield 27, 3) := by decide +kernel
theorem dX3_spreadsAhead_4 : decode cX3_spreadsAhead 4 = .ok (.iload_n 1, 1) := by decide +kernel
theorem dX3_spreadsAhead_5 : decode cX3_spreadsAhead 5 = .ok (.aaload, 1) := by decide +kernel
theorem dX3_spreadsAhead_6 : decode cX3_spreadsAhead 6 = .ok (.getfield 82, 3) := by decide +kernel
theorem dX3_spreadsAhead_9 : decode cX3_spreadsAhead 9 = .ok (.invokestatic 102, 3) := by decide +kernel
theorem dX3_spreadsAhead_12 : decode cX3_spreadsAhead 12 = .ok (.istore_n 3, 1) := by decide +kernel
theorem dX3_spreadsAhead_13 : decode cX3_spreadsAhead 13 = .ok (.aload_n 0, 1) := by decide +kernel
theorem dX3_spreadsAhead_14 : decode cX3_spreadsAhead 14 = .ok (.getfield 27, 3) := by decide +kernel
theorem dX3_spreadsAhead_17 : decode cX3_spreadsAhead 17 = .ok (.iload_n 2, 1) := by decide +kernel
theorem dX3_spreadsAhead_18 : decode cX3_spreadsAhead 18 = .ok (.aaload, 1) := by decide +kernel
theorem dX3_spreadsAhead_19 : decode cX3_spreadsAhead 19 = .ok (.getfield 82, 3) := by decide +kernel
theorem dX3_spreadsAhead_22 : decode cX3_spreadsAhead 22 = .ok (.invokestatic 102, 3) := by decide +kernel
theorem dX3_spreadsAhead_25 : decode cX3_spreadsAhead 25 = .ok (.istore 4, 2) := by decide +kernel
theorem dX3_spreadsAhead_27 : decode cX3_spreadsAhead 27 = .ok (.iload_n 3, 1) := by decide +kernel
theorem dX3_spreadsAhead_28 : decode cX3_spreadsAhead 28 = .ok (.iload 4, 2) := by decide +kernel
theorem dX3_spreadsAhead_30 : decode cX3_spreadsAhead 30 = .ok (.if_icmp .eq 15, 3) := by decide +kernel
theorem dX3_spreadsAhead_33 : decode cX3_spreadsAhead 33 = .ok (.iload_n 3, 1) := by decide +kernel
theorem dX3_spreadsAhead_34 : decode cX3_spreadsAhead 34 = .ok (.iload 4, 2) := by decide +kernel
theorem dX3_spreadsAhead_36 : decode cX3_spreadsAhead 36 = .ok (.if_icmp .le 7, 3) := by decide +kernel
theorem dX3_spreadsAhead_39 : decode cX3_spreadsAhead 39 = .ok (.iconst 1, 1) := by decide +kernel
theorem dX3_spreadsAhead_40 : decode cX3_spreadsAhead 40 = .ok (.goto 4, 3) := by decide +kernel
theorem dX3_spreadsAhead_43 : decode cX3_spreadsAhead 43 = .ok (.iconst 0, 1) := by decide +kernel
theorem dX3_spreadsAhead_44 : decode cX3_spreadsAhead 44 = .ok (.ireturn, 1) := by decide +kernel
theorem dX3_spreadsAhead_45 : decode cX3_spreadsAhead 45 = .ok (.aload_n 0, 1) := by decide +kernel
theorem dX3_spreadsAhead_46 : decode cX3_spreadsAhead 46 = .ok (.getfield 27, 3) := by decide +kernel
theorem dX3_spreadsAhead_49 : decode cX3_spreadsAhead 49 = .ok (.iload_n 1, 1) := by decide +kernel
theorem dX3_spreadsAhead_50 : decode cX3_spreadsAhead 50 = .ok (.aaload, 1) := by decide +kernel
theorem dX3_spreadsAhead_51 : decode cX3_spreadsAhead 51 = .ok (.getfield 94, 3) := by decide +kernel
theorem dX3_spreadsAhead_54 : decode cX3_spreadsAhead 54 = .ok (.aload_n 0, 1) := by decide +kernel
theorem dX3_spreadsAhead_55 : decode cX3_spreadsAhead 55 = .ok (.getfield 27, 3) := by decide +kernel
theorem dX3_spreadsAhead_58 : decode cX3_spreadsAhead 58 = .ok (.iload_n 2, 1) := by decide +kernel
theorem dX3_spreadsAhead_59 : decode cX3_spreadsAhead 59 = .ok (.aaload, 1) := by decide +kernel
theorem dX3_spreadsAhead_60 : decode cX3_spreadsAhead 60 = .ok (.getfield 94, 3) := by decide +kernel
theorem dX3_spreadsAhead_63 : decode cX3_spreadsAhead 63 = .ok (.if_icmp .eq 13, 3) := by decide +kernel
theorem dX3_spreadsAhead_66 : decode cX3_spreadsAhead 66 = .ok (.aload_n 0, 1) := by decide +kernel
theorem dX3_spreadsAhead_67 : decode cX3_spreadsAhead 67 = .ok (.getfield 27, 3) := by decide +kernel
theorem dX3_spreadsAhead_70 : decode cX3_spreadsAhead 70 = .ok (.iload_n 1, 1) := by decide +kernel
theorem dX3_spreadsAhead_71 : decode cX3_spreadsAhead 71 = .ok (.aaload, 1) := by decide +kernel
theorem dX3_spreadsAhead_72 : decode cX3_spreadsAhead 72 = .ok (.getfield 94, 3) := by decide +kernel
theorem dX3_spreadsAhead_75 : decode cX3_spreadsAhead 75 = .ok (.ireturn, 1) := by decide +kernel
theorem dX3_spreadsAhead_76 : decode cX3_spreadsAhead 76 = .ok (.iload_n 1, 1) := by decide +kernel
theorem dX3_spreadsAhead_77 : decode cX3_spreadsAhead 77 = .ok (.iload_n 2, 1) := by decide +kernel
theorem dX3_spreadsAhead_78 : decode cX3_spreadsAhead 78 = .ok (.if_icmp .ge 7, 3) := by decide +kernel
theorem dX3_spreadsAhead_81 : decode cX3_spreadsAhead 81 = .ok (.iconst 1, 1) := by decide +kernel
theorem dX3_spreadsAhead_82 : decode cX3_spreadsAhead 82 = .ok (.goto 4, 3) := by decide +kernel
theorem dX3_spreadsAhead_85 : decode cX3_spreadsAhead 85 = .ok (.iconst 0, 1) := by decide +kernel
theorem dX3_spreadsAhead_86 : decode cX3_spreadsAhead 86 = .ok (.ireturn, 1) := by decide +kernel
theorem dX3_listenerAtRank_0 : decode cX3_listenerAtRank 0 = .ok (.iconst 0, 1) := by decide +kernel
theorem dX3_listenerAtRank_1 : decode cX3_listenerAtRank 1 = .ok (.istore_n 2, 1) := by decide +kernel
theorem dX3_listenerAtRank_2 : decode cX3_listenerAtRank 2 = .ok (.iload_n 2, 1) := by decide +kernel
theorem dX3_listenerAtRank_3 : decode cX3_listenerAtRank 3 = .ok (.aload_n 0, 1) := by decide +kernel
theorem dX3_listenerAtRank_4 : decode cX3_listenerAtRank 4 = .ok (.getfield 12, 3) := by decide +kernel
theorem dX3_listenerAtRank_7 : decode cX3_listenerAtRank 7 = .ok (.getfield 58, 3) := by decide +kernel
theorem dX3_listenerAtRank_10 : decode cX3_listenerAtRank 10 = .ok (.if_icmp .ge 58, 3) := by decide +kernel
theorem dX3_listenerAtRank_13 : decode cX3_listenerAtRank 13 = .ok (.iconst 0, 1) := by decide +kernel
theorem dX3_listenerAtRank_14 : decode cX3_listenerAtRank 14 = .ok (.istore_n 3, 1) := by decide +kernel
theorem dX3_listenerAtRank_15 : decode cX3_listenerAtRank 15 = .ok (.iconst 0, 1) := by decide +kernel
theorem dX3_listenerAtRank_16 : decode cX3_listenerAtRank 16 = .ok (.istore 4, 2) := by decide +kernel
theorem dX3_listenerAtRank_18 : decode cX3_listenerAtRank 18 = .ok (.iload 4, 2) := by decide +kernel
theorem dX3_listenerAtRank_20 : decode cX3_listenerAtRank 20 = .ok (.aload_n 0, 1) := by decide +kernel
theorem dX3_listenerAtRank_21 : decode cX3_listenerAtRank 21 = .ok (.getfield 12, 3) := by decide +kernel
theorem dX3_listenerAtRank_24 : decode cX3_listenerAtRank 24 = .ok (.getfield 58, 3) := by decide +kernel
theorem dX3_listenerAtRank_27 : decode cX3_listenerAtRank 27 = .ok (.if_icmp .ge 28, 3) := by decide +kernel
theorem dX3_listenerAtRank_30 : decode cX3_listenerAtRank 30 = .ok (.iload 4, 2) := by decide +kernel
theorem dX3_listenerAtRank_32 : decode cX3_listenerAtRank 32 = .ok (.iload_n 2, 1) := by decide +kernel
theorem dX3_listenerAtRank_33 : decode cX3_listenerAtRank 33 = .ok (.if_icmp .eq 16, 3) := by decide +kernel
theorem dX3_listenerAtRank_36 : decode cX3_listenerAtRank 36 = .ok (.aload_n 0, 1) := by decide +kernel
theorem dX3_listenerAtRank_37 : decode cX3_listenerAtRank 37 = .ok (.iload 4, 2) := by decide +kernel
theorem dX3_listenerAtRank_39 : decode cX3_listenerAtRank 39 = .ok (.iload_n 2, 1) := by decide +kernel
theorem dX3_listenerAtRank_40 : decode cX3_listenerAtRank 40 = .ok (.invokevirtual 134, 3) := by decide +kernel
theorem dX3_listenerAtRank_43 : decode cX3_listenerAtRank 43 = .ok (.ifCond .eq 6, 3) := by decide +kernel
theorem dX3_listenerAtRank_46 : decode cX3_listenerAtRank 46 = .ok (.iinc 3 1, 3) := by decide +kernel
theorem dX3_listenerAtRank_49 : decode cX3_listenerAtRank 49 = .ok (.iinc 4 1, 3) := by decide +kernel
theorem dX3_listenerAtRank_52 : decode cX3_listenerAtRank 52 = .ok (.goto (-34), 3) := by decide +kernel
theorem dX3_listenerAtRank_55 : decode cX3_listenerAtRank 55 = .ok (.iload_n 3, 1) := by decide +kernel
theorem dX3_listenerAtRank_56 : decode cX3_listenerAtRank 56 = .ok (.iload_n 1, 1) := by decide +kernel
theorem dX3_listenerAtRank_57 : decode cX3_listenerAtRank 57 = .ok (.if_icmp .ne 5, 3) := by decide +kernel
theorem dX3_listenerAtRank_60 : decode cX3_listenerAtRank 60 = .ok (.iload_n 2, 1) := by decide +kernel
theorem dX3_listenerAtRank_61 : decode cX3_listenerAtRank 61 = .ok (.ireturn, 1) := by decide +kernel
theorem dX3_listenerAtRank_62 : decode cX3_listenerAtRank 62 = .ok (.iinc 2 1, 3) := by decide +kernel
theorem dX3_listenerAtRank_65 : decode cX3_listenerAtRank 65 = .ok (.goto (-63), 3) := by decide +kernel
theorem dX3_listenerAtRank_68 : decode cX3_listenerAtRank 68 = .ok (.iconst (-1), 1) := by decide +kernel
theorem dX3_listenerAtRank_69 : decode cX3_listenerAtRank 69 = .ok (.ireturn, 1) := by decide +kernel
theorem dX3_gossipsAhead_0 : decode cX3_gossipsAhead 0 = .ok (.aload_n 0, 1) := by decide +kernel
theorem dX3_gossipsAhead_1 : decode cX3_gossipsAhead 1 = .ok (.iload_n 1, 1) := by decide +kernel
theorem dX3_gossipsAhead_2 : decode cX3_gossipsAhead 2 = .ok (.invokevirtual 137, 3) := by decide +kernel
theorem dX3_gossipsAhead_5 : decode cX3_gossipsAhead 5 = .ok (.istore_n 3, 1) := by decide +kernel
theorem dX3_gossipsAhead_6 : decode cX3_gossipsAhead 6 = .ok (.aload_n 0, 1) := by decide +kernel
theorem dX3_gossipsAhead_7 : decode cX3_gossipsAhead 7 = .ok (.iload_n 2, 1) := by decide +kernel
theorem dX3_gossipsAhead_8 : decode cX3_gossipsAhead 8 = .ok (.invokevirtual 137, 3) := by decide +kernel
theorem dX3_gossipsAhead_11 : decode cX3_gossipsAhead 11 = .ok (.istore 4, 2) := by decide +kernel
theorem dX3_gossipsAhead_13 : decode cX3_gossipsAhead 13 = .ok (.iload_n 3, 1) := by decide +kernel
theorem dX3_gossipsAhead_14 : decode cX3_gossipsAhead 14 = .ok (.iload 4, 2) := by decide +kernel
theorem dX3_gossipsAhead_16 : decode cX3_gossipsAhead 16 = .ok (.if_icmp .eq 15, 3) := by decide +kernel
theorem dX3_gossipsAhead_19 : decode cX3_gossipsAhead 19 = .ok (.iload_n 3, 1) := by decide +kernel
theorem dX3_gossipsAhead_20 : decode cX3_gossipsAhead 20 = .ok (.iload 4, 2) := by decide +kernel
theorem dX3_gossipsAhead_22 : decode cX3_gossipsAhead 22 = .ok (.if_icmp .le 7, 3) := by decide +kernel
theorem dX3_gossipsAhead_25 : decode cX3_gossipsAhead 25 = .ok (.iconst 1, 1) := by decide +kernel
theorem dX3_gossipsAhead_26 : decode cX3_gossipsAhead 26 = .ok (.goto 4, 3) := by decide +kernel
theorem dX3_gossipsAhead_29 : decode cX3_gossipsAhead 29 = .ok (.iconst 0, 1) := by decide +kernel
theorem dX3_gossipsAhead_30 : decode cX3_gossipsAhead 30 = .ok (.ireturn, 1) := by decide +kernel
theorem dX3_gossipsAhead_31 : decode cX3_gossipsAhead 31 = .ok (.aload_n 0, 1) := by decide +kernel
theorem dX3_gossipsAhead_32 : decode cX3_gossipsAhead 32 = .ok (.getfield 22, 3) := by decide +kernel
theorem dX3_gossipsAhead_35 : decode cX3_gossipsAhead 35 = .ok (.iload_n 1, 1) := by decide +kernel
theorem dX3_gossipsAhead_36 : decode cX3_gossipsAhead 36 = .ok (.iaload, 1) := by decide +kernel
theorem dX3_gossipsAhead_37 : decode cX3_gossipsAhead 37 = .ok (.aload_n 0, 1) := by decide +kernel
theorem dX3_gossipsAhead_38 : decode cX3_gossipsAhead 38 = .ok (.getfield 22, 3) := by decide +kernel
theorem dX3_gossipsAhead_41 : decode cX3_gossipsAhead 41 = .ok (.iload_n 2, 1) := by decide +kernel
theorem dX3_gossipsAhead_42 : decode cX3_gossipsAhead 42 = .ok (.iaload, 1) := by decide +kernel
theorem dX3_gossipsAhead_43 : decode cX3_gossipsAhead 43 = .ok (.if_icmp .eq 24, 3) := by decide +kernel
theorem dX3_gossipsAhead_46 : decode cX3_gossipsAhead 46 = .ok (.aload_n 0, 1) := by decide +kernel
theorem dX3_gossipsAhead_47 : decode cX3_gossipsAhead 47 = .ok (.getfield 22, 3) := by decide +kernel
theorem dX3_gossipsAhead_50 : decode cX3_gossipsAhead 50 = .ok (.iload_n 1, 1) := by decide +kernel
theorem dX3_gossipsAhead_51 : decode cX3_gossipsAhead 51 = .ok (.iaload, 1) := by decide +kernel
theorem dX3_gossipsAhead_52 : decode cX3_gossipsAhead 52 = .ok (.aload_n 0, 1) := by decide +kernel
theorem dX3_gossipsAhead_53 : decode cX3_gossipsAhead 53 = .ok (.getfield 22, 3) := by decide +kernel
theorem dX3_gossipsAhead_56 : decode cX3_gossipsAhead 56 = .ok (.iload_n 2, 1) := by decide +kernel
theorem dX3_gossipsAhead_57 : decode cX3_gossipsAhead 57 = .ok (.iaload, 1) := by decide +kernel
theorem dX3_gossipsAhead_58 : decode cX3_gossipsAhead 58 = .ok (.if_icmp .ge 7, 3) := by decide +kernel
theorem dX3_gossipsAhead_61 : decode cX3_gossipsAhead 61 = .ok (.iconst 1, 1) := by decide +kernel
theorem dX3_gossipsAhead_62 : decode cX3_gossipsAhead 62 = .ok (.goto 4, 3) := by decide +kernel
theorem dX3_gossipsAhead_65 : decode cX3_gossipsAhead 65 = .ok (.iconst 0, 1) := by decide +kernel
theorem dX3_gossipsAhead_66 : decode cX3_gossipsAhead 66 = .ok (.ireturn, 1) := by decide +kernel
theorem dX3_gossipsAhead_67 : decode cX3_gossipsAhead 67 = .ok (.iload_n 1, 1) := by decide +kernel
theorem dX3_gossipsAhead_68 : decode cX3_gossipsAhead 68 = .ok (.iload_n 2, 1) := by decide +kernel
theorem dX3_gossipsAhead_69 : decode cX3_gossipsAhead 69 = .ok (.if_icmp .ge 7, 3) := by decide +kernel
theorem dX3_gossipsAhead_72 : decode cX3_gossipsAhead 72 = .ok (.iconst 1, 1) := by decide +kernel
theorem dX3_gossipsAhead_73 : decode cX3_gossipsAhead 73 = .ok (.goto 4, 3) := by decide +kernel
theorem dX3_gossipsAhead_76 : decode cX3_gossipsAhead 76 = .ok (.iconst 0, 1) := by decide +kernel
theorem dX3_gossipsAhead_77 : decode cX3_gossipsAhead 77 = .ok (.ireturn, 1) := by decide +kernel
theorem dX3_spreadBy_0 : decode cX3_spreadBy 0 = .ok (.iconst 0, 1) := by decide +kernel
theorem dX3_spreadBy_1 : decode cX3_spreadBy 1 = .ok (.istore_n 2, 1) := by decide +kernel
theorem dX3_spreadBy_2 : decode cX3_spreadBy 2 = .ok (.iconst 0, 1) := by decide +kernel
theorem dX3_spreadBy_3 : decode cX3_spreadBy 3 = .ok (.istore_n 3, 1) := by decide +kernel
theorem dX3_spreadBy_4 : decode cX3_spreadBy 4 = .ok (.iload_n 3, 1) := by decide +kernel
theorem dX3_spreadBy_5 : decode cX3_spreadBy 5 = .ok (.aload_n 0, 1) := by decide +kernel
theorem dX3_spreadBy_6 : decode cX3_spreadBy 6 = .ok (.getfield 31, 3) := by decide +kernel
theorem dX3_spreadBy_9 : decode cX3_spreadBy 9 = .ok (.if_icmp .ge 28, 3) := by decide +kernel
theorem dX3_spreadBy_12 : decode cX3_spreadBy 12 = .ok (.aload_n 0, 1) := by decide +kernel
theorem dX3_spreadBy_13 : decode cX3_spreadBy 13 = .ok (.getfield 27, 3) := by decide +kernel
theorem dX3_spreadBy_16 : decode cX3_spreadBy 16 = .ok (.iload_n 3, 1) := by decide +kernel
theorem dX3_spreadBy_17 : decode cX3_spreadBy 17 = .ok (.aaload, 1) := by decide +kernel
theorem dX3_spreadBy_18 : decode cX3_spreadBy 18 = .ok (.getfield 82, 3) := by decide +kernel
theorem dX3_spreadBy_21 : decode cX3_spreadBy 21 = .ok (.iload_n 1, 1) := by decide +kernel
theorem dX3_spreadBy_22 : decode cX3_spreadBy 22 = .ok (.invokestatic 85, 3) := by decide +kernel
theorem dX3_spreadBy_25 : decode cX3_spreadBy 25 = .ok (.ifCond .eq 6, 3) := by decide +kernel
theorem dX3_spreadBy_28 : decode cX3_spreadBy 28 = .ok (.iinc 2 1, 3) := by decide +kernel
theorem dX3_spreadBy_31 : decode cX3_spreadBy 31 = .ok (.iinc 3 1, 3) := by decide +kernel
theorem dX3_spreadBy_34 : decode cX3_spreadBy 34 = .ok (.goto (-30), 3) := by decide +kernel
theorem dX3_spreadBy_37 : decode cX3_spreadBy 37 = .ok (.iload_n 2, 1) := by decide +kernel
theorem dX3_spreadBy_38 : decode cX3_spreadBy 38 = .ok (.ireturn, 1) := by decide +kernel
theorem dX3_gossips_0 : decode cX3_gossips 0 = .ok (.iconst 0, 1) := by decide +kernel
theorem dX3_gossips_1 : decode cX3_gossips 1 = .ok (.istore_n 1, 1) := by decide +kernel
theorem dX3_gossips_2 : decode cX3_gossips 2 = .ok (.iconst 0, 1) := by decide +kernel
theorem dX3_gossips_3 : decode cX3_gossips 3 = .ok (.istore_n 2, 1) := by decide +kernel
theorem dX3_gossips_4 : decode cX3_gossips 4 = .ok (.iload_n 2, 1) := by decide +kernel
theorem dX3_gossips_5 : decode cX3_gossips 5 = .ok (.aload_n 0, 1) := by decide +kernel
theorem dX3_gossips_6 : decode cX3_gossips 6 = .ok (.getfield 31, 3) := by decide +kernel
theorem dX3_gossips_9 : decode cX3_gossips 9 = .ok (.if_icmp .ge 21, 3) := by decide +kernel
theorem dX3_gossips_12 : decode cX3_gossips 12 = .ok (.iload_n 1, 1) := by decide +kernel
theorem dX3_gossips_13 : decode cX3_gossips 13 = .ok (.aload_n 0, 1) := by decide +kernel
theorem dX3_gossips_14 : decode cX3_gossips 14 = .ok (.getfield 27, 3) := by decide +kernel
theorem dX3_gossips_17 : decode cX3_gossips 17 = .ok (.iload_n 2, 1) := by decide +kernel
theorem dX3_gossips_18 : decode cX3_gossips 18 = .ok (.aaload, 1) := by decide +kernel
theorem dX3_gossips_19 : decode cX3_gossips 19 = .ok (.getfield 82, 3) := by decide +kernel
theorem dX3_gossips_22 : decode cX3_gossips 22 = .ok (.ior, 1) := by decide +kernel
theorem dX3_gossips_23 : decode cX3_gossips 23 = .ok (.istore_n 1, 1) := by decide +kernel
theorem dX3_gossips_24 : decode cX3_gossips 24 = .ok (.iinc 2 1, 3) := by decide +kernel
theorem dX3_gossips_27 : decode cX3_gossips 27 = .ok (.goto (-23), 3) := by decide +kernel
theorem dX3_gossips_30 : decode cX3_gossips 30 = .ok (.iload_n 1, 1) := by decide +kernel
theorem dX3_gossips_31 : decode cX3_gossips 31 = .ok (.ireturn, 1) := by decide +kernel
theorem dX3_sumOfDoubts_0 : decode cX3_sumOfDoubts 0 = .ok (.iconst 0, 1) := by decide +kernel
theorem dX3_sumOfDoubts_1 : decode cX3_sumOfDoubts 1 = .ok (.istore_n 1, 1) := by decide +kernel
theorem dX3_sumOfDoubts_2 : decode cX3_sumOfDoubts 2 = .ok (.iconst 0, 1) := by decide +kernel
theorem dX3_sumOfDoubts_3 : decode cX3_sumOfDoubts 3 = .ok (.istore_n 2, 1) := by decide +kernel
theorem dX3_sumOfDoubts_4 : decode cX3_sumOfDoubts 4 = .ok (.iload_n 2, 1) := by decide +kernel
theorem dX3_sumOfDoubts_5 : decode cX3_sumOfDoubts 5 = .ok (.aload_n 0, 1) := by decide +kernel
theorem dX3_sumOfDoubts_6 : decode cX3_sumOfDoubts 6 = .ok (.getfield 12, 3) := by decide +kernel
theorem dX3_sumOfDoubts_9 : decode cX3_sumOfDoubts 9 = .ok (.getfield 58, 3) := by decide +kernel
theorem dX3_sumOfDoubts_12 : decode cX3_sumOfDoubts 12 = .ok (.if_icmp .ge 18, 3) := by decide +kernel
theorem dX3_sumOfDoubts_15 : decode cX3_sumOfDoubts 15 = .ok (.iload_n 1, 1) := by decide +kernel
theorem dX3_sumOfDoubts_16 : decode cX3_sumOfDoubts 16 = .ok (.aload_n 0, 1) := by decide +kernel
theorem dX3_sumOfDoubts_17 : decode cX3_sumOfDoubts 17 = .ok (.getfield 22, 3) := by decide +kernel
theorem dX3_sumOfDoubts_20 : decode cX3_sumOfDoubts 20 = .ok (.iload_n 2, 1) := by decide +kernel
theorem dX3_sumOfDoubts_21 : decode cX3_sumOfDoubts 21 = .ok (.iaload, 1) := by decide +kernel
theorem dX3_sumOfDoubts_22 : decode cX3_sumOfDoubts 22 = .ok (.iadd, 1) := by decide +kernel
theorem dX3_sumOfDoubts_23 : decode cX3_sumOfDoubts 23 = .ok (.istore_n 1, 1) := by decide +kernel
theorem dX3_sumOfDoubts_24 : decode cX3_sumOfDoubts 24 = .ok (.iinc 2 1, 3) := by decide +kernel
theorem dX3_sumOfDoubts_27 : decode cX3_sumOfDoubts 27 = .ok (.goto (-23), 3) := by decide +kernel
theorem dX3_sumOfDoubts_30 : decode cX3_sumOfDoubts 30 = .ok (.iload_n 1, 1) := by decide +kernel
theorem dX3_sumOfDoubts_31 : decode cX3_sumOfDoubts 31 = .ok (.ireturn, 1) := by decide +kernel
theorem dX3_distancesAgree_0 : decode cX3_distancesAgree 0 = .ok (.iconst 0, 1) := by decide +kernel
theorem dX3_distancesAgree_1 : decode cX3_distancesAgree 1 = .ok (.istore_n 1, 1) := by decide +kernel
theorem dX3_distancesAgree_2 : decode cX3_distancesAgree 2 = .ok (.iload_n 1, 1) := by decide +kernel
theorem dX3_distancesAgree_3 : decode cX3_distancesAgree 3 = .ok (.aload_n 0, 1) := by decide +kernel
theorem dX3_distancesAgree_4 : decode cX3_distancesAgree 4 = .ok (.getfield 31, 3) := by decide +kernel
theorem dX3_distancesAgree_7 : decode cX3_distancesAgree 7 = .ok (.if_icmp .ge 61, 3) := by decide +kernel
theorem dX3_distancesAgree_10 : decode cX3_distancesAgree 10 = .ok (.aload_n 0, 1) := by decide +kernel
theorem dX3_distancesAgree_11 : decode cX3_distancesAgree 11 = .ok (.getfield 27, 3) := by decide +kernel
theorem dX3_distancesAgree_14 : decode cX3_distancesAgree 14 = .ok (.iload_n 1, 1) := by decide +kernel
theorem dX3_distancesAgree_15 : decode cX3_distancesAgree 15 = .ok (.aaload, 1) := by decide +kernel
theorem dX3_distancesAgree_16 : decode cX3_distancesAgree 16 = .ok (.getfield 82, 3) := by decide +kernel
theorem dX3_distancesAgree_19 : decode cX3_distancesAgree 19 = .ok (.istore_n 2, 1) := by decide +kernel
theorem dX3_distancesAgree_20 : decode cX3_distancesAgree 20 = .ok (.iconst 0, 1) := by decide +kernel
theorem dX3_distancesAgree_21 : decode cX3_distancesAgree 21 = .ok (.istore_n 3, 1) := by decide +kernel
theorem dX3_distancesAgree_22 : decode cX3_distancesAgree 22 = .ok (.iload_n 3, 1) := by decide +kernel
theorem dX3_distancesAgree_23 : decode cX3_distancesAgree 23 = .ok (.aload_n 0, 1) := by decide +kernel
theorem dX3_distancesAgree_24 : decode cX3_distancesAgree 24 = .ok (.getfield 12, 3) := by decide +kernel
theorem dX3_distancesAgree_27 : decode cX3_distancesAgree 27 = .ok (.getfield 58, 3) := by decide +kernel
theorem dX3_distancesAgree_30 : decode cX3_distancesAgree 30 = .ok (.if_icmp .ge 32, 3) := by decide +kernel
theorem dX3_distancesAgree_33 : decode cX3_distancesAgree 33 = .ok (.aload_n 0, 1) := by decide +kernel
theorem dX3_distancesAgree_34 : decode cX3_distancesAgree 34 = .ok (.getfield 12, 3) := by decide +kernel
theorem dX3_distancesAgree_37 : decode cX3_distancesAgree 37 = .ok (.iload_n 3, 1) := by decide +kernel
theorem dX3_distancesAgree_38 : decode cX3_distancesAgree 38 = .ok (.iload_n 2, 1) := by decide +kernel
theorem dX3_distancesAgree_39 : decode cX3_distancesAgree 39 = .ok (.invokevirtual 140, 3) := by decide +kernel
theorem dX3_distancesAgree_42 : decode cX3_distancesAgree 42 = .ok (.aload_n 0, 1) := by decide +kernel
theorem dX3_distancesAgree_43 : decode cX3_distancesAgree 43 = .ok (.getfield 12, 3) := by decide +kernel
theorem dX3_distancesAgree_46 : decode cX3_distancesAgree 46 = .ok (.iload_n 3, 1) := by decide +kernel
theorem dX3_distancesAgree_47 : decode cX3_distancesAgree 47 = .ok (.iload_n 2, 1) := by decide +kernel
theorem dX3_distancesAgree_48 : decode cX3_distancesAgree 48 = .ok (.invokevirtual 144, 3) := by decide +kernel
theorem dX3_distancesAgree_51 : decode cX3_distancesAgree 51 = .ok (.if_icmp .eq 5, 3) := by decide +kernel
theorem dX3_distancesAgree_54 : decode cX3_distancesAgree 54 = .ok (.iconst 0, 1) := by decide +kernel
theorem dX3_distancesAgree_55 : decode cX3_distancesAgree 55 = .ok (.ireturn, 1) := by decide +kernel
theorem dX3_distancesAgree_56 : decode cX3_distancesAgree 56 = .ok (.iinc 3 1, 3) := by decide +kernel
theorem dX3_distancesAgree_59 : decode cX3_distancesAgree 59 = .ok (.goto (-37), 3) := by decide +kernel
theorem dX3_distancesAgree_62 : decode cX3_distancesAgree 62 = .ok (.iinc 1 1, 3) := by decide +kernel
theorem dX3_distancesAgree_65 : decode cX3_distancesAgree 65 = .ok (.goto (-63), 3) := by decide +kernel
theorem dX3_distancesAgree_68 : decode cX3_distancesAgree 68 = .ok (.iconst 1, 1) := by decide +kernel
theorem dX3_distancesAgree_69 : decode cX3_distancesAgree 69 = .ok (.ireturn, 1) := by decide +kernel
theorem dX3_standsAreClear_0 : decode cX3_standsAreClear 0 = .ok (.iconst 0, 1) := by decide +kernel
theorem dX3_standsAreClear_1 : decode cX3_standsAreClear 1 = .ok (.istore_n 1, 1) := by decide +kernel
theorem dX3_standsAreClear_2 : decode cX3_standsAreClear 2 = .ok (.iload_n 1, 1) := by decide +kernel
theorem dX3_standsAreClear_3 : decode cX3_standsAreClear 3 = .ok (.aload_n 0, 1) := by decide +kernel
theorem dX3_standsAreClear_4 : decode cX3_standsAreClear 4 = .ok (.getfield 31, 3) := by decide +kernel
theorem dX3_standsAreClear_7 : decode cX3_standsAreClear 7 = .ok (.if_icmp .ge 33, 3) := by decide +kernel
theorem dX3_standsAreClear_10 : decode cX3_standsAreClear 10 = .ok (.aload_n 0, 1) := by decide +kernel
theorem dX3_standsAreClear_11 : decode cX3_standsAreClear 11 = .ok (.getfield 27, 3) := by decide +kernel
theorem dX3_standsAreClear_14 : decode cX3_standsAreClear 14 = .ok (.iload_n 1, 1) := by decide +kernel
theorem dX3_standsAreClear_15 : decode cX3_standsAreClear 15 = .ok (.aaload, 1) := by decide +kernel
theorem dX3_standsAreClear_16 : decode cX3_standsAreClear 16 = .ok (.getfield 82, 3) := by decide +kernel
theorem dX3_standsAreClear_19 : decode cX3_standsAreClear 19 = .ok (.aload_n 0, 1) := by decide +kernel
theorem dX3_standsAreClear_20 : decode cX3_standsAreClear 20 = .ok (.getfield 27, 3) := by decide +kernel
theorem dX3_standsAreClear_23 : decode cX3_standsAreClear 23 = .ok (.iload_n 1, 1) := by decide +kernel
theorem dX3_standsAreClear_24 : decode cX3_standsAreClear 24 = .ok (.aaload, 1) := by decide +kernel
theorem dX3_standsAreClear_25 : decode cX3_standsAreClear 25 = .ok (.getfield 91, 3) := by decide +kernel
theorem dX3_standsAreClear_28 : decode cX3_standsAreClear 28 = .ok (.iand, 1) := by decide +kernel
theorem dX3_standsAreClear_29 : decode cX3_standsAreClear 29 = .ok (.ifCond .eq 5, 3) := by decide +kernel
theorem dX3_standsAreClear_32 : decode cX3_standsAreClear 32 = .ok (.iconst 0, 1) := by decide +kernel
theorem dX3_standsAreClear_33 : decode cX3_standsAreClear 33 = .ok (.ireturn, 1) := by decide +kernel
theorem dX3_standsAreClear_34 : decode cX3_standsAreClear 34 = .ok (.iinc 1 1, 3) := by decide +kernel
theorem dX3_standsAreClear_37 : decode cX3_standsAreClear 37 = .ok (.goto (-35), 3) := by decide +kernel
theorem dX3_standsAreClear_40 : decode cX3_standsAreClear 40 = .ok (.iconst 1, 1) := by decide +kernel
theorem dX3_standsAreClear_41 : decode cX3_standsAreClear 41 = .ok (.ireturn, 1) := by decide +kernel
theorem dX3_hivesAddUp_0 : decode cX3_hivesAddUp 0 = .ok (.iconst 0, 1) := by decide +kernel
theorem dX3_hivesAddUp_1 : decode cX3_hivesAddUp 1 = .ok (.istore_n 1, 1) := by decide +kernel
theorem dX3_hivesAddUp_2 : decode cX3_hivesAddUp 2 = .ok (.iconst 0, 1) := by decide +kernel
theorem dX3_hivesAddUp_3 : decode cX3_hivesAddUp 3 = .ok (.istore_n 2, 1) := by decide +kernel
theorem dX3_hivesAddUp_4 : decode cX3_hivesAddUp 4 = .ok (.iload_n 2, 1) := by decide +kernel
theorem dX3_hivesAddUp_5 : decode cX3_hivesAddUp 5 = .ok (.iconst 4, 1) := by decide +kernel
theorem dX3_hivesAddUp_6 : decode cX3_hivesAddUp 6 = .ok (.if_icmp .ge 20, 3) := by decide +kernel
theorem dX3_hivesAddUp_9 : decode cX3_hivesAddUp 9 = .ok (.iload_n 1, 1) := by decide +kernel
theorem dX3_hivesAddUp_10 : decode cX3_hivesAddUp 10 = .ok (.aload_n 0, 1) := by decide +kernel
theorem dX3_hivesAddUp_11 : decode cX3_hivesAddUp 11 = .ok (.iload_n 2, 1) := by decide +kernel
theorem dX3_hivesAddUp_12 : decode cX3_hivesAddUp 12 = .ok (.invokevirtual 128, 3) := by decide +kernel
theorem dX3_hivesAddUp_15 : decode cX3_hivesAddUp 15 = .ok (.invokestatic 102, 3) := by decide +kernel
theorem dX3_hivesAddUp_18 : decode cX3_hivesAddUp 18 = .ok (.iadd, 1) := by decide +kernel
theorem dX3_hivesAddUp_19 : decode cX3_hivesAddUp 19 = .ok (.istore_n 1, 1) := by decide +kernel
theorem dX3_hivesAddUp_20 : decode cX3_hivesAddUp 20 = .ok (.iinc 2 1, 3) := by decide +kernel
theorem dX3_hivesAddUp_23 : decode cX3_hivesAddUp 23 = .ok (.goto (-19), 3) := by decide +kernel
theorem dX3_hivesAddUp_26 : decode cX3_hivesAddUp 26 = .ok (.iload_n 1, 1) := by decide +kernel
theorem dX3_hivesAddUp_27 : decode cX3_hivesAddUp 27 = .ok (.aload_n 0, 1) := by decide +kernel
theorem dX3_hivesAddUp_28 : decode cX3_hivesAddUp 28 = .ok (.getfield 12, 3) := by decide +kernel
theorem dX3_hivesAddUp_31 : decode cX3_hivesAddUp 31 = .ok (.getfield 58, 3) := by decide +kernel
theorem dX3_hivesAddUp_34 : decode cX3_hivesAddUp 34 = .ok (.if_icmp .ne 7, 3) := by decide +kernel
theorem dX3_hivesAddUp_37 : decode cX3_hivesAddUp 37 = .ok (.iconst 1, 1) := by decide +kernel
theorem dX3_hivesAddUp_38 : decode cX3_hivesAddUp 38 = .ok (.goto 4, 3) := by decide +kernel
theorem dX3_hivesAddUp_41 : decode cX3_hivesAddUp 41 = .ok (.iconst 0, 1) := by decide +kernel
theorem dX3_hivesAddUp_42 : decode cX3_hivesAddUp 42 = .ok (.ireturn, 1) := by decide +kernel
theorem dX4_init_0 : decode cX4_init 0 = .ok (.aload_n 0, 1) := by decide +kernel
theorem dX4_init_1 : decode cX4_init 1 = .ok (.invokespecial 3, 3) := by decide +kernel
theorem dX4_init_4 : decode cX4_init 4 = .ok (.aload_n 0, 1) := by decide +kernel
theorem dX4_init_5 : decode cX4_init 5 = .ok (.bipush 60, 2) := by decide +kernel
theorem dX4_init_7 : decode cX4_init 7 = .ok (.newarray .char, 2) := by decide +kernel
theorem dX4_init_9 : decode cX4_init 9 = .ok (.putfield 9, 3) := by decide +kernel
theorem dX4_init_12 : decode cX4_init 12 = .ok (.aload_n 0, 1) := by decide +kernel
theorem dX4_init_13 : decode cX4_init 13 = .ok (.iconst 0, 1) := by decide +kernel
theorem dX4_init_14 : decode cX4_init 14 = .ok (.putfield 15, 3) := by decide +kernel
theorem dX4_init_17 : decode cX4_init 17 = .ok (.aload_n 0, 1) := by decide +kernel
theorem dX4_init_18 : decode cX4_init 18 = .ok (.bipush 60, 2) := by decide +kernel
theorem dX4_init_20 : decode cX4_init 20 = .ok (.newarray .int, 2) := by decide +kernel
theorem dX4_init_22 : decode cX4_init 22 = .ok (.putfield 19, 3) := by decide +kernel
theorem dX4_init_25 : decode cX4_init 25 = .ok (.aload_n 0, 1) := by decide +kernel
theorem dX4_init_26 : decode cX4_init 26 = .ok (.bipush 60, 2) := by decide +kernel
theorem dX4_init_28 : decode cX4_init 28 = .ok (.newarray .int, 2) := by decide +kernel
theorem dX4_init_30 : decode cX4_init 30 = .ok (.putfield 23, 3) := by decide +kernel
theorem dX4_init_33 : decode cX4_init 33 = .ok (.aload_n 0, 1) := by decide +kernel
theorem dX4_init_34 : decode cX4_init 34 = .ok (.bipush 60, 2) := by decide +kernel
theorem dX4_init_36 : decode cX4_init 36 = .ok (.newarray .int, 2) := by decide +kernel
theorem dX4_init_38 : decode cX4_init 38 = .ok (.putfield 26, 3) := by decide +kernel
theorem dX4_init_41 : decode cX4_init 41 = .ok (.aload_n 0, 1) := by decide +kernel
theorem dX4_init_42 : decode cX4_init 42 = .ok (.iconst 0, 1) := by decide +kernel
theorem dX4_init_43 : decode cX4_init 43 = .ok (.putfield 29, 3) := by decide +kernel
theorem dX4_init_46 : decode cX4_init 46 = .ok (.aload_n 0, 1) := by decide +kernel
theorem dX4_init_47 : decode cX4_init 47 = .ok (.iconst 0, 1) := by decide +kernel
theorem dX4_init_48 : decode cX4_init 48 = .ok (.putfield 32, 3) := by decide +kernel
theorem dX4_init_51 : decode cX4_init 51 = .ok (.aload_n 0, 1) := by decide +kernel
theorem dX4_init_52 : decode cX4_init 52 = .ok (.iconst 0, 1) := by decide +kernel
theorem dX4_init_53 : decode cX4_init 53 = .ok (.putfield 35, 3) := by decide +kernel
theorem dX4_init_56 : decode cX4_init 56 = .ok (.aload_n 0, 1) := by decide +kernel
theorem dX4_init_57 : decode cX4_init 57 = .ok (.iconst 0, 1) := by decide +kernel
theorem dX4_init_58 : decode cX4_init 58 = .ok (.putfield 39, 3) := by decide +kernel
theorem dX4_init_61 : decode cX4_init 61 = .ok (.aload_n 0, 1) := by decide +kernel
theorem dX4_init_62 : decode cX4_init 62 = .ok (.iconst 0, 1) := by decide +kernel
theorem dX4_init_63 : decode cX4_init 63 = .ok (.putfield 42, 3) := by decide +kernel
theorem dX4_init_66 : decode cX4_init 66 = .ok (.aload_n 0, 1) := by decide +kernel
theorem dX4_init_67 : decode cX4_init 67 = .ok (.iconst 0, 1) := by decide +kernel
theorem dX4_init_68 : decode cX4_init 68 = .ok (.putfield 45, 3) := by decide +kernel
theorem dX4_init_71 : decode cX4_init 71 = .ok (.return_, 1) := by decide +kernel
theorem dX4_put_0 : decode cX4_put 0 = .ok (.aload_n 0, 1) := by decide +kernel
theorem dX4_put_1 : decode cX4_put 1 = .ok (.getfield 9, 3) := by decide +kernel
theorem dX4_put_4 : decode cX4_put 4 = .ok (.aload_n 0, 1) := by decide +kernel
theorem dX4_put_5 : decode cX4_put 5 = .ok (.getfield 15, 3) := by decide +kernel
theorem dX4_put_8 : decode cX4_put 8 = .ok (.iload_n 1, 1) := by decide +kernel
theorem dX4_put_9 : decode cX4_put 9 = .ok (.castore, 1) := by decide +kernel
theorem dX4_put_10 : decode cX4_put 10 = .ok (.aload_n 0, 1) := by decide +kernel
theorem dX4_put_11 : decode cX4_put 11 = .ok (.dup, 1) := by decide +kernel
theorem dX4_put_12 : decode cX4_put 12 = .ok (.getfield 15, 3) := by decide +kernel
theorem dX4_put_15 : decode cX4_put 15 = .ok (.iconst 1, 1) := by decide +kernel
theorem dX4_put_16 : decode cX4_put 16 = .ok (.iadd, 1) := by decide +kernel
theorem dX4_put_17 : decode cX4_put 17 = .ok (.putfield 15, 3) := by decide +kernel
theorem dX4_put_20 : decode cX4_put 20 = .ok (.return_, 1) := by decide +kernel
theorem dX4_readAll_0 : decode cX4_readAll 0 = .ok (.iconst 0, 1) := by decide +kernel
theorem dX4_readAll_1 : decode cX4_readAll 1 = .ok (.istore_n 1, 1) := by decide +kernel
theorem dX4_readAll_2 : decode cX4_readAll 2 = .ok (.iconst 0, 1) := by decide +kernel
theorem dX4_readAll_3 : decode cX4_readAll 3 = .ok (.istore_n 2, 1) := by decide +kernel
theorem dX4_readAll_4 : decode cX4_readAll 4 = .ok (.iload_n 2, 1) := by decide +kernel
theorem dX4_readAll_5 : decode cX4_readAll 5 = .ok (.bipush 60, 2) := by decide +kernel
theorem dX4_readAll_7 : decode cX4_readAll 7 = .ok (.if_icmp .ge 78, 3) := by decide +kernel
theorem dX4_readAll_10 : decode cX4_readAll 10 = .ok (.aload_n 0, 1) := by decide +kernel
theorem dX4_readAll_11 : decode cX4_readAll 11 = .ok (.iload_n 1, 1) := by decide +kernel
theorem dX4_readAll_12 : decode cX4_readAll 12 = .ok (.invokevirtual 48, 3) := by decide +kernel
theorem dX4_readAll_15 : decode cX4_readAll 15 = .ok (.istore_n 3, 1) := by decide +kernel
theorem dX4_readAll_16 : decode cX4_readAll 16 = .ok (.aload_n 0, 1) := by decide +kernel
theorem dX4_readAll_17 : decode cX4_readAll 17 = .ok (.iload_n 3, 1) := by decide +kernel
theorem dX4_readAll_18 : decode cX4_readAll 18 = .ok (.iload_n 1, 1) := by decide +kernel
theorem dX4_readAll_19 : decode cX4_readAll 19 = .ok (.invokevirtual 52, 3) := by decide +kernel
theorem dX4_readAll_22 : decode cX4_readAll 22 = .ok (.aload_n 0, 1) := by decide +kernel
theorem dX4_readAll_23 : decode cX4_readAll 23 = .ok (.getfield 35, 3) := by decide +kernel
theorem dX4_readAll_26 : decode cX4_readAll 26 = .ok (.ifCond .ne 8, 3) := by decide +kernel
theorem dX4_readAll_29 : decode cX4_readAll 29 = .ok (.aload_n 0, 1) := by decide +kernel
theorem dX4_readAll_30 : decode cX4_readAll 30 = .ok (.getfield 32, 3) := by decide +kernel
theorem dX4_readAll_33 : decode cX4_readAll 33 = .ok (.ireturn, 1) := by decide +kernel
theorem dX4_readAll_34 : decode cX4_readAll 34 = .ok (.aload_n 0, 1) := by decide +kernel
theorem dX4_readAll_35 : decode cX4_readAll 35 = .ok (.iload_n 2, 1) := by decide +kernel
theorem dX4_readAll_36 : decode cX4_readAll 36 = .ok (.iload_n 3, 1) := by decide +kernel
theorem dX4_readAll_37 : decode cX4_readAll 37 = .ok (.invokevirtual 56, 3) := by decide +kernel
theorem dX4_readAll_40 : decode cX4_readAll 40 = .ok (.aload_n 0, 1) := by decide +kernel
theorem dX4_readAll_41 : decode cX4_readAll 41 = .ok (.getfield 32, 3) := by decide +kernel
theorem dX4_readAll_44 : decode cX4_readAll 44 = .ok (.aload_n 0, 1) := by decide +kernel
theorem dX4_readAll_45 : decode cX4_readAll 45 = .ok (.getfield 15, 3) := by decide +kernel
theorem dX4_readAll_48 : decode cX4_readAll 48 = .ok (.if_icmp .ne 5, 3) := by decide +kernel
theorem dX4_readAll_51 : decode cX4_readAll 51 = .ok (.iconst (-1), 1) := by decide +kernel
theorem dX4_readAll_52 : decode cX4_readAll 52 = .ok (.ireturn, 1) := by decide +kernel
theorem dX4_readAll_53 : decode cX4_readAll 53 = .ok (.aload_n 0, 1) := by decide +kernel
theorem dX4_readAll_54 : decode cX4_readAll 54 = .ok (.getfield 9, 3) := by decide +kernel
theorem dX4_readAll_57 : decode cX4_readAll 57 = .ok (.aload_n 0, 1) := by decide +kernel
theorem dX4_readAll_58 : decode cX4_readAll 58 = .ok (.getfield 32, 3) := by decide +kernel
theorem dX4_readAll_61 : decode cX4_readAll 61 = .ok (.caload, 1) := by decide +kernel
theorem dX4_readAll_62 : decode cX4_readAll 62 = .ok (.bipush 59, 2) := by decide +kernel
theorem dX4_readAll_64 : decode cX4_readAll 64 = .ok (.if_icmp .eq 8, 3) := by decide +kernel
theorem dX4_readAll_67 : decode cX4_readAll 67 = .ok (.aload_n 0, 1) := by decide +kernel
theorem dX4_readAll_68 : decode cX4_readAll 68 = .ok (.getfield 32, 3) := by decide +kernel
theorem dX4_readAll_71 : decode cX4_readAll 71 = .ok (.ireturn, 1) := by decide +kernel
theorem dX4_readAll_72 : decode cX4_readAll 72 = .ok (.aload_n 0, 1) := by decide +kernel
theorem dX4_readAll_73 : decode cX4_readAll 73 = .ok (.getfield 32, 3) := by decide +kernel
theorem dX4_readAll_76 : decode cX4_readAll 76 = .ok (.iconst 1, 1) := by decide +kernel
theorem dX4_readAll_77 : decode cX4_readAll 77 = .ok (.iadd, 1) := by decide +kernel
theorem dX4_readAll_78 : decode cX4_readAll 78 = .ok (.istore_n 1, 1) := by decide +kernel
theorem dX4_readAll_79 : decode cX4_readAll 79 = .ok (.iinc 2 1, 3) := by decide +kernel
theorem dX4_readAll_82 : decode cX4_readAll 82 = .ok (.goto (-78), 3) := by decide +kernel
theorem dX4_readAll_85 : decode cX4_readAll 85 = .ok (.iload_n 1, 1) := by decide +kernel
theorem dX4_readAll_86 : decode cX4_readAll 86 = .ok (.ireturn, 1) := by decide +kernel
theorem dX4_keepCommand_0 : decode cX4_keepCommand 0 = .ok (.aload_n 0, 1) := by decide +kernel
theorem dX4_keepCommand_1 : decode cX4_keepCommand 1 = .ok (.getfield 19, 3) := by decide +kernel
theorem dX4_keepCommand_4 : decode cX4_keepCommand 4 = .ok (.iload_n 1, 1) := by decide +kernel
theorem dX4_keepCommand_5 : decode cX4_keepCommand 5 = .ok (.iload_n 2, 1) := by decide +kernel
theorem dX4_keepCommand_6 : decode cX4_keepCommand 6 = .ok (.iastore, 1) := by decide +kernel
theorem dX4_keepCommand_7 : decode cX4_keepCommand 7 = .ok (.aload_n 0, 1) := by decide +kernel
theorem dX4_keepCommand_8 : decode cX4_keepCommand 8 = .ok (.getfield 23, 3) := by decide +kernel
theorem dX4_keepCommand_11 : decode cX4_keepCommand 11 = .ok (.iload_n 1, 1) := by decide +kernel
theorem dX4_keepCommand_12 : decode cX4_keepCommand 12 = .ok (.iload_n 2, 1) := by decide +kernel
theorem dX4_keepCommand_13 : decode cX4_keepCommand 13 = .ok (.bipush 8, 2) := by decide +kernel
theorem dX4_keepCommand_15 : decode cX4_keepCommand 15 = .ok (.if_icmp .ne 7, 3) := by decide +kernel
theorem dX4_keepCommand_18 : decode cX4_keepCommand 18 = .ok (.iconst 1, 1) := by decide +kernel
theorem dX4_keepCommand_19 : decode cX4_keepCommand 19 = .ok (.goto 7, 3) := by decide +kernel
theorem dX4_keepCommand_22 : decode cX4_keepCommand 22 = .ok (.aload_n 0, 1) := by decide +kernel
theorem dX4_keepCommand_23 : decode cX4_keepCommand 23 = .ok (.getfield 42, 3) := by decide +kernel
theorem dX4_keepCommand_26 : decode cX4_keepCommand 26 = .ok (.iastore, 1) := by decide +kernel
theorem dX4_keepCommand_27 : decode cX4_keepCommand 27 = .ok (.aload_n 0, 1) := by decide +kernel
theorem dX4_keepCommand_28 : decode cX4_keepCommand 28 = .ok (.getfield 26, 3) := by decide +kernel
theorem dX4_keepCommand_31 : decode cX4_keepCommand 31 = .ok (.iload_n 1, 1) := by decide +kernel
theorem dX4_keepCommand_32 : decode cX4_keepCommand 32 = .ok (.aload_n 0, 1) := by decide +kernel
theorem dX4_keepCommand_33 : decode cX4_keepCommand 33 = .ok (.getfield 45, 3) := by decide +kernel
theorem dX4_keepCommand_36 : decode cX4_keepCommand 36 = .ok (.iastore, 1) := by decide +kernel
theorem dX4_keepCommand_37 : decode cX4_keepCommand 37 = .ok (.aload_n 0, 1) := by decide +kernel
theorem dX4_keepCommand_38 : decode cX4_keepCommand 38 = .ok (.iload_n 1, 1) := by decide +kernel
theorem dX4_keepCommand_39 : decode cX4_keepCommand 39 = .ok (.iconst 1, 1) := by decide +kernel
theorem dX4_keepCommand_40 : decode cX4_keepCommand 40 = .ok (.iadd, 1) := by decide +kernel
theorem dX4_keepCommand_41 : decode cX4_keepCommand 41 = .ok (.putfield 29, 3) := by decide +kernel
theorem dX4_keepCommand_44 : decode cX4_keepCommand 44 = .ok (.return_, 1) := by decide +kernel
theorem dX4_furthestKind_0 : decode cX4_furthestKind 0 = .ok (.iconst 0, 1) := by decide +kernel
theorem dX4_furthestKind_1 : decode cX4_furthestKind 1 = .ok (.istore_n 2, 1) := by decide +kernel
theorem dX4_furthestKind_2 : decode cX4_furthestKind 2 = .ok (.iconst (-1), 1) := by decide +kernel
theorem dX4_furthestKind_3 : decode cX4_furthestKind 3 = .ok (.istore_n 3, 1) := by decide +kernel
theorem dX4_furthestKind_4 : decode cX4_furthestKind 4 = .ok (.iconst 0, 1) := by decide +kernel
theorem dX4_furthestKind_5 : decode cX4_furthestKind 5 = .ok (.istore 4, 2) := by decide +kernel
theorem dX4_furthestKind_7 : decode cX4_furthestKind 7 = .ok (.iload 4, 2) := by decide +kernel
theorem dX4_furthestKind_9 : decode cX4_furthestKind 9 = .ok (.bipush 10, 2) := by decide +kernel
theorem dX4_furthestKind_11 : decode cX4_furthestKind 11 = .ok (.if_icmp .ge 32, 3) := by decide +kernel
theorem dX4_furthestKind_14 : decode cX4_furthestKind 14 = .ok (.aload_n 0, 1) := by decide +kernel
theorem dX4_furthestKind_15 : decode cX4_furthestKind 15 = .ok (.iload 4, 2) := by decide +kernel
theorem dX4_furthestKind_17 : decode cX4_furthestKind 17 = .ok (.iload_n 1, 1) := by decide +kernel
theorem dX4_furthestKind_18 : decode cX4_furthestKind 18 = .ok (.invokevirtual 52, 3) := by decide +kernel
theorem dX4_furthestKind_21 : decode cX4_furthestKind 21 = .ok (.aload_n 0, 1) := by decide +kernel
theorem dX4_furthestKind_22 : decode cX4_furthestKind 22 = .ok (.getfield 32, 3) := by decide +kernel
theorem dX4_furthestKind_25 : decode cX4_furthestKind 25 = .ok (.iload_n 3, 1) := by decide +kernel
theorem dX4_furthestKind_26 : decode cX4_furthestKind 26 = .ok (.if_icmp .le 11, 3) := by decide +kernel
theorem dX4_furthestKind_29 : decode cX4_furthestKind 29 = .ok (.iload 4, 2) := by decide +kernel
theorem dX4_furthestKind_31 : decode cX4_furthestKind 31 = .ok (.istore_n 2, 1) := by decide +kernel
theorem dX4_furthestKind_32 : decode cX4_furthestKind 32 = .ok (.aload_n 0, 1) := by decide +kernel
theorem dX4_furthestKind_33 : decode cX4_furthestKind 33 = .ok (.getfield 32, 3) := by decide +kernel
theorem dX4_furthestKind_36 : decode cX4_furthestKind 36 = .ok (.istore_n 3, 1) := by decide +kernel
theorem dX4_furthestKind_37 : decode cX4_furthestKind 37 = .ok (.iinc 4 1, 3) := by decide +kernel
theorem dX4_furthestKind_40 : decode cX4_furthestKind 40 = .ok (.goto (-33), 3) := by decide +kernel
theorem dX4_furthestKind_43 : decode cX4_furthestKind 43 = .ok (.iload_n 2, 1) := by decide +kernel
theorem dX4_furthestKind_44 : decode cX4_furthestKind 44 = .ok (.ireturn, 1) := by decide +kernel
theorem dX4_formOf_0 : decode cX4_formOf 0 = .ok (.iload_n 0, 1) := by decide +kernel
theorem dX4_formOf_1 : decode cX4_formOf 1 = .ok (.tableswitch 78 0 8 #[51, 54, 57, 60, 63, 66, 69, 72, 75], 51) := by decide +kernel
theorem dX4_formOf_52 : decode cX4_formOf 52 = .ok (.ldc 59, 2) := by decide +kernel
theorem dX4_formOf_54 : decode cX4_formOf 54 = .ok (.areturn, 1) := by decide +kernel
theorem dX4_formOf_55 : decode cX4_formOf 55 = .ok (.ldc 61, 2) := by decide +kernel
theorem dX4_formOf_57 : decode cX4_formOf 57 = .ok (.areturn, 1) := by decide +kernel
theorem dX4_formOf_58 : decode cX4_formOf 58 = .ok (.ldc 63, 2) := by decide +kernel
theorem dX4_formOf_60 : decode cX4_formOf 60 = .ok (.areturn, 1) := by decide +kernel
theorem dX4_formOf_61 : decode cX4_formOf 61 = .ok (.ldc 65, 2) := by decide +kernel
theorem dX4_formOf_63 : decode cX4_formOf 63 = .ok (.areturn, 1) := by decide +kernel
theorem dX4_formOf_64 : decode cX4_formOf 64 = .ok (.ldc 67, 2) := by decide +kernel
theorem dX4_formOf_66 : decode cX4_formOf 66 = .ok (.areturn, 1) := by decide +kernel
theorem dX4_formOf_67 : decode cX4_formOf 67 = .ok (.ldc 69, 2) := by decide +kernel
theorem dX4_formOf_69 : decode cX4_formOf 69 = .ok (.areturn, 1) := by decide +kernel
theorem dX4_formOf_70 : decode cX4_formOf 70 = .ok (.ldc 71, 2) := by decide +kernel
theorem dX4_formOf_72 : decode cX4_formOf 72 = .ok (.areturn, 1) := by decide +kernel
theorem dX4_formOf_73 : decode cX4_formOf 73 = .ok (.ldc 73, 2) := by decide +kernel
theorem dX4_formOf_75 : decode cX4_formOf 75 = .ok (.areturn, 1) := by decide +kernel
theorem dX4_formOf_76 : decode cX4_formOf 76 = .ok (.ldc 75, 2) := by decide +kernel
theorem dX4_formOf_78 : decode cX4_formOf 78 = .ok (.areturn, 1) := by decide +kernel
theorem dX4_formOf_79 : decode cX4_formOf 79 = .ok (.ldc 77, 2) := by decide +kernel
theorem dX4_formOf_81 : decode cX4_formOf 81 = .ok (.areturn, 1) := by decide +kernel
theorem dX4_match_0 : decode cX4_match 0 = .ok (.iload_n 1, 1) := by decide +kernel
theorem dX4_match_1 : decode cX4_match 1 = .ok (.invokestatic 79, 3) := by decide +kernel
theorem dX4_match_4 : decode cX4_match 4 = .ok (.astore_n 3, 1) := by decide +kernel
theorem dX4_match_5 : decode cX4_match 5 = .ok (.aload_n 0, 1) := by decide +kernel
theorem dX4_match_6 : decode cX4_match 6 = .ok (.iload_n 2, 1) := by decide +kernel
theorem dX4_match_7 : decode cX4_match 7 = .ok (.putfield 32, 3) := by decide +kernel
theorem dX4_match_10 : decode cX4_match 10 = .ok (.aload_n 0, 1) := by decide +kernel
theorem dX4_match_11 : decode cX4_match 11 = .ok (.iconst 0, 1) := by decide +kernel
theorem dX4_match_12 : decode cX4_match 12 = .ok (.putfield 35, 3) := by decide +kernel
theorem dX4_match_15 : decode cX4_match 15 = .ok (.aload_n 0, 1) := by decide +kernel
theorem dX4_match_16 : decode cX4_match 16 = .ok (.iconst 0, 1) := by decide +kernel
theorem dX4_match_17 : decode cX4_match 17 = .ok (.putfield 39, 3) := by decide +kernel
theorem dX4_match_20 : decode cX4_match 20 = .ok (.aload_n 0, 1) := by decide +kernel
theorem dX4_match_21 : decode cX4_match 21 = .ok (.iconst 0, 1) := by decide +kernel
theorem dX4_match_22 : decode cX4_match 22 = .ok (.putfield 42, 3) := by decide +kernel
theorem dX4_match_25 : decode cX4_match 25 = .ok (.aload_n 0, 1) := by decide +kernel
theorem dX4_match_26 : decode cX4_match 26 = .ok (.iconst 0, 1) := by decide +kernel
theorem dX4_match_27 : decode cX4_match 27 = .ok (.putfield 45, 3) := by decide +kernel
theorem dX4_match_30 : decode cX4_match 30 = .ok (.iconst 0, 1) := by decide +kernel
theorem dX4_match_31 : decode cX4_match 31 = .ok (.istore 4, 2) := by decide +kernel
theorem dX4_match_33 : decode cX4_match 33 = .ok (.iload 4, 2) := by decide +kernel
theorem dX4_match_35 : decode cX4_match 35 = .ok (.aload_n 3, 1) := by decide +kernel
theorem dX4_match_36 : decode cX4_match 36 = .ok (.invokevirtual 83, 3) := by decide +kernel
theorem dX4_match_39 : decode cX4_match 39 = .ok (.if_icmp .ge 23, 3) := by decide +kernel
theorem dX4_match_42 : decode cX4_match 42 = .ok (.aload_n 0, 1) := by decide +kernel
theorem dX4_match_43 : decode cX4_match 43 = .ok (.aload_n 3, 1) := by decide +kernel
theorem dX4_match_44 : decode cX4_match 44 = .ok (.iload 4, 2) := by decide +kernel
theorem dX4_match_46 : decode cX4_match 46 = .ok (.invokevirtual 88, 3) := by decide +kernel
theorem dX4_match_49 : decode cX4_match 49 = .ok (.invokevirtual 92, 3) := by decide +kernel
theorem dX4_match_52 : decode cX4_match 52 = .ok (.ifCond .ne 4, 3) := by decide +kernel
theorem dX4_match_55 : decode cX4_match 55 = .ok (.return_, 1) := by decide +kernel
theorem dX4_match_56 : decode cX4_match 56 = .ok (.iinc 4 1, 3) := by decide +kernel
theorem dX4_match_59 : decode cX4_match 59 = .ok (.goto (-26), 3) := by decide +kernel
theorem dX4_match_62 : decode cX4_match 62 = .ok (.aload_n 0, 1) := by decide +kernel
theorem dX4_match_63 : decode cX4_match 63 = .ok (.iconst 1, 1) := by decide +kernel
theorem dX4_match_64 : decode cX4_match 64 = .ok (.putfield 35, 3) := by decide +kernel
theorem dX4_match_67 : decode cX4_match 67 = .ok (.return_, 1) := by decide +kernel
theorem dX4_takes_0 : decode cX4_takes 0 = .ok (.iload_n 1, 1) := by decide +kernel
theorem dX4_takes_1 : decode cX4_takes 1 = .ok (.bipush 35, 2) := by decide +kernel
theorem dX4_takes_3 : decode cX4_takes 3 = .ok (.if_icmp .eq 9, 3) := by decide +kernel
theorem dX4_takes_6 : decode cX4_takes 6 = .ok (.iload_n 1, 1) := by decide +kernel
theorem dX4_takes_7 : decode cX4_takes 7 = .ok (.bipush 64, 2) := by decide +kernel
theorem dX4_takes_9 : decode cX4_takes 9 = .ok (.if_icmp .ne 19, 3) := by decide +kernel
theorem dX4_takes_12 : decode cX4_takes 12 = .ok (.aload_n 0, 1) := by decide +kernel
theorem dX4_takes_13 : decode cX4_takes 13 = .ok (.iload_n 1, 1) := by decide +kernel
theorem dX4_takes_14 : decode cX4_takes 14 = .ok (.bipush 64, 2) := by decide +kernel
theorem dX4_takes_16 : decode cX4_takes 16 = .ok (.if_icmp .ne 7, 3) := by decide +kernel
theorem dX4_takes_19 : decode cX4_takes 19 = .ok (.iconst 2, 1) := by decide +kernel
theorem dX4_takes_20 : decode cX4_takes 20 = .ok (.goto 4, 3) := by decide +kernel
theorem dX4_takes_23 : decode cX4_takes 23 = .ok (.iconst 1, 1) := by decide +kernel
theorem dX4_takes_24 : decode cX4_takes 24 = .ok (.invokevirtual 96, 3) := by decide +kernel
theorem dX4_takes_27 : decode cX4_takes 27 = .ok (.ireturn, 1) := by decide +kernel
theorem dX4_takes_28 : decode cX4_takes 28 = .ok (.aload_n 0, 1) := by decide +kernel
theorem dX4_takes_29 : decode cX4_takes 29 = .ok (.getfield 32, 3) := by decide +kernel
theorem dX4_takes_32 : decode cX4_takes 32 = .ok (.aload_n 0, 1) := by decide +kernel
theorem dX4_takes_33 : decode cX4_takes 33 = .ok (.getfield 15, 3) := by decide +kernel
theorem dX4_takes_36 : decode cX4_takes 36 = .ok (.if_icmp .ge 16, 3) := by decide +kernel
theorem dX4_takes_39 : decode cX4_takes 39 = .ok (.aload_n 0, 1) := by decide +kernel
theorem dX4_takes_40 : decode cX4_takes 40 = .ok (.getfield 9, 3) := by decide +kernel
theorem dX4_takes_43 : decode cX4_takes 43 = .ok (.aload_n 0, 1) := by decide +kernel
theorem dX4_takes_44 : decode cX4_takes 44 = .ok (.getfield 32, 3) := by decide +kernel
theorem dX4_takes_47 : decode cX4_takes 47 = .ok (.caload, 1) := by decide +kernel
theorem dX4_takes_48 : decode cX4_takes 48 = .ok (.iload_n 1, 1) := by decide +kernel
theorem dX4_takes_49 : decode cX4_takes 49 = .ok (.if_icmp .eq 5, 3) := by decide +kernel
theorem dX4_takes_52 : decode cX4_takes 52 = .ok (.iconst 0, 1) := by decide +kernel
theorem dX4_takes_53 : decode cX4_takes 53 = .ok (.ireturn, 1) := by decide +kernel
theorem dX4_takes_54 : decode cX4_takes 54 = .ok (.aload_n 0, 1) := by decide +kernel
theorem dX4_takes_55 : decode cX4_takes 55 = .ok (.dup, 1) := by decide +kernel
theorem dX4_takes_56 : decode cX4_takes 56 = .ok (.getfield 32, 3) := by decide +kernel
theorem dX4_takes_59 : decode cX4_takes 59 = .ok (.iconst 1, 1) := by decide +kernel
theorem dX4_takes_60 : decode cX4_takes 60 = .ok (.iadd, 1) := by decide +kernel
theorem dX4_takes_61 : decode cX4_takes 61 = .ok (.putfield 32, 3) := by decide +kernel
theorem dX4_takes_64 : decode cX4_takes 64 = .ok (.iconst 1, 1) := by decide +kernel
theorem dX4_takes_65 : decode cX4_takes 65 = .ok (.ireturn, 1) := by decide +kernel
theorem dX4_takesNumber_0 : decode cX4_takesNumber 0 = .ok (.iconst 0, 1) := by decide +kernel
theorem dX4_takesNumber_1 : decode cX4_takesNumber 1 = .ok (.istore_n 2, 1) := by decide +kernel
theorem dX4_takesNumber_2 : decode cX4_takesNumber 2 = .ok (.iconst 0, 1) := by decide +kernel
theorem dX4_takesNumber_3 : decode cX4_takesNumber 3 = .ok (.istore_n 3, 1) := by decide +kernel
theorem dX4_takesNumber_4 : decode cX4_takesNumber 4 = .ok (.iload_n 3, 1) := by decide +kernel
theorem dX4_takesNumber_5 : decode cX4_takesNumber 5 = .ok (.iload_n 1, 1) := by decide +kernel
theorem dX4_takesNumber_6 : decode cX4_takesNumber 6 = .ok (.if_icmp .ge 44, 3) := by decide +kernel
theorem dX4_takesNumber_9 : decode cX4_takesNumber 9 = .ok (.aload_n 0, 1) := by decide +kernel
theorem dX4_takesNumber_10 : decode cX4_takesNumber 10 = .ok (.invokevirtual 100, 3) := by decide +kernel
theorem dX4_takesNumber_13 : decode cX4_takesNumber 13 = .ok (.ifCond .eq 37, 3) := by decide +kernel
theorem dX4_takesNumber_16 : decode cX4_takesNumber 16 = .ok (.iload_n 2, 1) := by decide +kernel
theorem dX4_takesNumber_17 : decode cX4_takesNumber 17 = .ok (.bipush 10, 2) := by decide +kernel
theorem dX4_takesNumber_19 : decode cX4_takesNumber 19 = .ok (.imul, 1) := by decide +kernel
theorem dX4_takesNumber_20 : decode cX4_takesNumber 20 = .ok (.aload_n 0, 1) := by decide +kernel
theorem dX4_takesNumber_21 : decode cX4_takesNumber 21 = .ok (.getfield 9, 3) := by decide +kernel
theorem dX4_takesNumber_24 : decode cX4_takesNumber 24 = .ok (.aload_n 0, 1) := by decide +kernel
theorem dX4_takesNumber_25 : decode cX4_takesNumber 25 = .ok (.getfield 32, 3) := by decide +kernel
theorem dX4_takesNumber_28 : decode cX4_takesNumber 28 = .ok (.caload, 1) := by decide +kernel
theorem dX4_takesNumber_29 : decode cX4_takesNumber 29 = .ok (.bipush 48, 2) := by decide +kernel
theorem dX4_takesNumber_31 : decode cX4_takesNumber 31 = .ok (.isub, 1) := by decide +kernel
theorem dX4_takesNumber_32 : decode cX4_takesNumber 32 = .ok (.iadd, 1) := by decide +kernel
theorem dX4_takesNumber_33 : decode cX4_takesNumber 33 = .ok (.istore_n 2, 1) := by decide +kernel
theorem dX4_takesNumber_34 : decode cX4_takesNumber 34 = .ok (.aload_n 0, 1) := by decide +kernel
theorem dX4_takesNumber_35 : decode cX4_takesNumber 35 = .ok (.dup, 1) := by decide +kernel
theorem dX4_takesNumber_36 : decode cX4_takesNumber 36 = .ok (.getfield 32, 3) := by decide +kernel
theorem dX4_takesNumber_39 : decode cX4_takesNumber 39 = .ok (.iconst 1, 1) := by decide +kernel
theorem dX4_takesNumber_40 : decode cX4_takesNumber 40 = .ok (.iadd, 1) := by decide +kernel
theorem dX4_takesNumber_41 : decode cX4_takesNumber 41 = .ok (.putfield 32, 3) := by decide +kernel
theorem dX4_takesNumber_44 : decode cX4_takesNumber 44 = .ok (.iinc 3 1, 3) := by decide +kernel
theorem dX4_takesNumber_47 : decode cX4_takesNumber 47 = .ok (.goto (-43), 3) := by decide +kernel
theorem dX4_takesNumber_50 : decode cX4_takesNumber 50 = .ok (.aload_n 0, 1) := by decide +kernel
theorem dX4_takesNumber_51 : decode cX4_takesNumber 51 = .ok (.getfield 39, 3) := by decide +kernel
theorem dX4_takesNumber_54 : decode cX4_takesNumber 54 = .ok (.ifCond .ne 11, 3) := by decide +kernel
theorem dX4_takesNumber_57 : decode cX4_takesNumber 57 = .ok (.aload_n 0, 1) := by decide +kernel
theorem dX4_takesNumber_58 : decode cX4_takesNumber 58 = .ok (.iload_n 2, 1) := by decide +kernel
theorem dX4_takesNumber_59 : decode cX4_takesNumber 59 = .ok (.putfield 42, 3) := by decide +kernel
theorem dX4_takesNumber_62 : decode cX4_takesNumber 62 = .ok (.goto 8, 3) := by decide +kernel
theorem dX4_takesNumber_65 : decode cX4_takesNumber 65 = .ok (.aload_n 0, 1) := by decide +kernel
theorem dX4_takesNumber_66 : decode cX4_takesNumber 66 = .ok (.iload_n 2, 1) := by decide +kernel
theorem dX4_takesNumber_67 : decode cX4_takesNumber 67 = .ok (.putfield 45, 3) := by decide +kernel
theorem dX4_takesNumber_70 : decode cX4_takesNumber 70 = .ok (.aload_n 0, 1) := by decide +kernel
theorem dX4_takesNumber_71 : decode cX4_takesNumber 71 = .ok (.dup, 1) := by decide +kernel
theorem dX4_takesNumber_72 : decode cX4_takesNumber 72 = .ok (.getfield 39, 3) := by decide +kernel
theorem dX4_takesNumber_75 : decode cX4_takesNumber 75 = .ok (.iconst 1, 1) := by decide +kernel
theorem dX4_takesNumber_76 : decode cX4_takesNumber 76 = .ok (.iadd, 1) := by decide +kernel
theorem dX4_takesNumber_77 : decode cX4_takesNumber 77 = .ok (.putfield 39, 3) := by decide +kernel
theorem dX4_takesNumber_80 : decode cX4_takesNumber 80 = .ok (.iload_n 3, 1) := by decide +kernel
theorem dX4_takesNumber_81 : decode cX4_takesNumber 81 = .ok (.ifCond .le 7, 3) := by decide +kernel
theorem dX4_takesNumber_84 : decode cX4_takesNumber 84 = .ok (.iconst 1, 1) := by decide +kernel
theorem dX4_takesNumber_85 : decode cX4_takesNumber 85 = .ok (.goto 4, 3) := by decide +kernel
theorem dX4_takesNumber_88 : decode cX4_takesNumber 88 = .ok (.iconst 0, 1) := by decide +kernel
theorem dX4_takesNumber_89 : decode cX4_takesNumber 89 = .ok (.ireturn, 1) := by decide +kernel
theorem dX4_digitFollows_0 : decode cX4_digitFollows 0 = .ok (.aload_n 0, 1) := by decide +kernel
theorem dX4_digitFollows_1 : decode cX4_digitFollows 1 = .ok (.getfield 32, 3) := by decide +kernel
theorem dX4_digitFollows_4 : decode cX4_digitFollows 4 = .ok (.aload_n 0, 1) := by decide +kernel
theorem dX4_digitFollows_5 : decode cX4_digitFollows 5 = .ok (.getfield 15, 3) := by decide +kernel
theorem dX4_digitFollows_8 : decode cX4_digitFollows 8 = .ok (.if_icmp .ge 35, 3) := by decide +kernel
theorem dX4_digitFollows_11 : decode cX4_digitFollows 11 = .ok (.aload_n 0, 1) := by decide +kernel
theorem dX4_digitFollows_12 : decode cX4_digitFollows 12 = .ok (.getfield 9, 3) := by decide +kernel
theorem dX4_digitFollows_15 : decode cX4_digitFollows 15 = .ok (.aload_n 0, 1) := by decide +kernel
theorem dX4_digitFollows_16 : decode cX4_digitFollows 16 = .ok (.getfield 32, 3) := by decide +kernel
theorem dX4_digitFollows_19 : decode cX4_digitFollows 19 = .ok (.caload, 1) := by decide +kernel
theorem dX4_digitFollows_20 : decode cX4_digitFollows 20 = .ok (.bipush 48, 2) := by decide +kernel
theorem dX4_digitFollows_22 : decode cX4_digitFollows 22 = .ok (.if_icmp .lt 21, 3) := by decide +kernel
theorem dX4_digitFollows_25 : decode cX4_digitFollows 25 = .ok (.aload_n 0, 1) := by decide +kernel
theorem dX4_digitFollows_26 : decode cX4_digitFollows 26 = .ok (.getfield 9, 3) := by decide +kernel
theorem dX4_digitFollows_29 : decode cX4_digitFollows 29 = .ok (.aload_n 0, 1) := by decide +kernel
theorem dX4_digitFollows_30 : decode cX4_digitFollows 30 = .ok (.getfield 32, 3) := by decide +kernel
theorem dX4_digitFollows_33 : decode cX4_digitFollows 33 = .ok (.caload, 1) := by decide +kernel
theorem dX4_digitFollows_34 : decode cX4_digitFollows 34 = .ok (.bipush 57, 2) := by decide +kernel
theorem dX4_digitFollows_36 : decode cX4_digitFollows 36 = .ok (.if_icmp .gt 7, 3) := by decide +kernel
theorem dX4_digitFollows_39 : decode cX4_digitFollows 39 = .ok (.iconst 1, 1) := by decide +kernel
theorem dX4_digitFollows_40 : decode cX4_digitFollows 40 = .ok (.goto 4, 3) := by decide +kernel
theorem dX4_digitFollows_43 : decode cX4_digitFollows 43 = .ok (.iconst 0, 1) := by decide +kernel
theorem dX4_digitFollows_44 : decode cX4_digitFollows 44 = .ok (.ireturn, 1) := by decide +kernel
theorem dX5_init_0 : decode cX5_init 0 = .ok (.aload_n 0, 1) := by decide +kernel
theorem dX5_init_1 : decode cX5_init 1 = .ok (.invokespecial 1, 3) := by decide +kernel
theorem dX5_init_4 : decode cX5_init 4 = .ok (.aload_n 0, 1) := by decide +kernel
theorem dX5_init_5 : decode cX5_init 5 = .ok (.new 7, 3) := by decide +kernel
theorem dX5_init_8 : decode cX5_init 8 = .ok (.dup, 1) := by decide +kernel
theorem dX5_init_9 : decode cX5_init 9 = .ok (.invokespecial 9, 3) := by decide +kernel
theorem dX5_init_12 : decode cX5_init 12 = .ok (.putfield 10, 3) := by decide +kernel
theorem dX5_init_15 : decode cX5_init 15 = .ok (.aload_n 0, 1) := by decide +kernel
theorem dX5_init_16 : decode cX5_init 16 = .ok (.new 7, 3) := by decide +kernel
theorem dX5_init_19 : decode cX5_init 19 = .ok (.dup, 1) := by decide +kernel
theorem dX5_init_20 : decode cX5_init 20 = .ok (.invokespecial 9, 3) := by decide +kernel
theorem dX5_init_23 : decode cX5_init 23 = .ok (.putfield 16, 3) := by decide +kernel
theorem dX5_init_26 : decode cX5_init 26 = .ok (.aload_n 0, 1) := by decide +kernel
theorem dX5_init_27 : decode cX5_init 27 = .ok (.new 7, 3) := by decide +kernel
theorem dX5_init_30 : decode cX5_init 30 = .ok (.dup, 1) := by decide +kernel
theorem dX5_init_31 : decode cX5_init 31 = .ok (.invokespecial 9, 3) := by decide +kernel
theorem dX5_init_34 : decode cX5_init 34 = .ok (.putfield 19, 3) := by decide +kernel
theorem dX5_init_37 : decode cX5_init 37 = .ok (.aload_n 0, 1) := by decide +kernel
theorem dX5_init_38 : decode cX5_init 38 = .ok (.new 22, 3) := by decide +kernel
theorem dX5_init_41 : decode cX5_init 41 = .ok (.dup, 1) := by decide +kernel
theorem dX5_init_42 : decode cX5_init 42 = .ok (.invokespecial 24, 3) := by decide +kernel
theorem dX5_init_45 : decode cX5_init 45 = .ok (.putfield 25, 3) := by decide +kernel
theorem dX5_init_48 : decode cX5_init 48 = .ok (.aload_n 0, 1) := by decide +kernel
theorem dX5_init_49 : decode cX5_init 49 = .ok (.new 29, 3) := by decide +kernel
theorem dX5_init_52 : decode cX5_init 52 = .ok (.dup, 1) := by decide +kernel
theorem dX5_init_53 : decode cX5_init 53 = .ok (.invokespecial 31, 3) := by decide +kernel
theorem dX5_init_56 : decode cX5_init 56 = .ok (.putfield 32, 3) := by decide +kernel
theorem dX5_init_59 : decode cX5_init 59 = .ok (.aload_n 0, 1) := by decide +kernel
theorem dX5_init_60 : decode cX5_init 60 = .ok (.new 36, 3) := by decide +kernel
theorem dX5_init_63 : decode cX5_init 63 = .ok (.dup, 1) := by decide +kernel
theorem dX5_init_64 : decode cX5_init 64 = .ok (.invokespecial 38, 3) := by decide +kernel
theorem dX5_init_67 : decode cX5_init 67 = .ok (.putfield 39, 3) := by decide +kernel
theorem dX5_init_70 : decode cX5_init 70 = .ok (.aload_n 0, 1) := by decide +kernel
theorem dX5_init_71 : decode cX5_init 71 = .ok (.new 43, 3) := by decide +kernel
theorem dX5_init_74 : decode cX5_init 74 = .ok (.dup, 1) := by decide +kernel
theorem dX5_init_75 : decode cX5_init 75 = .ok (.invokespecial 45, 3) := by decide +kernel
theorem dX5_init_78 : decode cX5_init 78 = .ok (.putfield 46, 3) := by decide +kernel
theorem dX5_init_81 : decode cX5_init 81 = .ok (.aload_n 0, 1) := by decide +kernel
theorem dX5_init_82 : decode cX5_init 82 = .ok (.iconst 0, 1) := by decide +kernel
theorem dX5_init_83 : decode cX5_init 83 = .ok (.putfield 50, 3) := by decide +kernel
theorem dX5_init_86 : decode cX5_init 86 = .ok (.aload_n 0, 1) := by decide +kernel
theorem dX5_init_87 : decode cX5_init 87 = .ok (.iconst (-1), 1) := by decide +kernel
theorem dX5_init_88 : decode cX5_init 88 = .ok (.putfield 54, 3) := by decide +kernel
theorem dX5_init_91 : decode cX5_init 91 = .ok (.aload_n 0, 1) := by decide +kernel
theorem dX5_init_92 : decode cX5_init 92 = .ok (.iconst (-1), 1) := by decide +kernel
theorem dX5_init_93 : decode cX5_init 93 = .ok (.putfield 58, 3) := by decide +kernel
theorem dX5_init_96 : decode cX5_init 96 = .ok (.return_, 1) := by decide +kernel
theorem dX5_addListener_0 : decode cX5_addListener 0 = .ok (.aload_n 0, 1) := by decide +kernel
theorem dX5_addListener_1 : decode cX5_addListener 1 = .ok (.iconst 0, 1) := by decide +kernel
theorem dX5_addListener_2 : decode cX5_addListener 2 = .ok (.iload_n 1, 1) := by decide +kernel
theorem dX5_addListener_3 : decode cX5_addListener 3 = .ok (.iload_n 2, 1) := by decide +kernel
theorem dX5_addListener_4 : decode cX5_addListener 4 = .ok (.invokevirtual 61, 3) := by decide +kernel
theorem dX5_addListener_7 : decode cX5_addListener 7 = .ok (.ireturn, 1) := by decide +kernel
theorem dX5_link_0 : decode cX5_link 0 = .ok (.aload_n 0, 1) := by decide +kernel
theorem dX5_link_1 : decode cX5_link 1 = .ok (.iconst 1, 1) := by decide +kernel
theorem dX5_link_2 : decode cX5_link 2 = .ok (.iload_n 1, 1) := by decide +kernel
theorem dX5_link_3 : decode cX5_link 3 = .ok (.iload_n 2, 1) := by decide +kernel
theorem dX5_link_4 : decode cX5_link 4 = .ok (.invokevirtual 61, 3) := by decide +kernel
theorem dX5_link_7 : decode cX5_link 7 = .ok (.ireturn, 1) := by decide +kernel
theorem dX5_unlink_0 : decode cX5_unlink 0 = .ok (.aload_n 0, 1) := by decide +kernel
theorem dX5_unlink_1 : decode cX5_unlink 1 = .ok (.iconst 2, 1) := by decide +kernel
theorem dX5_unlink_2 : decode cX5_unlink 2 = .ok (.iload_n 1, 1) := by decide +kernel
theorem dX5_unlink_3 : decode cX5_unlink 3 = .ok (.iload_n 2, 1) := by decide +kernel
theorem dX5_unlink_4 : decode cX5_unlink 4 = .ok (.invokevirtual 61, 3) := by decide +kernel
theorem dX5_unlink_7 : decode cX5_unlink 7 = .ok (.ireturn, 1) := by decide +kernel
theorem dX5_moveListener_0 : decode cX5_moveListener 0 = .ok (.aload_n 0, 1) := by decide +kernel
theorem dX5_moveListener_1 : decode cX5_moveListener 1 = .ok (.bipush 7, 2) := by decide +kernel
theorem dX5_moveListener_3 : decode cX5_moveListener 3 = .ok (.iload_n 1, 1) := by decide +kernel
theorem dX5_moveListener_4 : decode cX5_moveListener 4 = .ok (.iload_n 2, 1) := by decide +kernel
theorem dX5_moveListener_5 : decode cX5_moveListener 5 = .ok (.invokevirtual 61, 3) := by decide +kernel
theorem dX5_moveListener_8 : decode cX5_moveListener 8 = .ok (.ireturn, 1) := by decide +kernel
theorem dX5_startRumour_0 : decode cX5_startRumour 0 = .ok (.aload_n 0, 1) := by decide +kernel
theorem dX5_startRumour_1 : decode cX5_startRumour 1 = .ok (.iconst 3, 1) := by decide +kernel
theorem dX5_startRumour_2 : decode cX5_startRumour 2 = .ok (.iload_n 1, 1) := by decide +kernel
theorem dX5_startRumour_3 : decode cX5_startRumour 3 = .ok (.iload_n 2, 1) := by decide +kernel
theorem dX5_startRumour_4 : decode cX5_startRumour 4 = .ok (.invokevirtual 61, 3) := by decide +kernel
theorem dX5_startRumour_7 : decode cX5_startRumour 7 = .ok (.ireturn, 1) := by decide +kernel
theorem dX5_check_0 : decode cX5_check 0 = .ok (.aload_n 0, 1) := by decide +kernel
theorem dX5_check_1 : decode cX5_check 1 = .ok (.iconst 4, 1) := by decide +kernel
theorem dX5_check_2 : decode cX5_check 2 = .ok (.iload_n 1, 1) := by decide +kernel
theorem dX5_check_3 : decode cX5_check 3 = .ok (.iload_n 2, 1) := by decide +kernel
theorem dX5_check_4 : decode cX5_check 4 = .ok (.invokevirtual 61, 3) := by decide +kernel
theorem dX5_check_7 : decode cX5_check 7 = .ok (.iconst 1, 1) := by decide +kernel
theorem dX5_check_8 : decode cX5_check 8 = .ok (.if_icmp .ne 7, 3) := by decide +kernel
theorem dX5_check_11 : decode cX5_check 11 = .ok (.iconst 1, 1) := by decide +kernel
theorem dX5_check_12 : decode cX5_check 12 = .ok (.goto 4, 3) := by decide +kernel
theorem dX5_check_15 : decode cX5_check 15 = .ok (.iconst 0, 1) := by decide +kernel
theorem dX5_check_16 : decode cX5_check 16 = .ok (.ireturn, 1) := by decide +kernel
theorem dX5_deny_0 : decode cX5_deny 0 = .ok (.aload_n 0, 1) := by decide +kernel
theorem dX5_deny_1 : decode cX5_deny 1 = .ok (.iconst 5, 1) := by decide +kernel
theorem dX5_deny_2 : decode cX5_deny 2 = .ok (.iload_n 1, 1) := by decide +kernel
theorem dX5_deny_3 : decode cX5_deny 3 = .ok (.iconst 0, 1) := by decide +kernel
theorem dX5_deny_4 : decode cX5_deny 4 = .ok (.invokevirtual 61, 3) := by decide +kernel
theorem dX5_deny_7 : decode cX5_deny 7 = .ok (.ireturn, 1) := by decide +kernel
theorem dX5_answer_0 : decode cX5_answer 0 = .ok (.aload_n 0, 1) := by decide +kernel
theorem dX5_answer_1 : decode cX5_answer 1 = .ok (.bipush 6, 2) := by decide +kernel
theorem dX5_answer_3 : decode cX5_answer 3 = .ok (.iload_n 1, 1) := by decide +kernel
theorem dX5_answer_4 : decode cX5_answer 4 = .ok (.iload_n 2, 1) := by decide +kernel
theorem dX5_answer_5 : decode cX5_answer 5 = .ok (.invokevirtual 61, 3) := by decide +kernel
theorem dX5_answer_8 : decode cX5_answer 8 = .ok (.ireturn, 1) := by decide +kernel
theorem dX5_advance_0 : decode cX5_advance 0 = .ok (.aload_n 0, 1) := by decide +kernel
theorem dX5_advance_1 : decode cX5_advance 1 = .ok (.bipush 9, 2) := by decide +kernel
theorem dX5_advance_3 : decode cX5_advance 3 = .ok (.iload_n 1, 1) := by decide +kernel
theorem dX5_advance_4 : decode cX5_advance 4 = .ok (.iconst 0, 1) := by decide +kernel
theorem dX5_advance_5 : decode cX5_advance 5 = .ok (.invokevirtual 61, 3) := by decide +kernel
theorem dX5_advance_8 : decode cX5_advance 8 = .ok (.ireturn, 1) := by decide +kernel
theorem dX5_listenerCount_0 : decode cX5_listenerCount 0 = .ok (.aload_n 0, 1) := by decide +kernel
theorem dX5_listenerCount_1 : decode cX5_listenerCount 1 = .ok (.getfield 10, 3) := by decide +kernel
theorem dX5_listenerCount_4 : decode cX5_listenerCount 4 = .ok (.getfield 65, 3) := by decide +kernel
theorem dX5_listenerCount_7 : decode cX5_listenerCount 7 = .ok (.getfield 69, 3) := by decide +kernel
theorem dX5_listenerCount_10 : decode cX5_listenerCount 10 = .ok (.ireturn, 1) := by decide +kernel
theorem dX5_hive_0 : decode cX5_hive 0 = .ok (.aload_n 0, 1) := by decide +kernel
theorem dX5_hive_1 : decode cX5_hive 1 = .ok (.iload_n 1, 1) := by decide +kernel
theorem dX5_hive_2 : decode cX5_hive 2 = .ok (.invokevirtual 74, 3) := by decide +kernel
theorem dX5_hive_5 : decode cX5_hive 5 = .ok (.aload_n 0, 1) := by decide +kernel
theorem dX5_hive_6 : decode cX5_hive 6 = .ok (.getfield 10, 3) := by decide +kernel
theorem dX5_hive_9 : decode cX5_hive 9 = .ok (.getfield 78, 3) := by decide +kernel
theorem dX5_hive_12 : decode cX5_hive 12 = .ok (.iload_n 1, 1) := by decide +kernel
theorem dX5_hive_13 : decode cX5_hive 13 = .ok (.iaload, 1) := by decide +kernel
theorem dX5_hive_14 : decode cX5_hive 14 = .ok (.ireturn, 1) := by decide +kernel
theorem dX5_doubt_0 : decode cX5_doubt 0 = .ok (.aload_n 0, 1) := by decide +kernel
theorem dX5_doubt_1 : decode cX5_doubt 1 = .ok (.iload_n 1, 1) := by decide +kernel
theorem dX5_doubt_2 : decode cX5_doubt 2 = .ok (.invokevirtual 74, 3) := by decide +kernel
theorem dX5_doubt_5 : decode cX5_doubt 5 = .ok (.aload_n 0, 1) := by decide +kernel
theorem dX5_doubt_6 : decode cX5_doubt 6 = .ok (.getfield 10, 3) := by decide +kernel
theorem dX5_doubt_9 : decode cX5_doubt 9 = .ok (.getfield 82, 3) := by decide +kernel
theorem dX5_doubt_12 : decode cX5_doubt 12 = .ok (.iload_n 1, 1) := by decide +kernel
theorem dX5_doubt_13 : decode cX5_doubt 13 = .ok (.iaload, 1) := by decide +kernel
theorem dX5_doubt_14 : decode cX5_doubt 14 = .ok (.ireturn, 1) := by decide +kernel
theorem dX5_isLinked_0 : decode cX5_isLinked 0 = .ok (.aload_n 0, 1) := by decide +kernel
theorem dX5_isLinked_1 : decode cX5_isLinked 1 = .ok (.iload_n 1, 1) := by decide +kernel
theorem dX5_isLinked_2 : decode cX5_isLinked 2 = .ok (.invokevirtual 74, 3) := by decide +kernel
theorem dX5_isLinked_5 : decode cX5_isLinked 5 = .ok (.aload_n 0, 1) := by decide +kernel
theorem dX5_isLinked_6 : decode cX5_isLinked 6 = .ok (.iload_n 2, 1) := by decide +kernel
theorem dX5_isLinked_7 : decode cX5_isLinked 7 = .ok (.invokevirtual 74, 3) := by decide +kernel
theorem dX5_isLinked_10 : decode cX5_isLinked 10 = .ok (.aload_n 0, 1) := by decide +kernel
theorem dX5_isLinked_11 : decode cX5_isLinked 11 = .ok (.getfield 10, 3) := by decide +kernel
theorem dX5_isLinked_14 : decode cX5_isLinked 14 = .ok (.getfield 65, 3) := by decide +kernel
theorem dX5_isLinked_17 : decode cX5_isLinked 17 = .ok (.iload_n 1, 1) := by decide +kernel
theorem dX5_isLinked_18 : decode cX5_isLinked 18 = .ok (.iload_n 2, 1) := by decide +kernel
theorem dX5_isLinked_19 : decode cX5_isLinked 19 = .ok (.invokevirtual 85, 3) := by decide +kernel
theorem dX5_isLinked_22 : decode cX5_isLinked 22 = .ok (.ireturn, 1) := by decide +kernel
theorem dX5_neighbourCount_0 : decode cX5_neighbourCount 0 = .ok (.aload_n 0, 1) := by decide +kernel
theorem dX5_neighbourCount_1 : decode cX5_neighbourCount 1 = .ok (.iload_n 1, 1) := by decide +kernel
theorem dX5_neighbourCount_2 : decode cX5_neighbourCount 2 = .ok (.invokevirtual 74, 3) := by decide +kernel
theorem dX5_neighbourCount_5 : decode cX5_neighbourCount 5 = .ok (.aload_n 0, 1) := by decide +kernel
theorem dX5_neighbourCount_6 : decode cX5_neighbourCount 6 = .ok (.getfield 10, 3) := by decide +kernel
theorem dX5_neighbourCount_9 : decode cX5_neighbourCount 9 = .ok (.getfield 65, 3) := by decide +kernel
theorem dX5_neighbourCount_12 : decode cX5_neighbourCount 12 = .ok (.getfield 89, 3) := by decide +kernel
theorem dX5_neighbourCount_15 : decode cX5_neighbourCount 15 = .ok (.iload_n 1, 1) := by decide +kernel
theorem dX5_neighbourCount_16 : decode cX5_neighbourCount 16 = .ok (.iaload, 1) := by decide +kernel
theorem dX5_neighbourCount_17 : decode cX5_neighbourCount 17 = .ok (.invokestatic 92, 3) := by decide +kernel
theorem dX5_neighbourCount_20 : decode cX5_neighbourCount 20 = .ok (.ireturn, 1) := by decide +kernel
theorem dX5_linkCount_0 : decode cX5_linkCount 0 = .ok (.aload_n 0, 1) := by decide +kernel
theorem dX5_linkCount_1 : decode cX5_linkCount 1 = .ok (.getfield 10, 3) := by decide +kernel
theorem dX5_linkCount_4 : decode cX5_linkCount 4 = .ok (.getfield 65, 3) := by decide +kernel
theorem dX5_linkCount_7 : decode cX5_linkCount 7 = .ok (.getfield 98, 3) := by decide +kernel
theorem dX5_linkCount_10 : decode cX5_linkCount 10 = .ok (.ireturn, 1) := by decide +kernel
theorem dX5_hiveSize_0 : decode cX5_hiveSize 0 = .ok (.iload_n 1, 1) := by decide +kernel
theorem dX5_hiveSize_1 : decode cX5_hiveSize 1 = .ok (.invokestatic 101, 3) := by decide +kernel
theorem dX5_hiveSize_4 : decode cX5_hiveSize 4 = .ok (.aload_n 0, 1) := by decide +kernel
theorem dX5_hiveSize_5 : decode cX5_hiveSize 5 = .ok (.getfield 10, 3) := by decide +kernel
theorem dX5_hiveSize_8 : decode cX5_hiveSize 8 = .ok (.iload_n 1, 1) := by decide +kernel
theorem dX5_hiveSize_9 : decode cX5_hiveSize 9 = .ok (.invokevirtual 104, 3) := by decide +kernel
theorem dX5_hiveSize_12 : decode cX5_hiveSize 12 = .ok (.invokestatic 92, 3) := by decide +kernel
theorem dX5_hiveSize_15 : decode cX5_hiveSize 15 = .ok (.ireturn, 1) := by decide +kernel
theorem dX5_componentCount_0 : decode cX5_componentCount 0 = .ok (.aload_n 0, 1) := by decide +kernel
theorem dX5_componentCount_1 : decode cX5_componentCount 1 = .ok (.getfield 10, 3) := by decide +kernel
theorem dX5_componentCount_4 : decode cX5_componentCount 4 = .ok (.getfield 65, 3) := by decide +kernel
theorem dX5_componentCount_7 : decode cX5_componentCount 7 = .ok (.invokevirtual 107, 3) := by decide +kernel
theorem dX5_componentCount_10 : decode cX5_componentCount 10 = .ok (.ireturn, 1) := by decide +kernel
theorem dX5_componentCountByUnion_0 : decode cX5_componentCountByUnion 0 = .ok (.aload_n 0, 1) := by decide +kernel
theorem dX5_componentCountByUnion_1 : decode cX5_componentCountByUnion 1 = .ok (.getfield 10, 3) := by decide +kernel
theorem dX5_componentCountByUnion_4 : decode cX5_componentCountByUnion 4 = .ok (.getfield 65, 3) := by decide +kernel
theorem dX5_componentCountByUnion_7 : decode cX5_componentCountByUnion 7 = .ok (.invokevirtual 111, 3) := by decide +kernel
theorem dX5_componentCountByUnion_10 : decode cX5_componentCountByUnion 10 = .ok (.ireturn, 1) := by decide +kernel
theorem dX5_rumourCount_0 : decode cX5_rumourCount 0 = .ok (.aload_n 0, 1) := by decide +kernel
theorem dX5_rumourCount_1 : decode cX5_rumourCount 1 = .ok (.getfield 10, 3) := by decide +kernel
theorem dX5_rumourCount_4 : decode cX5_rumourCount 4 = .ok (.getfield 114, 3) := by decide +kernel
theorem dX5_rumourCount_7 : decode cX5_rumourCount 7 = .ok (.ireturn, 1) := by decide +kernel
theorem dX5_strength_0 : decode cX5_strength 0 = .ok (.aload_n 0, 1) := by decide +kernel
theorem dX5_strength_1 : decode cX5_strength 1 = .ok (.iload_n 1, 1) := by decide +kernel
theorem dX5_strength_2 : decode cX5_strength 2 = .ok (.invokevirtual 117, 3) := by decide +kernel
theorem dX5_strength_5 : decode cX5_strength 5 = .ok (.aload_n 0, 1) := by decide +kernel
theorem dX5_strength_6 : decode cX5_strength 6 = .ok (.getfield 10, 3) := by decide +kernel
theorem dX5_strength_9 : decode cX5_strength 9 = .ok (.getfield 120, 3) := by decide +kernel
theorem dX5_strength_12 : decode cX5_strength 12 = .ok (.iload_n 1, 1) := by decide +kernel
theorem dX5_strength_13 : decode cX5_strength 13 = .ok (.aaload, 1) := by decide +kernel
theorem dX5_strength_14 : decode cX5_strength 14 = .ok (.getfield 124, 3) := by decide +kernel
theorem dX5_strength_17 : decode cX5_strength 17 = .ok (.ireturn, 1) := by decide +kernel
theorem dX5_isAlive_0 : decode cX5_isAlive 0 = .ok (.aload_n 0, 1) := by decide +kernel
theorem dX5_isAlive_1 : decode cX5_isAlive 1 = .ok (.iload_n 1, 1) := by decide +kernel
theorem dX5_isAlive_2 : decode cX5_isAlive 2 = .ok (.invokevirtual 117, 3) := by decide +kernel
theorem dX5_isAlive_5 : decode cX5_isAlive 5 = .ok (.aload_n 0, 1) := by decide +kernel
theorem dX5_isAlive_6 : decode cX5_isAlive 6 = .ok (.getfield 10, 3) := by decide +kernel
theorem dX5_isAlive_9 : decode cX5_isAlive 9 = .ok (.getfield 120, 3) := by decide +kernel
theorem dX5_isAlive_12 : decode cX5_isAlive 12 = .ok (.iload_n 1, 1) := by decide +kernel
theorem dX5_isAlive_13 : decode cX5_isAlive 13 = .ok (.aaload, 1) := by decide +kernel
theorem dX5_isAlive_14 : decode cX5_isAlive 14 = .ok (.getfield 127, 3) := by decide +kernel
theorem dX5_isAlive_17 : decode cX5_isAlive 17 = .ok (.ireturn, 1) := by decide +kernel
theorem dX5_starter_0 : decode cX5_starter 0 = .ok (.aload_n 0, 1) := by decide +kernel
theorem dX5_starter_1 : decode cX5_starter 1 = .ok (.iload_n 1, 1) := by decide +kernel
theorem dX5_starter_2 : decode cX5_starter 2 = .ok (.invokevirtual 117, 3) := by decide +kernel
theorem dX5_starter_5 : decode cX5_starter 5 = .ok (.aload_n 0, 1) := by decide +kernel
theorem dX5_starter_6 : decode cX5_starter 6 = .ok (.getfield 10, 3) := by decide +kernel
theorem dX5_starter_9 : decode cX5_starter 9 = .ok (.getfield 120, 3) := by decide +kernel
theorem dX5_starter_12 : decode cX5_starter 12 = .ok (.iload_n 1, 1) := by decide +kernel
theorem dX5_starter_13 : decode cX5_starter 13 = .ok (.aaload, 1) := by decide +kernel
theorem dX5_starter_14 : decode cX5_starter 14 = .ok (.getfield 130, 3) := by decide +kernel
theorem dX5_starter_17 : decode cX5_starter 17 = .ok (.ireturn, 1) := by decide +kernel
theorem dX5_isSpreader_0 : decode cX5_isSpreader 0 = .ok (.aload_n 0, 1) := by decide +kernel
theorem dX5_isSpreader_1 : decode cX5_isSpreader 1 = .ok (.iload_n 1, 1) := by decide +kernel
theorem dX5_isSpreader_2 : decode cX5_isSpreader 2 = .ok (.invokevirtual 117, 3) := by decide +kernel
theorem dX5_isSpreader_5 : decode cX5_isSpreader 5 = .ok (.aload_n 0, 1) := by decide +kernel
theorem dX5_isSpreader_6 : decode cX5_isSpreader 6 = .ok (.iload_n 2, 1) := by decide +kernel
theorem dX5_isSpreader_7 : decode cX5_isSpreader 7 = .ok (.invokevirtual 74, 3) := by decide +kernel
theorem dX5_isSpreader_10 : decode cX5_isSpreader 10 = .ok (.aload_n 0, 1) := by decide +kernel
theorem dX5_isSpreader_11 : decode cX5_isSpreader 11 = .ok (.getfield 10, 3) := by decide +kernel
theorem dX5_isSpreader_14 : decode cX5_isSpreader 14 = .ok (.getfield 120, 3) := by decide +kernel
theorem dX5_isSpreader_17 : decode cX5_isSpreader 17 = .ok (.iload_n 1, 1) := by decide +kernel
theorem dX5_isSpreader_18 : decode cX5_isSpreader 18 = .ok (.aaload, 1) := by decide +kernel
theorem dX5_isSpreader_19 : decode cX5_isSpreader 19 = .ok (.getfield 133, 3) := by decide +kernel
theorem dX5_isSpreader_22 : decode cX5_isSpreader 22 = .ok (.iload_n 2, 1) := by decide +kernel
theorem dX5_isSpreader_23 : decode cX5_isSpreader 23 = .ok (.invokestatic 136, 3) := by decide +kernel
theorem dX5_isSpreader_26 : decode cX5_isSpreader 26 = .ok (.ireturn, 1) := by decide +kernel
theorem dX5_isSceptic_0 : decode cX5_isSceptic 0 = .ok (.aload_n 0, 1) := by decide +kernel
theorem dX5_isSceptic_1 : decode cX5_isSceptic 1 = .ok (.iload_n 1, 1) := by decide +kernel
theorem dX5_isSceptic_2 : decode cX5_isSceptic 2 = .ok (.invokevirtual 117, 3) := by decide +kernel
theorem dX5_isSceptic_5 : decode cX5_isSceptic 5 = .ok (.aload_n 0, 1) := by decide +kernel
theorem dX5_isSceptic_6 : decode cX5_isSceptic 6 = .ok (.iload_n 2, 1) := by decide +kernel
theorem dX5_isSceptic_7 : decode cX5_isSceptic 7 = .ok (.invokevirtual 74, 3) := by decide +kernel
theorem dX5_isSceptic_10 : decode cX5_isSceptic 10 = .ok (.aload_n 0, 1) := by decide +kernel
theorem dX5_isSceptic_11 : decode cX5_isSceptic 11 = .ok (.getfield 10, 3) := by decide +kernel
theorem dX5_isSceptic_14 : decode cX5_isSceptic 14 = .ok (.getfield 120, 3) := by decide +kernel
theorem dX5_isSceptic_17 : decode cX5_isSceptic 17 = .ok (.iload_n 1, 1) := by decide +kernel
theorem dX5_isSceptic_18 : decode cX5_isSceptic 18 = .ok (.aaload, 1) := by decide +kernel
theorem dX5_isSceptic_19 : decode cX5_isSceptic 19 = .ok (.getfield 139, 3) := by decide +kernel
theorem dX5_isSceptic_22 : decode cX5_isSceptic 22 = .ok (.iload_n 2, 1) := by decide +kernel
theorem dX5_isSceptic_23 : decode cX5_isSceptic 23 = .ok (.invokestatic 136, 3) := by decide +kernel
theorem dX5_isSceptic_26 : decode cX5_isSceptic 26 = .ok (.ireturn, 1) := by decide +kernel
theorem dX5_heardRound_0 : decode cX5_heardRound 0 = .ok (.aload_n 0, 1) := by decide +kernel
theorem dX5_heardRound_1 : decode cX5_heardRound 1 = .ok (.iload_n 1, 1) := by decide +kernel
theorem dX5_heardRound_2 : decode cX5_heardRound 2 = .ok (.invokevirtual 117, 3) := by decide +kernel
theorem dX5_heardRound_5 : decode cX5_heardRound 5 = .ok (.aload_n 0, 1) := by decide +kernel
theorem dX5_heardRound_6 : decode cX5_heardRound 6 = .ok (.iload_n 2, 1) := by decide +kernel
theorem dX5_heardRound_7 : decode cX5_heardRound 7 = .ok (.invokevirtual 74, 3) := by decide +kernel
theorem dX5_heardRound_10 : decode cX5_heardRound 10 = .ok (.aload_n 0, 1) := by decide +kernel
theorem dX5_heardRound_11 : decode cX5_heardRound 11 = .ok (.getfield 10, 3) := by decide +kernel
theorem dX5_heardRound_14 : decode cX5_heardRound 14 = .ok (.getfield 120, 3) := by decide +kernel
theorem dX5_heardRound_17 : decode cX5_heardRound 17 = .ok (.iload_n 1, 1) := by decide +kernel
theorem dX5_heardRound_18 : decode cX5_heardRound 18 = .ok (.aaload, 1) := by decide +kernel
theorem dX5_heardRound_19 : decode cX5_heardRound 19 = .ok (.invokevirtual 142, 3) := by decide +kernel
theorem dX5_heardRound_22 : decode cX5_heardRound 22 = .ok (.iload_n 2, 1) := by decide +kernel
theorem dX5_heardRound_23 : decode cX5_heardRound 23 = .ok (.invokestatic 136, 3) := by decide +kernel
theorem dX5_heardRound_26 : decode cX5_heardRound 26 = .ok (.ifCond .ne 13, 3) := by decide +kernel
theorem dX5_heardRound_29 : decode cX5_heardRound 29 = .ok (.new 145, 3) := by decide +kernel
theorem dX5_heardRound_32 : decode cX5_heardRound 32 = .ok (.dup, 1) := by decide +kernel
theorem dX5_heardRound_33 : decode cX5_heardRound 33 = .ok (.ldc 147, 2) := by decide +kernel
theorem dX5_heardRound_35 : decode cX5_heardRound 35 = .ok (.invokespecial 149, 3) := by decide +kernel
theorem dX5_heardRound_38 : decode cX5_heardRound 38 = .ok (.athrow, 1) := by decide +kernel
theorem dX5_heardRound_39 : decode cX5_heardRound 39 = .ok (.aload_n 0, 1) := by decide +kernel
theorem dX5_heardRound_40 : decode cX5_heardRound 40 = .ok (.getfield 10, 3) := by decide +kernel
theorem dX5_heardRound_43 : decode cX5_heardRound 43 = .ok (.getfield 120, 3) := by decide +kernel
theorem dX5_heardRound_46 : decode cX5_heardRound 46 = .ok (.iload_n 1, 1) := by decide +kernel
theorem dX5_heardRound_47 : decode cX5_heardRound 47 = .ok (.aaload, 1) := by decide +kernel
theorem dX5_heardRound_48 : decode cX5_heardRound 48 = .ok (.getfield 152, 3) := by decide +kernel
theorem dX5_heardRound_51 : decode cX5_heardRound 51 = .ok (.iload_n 2, 1) := by decide +kernel
theorem dX5_heardRound_52 : decode cX5_heardRound 52 = .ok (.iaload, 1) := by decide +kernel
theorem dX5_heardRound_53 : decode cX5_heardRound 53 = .ok (.ireturn, 1) := by decide +kernel
theorem dX5_spreaderCount_0 : decode cX5_spreaderCount 0 = .ok (.aload_n 0, 1) := by decide +kernel
theorem dX5_spreaderCount_1 : decode cX5_spreaderCount 1 = .ok (.iload_n 1, 1) := by decide +kernel
theorem dX5_spreaderCount_2 : decode cX5_spreaderCount 2 = .ok (.invokevirtual 117, 3) := by decide +kernel
theorem dX5_spreaderCount_5 : decode cX5_spreaderCount 5 = .ok (.aload_n 0, 1) := by decide +kernel
theorem dX5_spreaderCount_6 : decode cX5_spreaderCount 6 = .ok (.getfield 10, 3) := by decide +kernel
theorem dX5_spreaderCount_9 : decode cX5_spreaderCount 9 = .ok (.getfield 120, 3) := by decide +kernel
theorem dX5_spreaderCount_12 : decode cX5_spreaderCount 12 = .ok (.iload_n 1, 1) := by decide +kernel
theorem dX5_spreaderCount_13 : decode cX5_spreaderCount 13 = .ok (.aaload, 1) := by decide +kernel
theorem dX5_spreaderCount_14 : decode cX5_spreaderCount 14 = .ok (.getfield 133, 3) := by decide +kernel
theorem dX5_spreaderCount_17 : decode cX5_spreaderCount 17 = .ok (.invokestatic 92, 3) := by decide +kernel
theorem dX5_spreaderCount_20 : decode cX5_spreaderCount 20 = .ok (.ireturn, 1) := by decide +kernel
theorem dX5_scepticCount_0 : decode cX5_scepticCount 0 = .ok (.aload_n 0, 1) := by decide +kernel
theorem dX5_scepticCount_1 : decode cX5_scepticCount 1 = .ok (.iload_n 1, 1) := by decide +kernel
theorem dX5_scepticCount_2 : decode cX5_scepticCount 2 = .ok (.invokevirtual 117, 3) := by decide +kernel
theorem dX5_scepticCount_5 : decode cX5_scepticCount 5 = .ok (.aload_n 0, 1) := by decide +kernel
theorem dX5_scepticCount_6 : decode cX5_scepticCount 6 = .ok (.getfield 10, 3) := by decide +kernel
theorem dX5_scepticCount_9 : decode cX5_scepticCount 9 = .ok (.getfield 120, 3) := by decide +kernel
theorem dX5_scepticCount_12 : decode cX5_scepticCount 12 = .ok (.iload_n 1, 1) := by decide +kernel
theorem dX5_scepticCount_13 : decode cX5_scepticCount 13 = .ok (.aaload, 1) := by decide +kernel
theorem dX5_scepticCount_14 : decode cX5_scepticCount 14 = .ok (.getfield 139, 3) := by decide +kernel
theorem dX5_scepticCount_17 : decode cX5_scepticCount 17 = .ok (.invokestatic 92, 3) := by decide +kernel
theorem dX5_scepticCount_20 : decode cX5_scepticCount 20 = .ok (.ireturn, 1) := by decide +kernel
theorem dX5_countedHive_0 : decode cX5_countedHive 0 = .ok (.aload_n 0, 1) := by decide +kernel
theorem dX5_countedHive_1 : decode cX5_countedHive 1 = .ok (.iload_n 1, 1) := by decide +kernel
theorem dX5_countedHive_2 : decode cX5_countedHive 2 = .ok (.invokevirtual 117, 3) := by decide +kernel
theorem dX5_countedHive_5 : decode cX5_countedHive 5 = .ok (.aload_n 0, 1) := by decide +kernel
theorem dX5_countedHive_6 : decode cX5_countedHive 6 = .ok (.getfield 10, 3) := by decide +kernel
theorem dX5_countedHive_9 : decode cX5_countedHive 9 = .ok (.getfield 120, 3) := by decide +kernel
theorem dX5_countedHive_12 : decode cX5_countedHive 12 = .ok (.iload_n 1, 1) := by decide +kernel
theorem dX5_countedHive_13 : decode cX5_countedHive 13 = .ok (.aaload, 1) := by decide +kernel
theorem dX5_countedHive_14 : decode cX5_countedHive 14 = .ok (.getfield 133, 3) := by decide +kernel
theorem dX5_countedHive_17 : decode cX5_countedHive 17 = .ok (.ifCond .ne 13, 3) := by decide +kernel
theorem dX5_countedHive_20 : decode cX5_countedHive 20 = .ok (.new 145, 3) := by decide +kernel
theorem dX5_countedHive_23 : decode cX5_countedHive 23 = .ok (.dup, 1) := by decide +kernel
theorem dX5_countedHive_24 : decode cX5_countedHive 24 = .ok (.ldc 155, 2) := by decide +kernel
theorem dX5_countedHive_26 : decode cX5_countedHive 26 = .ok (.invokespecial 149, 3) := by decide +kernel
theorem dX5_countedHive_29 : decode cX5_countedHive 29 = .ok (.athrow, 1) := by decide +kernel
theorem dX5_countedHive_30 : decode cX5_countedHive 30 = .ok (.aload_n 0, 1) := by decide +kernel
theorem dX5_countedHive_31 : decode cX5_countedHive 31 = .ok (.getfield 10, 3) := by decide +kernel
theorem dX5_countedHive_34 : decode cX5_countedHive 34 = .ok (.aload_n 0, 1) := by decide +kernel
theorem dX5_countedHive_35 : decode cX5_countedHive 35 = .ok (.getfield 10, 3) := by decide +kernel
theorem dX5_countedHive_38 : decode cX5_countedHive 38 = .ok (.getfield 120, 3) := by decide +kernel
theorem dX5_countedHive_41 : decode cX5_countedHive 41 = .ok (.iload_n 1, 1) := by decide +kernel
theorem dX5_countedHive_42 : decode cX5_countedHive 42 = .ok (.aaload, 1) := by decide +kernel
theorem dX5_countedHive_43 : decode cX5_countedHive 43 = .ok (.getfield 133, 3) := by decide +kernel
theorem dX5_countedHive_46 : decode cX5_countedHive 46 = .ok (.invokevirtual 157, 3) := by decide +kernel
theorem dX5_countedHive_49 : decode cX5_countedHive 49 = .ok (.ireturn, 1) := by decide +kernel
theorem dX5_spreadersInHive_0 : decode cX5_spreadersInHive 0 = .ok (.aload_n 0, 1) := by decide +kernel
theorem dX5_spreadersInHive_1 : decode cX5_spreadersInHive 1 = .ok (.iload_n 1, 1) := by decide +kernel
theorem dX5_spreadersInHive_2 : decode cX5_spreadersInHive 2 = .ok (.invokevirtual 117, 3) := by decide +kernel
theorem dX5_spreadersInHive_5 : decode cX5_spreadersInHive 5 = .ok (.iload_n 2, 1) := by decide +kernel
theorem dX5_spreadersInHive_6 : decode cX5_spreadersInHive 6 = .ok (.invokestatic 101, 3) := by decide +kernel
theorem dX5_spreadersInHive_9 : decode cX5_spreadersInHive 9 = .ok (.aload_n 0, 1) := by decide +kernel
theorem dX5_spreadersInHive_10 : decode cX5_spreadersInHive 10 = .ok (.getfield 10, 3) := by decide +kernel
theorem dX5_spreadersInHive_13 : decode cX5_spreadersInHive 13 = .ok (.getfield 120, 3) := by decide +kernel
theorem dX5_spreadersInHive_16 : decode cX5_spreadersInHive 16 = .ok (.iload_n 1, 1) := by decide +kernel
theorem dX5_spreadersInHive_17 : decode cX5_spreadersInHive 17 = .ok (.aaload, 1) := by decide +kernel
theorem dX5_spreadersInHive_18 : decode cX5_spreadersInHive 18 = .ok (.getfield 133, 3) := by decide +kernel
theorem dX5_spreadersInHive_21 : decode cX5_spreadersInHive 21 = .ok (.aload_n 0, 1) := by decide +kernel
theorem dX5_spreadersInHive_22 : decode cX5_spreadersInHive 22 = .ok (.getfield 10, 3) := by decide +kernel
theorem dX5_spreadersInHive_25 : decode cX5_spreadersInHive 25 = .ok (.iload_n 2, 1) := by decide +kernel
theorem dX5_spreadersInHive_26 : decode cX5_spreadersInHive 26 = .ok (.invokevirtual 104, 3) := by decide +kernel
theorem dX5_spreadersInHive_29 : decode cX5_spreadersInHive 29 = .ok (.iand, 1) := by decide +kernel
theorem dX5_spreadersInHive_30 : decode cX5_spreadersInHive 30 = .ok (.invokestatic 92, 3) := by decide +kernel
theorem dX5_spreadersInHive_33 : decode cX5_spreadersInHive 33 = .ok (.ireturn, 1) := by decide +kernel
theorem dX5_distance_0 : decode cX5_distance 0 = .ok (.aload_n 0, 1) := by decide +kernel
theorem dX5_distance_1 : decode cX5_distance 1 = .ok (.iload_n 1, 1) := by decide +kernel
theorem dX5_distance_2 : decode cX5_distance 2 = .ok (.invokevirtual 117, 3) := by decide +kernel
theorem dX5_distance_5 : decode cX5_distance 5 = .ok (.aload_n 0, 1) := by decide +kernel
theorem dX5_distance_6 : decode cX5_distance 6 = .ok (.iload_n 2, 1) := by decide +kernel
theorem dX5_distance_7 : decode cX5_distance 7 = .ok (.invokevirtual 74, 3) := by decide +kernel
theorem dX5_distance_10 : decode cX5_distance 10 = .ok (.aload_n 0, 1) := by decide +kernel
theorem dX5_distance_11 : decode cX5_distance 11 = .ok (.getfield 10, 3) := by decide +kernel
theorem dX5_distance_14 : decode cX5_distance 14 = .ok (.getfield 65, 3) := by decide +kernel
theorem dX5_distance_17 : decode cX5_distance 17 = .ok (.iload_n 2, 1) := by decide +kernel
theorem dX5_distance_18 : decode cX5_distance 18 = .ok (.aload_n 0, 1) := by decide +kernel
theorem dX5_distance_19 : decode cX5_distance 19 = .ok (.getfield 10, 3) := by decide +kernel
theorem dX5_distance_22 : decode cX5_distance 22 = .ok (.getfield 120, 3) := by decide +kernel
theorem dX5_distance_25 : decode cX5_distance 25 = .ok (.iload_n 1, 1) := by decide +kernel
theorem dX5_distance_26 : decode cX5_distance 26 = .ok (.aaload, 1) := by decide +kernel
theorem dX5_distance_27 : decode cX5_distance 27 = .ok (.getfield 133, 3) := by decide +kernel
theorem dX5_distance_30 : decode cX5_distance 30 = .ok (.invokevirtual 160, 3) := by decide +kernel
theorem dX5_distance_33 : decode cX5_distance 33 = .ok (.invokestatic 164, 3) := by decide +kernel
theorem dX5_distance_36 : decode cX5_distance 36 = .ok (.ireturn, 1) := by decide +kernel
theorem dX5_distanceByRelaxation_0 : decode cX5_distanceByRelaxation 0 = .ok (.aload_n 0, 1) := by decide +kernel
theorem dX5_distanceByRelaxation_1 : decode cX5_distanceByRelaxation 1 = .ok (.iload_n 1, 1) := by decide +kernel
theorem dX5_distanceByRelaxation_2 : decode cX5_distanceByRelaxation 2 = .ok (.invokevirtual 117, 3) := by decide +kernel
theorem dX5_distanceByRelaxation_5 : decode cX5_distanceByRelaxation 5 = .ok (.aload_n 0, 1) := by decide +kernel
theorem dX5_distanceByRelaxation_6 : decode cX5_distanceByRelaxation 6 = .ok (.iload_n 2, 1) := by decide +kernel
theorem dX5_distanceByRelaxation_7 : decode cX5_distanceByRelaxation 7 = .ok (.invokevirtual 74, 3) := by decide +kernel
theorem dX5_distanceByRelaxation_10 : decode cX5_distanceByRelaxation 10 = .ok (.aload_n 0, 1) := by decide +kernel
theorem dX5_distanceByRelaxation_11 : decode cX5_distanceByRelaxation 11 = .ok (.getfield 10, 3) := by decide +kernel
theorem dX5_distanceByRelaxation_14 : decode cX5_distanceByRelaxation 14 = .ok (.getfield 65, 3) := by decide +kernel
theorem dX5_distanceByRelaxation_17 : decode cX5_distanceByRelaxation 17 = .ok (.iload_n 2, 1) := by decide +kernel
theorem dX5_distanceByRelaxation_18 : decode cX5_distanceByRelaxation 18 = .ok (.aload_n 0, 1) := by decide +kernel
theorem dX5_distanceByRelaxation_19 : decode cX5_distanceByRelaxation 19 = .ok (.getfield 10, 3) := by decide +kernel
theorem dX5_distanceByRelaxation_22 : decode cX5_distanceByRelaxation 22 = .ok (.getfield 120, 3) := by decide +kernel
theorem dX5_distanceByRelaxation_25 : decode cX5_distanceByRelaxation 25 = .ok (.iload_n 1, 1) := by decide +kernel
theorem dX5_distanceByRelaxation_26 : decode cX5_distanceByRelaxation 26 = .ok (.aaload, 1) := by decide +kernel
theorem dX5_distanceByRelaxation_27 : decode cX5_distanceByRelaxation 27 = .ok (.getfield 133, 3) := by decide +kernel
theorem dX5_distanceByRelaxation_30 : decode cX5_distanceByRelaxation 30 = .ok (.invokevirtual 167, 3) := by decide +kernel
theorem dX5_distanceByRelaxation_33 : decode cX5_distanceByRelaxation 33 = .ok (.invokestatic 164, 3) := by decide +kernel
theorem dX5_distanceByRelaxation_36 : decode cX5_distanceByRelaxation 36 = .ok (.ireturn, 1) := by decide +kernel
theorem dX5_nextSpreaders_0 : decode cX5_nextSpreaders 0 = .ok (.aload_n 0, 1) := by decide +kernel
theorem dX5_nextSpreaders_1 : decode cX5_nextSpreaders 1 = .ok (.iload_n 1, 1) := by decide +kernel
theorem dX5_nextSpreaders_2 : decode cX5_nextSpreaders 2 = .ok (.invokevirtual 117, 3) := by decide +kernel
theorem dX5_nextSpreaders_5 : decode cX5_nextSpreaders 5 = .ok (.aload_n 0, 1) := by decide +kernel
theorem dX5_nextSpreaders_6 : decode cX5_nextSpreaders 6 = .ok (.getfield 10, 3) := by decide +kernel
theorem dX5_nextSpreaders_9 : decode cX5_nextSpreaders 9 = .ok (.aload_n 0, 1) := by decide +kernel
theorem dX5_nextSpreaders_10 : decode cX5_nextSpreaders 10 = .ok (.getfield 10, 3) := by decide +kernel
theorem dX5_nextSpreaders_13 : decode cX5_nextSpreaders 13 = .ok (.getfield 120, 3) := by decide +kernel
theorem dX5_nextSpreaders_16 : decode cX5_nextSpreaders 16 = .ok (.iload_n 1, 1) := by decide +kernel
theorem dX5_nextSpreaders_17 : decode cX5_nextSpreaders 17 = .ok (.aaload, 1) := by decide +kernel
theorem dX5_nextSpreaders_18 : decode cX5_nextSpreaders 18 = .ok (.invokevirtual 170, 3) := by decide +kernel
theorem dX5_nextSpreaders_21 : decode cX5_nextSpreaders 21 = .ok (.ireturn, 1) := by decide +kernel
theorem dX5_roundsUntilHeard_0 : decode cX5_roundsUntilHeard 0 = .ok (.aload_n 0, 1) := by decide +kernel
theorem dX5_roundsUntilHeard_1 : decode cX5_roundsUntilHeard 1 = .ok (.iload_n 1, 1) := by decide +kernel
theorem dX5_roundsUntilHeard_2 : decode cX5_roundsUntilHeard 2 = .ok (.invokevirtual 117, 3) := by decide +kernel
theorem dX5_roundsUntilHeard_5 : decode cX5_roundsUntilHeard 5 = .ok (.aload_n 0, 1) := by decide +kernel
theorem dX5_roundsUntilHeard_6 : decode cX5_roundsUntilHeard 6 = .ok (.iload_n 2, 1) := by decide +kernel
theorem dX5_roundsUntilHeard_7 : decode cX5_roundsUntilHeard 7 = .ok (.invokevirtual 74, 3) := by decide +kernel
theorem dX5_roundsUntilHeard_10 : decode cX5_roundsUntilHeard 10 = .ok (.aload_n 0, 1) := by decide +kernel
theorem dX5_roundsUntilHeard_11 : decode cX5_roundsUntilHeard 11 = .ok (.getfield 10, 3) := by decide +kernel
theorem dX5_roundsUntilHeard_14 : decode cX5_roundsUntilHeard 14 = .ok (.getfield 120, 3) := by decide +kernel
theorem dX5_roundsUntilHeard_17 : decode cX5_roundsUntilHeard 17 = .ok (.iload_n 1, 1) := by decide +kernel
theorem dX5_roundsUntilHeard_18 : decode cX5_roundsUntilHeard 18 = .ok (.aaload, 1) := by decide +kernel
theorem dX5_roundsUntilHeard_19 : decode cX5_roundsUntilHeard 19 = .ok (.invokevirtual 142, 3) := by decide +kernel
theorem dX5_roundsUntilHeard_22 : decode cX5_roundsUntilHeard 22 = .ok (.iload_n 2, 1) := by decide +kernel
theorem dX5_roundsUntilHeard_23 : decode cX5_roundsUntilHeard 23 = .ok (.invokestatic 136, 3) := by decide +kernel
theorem dX5_roundsUntilHeard_26 : decode cX5_roundsUntilHeard 26 = .ok (.ifCond .eq 13, 3) := by decide +kernel
theorem dX5_roundsUntilHeard_29 : decode cX5_roundsUntilHeard 29 = .ok (.new 174, 3) := by decide +kernel
theorem dX5_roundsUntilHeard_32 : decode cX5_roundsUntilHeard 32 = .ok (.dup, 1) := by decide +kernel
theorem dX5_roundsUntilHeard_33 : decode cX5_roundsUntilHeard 33 = .ok (.ldc 176, 2) := by decide +kernel
theorem dX5_roundsUntilHeard_35 : decode cX5_roundsUntilHeard 35 = .ok (.invokespecial 178, 3) := by decide +kernel
theorem dX5_roundsUntilHeard_38 : decode cX5_roundsUntilHeard 38 = .ok (.athrow, 1) := by decide +kernel
theorem dX5_roundsUntilHeard_39 : decode cX5_roundsUntilHeard 39 = .ok (.aload_n 0, 1) := by decide +kernel
theorem dX5_roundsUntilHeard_40 : decode cX5_roundsUntilHeard 40 = .ok (.aload_n 0, 1) := by decide +kernel
theorem dX5_roundsUntilHeard_41 : decode cX5_roundsUntilHeard 41 = .ok (.getfield 10, 3) := by decide +kernel
theorem dX5_roundsUntilHeard_44 : decode cX5_roundsUntilHeard 44 = .ok (.getfield 120, 3) := by decide +kernel
theorem dX5_roundsUntilHeard_47 : decode cX5_roundsUntilHeard 47 = .ok (.iload_n 1, 1) := by decide +kernel
theorem dX5_roundsUntilHeard_48 : decode cX5_roundsUntilHeard 48 = .ok (.aaload, 1) := by decide +kernel
theorem dX5_roundsUntilHeard_49 : decode cX5_roundsUntilHeard 49 = .ok (.iload_n 2, 1) := by decide +kernel
theorem dX5_roundsUntilHeard_50 : decode cX5_roundsUntilHeard 50 = .ok (.invokevirtual 179, 3) := by decide +kernel
theorem dX5_roundsUntilHeard_53 : decode cX5_roundsUntilHeard 53 = .ok (.invokestatic 164, 3) := by decide +kernel
theorem dX5_roundsUntilHeard_56 : decode cX5_roundsUntilHeard 56 = .ok (.ireturn, 1) := by decide +kernel
theorem dX5_spreadersAfter_0 : decode cX5_spreadersAfter 0 = .ok (.aload_n 0, 1) := by decide +kernel
theorem dX5_spreadersAfter_1 : decode cX5_spreadersAfter 1 = .ok (.iload_n 1, 1) := by decide +kernel
theorem dX5_spreadersAfter_2 : decode cX5_spreadersAfter 2 = .ok (.invokevirtual 117, 3) := by decide +kernel
theorem dX5_spreadersAfter_5 : decode cX5_spreadersAfter 5 = .ok (.iload_n 2, 1) := by decide +kernel
theorem dX5_spreadersAfter_6 : decode cX5_spreadersAfter 6 = .ok (.ifCond .lt 9, 3) := by decide +kernel
theorem dX5_spreadersAfter_9 : decode cX5_spreadersAfter 9 = .ok (.iload_n 2, 1) := by decide +kernel
theorem dX5_spreadersAfter_10 : decode cX5_spreadersAfter 10 = .ok (.bipush 40, 2) := by decide +kernel
theorem dX5_spreadersAfter_12 : decode cX5_spreadersAfter 12 = .ok (.if_icmp .le 13, 3) := by decide +kernel
theorem dX5_spreadersAfter_15 : decode cX5_spreadersAfter 15 = .ok (.new 183, 3) := by decide +kernel
theorem dX5_spreadersAfter_18 : decode cX5_spreadersAfter 18 = .ok (.dup, 1) := by decide +kernel
theorem dX5_spreadersAfter_19 : decode cX5_spreadersAfter 19 = .ok (.ldc 185, 2) := by decide +kernel
theorem dX5_spreadersAfter_21 : decode cX5_spreadersAfter 21 = .ok (.invokespecial 187, 3) := by decide +kernel
theorem dX5_spreadersAfter_24 : decode cX5_spreadersAfter 24 = .ok (.athrow, 1) := by decide +kernel
theorem dX5_spreadersAfter_25 : decode cX5_spreadersAfter 25 = .ok (.aload_n 0, 1) := by decide +kernel
theorem dX5_spreadersAfter_26 : decode cX5_spreadersAfter 26 = .ok (.getfield 32, 3) := by decide +kernel
theorem dX5_spreadersAfter_29 : decode cX5_spreadersAfter 29 = .ok (.aload_n 0, 1) := by decide +kernel
theorem dX5_spreadersAfter_30 : decode cX5_spreadersAfter 30 = .ok (.getfield 10, 3) := by decide +kernel
theorem dX5_spreadersAfter_33 : decode cX5_spreadersAfter 33 = .ok (.getfield 120, 3) := by decide +kernel
theorem dX5_spreadersAfter_36 : decode cX5_spreadersAfter 36 = .ok (.iload_n 1, 1) := by decide +kernel
theorem dX5_spreadersAfter_37 : decode cX5_spreadersAfter 37 = .ok (.aaload, 1) := by decide +kernel
theorem dX5_spreadersAfter_38 : decode cX5_spreadersAfter 38 = .ok (.invokevirtual 188, 3) := by decide +kernel
theorem dX5_spreadersAfter_41 : decode cX5_spreadersAfter 41 = .ok (.iconst 0, 1) := by decide +kernel
theorem dX5_spreadersAfter_42 : decode cX5_spreadersAfter 42 = .ok (.istore_n 3, 1) := by decide +kernel
theorem dX5_spreadersAfter_43 : decode cX5_spreadersAfter 43 = .ok (.iload_n 3, 1) := by decide +kernel
theorem dX5_spreadersAfter_44 : decode cX5_spreadersAfter 44 = .ok (.iload_n 2, 1) := by decide +kernel
theorem dX5_spreadersAfter_45 : decode cX5_spreadersAfter 45 = .ok (.if_icmp .ge 21, 3) := by decide +kernel
theorem dX5_spreadersAfter_48 : decode cX5_spreadersAfter 48 = .ok (.aload_n 0, 1) := by decide +kernel
theorem dX5_spreadersAfter_49 : decode cX5_spreadersAfter 49 = .ok (.getfield 10, 3) := by decide +kernel
theorem dX5_spreadersAfter_52 : decode cX5_spreadersAfter 52 = .ok (.aload_n 0, 1) := by decide +kernel
theorem dX5_spreadersAfter_53 : decode cX5_spreadersAfter 53 = .ok (.getfield 32, 3) := by decide +kernel
theorem dX5_spreadersAfter_56 : decode cX5_spreadersAfter 56 = .ok (.invokevirtual 192, 3) := by decide +kernel
theorem dX5_spreadersAfter_59 : decode cX5_spreadersAfter 59 = .ok (.pop, 1) := by decide +kernel
theorem dX5_spreadersAfter_60 : decode cX5_spreadersAfter 60 = .ok (.iinc 3 1, 3) := by decide +kernel
theorem dX5_spreadersAfter_63 : decode cX5_spreadersAfter 63 = .ok (.goto (-20), 3) := by decide +kernel
theorem dX5_spreadersAfter_66 : decode cX5_spreadersAfter 66 = .ok (.aload_n 0, 1) := by decide +kernel
theorem dX5_spreadersAfter_67 : decode cX5_spreadersAfter 67 = .ok (.getfield 32, 3) := by decide +kernel
theorem dX5_spreadersAfter_70 : decode cX5_spreadersAfter 70 = .ok (.getfield 133, 3) := by decide +kernel
theorem dX5_spreadersAfter_73 : decode cX5_spreadersAfter 73 = .ok (.invokestatic 92, 3) := by decide +kernel
theorem dX5_spreadersAfter_76 : decode cX5_spreadersAfter 76 = .ok (.ireturn, 1) := by decide +kernel
theorem dX5_rumourBySpread_0 : decode cX5_rumourBySpread 0 = .ok (.aload_n 0, 1) := by decide +kernel
theorem dX5_rumourBySpread_1 : decode cX5_rumourBySpread 1 = .ok (.getfield 10, 3) := by decide +kernel
theorem dX5_rumourBySpread_4 : decode cX5_rumourBySpread 4 = .ok (.iload_n 1, 1) := by decide +kernel
theorem dX5_rumourBySpread_5 : decode cX5_rumourBySpread 5 = .ok (.invokevirtual 195, 3) := by decide +kernel
theorem dX5_rumourBySpread_8 : decode cX5_rumourBySpread 8 = .ok (.invokestatic 164, 3) := by decide +kernel
theorem dX5_rumourBySpread_11 : decode cX5_rumourBySpread 11 = .ok (.ireturn, 1) := by decide +kernel
theorem dX5_listenerByGossip_0 : decode cX5_listenerByGossip 0 = .ok (.aload_n 0, 1) := by decide +kernel
theorem dX5_listenerByGossip_1 : decode cX5_listenerByGossip 1 = .ok (.getfield 10, 3) := by decide +kernel
theorem dX5_listenerByGossip_4 : decode cX5_listenerByGossip 4 = .ok (.iload_n 1, 1) := by decide +kernel
theorem dX5_listenerByGossip_5 : decode cX5_listenerByGossip 5 = .ok (.invokevirtual 198, 3) := by decide +kernel
theorem dX5_listenerByGossip_8 : decode cX5_listenerByGossip 8 = .ok (.invokestatic 164, 3) := by decide +kernel
theorem dX5_listenerByGossip_11 : decode cX5_listenerByGossip 11 = .ok (.ireturn, 1) := by decide +kernel
theorem dX5_round_0 : decode cX5_round 0 = .ok (.aload_n 0, 1) := by decide +kernel
theorem dX5_round_1 : decode cX5_round 1 = .ok (.getfield 10, 3) := by decide +kernel
theorem dX5_round_4 : decode cX5_round 4 = .ok (.getfield 201, 3) := by decide +kernel
theorem dX5_round_7 : decode cX5_round 7 = .ok (.ireturn, 1) := by decide +kernel
theorem dX5_heardTotal_0 : decode cX5_heardTotal 0 = .ok (.aload_n 0, 1) := by decide +kernel
theorem dX5_heardTotal_1 : decode cX5_heardTotal 1 = .ok (.getfield 10, 3) := by decide +kernel
theorem dX5_heardTotal_4 : decode cX5_heardTotal 4 = .ok (.getfield 204, 3) := by decide +kernel
theorem dX5_heardTotal_7 : decode cX5_heardTotal 7 = .ok (.ireturn, 1) := by decide +kernel
theorem dX5_successfulChecks_0 : decode cX5_successfulChecks 0 = .ok (.aload_n 0, 1) := by decide +kernel
theorem dX5_successfulChecks_1 : decode cX5_successfulChecks 1 = .ok (.getfield 10, 3) := by decide +kernel
theorem dX5_successfulChecks_4 : decode cX5_successfulChecks 4 = .ok (.getfield 207, 3) := by decide +kernel
theorem dX5_successfulChecks_7 : decode cX5_successfulChecks 7 = .ok (.ireturn, 1) := by decide +kernel
theorem dX5_meanDoubt_0 : decode cX5_meanDoubt 0 = .ok (.aload_n 0, 1) := by decide +kernel
theorem dX5_meanDoubt_1 : decode cX5_meanDoubt 1 = .ok (.getfield 10, 3) := by decide +kernel
theorem dX5_meanDoubt_4 : decode cX5_meanDoubt 4 = .ok (.getfield 65, 3) := by decide +kernel
theorem dX5_meanDoubt_7 : decode cX5_meanDoubt 7 = .ok (.getfield 69, 3) := by decide +kernel
theorem dX5_meanDoubt_10 : decode cX5_meanDoubt 10 = .ok (.ifCond .ne 13, 3) := by decide +kernel
theorem dX5_meanDoubt_13 : decode cX5_meanDoubt 13 = .ok (.new 210, 3) := by decide +kernel
theorem dX5_meanDoubt_16 : decode cX5_meanDoubt 16 = .ok (.dup, 1) := by decide +kernel
theorem dX5_meanDoubt_17 : decode cX5_meanDoubt 17 = .ok (.ldc 212, 2) := by decide +kernel
theorem dX5_meanDoubt_19 : decode cX5_meanDoubt 19 = .ok (.invokespecial 214, 3) := by decide +kernel
theorem dX5_meanDoubt_22 : decode cX5_meanDoubt 22 = .ok (.athrow, 1) := by decide +kernel
theorem dX5_meanDoubt_23 : decode cX5_meanDoubt 23 = .ok (.aload_n 0, 1) := by decide +kernel
theorem dX5_meanDoubt_24 : decode cX5_meanDoubt 24 = .ok (.getfield 10, 3) := by decide +kernel
theorem dX5_meanDoubt_27 : decode cX5_meanDoubt 27 = .ok (.invokevirtual 215, 3) := by decide +kernel
theorem dX5_meanDoubt_30 : decode cX5_meanDoubt 30 = .ok (.i2d, 1) := by decide +kernel
theorem dX5_meanDoubt_31 : decode cX5_meanDoubt 31 = .ok (.aload_n 0, 1) := by decide +kernel
theorem dX5_meanDoubt_32 : decode cX5_meanDoubt 32 = .ok (.getfield 10, 3) := by decide +kernel
theorem dX5_meanDoubt_35 : decode cX5_meanDoubt 35 = .ok (.getfield 65, 3) := by decide +kernel
theorem dX5_meanDoubt_38 : decode cX5_meanDoubt 38 = .ok (.getfield 69, 3) := by decide +kernel
theorem dX5_meanDoubt_41 : decode cX5_meanDoubt 41 = .ok (.i2d, 1) := by decide +kernel
theorem dX5_meanDoubt_42 : decode cX5_meanDoubt 42 = .ok (.ddiv, 1) := by decide +kernel
theorem dX5_meanDoubt_43 : decode cX5_meanDoubt 43 = .ok (.dreturn, 1) := by decide +kernel
theorem dX5_gossipShare_0 : decode cX5_gossipShare 0 = .ok (.aload_n 0, 1) := by decide +kernel
theorem dX5_gossipShare_1 : decode cX5_gossipShare 1 = .ok (.getfield 10, 3) := by decide +kernel
theorem dX5_gossipShare_4 : decode cX5_gossipShare 4 = .ok (.getfield 65, 3) := by decide +kernel
theorem dX5_gossipShare_7 : decode cX5_gossipShare 7 = .ok (.getfield 69, 3) := by decide +kernel
theorem dX5_gossipShare_10 : decode cX5_gossipShare 10 = .ok (.ifCond .ne 13, 3) := by decide +kernel
theorem dX5_gossipShare_13 : decode cX5_gossipShare 13 = .ok (.new 210, 3) := by decide +kernel
theorem dX5_gossipShare_16 : decode cX5_gossipShare 16 = .ok (.dup, 1) := by decide +kernel
theorem dX5_gossipShare_17 : decode cX5_gossipShare 17 = .ok (.ldc 212, 2) := by decide +kernel
theorem dX5_gossipShare_19 : decode cX5_gossipShare 19 = .ok (.invokespecial 214, 3) := by decide +kernel
theorem dX5_gossipShare_22 : decode cX5_gossipShare 22 = .ok (.athrow, 1) := by decide +kernel
theorem dX5_gossipShare_23 : decode cX5_gossipShare 23 = .ok (.aload_n 0, 1) := by decide +kernel
theorem dX5_gossipShare_24 : decode cX5_gossipShare 24 = .ok (.getfield 10, 3) := by decide +kernel
theorem dX5_gossipShare_27 : decode cX5_gossipShare 27 = .ok (.invokevirtual 218, 3) := by decide +kernel
theorem dX5_gossipShare_30 : decode cX5_gossipShare 30 = .ok (.invokestatic 92, 3) := by decide +kernel
theorem dX5_gossipShare_33 : decode cX5_gossipShare 33 = .ok (.i2f, 1) := by decide +kernel
theorem dX5_gossipShare_34 : decode cX5_gossipShare 34 = .ok (.aload_n 0, 1) := by decide +kernel
theorem dX5_gossipShare_35 : decode cX5_gossipShare 35 = .ok (.getfield 10, 3) := by decide +kernel
theorem dX5_gossipShare_38 : decode cX5_gossipShare 38 = .ok (.getfield 65, 3) := by decide +kernel
theorem dX5_gossipShare_41 : decode cX5_gossipShare 41 = .ok (.getfield 69, 3) := by decide +kernel
theorem dX5_gossipShare_44 : decode cX5_gossipShare 44 = .ok (.i2f, 1) := by decide +kernel
theorem dX5_gossipShare_45 : decode cX5_gossipShare 45 = .ok (.fdiv, 1) := by decide +kernel
theorem dX5_gossipShare_46 : decode cX5_gossipShare 46 = .ok (.freturn, 1) := by decide +kernel
theorem dX5_isConsistent_0 : decode cX5_isConsistent 0 = .ok (.aload_n 0, 1) := by decide +kernel
theorem dX5_isConsistent_1 : decode cX5_isConsistent 1 = .ok (.getfield 10, 3) := by decide +kernel
theorem dX5_isConsistent_4 : decode cX5_isConsistent 4 = .ok (.getfield 65, 3) := by decide +kernel
theorem dX5_isConsistent_7 : decode cX5_isConsistent 7 = .ok (.invokevirtual 107, 3) := by decide +kernel
theorem dX5_isConsistent_10 : decode cX5_isConsistent 10 = .ok (.aload_n 0, 1) := by decide +kernel
theorem dX5_isConsistent_11 : decode cX5_isConsistent 11 = .ok (.getfield 10, 3) := by decide +kernel
theorem dX5_isConsistent_14 : decode cX5_isConsistent 14 = .ok (.getfield 65, 3) := by decide +kernel
theorem dX5_isConsistent_17 : decode cX5_isConsistent 17 = .ok (.invokevirtual 111, 3) := by decide +kernel
theorem dX5_isConsistent_20 : decode cX5_isConsistent 20 = .ok (.if_icmp .ne 37, 3) := by decide +kernel
theorem dX5_isConsistent_23 : decode cX5_isConsistent 23 = .ok (.aload_n 0, 1) := by decide +kernel
theorem dX5_isConsistent_24 : decode cX5_isConsistent 24 = .ok (.getfield 10, 3) := by decide +kernel
theorem dX5_isConsistent_27 : decode cX5_isConsistent 27 = .ok (.invokevirtual 221, 3) := by decide +kernel
theorem dX5_isConsistent_30 : decode cX5_isConsistent 30 = .ok (.ifCond .eq 27, 3) := by decide +kernel
theorem dX5_isConsistent_33 : decode cX5_isConsistent 33 = .ok (.aload_n 0, 1) := by decide +kernel
theorem dX5_isConsistent_34 : decode cX5_isConsistent 34 = .ok (.getfield 10, 3) := by decide +kernel
theorem dX5_isConsistent_37 : decode cX5_isConsistent 37 = .ok (.invokevirtual 225, 3) := by decide +kernel
theorem dX5_isConsistent_40 : decode cX5_isConsistent 40 = .ok (.ifCond .eq 17, 3) := by decide +kernel
theorem dX5_isConsistent_43 : decode cX5_isConsistent 43 = .ok (.aload_n 0, 1) := by decide +kernel
theorem dX5_isConsistent_44 : decode cX5_isConsistent 44 = .ok (.getfield 10, 3) := by decide +kernel
theorem dX5_isConsistent_47 : decode cX5_isConsistent 47 = .ok (.invokevirtual 228, 3) := by decide +kernel
theorem dX5_isConsistent_50 : decode cX5_isConsistent 50 = .ok (.ifCond .eq 7, 3) := by decide +kernel
theorem dX5_isConsistent_53 : decode cX5_isConsistent 53 = .ok (.iconst 1, 1) := by decide +kernel
theorem dX5_isConsistent_54 : decode cX5_isConsistent 54 = .ok (.goto 4, 3) := by decide +kernel
theorem dX5_isConsistent_57 : decode cX5_isConsistent 57 = .ok (.iconst 0, 1) := by decide +kernel
theorem dX5_isConsistent_58 : decode cX5_isConsistent 58 = .ok (.ireturn, 1) := by decide +kernel
theorem dX5_renderRumour_0 : decode cX5_renderRumour 0 = .ok (.aload_n 0, 1) := by decide +kernel
theorem dX5_renderRumour_1 : decode cX5_renderRumour 1 = .ok (.iload_n 1, 1) := by decide +kernel
theorem dX5_renderRumour_2 : decode cX5_renderRumour 2 = .ok (.invokevirtual 117, 3) := by decide +kernel
theorem dX5_renderRumour_5 : decode cX5_renderRumour 5 = .ok (.aload_n 0, 1) := by decide +kernel
theorem dX5_renderRumour_6 : decode cX5_renderRumour 6 = .ok (.getfield 10, 3) := by decide +kernel
theorem dX5_renderRumour_9 : decode cX5_renderRumour 9 = .ok (.getfield 120, 3) := by decide +kernel
theorem dX5_renderRumour_12 : decode cX5_renderRumour 12 = .ok (.iload_n 1, 1) := by decide +kernel
theorem dX5_renderRumour_13 : decode cX5_renderRumour 13 = .ok (.aaload, 1) := by decide +kernel
theorem dX5_renderRumour_14 : decode cX5_renderRumour 14 = .ok (.astore_n 2, 1) := by decide +kernel
theorem dX5_renderRumour_15 : decode cX5_renderRumour 15 = .ok (.aload_n 0, 1) := by decide +kernel
theorem dX5_renderRumour_16 : decode cX5_renderRumour 16 = .ok (.getfield 46, 3) := by decide +kernel
theorem dX5_renderRumour_19 : decode cX5_renderRumour 19 = .ok (.iconst 0, 1) := by decide +kernel
theorem dX5_renderRumour_20 : decode cX5_renderRumour 20 = .ok (.invokevirtual 231, 3) := by decide +kernel
theorem dX5_renderRumour_23 : decode cX5_renderRumour 23 = .ok (.aload_n 0, 1) := by decide +kernel
theorem dX5_renderRumour_24 : decode cX5_renderRumour 24 = .ok (.getfield 46, 3) := by decide +kernel
theorem dX5_renderRumour_27 : decode cX5_renderRumour 27 = .ok (.bipush 114, 2) := by decide +kernel
theorem dX5_renderRumour_29 : decode cX5_renderRumour 29 = .ok (.invokevirtual 234, 3) := by decide +kernel
theorem dX5_renderRumour_32 : decode cX5_renderRumour 32 = .ok (.iload_n 1, 1) := by decide +kernel
theorem dX5_renderRumour_33 : decode cX5_renderRumour 33 = .ok (.invokevirtual 238, 3) := by decide +kernel
theorem dX5_renderRumour_36 : decode cX5_renderRumour 36 = .ok (.bipush 58, 2) := by decide +kernel
theorem dX5_renderRumour_38 : decode cX5_renderRumour 38 = .ok (.invokevirtual 234, 3) := by decide +kernel
theorem dX5_renderRumour_41 : decode cX5_renderRumour 41 = .ok (.aload_n 2, 1) := by decide +kernel
theorem dX5_renderRumour_42 : decode cX5_renderRumour 42 = .ok (.getfield 124, 3) := by decide +kernel
theorem dX5_renderRumour_45 : decode cX5_renderRumour 45 = .ok (.invokevirtual 238, 3) := by decide +kernel
theorem dX5_renderRumour_48 : decode cX5_renderRumour 48 = .ok (.pop, 1) := by decide +kernel
theorem dX5_renderRumour_49 : decode cX5_renderRumour 49 = .ok (.aload_n 2, 1) := by decide +kernel
theorem dX5_renderRumour_50 : decode cX5_renderRumour 50 = .ok (.getfield 127, 3) := by decide +kernel
theorem dX5_renderRumour_53 : decode cX5_renderRumour 53 = .ok (.ifCond .ne 13, 3) := by decide +kernel
theorem dX5_renderRumour_56 : decode cX5_renderRumour 56 = .ok (.aload_n 0, 1) := by decide +kernel
theorem dX5_renderRumour_57 : decode cX5_renderRumour 57 = .ok (.getfield 46, 3) := by decide +kernel
theorem dX5_renderRumour_60 : decode cX5_renderRumour 60 = .ok (.bipush 120, 2) := by decide +kernel
theorem dX5_renderRumour_62 : decode cX5_renderRumour 62 = .ok (.invokevirtual 234, 3) := by decide +kernel
theorem dX5_renderRumour_65 : decode cX5_renderRumour 65 = .ok (.pop, 1) := by decide +kernel
theorem dX5_renderRumour_66 : decode cX5_renderRumour 66 = .ok (.iconst 0, 1) := by decide +kernel
theorem dX5_renderRumour_67 : decode cX5_renderRumour 67 = .ok (.istore_n 3, 1) := by decide +kernel
theorem dX5_renderRumour_68 : decode cX5_renderRumour 68 = .ok (.iload_n 3, 1) := by decide +kernel
theorem dX5_renderRumour_69 : decode cX5_renderRumour 69 = .ok (.aload_n 0, 1) := by decide +kernel
theorem dX5_renderRumour_70 : decode cX5_renderRumour 70 = .ok (.getfield 10, 3) := by decide +kernel
theorem dX5_renderRumour_73 : decode cX5_renderRumour 73 = .ok (.getfield 65, 3) := by decide +kernel
theorem dX5_renderRumour_76 : decode cX5_renderRumour 76 = .ok (.getfield 69, 3) := by decide +kernel
theorem dX5_renderRumour_79 : decode cX5_renderRumour 79 = .ok (.if_icmp .ge 22, 3) := by decide +kernel
theorem dX5_renderRumour_82 : decode cX5_renderRumour 82 = .ok (.aload_n 0, 1) := by decide +kernel
theorem dX5_renderRumour_83 : decode cX5_renderRumour 83 = .ok (.getfield 46, 3) := by decide +kernel
theorem dX5_renderRumour_86 : decode cX5_renderRumour 86 = .ok (.aload_n 2, 1) := by decide +kernel
theorem dX5_renderRumour_87 : decode cX5_renderRumour 87 = .ok (.iload_n 3, 1) := by decide +kernel
theorem dX5_renderRumour_88 : decode cX5_renderRumour 88 = .ok (.invokevirtual 241, 3) := by decide +kernel
theorem dX5_renderRumour_91 : decode cX5_renderRumour 91 = .ok (.invokevirtual 234, 3) := by decide +kernel
theorem dX5_renderRumour_94 : decode cX5_renderRumour 94 = .ok (.pop, 1) := by decide +kernel
theorem dX5_renderRumour_95 : decode cX5_renderRumour 95 = .ok (.iinc 3 1, 3) := by decide +kernel
theorem dX5_renderRumour_98 : decode cX5_renderRumour 98 = .ok (.goto (-30), 3) := by decide +kernel
theorem dX5_renderRumour_101 : decode cX5_renderRumour 101 = .ok (.aload_n 0, 1) := by decide +kernel
theorem dX5_renderRumour_102 : decode cX5_renderRumour 102 = .ok (.getfield 46, 3) := by decide +kernel
theorem dX5_renderRumour_105 : decode cX5_renderRumour 105 = .ok (.invokevirtual 245, 3) := by decide +kernel
theorem dX5_renderRumour_108 : decode cX5_renderRumour 108 = .ok (.ireturn, 1) := by decide +kernel
theorem dX5_renderHive_0 : decode cX5_renderHive 0 = .ok (.iload_n 1, 1) := by decide +kernel
theorem dX5_renderHive_1 : decode cX5_renderHive 1 = .ok (.invokestatic 101, 3) := by decide +kernel
theorem dX5_renderHive_4 : decode cX5_renderHive 4 = .ok (.aload_n 0, 1) := by decide +kernel
theorem dX5_renderHive_5 : decode cX5_renderHive 5 = .ok (.getfield 10, 3) := by decide +kernel
theorem dX5_renderHive_8 : decode cX5_renderHive 8 = .ok (.iload_n 1, 1) := by decide +kernel
theorem dX5_renderHive_9 : decode cX5_renderHive 9 = .ok (.invokevirtual 104, 3) := by decide +kernel
theorem dX5_renderHive_12 : decode cX5_renderHive 12 = .ok (.istore_n 2, 1) := by decide +kernel
theorem dX5_renderHive_13 : decode cX5_renderHive 13 = .ok (.aload_n 0, 1) := by decide +kernel
theorem dX5_renderHive_14 : decode cX5_renderHive 14 = .ok (.getfield 46, 3) := by decide +kernel
theorem dX5_renderHive_17 : decode cX5_renderHive 17 = .ok (.iconst 0, 1) := by decide +kernel
theorem dX5_renderHive_18 : decode cX5_renderHive 18 = .ok (.invokevirtual 231, 3) := by decide +kernel
theorem dX5_renderHive_21 : decode cX5_renderHive 21 = .ok (.iconst 0, 1) := by decide +kernel
theorem dX5_renderHive_22 : decode cX5_renderHive 22 = .ok (.istore_n 3, 1) := by decide +kernel
theorem dX5_renderHive_23 : decode cX5_renderHive 23 = .ok (.iload_n 3, 1) := by decide +kernel
theorem dX5_renderHive_24 : decode cX5_renderHive 24 = .ok (.aload_n 0, 1) := by decide +kernel
theorem dX5_renderHive_25 : decode cX5_renderHive 25 = .ok (.getfield 10, 3) := by decide +kernel
theorem dX5_renderHive_28 : decode cX5_renderHive 28 = .ok (.getfield 65, 3) := by decide +kernel
theorem dX5_renderHive_31 : decode cX5_renderHive 31 = .ok (.getfield 69, 3) := by decide +kernel
theorem dX5_renderHive_34 : decode cX5_renderHive 34 = .ok (.if_icmp .ge 46, 3) := by decide +kernel
theorem dX5_renderHive_37 : decode cX5_renderHive 37 = .ok (.iload_n 2, 1) := by decide +kernel
theorem dX5_renderHive_38 : decode cX5_renderHive 38 = .ok (.iload_n 3, 1) := by decide +kernel
theorem dX5_renderHive_39 : decode cX5_renderHive 39 = .ok (.invokestatic 136, 3) := by decide +kernel
theorem dX5_renderHive_42 : decode cX5_renderHive 42 = .ok (.ifCond .eq 32, 3) := by decide +kernel
theorem dX5_renderHive_45 : decode cX5_renderHive 45 = .ok (.aload_n 0, 1) := by decide +kernel
theorem dX5_renderHive_46 : decode cX5_renderHive 46 = .ok (.getfield 46, 3) := by decide +kernel
theorem dX5_renderHive_49 : decode cX5_renderHive 49 = .ok (.invokevirtual 245, 3) := by decide +kernel
theorem dX5_renderHive_52 : decode cX5_renderHive 52 = .ok (.ifCond .le 13, 3) := by decide +kernel
theorem dX5_renderHive_55 : decode cX5_renderHive 55 = .ok (.aload_n 0, 1) := by decide +kernel
theorem dX5_renderHive_56 : decode cX5_renderHive 56 = .ok (.getfield 46, 3) := by decide +kernel
theorem dX5_renderHive_59 : decode cX5_renderHive 59 = .ok (.bipush 44, 2) := by decide +kernel
theorem dX5_renderHive_61 : decode cX5_renderHive 61 = .ok (.invokevirtual 234, 3) := by decide +kernel
theorem dX5_renderHive_64 : decode cX5_renderHive 64 = .ok (.pop, 1) := by decide +kernel
theorem dX5_renderHive_65 : decode cX5_renderHive 65 = .ok (.aload_n 0, 1) := by decide +kernel
theorem dX5_renderHive_66 : decode cX5_renderHive 66 = .ok (.getfield 46, 3) := by decide +kernel
theorem dX5_renderHive_69 : decode cX5_renderHive 69 = .ok (.iload_n 3, 1) := by decide +kernel
theorem dX5_renderHive_70 : decode cX5_renderHive 70 = .ok (.invokevirtual 238, 3) := by decide +kernel
theorem dX5_renderHive_73 : decode cX5_renderHive 73 = .ok (.pop, 1) := by decide +kernel
theorem dX5_renderHive_74 : decode cX5_renderHive 74 = .ok (.iinc 3 1, 3) := by decide +kernel
theorem dX5_renderHive_77 : decode cX5_renderHive 77 = .ok (.goto (-54), 3) := by decide +kernel
theorem dX5_renderHive_80 : decode cX5_renderHive 80 = .ok (.aload_n 0, 1) := by decide +kernel
theorem dX5_renderHive_81 : decode cX5_renderHive 81 = .ok (.getfield 46, 3) := by decide +kernel
theorem dX5_renderHive_84 : decode cX5_renderHive 84 = .ok (.invokevirtual 245, 3) := by decide +kernel
theorem dX5_renderHive_87 : decode cX5_renderHive 87 = .ok (.ireturn, 1) := by decide +kernel
theorem dX5_outputAt_0 : decode cX5_outputAt 0 = .ok (.iload_n 1, 1) := by decide +kernel
theorem dX5_outputAt_1 : decode cX5_outputAt 1 = .ok (.ifCond .lt 14, 3) := by decide +kernel
theorem dX5_outputAt_4 : decode cX5_outputAt 4 = .ok (.iload_n 1, 1) := by decide +kernel
theorem dX5_outputAt_5 : decode cX5_outputAt 5 = .ok (.aload_n 0, 1) := by decide +kernel
theorem dX5_outputAt_6 : decode cX5_outputAt 6 = .ok (.getfield 46, 3) := by decide +kernel
theorem dX5_outputAt_9 : decode cX5_outputAt 9 = .ok (.invokevirtual 245, 3) := by decide +kernel
theorem dX5_outputAt_12 : decode cX5_outputAt 12 = .ok (.if_icmp .lt 13, 3) := by decide +kernel
theorem dX5_outputAt_15 : decode cX5_outputAt 15 = .ok (.new 248, 3) := by decide +kernel
theorem dX5_outputAt_18 : decode cX5_outputAt 18 = .ok (.dup, 1) := by decide +kernel
theorem dX5_outputAt_19 : decode cX5_outputAt 19 = .ok (.ldc 250, 2) := by decide +kernel
theorem dX5_outputAt_21 : decode cX5_outputAt 21 = .ok (.invokespecial 252, 3) := by decide +kernel
theorem dX5_outputAt_24 : decode cX5_outputAt 24 = .ok (.athrow, 1) := by decide +kernel
theorem dX5_outputAt_25 : decode cX5_outputAt 25 = .ok (.aload_n 0, 1) := by decide +kernel
theorem dX5_outputAt_26 : decode cX5_outputAt 26 = .ok (.getfield 46, 3) := by decide +kernel
theorem dX5_outputAt_29 : decode cX5_outputAt 29 = .ok (.iload_n 1, 1) := by decide +kernel
theorem dX5_outputAt_30 : decode cX5_outputAt 30 = .ok (.invokevirtual 253, 3) := by decide +kernel
theorem dX5_outputAt_33 : decode cX5_outputAt 33 = .ok (.ireturn, 1) := by decide +kernel
theorem dX5_type_0 : decode cX5_type 0 = .ok (.iload_n 1, 1) := by decide +kernel
theorem dX5_type_1 : decode cX5_type 1 = .ok (.bipush 32, 2) := by decide +kernel
theorem dX5_type_3 : decode cX5_type 3 = .ok (.if_icmp .lt 9, 3) := by decide +kernel
theorem dX5_type_6 : decode cX5_type 6 = .ok (.iload_n 1, 1) := by decide +kernel
theorem dX5_type_7 : decode cX5_type 7 = .ok (.bipush 126, 2) := by decide +kernel
theorem dX5_type_9 : decode cX5_type 9 = .ok (.if_icmp .le 14, 3) := by decide +kernel
theorem dX5_type_12 : decode cX5_type 12 = .ok (.new 183, 3) := by decide +kernel
theorem dX5_type_15 : decode cX5_type 15 = .ok (.dup, 1) := by decide +kernel
theorem dX5_type_16 : decode cX5_type 16 = .ok (.ldc_w 256, 3) := by decide +kernel
theorem dX5_type_19 : decode cX5_type 19 = .ok (.invokespecial 187, 3) := by decide +kernel
theorem dX5_type_22 : decode cX5_type 22 = .ok (.athrow, 1) := by decide +kernel
theorem dX5_type_23 : decode cX5_type 23 = .ok (.aload_n 0, 1) := by decide +kernel
theorem dX5_type_24 : decode cX5_type 24 = .ok (.getfield 39, 3) := by decide +kernel
theorem dX5_type_27 : decode cX5_type 27 = .ok (.getfield 258, 3) := by decide +kernel
theorem dX5_type_30 : decode cX5_type 30 = .ok (.bipush 60, 2) := by decide +kernel
theorem dX5_type_32 : decode cX5_type 32 = .ok (.if_icmp .lt 14, 3) := by decide +kernel
theorem dX5_type_35 : decode cX5_type 35 = .ok (.new 174, 3) := by decide +kernel
theorem dX5_type_38 : decode cX5_type 38 = .ok (.dup, 1) := by decide +kernel
theorem dX5_type_39 : decode cX5_type 39 = .ok (.ldc_w 260, 3) := by decide +kernel
theorem dX5_type_42 : decode cX5_type 42 = .ok (.invokespecial 178, 3) := by decide +kernel
theorem dX5_type_45 : decode cX5_type 45 = .ok (.athrow, 1) := by decide +kernel
theorem dX5_type_46 : decode cX5_type 46 = .ok (.aload_n 0, 1) := by decide +kernel
theorem dX5_type_47 : decode cX5_type 47 = .ok (.getfield 39, 3) := by decide +kernel
theorem dX5_type_50 : decode cX5_type 50 = .ok (.iload_n 1, 1) := by decide +kernel
theorem dX5_type_51 : decode cX5_type 51 = .ok (.invokevirtual 262, 3) := by decide +kernel
theorem dX5_type_54 : decode cX5_type 54 = .ok (.aload_n 0, 1) := by decide +kernel
theorem dX5_type_55 : decode cX5_type 55 = .ok (.getfield 39, 3) := by decide +kernel
theorem dX5_type_58 : decode cX5_type 58 = .ok (.getfield 258, 3) := by decide +kernel
theorem dX5_type_61 : decode cX5_type 61 = .ok (.ireturn, 1) := by decide +kernel
theorem dX5_runScript_0 : decode cX5_runScript 0 = .ok (.aload_n 0, 1) := by decide +kernel
theorem dX5_runScript_1 : decode cX5_runScript 1 = .ok (.getfield 39, 3) := by decide +kernel
theorem dX5_runScript_4 : decode cX5_runScript 4 = .ok (.invokevirtual 266, 3) := by decide +kernel
theorem dX5_runScript_7 : decode cX5_runScript 7 = .ok (.istore_n 1, 1) := by decide +kernel
theorem dX5_runScript_8 : decode cX5_runScript 8 = .ok (.aload_n 0, 1) := by decide +kernel
theorem dX5_runScript_9 : decode cX5_runScript 9 = .ok (.getfield 39, 3) := by decide +kernel
theorem dX5_runScript_12 : decode cX5_runScript 12 = .ok (.iconst 0, 1) := by decide +kernel
theorem dX5_runScript_13 : decode cX5_runScript 13 = .ok (.putfield 258, 3) := by decide +kernel
theorem dX5_runScript_16 : decode cX5_runScript 16 = .ok (.iload_n 1, 1) := by decide +kernel
theorem dX5_runScript_17 : decode cX5_runScript 17 = .ok (.iconst (-1), 1) := by decide +kernel
theorem dX5_runScript_18 : decode cX5_runScript 18 = .ok (.if_icmp .eq 19, 3) := by decide +kernel
theorem dX5_runScript_21 : decode cX5_runScript 21 = .ok (.aload_n 0, 1) := by decide +kernel
theorem dX5_runScript_22 : decode cX5_runScript 22 = .ok (.iload_n 1, 1) := by decide +kernel
theorem dX5_runScript_23 : decode cX5_runScript 23 = .ok (.putfield 54, 3) := by decide +kernel
theorem dX5_runScript_26 : decode cX5_runScript 26 = .ok (.new 183, 3) := by decide +kernel
theorem dX5_runScript_29 : decode cX5_runScript 29 = .ok (.dup, 1) := by decide +kernel
theorem dX5_runScript_30 : decode cX5_runScript 30 = .ok (.ldc_w 269, 3) := by decide +kernel
theorem dX5_runScript_33 : decode cX5_runScript 33 = .ok (.invokespecial 187, 3) := by decide +kernel
theorem dX5_runScript_36 : decode cX5_runScript 36 = .ok (.athrow, 1) := by decide +kernel
theorem dX5_runScript_37 : decode cX5_runScript 37 = .ok (.aload_n 0, 1) := by decide +kernel
theorem dX5_runScript_38 : decode cX5_runScript 38 = .ok (.invokevirtual 271, 3) := by decide +kernel
theorem dX5_runScript_41 : decode cX5_runScript 41 = .ok (.istore_n 2, 1) := by decide +kernel
theorem dX5_runScript_42 : decode cX5_runScript 42 = .ok (.iload_n 2, 1) := by decide +kernel
theorem dX5_runScript_43 : decode cX5_runScript 43 = .ok (.iconst (-1), 1) := by decide +kernel
theorem dX5_runScript_44 : decode cX5_runScript 44 = .ok (.if_icmp .eq 19, 3) := by decide +kernel
theorem dX5_runScript_47 : decode cX5_runScript 47 = .ok (.aload_n 0, 1) := by decide +kernel
theorem dX5_runScript_48 : decode cX5_runScript 48 = .ok (.iload_n 2, 1) := by decide +kernel
theorem dX5_runScript_49 : decode cX5_runScript 49 = .ok (.putfield 58, 3) := by decide +kernel
theorem dX5_runScript_52 : decode cX5_runScript 52 = .ok (.new 174, 3) := by decide +kernel
theorem dX5_runScript_55 : decode cX5_runScript 55 = .ok (.dup, 1) := by decide +kernel
theorem dX5_runScript_56 : decode cX5_runScript 56 = .ok (.ldc_w 274, 3) := by decide +kernel
theorem dX5_runScript_59 : decode cX5_runScript 59 = .ok (.invokespecial 178, 3) := by decide +kernel
theorem dX5_runScript_62 : decode cX5_runScript 62 = .ok (.athrow, 1) := by decide +kernel
theorem dX5_runScript_63 : decode cX5_runScript 63 = .ok (.aload_n 0, 1) := by decide +kernel
theorem dX5_runScript_64 : decode cX5_runScript 64 = .ok (.getfield 39, 3) := by decide +kernel
theorem dX5_runScript_67 : decode cX5_runScript 67 = .ok (.getfield 276, 3) := by decide +kernel
theorem dX5_runScript_70 : decode cX5_runScript 70 = .ok (.ireturn, 1) := by decide +kernel
theorem dX5_errorPosition_0 : decode cX5_errorPosition 0 = .ok (.aload_n 0, 1) := by decide +kernel
theorem dX5_errorPosition_1 : decode cX5_errorPosition 1 = .ok (.getfield 54, 3) := by decide +kernel
theorem dX5_errorPosition_4 : decode cX5_errorPosition 4 = .ok (.invokestatic 164, 3) := by decide +kernel
theorem dX5_errorPosition_7 : decode cX5_errorPosition 7 = .ok (.ireturn, 1) := by decide +kernel
theorem dX5_failedCommand_0 : decode cX5_failedCommand 0 = .ok (.aload_n 0, 1) := by decide +kernel
theorem dX5_failedCommand_1 : decode cX5_failedCommand 1 = .ok (.getfield 58, 3) := by decide +kernel
theorem dX5_failedCommand_4 : decode cX5_failedCommand 4 = .ok (.invokestatic 164, 3) := by decide +kernel
theorem dX5_failedCommand_7 : decode cX5_failedCommand 7 = .ok (.ireturn, 1) := by decide +kernel
theorem dX5_undo_0 : decode cX5_undo 0 = .ok (.aload_n 0, 1) := by decide +kernel
theorem dX5_undo_1 : decode cX5_undo 1 = .ok (.getfield 25, 3) := by decide +kernel
theorem dX5_undo_4 : decode cX5_undo 4 = .ok (.getfield 279, 3) := by decide +kernel
theorem dX5_undo_7 : decode cX5_undo 7 = .ok (.ifCond .ne 14, 3) := by decide +kernel
theorem dX5_undo_10 : decode cX5_undo 10 = .ok (.new 145, 3) := by decide +kernel
theorem dX5_undo_13 : decode cX5_undo 13 = .ok (.dup, 1) := by decide +kernel
theorem dX5_undo_14 : decode cX5_undo 14 = .ok (.ldc_w 282, 3) := by decide +kernel
theorem dX5_undo_17 : decode cX5_undo 17 = .ok (.invokespecial 149, 3) := by decide +kernel
theorem dX5_undo_20 : decode cX5_undo 20 = .ok (.athrow, 1) := by decide +kernel
theorem dX5_undo_21 : decode cX5_undo 21 = .ok (.aload_n 0, 1) := by decide +kernel
theorem dX5_undo_22 : decode cX5_undo 22 = .ok (.getfield 25, 3) := by decide +kernel
theorem dX5_undo_25 : decode cX5_undo 25 = .ok (.aload_n 0, 1) := by decide +kernel
theorem dX5_undo_26 : decode cX5_undo 26 = .ok (.getfield 10, 3) := by decide +kernel
theorem dX5_undo_29 : decode cX5_undo 29 = .ok (.invokevirtual 284, 3) := by decide +kernel
theorem dX5_undo_32 : decode cX5_undo 32 = .ok (.aload_n 0, 1) := by decide +kernel
theorem dX5_undo_33 : decode cX5_undo 33 = .ok (.getfield 25, 3) := by decide +kernel
theorem dX5_undo_36 : decode cX5_undo 36 = .ok (.getfield 279, 3) := by decide +kernel
theorem dX5_undo_39 : decode cX5_undo 39 = .ok (.ireturn, 1) := by decide +kernel
theorem dX5_save_0 : decode cX5_save 0 = .ok (.aload_n 0, 1) := by decide +kernel
theorem dX5_save_1 : decode cX5_save 1 = .ok (.getfield 19, 3) := by decide +kernel
theorem dX5_save_4 : decode cX5_save 4 = .ok (.aload_n 0, 1) := by decide +kernel
theorem dX5_save_5 : decode cX5_save 5 = .ok (.getfield 10, 3) := by decide +kernel
theorem dX5_save_8 : decode cX5_save 8 = .ok (.invokevirtual 288, 3) := by decide +kernel
theorem dX5_save_11 : decode cX5_save 11 = .ok (.aload_n 0, 1) := by decide +kernel
theorem dX5_save_12 : decode cX5_save 12 = .ok (.iconst 1, 1) := by decide +kernel
theorem dX5_save_13 : decode cX5_save 13 = .ok (.putfield 50, 3) := by decide +kernel
theorem dX5_save_16 : decode cX5_save 16 = .ok (.aload_n 0, 1) := by decide +kernel
theorem dX5_save_17 : decode cX5_save 17 = .ok (.getfield 10, 3) := by decide +kernel
theorem dX5_save_20 : decode cX5_save 20 = .ok (.getfield 65, 3) := by decide +kernel
theorem dX5_save_23 : decode cX5_save 23 = .ok (.getfield 69, 3) := by decide +kernel
theorem dX5_save_26 : decode cX5_save 26 = .ok (.ireturn, 1) := by decide +kernel
theorem dX5_restore_0 : decode cX5_restore 0 = .ok (.aload_n 0, 1) := by decide +kernel
theorem dX5_restore_1 : decode cX5_restore 1 = .ok (.getfield 50, 3) := by decide +kernel
theorem dX5_restore_4 : decode cX5_restore 4 = .ok (.ifCond .ne 14, 3) := by decide +kernel
theorem dX5_restore_7 : decode cX5_restore 7 = .ok (.new 174, 3) := by decide +kernel
theorem dX5_restore_10 : decode cX5_restore 10 = .ok (.dup, 1) := by decide +kernel
theorem dX5_restore_11 : decode cX5_restore 11 = .ok (.ldc_w 290, 3) := by decide +kernel
theorem dX5_restore_14 : decode cX5_restore 14 = .ok (.invokespecial 178, 3) := by decide +kernel
theorem dX5_restore_17 : decode cX5_restore 17 = .ok (.athrow, 1) := by decide +kernel
theorem dX5_restore_18 : decode cX5_restore 18 = .ok (.aload_n 0, 1) := by decide +kernel
theorem dX5_restore_19 : decode cX5_restore 19 = .ok (.getfield 10, 3) := by decide +kernel
theorem dX5_restore_22 : decode cX5_restore 22 = .ok (.aload_n 0, 1) := by decide +kernel
theorem dX5_restore_23 : decode cX5_restore 23 = .ok (.getfield 19, 3) := by decide +kernel
theorem dX5_restore_26 : decode cX5_restore 26 = .ok (.invokevirtual 288, 3) := by decide +kernel
theorem dX5_restore_29 : decode cX5_restore 29 = .ok (.aload_n 0, 1) := by decide +kernel
theorem dX5_restore_30 : decode cX5_restore 30 = .ok (.getfield 25, 3) := by decide +kernel
theorem dX5_restore_33 : decode cX5_restore 33 = .ok (.iconst 0, 1) := by decide +kernel
theorem dX5_restore_34 : decode cX5_restore 34 = .ok (.putfield 279, 3) := by decide +kernel
theorem dX5_restore_37 : decode cX5_restore 37 = .ok (.aload_n 0, 1) := by decide +kernel
theorem dX5_restore_38 : decode cX5_restore 38 = .ok (.getfield 10, 3) := by decide +kernel
theorem dX5_restore_41 : decode cX5_restore 41 = .ok (.getfield 65, 3) := by decide +kernel
theorem dX5_restore_44 : decode cX5_restore 44 = .ok (.getfield 69, 3) := by decide +kernel
theorem dX5_restore_47 : decode cX5_restore 47 = .ok (.ireturn, 1) := by decide +kernel
theorem dX5_needListener_0 : decode cX5_needListener 0 = .ok (.aload_n 0, 1) := by decide +kernel
theorem dX5_needListener_1 : decode cX5_needListener 1 = .ok (.getfield 10, 3) := by decide +kernel
theorem dX5_needListener_4 : decode cX5_needListener 4 = .ok (.iload_n 1, 1) := by decide +kernel
theorem dX5_needListener_5 : decode cX5_needListener 5 = .ok (.invokevirtual 292, 3) := by decide +kernel
theorem dX5_needListener_8 : decode cX5_needListener 8 = .ok (.ifCond .ne 14, 3) := by decide +kernel
theorem dX5_needListener_11 : decode cX5_needListener 11 = .ok (.new 248, 3) := by decide +kernel
theorem dX5_needListener_14 : decode cX5_needListener 14 = .ok (.dup, 1) := by decide +kernel
theorem dX5_needListener_15 : decode cX5_needListener 15 = .ok (.ldc_w 296, 3) := by decide +kernel
theorem dX5_needListener_18 : decode cX5_needListener 18 = .ok (.invokespecial 252, 3) := by decide +kernel
theorem dX5_needListener_21 : decode cX5_needListener 21 = .ok (.athrow, 1) := by decide +kernel
theorem dX5_needListener_22 : decode cX5_needListener 22 = .ok (.return_, 1) := by decide +kernel
theorem dX5_needRumour_0 : decode cX5_needRumour 0 = .ok (.aload_n 0, 1) := by decide +kernel
theorem dX5_needRumour_1 : decode cX5_needRumour 1 = .ok (.getfield 10, 3) := by decide +kernel
theorem dX5_needRumour_4 : decode cX5_needRumour 4 = .ok (.iload_n 1, 1) := by decide +kernel
theorem dX5_needRumour_5 : decode cX5_needRumour 5 = .ok (.invokevirtual 298, 3) := by decide +kernel
theorem dX5_needRumour_8 : decode cX5_needRumour 8 = .ok (.ifCond .ne 14, 3) := by decide +kernel
theorem dX5_needRumour_11 : decode cX5_needRumour 11 = .ok (.new 248, 3) := by decide +kernel
theorem dX5_needRumour_14 : decode cX5_needRumour 14 = .ok (.dup, 1) := by decide +kernel
theorem dX5_needRumour_15 : decode cX5_needRumour 15 = .ok (.ldc_w 301, 3) := by decide +kernel
theorem dX5_needRumour_18 : decode cX5_needRumour 18 = .ok (.invokespecial 252, 3) := by decide +kernel
theorem dX5_needRumour_21 : decode cX5_needRumour 21 = .ok (.athrow, 1) := by decide +kernel
theorem dX5_needRumour_22 : decode cX5_needRumour 22 = .ok (.return_, 1) := by decide +kernel
theorem dX5_needHive_0 : decode cX5_needHive 0 = .ok (.iload_n 0, 1) := by decide +kernel
theorem dX5_needHive_1 : decode cX5_needHive 1 = .ok (.invokestatic 303, 3) := by decide +kernel
theorem dX5_needHive_4 : decode cX5_needHive 4 = .ok (.ifCond .ne 14, 3) := by decide +kernel
theorem dX5_needHive_7 : decode cX5_needHive 7 = .ok (.new 248, 3) := by decide +kernel
theorem dX5_needHive_10 : decode cX5_needHive 10 = .ok (.dup, 1) := by decide +kernel
theorem dX5_needHive_11 : decode cX5_needHive 11 = .ok (.ldc_w 306, 3) := by decide +kernel
theorem dX5_needHive_14 : decode cX5_needHive 14 = .ok (.invokespecial 252, 3) := by decide +kernel
theorem dX5_needHive_17 : decode cX5_needHive 17 = .ok (.athrow, 1) := by decide +kernel
theorem dX5_needHive_18 : decode cX5_needHive 18 = .ok (.return_, 1) := by decide +kernel
theorem dX5_found_0 : decode cX5_found 0 = .ok (.iload_n 0, 1) := by decide +kernel
theorem dX5_found_1 : decode cX5_found 1 = .ok (.iconst (-1), 1) := by decide +kernel
theorem dX5_found_2 : decode cX5_found 2 = .ok (.if_icmp .ne 14, 3) := by decide +kernel
theorem dX5_found_5 : decode cX5_found 5 = .ok (.new 145, 3) := by decide +kernel
theorem dX5_found_8 : decode cX5_found 8 = .ok (.dup, 1) := by decide +kernel
theorem dX5_found_9 : decode cX5_found 9 = .ok (.ldc_w 308, 3) := by decide +kernel
theorem dX5_found_12 : decode cX5_found 12 = .ok (.invokespecial 149, 3) := by decide +kernel
theorem dX5_found_15 : decode cX5_found 15 = .ok (.athrow, 1) := by decide +kernel
theorem dX5_found_16 : decode cX5_found 16 = .ok (.iload_n 0, 1) := by decide +kernel
theorem dX5_found_17 : decode cX5_found 17 = .ok (.ireturn, 1) := by decide +kernel
theorem dX5_isHive_0 : decode cX5_isHive 0 = .ok (.iload_n 0, 1) := by decide +kernel
theorem dX5_isHive_1 : decode cX5_isHive 1 = .ok (.ifCond .lt 12, 3) := by decide +kernel
theorem dX5_isHive_4 : decode cX5_isHive 4 = .ok (.iload_n 0, 1) := by decide +kernel
theorem dX5_isHive_5 : decode cX5_isHive 5 = .ok (.iconst 4, 1) := by decide +kernel
theorem dX5_isHive_6 : decode cX5_isHive 6 = .ok (.if_icmp .ge 7, 3) := by decide +kernel
theorem dX5_isHive_9 : decode cX5_isHive 9 = .ok (.iconst 1, 1) := by decide +kernel
theorem dX5_isHive_10 : decode cX5_isHive 10 = .ok (.goto 4, 3) := by decide +kernel
theorem dX5_isHive_13 : decode cX5_isHive 13 = .ok (.iconst 0, 1) := by decide +kernel
theorem dX5_isHive_14 : decode cX5_isHive 14 = .ok (.ireturn, 1) := by decide +kernel
theorem dX5_isLevel_0 : decode cX5_isLevel 0 = .ok (.iload_n 0, 1) := by decide +kernel
theorem dX5_isLevel_1 : decode cX5_isLevel 1 = .ok (.ifCond .lt 13, 3) := by decide +kernel
theorem dX5_isLevel_4 : decode cX5_isLevel 4 = .ok (.iload_n 0, 1) := by decide +kernel
theorem dX5_isLevel_5 : decode cX5_isLevel 5 = .ok (.bipush 9, 2) := by decide +kernel
theorem dX5_isLevel_7 : decode cX5_isLevel 7 = .ok (.if_icmp .gt 7, 3) := by decide +kernel
theorem dX5_isLevel_10 : decode cX5_isLevel 10 = .ok (.iconst 1, 1) := by decide +kernel
theorem dX5_isLevel_11 : decode cX5_isLevel 11 = .ok (.goto 4, 3) := by decide +kernel
theorem dX5_isLevel_14 : decode cX5_isLevel 14 = .ok (.iconst 0, 1) := by decide +kernel
theorem dX5_isLevel_15 : decode cX5_isLevel 15 = .ok (.ireturn, 1) := by decide +kernel
theorem dX5_contains_0 : decode cX5_contains 0 = .ok (.iload_n 0, 1) := by decide +kernel
theorem dX5_contains_1 : decode cX5_contains 1 = .ok (.iconst 1, 1) := by decide +kernel
theorem dX5_contains_2 : decode cX5_contains 2 = .ok (.iload_n 1, 1) := by decide +kernel
theorem dX5_contains_3 : decode cX5_contains 3 = .ok (.ishl, 1) := by decide +kernel
theorem dX5_contains_4 : decode cX5_contains 4 = .ok (.iand, 1) := by decide +kernel
theorem dX5_contains_5 : decode cX5_contains 5 = .ok (.ifCond .eq 7, 3) := by decide +kernel
theorem dX5_contains_8 : decode cX5_contains 8 = .ok (.iconst 1, 1) := by decide +kernel
theorem dX5_contains_9 : decode cX5_contains 9 = .ok (.goto 4, 3) := by decide +kernel
theorem dX5_contains_12 : decode cX5_contains 12 = .ok (.iconst 0, 1) := by decide +kernel
theorem dX5_contains_13 : decode cX5_contains 13 = .ok (.ireturn, 1) := by decide +kernel
theorem dX5_change_0 : decode cX5_change 0 = .ok (.aload_n 0, 1) := by decide +kernel
theorem dX5_change_1 : decode cX5_change 1 = .ok (.iload_n 1, 1) := by decide +kernel
theorem dX5_change_2 : decode cX5_change 2 = .ok (.iload_n 2, 1) := by decide +kernel
theorem dX5_change_3 : decode cX5_change 3 = .ok (.iload_n 3, 1) := by decide +kernel
theorem dX5_change_4 : decode cX5_change 4 = .ok (.invokevirtual 310, 3) := by decide +kernel
theorem dX5_change_7 : decode cX5_change 7 = .ok (.invokestatic 313, 3) := by decide +kernel
theorem dX5_change_10 : decode cX5_change 10 = .ok (.aload_n 0, 1) := by decide +kernel
theorem dX5_change_11 : decode cX5_change 11 = .ok (.getfield 25, 3) := by decide +kernel
theorem dX5_change_14 : decode cX5_change 14 = .ok (.aload_n 0, 1) := by decide +kernel
theorem dX5_change_15 : decode cX5_change 15 = .ok (.getfield 10, 3) := by decide +kernel
theorem dX5_change_18 : decode cX5_change 18 = .ok (.invokevirtual 316, 3) := by decide +kernel
theorem dX5_change_21 : decode cX5_change 21 = .ok (.aload_n 0, 1) := by decide +kernel
theorem dX5_change_22 : decode cX5_change 22 = .ok (.iload_n 1, 1) := by decide +kernel
theorem dX5_change_23 : decode cX5_change 23 = .ok (.iload_n 2, 1) := by decide +kernel
theorem dX5_change_24 : decode cX5_change 24 = .ok (.iload_n 3, 1) := by decide +kernel
theorem dX5_change_25 : decode cX5_change 25 = .ok (.invokevirtual 319, 3) := by decide +kernel
theorem dX5_change_28 : decode cX5_change 28 = .ok (.ireturn, 1) := by decide +kernel
theorem dX5_refuse_0 : decode cX5_refuse 0 = .ok (.iload_n 0, 1) := by decide +kernel
theorem dX5_refuse_1 : decode cX5_refuse 1 = .ok (.iconst 1, 1) := by decide +kernel
theorem dX5_refuse_2 : decode cX5_refuse 2 = .ok (.if_icmp .ne 14, 3) := by decide +kernel
theorem dX5_refuse_5 : decode cX5_refuse 5 = .ok (.new 248, 3) := by decide +kernel
theorem dX5_refuse_8 : decode cX5_refuse 8 = .ok (.dup, 1) := by decide +kernel
theorem dX5_refuse_9 : decode cX5_refuse 9 = .ok (.ldc_w 322, 3) := by decide +kernel
theorem dX5_refuse_12 : decode cX5_refuse 12 = .ok (.invokespecial 252, 3) := by decide +kernel
theorem dX5_refuse_15 : decode cX5_refuse 15 = .ok (.athrow, 1) := by decide +kernel
theorem dX5_refuse_16 : decode cX5_refuse 16 = .ok (.iload_n 0, 1) := by decide +kernel
theorem dX5_refuse_17 : decode cX5_refuse 17 = .ok (.iconst 2, 1) := by decide +kernel
theorem dX5_refuse_18 : decode cX5_refuse 18 = .ok (.if_icmp .ne 14, 3) := by decide +kernel
theorem dX5_refuse_21 : decode cX5_refuse 21 = .ok (.new 183, 3) := by decide +kernel
theorem dX5_refuse_24 : decode cX5_refuse 24 = .ok (.dup, 1) := by decide +kernel
theorem dX5_refuse_25 : decode cX5_refuse 25 = .ok (.ldc_w 324, 3) := by decide +kernel
theorem dX5_refuse_28 : decode cX5_refuse 28 = .ok (.invokespecial 187, 3) := by decide +kernel
theorem dX5_refuse_31 : decode cX5_refuse 31 = .ok (.athrow, 1) := by decide +kernel
theorem dX5_refuse_32 : decode cX5_refuse 32 = .ok (.iload_n 0, 1) := by decide +kernel
theorem dX5_refuse_33 : decode cX5_refuse 33 = .ok (.iconst 3, 1) := by decide +kernel
theorem dX5_refuse_34 : decode cX5_refuse 34 = .ok (.if_icmp .ne 14, 3) := by decide +kernel
theorem dX5_refuse_37 : decode cX5_refuse 37 = .ok (.new 174, 3) := by decide +kernel
theorem dX5_refuse_40 : decode cX5_refuse 40 = .ok (.dup, 1) := by decide +kernel
theorem dX5_refuse_41 : decode cX5_refuse 41 = .ok (.ldc_w 326, 3) := by decide +kernel
theorem dX5_refuse_44 : decode cX5_refuse 44 = .ok (.invokespecial 178, 3) := by decide +kernel
theorem dX5_refuse_47 : decode cX5_refuse 47 = .ok (.athrow, 1) := by decide +kernel
theorem dX5_refuse_48 : decode cX5_refuse 48 = .ok (.iload_n 0, 1) := by decide +kernel
theorem dX5_refuse_49 : decode cX5_refuse 49 = .ok (.iconst 4, 1) := by decide +kernel
theorem dX5_refuse_50 : decode cX5_refuse 50 = .ok (.if_icmp .ne 14, 3) := by decide +kernel
theorem dX5_refuse_53 : decode cX5_refuse 53 = .ok (.new 145, 3) := by decide +kernel
theorem dX5_refuse_56 : decode cX5_refuse 56 = .ok (.dup, 1) := by decide +kernel
theorem dX5_refuse_57 : decode cX5_refuse 57 = .ok (.ldc_w 308, 3) := by decide +kernel
theorem dX5_refuse_60 : decode cX5_refuse 60 = .ok (.invokespecial 149, 3) := by decide +kernel
theorem dX5_refuse_63 : decode cX5_refuse 63 = .ok (.athrow, 1) := by decide +kernel
theorem dX5_refuse_64 : decode cX5_refuse 64 = .ok (.return_, 1) := by decide +kernel
theorem dX5_refusalOf_0 : decode cX5_refusalOf 0 = .ok (.iload_n 1, 1) := by decide +kernel
theorem dX5_refusalOf_1 : decode cX5_refusalOf 1 = .ok (.tableswitch 126 0 7 #[47, 57, 67, 77, 87, 97, 106, 116], 47) := by decide +kernel
theorem dX5_refusalOf_48 : decode cX5_refusalOf 48 = .ok (.aload_n 0, 1) := by decide +kernel
theorem dX5_refusalOf_49 : decode cX5_refusalOf 49 = .ok (.getfield 10, 3) := by decide +kernel
theorem dX5_refusalOf_52 : decode cX5_refusalOf 52 = .ok (.iload_n 2, 1) := by decide +kernel
theorem dX5_refusalOf_53 : decode cX5_refusalOf 53 = .ok (.iload_n 3, 1) := by decide +kernel
theorem dX5_refusalOf_54 : decode cX5_refusalOf 54 = .ok (.invokevirtual 328, 3) := by decide +kernel
theorem dX5_refusalOf_57 : decode cX5_refusalOf 57 = .ok (.ireturn, 1) := by decide +kernel
theorem dX5_refusalOf_58 : decode cX5_refusalOf 58 = .ok (.aload_n 0, 1) := by decide +kernel
theorem dX5_refusalOf_59 : decode cX5_refusalOf 59 = .ok (.getfield 10, 3) := by decide +kernel
theorem dX5_refusalOf_62 : decode cX5_refusalOf 62 = .ok (.iload_n 2, 1) := by decide +kernel
theorem dX5_refusalOf_63 : decode cX5_refusalOf 63 = .ok (.iload_n 3, 1) := by decide +kernel
theorem dX5_refusalOf_64 : decode cX5_refusalOf 64 = .ok (.invokevirtual 331, 3) := by decide +kernel
theorem dX5_refusalOf_67 : decode cX5_refusalOf 67 = .ok (.ireturn, 1) := by decide +kernel
theorem dX5_refusalOf_68 : decode cX5_refusalOf 68 = .ok (.aload_n 0, 1) := by decide +kernel
theorem dX5_refusalOf_69 : decode cX5_refusalOf 69 = .ok (.getfield 10, 3) := by decide +kernel
theorem dX5_refusalOf_72 : decode cX5_refusalOf 72 = .ok (.iload_n 2, 1) := by decide +kernel
theorem dX5_refusalOf_73 : decode cX5_refusalOf 73 = .ok (.iload_n 3, 1) := by decide +kernel
theorem dX5_refusalOf_74 : decode cX5_refusalOf 74 = .ok (.invokevirtual 334, 3) := by decide +kernel
theorem dX5_refusalOf_77 : decode cX5_refusalOf 77 = .ok (.ireturn, 1) := by decide +kernel
theorem dX5_refusalOf_78 : decode cX5_refusalOf 78 = .ok (.aload_n 0, 1) := by decide +kernel
theorem dX5_refusalOf_79 : decode cX5_refusalOf 79 = .ok (.getfield 10, 3) := by decide +kernel
theorem dX5_refusalOf_82 : decode cX5_refusalOf 82 = .ok (.iload_n 2, 1) := by decide +kernel
theorem dX5_refusalOf_83 : decode cX5_refusalOf 83 = .ok (.iload_n 3, 1) := by decide +kernel
theorem dX5_refusalOf_84 : decode cX5_refusalOf 84 = .ok (.invokevirtual 337, 3) := by decide +kernel
theorem dX5_refusalOf_87 : decode cX5_refusalOf 87 = .ok (.ireturn, 1) := by decide +kernel
theorem dX5_refusalOf_88 : decode cX5_refusalOf 88 = .ok (.aload_n 0, 1) := by decide +kernel
theorem dX5_refusalOf_89 : decode cX5_refusalOf 89 = .ok (.getfield 10, 3) := by decide +kernel
theorem dX5_refusalOf_92 : decode cX5_refusalOf 92 = .ok (.iload_n 2, 1) := by decide +kernel
theorem dX5_refusalOf_93 : decode cX5_refusalOf 93 = .ok (.iload_n 3, 1) := by decide +kernel
theorem dX5_refusalOf_94 : decode cX5_refusalOf 94 = .ok (.invokevirtual 340, 3) := by decide +kernel
theorem dX5_refusalOf_97 : decode cX5_refusalOf 97 = .ok (.ireturn, 1) := by decide +kernel
theorem dX5_refusalOf_98 : decode cX5_refusalOf 98 = .ok (.aload_n 0, 1) := by decide +kernel
theorem dX5_refusalOf_99 : decode cX5_refusalOf 99 = .ok (.getfield 10, 3) := by decide +kernel
theorem dX5_refusalOf_102 : decode cX5_refusalOf 102 = .ok (.iload_n 2, 1) := by decide +kernel
theorem dX5_refusalOf_103 : decode cX5_refusalOf 103 = .ok (.invokevirtual 343, 3) := by decide +kernel
theorem dX5_refusalOf_106 : decode cX5_refusalOf 106 = .ok (.ireturn, 1) := by decide +kernel
theorem dX5_refusalOf_107 : decode cX5_refusalOf 107 = .ok (.aload_n 0, 1) := by decide +kernel
theorem dX5_refusalOf_108 : decode cX5_refusalOf 108 = .ok (.getfield 10, 3) := by decide +kernel
theorem dX5_refusalOf_111 : decode cX5_refusalOf 111 = .ok (.iload_n 2, 1) := by decide +kernel
theorem dX5_refusalOf_112 : decode cX5_refusalOf 112 = .ok (.iload_n 3, 1) := by decide +kernel
theorem dX5_refusalOf_113 : decode cX5_refusalOf 113 = .ok (.invokevirtual 346, 3) := by decide +kernel
theorem dX5_refusalOf_116 : decode cX5_refusalOf 116 = .ok (.ireturn, 1) := by decide +kernel
theorem dX5_refusalOf_117 : decode cX5_refusalOf 117 = .ok (.aload_n 0, 1) := by decide +kernel
theorem dX5_refusalOf_118 : decode cX5_refusalOf 118 = .ok (.getfield 10, 3) := by decide +kernel
theorem dX5_refusalOf_121 : decode cX5_refusalOf 121 = .ok (.iload_n 2, 1) := by decide +kernel
theorem dX5_refusalOf_122 : decode cX5_refusalOf 122 = .ok (.iload_n 3, 1) := by decide +kernel
theorem dX5_refusalOf_123 : decode cX5_refusalOf 123 = .ok (.invokevirtual 349, 3) := by decide +kernel
theorem dX5_refusalOf_126 : decode cX5_refusalOf 126 = .ok (.ireturn, 1) := by decide +kernel
theorem dX5_refusalOf_127 : decode cX5_refusalOf 127 = .ok (.iload_n 2, 1) := by decide +kernel
theorem dX5_refusalOf_128 : decode cX5_refusalOf 128 = .ok (.iconst 1, 1) := by decide +kernel
theorem dX5_refusalOf_129 : decode cX5_refusalOf 129 = .ok (.if_icmp .lt 9, 3) := by decide +kernel
theorem dX5_refusalOf_132 : decode cX5_refusalOf 132 = .ok (.iload_n 2, 1) := by decide +kernel
theorem dX5_refusalOf_133 : decode cX5_refusalOf 133 = .ok (.bipush 20, 2) := by decide +kernel
theorem dX5_refusalOf_135 : decode cX5_refusalOf 135 = .ok (.if_icmp .le 7, 3) := by decide +kernel
theorem dX5_refusalOf_138 : decode cX5_refusalOf 138 = .ok (.iconst 2, 1) := by decide +kernel
theorem dX5_refusalOf_139 : decode cX5_refusalOf 139 = .ok (.goto 4, 3) := by decide +kernel
theorem dX5_refusalOf_142 : decode cX5_refusalOf 142 = .ok (.iconst 0, 1) := by decide +kernel
theorem dX5_refusalOf_143 : decode cX5_refusalOf 143 = .ok (.ireturn, 1) := by decide +kernel
theorem dX5_perform_0 : decode cX5_perform 0 = .ok (.iload_n 1, 1) := by decide +kernel
theorem dX5_perform_1 : decode cX5_perform 1 = .ok (.tableswitch 140 0 7 #[47, 57, 70, 83, 93, 103, 116, 130], 47) := by decide +kernel
theorem dX5_perform_48 : decode cX5_perform 48 = .ok (.aload_n 0, 1) := by decide +kernel
theorem dX5_perform_49 : decode cX5_perform 49 = .ok (.getfield 10, 3) := by decide +kernel
theorem dX5_perform_52 : decode cX5_perform 52 = .ok (.iload_n 2, 1) := by decide +kernel
theorem dX5_perform_53 : decode cX5_perform 53 = .ok (.iload_n 3, 1) := by decide +kernel
theorem dX5_perform_54 : decode cX5_perform 54 = .ok (.invokevirtual 352, 3) := by decide +kernel
theorem dX5_perform_57 : decode cX5_perform 57 = .ok (.ireturn, 1) := by decide +kernel
theorem dX5_perform_58 : decode cX5_perform 58 = .ok (.aload_n 0, 1) := by decide +kernel
theorem dX5_perform_59 : decode cX5_perform 59 = .ok (.getfield 10, 3) := by decide +kernel
theorem dX5_perform_62 : decode cX5_perform 62 = .ok (.getfield 65, 3) := by decide +kernel
theorem dX5_perform_65 : decode cX5_perform 65 = .ok (.iload_n 2, 1) := by decide +kernel
theorem dX5_perform_66 : decode cX5_perform 66 = .ok (.iload_n 3, 1) := by decide +kernel
theorem dX5_perform_67 : decode cX5_perform 67 = .ok (.invokevirtual 355, 3) := by decide +kernel
theorem dX5_perform_70 : decode cX5_perform 70 = .ok (.ireturn, 1) := by decide +kernel
theorem dX5_perform_71 : decode cX5_perform 71 = .ok (.aload_n 0, 1) := by decide +kernel
theorem dX5_perform_72 : decode cX5_perform 72 = .ok (.getfield 10, 3) := by decide +kernel
theorem dX5_perform_75 : decode cX5_perform 75 = .ok (.getfield 65, 3) := by decide +kernel
theorem dX5_perform_78 : decode cX5_perform 78 = .ok (.iload_n 2, 1) := by decide +kernel
theorem dX5_perform_79 : decode cX5_perform 79 = .ok (.iload_n 3, 1) := by decide +kernel
theorem dX5_perform_80 : decode cX5_perform 80 = .ok (.invokevirtual 358, 3) := by decide +kernel
theorem dX5_perform_83 : decode cX5_perform 83 = .ok (.ireturn, 1) := by decide +kernel
theorem dX5_perform_84 : decode cX5_perform 84 = .ok (.aload_n 0, 1) := by decide +kernel
theorem dX5_perform_85 : decode cX5_perform 85 = .ok (.getfield 10, 3) := by decide +kernel
theorem dX5_perform_88 : decode cX5_perform 88 = .ok (.iload_n 2, 1) := by decide +kernel
theorem dX5_perform_89 : decode cX5_perform 89 = .ok (.iload_n 3, 1) := by decide +kernel
theorem dX5_perform_90 : decode cX5_perform 90 = .ok (.invokevirtual 361, 3) := by decide +kernel
theorem dX5_perform_93 : decode cX5_perform 93 = .ok (.ireturn, 1) := by decide +kernel
theorem dX5_perform_94 : decode cX5_perform 94 = .ok (.aload_n 0, 1) := by decide +kernel
theorem dX5_perform_95 : decode cX5_perform 95 = .ok (.getfield 10, 3) := by decide +kernel
theorem dX5_perform_98 : decode cX5_perform 98 = .ok (.iload_n 2, 1) := by decide +kernel
theorem dX5_perform_99 : decode cX5_perform 99 = .ok (.iload_n 3, 1) := by decide +kernel
theorem dX5_perform_100 : decode cX5_perform 100 = .ok (.invokevirtual 364, 3) := by decide +kernel
theorem dX5_perform_103 : decode cX5_perform 103 = .ok (.ireturn, 1) := by decide +kernel
theorem dX5_perform_104 : decode cX5_perform 104 = .ok (.aload_n 0, 1) := by decide +kernel
theorem dX5_perform_105 : decode cX5_perform 105 = .ok (.getfield 10, 3) := by decide +kernel
theorem dX5_perform_108 : decode cX5_perform 108 = .ok (.getfield 120, 3) := by decide +kernel
theorem dX5_perform_111 : decode cX5_perform 111 = .ok (.iload_n 2, 1) := by decide +kernel
theorem dX5_perform_112 : decode cX5_perform 112 = .ok (.aaload, 1) := by decide +kernel
theorem dX5_perform_113 : decode cX5_perform 113 = .ok (.invokevirtual 367, 3) := by decide +kernel
theorem dX5_perform_116 : decode cX5_perform 116 = .ok (.ireturn, 1) := by decide +kernel
theorem dX5_perform_117 : decode cX5_perform 117 = .ok (.aload_n 0, 1) := by decide +kernel
theorem dX5_perform_118 : decode cX5_perform 118 = .ok (.getfield 10, 3) := by decide +kernel
theorem dX5_perform_121 : decode cX5_perform 121 = .ok (.getfield 120, 3) := by decide +kernel
theorem dX5_perform_124 : decode cX5_perform 124 = .ok (.iload_n 2, 1) := by decide +kernel
theorem dX5_perform_125 : decode cX5_perform 125 = .ok (.aaload, 1) := by decide +kernel
theorem dX5_perform_126 : decode cX5_perform 126 = .ok (.iload_n 3, 1) := by decide +kernel
theorem dX5_perform_127 : decode cX5_perform 127 = .ok (.invokevirtual 370, 3) := by decide +kernel
theorem dX5_perform_130 : decode cX5_perform 130 = .ok (.ireturn, 1) := by decide +kernel
theorem dX5_perform_131 : decode cX5_perform 131 = .ok (.aload_n 0, 1) := by decide +kernel
theorem dX5_perform_132 : decode cX5_perform 132 = .ok (.getfield 10, 3) := by decide +kernel
theorem dX5_perform_135 : decode cX5_perform 135 = .ok (.iload_n 2, 1) := by decide +kernel
theorem dX5_perform_136 : decode cX5_perform 136 = .ok (.iload_n 3, 1) := by decide +kernel
theorem dX5_perform_137 : decode cX5_perform 137 = .ok (.invokevirtual 373, 3) := by decide +kernel
theorem dX5_perform_140 : decode cX5_perform 140 = .ok (.ireturn, 1) := by decide +kernel
theorem dX5_perform_141 : decode cX5_perform 141 = .ok (.aload_n 0, 1) := by decide +kernel
theorem dX5_perform_142 : decode cX5_perform 142 = .ok (.getfield 10, 3) := by decide +kernel
theorem dX5_perform_145 : decode cX5_perform 145 = .ok (.iload_n 2, 1) := by decide +kernel
theorem dX5_perform_146 : decode cX5_perform 146 = .ok (.invokevirtual 376, 3) := by decide +kernel
theorem dX5_perform_149 : decode cX5_perform 149 = .ok (.ireturn, 1) := by decide +kernel
theorem dX5_runCommands_0 : decode cX5_runCommands 0 = .ok (.aload_n 0, 1) := by decide +kernel
theorem dX5_runCommands_1 : decode cX5_runCommands 1 = .ok (.getfield 16, 3) := by decide +kernel
theorem dX5_runCommands_4 : decode cX5_runCommands 4 = .ok (.aload_n 0, 1) := by decide +kernel
theorem dX5_runCommands_5 : decode cX5_runCommands 5 = .ok (.getfield 10, 3) := by decide +kernel
theorem dX5_runCommands_8 : decode cX5_runCommands 8 = .ok (.invokevirtual 288, 3) := by decide +kernel
theorem dX5_runCommands_11 : decode cX5_runCommands 11 = .ok (.iconst 0, 1) := by decide +kernel
theorem dX5_runCommands_12 : decode cX5_runCommands 12 = .ok (.istore_n 1, 1) := by decide +kernel
theorem dX5_runCommands_13 : decode cX5_runCommands 13 = .ok (.iload_n 1, 1) := by decide +kernel
theorem dX5_runCommands_14 : decode cX5_runCommands 14 = .ok (.aload_n 0, 1) := by decide +kernel
theorem dX5_runCommands_15 : decode cX5_runCommands 15 = .ok (.getfield 39, 3) := by decide +kernel
theorem dX5_runCommands_18 : decode cX5_runCommands 18 = .ok (.getfield 276, 3) := by decide +kernel
theorem dX5_runCommands_21 : decode cX5_runCommands 21 = .ok (.if_icmp .ge 73, 3) := by decide +kernel
theorem dX5_runCommands_24 : decode cX5_runCommands 24 = .ok (.aload_n 0, 1) := by decide +kernel
theorem dX5_runCommands_25 : decode cX5_runCommands 25 = .ok (.getfield 39, 3) := by decide +kernel
theorem dX5_runCommands_28 : decode cX5_runCommands 28 = .ok (.getfield 379, 3) := by decide +kernel
theorem dX5_runCommands_31 : decode cX5_runCommands 31 = .ok (.iload_n 1, 1) := by decide +kernel
theorem dX5_runCommands_32 : decode cX5_runCommands 32 = .ok (.iaload, 1) := by decide +kernel
theorem dX5_runCommands_33 : decode cX5_runCommands 33 = .ok (.istore_n 2, 1) := by decide +kernel
theorem dX5_runCommands_34 : decode cX5_runCommands 34 = .ok (.aload_n 0, 1) := by decide +kernel
theorem dX5_runCommands_35 : decode cX5_runCommands 35 = .ok (.getfield 39, 3) := by decide +kernel
theorem dX5_runCommands_38 : decode cX5_runCommands 38 = .ok (.getfield 382, 3) := by decide +kernel
theorem dX5_runCommands_41 : decode cX5_runCommands 41 = .ok (.iload_n 1, 1) := by decide +kernel
theorem dX5_runCommands_42 : decode cX5_runCommands 42 = .ok (.iaload, 1) := by decide +kernel
theorem dX5_runCommands_43 : decode cX5_runCommands 43 = .ok (.istore_n 3, 1) := by decide +kernel
theorem dX5_runCommands_44 : decode cX5_runCommands 44 = .ok (.aload_n 0, 1) := by decide +kernel
theorem dX5_runCommands_45 : decode cX5_runCommands 45 = .ok (.getfield 39, 3) := by decide +kernel
theorem dX5_runCommands_48 : decode cX5_runCommands 48 = .ok (.getfield 385, 3) := by decide +kernel
theorem dX5_runCommands_51 : decode cX5_runCommands 51 = .ok (.iload_n 1, 1) := by decide +kernel
theorem dX5_runCommands_52 : decode cX5_runCommands 52 = .ok (.iaload, 1) := by decide +kernel
theorem dX5_runCommands_53 : decode cX5_runCommands 53 = .ok (.istore 4, 2) := by decide +kernel
theorem dX5_runCommands_55 : decode cX5_runCommands 55 = .ok (.aload_n 0, 1) := by decide +kernel
theorem dX5_runCommands_56 : decode cX5_runCommands 56 = .ok (.iload_n 2, 1) := by decide +kernel
theorem dX5_runCommands_57 : decode cX5_runCommands 57 = .ok (.iload_n 3, 1) := by decide +kernel
theorem dX5_runCommands_58 : decode cX5_runCommands 58 = .ok (.iload 4, 2) := by decide +kernel
theorem dX5_runCommands_60 : decode cX5_runCommands 60 = .ok (.invokevirtual 310, 3) := by decide +kernel
theorem dX5_runCommands_63 : decode cX5_runCommands 63 = .ok (.ifCond .eq 16, 3) := by decide +kernel
theorem dX5_runCommands_66 : decode cX5_runCommands 66 = .ok (.aload_n 0, 1) := by decide +kernel
theorem dX5_runCommands_67 : decode cX5_runCommands 67 = .ok (.getfield 10, 3) := by decide +kernel
theorem dX5_runCommands_70 : decode cX5_runCommands 70 = .ok (.aload_n 0, 1) := by decide +kernel
theorem dX5_runCommands_71 : decode cX5_runCommands 71 = .ok (.getfield 16, 3) := by decide +kernel
theorem dX5_runCommands_74 : decode cX5_runCommands 74 = .ok (.invokevirtual 288, 3) := by decide +kernel
theorem dX5_runCommands_77 : decode cX5_runCommands 77 = .ok (.iload_n 1, 1) := by decide +kernel
theorem dX5_runCommands_78 : decode cX5_runCommands 78 = .ok (.ireturn, 1) := by decide +kernel
theorem dX5_runCommands_79 : decode cX5_runCommands 79 = .ok (.aload_n 0, 1) := by decide +kernel
theorem dX5_runCommands_80 : decode cX5_runCommands 80 = .ok (.iload_n 2, 1) := by decide +kernel
theorem dX5_runCommands_81 : decode cX5_runCommands 81 = .ok (.iload_n 3, 1) := by decide +kernel
theorem dX5_runCommands_82 : decode cX5_runCommands 82 = .ok (.iload 4, 2) := by decide +kernel
theorem dX5_runCommands_84 : decode cX5_runCommands 84 = .ok (.invokevirtual 319, 3) := by decide +kernel
theorem dX5_runCommands_87 : decode cX5_runCommands 87 = .ok (.pop, 1) := by decide +kernel
theorem dX5_runCommands_88 : decode cX5_runCommands 88 = .ok (.iinc 1 1, 3) := by decide +kernel
theorem dX5_runCommands_91 : decode cX5_runCommands 91 = .ok (.goto (-78), 3) := by decide +kernel
theorem dX5_runCommands_94 : decode cX5_runCommands 94 = .ok (.aload_n 0, 1) := by decide +kernel
theorem dX5_runCommands_95 : decode cX5_runCommands 95 = .ok (.getfield 25, 3) := by decide +kernel
theorem dX5_runCommands_98 : decode cX5_runCommands 98 = .ok (.aload_n 0, 1) := by decide +kernel
theorem dX5_runCommands_99 : decode cX5_runCommands 99 = .ok (.getfield 16, 3) := by decide +kernel
theorem dX5_runCommands_102 : decode cX5_runCommands 102 = .ok (.invokevirtual 316, 3) := by decide +kernel
theorem dX5_runCommands_105 : decode cX5_runCommands 105 = .ok (.iconst (-1), 1) := by decide +kernel
theorem dX5_runCommands_106 : decode cX5_runCommands 106 = .ok (.ireturn, 1) := by decide +kernel
theorem dX5_foreseenHearing_0 : decode cX5_foreseenHearing 0 = .ok (.aload_n 0, 1) := by decide +kernel
theorem dX5_foreseenHearing_1 : decode cX5_foreseenHearing 1 = .ok (.getfield 32, 3) := by decide +kernel
theorem dX5_foreseenHearing_4 : decode cX5_foreseenHearing 4 = .ok (.aload_n 1, 1) := by decide +kernel
theorem dX5_foreseenHearing_5 : decode cX5_foreseenHearing 5 = .ok (.invokevirtual 188, 3) := by decide +kernel
theorem dX5_foreseenHearing_8 : decode cX5_foreseenHearing 8 = .ok (.iconst 1, 1) := by decide +kernel
theorem dX5_foreseenHearing_9 : decode cX5_foreseenHearing 9 = .ok (.istore_n 3, 1) := by decide +kernel
theorem dX5_foreseenHearing_10 : decode cX5_foreseenHearing 10 = .ok (.iload_n 3, 1) := by decide +kernel
theorem dX5_foreseenHearing_11 : decode cX5_foreseenHearing 11 = .ok (.bipush 40, 2) := by decide +kernel
theorem dX5_foreseenHearing_13 : decode cX5_foreseenHearing 13 = .ok (.if_icmp .gt 37, 3) := by decide +kernel
theorem dX5_foreseenHearing_16 : decode cX5_foreseenHearing 16 = .ok (.aload_n 0, 1) := by decide +kernel
theorem dX5_foreseenHearing_17 : decode cX5_foreseenHearing 17 = .ok (.getfield 10, 3) := by decide +kernel
theorem dX5_foreseenHearing_20 : decode cX5_foreseenHearing 20 = .ok (.aload_n 0, 1) := by decide +kernel
theorem dX5_foreseenHearing_21 : decode cX5_foreseenHearing 21 = .ok (.getfield 32, 3) := by decide +kernel
theorem dX5_foreseenHearing_24 : decode cX5_foreseenHearing 24 = .ok (.invokevirtual 192, 3) := by decide +kernel
theorem dX5_foreseenHearing_27 : decode cX5_foreseenHearing 27 = .ok (.pop, 1) := by decide +kernel
theorem dX5_foreseenHearing_28 : decode cX5_foreseenHearing 28 = .ok (.aload_n 0, 1) := by decide +kernel
theorem dX5_foreseenHearing_29 : decode cX5_foreseenHearing 29 = .ok (.getfield 32, 3) := by decide +kernel
theorem dX5_foreseenHearing_32 : decode cX5_foreseenHearing 32 = .ok (.invokevirtual 142, 3) := by decide +kernel
theorem dX5_foreseenHearing_35 : decode cX5_foreseenHearing 35 = .ok (.iload_n 2, 1) := by decide +kernel
theorem dX5_foreseenHearing_36 : decode cX5_foreseenHearing 36 = .ok (.invokestatic 136, 3) := by decide +kernel
theorem dX5_foreseenHearing_39 : decode cX5_foreseenHearing 39 = .ok (.ifCond .eq 5, 3) := by decide +kernel
theorem dX5_foreseenHearing_42 : decode cX5_foreseenHearing 42 = .ok (.iload_n 3, 1) := by decide +kernel
theorem dX5_foreseenHearing_43 : decode cX5_foreseenHearing 43 = .ok (.ireturn, 1) := by decide +kernel
theorem dX5_foreseenHearing_44 : decode cX5_foreseenHearing 44 = .ok (.iinc 3 1, 3) := by decide +kernel
theorem dX5_foreseenHearing_47 : decode cX5_foreseenHearing 47 = .ok (.goto (-37), 3) := by decide +kernel
theorem dX5_foreseenHearing_50 : decode cX5_foreseenHearing 50 = .ok (.iconst (-1), 1) := by decide +kernel
theorem dX5_foreseenHearing_51 : decode cX5_foreseenHearing 51 = .ok (.ireturn, 1) := by decide +kernel
