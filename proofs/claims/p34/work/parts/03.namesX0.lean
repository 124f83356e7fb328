/-! ===== BEGIN printed: names, fields, word lists, decode rows ===== -/
def RX0 : String := "GoatTower$Scene"
def TX0 : u_T := fun k => match k with
  | 0 => ("GoatTower$Scene", "minute", "I", false)
  | 1 => ("GoatTower$Scene", "gateCount", "I", false)
  | 2 => ("GoatTower$Scene", "goatCount", "I", false)
  | 3 => ("GoatTower$Scene", "askCount", "I", false)
  | 4 => ("GoatTower$Scene", "letInCount", "I", false)
  | 5 => ("GoatTower$Scene", "permits", "[I", true)
  | 6 => ("GoatTower$Scene", "order", "[I", true)
  | 7 => ("GoatTower$Scene", "givenUpAt", "[I", true)
  | 8 => ("GoatTower$Scene", "horns", "[I", true)
  | 9 => ("GoatTower$Scene", "state", "[I", true)
  | 10 => ("GoatTower$Scene", "gate", "[I", true)
  | 11 => ("GoatTower$Scene", "many", "[I", true)
  | 12 => ("GoatTower$Scene", "stay", "[I", true)
  | 13 => ("GoatTower$Scene", "left", "[I", true)
  | 14 => ("GoatTower$Scene", "askedAs", "[I", true)
  | 15 => ("GoatTower$Scene", "waitedForThis", "[I", true)
  | _ => ("GoatTower$Scene", "waitedInAll", "[I", true)
def tyX0 : Nat → FieldType := fun k => match k with
  | 0 => .int
  | 1 => .int
  | 2 => .int
  | 3 => .int
  | 4 => .int
  | 5 => .array .int
  | 6 => .array .int
  | 7 => .array .int
  | 8 => .array .int
  | 9 => .array .int
  | 10 => .array .int
  | 11 => .array .int
  | 12 => .array .int
  | 13 => .array .int
  | 14 => .array .int
  | 15 => .array .int
  | _ => .array .int
abbrev wsX00 : List Cond := u_ws RX0 TX0 17
theorem nmX0 : ∀ a, a < 17 → ∀ b, b < 17 → a ≠ b → (TX0 a).2.1 ≠ (TX0 b).2.1 := by decide +kernel
theorem tyX0_ok : ∀ k, k < 17 → parseFieldDescriptor (TX0 k).2.2.1 = some (tyX0 k) := by decide +kernel
abbrev cX0_init : ByteArray := prog_2_method_1_code
def yX0_init : MethodName := ⟨RX0, "<init>", "()V"⟩
abbrev cX0_become : ByteArray := prog_2_method_2_code
def yX0_become : MethodName := ⟨RX0, "become", "(LGoatTower$Scene;)V"⟩
abbrev cX0_openGate : ByteArray := prog_2_method_3_code
def yX0_openGate : MethodName := ⟨RX0, "openGate", "(II)I"⟩
abbrev cX0_bringGoat : ByteArray := prog_2_method_4_code
def yX0_bringGoat : MethodName := ⟨RX0, "bringGoat", "(I)I"⟩
abbrev cX0_rest : ByteArray := prog_2_method_5_code
def yX0_rest : MethodName := ⟨RX0, "rest", "(I)V"⟩
abbrev cX0_lineUp : ByteArray := prog_2_method_6_code
def yX0_lineUp : MethodName := ⟨RX0, "lineUp", "(IIIII)V"⟩
abbrev cX0_enter : ByteArray := prog_2_method_7_code
def yX0_enter : MethodName := ⟨RX0, "enter", "(IIII)V"⟩
abbrev cX0_liveAMinute : ByteArray := prog_2_method_8_code
def yX0_liveAMinute : MethodName := ⟨RX0, "liveAMinute", "()V"⟩
abbrev cX0_leaveThoseWhoStayed : ByteArray := prog_2_method_9_code
def yX0_leaveThoseWhoStayed : MethodName := ⟨RX0, "leaveThoseWhoStayed", "()V"⟩
abbrev cX0_letInThrough : ByteArray := prog_2_method_10_code
def yX0_letInThrough : MethodName := ⟨RX0, "letInThrough", "(I)V"⟩
abbrev cX0_waitOnAt : ByteArray := prog_2_method_11_code
def yX0_waitOnAt : MethodName := ⟨RX0, "waitOnAt", "(I)V"⟩
abbrev cX0_firstIn : ByteArray := prog_2_method_12_code
def yX0_firstIn : MethodName := ⟨RX0, "firstIn", "(I)I"⟩
abbrev cX0_freePermits : ByteArray := prog_2_method_13_code
def yX0_freePermits : MethodName := ⟨RX0, "freePermits", "(I)I"⟩
abbrev cX0_waitsAt : ByteArray := prog_2_method_14_code
def yX0_waitsAt : MethodName := ⟨RX0, "waitsAt", "(II)Z"⟩
abbrev cX0_held : ByteArray := prog_2_method_15_code
def yX0_held : MethodName := ⟨RX0, "held", "(I)I"⟩
abbrev cX0_seeming : ByteArray := prog_2_method_16_code
def yX0_seeming : MethodName := ⟨RX0, "seeming", "(I)I"⟩
abbrev cX0_countAheadOf : ByteArray := prog_2_method_17_code
def yX0_countAheadOf : MethodName := ⟨RX0, "countAheadOf", "(I)I"⟩
abbrev cX0_countWaitingAt : ByteArray := prog_2_method_18_code
def yX0_countWaitingAt : MethodName := ⟨RX0, "countWaitingAt", "(I)I"⟩
abbrev cX0_countInState : ByteArray := prog_2_method_19_code
def yX0_countInState : MethodName := ⟨RX0, "countInState", "(I)I"⟩
abbrev cX0_countStarving : ByteArray := prog_2_method_20_code
def yX0_countStarving : MethodName := ⟨RX0, "countStarving", "()I"⟩
abbrev cX0_givenUpInAll : ByteArray := prog_2_method_21_code
def yX0_givenUpInAll : MethodName := ⟨RX0, "givenUpInAll", "()I"⟩
abbrev cX0_sumOfWaited : ByteArray := prog_2_method_22_code
def yX0_sumOfWaited : MethodName := ⟨RX0, "sumOfWaited", "()I"⟩
def RX1 : String := "GoatTower"
def TX1 : u_T := fun k => match k with
  | 0 => ("GoatTower", "now", "LGoatTower$Scene;", true)
  | _ => ("GoatTower", "ahead", "LGoatTower$Scene;", true)
def tyX1 : Nat → FieldType := fun k => match k with
  | 0 => .object "GoatTower$Scene"
  | _ => .object "GoatTower$Scene"
abbrev wsX10 : List Cond := u_ws RX1 TX1 2
theorem nmX1 : ∀ a, a < 2 → ∀ b, b < 2 → a ≠ b → (TX1 a).2.1 ≠ (TX1 b).2.1 := by decide +kernel
theorem tyX1_ok : ∀ k, k < 2 → parseFieldDescriptor (TX1 k).2.2.1 = some (tyX1 k) := by decide +kernel
abbrev cX1_init : ByteArray := prog_1_method_1_code
def yX1_init : MethodName := ⟨RX1, "<init>", "()V"⟩
abbrev cX1_addGate : ByteArray := prog_1_method_2_code
def yX1_addGate : MethodName := ⟨RX1, "addGate", "(II)I"⟩
abbrev cX1_addGoat : ByteArray := prog_1_method_3_code
def yX1_addGoat : MethodName := ⟨RX1, "addGoat", "(I)I"⟩
abbrev cX1_ask : ByteArray := prog_1_method_4_code
def yX1_ask : MethodName := ⟨RX1, "ask", "(IIIII)I"⟩
abbrev cX1_barge : ByteArray := prog_1_method_5_code
def yX1_barge : MethodName := ⟨RX1, "barge", "(IIII)I"⟩
abbrev cX1_callBack : ByteArray := prog_1_method_6_code
def yX1_callBack : MethodName := ⟨RX1, "callBack", "(I)I"⟩
abbrev cX1_pass : ByteArray := prog_1_method_7_code
def yX1_pass : MethodName := ⟨RX1, "pass", "(I)I"⟩
abbrev cX1_minute : ByteArray := prog_1_method_8_code
def yX1_minute : MethodName := ⟨RX1, "minute", "()I"⟩
abbrev cX1_gates : ByteArray := prog_1_method_9_code
def yX1_gates : MethodName := ⟨RX1, "gates", "()I"⟩
abbrev cX1_goats : ByteArray := prog_1_method_10_code
def yX1_goats : MethodName := ⟨RX1, "goats", "()I"⟩
abbrev cX1_waiting : ByteArray := prog_1_method_11_code
def yX1_waiting : MethodName := ⟨RX1, "waiting", "()I"⟩
abbrev cX1_inside : ByteArray := prog_1_method_12_code
def yX1_inside : MethodName := ⟨RX1, "inside", "()I"⟩
abbrev cX1_starving : ByteArray := prog_1_method_13_code
def yX1_starving : MethodName := ⟨RX1, "starving", "()I"⟩
abbrev cX1_letIn : ByteArray := prog_1_method_14_code
def yX1_letIn : MethodName := ⟨RX1, "letIn", "()I"⟩
abbrev cX1_givenUp : ByteArray := prog_1_method_15_code
def yX1_givenUp : MethodName := ⟨RX1, "givenUp", "()I"⟩
abbrev cX1_permitsOf : ByteArray := prog_1_method_16_code
def yX1_permitsOf : MethodName := ⟨RX1, "permitsOf", "(I)I"⟩
abbrev cX1_freeOf : ByteArray := prog_1_method_17_code
def yX1_freeOf : MethodName := ⟨RX1, "freeOf", "(I)I"⟩
abbrev cX1_waitingAt : ByteArray := prog_1_method_18_code
def yX1_waitingAt : MethodName := ⟨RX1, "waitingAt", "(I)I"⟩
abbrev cX1_nextAt : ByteArray := prog_1_method_19_code
def yX1_nextAt : MethodName := ⟨RX1, "nextAt", "(I)I"⟩
abbrev cX1_stateOf : ByteArray := prog_1_method_20_code
def yX1_stateOf : MethodName := ⟨RX1, "stateOf", "(I)I"⟩
abbrev cX1_gateOf : ByteArray := prog_1_method_21_code
def yX1_gateOf : MethodName := ⟨RX1, "gateOf", "(I)I"⟩
abbrev cX1_holds : ByteArray := prog_1_method_22_code
def yX1_holds : MethodName := ⟨RX1, "holds", "(I)I"⟩
abbrev cX1_seemingHorns : ByteArray := prog_1_method_23_code
def yX1_seemingHorns : MethodName := ⟨RX1, "seemingHorns", "(I)I"⟩
abbrev cX1_minutesLeft : ByteArray := prog_1_method_24_code
def yX1_minutesLeft : MethodName := ⟨RX1, "minutesLeft", "(I)I"⟩
abbrev cX1_waitedOf : ByteArray := prog_1_method_25_code
def yX1_waitedOf : MethodName := ⟨RX1, "waitedOf", "(I)I"⟩
abbrev cX1_placeInLine : ByteArray := prog_1_method_26_code
def yX1_placeInLine : MethodName := ⟨RX1, "placeInLine", "(I)I"⟩
abbrev cX1_minutesUntilIn : ByteArray := prog_1_method_27_code
def yX1_minutesUntilIn : MethodName := ⟨RX1, "minutesUntilIn", "(I)I"⟩
abbrev cX1_givingUpIn : ByteArray := prog_1_method_28_code
def yX1_givingUpIn : MethodName := ⟨RX1, "givingUpIn", "(I)I"⟩
abbrev cX1_permitsWanted : ByteArray := prog_1_method_29_code
def yX1_permitsWanted : MethodName := ⟨RX1, "permitsWanted", "(I)I"⟩
abbrev cX1_bestOrder : ByteArray := prog_1_method_30_code
def yX1_bestOrder : MethodName := ⟨RX1, "bestOrder", "(I)I"⟩
abbrev cX1_meanWaited : ByteArray := prog_1_method_31_code
def yX1_meanWaited : MethodName := ⟨RX1, "meanWaited", "()D"⟩
abbrev cX1_digest : ByteArray := prog_1_method_32_code
def yX1_digest : MethodName := ⟨RX1, "digest", "()J"⟩
abbrev cX1_givingUpWith : ByteArray := prog_1_method_33_code
def yX1_givingUpWith : MethodName := ⟨RX1, "givingUpWith", "(III)I"⟩
abbrev cX1_checkGate : ByteArray := prog_1_method_34_code
def yX1_checkGate : MethodName := ⟨RX1, "checkGate", "(I)V"⟩
abbrev cX1_checkGoat : ByteArray := prog_1_method_35_code
def yX1_checkGoat : MethodName := ⟨RX1, "checkGoat", "(I)V"⟩
abbrev cX1_checkIdle : ByteArray := prog_1_method_36_code
def yX1_checkIdle : MethodName := ⟨RX1, "checkIdle", "(I)V"⟩
abbrev cX1_checkNumber : ByteArray := prog_1_method_37_code
def yX1_checkNumber : MethodName := ⟨RX1, "checkNumber", "(II)V"⟩
def RX2 : String := "GoatTowerLaw$Sim"
def TX2 : u_T := fun k => match k with
  | 0 => ("GoatTowerLaw$Sim", "minute", "I", false)
  | 1 => ("GoatTowerLaw$Sim", "letIn", "I", false)
  | 2 => ("GoatTowerLaw$Sim", "given", "I", false)
  | 3 => ("GoatTowerLaw$Sim", "gates", "[[I", false)
  | 4 => ("GoatTowerLaw$Sim", "goats", "[[I", false)
  | _ => ("GoatTowerLaw$Sim", "lines", "[[I", false)
def tyX2 : Nat → FieldType := fun k => match k with
  | 0 => .int
  | 1 => .int
  | 2 => .int
  | 3 => .array (.array .int)
  | 4 => .array (.array .int)
  | _ => .array (.array .int)
abbrev wsX20 : List Cond := u_ws RX2 TX2 6
theorem nmX2 : ∀ a, a < 6 → ∀ b, b < 6 → a ≠ b → (TX2 a).2.1 ≠ (TX2 b).2.1 := by decide +kernel
theorem tyX2_ok : ∀ k, k < 6 → parseFieldDescriptor (TX2 k).2.2.1 = some (tyX2 k) := by decide +kernel
abbrev cX2_init : ByteArray := prog_4_method_1_code
def yX2_init : MethodName := ⟨RX2, "<init>", "()V"⟩
abbrev cX2_with : ByteArray := prog_4_method_2_code
def yX2_with : MethodName := ⟨RX2, "with", "([[I[I)[[I"⟩
abbrev cX2_with_ : ByteArray := prog_4_method_3_code
def yX2_with_ : MethodName := ⟨RX2, "with", "([II)[I"⟩
abbrev cX2_without : ByteArray := prog_4_method_4_code
def yX2_without : MethodName := ⟨RX2, "without", "([II)[I"⟩
abbrev cX2_copy : ByteArray := prog_4_method_5_code
def yX2_copy : MethodName := ⟨RX2, "copy", "()LGoatTowerLaw$Sim;"⟩
abbrev cX2_free : ByteArray := prog_4_method_6_code
def yX2_free : MethodName := ⟨RX2, "free", "(I)I"⟩
abbrev cX2_seem : ByteArray := prog_4_method_7_code
def yX2_seem : MethodName := ⟨RX2, "seem", "(I)I"⟩
abbrev cX2_next : ByteArray := prog_4_method_8_code
def yX2_next : MethodName := ⟨RX2, "next", "(I)I"⟩
abbrev cX2_place : ByteArray := prog_4_method_9_code
def yX2_place : MethodName := ⟨RX2, "place", "(I)I"⟩
abbrev cX2_ask : ByteArray := prog_4_method_10_code
def yX2_ask : MethodName := ⟨RX2, "ask", "(IIIII)V"⟩
abbrev cX2_callBack : ByteArray := prog_4_method_11_code
def yX2_callBack : MethodName := ⟨RX2, "callBack", "(I)I"⟩
abbrev cX2_pass : ByteArray := prog_4_method_12_code
def yX2_pass : MethodName := ⟨RX2, "pass", "()I"⟩
abbrev cX2_pass_ : ByteArray := prog_4_method_13_code
def yX2_pass_ : MethodName := ⟨RX2, "pass", "(I)I"⟩
abbrev cX2_until : ByteArray := prog_4_method_14_code
def yX2_until : MethodName := ⟨RX2, "until", "(I)I"⟩
abbrev cX2_lost : ByteArray := prog_4_method_15_code
def yX2_lost : MethodName := ⟨RX2, "lost", "(III)I"⟩
abbrev cX2_many : ByteArray := prog_4_method_16_code
def yX2_many : MethodName := ⟨RX2, "many", "(I)I"⟩
abbrev cX2_isSame : ByteArray := prog_4_method_17_code
def yX2_isSame : MethodName := ⟨RX2, "isSame", "(LGoatTower;)Z"⟩
def RX3 : String := "GoatTowerModel"
def TX3 : u_T := fun k => match k with
  | _ => ("", "", "", false)
def tyX3 : Nat → FieldType := fun k => match k with
  | _ => .int
abbrev wsX30 : List Cond := u_ws RX3 TX3 0
theorem nmX3 : ∀ a, a < 0 → ∀ b, b < 0 → a ≠ b → (TX3 a).2.1 ≠ (TX3 b).2.1 := by decide +kernel
theorem tyX3_ok : ∀ k, k < 0 → parseFieldDescriptor (TX3 k).2.2.1 = some (tyX3 k) := by decide +kernel
def RJx8e188 : String := "java/lang/Cloneable"
def TJx8e188 : u_T := fun k => match k with
  | _ => ("", "", "", false)
def tyJx8e188 : Nat → FieldType := fun k => match k with
  | _ => .int
abbrev wsJx8e1880 : List Cond := u_ws RJx8e188 TJx8e188 0
theorem nmJx8e188 : ∀ a, a < 0 → ∀ b, b < 0 → a ≠ b → (TJx8e188 a).2.1 ≠ (TJx8e188 b).2.1 := by decide +kernel
theorem tyJx8e188_ok : ∀ k, k < 0 → parseFieldDescriptor (TJx8e188 k).2.2.1 = some (tyJx8e188 k) := by decide +kernel
def RJ0 : String := "java/lang/String"
def TJ0 : u_T := fun k => match k with
  | _ => ("", "", "", false)
def tyJ0 : Nat → FieldType := fun k => match k with
  | _ => .int
abbrev wsJ00 : List Cond := u_ws RJ0 TJ0 0
theorem nmJ0 : ∀ a, a < 0 → ∀ b, b < 0 → a ≠ b → (TJ0 a).2.1 ≠ (TJ0 b).2.1 := by decide +kernel
theorem tyJ0_ok : ∀ k, k < 0 → parseFieldDescriptor (TJ0 k).2.2.1 = some (tyJ0 k) := by decide +kernel
def RL : String := "GoatTowerLaw"
abbrev cL_below : ByteArray := method_2_code
def yL_below : MethodName := ⟨RL, "below", "(II)I"⟩
abbrev cL_cell : ByteArray := method_3_code
def yL_cell : MethodName := ⟨RL, "cell", "([II)I"⟩
abbrev cL_act : ByteArray := method_4_code
def yL_act : MethodName := ⟨RL, "act", "(LGoatTower;LGoatTowerLaw$Sim;I)Z"⟩
abbrev cL_build : ByteArray := method_5_code
def yL_build : MethodName := ⟨RL, "build", "(LGoatTower;[I)LGoatTowerLaw$Sim;"⟩
abbrev cL_law : ByteArray := code
def yL_law : MethodName := ⟨RL, "law", "([I)Z"⟩
def wsX0_init : List Cond := .code yX0_init cX0_init 1 none :: ([.methodLink RX0 3 objectInit, .instanceMethod objectInit, .code objectInit ⟨#[0xb1]⟩ 1 none, .arrayClass .int, .fieldLink RX0 9 "GoatTower$Scene" "permits" "[I", .fieldLink RX0 15 "GoatTower$Scene" "order" "[I", .fieldLink RX0 18 "GoatTower$Scene" "givenUpAt" "[I", .fieldLink RX0 21 "GoatTower$Scene" "horns" "[I", .fieldLink RX0 24 "GoatTower$Scene" "state" "[I", .fieldLink RX0 27 "GoatTower$Scene" "gate" "[I", .fieldLink RX0 30 "GoatTower$Scene" "many" "[I", .fieldLink RX0 33 "GoatTower$Scene" "stay" "[I", .fieldLink RX0 36 "GoatTower$Scene" "left" "[I", .fieldLink RX0 39 "GoatTower$Scene" "askedAs" "[I", .fieldLink RX0 42 "GoatTower$Scene" "waitedForThis" "[I", .fieldLink RX0 45 "GoatTower$Scene" "waitedInAll" "[I"] ++ wsX00)
def wsX0_become : List Cond := .code yX0_become cX0_become 3 none :: ([.fieldLink RX0 48 "GoatTower$Scene" "minute" "I", .fieldLink RX0 52 "GoatTower$Scene" "gateCount" "I", .fieldLink RX0 55 "GoatTower$Scene" "goatCount" "I", .fieldLink RX0 58 "GoatTower$Scene" "askCount" "I", .fieldLink RX0 61 "GoatTower$Scene" "letInCount" "I", .fieldLink RX0 9 "GoatTower$Scene" "permits" "[I", .fieldLink RX0 15 "GoatTower$Scene" "order" "[I", .fieldLink RX0 18 "GoatTower$Scene" "givenUpAt" "[I", .fieldLink RX0 21 "GoatTower$Scene" "horns" "[I", .fieldLink RX0 24 "GoatTower$Scene" "state" "[I", .fieldLink RX0 27 "GoatTower$Scene" "gate" "[I", .fieldLink RX0 30 "GoatTower$Scene" "many" "[I", .fieldLink RX0 33 "GoatTower$Scene" "stay" "[I", .fieldLink RX0 36 "GoatTower$Scene" "left" "[I", .fieldLink RX0 39 "GoatTower$Scene" "askedAs" "[I", .fieldLink RX0 42 "GoatTower$Scene" "waitedForThis" "[I", .fieldLink RX0 45 "GoatTower$Scene" "waitedInAll" "[I"] ++ wsX00)
def wsX0_openGate : List Cond := .code yX0_openGate cX0_openGate 4 (some .int) :: ([.fieldLink RX0 52 "GoatTower$Scene" "gateCount" "I", .fieldLink RX0 9 "GoatTower$Scene" "permits" "[I", .fieldLink RX0 15 "GoatTower$Scene" "order" "[I"] ++ wsX00)
def wsX0_rest : List Cond := .code yX0_rest cX0_rest 2 none :: ([.fieldLink RX0 24 "GoatTower$Scene" "state" "[I", .fieldLink RX0 27 "GoatTower$Scene" "gate" "[I", .fieldLink RX0 36 "GoatTower$Scene" "left" "[I", .fieldLink RX0 42 "GoatTower$Scene" "waitedForThis" "[I"] ++ wsX00)
def wsX0_bringGoat : List Cond := .code yX0_bringGoat cX0_bringGoat 3 (some .int) :: ([.fieldLink RX0 55 "GoatTower$Scene" "goatCount" "I", .fieldLink RX0 21 "GoatTower$Scene" "horns" "[I", .methodLink RX0 64 yX0_rest, .instanceMethod yX0_rest, .selects RX0 yX0_rest yX0_rest, .initialized RX0, .code yX0_rest cX0_rest 2 none, .fieldLink RX0 24 "GoatTower$Scene" "state" "[I", .fieldLink RX0 27 "GoatTower$Scene" "gate" "[I", .fieldLink RX0 36 "GoatTower$Scene" "left" "[I", .fieldLink RX0 42 "GoatTower$Scene" "waitedForThis" "[I"] ++ wsX00)
def wsX0_lineUp : List Cond := .code yX0_lineUp cX0_lineUp 6 none :: ([.fieldLink RX0 24 "GoatTower$Scene" "state" "[I", .fieldLink RX0 27 "GoatTower$Scene" "gate" "[I", .fieldLink RX0 30 "GoatTower$Scene" "many" "[I", .fieldLink RX0 33 "GoatTower$Scene" "stay" "[I", .fieldLink RX0 36 "GoatTower$Scene" "left" "[I", .fieldLink RX0 39 "GoatTower$Scene" "askedAs" "[I", .fieldLink RX0 58 "GoatTower$Scene" "askCount" "I"] ++ wsX00)
def wsX0_enter : List Cond := .code yX0_enter cX0_enter 5 none :: ([.fieldLink RX0 24 "GoatTower$Scene" "state" "[I", .fieldLink RX0 27 "GoatTower$Scene" "gate" "[I", .fieldLink RX0 30 "GoatTower$Scene" "many" "[I", .fieldLink RX0 36 "GoatTower$Scene" "left" "[I", .fieldLink RX0 42 "GoatTower$Scene" "waitedForThis" "[I"] ++ wsX00)
def wsX0_leaveThoseWhoStayed : List Cond := .code yX0_leaveThoseWhoStayed cX0_leaveThoseWhoStayed 2 none :: ([.fieldLink RX0 55 "GoatTower$Scene" "goatCount" "I", .fieldLink RX0 24 "GoatTower$Scene" "state" "[I", .fieldLink RX0 36 "GoatTower$Scene" "left" "[I", .methodLink RX0 64 yX0_rest, .instanceMethod yX0_rest, .selects RX0 yX0_rest yX0_rest, .initialized RX0, .code yX0_rest cX0_rest 2 none, .fieldLink RX0 27 "GoatTower$Scene" "gate" "[I", .fieldLink RX0 42 "GoatTower$Scene" "waitedForThis" "[I"] ++ wsX00)
def wsX0_freePermits : List Cond := .code yX0_freePermits cX0_freePermits 4 (some .int) :: ([.fieldLink RX0 9 "GoatTower$Scene" "permits" "[I", .fieldLink RX0 55 "GoatTower$Scene" "goatCount" "I", .fieldLink RX0 24 "GoatTower$Scene" "state" "[I", .fieldLink RX0 27 "GoatTower$Scene" "gate" "[I", .fieldLink RX0 30 "GoatTower$Scene" "many" "[I"] ++ wsX00)
def wsX0_waitsAt : List Cond := .code yX0_waitsAt cX0_waitsAt 3 (some .boolean) :: ([.fieldLink RX0 24 "GoatTower$Scene" "state" "[I", .fieldLink RX0 27 "GoatTower$Scene" "gate" "[I"] ++ wsX00)
def wsX0_seeming : List Cond := .code yX0_seeming cX0_seeming 2 (some .int) :: ([.fieldLink RX0 21 "GoatTower$Scene" "horns" "[I", .fieldLink RX0 42 "GoatTower$Scene" "waitedForThis" "[I"] ++ wsX00)
def wsX0_firstIn : List Cond := .code yX0_firstIn cX0_firstIn 10 (some .int) :: ([.fieldLink RX0 15 "GoatTower$Scene" "order" "[I", .fieldLink RX0 55 "GoatTower$Scene" "goatCount" "I", .fieldLink RX0 30 "GoatTower$Scene" "many" "[I", .fieldLink RX0 39 "GoatTower$Scene" "askedAs" "[I", .methodLink RX0 89 yX0_freePermits, .instanceMethod yX0_freePermits, .selects RX0 yX0_freePermits yX0_freePermits, .initialized RX0, .code yX0_freePermits cX0_freePermits 4 (some .int), .fieldLink RX0 9 "GoatTower$Scene" "permits" "[I", .fieldLink RX0 24 "GoatTower$Scene" "state" "[I", .fieldLink RX0 27 "GoatTower$Scene" "gate" "[I", .methodLink RX0 85 yX0_waitsAt, .instanceMethod yX0_waitsAt, .selects RX0 yX0_waitsAt yX0_waitsAt, .code yX0_waitsAt cX0_waitsAt 3 (some .boolean), .methodLink RX0 92 yX0_seeming, .instanceMethod yX0_seeming, .selects RX0 yX0_seeming yX0_seeming, .code yX0_seeming cX0_seeming 2 (some .int), .fieldLink RX0 21 "GoatTower$Scene" "horns" "[I", .fieldLink RX0 42 "GoatTower$Scene" "waitedForThis" "[I"] ++ wsX00)
def wsX0_letInThrough_r1 : List Cond := [Cond.fieldLink RX0 55 "GoatTower$Scene" "goatCount" "I", Cond.fieldLink RX0 30 "GoatTower$Scene" "many" "[I", Cond.fieldLink RX0 33 "GoatTower$Scene" "stay" "[I", Cond.fieldLink RX0 61 "GoatTower$Scene" "letInCount" "I", Cond.methodLink RX0 77 yX0_firstIn, Cond.instanceMethod yX0_firstIn, Cond.selects RX0 yX0_firstIn yX0_firstIn, Cond.initialized RX0, Cond.code yX0_firstIn cX0_firstIn 10 (some .int), Cond.fieldLink RX0 15 "GoatTower$Scene" "order" "[I", Cond.fieldLink RX0 39 "GoatTower$Scene" "askedAs" "[I", Cond.methodLink RX0 89 yX0_freePermits, Cond.instanceMethod yX0_freePermits, Cond.selects RX0 yX0_freePermits yX0_freePermits, Cond.code yX0_freePermits cX0_freePermits 4 (some .int), Cond.fieldLink RX0 9 "GoatTower$Scene" "permits" "[I", Cond.fieldLink RX0 24 "GoatTower$Scene" "state" "[I", Cond.fieldLink RX0 27 "GoatTower$Scene" "gate" "[I", Cond.methodLink RX0 85 yX0_waitsAt, Cond.instanceMethod yX0_waitsAt, Cond.selects RX0 yX0_waitsAt yX0_waitsAt, Cond.code yX0_waitsAt cX0_waitsAt 3 (some .boolean), Cond.methodLink RX0 92 yX0_seeming, Cond.instanceMethod yX0_seeming]
def wsX0_letInThrough_r2 : List Cond := [Cond.selects RX0 yX0_seeming yX0_seeming, Cond.code yX0_seeming cX0_seeming 2 (some .int), Cond.fieldLink RX0 21 "GoatTower$Scene" "horns" "[I", Cond.fieldLink RX0 42 "GoatTower$Scene" "waitedForThis" "[I", Cond.methodLink RX0 81 yX0_enter, Cond.instanceMethod yX0_enter, Cond.selects RX0 yX0_enter yX0_enter, Cond.code yX0_enter cX0_enter 5 none, Cond.fieldLink RX0 36 "GoatTower$Scene" "left" "[I"]
def wsX0_letInThrough : List Cond := .code yX0_letInThrough cX0_letInThrough 4 none :: ((wsX0_letInThrough_r1 ++ wsX0_letInThrough_r2) ++ wsX00)
def wsX0_waitOnAt : List Cond := .code yX0_waitOnAt cX0_waitOnAt 3 none :: ([.fieldLink RX0 55 "GoatTower$Scene" "goatCount" "I", .fieldLink RX0 42 "GoatTower$Scene" "waitedForThis" "[I", .fieldLink RX0 45 "GoatTower$Scene" "waitedInAll" "[I", .fieldLink RX0 36 "GoatTower$Scene" "left" "[I", .fieldLink RX0 18 "GoatTower$Scene" "givenUpAt" "[I", .methodLink RX0 85 yX0_waitsAt, .instanceMethod yX0_waitsAt, .selects RX0 yX0_waitsAt yX0_waitsAt, .initialized RX0, .code yX0_waitsAt cX0_waitsAt 3 (some .boolean), .fieldLink RX0 24 "GoatTower$Scene" "state" "[I", .fieldLink RX0 27 "GoatTower$Scene" "gate" "[I", .methodLink RX0 64 yX0_rest, .instanceMethod yX0_rest, .selects RX0 yX0_rest yX0_rest, .code yX0_rest cX0_rest 2 none] ++ wsX00)
def wsX0_liveAMinute_r1 : List Cond := [Cond.fieldLink RX0 52 "GoatTower$Scene" "gateCount" "I", Cond.fieldLink RX0 48 "GoatTower$Scene" "minute" "I", Cond.methodLink RX0 68 yX0_leaveThoseWhoStayed, Cond.instanceMethod yX0_leaveThoseWhoStayed, Cond.selects RX0 yX0_leaveThoseWhoStayed yX0_leaveThoseWhoStayed, Cond.initialized RX0, Cond.code yX0_leaveThoseWhoStayed cX0_leaveThoseWhoStayed 2 none, Cond.fieldLink RX0 55 "GoatTower$Scene" "goatCount" "I", Cond.fieldLink RX0 24 "GoatTower$Scene" "state" "[I", Cond.fieldLink RX0 36 "GoatTower$Scene" "left" "[I", Cond.methodLink RX0 64 yX0_rest, Cond.instanceMethod yX0_rest, Cond.selects RX0 yX0_rest yX0_rest, Cond.code yX0_rest cX0_rest 2 none, Cond.fieldLink RX0 27 "GoatTower$Scene" "gate" "[I", Cond.fieldLink RX0 42 "GoatTower$Scene" "waitedForThis" "[I", Cond.methodLink RX0 71 yX0_letInThrough, Cond.instanceMethod yX0_letInThrough, Cond.selects RX0 yX0_letInThrough yX0_letInThrough, Cond.code yX0_letInThrough cX0_letInThrough 4 none, Cond.fieldLink RX0 30 "GoatTower$Scene" "many" "[I", Cond.fieldLink RX0 33 "GoatTower$Scene" "stay" "[I", Cond.fieldLink RX0 61 "GoatTower$Scene" "letInCount" "I", Cond.methodLink RX0 77 yX0_firstIn]
def wsX0_liveAMinute_r2 : List Cond := [Cond.instanceMethod yX0_firstIn, Cond.selects RX0 yX0_firstIn yX0_firstIn, Cond.code yX0_firstIn cX0_firstIn 10 (some .int), Cond.fieldLink RX0 15 "GoatTower$Scene" "order" "[I", Cond.fieldLink RX0 39 "GoatTower$Scene" "askedAs" "[I", Cond.methodLink RX0 89 yX0_freePermits, Cond.instanceMethod yX0_freePermits, Cond.selects RX0 yX0_freePermits yX0_freePermits, Cond.code yX0_freePermits cX0_freePermits 4 (some .int), Cond.fieldLink RX0 9 "GoatTower$Scene" "permits" "[I", Cond.methodLink RX0 85 yX0_waitsAt, Cond.instanceMethod yX0_waitsAt, Cond.selects RX0 yX0_waitsAt yX0_waitsAt, Cond.code yX0_waitsAt cX0_waitsAt 3 (some .boolean), Cond.methodLink RX0 92 yX0_seeming, Cond.instanceMethod yX0_seeming, Cond.selects RX0 yX0_seeming yX0_seeming, Cond.code yX0_seeming cX0_seeming 2 (some .int), Cond.fieldLink RX0 21 "GoatTower$Scene" "horns" "[I", Cond.methodLink RX0 81 yX0_enter, Cond.instanceMethod yX0_enter, Cond.selects RX0 yX0_enter yX0_enter, Cond.code yX0_enter cX0_enter 5 none, Cond.methodLink RX0 74 yX0_waitOnAt]
def wsX0_liveAMinute_r3 : List Cond := [Cond.instanceMethod yX0_waitOnAt, Cond.selects RX0 yX0_waitOnAt yX0_waitOnAt, Cond.code yX0_waitOnAt cX0_waitOnAt 3 none, Cond.fieldLink RX0 45 "GoatTower$Scene" "waitedInAll" "[I", Cond.fieldLink RX0 18 "GoatTower$Scene" "givenUpAt" "[I"]
def wsX0_liveAMinute : List Cond := .code yX0_liveAMinute cX0_liveAMinute 2 none :: ((wsX0_liveAMinute_r1 ++ (wsX0_liveAMinute_r2 ++ wsX0_liveAMinute_r3)) ++ wsX00)
def wsX0_held : List Cond := .code yX0_held cX0_held 2 (some .int) :: ([.fieldLink RX0 24 "GoatTower$Scene" "state" "[I", .fieldLink RX0 30 "GoatTower$Scene" "many" "[I"] ++ wsX00)
def wsX0_countAheadOf : List Cond := .code yX0_countAheadOf cX0_countAheadOf 4 (some .int) :: ([.fieldLink RX0 55 "GoatTower$Scene" "goatCount" "I", .fieldLink RX0 27 "GoatTower$Scene" "gate" "[I", .fieldLink RX0 39 "GoatTower$Scene" "askedAs" "[I", .methodLink RX0 85 yX0_waitsAt, .instanceMethod yX0_waitsAt, .selects RX0 yX0_waitsAt yX0_waitsAt, .initialized RX0, .code yX0_waitsAt cX0_waitsAt 3 (some .boolean), .fieldLink RX0 24 "GoatTower$Scene" "state" "[I"] ++ wsX00)
def wsX0_countWaitingAt : List Cond := .code yX0_countWaitingAt cX0_countWaitingAt 4 (some .int) :: ([.fieldLink RX0 55 "GoatTower$Scene" "goatCount" "I", .methodLink RX0 85 yX0_waitsAt, .instanceMethod yX0_waitsAt, .selects RX0 yX0_waitsAt yX0_waitsAt, .initialized RX0, .code yX0_waitsAt cX0_waitsAt 3 (some .boolean), .fieldLink RX0 24 "GoatTower$Scene" "state" "[I", .fieldLink RX0 27 "GoatTower$Scene" "gate" "[I"] ++ wsX00)
def wsX0_countInState : List Cond := .code yX0_countInState cX0_countInState 4 (some .int) :: ([.fieldLink RX0 55 "GoatTower$Scene" "goatCount" "I", .fieldLink RX0 24 "GoatTower$Scene" "state" "[I"] ++ wsX00)
def wsX0_countStarving : List Cond := .code yX0_countStarving cX0_countStarving 3 (some .int) :: ([.fieldLink RX0 55 "GoatTower$Scene" "goatCount" "I", .fieldLink RX0 24 "GoatTower$Scene" "state" "[I", .fieldLink RX0 42 "GoatTower$Scene" "waitedForThis" "[I"] ++ wsX00)
def wsX0_givenUpInAll : List Cond := .code yX0_givenUpInAll cX0_givenUpInAll 3 (some .int) :: ([.fieldLink RX0 52 "GoatTower$Scene" "gateCount" "I", .fieldLink RX0 18 "GoatTower$Scene" "givenUpAt" "[I"] ++ wsX00)
def wsX0_sumOfWaited : List Cond := .code yX0_sumOfWaited cX0_sumOfWaited 3 (some .int) :: ([.fieldLink RX0 55 "GoatTower$Scene" "goatCount" "I", .fieldLink RX0 45 "GoatTower$Scene" "waitedInAll" "[I"] ++ wsX00)
def wsX1_init : List Cond := .code yX1_init cX1_init 1 none :: ([.methodLink RX1 1 objectInit, .instanceMethod objectInit, .code objectInit ⟨#[0xb1]⟩ 1 none, .classLink RX1 7 RX0, .instantiable RX0 17, .initialized RX0, .fieldLink RX1 10 "GoatTower" "now" "LGoatTower$Scene;", .fieldLink RX1 16 "GoatTower" "ahead" "LGoatTower$Scene;", .instanceMethod yX0_init, .code yX0_init cX0_init 1 none, .methodLink RX0 3 objectInit, .arrayClass .int, .fieldLink RX0 9 "GoatTower$Scene" "permits" "[I", .fieldLink RX0 15 "GoatTower$Scene" "order" "[I", .fieldLink RX0 18 "GoatTower$Scene" "givenUpAt" "[I", .fieldLink RX0 21 "GoatTower$Scene" "horns" "[I", .fieldLink RX0 24 "GoatTower$Scene" "state" "[I", .fieldLink RX0 27 "GoatTower$Scene" "gate" "[I", .fieldLink RX0 30 "GoatTower$Scene" "many" "[I", .fieldLink RX0 33 "GoatTower$Scene" "stay" "[I", .fieldLink RX0 36 "GoatTower$Scene" "left" "[I", .fieldLink RX0 39 "GoatTower$Scene" "askedAs" "[I", .fieldLink RX0 42 "GoatTower$Scene" "waitedForThis" "[I", .fieldLink RX0 45 "GoatTower$Scene" "waitedInAll" "[I"] ++ wsX00 ++ wsX10)
def wsX1_checkNumber : List Cond := .code yX1_checkNumber cX1_checkNumber 2 none :: ([.classLink RX1 23 "java/lang/IllegalArgumentException", .initialized "java/lang/IllegalArgumentException"] ++ (vx_atS RX1 27 "java/lang/IllegalArgumentException" ["java/lang/RuntimeException", "java/lang/Exception"]).filter goodWord)
def wsX1_addGate : List Cond := .code yX1_addGate cX1_addGate 3 (some .int) :: ([.classLink RX1 23 "java/lang/IllegalArgumentException", .initialized "java/lang/IllegalArgumentException", .classLink RX1 34 "java/lang/IllegalStateException", .initialized "java/lang/IllegalStateException", .fieldLink RX1 10 "GoatTower" "now" "LGoatTower$Scene;", .fieldLink RX1 30 "GoatTower$Scene" "gateCount" "I", .methodLink RX1 19 yX1_checkNumber, .static yX1_checkNumber, .initialized RX1, .code yX1_checkNumber cX1_checkNumber 2 none, .methodLink RX1 39 yX0_openGate, .instanceMethod yX0_openGate, .selects RX0 yX0_openGate yX0_openGate, .initialized RX0, .code yX0_openGate cX0_openGate 4 (some .int), .fieldLink RX0 52 "GoatTower$Scene" "gateCount" "I", .fieldLink RX0 9 "GoatTower$Scene" "permits" "[I", .fieldLink RX0 15 "GoatTower$Scene" "order" "[I"] ++ wsX10 ++ wsX00 ++ (vx_atS RX1 27 "java/lang/IllegalArgumentException" ["java/lang/RuntimeException", "java/lang/Exception"]).filter goodWord ++ (vx_atS RX1 38 "java/lang/IllegalStateException" ["java/lang/RuntimeException", "java/lang/Exception"]).filter goodWord)
def wsX1_addGoat_r1 : List Cond := [Cond.classLink RX1 34 "java/lang/IllegalStateException", Cond.initialized "java/lang/IllegalStateException", Cond.fieldLink RX1 10 "GoatTower" "now" "LGoatTower$Scene;", Cond.fieldLink RX1 43 "GoatTower$Scene" "goatCount" "I", Cond.methodLink RX1 19 yX1_checkNumber, Cond.static yX1_checkNumber, Cond.initialized RX1, Cond.code yX1_checkNumber cX1_checkNumber 2 none, Cond.classLink RX1 23 "java/lang/IllegalArgumentException", Cond.initialized "java/lang/IllegalArgumentException", Cond.methodLink RX1 48 yX0_bringGoat, Cond.instanceMethod yX0_bringGoat, Cond.selects RX0 yX0_bringGoat yX0_bringGoat, Cond.initialized RX0, Cond.code yX0_bringGoat cX0_bringGoat 3 (some .int), Cond.fieldLink RX0 55 "GoatTower$Scene" "goatCount" "I", Cond.fieldLink RX0 21 "GoatTower$Scene" "horns" "[I", Cond.methodLink RX0 64 yX0_rest, Cond.instanceMethod yX0_rest, Cond.selects RX0 yX0_rest yX0_rest, Cond.code yX0_rest cX0_rest 2 none, Cond.fieldLink RX0 24 "GoatTower$Scene" "state" "[I", Cond.fieldLink RX0 27 "GoatTower$Scene" "gate" "[I", Cond.fieldLink RX0 36 "GoatTower$Scene" "left" "[I"]
def wsX1_addGoat_r2 : List Cond := [Cond.fieldLink RX0 42 "GoatTower$Scene" "waitedForThis" "[I"]
def wsX1_addGoat : List Cond := .code yX1_addGoat cX1_addGoat 2 (some .int) :: ((wsX1_addGoat_r1 ++ wsX1_addGoat_r2) ++ wsX10 ++ wsX00 ++ (vx_atS RX1 38 "java/lang/IllegalStateException" ["java/lang/RuntimeException", "java/lang/Exception"]).filter goodWord ++ (vx_atS RX1 27 "java/lang/IllegalArgumentException" ["java/lang/RuntimeException", "java/lang/Exception"]).filter goodWord)
def wsX1_checkGoat : List Cond := .code yX1_checkGoat cX1_checkGoat 2 none :: ([.classLink RX1 216 "java/lang/IndexOutOfBoundsException", .initialized "java/lang/IndexOutOfBoundsException", .fieldLink RX1 10 "GoatTower" "now" "LGoatTower$Scene;", .fieldLink RX1 43 "GoatTower$Scene" "goatCount" "I"] ++ wsX10 ++ wsX00 ++ (vx_atS RX1 220 "java/lang/IndexOutOfBoundsException" ["java/lang/RuntimeException", "java/lang/Exception"]).filter goodWord)
def wsX1_checkGate : List Cond := .code yX1_checkGate cX1_checkGate 2 none :: ([.classLink RX1 216 "java/lang/IndexOutOfBoundsException", .initialized "java/lang/IndexOutOfBoundsException", .fieldLink RX1 10 "GoatTower" "now" "LGoatTower$Scene;", .fieldLink RX1 30 "GoatTower$Scene" "gateCount" "I"] ++ wsX10 ++ wsX00 ++ (vx_atS RX1 220 "java/lang/IndexOutOfBoundsException" ["java/lang/RuntimeException", "java/lang/Exception"]).filter goodWord)
def wsX1_checkIdle : List Cond := .code yX1_checkIdle cX1_checkIdle 2 none :: ([.classLink RX1 34 "java/lang/IllegalStateException", .initialized "java/lang/IllegalStateException", .fieldLink RX1 10 "GoatTower" "now" "LGoatTower$Scene;", .fieldLink RX1 82 "GoatTower$Scene" "state" "[I"] ++ wsX10 ++ wsX00 ++ (vx_atS RX1 38 "java/lang/IllegalStateException" ["java/lang/RuntimeException", "java/lang/Exception"]).filter goodWord)
def wsX1_ask_r1 : List Cond := [Cond.fieldLink RX1 10 "GoatTower" "now" "LGoatTower$Scene;", Cond.fieldLink RX1 59 "GoatTower$Scene" "permits" "[I", Cond.methodLink RX1 52 yX1_checkGoat, Cond.instanceMethod yX1_checkGoat, Cond.selects RX1 yX1_checkGoat yX1_checkGoat, Cond.initialized RX1, Cond.code yX1_checkGoat cX1_checkGoat 2 none, Cond.classLink RX1 216 "java/lang/IndexOutOfBoundsException", Cond.initialized "java/lang/IndexOutOfBoundsException", Cond.fieldLink RX1 43 "GoatTower$Scene" "goatCount" "I", Cond.methodLink RX1 56 yX1_checkGate, Cond.instanceMethod yX1_checkGate, Cond.selects RX1 yX1_checkGate yX1_checkGate, Cond.code yX1_checkGate cX1_checkGate 2 none, Cond.fieldLink RX1 30 "GoatTower$Scene" "gateCount" "I", Cond.methodLink RX1 19 yX1_checkNumber, Cond.static yX1_checkNumber, Cond.code yX1_checkNumber cX1_checkNumber 2 none, Cond.classLink RX1 23 "java/lang/IllegalArgumentException", Cond.initialized "java/lang/IllegalArgumentException", Cond.methodLink RX1 63 yX1_checkIdle, Cond.instanceMethod yX1_checkIdle, Cond.selects RX1 yX1_checkIdle yX1_checkIdle, Cond.code yX1_checkIdle cX1_checkIdle 2 none]
def wsX1_ask_r2 : List Cond := [Cond.classLink RX1 34 "java/lang/IllegalStateException", Cond.initialized "java/lang/IllegalStateException", Cond.fieldLink RX1 82 "GoatTower$Scene" "state" "[I", Cond.methodLink RX1 66 yX0_lineUp, Cond.instanceMethod yX0_lineUp, Cond.selects RX0 yX0_lineUp yX0_lineUp, Cond.initialized RX0, Cond.code yX0_lineUp cX0_lineUp 6 none, Cond.fieldLink RX0 24 "GoatTower$Scene" "state" "[I", Cond.fieldLink RX0 27 "GoatTower$Scene" "gate" "[I", Cond.fieldLink RX0 30 "GoatTower$Scene" "many" "[I", Cond.fieldLink RX0 33 "GoatTower$Scene" "stay" "[I", Cond.fieldLink RX0 36 "GoatTower$Scene" "left" "[I", Cond.fieldLink RX0 39 "GoatTower$Scene" "askedAs" "[I", Cond.fieldLink RX0 58 "GoatTower$Scene" "askCount" "I", Cond.methodLink RX1 70 yX0_countWaitingAt, Cond.instanceMethod yX0_countWaitingAt, Cond.selects RX0 yX0_countWaitingAt yX0_countWaitingAt, Cond.code yX0_countWaitingAt cX0_countWaitingAt 4 (some .int), Cond.fieldLink RX0 55 "GoatTower$Scene" "goatCount" "I", Cond.methodLink RX0 85 yX0_waitsAt, Cond.instanceMethod yX0_waitsAt, Cond.selects RX0 yX0_waitsAt yX0_waitsAt, Cond.code yX0_waitsAt cX0_waitsAt 3 (some .boolean)]
def wsX1_ask : List Cond := .code yX1_ask cX1_ask 6 (some .int) :: ((wsX1_ask_r1 ++ wsX1_ask_r2) ++ wsX10 ++ wsX00 ++ (vx_atS RX1 220 "java/lang/IndexOutOfBoundsException" ["java/lang/RuntimeException", "java/lang/Exception"]).filter goodWord ++ (vx_atS RX1 27 "java/lang/IllegalArgumentException" ["java/lang/RuntimeException", "java/lang/Exception"]).filter goodWord ++ (vx_atS RX1 38 "java/lang/IllegalStateException" ["java/lang/RuntimeException", "java/lang/Exception"]).filter goodWord)
def wsX1_barge_r1 : List Cond := [Cond.classLink RX1 34 "java/lang/IllegalStateException", Cond.initialized "java/lang/IllegalStateException", Cond.fieldLink RX1 10 "GoatTower" "now" "LGoatTower$Scene;", Cond.fieldLink RX1 59 "GoatTower$Scene" "permits" "[I", Cond.methodLink RX1 52 yX1_checkGoat, Cond.instanceMethod yX1_checkGoat, Cond.selects RX1 yX1_checkGoat yX1_checkGoat, Cond.initialized RX1, Cond.code yX1_checkGoat cX1_checkGoat 2 none, Cond.classLink RX1 216 "java/lang/IndexOutOfBoundsException", Cond.initialized "java/lang/IndexOutOfBoundsException", Cond.fieldLink RX1 43 "GoatTower$Scene" "goatCount" "I", Cond.methodLink RX1 56 yX1_checkGate, Cond.instanceMethod yX1_checkGate, Cond.selects RX1 yX1_checkGate yX1_checkGate, Cond.code yX1_checkGate cX1_checkGate 2 none, Cond.fieldLink RX1 30 "GoatTower$Scene" "gateCount" "I", Cond.methodLink RX1 19 yX1_checkNumber, Cond.static yX1_checkNumber, Cond.code yX1_checkNumber cX1_checkNumber 2 none, Cond.classLink RX1 23 "java/lang/IllegalArgumentException", Cond.initialized "java/lang/IllegalArgumentException", Cond.methodLink RX1 63 yX1_checkIdle, Cond.instanceMethod yX1_checkIdle]
def wsX1_barge_r2 : List Cond := [Cond.selects RX1 yX1_checkIdle yX1_checkIdle, Cond.code yX1_checkIdle cX1_checkIdle 2 none, Cond.fieldLink RX1 82 "GoatTower$Scene" "state" "[I", Cond.methodLink RX1 73 yX0_freePermits, Cond.instanceMethod yX0_freePermits, Cond.selects RX0 yX0_freePermits yX0_freePermits, Cond.initialized RX0, Cond.code yX0_freePermits cX0_freePermits 4 (some .int), Cond.fieldLink RX0 9 "GoatTower$Scene" "permits" "[I", Cond.fieldLink RX0 55 "GoatTower$Scene" "goatCount" "I", Cond.fieldLink RX0 24 "GoatTower$Scene" "state" "[I", Cond.fieldLink RX0 27 "GoatTower$Scene" "gate" "[I", Cond.fieldLink RX0 30 "GoatTower$Scene" "many" "[I", Cond.methodLink RX1 78 yX0_enter, Cond.instanceMethod yX0_enter, Cond.selects RX0 yX0_enter yX0_enter, Cond.code yX0_enter cX0_enter 5 none, Cond.fieldLink RX0 36 "GoatTower$Scene" "left" "[I", Cond.fieldLink RX0 42 "GoatTower$Scene" "waitedForThis" "[I"]
def wsX1_barge : List Cond := .code yX1_barge cX1_barge 5 (some .int) :: ((wsX1_barge_r1 ++ wsX1_barge_r2) ++ wsX10 ++ wsX00 ++ (vx_atS RX1 38 "java/lang/IllegalStateException" ["java/lang/RuntimeException", "java/lang/Exception"]).filter goodWord ++ (vx_atS RX1 220 "java/lang/IndexOutOfBoundsException" ["java/lang/RuntimeException", "java/lang/Exception"]).filter goodWord ++ (vx_atS RX1 27 "java/lang/IllegalArgumentException" ["java/lang/RuntimeException", "java/lang/Exception"]).filter goodWord)
def wsX1_callBack_r1 : List Cond := [Cond.classLink RX1 34 "java/lang/IllegalStateException", Cond.initialized "java/lang/IllegalStateException", Cond.fieldLink RX1 10 "GoatTower" "now" "LGoatTower$Scene;", Cond.fieldLink RX1 82 "GoatTower$Scene" "state" "[I", Cond.methodLink RX1 52 yX1_checkGoat, Cond.instanceMethod yX1_checkGoat, Cond.selects RX1 yX1_checkGoat yX1_checkGoat, Cond.initialized RX1, Cond.code yX1_checkGoat cX1_checkGoat 2 none, Cond.classLink RX1 216 "java/lang/IndexOutOfBoundsException", Cond.initialized "java/lang/IndexOutOfBoundsException", Cond.fieldLink RX1 43 "GoatTower$Scene" "goatCount" "I", Cond.methodLink RX1 87 yX0_held, Cond.instanceMethod yX0_held, Cond.selects RX0 yX0_held yX0_held, Cond.initialized RX0, Cond.code yX0_held cX0_held 2 (some .int), Cond.fieldLink RX0 24 "GoatTower$Scene" "state" "[I", Cond.fieldLink RX0 30 "GoatTower$Scene" "many" "[I", Cond.methodLink RX1 90 yX0_rest, Cond.instanceMethod yX0_rest, Cond.selects RX0 yX0_rest yX0_rest, Cond.code yX0_rest cX0_rest 2 none, Cond.fieldLink RX0 27 "GoatTower$Scene" "gate" "[I"]
def wsX1_callBack_r2 : List Cond := [Cond.fieldLink RX0 36 "GoatTower$Scene" "left" "[I", Cond.fieldLink RX0 42 "GoatTower$Scene" "waitedForThis" "[I"]
def wsX1_callBack : List Cond := .code yX1_callBack cX1_callBack 3 (some .int) :: ((wsX1_callBack_r1 ++ wsX1_callBack_r2) ++ wsX10 ++ wsX00 ++ (vx_atS RX1 38 "java/lang/IllegalStateException" ["java/lang/RuntimeException", "java/lang/Exception"]).filter goodWord ++ (vx_atS RX1 220 "java/lang/IndexOutOfBoundsException" ["java/lang/RuntimeException", "java/lang/Exception"]).filter goodWord)
def wsX1_pass_r1 : List Cond := [Cond.fieldLink RX1 10 "GoatTower" "now" "LGoatTower$Scene;", Cond.fieldLink RX1 93 "GoatTower$Scene" "letInCount" "I", Cond.methodLink RX1 19 yX1_checkNumber, Cond.static yX1_checkNumber, Cond.initialized RX1, Cond.code yX1_checkNumber cX1_checkNumber 2 none, Cond.classLink RX1 23 "java/lang/IllegalArgumentException", Cond.initialized "java/lang/IllegalArgumentException", Cond.methodLink RX1 96 yX0_liveAMinute, Cond.instanceMethod yX0_liveAMinute, Cond.selects RX0 yX0_liveAMinute yX0_liveAMinute, Cond.initialized RX0, Cond.code yX0_liveAMinute cX0_liveAMinute 2 none, Cond.fieldLink RX0 52 "GoatTower$Scene" "gateCount" "I", Cond.fieldLink RX0 48 "GoatTower$Scene" "minute" "I", Cond.methodLink RX0 68 yX0_leaveThoseWhoStayed, Cond.instanceMethod yX0_leaveThoseWhoStayed, Cond.selects RX0 yX0_leaveThoseWhoStayed yX0_leaveThoseWhoStayed, Cond.code yX0_leaveThoseWhoStayed cX0_leaveThoseWhoStayed 2 none, Cond.fieldLink RX0 55 "GoatTower$Scene" "goatCount" "I", Cond.fieldLink RX0 24 "GoatTower$Scene" "state" "[I", Cond.fieldLink RX0 36 "GoatTower$Scene" "left" "[I", Cond.methodLink RX0 64 yX0_rest, Cond.instanceMethod yX0_rest]
def wsX1_pass_r2 : List Cond := [Cond.selects RX0 yX0_rest yX0_rest, Cond.code yX0_rest cX0_rest 2 none, Cond.fieldLink RX0 27 "GoatTower$Scene" "gate" "[I", Cond.fieldLink RX0 42 "GoatTower$Scene" "waitedForThis" "[I", Cond.methodLink RX0 71 yX0_letInThrough, Cond.instanceMethod yX0_letInThrough, Cond.selects RX0 yX0_letInThrough yX0_letInThrough, Cond.code yX0_letInThrough cX0_letInThrough 4 none, Cond.fieldLink RX0 30 "GoatTower$Scene" "many" "[I", Cond.fieldLink RX0 33 "GoatTower$Scene" "stay" "[I", Cond.fieldLink RX0 61 "GoatTower$Scene" "letInCount" "I", Cond.methodLink RX0 77 yX0_firstIn, Cond.instanceMethod yX0_firstIn, Cond.selects RX0 yX0_firstIn yX0_firstIn, Cond.code yX0_firstIn cX0_firstIn 10 (some .int), Cond.fieldLink RX0 15 "GoatTower$Scene" "order" "[I", Cond.fieldLink RX0 39 "GoatTower$Scene" "askedAs" "[I", Cond.methodLink RX0 89 yX0_freePermits, Cond.instanceMethod yX0_freePermits, Cond.selects RX0 yX0_freePermits yX0_freePermits, Cond.code yX0_freePermits cX0_freePermits 4 (some .int), Cond.fieldLink RX0 9 "GoatTower$Scene" "permits" "[I", Cond.methodLink RX0 85 yX0_waitsAt, Cond.instanceMethod yX0_waitsAt]
def wsX1_pass_r3 : List Cond := [Cond.selects RX0 yX0_waitsAt yX0_waitsAt, Cond.code yX0_waitsAt cX0_waitsAt 3 (some .boolean), Cond.methodLink RX0 92 yX0_seeming, Cond.instanceMethod yX0_seeming, Cond.selects RX0 yX0_seeming yX0_seeming, Cond.code yX0_seeming cX0_seeming 2 (some .int), Cond.fieldLink RX0 21 "GoatTower$Scene" "horns" "[I", Cond.methodLink RX0 81 yX0_enter, Cond.instanceMethod yX0_enter, Cond.selects RX0 yX0_enter yX0_enter, Cond.code yX0_enter cX0_enter 5 none, Cond.methodLink RX0 74 yX0_waitOnAt, Cond.instanceMethod yX0_waitOnAt, Cond.selects RX0 yX0_waitOnAt yX0_waitOnAt, Cond.code yX0_waitOnAt cX0_waitOnAt 3 none, Cond.fieldLink RX0 45 "GoatTower$Scene" "waitedInAll" "[I", Cond.fieldLink RX0 18 "GoatTower$Scene" "givenUpAt" "[I"]
def wsX1_pass : List Cond := .code yX1_pass cX1_pass 4 (some .int) :: ((wsX1_pass_r1 ++ (wsX1_pass_r2 ++ wsX1_pass_r3)) ++ wsX10 ++ wsX00 ++ (vx_atS RX1 27 "java/lang/IllegalArgumentException" ["java/lang/RuntimeException", "java/lang/Exception"]).filter goodWord)
def wsX1_minute : List Cond := .code yX1_minute cX1_minute 1 (some .int) :: ([.fieldLink RX1 10 "GoatTower" "now" "LGoatTower$Scene;", .fieldLink RX1 99 "GoatTower$Scene" "minute" "I"] ++ wsX10 ++ wsX00)
def wsX1_gates : List Cond := .code yX1_gates cX1_gates 1 (some .int) :: ([.fieldLink RX1 10 "GoatTower" "now" "LGoatTower$Scene;", .fieldLink RX1 30 "GoatTower$Scene" "gateCount" "I"] ++ wsX10 ++ wsX00)
def wsX1_goats : List Cond := .code yX1_goats cX1_goats 1 (some .int) :: ([.fieldLink RX1 10 "GoatTower" "now" "LGoatTower$Scene;", .fieldLink RX1 43 "GoatTower$Scene" "goatCount" "I"] ++ wsX10 ++ wsX00)
def wsX1_waiting : List Cond := .code yX1_waiting cX1_waiting 1 (some .int) :: ([.fieldLink RX1 10 "GoatTower" "now" "LGoatTower$Scene;", .methodLink RX1 102 yX0_countInState, .instanceMethod yX0_countInState, .selects RX0 yX0_countInState yX0_countInState, .initialized RX0, .code yX0_countInState cX0_countInState 4 (some .int), .fieldLink RX0 55 "GoatTower$Scene" "goatCount" "I", .fieldLink RX0 24 "GoatTower$Scene" "state" "[I"] ++ wsX10 ++ wsX00)
def wsX1_inside : List Cond := .code yX1_inside cX1_inside 1 (some .int) :: ([.fieldLink RX1 10 "GoatTower" "now" "LGoatTower$Scene;", .methodLink RX1 102 yX0_countInState, .instanceMethod yX0_countInState, .selects RX0 yX0_countInState yX0_countInState, .initialized RX0, .code yX0_countInState cX0_countInState 4 (some .int), .fieldLink RX0 55 "GoatTower$Scene" "goatCount" "I", .fieldLink RX0 24 "GoatTower$Scene" "state" "[I"] ++ wsX10 ++ wsX00)
def wsX1_starving : List Cond := .code yX1_starving cX1_starving 1 (some .int) :: ([.fieldLink RX1 10 "GoatTower" "now" "LGoatTower$Scene;", .methodLink RX1 105 yX0_countStarving, .instanceMethod yX0_countStarving, .selects RX0 yX0_countStarving yX0_countStarving, .initialized RX0, .code yX0_countStarving cX0_countStarving 3 (some .int), .fieldLink RX0 55 "GoatTower$Scene" "goatCount" "I", .fieldLink RX0 24 "GoatTower$Scene" "state" "[I", .fieldLink RX0 42 "GoatTower$Scene" "waitedForThis" "[I"] ++ wsX10 ++ wsX00)
def wsX1_letIn : List Cond := .code yX1_letIn cX1_letIn 1 (some .int) :: ([.fieldLink RX1 10 "GoatTower" "now" "LGoatTower$Scene;", .fieldLink RX1 93 "GoatTower$Scene" "letInCount" "I"] ++ wsX10 ++ wsX00)
def wsX1_givenUp : List Cond := .code yX1_givenUp cX1_givenUp 1 (some .int) :: ([.fieldLink RX1 10 "GoatTower" "now" "LGoatTower$Scene;", .methodLink RX1 109 yX0_givenUpInAll, .instanceMethod yX0_givenUpInAll, .selects RX0 yX0_givenUpInAll yX0_givenUpInAll, .initialized RX0, .code yX0_givenUpInAll cX0_givenUpInAll 3 (some .int), .fieldLink RX0 52 "GoatTower$Scene" "gateCount" "I", .fieldLink RX0 18 "GoatTower$Scene" "givenUpAt" "[I"] ++ wsX10 ++ wsX00)
def wsX1_permitsOf : List Cond := .code yX1_permitsOf cX1_permitsOf 2 (some .int) :: ([.fieldLink RX1 10 "GoatTower" "now" "LGoatTower$Scene;", .fieldLink RX1 59 "GoatTower$Scene" "permits" "[I", .methodLink RX1 56 yX1_checkGate, .instanceMethod yX1_checkGate, .selects RX1 yX1_checkGate yX1_checkGate, .initialized RX1, .code yX1_checkGate cX1_checkGate 2 none, .classLink RX1 216 "java/lang/IndexOutOfBoundsException", .initialized "java/lang/IndexOutOfBoundsException", .fieldLink RX1 30 "GoatTower$Scene" "gateCount" "I"] ++ wsX10 ++ wsX00 ++ (vx_atS RX1 220 "java/lang/IndexOutOfBoundsException" ["java/lang/RuntimeException", "java/lang/Exception"]).filter goodWord)
def wsX1_freeOf : List Cond := .code yX1_freeOf cX1_freeOf 2 (some .int) :: ([.fieldLink RX1 10 "GoatTower" "now" "LGoatTower$Scene;", .methodLink RX1 56 yX1_checkGate, .instanceMethod yX1_checkGate, .selects RX1 yX1_checkGate yX1_checkGate, .initialized RX1, .code yX1_checkGate cX1_checkGate 2 none, .classLink RX1 216 "java/lang/IndexOutOfBoundsException", .initialized "java/lang/IndexOutOfBoundsException", .fieldLink RX1 30 "GoatTower$Scene" "gateCount" "I", .methodLink RX1 73 yX0_freePermits, .instanceMethod yX0_freePermits, .selects RX0 yX0_freePermits yX0_freePermits, .initialized RX0, .code yX0_freePermits cX0_freePermits 4 (some .int), .fieldLink RX0 9 "GoatTower$Scene" "permits" "[I", .fieldLink RX0 55 "GoatTower$Scene" "goatCount" "I", .fieldLink RX0 24 "GoatTower$Scene" "state" "[I", .fieldLink RX0 27 "GoatTower$Scene" "gate" "[I", .fieldLink RX0 30 "GoatTower$Scene" "many" "[I"] ++ wsX10 ++ wsX00 ++ (vx_atS RX1 220 "java/lang/IndexOutOfBoundsException" ["java/lang/RuntimeException", "java/lang/Exception"]).filter goodWord)
def wsX1_waitingAt : List Cond := .code yX1_waitingAt cX1_waitingAt 2 (some .int) :: ([.fieldLink RX1 10 "GoatTower" "now" "LGoatTower$Scene;", .methodLink RX1 56 yX1_checkGate, .instanceMethod yX1_checkGate, .selects RX1 yX1_checkGate yX1_checkGate, .initialized RX1, .code yX1_checkGate cX1_checkGate 2 none, .classLink RX1 216 "java/lang/IndexOutOfBoundsException", .initialized "java/lang/IndexOutOfBoundsException", .fieldLink RX1 30 "GoatTower$Scene" "gateCount" "I", .methodLink RX1 70 yX0_countWaitingAt, .instanceMethod yX0_countWaitingAt, .selects RX0 yX0_countWaitingAt yX0_countWaitingAt, .initialized RX0, .code yX0_countWaitingAt cX0_countWaitingAt 4 (some .int), .fieldLink RX0 55 "GoatTower$Scene" "goatCount" "I", .methodLink RX0 85 yX0_waitsAt, .instanceMethod yX0_waitsAt, .selects RX0 yX0_waitsAt yX0_waitsAt, .code yX0_waitsAt cX0_waitsAt 3 (some .boolean), .fieldLink RX0 24 "GoatTower$Scene" "state" "[I", .fieldLink RX0 27 "GoatTower$Scene" "gate" "[I"] ++ wsX10 ++ wsX00 ++ (vx_atS RX1 220 "java/lang/IndexOutOfBoundsException" ["java/lang/RuntimeException", "java/lang/Exception"]).filter goodWord)
def wsX1_nextAt_r1 : List Cond := [Cond.fieldLink RX1 10 "GoatTower" "now" "LGoatTower$Scene;", Cond.methodLink RX1 56 yX1_checkGate, Cond.instanceMethod yX1_checkGate, Cond.selects RX1 yX1_checkGate yX1_checkGate, Cond.initialized RX1, Cond.code yX1_checkGate cX1_checkGate 2 none, Cond.classLink RX1 216 "java/lang/IndexOutOfBoundsException", Cond.initialized "java/lang/IndexOutOfBoundsException", Cond.fieldLink RX1 30 "GoatTower$Scene" "gateCount" "I", Cond.methodLink RX1 112 yX0_firstIn, Cond.instanceMethod yX0_firstIn, Cond.selects RX0 yX0_firstIn yX0_firstIn, Cond.initialized RX0, Cond.code yX0_firstIn cX0_firstIn 10 (some .int), Cond.fieldLink RX0 15 "GoatTower$Scene" "order" "[I", Cond.fieldLink RX0 55 "GoatTower$Scene" "goatCount" "I", Cond.fieldLink RX0 30 "GoatTower$Scene" "many" "[I", Cond.fieldLink RX0 39 "GoatTower$Scene" "askedAs" "[I", Cond.methodLink RX0 89 yX0_freePermits, Cond.instanceMethod yX0_freePermits, Cond.selects RX0 yX0_freePermits yX0_freePermits, Cond.code yX0_freePermits cX0_freePermits 4 (some .int), Cond.fieldLink RX0 9 "GoatTower$Scene" "permits" "[I", Cond.fieldLink RX0 24 "GoatTower$Scene" "state" "[I"]
def wsX1_nextAt_r2 : List Cond := [Cond.fieldLink RX0 27 "GoatTower$Scene" "gate" "[I", Cond.methodLink RX0 85 yX0_waitsAt, Cond.instanceMethod yX0_waitsAt, Cond.selects RX0 yX0_waitsAt yX0_waitsAt, Cond.code yX0_waitsAt cX0_waitsAt 3 (some .boolean), Cond.methodLink RX0 92 yX0_seeming, Cond.instanceMethod yX0_seeming, Cond.selects RX0 yX0_seeming yX0_seeming, Cond.code yX0_seeming cX0_seeming 2 (some .int), Cond.fieldLink RX0 21 "GoatTower$Scene" "horns" "[I", Cond.fieldLink RX0 42 "GoatTower$Scene" "waitedForThis" "[I"]
def wsX1_nextAt : List Cond := .code yX1_nextAt cX1_nextAt 2 (some .int) :: ((wsX1_nextAt_r1 ++ wsX1_nextAt_r2) ++ wsX10 ++ wsX00 ++ (vx_atS RX1 220 "java/lang/IndexOutOfBoundsException" ["java/lang/RuntimeException", "java/lang/Exception"]).filter goodWord)
def wsX1_stateOf : List Cond := .code yX1_stateOf cX1_stateOf 2 (some .int) :: ([.fieldLink RX1 10 "GoatTower" "now" "LGoatTower$Scene;", .fieldLink RX1 82 "GoatTower$Scene" "state" "[I", .methodLink RX1 52 yX1_checkGoat, .instanceMethod yX1_checkGoat, .selects RX1 yX1_checkGoat yX1_checkGoat, .initialized RX1, .code yX1_checkGoat cX1_checkGoat 2 none, .classLink RX1 216 "java/lang/IndexOutOfBoundsException", .initialized "java/lang/IndexOutOfBoundsException", .fieldLink RX1 43 "GoatTower$Scene" "goatCount" "I"] ++ wsX10 ++ wsX00 ++ (vx_atS RX1 220 "java/lang/IndexOutOfBoundsException" ["java/lang/RuntimeException", "java/lang/Exception"]).filter goodWord)
def wsX1_gateOf : List Cond := .code yX1_gateOf cX1_gateOf 2 (some .int) :: ([.fieldLink RX1 10 "GoatTower" "now" "LGoatTower$Scene;", .fieldLink RX1 115 "GoatTower$Scene" "gate" "[I", .methodLink RX1 52 yX1_checkGoat, .instanceMethod yX1_checkGoat, .selects RX1 yX1_checkGoat yX1_checkGoat, .initialized RX1, .code yX1_checkGoat cX1_checkGoat 2 none, .classLink RX1 216 "java/lang/IndexOutOfBoundsException", .initialized "java/lang/IndexOutOfBoundsException", .fieldLink RX1 43 "GoatTower$Scene" "goatCount" "I"] ++ wsX10 ++ wsX00 ++ (vx_atS RX1 220 "java/lang/IndexOutOfBoundsException" ["java/lang/RuntimeException", "java/lang/Exception"]).filter goodWord)
def wsX1_holds : List Cond := .code yX1_holds cX1_holds 2 (some .int) :: ([.fieldLink RX1 10 "GoatTower" "now" "LGoatTower$Scene;", .methodLink RX1 52 yX1_checkGoat, .instanceMethod yX1_checkGoat, .selects RX1 yX1_checkGoat yX1_checkGoat, .initialized RX1, .code yX1_checkGoat cX1_checkGoat 2 none, .classLink RX1 216 "java/lang/IndexOutOfBoundsException", .initialized "java/lang/IndexOutOfBoundsException", .fieldLink RX1 43 "GoatTower$Scene" "goatCount" "I", .methodLink RX1 87 yX0_held, .instanceMethod yX0_held, .selects RX0 yX0_held yX0_held, .initialized RX0, .code yX0_held cX0_held 2 (some .int), .fieldLink RX0 24 "GoatTower$Scene" "state" "[I", .fieldLink RX0 30 "GoatTower$Scene" "many" "[I"] ++ wsX10 ++ wsX00 ++ (vx_atS RX1 220 "java/lang/IndexOutOfBoundsException" ["java/lang/RuntimeException", "java/lang/Exception"]).filter goodWord)
def wsX1_seemingHorns : List Cond := .code yX1_seemingHorns cX1_seemingHorns 2 (some .int) :: ([.fieldLink RX1 10 "GoatTower" "now" "LGoatTower$Scene;", .methodLink RX1 52 yX1_checkGoat, .instanceMethod yX1_checkGoat, .selects RX1 yX1_checkGoat yX1_checkGoat, .initialized RX1, .code yX1_checkGoat cX1_checkGoat 2 none, .classLink RX1 216 "java/lang/IndexOutOfBoundsException", .initialized "java/lang/IndexOutOfBoundsException", .fieldLink RX1 43 "GoatTower$Scene" "goatCount" "I", .methodLink RX1 118 yX0_seeming, .instanceMethod yX0_seeming, .selects RX0 yX0_seeming yX0_seeming, .initialized RX0, .code yX0_seeming cX0_seeming 2 (some .int), .fieldLink RX0 21 "GoatTower$Scene" "horns" "[I", .fieldLink RX0 42 "GoatTower$Scene" "waitedForThis" "[I"] ++ wsX10 ++ wsX00 ++ (vx_atS RX1 220 "java/lang/IndexOutOfBoundsException" ["java/lang/RuntimeException", "java/lang/Exception"]).filter goodWord)
def wsX1_minutesLeft : List Cond := .code yX1_minutesLeft cX1_minutesLeft 2 (some .int) :: ([.fieldLink RX1 10 "GoatTower" "now" "LGoatTower$Scene;", .fieldLink RX1 121 "GoatTower$Scene" "left" "[I", .methodLink RX1 52 yX1_checkGoat, .instanceMethod yX1_checkGoat, .selects RX1 yX1_checkGoat yX1_checkGoat, .initialized RX1, .code yX1_checkGoat cX1_checkGoat 2 none, .classLink RX1 216 "java/lang/IndexOutOfBoundsException", .initialized "java/lang/IndexOutOfBoundsException", .fieldLink RX1 43 "GoatTower$Scene" "goatCount" "I"] ++ wsX10 ++ wsX00 ++ (vx_atS RX1 220 "java/lang/IndexOutOfBoundsException" ["java/lang/RuntimeException", "java/lang/Exception"]).filter goodWord)
def wsX1_waitedOf : List Cond := .code yX1_waitedOf cX1_waitedOf 2 (some .int) :: ([.fieldLink RX1 10 "GoatTower" "now" "LGoatTower$Scene;", .fieldLink RX1 124 "GoatTower$Scene" "waitedInAll" "[I", .methodLink RX1 52 yX1_checkGoat, .instanceMethod yX1_checkGoat, .selects RX1 yX1_checkGoat yX1_checkGoat, .initialized RX1, .code yX1_checkGoat cX1_checkGoat 2 none, .classLink RX1 216 "java/lang/IndexOutOfBoundsException", .initialized "java/lang/IndexOutOfBoundsException", .fieldLink RX1 43 "GoatTower$Scene" "goatCount" "I"] ++ wsX10 ++ wsX00 ++ (vx_atS RX1 220 "java/lang/IndexOutOfBoundsException" ["java/lang/RuntimeException", "java/lang/Exception"]).filter goodWord)
def wsX1_placeInLine : List Cond := .code yX1_placeInLine cX1_placeInLine 2 (some .int) :: ([.fieldLink RX1 10 "GoatTower" "now" "LGoatTower$Scene;", .fieldLink RX1 82 "GoatTower$Scene" "state" "[I", .methodLink RX1 52 yX1_checkGoat, .instanceMethod yX1_checkGoat, .selects RX1 yX1_checkGoat yX1_checkGoat, .initialized RX1, .code yX1_checkGoat cX1_checkGoat 2 none, .classLink RX1 216 "java/lang/IndexOutOfBoundsException", .initialized "java/lang/IndexOutOfBoundsException", .fieldLink RX1 43 "GoatTower$Scene" "goatCount" "I", .methodLink RX1 127 yX0_countAheadOf, .instanceMethod yX0_countAheadOf, .selects RX0 yX0_countAheadOf yX0_countAheadOf, .initialized RX0, .code yX0_countAheadOf cX0_countAheadOf 4 (some .int), .fieldLink RX0 55 "GoatTower$Scene" "goatCount" "I", .fieldLink RX0 27 "GoatTower$Scene" "gate" "[I", .fieldLink RX0 39 "GoatTower$Scene" "askedAs" "[I", .methodLink RX0 85 yX0_waitsAt, .instanceMethod yX0_waitsAt, .selects RX0 yX0_waitsAt yX0_waitsAt, .code yX0_waitsAt cX0_waitsAt 3 (some .boolean), .fieldLink RX0 24 "GoatTower$Scene" "state" "[I"] ++ wsX10 ++ wsX00 ++ (vx_atS RX1 220 "java/lang/IndexOutOfBoundsException" ["java/lang/RuntimeException", "java/lang/Exception"]).filter goodWord)
def wsX1_minutesUntilIn_r1 : List Cond := [Cond.fieldLink RX1 16 "GoatTower" "ahead" "LGoatTower$Scene;", Cond.fieldLink RX1 10 "GoatTower" "now" "LGoatTower$Scene;", Cond.fieldLink RX1 82 "GoatTower$Scene" "state" "[I", Cond.methodLink RX1 52 yX1_checkGoat, Cond.instanceMethod yX1_checkGoat, Cond.selects RX1 yX1_checkGoat yX1_checkGoat, Cond.initialized RX1, Cond.code yX1_checkGoat cX1_checkGoat 2 none, Cond.classLink RX1 216 "java/lang/IndexOutOfBoundsException", Cond.initialized "java/lang/IndexOutOfBoundsException", Cond.fieldLink RX1 43 "GoatTower$Scene" "goatCount" "I", Cond.methodLink RX1 130 yX0_become, Cond.instanceMethod yX0_become, Cond.selects RX0 yX0_become yX0_become, Cond.initialized RX0, Cond.code yX0_become cX0_become 3 none, Cond.fieldLink RX0 48 "GoatTower$Scene" "minute" "I", Cond.fieldLink RX0 52 "GoatTower$Scene" "gateCount" "I", Cond.fieldLink RX0 55 "GoatTower$Scene" "goatCount" "I", Cond.fieldLink RX0 58 "GoatTower$Scene" "askCount" "I", Cond.fieldLink RX0 61 "GoatTower$Scene" "letInCount" "I", Cond.fieldLink RX0 9 "GoatTower$Scene" "permits" "[I", Cond.fieldLink RX0 15 "GoatTower$Scene" "order" "[I", Cond.fieldLink RX0 18 "GoatTower$Scene" "givenUpAt" "[I"]
def wsX1_minutesUntilIn_r2 : List Cond := [Cond.fieldLink RX0 21 "GoatTower$Scene" "horns" "[I", Cond.fieldLink RX0 24 "GoatTower$Scene" "state" "[I", Cond.fieldLink RX0 27 "GoatTower$Scene" "gate" "[I", Cond.fieldLink RX0 30 "GoatTower$Scene" "many" "[I", Cond.fieldLink RX0 33 "GoatTower$Scene" "stay" "[I", Cond.fieldLink RX0 36 "GoatTower$Scene" "left" "[I", Cond.fieldLink RX0 39 "GoatTower$Scene" "askedAs" "[I", Cond.fieldLink RX0 42 "GoatTower$Scene" "waitedForThis" "[I", Cond.fieldLink RX0 45 "GoatTower$Scene" "waitedInAll" "[I", Cond.methodLink RX1 96 yX0_liveAMinute, Cond.instanceMethod yX0_liveAMinute, Cond.selects RX0 yX0_liveAMinute yX0_liveAMinute, Cond.code yX0_liveAMinute cX0_liveAMinute 2 none, Cond.methodLink RX0 68 yX0_leaveThoseWhoStayed, Cond.instanceMethod yX0_leaveThoseWhoStayed, Cond.selects RX0 yX0_leaveThoseWhoStayed yX0_leaveThoseWhoStayed, Cond.code yX0_leaveThoseWhoStayed cX0_leaveThoseWhoStayed 2 none, Cond.methodLink RX0 64 yX0_rest, Cond.instanceMethod yX0_rest, Cond.selects RX0 yX0_rest yX0_rest, Cond.code yX0_rest cX0_rest 2 none, Cond.methodLink RX0 71 yX0_letInThrough, Cond.instanceMethod yX0_letInThrough, Cond.selects RX0 yX0_letInThrough yX0_letInThrough]
def wsX1_minutesUntilIn_r3 : List Cond := [Cond.code yX0_letInThrough cX0_letInThrough 4 none, Cond.methodLink RX0 77 yX0_firstIn, Cond.instanceMethod yX0_firstIn, Cond.selects RX0 yX0_firstIn yX0_firstIn, Cond.code yX0_firstIn cX0_firstIn 10 (some .int), Cond.methodLink RX0 89 yX0_freePermits, Cond.instanceMethod yX0_freePermits, Cond.selects RX0 yX0_freePermits yX0_freePermits, Cond.code yX0_freePermits cX0_freePermits 4 (some .int), Cond.methodLink RX0 85 yX0_waitsAt, Cond.instanceMethod yX0_waitsAt, Cond.selects RX0 yX0_waitsAt yX0_waitsAt, Cond.code yX0_waitsAt cX0_waitsAt 3 (some .boolean), Cond.methodLink RX0 92 yX0_seeming, Cond.instanceMethod yX0_seeming, Cond.selects RX0 yX0_seeming yX0_seeming, Cond.code yX0_seeming cX0_seeming 2 (some .int), Cond.methodLink RX0 81 yX0_enter, Cond.instanceMethod yX0_enter, Cond.selects RX0 yX0_enter yX0_enter, Cond.code yX0_enter cX0_enter 5 none, Cond.methodLink RX0 74 yX0_waitOnAt, Cond.instanceMethod yX0_waitOnAt, Cond.selects RX0 yX0_waitOnAt yX0_waitOnAt]
def wsX1_minutesUntilIn_r4 : List Cond := [Cond.code yX0_waitOnAt cX0_waitOnAt 3 none]
def wsX1_minutesUntilIn : List Cond := .code yX1_minutesUntilIn cX1_minutesUntilIn 3 (some .int) :: ((wsX1_minutesUntilIn_r1 ++ (wsX1_minutesUntilIn_r2 ++ (wsX1_minutesUntilIn_r3 ++ wsX1_minutesUntilIn_r4))) ++ wsX10 ++ wsX00 ++ (vx_atS RX1 220 "java/lang/IndexOutOfBoundsException" ["java/lang/RuntimeException", "java/lang/Exception"]).filter goodWord)
def wsX1_givingUpIn_r1 : List Cond := [Cond.fieldLink RX1 16 "GoatTower" "ahead" "LGoatTower$Scene;", Cond.fieldLink RX1 10 "GoatTower" "now" "LGoatTower$Scene;", Cond.methodLink RX1 19 yX1_checkNumber, Cond.static yX1_checkNumber, Cond.initialized RX1, Cond.code yX1_checkNumber cX1_checkNumber 2 none, Cond.classLink RX1 23 "java/lang/IllegalArgumentException", Cond.initialized "java/lang/IllegalArgumentException", Cond.methodLink RX1 130 yX0_become, Cond.instanceMethod yX0_become, Cond.selects RX0 yX0_become yX0_become, Cond.initialized RX0, Cond.code yX0_become cX0_become 3 none, Cond.fieldLink RX0 48 "GoatTower$Scene" "minute" "I", Cond.fieldLink RX0 52 "GoatTower$Scene" "gateCount" "I", Cond.fieldLink RX0 55 "GoatTower$Scene" "goatCount" "I", Cond.fieldLink RX0 58 "GoatTower$Scene" "askCount" "I", Cond.fieldLink RX0 61 "GoatTower$Scene" "letInCount" "I", Cond.fieldLink RX0 9 "GoatTower$Scene" "permits" "[I", Cond.fieldLink RX0 15 "GoatTower$Scene" "order" "[I", Cond.fieldLink RX0 18 "GoatTower$Scene" "givenUpAt" "[I", Cond.fieldLink RX0 21 "GoatTower$Scene" "horns" "[I", Cond.fieldLink RX0 24 "GoatTower$Scene" "state" "[I", Cond.fieldLink RX0 27 "GoatTower$Scene" "gate" "[I"]
def wsX1_givingUpIn_r2 : List Cond := [Cond.fieldLink RX0 30 "GoatTower$Scene" "many" "[I", Cond.fieldLink RX0 33 "GoatTower$Scene" "stay" "[I", Cond.fieldLink RX0 36 "GoatTower$Scene" "left" "[I", Cond.fieldLink RX0 39 "GoatTower$Scene" "askedAs" "[I", Cond.fieldLink RX0 42 "GoatTower$Scene" "waitedForThis" "[I", Cond.fieldLink RX0 45 "GoatTower$Scene" "waitedInAll" "[I", Cond.methodLink RX1 96 yX0_liveAMinute, Cond.instanceMethod yX0_liveAMinute, Cond.selects RX0 yX0_liveAMinute yX0_liveAMinute, Cond.code yX0_liveAMinute cX0_liveAMinute 2 none, Cond.methodLink RX0 68 yX0_leaveThoseWhoStayed, Cond.instanceMethod yX0_leaveThoseWhoStayed, Cond.selects RX0 yX0_leaveThoseWhoStayed yX0_leaveThoseWhoStayed, Cond.code yX0_leaveThoseWhoStayed cX0_leaveThoseWhoStayed 2 none, Cond.methodLink RX0 64 yX0_rest, Cond.instanceMethod yX0_rest, Cond.selects RX0 yX0_rest yX0_rest, Cond.code yX0_rest cX0_rest 2 none, Cond.methodLink RX0 71 yX0_letInThrough, Cond.instanceMethod yX0_letInThrough, Cond.selects RX0 yX0_letInThrough yX0_letInThrough, Cond.code yX0_letInThrough cX0_letInThrough 4 none, Cond.methodLink RX0 77 yX0_firstIn, Cond.instanceMethod yX0_firstIn]
def wsX1_givingUpIn_r3 : List Cond := [Cond.selects RX0 yX0_firstIn yX0_firstIn, Cond.code yX0_firstIn cX0_firstIn 10 (some .int), Cond.methodLink RX0 89 yX0_freePermits, Cond.instanceMethod yX0_freePermits, Cond.selects RX0 yX0_freePermits yX0_freePermits, Cond.code yX0_freePermits cX0_freePermits 4 (some .int), Cond.methodLink RX0 85 yX0_waitsAt, Cond.instanceMethod yX0_waitsAt, Cond.selects RX0 yX0_waitsAt yX0_waitsAt, Cond.code yX0_waitsAt cX0_waitsAt 3 (some .boolean), Cond.methodLink RX0 92 yX0_seeming, Cond.instanceMethod yX0_seeming, Cond.selects RX0 yX0_seeming yX0_seeming, Cond.code yX0_seeming cX0_seeming 2 (some .int), Cond.methodLink RX0 81 yX0_enter, Cond.instanceMethod yX0_enter, Cond.selects RX0 yX0_enter yX0_enter, Cond.code yX0_enter cX0_enter 5 none, Cond.methodLink RX0 74 yX0_waitOnAt, Cond.instanceMethod yX0_waitOnAt, Cond.selects RX0 yX0_waitOnAt yX0_waitOnAt, Cond.code yX0_waitOnAt cX0_waitOnAt 3 none, Cond.methodLink RX1 109 yX0_givenUpInAll, Cond.instanceMethod yX0_givenUpInAll]
def wsX1_givingUpIn_r4 : List Cond := [Cond.selects RX0 yX0_givenUpInAll yX0_givenUpInAll, Cond.code yX0_givenUpInAll cX0_givenUpInAll 3 (some .int)]
def wsX1_givingUpIn : List Cond := .code yX1_givingUpIn cX1_givingUpIn 3 (some .int) :: ((wsX1_givingUpIn_r1 ++ (wsX1_givingUpIn_r2 ++ (wsX1_givingUpIn_r3 ++ wsX1_givingUpIn_r4))) ++ wsX10 ++ wsX00 ++ (vx_atS RX1 27 "java/lang/IllegalArgumentException" ["java/lang/RuntimeException", "java/lang/Exception"]).filter goodWord)
def wsX1_givingUpWith_r1 : List Cond := [Cond.fieldLink RX1 16 "GoatTower" "ahead" "LGoatTower$Scene;", Cond.fieldLink RX1 10 "GoatTower" "now" "LGoatTower$Scene;", Cond.fieldLink RX1 59 "GoatTower$Scene" "permits" "[I", Cond.fieldLink RX1 134 "GoatTower$Scene" "order" "[I", Cond.fieldLink RX1 213 "GoatTower$Scene" "givenUpAt" "[I", Cond.methodLink RX1 130 yX0_become, Cond.instanceMethod yX0_become, Cond.selects RX0 yX0_become yX0_become, Cond.initialized RX0, Cond.code yX0_become cX0_become 3 none, Cond.fieldLink RX0 48 "GoatTower$Scene" "minute" "I", Cond.fieldLink RX0 52 "GoatTower$Scene" "gateCount" "I", Cond.fieldLink RX0 55 "GoatTower$Scene" "goatCount" "I", Cond.fieldLink RX0 58 "GoatTower$Scene" "askCount" "I", Cond.fieldLink RX0 61 "GoatTower$Scene" "letInCount" "I", Cond.fieldLink RX0 9 "GoatTower$Scene" "permits" "[I", Cond.fieldLink RX0 15 "GoatTower$Scene" "order" "[I", Cond.fieldLink RX0 18 "GoatTower$Scene" "givenUpAt" "[I", Cond.fieldLink RX0 21 "GoatTower$Scene" "horns" "[I", Cond.fieldLink RX0 24 "GoatTower$Scene" "state" "[I", Cond.fieldLink RX0 27 "GoatTower$Scene" "gate" "[I", Cond.fieldLink RX0 30 "GoatTower$Scene" "many" "[I", Cond.fieldLink RX0 33 "GoatTower$Scene" "stay" "[I", Cond.fieldLink RX0 36 "GoatTower$Scene" "left" "[I"]
def wsX1_givingUpWith_r2 : List Cond := [Cond.fieldLink RX0 39 "GoatTower$Scene" "askedAs" "[I", Cond.fieldLink RX0 42 "GoatTower$Scene" "waitedForThis" "[I", Cond.fieldLink RX0 45 "GoatTower$Scene" "waitedInAll" "[I", Cond.methodLink RX1 70 yX0_countWaitingAt, Cond.instanceMethod yX0_countWaitingAt, Cond.selects RX0 yX0_countWaitingAt yX0_countWaitingAt, Cond.code yX0_countWaitingAt cX0_countWaitingAt 4 (some .int), Cond.methodLink RX0 85 yX0_waitsAt, Cond.instanceMethod yX0_waitsAt, Cond.selects RX0 yX0_waitsAt yX0_waitsAt, Cond.code yX0_waitsAt cX0_waitsAt 3 (some .boolean), Cond.methodLink RX1 96 yX0_liveAMinute, Cond.instanceMethod yX0_liveAMinute, Cond.selects RX0 yX0_liveAMinute yX0_liveAMinute, Cond.code yX0_liveAMinute cX0_liveAMinute 2 none, Cond.methodLink RX0 68 yX0_leaveThoseWhoStayed, Cond.instanceMethod yX0_leaveThoseWhoStayed, Cond.selects RX0 yX0_leaveThoseWhoStayed yX0_leaveThoseWhoStayed, Cond.code yX0_leaveThoseWhoStayed cX0_leaveThoseWhoStayed 2 none, Cond.methodLink RX0 64 yX0_rest, Cond.instanceMethod yX0_rest, Cond.selects RX0 yX0_rest yX0_rest, Cond.code yX0_rest cX0_rest 2 none, Cond.methodLink RX0 71 yX0_letInThrough]
def wsX1_givingUpWith_r3 : List Cond := [Cond.instanceMethod yX0_letInThrough, Cond.selects RX0 yX0_letInThrough yX0_letInThrough, Cond.code yX0_letInThrough cX0_letInThrough 4 none, Cond.methodLink RX0 77 yX0_firstIn, Cond.instanceMethod yX0_firstIn, Cond.selects RX0 yX0_firstIn yX0_firstIn, Cond.code yX0_firstIn cX0_firstIn 10 (some .int), Cond.methodLink RX0 89 yX0_freePermits, Cond.instanceMethod yX0_freePermits, Cond.selects RX0 yX0_freePermits yX0_freePermits, Cond.code yX0_freePermits cX0_freePermits 4 (some .int), Cond.methodLink RX0 92 yX0_seeming, Cond.instanceMethod yX0_seeming, Cond.selects RX0 yX0_seeming yX0_seeming, Cond.code yX0_seeming cX0_seeming 2 (some .int), Cond.methodLink RX0 81 yX0_enter, Cond.instanceMethod yX0_enter, Cond.selects RX0 yX0_enter yX0_enter, Cond.code yX0_enter cX0_enter 5 none, Cond.methodLink RX0 74 yX0_waitOnAt, Cond.instanceMethod yX0_waitOnAt, Cond.selects RX0 yX0_waitOnAt yX0_waitOnAt, Cond.code yX0_waitOnAt cX0_waitOnAt 3 none]
def wsX1_givingUpWith : List Cond := .code yX1_givingUpWith cX1_givingUpWith 5 (some .int) :: ((wsX1_givingUpWith_r1 ++ (wsX1_givingUpWith_r2 ++ wsX1_givingUpWith_r3)) ++ wsX10 ++ wsX00)
def wsX1_permitsWanted_r1 : List Cond := [Cond.fieldLink RX1 10 "GoatTower" "now" "LGoatTower$Scene;", Cond.fieldLink RX1 59 "GoatTower$Scene" "permits" "[I", Cond.fieldLink RX1 134 "GoatTower$Scene" "order" "[I", Cond.methodLink RX1 56 yX1_checkGate, Cond.instanceMethod yX1_checkGate, Cond.selects RX1 yX1_checkGate yX1_checkGate, Cond.initialized RX1, Cond.code yX1_checkGate cX1_checkGate 2 none, Cond.classLink RX1 216 "java/lang/IndexOutOfBoundsException", Cond.initialized "java/lang/IndexOutOfBoundsException", Cond.fieldLink RX1 30 "GoatTower$Scene" "gateCount" "I", Cond.methodLink RX1 137 yX1_givingUpWith, Cond.instanceMethod yX1_givingUpWith, Cond.selects RX1 yX1_givingUpWith yX1_givingUpWith, Cond.code yX1_givingUpWith cX1_givingUpWith 5 (some .int), Cond.fieldLink RX1 16 "GoatTower" "ahead" "LGoatTower$Scene;", Cond.fieldLink RX1 213 "GoatTower$Scene" "givenUpAt" "[I", Cond.methodLink RX1 130 yX0_become, Cond.instanceMethod yX0_become, Cond.selects RX0 yX0_become yX0_become, Cond.initialized RX0, Cond.code yX0_become cX0_become 3 none, Cond.fieldLink RX0 48 "GoatTower$Scene" "minute" "I", Cond.fieldLink RX0 52 "GoatTower$Scene" "gateCount" "I"]
def wsX1_permitsWanted_r2 : List Cond := [Cond.fieldLink RX0 55 "GoatTower$Scene" "goatCount" "I", Cond.fieldLink RX0 58 "GoatTower$Scene" "askCount" "I", Cond.fieldLink RX0 61 "GoatTower$Scene" "letInCount" "I", Cond.fieldLink RX0 9 "GoatTower$Scene" "permits" "[I", Cond.fieldLink RX0 15 "GoatTower$Scene" "order" "[I", Cond.fieldLink RX0 18 "GoatTower$Scene" "givenUpAt" "[I", Cond.fieldLink RX0 21 "GoatTower$Scene" "horns" "[I", Cond.fieldLink RX0 24 "GoatTower$Scene" "state" "[I", Cond.fieldLink RX0 27 "GoatTower$Scene" "gate" "[I", Cond.fieldLink RX0 30 "GoatTower$Scene" "many" "[I", Cond.fieldLink RX0 33 "GoatTower$Scene" "stay" "[I", Cond.fieldLink RX0 36 "GoatTower$Scene" "left" "[I", Cond.fieldLink RX0 39 "GoatTower$Scene" "askedAs" "[I", Cond.fieldLink RX0 42 "GoatTower$Scene" "waitedForThis" "[I", Cond.fieldLink RX0 45 "GoatTower$Scene" "waitedInAll" "[I", Cond.methodLink RX1 70 yX0_countWaitingAt, Cond.instanceMethod yX0_countWaitingAt, Cond.selects RX0 yX0_countWaitingAt yX0_countWaitingAt, Cond.code yX0_countWaitingAt cX0_countWaitingAt 4 (some .int), Cond.methodLink RX0 85 yX0_waitsAt, Cond.instanceMethod yX0_waitsAt, Cond.selects RX0 yX0_waitsAt yX0_waitsAt, Cond.code yX0_waitsAt cX0_waitsAt 3 (some .boolean), Cond.methodLink RX1 96 yX0_liveAMinute]
def wsX1_permitsWanted_r3 : List Cond := [Cond.instanceMethod yX0_liveAMinute, Cond.selects RX0 yX0_liveAMinute yX0_liveAMinute, Cond.code yX0_liveAMinute cX0_liveAMinute 2 none, Cond.methodLink RX0 68 yX0_leaveThoseWhoStayed, Cond.instanceMethod yX0_leaveThoseWhoStayed, Cond.selects RX0 yX0_leaveThoseWhoStayed yX0_leaveThoseWhoStayed, Cond.code yX0_leaveThoseWhoStayed cX0_leaveThoseWhoStayed 2 none, Cond.methodLink RX0 64 yX0_rest, Cond.instanceMethod yX0_rest, Cond.selects RX0 yX0_rest yX0_rest, Cond.code yX0_rest cX0_rest 2 none, Cond.methodLink RX0 71 yX0_letInThrough, Cond.instanceMethod yX0_letInThrough, Cond.selects RX0 yX0_letInThrough yX0_letInThrough, Cond.code yX0_letInThrough cX0_letInThrough 4 none, Cond.methodLink RX0 77 yX0_firstIn, Cond.instanceMethod yX0_firstIn, Cond.selects RX0 yX0_firstIn yX0_firstIn, Cond.code yX0_firstIn cX0_firstIn 10 (some .int), Cond.methodLink RX0 89 yX0_freePermits, Cond.instanceMethod yX0_freePermits, Cond.selects RX0 yX0_freePermits yX0_freePermits, Cond.code yX0_freePermits cX0_freePermits 4 (some .int), Cond.methodLink RX0 92 yX0_seeming]
def wsX1_permitsWanted_r4 : List Cond := [Cond.instanceMethod yX0_seeming, Cond.selects RX0 yX0_seeming yX0_seeming, Cond.code yX0_seeming cX0_seeming 2 (some .int), Cond.methodLink RX0 81 yX0_enter, Cond.instanceMethod yX0_enter, Cond.selects RX0 yX0_enter yX0_enter, Cond.code yX0_enter cX0_enter 5 none, Cond.methodLink RX0 74 yX0_waitOnAt, Cond.instanceMethod yX0_waitOnAt, Cond.selects RX0 yX0_waitOnAt yX0_waitOnAt, Cond.code yX0_waitOnAt cX0_waitOnAt 3 none]
def wsX1_permitsWanted : List Cond := .code yX1_permitsWanted cX1_permitsWanted 3 (some .int) :: ((wsX1_permitsWanted_r1 ++ (wsX1_permitsWanted_r2 ++ (wsX1_permitsWanted_r3 ++ wsX1_permitsWanted_r4))) ++ wsX10 ++ wsX00 ++ (vx_atS RX1 220 "java/lang/IndexOutOfBoundsException" ["java/lang/RuntimeException", "java/lang/Exception"]).filter goodWord)
def wsX1_bestOrder_r1 : List Cond := [Cond.fieldLink RX1 10 "GoatTower" "now" "LGoatTower$Scene;", Cond.fieldLink RX1 59 "GoatTower$Scene" "permits" "[I", Cond.methodLink RX1 56 yX1_checkGate, Cond.instanceMethod yX1_checkGate, Cond.selects RX1 yX1_checkGate yX1_checkGate, Cond.initialized RX1, Cond.code yX1_checkGate cX1_checkGate 2 none, Cond.classLink RX1 216 "java/lang/IndexOutOfBoundsException", Cond.initialized "java/lang/IndexOutOfBoundsException", Cond.fieldLink RX1 30 "GoatTower$Scene" "gateCount" "I", Cond.methodLink RX1 137 yX1_givingUpWith, Cond.instanceMethod yX1_givingUpWith, Cond.selects RX1 yX1_givingUpWith yX1_givingUpWith, Cond.code yX1_givingUpWith cX1_givingUpWith 5 (some .int), Cond.fieldLink RX1 16 "GoatTower" "ahead" "LGoatTower$Scene;", Cond.fieldLink RX1 134 "GoatTower$Scene" "order" "[I", Cond.fieldLink RX1 213 "GoatTower$Scene" "givenUpAt" "[I", Cond.methodLink RX1 130 yX0_become, Cond.instanceMethod yX0_become, Cond.selects RX0 yX0_become yX0_become, Cond.initialized RX0, Cond.code yX0_become cX0_become 3 none, Cond.fieldLink RX0 48 "GoatTower$Scene" "minute" "I", Cond.fieldLink RX0 52 "GoatTower$Scene" "gateCount" "I"]
def wsX1_bestOrder_r2 : List Cond := [Cond.fieldLink RX0 55 "GoatTower$Scene" "goatCount" "I", Cond.fieldLink RX0 58 "GoatTower$Scene" "askCount" "I", Cond.fieldLink RX0 61 "GoatTower$Scene" "letInCount" "I", Cond.fieldLink RX0 9 "GoatTower$Scene" "permits" "[I", Cond.fieldLink RX0 15 "GoatTower$Scene" "order" "[I", Cond.fieldLink RX0 18 "GoatTower$Scene" "givenUpAt" "[I", Cond.fieldLink RX0 21 "GoatTower$Scene" "horns" "[I", Cond.fieldLink RX0 24 "GoatTower$Scene" "state" "[I", Cond.fieldLink RX0 27 "GoatTower$Scene" "gate" "[I", Cond.fieldLink RX0 30 "GoatTower$Scene" "many" "[I", Cond.fieldLink RX0 33 "GoatTower$Scene" "stay" "[I", Cond.fieldLink RX0 36 "GoatTower$Scene" "left" "[I", Cond.fieldLink RX0 39 "GoatTower$Scene" "askedAs" "[I", Cond.fieldLink RX0 42 "GoatTower$Scene" "waitedForThis" "[I", Cond.fieldLink RX0 45 "GoatTower$Scene" "waitedInAll" "[I", Cond.methodLink RX1 70 yX0_countWaitingAt, Cond.instanceMethod yX0_countWaitingAt, Cond.selects RX0 yX0_countWaitingAt yX0_countWaitingAt, Cond.code yX0_countWaitingAt cX0_countWaitingAt 4 (some .int), Cond.methodLink RX0 85 yX0_waitsAt, Cond.instanceMethod yX0_waitsAt, Cond.selects RX0 yX0_waitsAt yX0_waitsAt, Cond.code yX0_waitsAt cX0_waitsAt 3 (some .boolean), Cond.methodLink RX1 96 yX0_liveAMinute]
def wsX1_bestOrder_r3 : List Cond := [Cond.instanceMethod yX0_liveAMinute, Cond.selects RX0 yX0_liveAMinute yX0_liveAMinute, Cond.code yX0_liveAMinute cX0_liveAMinute 2 none, Cond.methodLink RX0 68 yX0_leaveThoseWhoStayed, Cond.instanceMethod yX0_leaveThoseWhoStayed, Cond.selects RX0 yX0_leaveThoseWhoStayed yX0_leaveThoseWhoStayed, Cond.code yX0_leaveThoseWhoStayed cX0_leaveThoseWhoStayed 2 none, Cond.methodLink RX0 64 yX0_rest, Cond.instanceMethod yX0_rest, Cond.selects RX0 yX0_rest yX0_rest, Cond.code yX0_rest cX0_rest 2 none, Cond.methodLink RX0 71 yX0_letInThrough, Cond.instanceMethod yX0_letInThrough, Cond.selects RX0 yX0_letInThrough yX0_letInThrough, Cond.code yX0_letInThrough cX0_letInThrough 4 none, Cond.methodLink RX0 77 yX0_firstIn, Cond.instanceMethod yX0_firstIn, Cond.selects RX0 yX0_firstIn yX0_firstIn, Cond.code yX0_firstIn cX0_firstIn 10 (some .int), Cond.methodLink RX0 89 yX0_freePermits, Cond.instanceMethod yX0_freePermits, Cond.selects RX0 yX0_freePermits yX0_freePermits, Cond.code yX0_freePermits cX0_freePermits 4 (some .int), Cond.methodLink RX0 92 yX0_seeming]
def wsX1_bestOrder_r4 : List Cond := [Cond.instanceMethod yX0_seeming, Cond.selects RX0 yX0_seeming yX0_seeming, Cond.code yX0_seeming cX0_seeming 2 (some .int), Cond.methodLink RX0 81 yX0_enter, Cond.instanceMethod yX0_enter, Cond.selects RX0 yX0_enter yX0_enter, Cond.code yX0_enter cX0_enter 5 none, Cond.methodLink RX0 74 yX0_waitOnAt, Cond.instanceMethod yX0_waitOnAt, Cond.selects RX0 yX0_waitOnAt yX0_waitOnAt, Cond.code yX0_waitOnAt cX0_waitOnAt 3 none]
def wsX1_bestOrder : List Cond := .code yX1_bestOrder cX1_bestOrder 4 (some .int) :: ((wsX1_bestOrder_r1 ++ (wsX1_bestOrder_r2 ++ (wsX1_bestOrder_r3 ++ wsX1_bestOrder_r4))) ++ wsX10 ++ wsX00 ++ (vx_atS RX1 220 "java/lang/IndexOutOfBoundsException" ["java/lang/RuntimeException", "java/lang/Exception"]).filter goodWord)
def wsX1_meanWaited : List Cond := .code yX1_meanWaited cX1_meanWaited 1 (some .double) :: ([.fieldLink RX1 10 "GoatTower" "now" "LGoatTower$Scene;", .fieldLink RX1 43 "GoatTower$Scene" "goatCount" "I", .methodLink RX1 141 yX0_sumOfWaited, .instanceMethod yX0_sumOfWaited, .selects RX0 yX0_sumOfWaited yX0_sumOfWaited, .initialized RX0, .code yX0_sumOfWaited cX0_sumOfWaited 3 (some .int), .fieldLink RX0 55 "GoatTower$Scene" "goatCount" "I", .fieldLink RX0 45 "GoatTower$Scene" "waitedInAll" "[I"] ++ wsX10 ++ wsX00)
def wsX1_digest_r1 : List Cond := [Cond.constantLong RX1 144 (2161), Cond.constantLong RX1 146 (31), Cond.fieldLink RX1 10 "GoatTower" "now" "LGoatTower$Scene;", Cond.fieldLink RX1 30 "GoatTower$Scene" "gateCount" "I", Cond.fieldLink RX1 43 "GoatTower$Scene" "goatCount" "I", Cond.methodLink RX1 148 yX1_minute, Cond.instanceMethod yX1_minute, Cond.selects RX1 yX1_minute yX1_minute, Cond.initialized RX1, Cond.code yX1_minute cX1_minute 1 (some .int), Cond.fieldLink RX1 99 "GoatTower$Scene" "minute" "I", Cond.methodLink RX1 150 yX1_gates, Cond.instanceMethod yX1_gates, Cond.selects RX1 yX1_gates yX1_gates, Cond.code yX1_gates cX1_gates 1 (some .int), Cond.methodLink RX1 153 yX1_goats, Cond.instanceMethod yX1_goats, Cond.selects RX1 yX1_goats yX1_goats, Cond.code yX1_goats cX1_goats 1 (some .int), Cond.methodLink RX1 156 yX1_waiting, Cond.instanceMethod yX1_waiting, Cond.selects RX1 yX1_waiting yX1_waiting, Cond.code yX1_waiting cX1_waiting 1 (some .int), Cond.methodLink RX1 102 yX0_countInState]
def wsX1_digest_r2 : List Cond := [Cond.instanceMethod yX0_countInState, Cond.selects RX0 yX0_countInState yX0_countInState, Cond.initialized RX0, Cond.code yX0_countInState cX0_countInState 4 (some .int), Cond.fieldLink RX0 55 "GoatTower$Scene" "goatCount" "I", Cond.fieldLink RX0 24 "GoatTower$Scene" "state" "[I", Cond.methodLink RX1 159 yX1_inside, Cond.instanceMethod yX1_inside, Cond.selects RX1 yX1_inside yX1_inside, Cond.code yX1_inside cX1_inside 1 (some .int), Cond.methodLink RX1 162 yX1_starving, Cond.instanceMethod yX1_starving, Cond.selects RX1 yX1_starving yX1_starving, Cond.code yX1_starving cX1_starving 1 (some .int), Cond.methodLink RX1 105 yX0_countStarving, Cond.instanceMethod yX0_countStarving, Cond.selects RX0 yX0_countStarving yX0_countStarving, Cond.code yX0_countStarving cX0_countStarving 3 (some .int), Cond.fieldLink RX0 42 "GoatTower$Scene" "waitedForThis" "[I", Cond.methodLink RX1 165 yX1_letIn, Cond.instanceMethod yX1_letIn, Cond.selects RX1 yX1_letIn yX1_letIn, Cond.code yX1_letIn cX1_letIn 1 (some .int), Cond.fieldLink RX1 93 "GoatTower$Scene" "letInCount" "I"]
def wsX1_digest_r3 : List Cond := [Cond.methodLink RX1 168 yX1_givenUp, Cond.instanceMethod yX1_givenUp, Cond.selects RX1 yX1_givenUp yX1_givenUp, Cond.code yX1_givenUp cX1_givenUp 1 (some .int), Cond.methodLink RX1 109 yX0_givenUpInAll, Cond.instanceMethod yX0_givenUpInAll, Cond.selects RX0 yX0_givenUpInAll yX0_givenUpInAll, Cond.code yX0_givenUpInAll cX0_givenUpInAll 3 (some .int), Cond.fieldLink RX0 52 "GoatTower$Scene" "gateCount" "I", Cond.fieldLink RX0 18 "GoatTower$Scene" "givenUpAt" "[I", Cond.methodLink RX1 171 yX1_permitsOf, Cond.instanceMethod yX1_permitsOf, Cond.selects RX1 yX1_permitsOf yX1_permitsOf, Cond.code yX1_permitsOf cX1_permitsOf 2 (some .int), Cond.fieldLink RX1 59 "GoatTower$Scene" "permits" "[I", Cond.methodLink RX1 56 yX1_checkGate, Cond.instanceMethod yX1_checkGate, Cond.selects RX1 yX1_checkGate yX1_checkGate, Cond.code yX1_checkGate cX1_checkGate 2 none, Cond.classLink RX1 216 "java/lang/IndexOutOfBoundsException", Cond.initialized "java/lang/IndexOutOfBoundsException", Cond.methodLink RX1 174 yX1_freeOf, Cond.instanceMethod yX1_freeOf, Cond.selects RX1 yX1_freeOf yX1_freeOf]
def wsX1_digest_r4 : List Cond := [Cond.code yX1_freeOf cX1_freeOf 2 (some .int), Cond.methodLink RX1 73 yX0_freePermits, Cond.instanceMethod yX0_freePermits, Cond.selects RX0 yX0_freePermits yX0_freePermits, Cond.code yX0_freePermits cX0_freePermits 4 (some .int), Cond.fieldLink RX0 9 "GoatTower$Scene" "permits" "[I", Cond.fieldLink RX0 27 "GoatTower$Scene" "gate" "[I", Cond.fieldLink RX0 30 "GoatTower$Scene" "many" "[I", Cond.methodLink RX1 177 yX1_waitingAt, Cond.instanceMethod yX1_waitingAt, Cond.selects RX1 yX1_waitingAt yX1_waitingAt, Cond.code yX1_waitingAt cX1_waitingAt 2 (some .int), Cond.methodLink RX1 70 yX0_countWaitingAt, Cond.instanceMethod yX0_countWaitingAt, Cond.selects RX0 yX0_countWaitingAt yX0_countWaitingAt, Cond.code yX0_countWaitingAt cX0_countWaitingAt 4 (some .int), Cond.methodLink RX0 85 yX0_waitsAt, Cond.instanceMethod yX0_waitsAt, Cond.selects RX0 yX0_waitsAt yX0_waitsAt, Cond.code yX0_waitsAt cX0_waitsAt 3 (some .boolean), Cond.methodLink RX1 180 yX1_nextAt, Cond.instanceMethod yX1_nextAt, Cond.selects RX1 yX1_nextAt yX1_nextAt, Cond.code yX1_nextAt cX1_nextAt 2 (some .int)]
def wsX1_digest_r5 : List Cond := [Cond.methodLink RX1 112 yX0_firstIn, Cond.instanceMethod yX0_firstIn, Cond.selects RX0 yX0_firstIn yX0_firstIn, Cond.code yX0_firstIn cX0_firstIn 10 (some .int), Cond.fieldLink RX0 15 "GoatTower$Scene" "order" "[I", Cond.fieldLink RX0 39 "GoatTower$Scene" "askedAs" "[I", Cond.methodLink RX0 89 yX0_freePermits, Cond.methodLink RX0 92 yX0_seeming, Cond.instanceMethod yX0_seeming, Cond.selects RX0 yX0_seeming yX0_seeming, Cond.code yX0_seeming cX0_seeming 2 (some .int), Cond.fieldLink RX0 21 "GoatTower$Scene" "horns" "[I", Cond.methodLink RX1 183 yX1_permitsWanted, Cond.instanceMethod yX1_permitsWanted, Cond.selects RX1 yX1_permitsWanted yX1_permitsWanted, Cond.code yX1_permitsWanted cX1_permitsWanted 3 (some .int), Cond.fieldLink RX1 134 "GoatTower$Scene" "order" "[I", Cond.methodLink RX1 137 yX1_givingUpWith, Cond.instanceMethod yX1_givingUpWith, Cond.selects RX1 yX1_givingUpWith yX1_givingUpWith, Cond.code yX1_givingUpWith cX1_givingUpWith 5 (some .int), Cond.fieldLink RX1 16 "GoatTower" "ahead" "LGoatTower$Scene;", Cond.fieldLink RX1 213 "GoatTower$Scene" "givenUpAt" "[I", Cond.methodLink RX1 130 yX0_become]
def wsX1_digest_r6 : List Cond := [Cond.instanceMethod yX0_become, Cond.selects RX0 yX0_become yX0_become, Cond.code yX0_become cX0_become 3 none, Cond.fieldLink RX0 48 "GoatTower$Scene" "minute" "I", Cond.fieldLink RX0 58 "GoatTower$Scene" "askCount" "I", Cond.fieldLink RX0 61 "GoatTower$Scene" "letInCount" "I", Cond.fieldLink RX0 33 "GoatTower$Scene" "stay" "[I", Cond.fieldLink RX0 36 "GoatTower$Scene" "left" "[I", Cond.fieldLink RX0 45 "GoatTower$Scene" "waitedInAll" "[I", Cond.methodLink RX1 96 yX0_liveAMinute, Cond.instanceMethod yX0_liveAMinute, Cond.selects RX0 yX0_liveAMinute yX0_liveAMinute, Cond.code yX0_liveAMinute cX0_liveAMinute 2 none, Cond.methodLink RX0 68 yX0_leaveThoseWhoStayed, Cond.instanceMethod yX0_leaveThoseWhoStayed, Cond.selects RX0 yX0_leaveThoseWhoStayed yX0_leaveThoseWhoStayed, Cond.code yX0_leaveThoseWhoStayed cX0_leaveThoseWhoStayed 2 none, Cond.methodLink RX0 64 yX0_rest, Cond.instanceMethod yX0_rest, Cond.selects RX0 yX0_rest yX0_rest, Cond.code yX0_rest cX0_rest 2 none, Cond.methodLink RX0 71 yX0_letInThrough, Cond.instanceMethod yX0_letInThrough, Cond.selects RX0 yX0_letInThrough yX0_letInThrough]
def wsX1_digest_r7 : List Cond := [Cond.code yX0_letInThrough cX0_letInThrough 4 none, Cond.methodLink RX0 77 yX0_firstIn, Cond.methodLink RX0 81 yX0_enter, Cond.instanceMethod yX0_enter, Cond.selects RX0 yX0_enter yX0_enter, Cond.code yX0_enter cX0_enter 5 none, Cond.methodLink RX0 74 yX0_waitOnAt, Cond.instanceMethod yX0_waitOnAt, Cond.selects RX0 yX0_waitOnAt yX0_waitOnAt, Cond.code yX0_waitOnAt cX0_waitOnAt 3 none, Cond.methodLink RX1 186 yX1_bestOrder, Cond.instanceMethod yX1_bestOrder, Cond.selects RX1 yX1_bestOrder yX1_bestOrder, Cond.code yX1_bestOrder cX1_bestOrder 4 (some .int), Cond.methodLink RX1 189 yX1_stateOf, Cond.instanceMethod yX1_stateOf, Cond.selects RX1 yX1_stateOf yX1_stateOf, Cond.code yX1_stateOf cX1_stateOf 2 (some .int), Cond.fieldLink RX1 82 "GoatTower$Scene" "state" "[I", Cond.methodLink RX1 52 yX1_checkGoat, Cond.instanceMethod yX1_checkGoat, Cond.selects RX1 yX1_checkGoat yX1_checkGoat, Cond.code yX1_checkGoat cX1_checkGoat 2 none, Cond.methodLink RX1 192 yX1_gateOf]
def wsX1_digest_r8 : List Cond := [Cond.instanceMethod yX1_gateOf, Cond.selects RX1 yX1_gateOf yX1_gateOf, Cond.code yX1_gateOf cX1_gateOf 2 (some .int), Cond.fieldLink RX1 115 "GoatTower$Scene" "gate" "[I", Cond.methodLink RX1 195 yX1_holds, Cond.instanceMethod yX1_holds, Cond.selects RX1 yX1_holds yX1_holds, Cond.code yX1_holds cX1_holds 2 (some .int), Cond.methodLink RX1 87 yX0_held, Cond.instanceMethod yX0_held, Cond.selects RX0 yX0_held yX0_held, Cond.code yX0_held cX0_held 2 (some .int), Cond.methodLink RX1 198 yX1_seemingHorns, Cond.instanceMethod yX1_seemingHorns, Cond.selects RX1 yX1_seemingHorns yX1_seemingHorns, Cond.code yX1_seemingHorns cX1_seemingHorns 2 (some .int), Cond.methodLink RX1 118 yX0_seeming, Cond.methodLink RX1 201 yX1_minutesLeft, Cond.instanceMethod yX1_minutesLeft, Cond.selects RX1 yX1_minutesLeft yX1_minutesLeft, Cond.code yX1_minutesLeft cX1_minutesLeft 2 (some .int), Cond.fieldLink RX1 121 "GoatTower$Scene" "left" "[I", Cond.methodLink RX1 204 yX1_waitedOf, Cond.instanceMethod yX1_waitedOf]
def wsX1_digest_r9 : List Cond := [Cond.selects RX1 yX1_waitedOf yX1_waitedOf, Cond.code yX1_waitedOf cX1_waitedOf 2 (some .int), Cond.fieldLink RX1 124 "GoatTower$Scene" "waitedInAll" "[I", Cond.methodLink RX1 207 yX1_placeInLine, Cond.instanceMethod yX1_placeInLine, Cond.selects RX1 yX1_placeInLine yX1_placeInLine, Cond.code yX1_placeInLine cX1_placeInLine 2 (some .int), Cond.methodLink RX1 127 yX0_countAheadOf, Cond.instanceMethod yX0_countAheadOf, Cond.selects RX0 yX0_countAheadOf yX0_countAheadOf, Cond.code yX0_countAheadOf cX0_countAheadOf 4 (some .int), Cond.methodLink RX1 210 yX1_minutesUntilIn, Cond.instanceMethod yX1_minutesUntilIn, Cond.selects RX1 yX1_minutesUntilIn yX1_minutesUntilIn, Cond.code yX1_minutesUntilIn cX1_minutesUntilIn 3 (some .int)]
def wsX1_digest : List Cond := .code yX1_digest cX1_digest 4 (some .long) :: ((wsX1_digest_r1 ++ (wsX1_digest_r2 ++ (wsX1_digest_r3 ++ (wsX1_digest_r4 ++ (wsX1_digest_r5 ++ (wsX1_digest_r6 ++ (wsX1_digest_r7 ++ (wsX1_digest_r8 ++ wsX1_digest_r9)))))))) ++ wsX10 ++ wsX00 ++ (vx_atS RX1 220 "java/lang/IndexOutOfBoundsException" ["java/lang/RuntimeException", "java/lang/Exception"]).filter goodWord)
def wsX2_init : List Cond := .code yX2_init cX2_init 1 none :: ([.methodLink RX2 1 objectInit, .instanceMethod objectInit, .code objectInit ⟨#[0xb1]⟩ 1 none, .classLink RX2 7 "[I", .fieldLink RX2 9 "GoatTowerLaw$Sim" "gates" "[[I", .fieldLink RX2 15 "GoatTowerLaw$Sim" "goats" "[[I", .fieldLink RX2 18 "GoatTowerLaw$Sim" "lines" "[[I"] ++ wsX20)
def wsX2_with : List Cond := .code yX2_with cX2_with 4 (some (.array (.array .int))) :: ([.classLink RX2 7 "[I"])
def wsX2_with_ : List Cond := .code yX2_with_ cX2_with_ 4 (some (.array .int)) :: ([.arrayClass .int])
def wsX2_without : List Cond := .code yX2_without cX2_without 7 (some (.array .int)) :: ([.arrayClass .int, .methodLink RX2 21 yX2_with_, .static yX2_with_, .initialized RX2, .code yX2_with_ cX2_with_ 4 (some (.array .int))])
def wsX2_copy : List Cond := .code yX2_copy cX2_copy 6 (some (.object "GoatTowerLaw$Sim")) :: ([.classLink RX2 10 RX2, .instantiable RX2 6, .initialized RX2, .fieldLink RX2 26 "GoatTowerLaw$Sim" "minute" "I", .fieldLink RX2 30 "GoatTowerLaw$Sim" "letIn" "I", .fieldLink RX2 33 "GoatTowerLaw$Sim" "given" "I", .fieldLink RX2 9 "GoatTowerLaw$Sim" "gates" "[[I", .methodLink RX2 36 ⟨"[I", "clone", "()Ljava/lang/Object;"⟩, .sameMethod "[I" "java/lang/Object" "clone" "()Ljava/lang/Object;", .native ⟨"java/lang/Object", "clone", "()Ljava/lang/Object;"⟩, .instanceMethod ⟨"java/lang/Object", "clone", "()Ljava/lang/Object;"⟩, .selects "[I" ⟨"[I", "clone", "()Ljava/lang/Object;"⟩ ⟨"java/lang/Object", "clone", "()Ljava/lang/Object;"⟩, .classLink RX2 7 "[I", .fieldLink RX2 15 "GoatTowerLaw$Sim" "goats" "[[I", .fieldLink RX2 18 "GoatTowerLaw$Sim" "lines" "[[I", .methodLink RX2 25 yX2_init, .instanceMethod yX2_init, .code yX2_init cX2_init 1 none, .methodLink RX2 1 objectInit, .instanceMethod objectInit, .code objectInit ⟨#[0xb1]⟩ 1 none, .methodLink RX2 40 yX2_with, .static yX2_with, .code yX2_with cX2_with 4 (some (.array (.array .int)))] ++ wsX20)
def wsX2_free : List Cond := .code yX2_free cX2_free 7 (some .int) :: ([.fieldLink RX2 9 "GoatTowerLaw$Sim" "gates" "[[I", .fieldLink RX2 15 "GoatTowerLaw$Sim" "goats" "[[I"] ++ wsX20)
def wsX2_seem : List Cond := .code yX2_seem cX2_seem 2 (some .int) :: ([.fieldLink RX2 15 "GoatTowerLaw$Sim" "goats" "[[I"] ++ wsX20)
def wsX2_next : List Cond := .code yX2_next cX2_next 8 (some .int) :: ([.fieldLink RX2 18 "GoatTowerLaw$Sim" "lines" "[[I", .fieldLink RX2 15 "GoatTowerLaw$Sim" "goats" "[[I", .fieldLink RX2 9 "GoatTowerLaw$Sim" "gates" "[[I", .methodLink RX2 43 yX2_free, .instanceMethod yX2_free, .selects RX2 yX2_free yX2_free, .initialized RX2, .code yX2_free cX2_free 7 (some .int), .methodLink RX2 47 yX2_seem, .instanceMethod yX2_seem, .selects RX2 yX2_seem yX2_seem, .code yX2_seem cX2_seem 2 (some .int)] ++ wsX20)
def wsX2_place : List Cond := .code yX2_place cX2_place 4 (some .int) :: ([.fieldLink RX2 15 "GoatTowerLaw$Sim" "goats" "[[I", .fieldLink RX2 18 "GoatTowerLaw$Sim" "lines" "[[I"] ++ wsX20)
def wsX2_ask : List Cond := .code yX2_ask cX2_ask 7 none :: ([.fieldLink RX2 15 "GoatTowerLaw$Sim" "goats" "[[I", .fieldLink RX2 18 "GoatTowerLaw$Sim" "lines" "[[I", .methodLink RX2 21 yX2_with_, .static yX2_with_, .initialized RX2, .code yX2_with_ cX2_with_ 4 (some (.array .int)), .arrayClass .int] ++ wsX20)
def wsX2_callBack : List Cond := .code yX2_callBack cX2_callBack 4 (some .int) :: ([.fieldLink RX2 15 "GoatTowerLaw$Sim" "goats" "[[I", .fieldLink RX2 18 "GoatTowerLaw$Sim" "lines" "[[I", .methodLink RX2 50 yX2_without, .static yX2_without, .initialized RX2, .code yX2_without cX2_without 7 (some (.array .int)), .arrayClass .int, .methodLink RX2 21 yX2_with_, .static yX2_with_, .code yX2_with_ cX2_with_ 4 (some (.array .int))] ++ wsX20)
def wsX2_pass_r1 : List Cond := [Cond.fieldLink RX2 30 "GoatTowerLaw$Sim" "letIn" "I", Cond.fieldLink RX2 15 "GoatTowerLaw$Sim" "goats" "[[I", Cond.fieldLink RX2 9 "GoatTowerLaw$Sim" "gates" "[[I", Cond.fieldLink RX2 18 "GoatTowerLaw$Sim" "lines" "[[I", Cond.fieldLink RX2 33 "GoatTowerLaw$Sim" "given" "I", Cond.fieldLink RX2 26 "GoatTowerLaw$Sim" "minute" "I", Cond.methodLink RX2 53 yX2_next, Cond.instanceMethod yX2_next, Cond.selects RX2 yX2_next yX2_next, Cond.initialized RX2, Cond.code yX2_next cX2_next 8 (some .int), Cond.methodLink RX2 43 yX2_free, Cond.instanceMethod yX2_free, Cond.selects RX2 yX2_free yX2_free, Cond.code yX2_free cX2_free 7 (some .int), Cond.methodLink RX2 47 yX2_seem, Cond.instanceMethod yX2_seem, Cond.selects RX2 yX2_seem yX2_seem, Cond.code yX2_seem cX2_seem 2 (some .int), Cond.methodLink RX2 50 yX2_without, Cond.static yX2_without, Cond.code yX2_without cX2_without 7 (some (.array .int)), Cond.arrayClass .int, Cond.methodLink RX2 21 yX2_with_]
def wsX2_pass_r2 : List Cond := [Cond.static yX2_with_, Cond.code yX2_with_ cX2_with_ 4 (some (.array .int)), Cond.methodLink RX2 56 yX2_callBack, Cond.instanceMethod yX2_callBack, Cond.selects RX2 yX2_callBack yX2_callBack, Cond.code yX2_callBack cX2_callBack 4 (some .int)]
def wsX2_pass : List Cond := .code yX2_pass cX2_pass 6 (some .int) :: ((wsX2_pass_r1 ++ wsX2_pass_r2) ++ wsX20)
def wsX2_pass__r1 : List Cond := [Cond.methodLink RX2 59 yX2_pass, Cond.instanceMethod yX2_pass, Cond.selects RX2 yX2_pass yX2_pass, Cond.initialized RX2, Cond.code yX2_pass cX2_pass 6 (some .int), Cond.fieldLink RX2 30 "GoatTowerLaw$Sim" "letIn" "I", Cond.fieldLink RX2 15 "GoatTowerLaw$Sim" "goats" "[[I", Cond.fieldLink RX2 9 "GoatTowerLaw$Sim" "gates" "[[I", Cond.fieldLink RX2 18 "GoatTowerLaw$Sim" "lines" "[[I", Cond.fieldLink RX2 33 "GoatTowerLaw$Sim" "given" "I", Cond.fieldLink RX2 26 "GoatTowerLaw$Sim" "minute" "I", Cond.methodLink RX2 53 yX2_next, Cond.instanceMethod yX2_next, Cond.selects RX2 yX2_next yX2_next, Cond.code yX2_next cX2_next 8 (some .int), Cond.methodLink RX2 43 yX2_free, Cond.instanceMethod yX2_free, Cond.selects RX2 yX2_free yX2_free, Cond.code yX2_free cX2_free 7 (some .int), Cond.methodLink RX2 47 yX2_seem, Cond.instanceMethod yX2_seem, Cond.selects RX2 yX2_seem yX2_seem, Cond.code yX2_seem cX2_seem 2 (some .int), Cond.methodLink RX2 50 yX2_without]
def wsX2_pass__r2 : List Cond := [Cond.static yX2_without, Cond.code yX2_without cX2_without 7 (some (.array .int)), Cond.arrayClass .int, Cond.methodLink RX2 21 yX2_with_, Cond.static yX2_with_, Cond.code yX2_with_ cX2_with_ 4 (some (.array .int)), Cond.methodLink RX2 56 yX2_callBack, Cond.instanceMethod yX2_callBack, Cond.selects RX2 yX2_callBack yX2_callBack, Cond.code yX2_callBack cX2_callBack 4 (some .int)]
def wsX2_pass_ : List Cond := .code yX2_pass_ cX2_pass_ 4 (some .int) :: ((wsX2_pass__r1 ++ wsX2_pass__r2) ++ wsX20)
def wsX2_until_r1 : List Cond := [Cond.fieldLink RX2 15 "GoatTowerLaw$Sim" "goats" "[[I", Cond.methodLink RX2 63 yX2_copy, Cond.instanceMethod yX2_copy, Cond.selects RX2 yX2_copy yX2_copy, Cond.initialized RX2, Cond.code yX2_copy cX2_copy 6 (some (.object "GoatTowerLaw$Sim")), Cond.classLink RX2 10 RX2, Cond.instantiable RX2 6, Cond.fieldLink RX2 26 "GoatTowerLaw$Sim" "minute" "I", Cond.fieldLink RX2 30 "GoatTowerLaw$Sim" "letIn" "I", Cond.fieldLink RX2 33 "GoatTowerLaw$Sim" "given" "I", Cond.fieldLink RX2 9 "GoatTowerLaw$Sim" "gates" "[[I", Cond.methodLink RX2 36 ⟨"[I", "clone", "()Ljava/lang/Object;"⟩, Cond.sameMethod "[I" "java/lang/Object" "clone" "()Ljava/lang/Object;", Cond.native ⟨"java/lang/Object", "clone", "()Ljava/lang/Object;"⟩, Cond.instanceMethod ⟨"java/lang/Object", "clone", "()Ljava/lang/Object;"⟩, Cond.selects "[I" ⟨"[I", "clone", "()Ljava/lang/Object;"⟩ ⟨"java/lang/Object", "clone", "()Ljava/lang/Object;"⟩, Cond.classLink RX2 7 "[I", Cond.fieldLink RX2 18 "GoatTowerLaw$Sim" "lines" "[[I", Cond.methodLink RX2 25 yX2_init, Cond.instanceMethod yX2_init, Cond.code yX2_init cX2_init 1 none, Cond.methodLink RX2 1 objectInit, Cond.instanceMethod objectInit]
def wsX2_until_r2 : List Cond := [Cond.code objectInit ⟨#[0xb1]⟩ 1 none, Cond.methodLink RX2 40 yX2_with, Cond.static yX2_with, Cond.code yX2_with cX2_with 4 (some (.array (.array .int))), Cond.methodLink RX2 59 yX2_pass, Cond.instanceMethod yX2_pass, Cond.selects RX2 yX2_pass yX2_pass, Cond.code yX2_pass cX2_pass 6 (some .int), Cond.methodLink RX2 53 yX2_next, Cond.instanceMethod yX2_next, Cond.selects RX2 yX2_next yX2_next, Cond.code yX2_next cX2_next 8 (some .int), Cond.methodLink RX2 43 yX2_free, Cond.instanceMethod yX2_free, Cond.selects RX2 yX2_free yX2_free, Cond.code yX2_free cX2_free 7 (some .int), Cond.methodLink RX2 47 yX2_seem, Cond.instanceMethod yX2_seem, Cond.selects RX2 yX2_seem yX2_seem, Cond.code yX2_seem cX2_seem 2 (some .int), Cond.methodLink RX2 50 yX2_without, Cond.static yX2_without, Cond.code yX2_without cX2_without 7 (some (.array .int)), Cond.arrayClass .int]
def wsX2_until_r3 : List Cond := [Cond.methodLink RX2 21 yX2_with_, Cond.static yX2_with_, Cond.code yX2_with_ cX2_with_ 4 (some (.array .int)), Cond.methodLink RX2 56 yX2_callBack, Cond.instanceMethod yX2_callBack, Cond.selects RX2 yX2_callBack yX2_callBack, Cond.code yX2_callBack cX2_callBack 4 (some .int)]
def wsX2_until : List Cond := .code yX2_until cX2_until 4 (some .int) :: ((wsX2_until_r1 ++ (wsX2_until_r2 ++ wsX2_until_r3)) ++ wsX20)
def wsX2_lost_r1 : List Cond := [Cond.fieldLink RX2 9 "GoatTowerLaw$Sim" "gates" "[[I", Cond.fieldLink RX2 18 "GoatTowerLaw$Sim" "lines" "[[I", Cond.methodLink RX2 63 yX2_copy, Cond.instanceMethod yX2_copy, Cond.selects RX2 yX2_copy yX2_copy, Cond.initialized RX2, Cond.code yX2_copy cX2_copy 6 (some (.object "GoatTowerLaw$Sim")), Cond.classLink RX2 10 RX2, Cond.instantiable RX2 6, Cond.fieldLink RX2 26 "GoatTowerLaw$Sim" "minute" "I", Cond.fieldLink RX2 30 "GoatTowerLaw$Sim" "letIn" "I", Cond.fieldLink RX2 33 "GoatTowerLaw$Sim" "given" "I", Cond.methodLink RX2 36 ⟨"[I", "clone", "()Ljava/lang/Object;"⟩, Cond.sameMethod "[I" "java/lang/Object" "clone" "()Ljava/lang/Object;", Cond.native ⟨"java/lang/Object", "clone", "()Ljava/lang/Object;"⟩, Cond.instanceMethod ⟨"java/lang/Object", "clone", "()Ljava/lang/Object;"⟩, Cond.selects "[I" ⟨"[I", "clone", "()Ljava/lang/Object;"⟩ ⟨"java/lang/Object", "clone", "()Ljava/lang/Object;"⟩, Cond.classLink RX2 7 "[I", Cond.fieldLink RX2 15 "GoatTowerLaw$Sim" "goats" "[[I", Cond.methodLink RX2 25 yX2_init, Cond.instanceMethod yX2_init, Cond.code yX2_init cX2_init 1 none, Cond.methodLink RX2 1 objectInit, Cond.instanceMethod objectInit]
def wsX2_lost_r2 : List Cond := [Cond.code objectInit ⟨#[0xb1]⟩ 1 none, Cond.methodLink RX2 40 yX2_with, Cond.static yX2_with, Cond.code yX2_with cX2_with 4 (some (.array (.array .int))), Cond.methodLink RX2 67 yX2_until, Cond.instanceMethod yX2_until, Cond.selects RX2 yX2_until yX2_until, Cond.code yX2_until cX2_until 4 (some .int), Cond.methodLink RX2 59 yX2_pass, Cond.instanceMethod yX2_pass, Cond.selects RX2 yX2_pass yX2_pass, Cond.code yX2_pass cX2_pass 6 (some .int), Cond.methodLink RX2 53 yX2_next, Cond.instanceMethod yX2_next, Cond.selects RX2 yX2_next yX2_next, Cond.code yX2_next cX2_next 8 (some .int), Cond.methodLink RX2 43 yX2_free, Cond.instanceMethod yX2_free, Cond.selects RX2 yX2_free yX2_free, Cond.code yX2_free cX2_free 7 (some .int), Cond.methodLink RX2 47 yX2_seem, Cond.instanceMethod yX2_seem, Cond.selects RX2 yX2_seem yX2_seem, Cond.code yX2_seem cX2_seem 2 (some .int)]
def wsX2_lost_r3 : List Cond := [Cond.methodLink RX2 50 yX2_without, Cond.static yX2_without, Cond.code yX2_without cX2_without 7 (some (.array .int)), Cond.arrayClass .int, Cond.methodLink RX2 21 yX2_with_, Cond.static yX2_with_, Cond.code yX2_with_ cX2_with_ 4 (some (.array .int)), Cond.methodLink RX2 56 yX2_callBack, Cond.instanceMethod yX2_callBack, Cond.selects RX2 yX2_callBack yX2_callBack, Cond.code yX2_callBack cX2_callBack 4 (some .int)]
def wsX2_lost : List Cond := .code yX2_lost cX2_lost 10 (some .int) :: ((wsX2_lost_r1 ++ (wsX2_lost_r2 ++ wsX2_lost_r3)) ++ wsX20)
def wsX2_many : List Cond := .code yX2_many cX2_many 7 (some .int) :: ([.fieldLink RX2 15 "GoatTowerLaw$Sim" "goats" "[[I"] ++ wsX20)
def wsX2_isSame_r1 : List Cond := [Cond.fieldLink RX2 15 "GoatTowerLaw$Sim" "goats" "[[I", Cond.fieldLink RX2 9 "GoatTowerLaw$Sim" "gates" "[[I", Cond.fieldLink RX2 18 "GoatTowerLaw$Sim" "lines" "[[I", Cond.fieldLink RX2 26 "GoatTowerLaw$Sim" "minute" "I", Cond.fieldLink RX2 30 "GoatTowerLaw$Sim" "letIn" "I", Cond.fieldLink RX2 33 "GoatTowerLaw$Sim" "given" "I", Cond.methodLink RX2 70 yX1_stateOf, Cond.instanceMethod yX1_stateOf, Cond.selects RX1 yX1_stateOf yX1_stateOf, Cond.initialized RX1, Cond.code yX1_stateOf cX1_stateOf 2 (some .int), Cond.fieldLink RX1 10 "GoatTower" "now" "LGoatTower$Scene;", Cond.fieldLink RX1 82 "GoatTower$Scene" "state" "[I", Cond.methodLink RX1 52 yX1_checkGoat, Cond.instanceMethod yX1_checkGoat, Cond.selects RX1 yX1_checkGoat yX1_checkGoat, Cond.code yX1_checkGoat cX1_checkGoat 2 none, Cond.classLink RX1 216 "java/lang/IndexOutOfBoundsException", Cond.initialized "java/lang/IndexOutOfBoundsException", Cond.fieldLink RX1 43 "GoatTower$Scene" "goatCount" "I", Cond.methodLink RX2 75 yX1_gateOf, Cond.instanceMethod yX1_gateOf, Cond.selects RX1 yX1_gateOf yX1_gateOf, Cond.code yX1_gateOf cX1_gateOf 2 (some .int)]
def wsX2_isSame_r2 : List Cond := [Cond.fieldLink RX1 115 "GoatTower$Scene" "gate" "[I", Cond.methodLink RX2 78 yX1_holds, Cond.instanceMethod yX1_holds, Cond.selects RX1 yX1_holds yX1_holds, Cond.code yX1_holds cX1_holds 2 (some .int), Cond.methodLink RX1 87 yX0_held, Cond.instanceMethod yX0_held, Cond.selects RX0 yX0_held yX0_held, Cond.initialized RX0, Cond.code yX0_held cX0_held 2 (some .int), Cond.fieldLink RX0 24 "GoatTower$Scene" "state" "[I", Cond.fieldLink RX0 30 "GoatTower$Scene" "many" "[I", Cond.methodLink RX2 81 yX1_seemingHorns, Cond.instanceMethod yX1_seemingHorns, Cond.selects RX1 yX1_seemingHorns yX1_seemingHorns, Cond.code yX1_seemingHorns cX1_seemingHorns 2 (some .int), Cond.methodLink RX1 118 yX0_seeming, Cond.instanceMethod yX0_seeming, Cond.selects RX0 yX0_seeming yX0_seeming, Cond.code yX0_seeming cX0_seeming 2 (some .int), Cond.fieldLink RX0 21 "GoatTower$Scene" "horns" "[I", Cond.fieldLink RX0 42 "GoatTower$Scene" "waitedForThis" "[I", Cond.methodLink RX2 47 yX2_seem, Cond.instanceMethod yX2_seem]
def wsX2_isSame_r3 : List Cond := [Cond.selects RX2 yX2_seem yX2_seem, Cond.initialized RX2, Cond.code yX2_seem cX2_seem 2 (some .int), Cond.methodLink RX2 84 yX1_minutesLeft, Cond.instanceMethod yX1_minutesLeft, Cond.selects RX1 yX1_minutesLeft yX1_minutesLeft, Cond.code yX1_minutesLeft cX1_minutesLeft 2 (some .int), Cond.fieldLink RX1 121 "GoatTower$Scene" "left" "[I", Cond.methodLink RX2 87 yX1_waitedOf, Cond.instanceMethod yX1_waitedOf, Cond.selects RX1 yX1_waitedOf yX1_waitedOf, Cond.code yX1_waitedOf cX1_waitedOf 2 (some .int), Cond.fieldLink RX1 124 "GoatTower$Scene" "waitedInAll" "[I", Cond.methodLink RX2 90 yX1_placeInLine, Cond.instanceMethod yX1_placeInLine, Cond.selects RX1 yX1_placeInLine yX1_placeInLine, Cond.code yX1_placeInLine cX1_placeInLine 2 (some .int), Cond.methodLink RX1 127 yX0_countAheadOf, Cond.instanceMethod yX0_countAheadOf, Cond.selects RX0 yX0_countAheadOf yX0_countAheadOf, Cond.code yX0_countAheadOf cX0_countAheadOf 4 (some .int), Cond.fieldLink RX0 55 "GoatTower$Scene" "goatCount" "I", Cond.fieldLink RX0 27 "GoatTower$Scene" "gate" "[I", Cond.fieldLink RX0 39 "GoatTower$Scene" "askedAs" "[I"]
def wsX2_isSame_r4 : List Cond := [Cond.methodLink RX0 85 yX0_waitsAt, Cond.instanceMethod yX0_waitsAt, Cond.selects RX0 yX0_waitsAt yX0_waitsAt, Cond.code yX0_waitsAt cX0_waitsAt 3 (some .boolean), Cond.methodLink RX2 93 yX2_place, Cond.instanceMethod yX2_place, Cond.selects RX2 yX2_place yX2_place, Cond.code yX2_place cX2_place 4 (some .int), Cond.methodLink RX2 96 yX1_permitsOf, Cond.instanceMethod yX1_permitsOf, Cond.selects RX1 yX1_permitsOf yX1_permitsOf, Cond.code yX1_permitsOf cX1_permitsOf 2 (some .int), Cond.fieldLink RX1 59 "GoatTower$Scene" "permits" "[I", Cond.methodLink RX1 56 yX1_checkGate, Cond.instanceMethod yX1_checkGate, Cond.selects RX1 yX1_checkGate yX1_checkGate, Cond.code yX1_checkGate cX1_checkGate 2 none, Cond.fieldLink RX1 30 "GoatTower$Scene" "gateCount" "I", Cond.methodLink RX2 99 yX1_freeOf, Cond.instanceMethod yX1_freeOf, Cond.selects RX1 yX1_freeOf yX1_freeOf, Cond.code yX1_freeOf cX1_freeOf 2 (some .int), Cond.methodLink RX1 73 yX0_freePermits, Cond.instanceMethod yX0_freePermits]
def wsX2_isSame_r5 : List Cond := [Cond.selects RX0 yX0_freePermits yX0_freePermits, Cond.code yX0_freePermits cX0_freePermits 4 (some .int), Cond.fieldLink RX0 9 "GoatTower$Scene" "permits" "[I", Cond.methodLink RX2 43 yX2_free, Cond.instanceMethod yX2_free, Cond.selects RX2 yX2_free yX2_free, Cond.code yX2_free cX2_free 7 (some .int), Cond.methodLink RX2 102 yX1_waitingAt, Cond.instanceMethod yX1_waitingAt, Cond.selects RX1 yX1_waitingAt yX1_waitingAt, Cond.code yX1_waitingAt cX1_waitingAt 2 (some .int), Cond.methodLink RX1 70 yX0_countWaitingAt, Cond.instanceMethod yX0_countWaitingAt, Cond.selects RX0 yX0_countWaitingAt yX0_countWaitingAt, Cond.code yX0_countWaitingAt cX0_countWaitingAt 4 (some .int), Cond.methodLink RX2 105 yX1_nextAt, Cond.instanceMethod yX1_nextAt, Cond.selects RX1 yX1_nextAt yX1_nextAt, Cond.code yX1_nextAt cX1_nextAt 2 (some .int), Cond.methodLink RX1 112 yX0_firstIn, Cond.instanceMethod yX0_firstIn, Cond.selects RX0 yX0_firstIn yX0_firstIn, Cond.code yX0_firstIn cX0_firstIn 10 (some .int), Cond.fieldLink RX0 15 "GoatTower$Scene" "order" "[I"]
def wsX2_isSame_r6 : List Cond := [Cond.methodLink RX0 89 yX0_freePermits, Cond.methodLink RX0 92 yX0_seeming, Cond.methodLink RX2 53 yX2_next, Cond.instanceMethod yX2_next, Cond.selects RX2 yX2_next yX2_next, Cond.code yX2_next cX2_next 8 (some .int), Cond.methodLink RX2 108 yX1_minute, Cond.instanceMethod yX1_minute, Cond.selects RX1 yX1_minute yX1_minute, Cond.code yX1_minute cX1_minute 1 (some .int), Cond.fieldLink RX1 99 "GoatTower$Scene" "minute" "I", Cond.methodLink RX2 110 yX1_gates, Cond.instanceMethod yX1_gates, Cond.selects RX1 yX1_gates yX1_gates, Cond.code yX1_gates cX1_gates 1 (some .int), Cond.methodLink RX2 112 yX1_goats, Cond.instanceMethod yX1_goats, Cond.selects RX1 yX1_goats yX1_goats, Cond.code yX1_goats cX1_goats 1 (some .int), Cond.methodLink RX2 114 yX1_waiting, Cond.instanceMethod yX1_waiting, Cond.selects RX1 yX1_waiting yX1_waiting, Cond.code yX1_waiting cX1_waiting 1 (some .int), Cond.methodLink RX1 102 yX0_countInState]
def wsX2_isSame_r7 : List Cond := [Cond.instanceMethod yX0_countInState, Cond.selects RX0 yX0_countInState yX0_countInState, Cond.code yX0_countInState cX0_countInState 4 (some .int), Cond.methodLink RX2 117 yX2_many, Cond.instanceMethod yX2_many, Cond.selects RX2 yX2_many yX2_many, Cond.code yX2_many cX2_many 7 (some .int), Cond.methodLink RX2 120 yX1_inside, Cond.instanceMethod yX1_inside, Cond.selects RX1 yX1_inside yX1_inside, Cond.code yX1_inside cX1_inside 1 (some .int), Cond.methodLink RX2 123 yX1_starving, Cond.instanceMethod yX1_starving, Cond.selects RX1 yX1_starving yX1_starving, Cond.code yX1_starving cX1_starving 1 (some .int), Cond.methodLink RX1 105 yX0_countStarving, Cond.instanceMethod yX0_countStarving, Cond.selects RX0 yX0_countStarving yX0_countStarving, Cond.code yX0_countStarving cX0_countStarving 3 (some .int), Cond.methodLink RX2 126 yX1_letIn, Cond.instanceMethod yX1_letIn, Cond.selects RX1 yX1_letIn yX1_letIn, Cond.code yX1_letIn cX1_letIn 1 (some .int), Cond.fieldLink RX1 93 "GoatTower$Scene" "letInCount" "I"]
def wsX2_isSame_r8 : List Cond := [Cond.methodLink RX2 128 yX1_givenUp, Cond.instanceMethod yX1_givenUp, Cond.selects RX1 yX1_givenUp yX1_givenUp, Cond.code yX1_givenUp cX1_givenUp 1 (some .int), Cond.methodLink RX1 109 yX0_givenUpInAll, Cond.instanceMethod yX0_givenUpInAll, Cond.selects RX0 yX0_givenUpInAll yX0_givenUpInAll, Cond.code yX0_givenUpInAll cX0_givenUpInAll 3 (some .int), Cond.fieldLink RX0 52 "GoatTower$Scene" "gateCount" "I", Cond.fieldLink RX0 18 "GoatTower$Scene" "givenUpAt" "[I", Cond.methodLink RX2 131 yX1_meanWaited, Cond.instanceMethod yX1_meanWaited, Cond.selects RX1 yX1_meanWaited yX1_meanWaited, Cond.code yX1_meanWaited cX1_meanWaited 1 (some .double), Cond.methodLink RX1 141 yX0_sumOfWaited, Cond.instanceMethod yX0_sumOfWaited, Cond.selects RX0 yX0_sumOfWaited yX0_sumOfWaited, Cond.code yX0_sumOfWaited cX0_sumOfWaited 3 (some .int), Cond.fieldLink RX0 45 "GoatTower$Scene" "waitedInAll" "[I"]
def wsX2_isSame : List Cond := .code yX2_isSame cX2_isSame 7 (some .boolean) :: ((wsX2_isSame_r1 ++ (wsX2_isSame_r2 ++ (wsX2_isSame_r3 ++ (wsX2_isSame_r4 ++ (wsX2_isSame_r5 ++ (wsX2_isSame_r6 ++ (wsX2_isSame_r7 ++ wsX2_isSame_r8))))))) ++ wsX20 ++ wsX10 ++ wsX00 ++ (vx_atS RX1 220 "java/lang/IndexOutOfBoundsException" ["java/lang/RuntimeException", "java/lang/Exception"]).filter goodWord)
theorem dX0_init_0 : decode cX0_init 0 = .ok (.aload_n 0, 1) := by decide +kernel
theorem dX0_init_1 : decode cX0_init 1 = .ok (.invokespecial 3, 3) := by decide +kernel
theorem dX0_init_4 : decode cX0_init 4 = .ok (.aload_n 0, 1) := by decide +kernel
theorem dX0_init_5 : decode cX0_init 5 = .ok (.iconst 4, 1) := by decide +kernel
theorem dX0_init_6 : decode cX0_init 6 = .ok (.newarray .int, 2) := by decide +kernel
theorem dX0_init_8 : decode cX0_init 8 = .ok (.putfield 9, 3) := by decide +kernel
theorem dX0_init_11 : decode cX0_init 11 = .ok (.aload_n 0, 1) := by decide +kernel
theorem dX0_init_12 : decode cX0_init 12 = .ok (.iconst 4, 1) := by decide +kernel
theorem dX0_init_13 : decode cX0_init 13 = .ok (.newarray .int, 2) := by decide +kernel
theorem dX0_init_15 : decode cX0_init 15 = .ok (.putfield 15, 3) := by decide +kernel
theorem dX0_init_18 : decode cX0_init 18 = .ok (.aload_n 0, 1) := by decide +kernel
theorem dX0_init_19 : decode cX0_init 19 = .ok (.iconst 4, 1) := by decide +kernel
theorem dX0_init_20 : decode cX0_init 20 = .ok (.newarray .int, 2) := by decide +kernel
theorem dX0_init_22 : decode cX0_init 22 = .ok (.putfield 18, 3) := by decide +kernel
theorem dX0_init_25 : decode cX0_init 25 = .ok (.aload_n 0, 1) := by decide +kernel
theorem dX0_init_26 : decode cX0_init 26 = .ok (.bipush 12, 2) := by decide +kernel
theorem dX0_init_28 : decode cX0_init 28 = .ok (.newarray .int, 2) := by decide +kernel
theorem dX0_init_30 : decode cX0_init 30 = .ok (.putfield 21, 3) := by decide +kernel
theorem dX0_init_33 : decode cX0_init 33 = .ok (.aload_n 0, 1) := by decide +kernel
theorem dX0_init_34 : decode cX0_init 34 = .ok (.bipush 12, 2) := by decide +kernel
theorem dX0_init_36 : decode cX0_init 36 = .ok (.newarray .int, 2) := by decide +kernel
theorem dX0_init_38 : decode cX0_init 38 = .ok (.putfield 24, 3) := by decide +kernel
theorem dX0_init_41 : decode cX0_init 41 = .ok (.aload_n 0, 1) := by decide +kernel
theorem dX0_init_42 : decode cX0_init 42 = .ok (.bipush 12, 2) := by decide +kernel
theorem dX0_init_44 : decode cX0_init 44 = .ok (.newarray .int, 2) := by decide +kernel
theorem dX0_init_46 : decode cX0_init 46 = .ok (.putfield 27, 3) := by decide +kernel
theorem dX0_init_49 : decode cX0_init 49 = .ok (.aload_n 0, 1) := by decide +kernel
theorem dX0_init_50 : decode cX0_init 50 = .ok (.bipush 12, 2) := by decide +kernel
theorem dX0_init_52 : decode cX0_init 52 = .ok (.newarray .int, 2) := by decide +kernel
theorem dX0_init_54 : decode cX0_init 54 = .ok (.putfield 30, 3) := by decide +kernel
theorem dX0_init_57 : decode cX0_init 57 = .ok (.aload_n 0, 1) := by decide +kernel
theorem dX0_init_58 : decode cX0_init 58 = .ok (.bipush 12, 2) := by decide +kernel
theorem dX0_init_60 : decode cX0_init 60 = .ok (.newarray .int, 2) := by decide +kernel
theorem dX0_init_62 : decode cX0_init 62 = .ok (.putfield 33, 3) := by decide +kernel
theorem dX0_init_65 : decode cX0_init 65 = .ok (.aload_n 0, 1) := by decide +kernel
theorem dX0_init_66 : decode cX0_init 66 = .ok (.bipush 12, 2) := by decide +kernel
theorem dX0_init_68 : decode cX0_init 68 = .ok (.newarray .int, 2) := by decide +kernel
theorem dX0_init_70 : decode cX0_init 70 = .ok (.putfield 36, 3) := by decide +kernel
theorem dX0_init_73 : decode cX0_init 73 = .ok (.aload_n 0, 1) := by decide +kernel
theorem dX0_init_74 : decode cX0_init 74 = .ok (.bipush 12, 2) := by decide +kernel
theorem dX0_init_76 : decode cX0_init 76 = .ok (.newarray .int, 2) := by decide +kernel
theorem dX0_init_78 : decode cX0_init 78 = .ok (.putfield 39, 3) := by decide +kernel
theorem dX0_init_81 : decode cX0_init 81 = .ok (.aload_n 0, 1) := by decide +kernel
theorem dX0_init_82 : decode cX0_init 82 = .ok (.bipush 12, 2) := by decide +kernel
theorem dX0_init_84 : decode cX0_init 84 = .ok (.newarray .int, 2) := by decide +kernel
theorem dX0_init_86 : decode cX0_init 86 = .ok (.putfield 42, 3) := by decide +kernel
theorem dX0_init_89 : decode cX0_init 89 = .ok (.aload_n 0, 1) := by decide +kernel
theorem dX0_init_90 : decode cX0_init 90 = .ok (.bipush 12, 2) := by decide +kernel
theorem dX0_init_92 : decode cX0_init 92 = .ok (.newarray .int, 2) := by decide +kernel
theorem dX0_init_94 : decode cX0_init 94 = .ok (.putfield 45, 3) := by decide +kernel
theorem dX0_init_97 : decode cX0_init 97 = .ok (.return_, 1) := by decide +kernel
theorem dX0_become_0 : decode cX0_become 0 = .ok (.aload_n 0, 1) := by decide +kernel
theorem dX0_become_1 : decode cX0_become 1 = .ok (.aload_n 1, 1) := by decide +kernel
theorem dX0_become_2 : decode cX0_become 2 = .ok (.getfield 48, 3) := by decide +kernel
theorem dX0_become_5 : decode cX0_become 5 = .ok (.putfield 48, 3) := by decide +kernel
theorem dX0_become_8 : decode cX0_become 8 = .ok (.aload_n 0, 1) := by decide +kernel
theorem dX0_become_9 : decode cX0_become 9 = .ok (.aload_n 1, 1) := by decide +kernel
theorem dX0_become_10 : decode cX0_become 10 = .ok (.getfield 52, 3) := by decide +kernel
theorem dX0_become_13 : decode cX0_become 13 = .ok (.putfield 52, 3) := by decide +kernel
theorem dX0_become_16 : decode cX0_become 16 = .ok (.aload_n 0, 1) := by decide +kernel
theorem dX0_become_17 : decode cX0_become 17 = .ok (.aload_n 1, 1) := by decide +kernel
theorem dX0_become_18 : decode cX0_become 18 = .ok (.getfield 55, 3) := by decide +kernel
theorem dX0_become_21 : decode cX0_become 21 = .ok (.putfield 55, 3) := by decide +kernel
theorem dX0_become_24 : decode cX0_become 24 = .ok (.aload_n 0, 1) := by decide +kernel
theorem dX0_become_25 : decode cX0_become 25 = .ok (.aload_n 1, 1) := by decide +kernel
theorem dX0_become_26 : decode cX0_become 26 = .ok (.getfield 58, 3) := by decide +kernel
theorem dX0_become_29 : decode cX0_become 29 = .ok (.putfield 58, 3) := by decide +kernel
theorem dX0_become_32 : decode cX0_become 32 = .ok (.aload_n 0, 1) := by decide +kernel
theorem dX0_become_33 : decode cX0_become 33 = .ok (.aload_n 1, 1) := by decide +kernel
theorem dX0_become_34 : decode cX0_become 34 = .ok (.getfield 61, 3) := by decide +kernel
theorem dX0_become_37 : decode cX0_become 37 = .ok (.putfield 61, 3) := by decide +kernel
theorem dX0_become_40 : decode cX0_become 40 = .ok (.iconst 0, 1) := by decide +kernel
theorem dX0_become_41 : decode cX0_become 41 = .ok (.istore_n 2, 1) := by decide +kernel
theorem dX0_become_42 : decode cX0_become 42 = .ok (.iload_n 2, 1) := by decide +kernel
theorem dX0_become_43 : decode cX0_become 43 = .ok (.iconst 4, 1) := by decide +kernel
theorem dX0_become_44 : decode cX0_become 44 = .ok (.if_icmp .ge 45, 3) := by decide +kernel
theorem dX0_become_47 : decode cX0_become 47 = .ok (.aload_n 0, 1) := by decide +kernel
theorem dX0_become_48 : decode cX0_become 48 = .ok (.getfield 9, 3) := by decide +kernel
theorem dX0_become_51 : decode cX0_become 51 = .ok (.iload_n 2, 1) := by decide +kernel
theorem dX0_become_52 : decode cX0_become 52 = .ok (.aload_n 1, 1) := by decide +kernel
theorem dX0_become_53 : decode cX0_become 53 = .ok (.getfield 9, 3) := by decide +kernel
theorem dX0_become_56 : decode cX0_become 56 = .ok (.iload_n 2, 1) := by decide +kernel
theorem dX0_become_57 : decode cX0_become 57 = .ok (.iaload, 1) := by decide +kernel
theorem dX0_become_58 : decode cX0_become 58 = .ok (.iastore, 1) := by decide +kernel
theorem dX0_become_59 : decode cX0_become 59 = .ok (.aload_n 0, 1) := by decide +kernel
theorem dX0_become_60 : decode cX0_become 60 = .ok (.getfield 15, 3) := by decide +kernel
theorem dX0_become_63 : decode cX0_become 63 = .ok (.iload_n 2, 1) := by decide +kernel
theorem dX0_become_64 : decode cX0_become 64 = .ok (.aload_n 1, 1) := by decide +kernel
theorem dX0_become_65 : decode cX0_become 65 = .ok (.getfield 15, 3) := by decide +kernel
theorem dX0_become_68 : decode cX0_become 68 = .ok (.iload_n 2, 1) := by decide +kernel
theorem dX0_become_69 : decode cX0_become 69 = .ok (.iaload, 1) := by decide +kernel
theorem dX0_become_70 : decode cX0_become 70 = .ok (.iastore, 1) := by decide +kernel
theorem dX0_become_71 : decode cX0_become 71 = .ok (.aload_n 0, 1) := by decide +kernel
theorem dX0_become_72 : decode cX0_become 72 = .ok (.getfield 18, 3) := by decide +kernel
theorem dX0_become_75 : decode cX0_become 75 = .ok (.iload_n 2, 1) := by decide +kernel
theorem dX0_become_76 : decode cX0_become 76 = .ok (.aload_n 1, 1) := by decide +kernel
theorem dX0_become_77 : decode cX0_become 77 = .ok (.getfield 18, 3) := by decide +kernel
theorem dX0_become_80 : decode cX0_become 80 = .ok (.iload_n 2, 1) := by decide +kernel
theorem dX0_become_81 : decode cX0_become 81 = .ok (.iaload, 1) := by decide +kernel
theorem dX0_become_82 : decode cX0_become 82 = .ok (.iastore, 1) := by decide +kernel
theorem dX0_become_83 : decode cX0_become 83 = .ok (.iinc 2 1, 3) := by decide +kernel
theorem dX0_become_86 : decode cX0_become 86 = .ok (.goto (-44), 3) := by decide +kernel
theorem dX0_become_89 : decode cX0_become 89 = .ok (.iconst 0, 1) := by decide +kernel
theorem dX0_become_90 : decode cX0_become 90 = .ok (.istore_n 2, 1) := by decide +kernel
theorem dX0_become_91 : decode cX0_become 91 = .ok (.iload_n 2, 1) := by decide +kernel
theorem dX0_become_92 : decode cX0_become 92 = .ok (.bipush 12, 2) := by decide +kernel
theorem dX0_become_94 : decode cX0_become 94 = .ok (.if_icmp .ge 117, 3) := by decide +kernel
theorem dX0_become_97 : decode cX0_become 97 = .ok (.aload_n 0, 1) := by decide +kernel
theorem dX0_become_98 : decode cX0_become 98 = .ok (.getfield 21, 3) := by decide +kernel
theorem dX0_become_101 : decode cX0_become 101 = .ok (.iload_n 2, 1) := by decide +kernel
theorem dX0_become_102 : decode cX0_become 102 = .ok (.aload_n 1, 1) := by decide +kernel
theorem dX0_become_103 : decode cX0_become 103 = .ok (.getfield 21, 3) := by decide +kernel
theorem dX0_become_106 : decode cX0_become 106 = .ok (.iload_n 2, 1) := by decide +kernel
theorem dX0_become_107 : decode cX0_become 107 = .ok (.iaload, 1) := by decide +kernel
theorem dX0_become_108 : decode cX0_become 108 = .ok (.iastore, 1) := by decide +kernel
theorem dX0_become_109 : decode cX0_become 109 = .ok (.aload_n 0, 1) := by decide +kernel
theorem dX0_become_110 : decode cX0_become 110 = .ok (.getfield 24, 3) := by decide +kernel
theorem dX0_become_113 : decode cX0_become 113 = .ok (.iload_n 2, 1) := by decide +kernel
theorem dX0_become_114 : decode cX0_become 114 = .ok (.aload_n 1, 1) := by decide +kernel
theorem dX0_become_115 : decode cX0_become 115 = .ok (.getfield 24, 3) := by decide +kernel
theorem dX0_become_118 : decode cX0_become 118 = .ok (.iload_n 2, 1) := by decide +kernel
theorem dX0_become_119 : decode cX0_become 119 = .ok (.iaload, 1) := by decide +kernel
theorem dX0_become_120 : decode cX0_become 120 = .ok (.iastore, 1) := by decide +kernel
theorem dX0_become_121 : decode cX0_become 121 = .ok (.aload_n 0, 1) := by decide +kernel
theorem dX0_become_122 : decode cX0_become 122 = .ok (.getfield 27, 3) := by decide +kernel
theorem dX0_become_125 : decode cX0_become 125 = .ok (.iload_n 2, 1) := by decide +kernel
theorem dX0_become_126 : decode cX0_become 126 = .ok (.aload_n 1, 1) := by decide +kernel
theorem dX0_become_127 : decode cX0_become 127 = .ok (.getfield 27, 3) := by decide +kernel
theorem dX0_become_130 : decode cX0_become 130 = .ok (.iload_n 2, 1) := by decide +kernel
theorem dX0_become_131 : decode cX0_become 131 = .ok (.iaload, 1) := by decide +kernel
theorem dX0_become_132 : decode cX0_become 132 = .ok (.iastore, 1) := by decide +kernel
theorem dX0_become_133 : decode cX0_become 133 = .ok (.aload_n 0, 1) := by decide +kernel
theorem dX0_become_134 : decode cX0_become 134 = .ok (.getfield 30, 3) := by decide +kernel
theorem dX0_become_137 : decode cX0_become 137 = .ok (.iload_n 2, 1) := by decide +kernel
theorem dX0_become_138 : decode cX0_become 138 = .ok (.aload_n 1, 1) := by decide +kernel
theorem dX0_become_139 : decode cX0_become 139 = .ok (.getfield 30, 3) := by decide +kernel
theorem dX0_become_142 : decode cX0_become 142 = .ok (.iload_n 2, 1) := by decide +kernel
theorem dX0_become_143 : decode cX0_become 143 = .ok (.iaload, 1) := by decide +kernel
theorem dX0_become_144 : decode cX0_become 144 = .ok (.iastore, 1) := by decide +kernel
theorem dX0_become_145 : decode cX0_become 145 = .ok (.aload_n 0, 1) := by decide +kernel
theorem dX0_become_146 : decode cX0_become 146 = .ok (.getfield 33, 3) := by decide +kernel
theorem dX0_become_149 : decode cX0_become 149 = .ok (.iload_n 2, 1) := by decide +kernel
theorem dX0_become_150 : decode cX0_become 150 = .ok (.aload_n 1, 1) := by decide +kernel
theorem dX0_become_151 : decode cX0_become 151 = .ok (.getfield 33, 3) := by decide +kernel
theorem dX0_become_154 : decode cX0_become 154 = .ok (.iload_n 2, 1) := by decide +kernel
theorem dX0_become_155 : decode cX0_become 155 = .ok (.iaload, 1) := by decide +kernel
theorem dX0_become_156 : decode cX0_become 156 = .ok (.iastore, 1) := by decide +kernel
theorem dX0_become_157 : decode cX0_become 157 = .ok (.aload_n 0, 1) := by decide +kernel
theorem dX0_become_158 : decode cX0_become 158 = .ok (.getfield 36, 3) := by decide +kernel
theorem dX0_become_161 : decode cX0_become 161 = .ok (.iload_n 2, 1) := by decide +kernel
theorem dX0_become_162 : decode cX0_become 162 = .ok (.aload_n 1, 1) := by decide +kernel
theorem dX0_become_163 : decode cX0_become 163 = .ok (.getfield 36, 3) := by decide +kernel
theorem dX0_become_166 : decode cX0_become 166 = .ok (.iload_n 2, 1) := by decide +kernel
theorem dX0_become_167 : decode cX0_become 167 = .ok (.iaload, 1) := by decide +kernel
theorem dX0_become_168 : decode cX0_become 168 = .ok (.iastore, 1) := by decide +kernel
theorem dX0_become_169 : decode cX0_become 169 = .ok (.aload_n 0, 1) := by decide +kernel
theorem dX0_become_170 : decode cX0_become 170 = .ok (.getfield 39, 3) := by decide +kernel
theorem dX0_become_173 : decode cX0_become 173 = .ok (.iload_n 2, 1) := by decide +kernel
theorem dX0_become_174 : decode cX0_become 174 = .ok (.aload_n 1, 1) := by decide +kernel
theorem dX0_become_175 : decode cX0_become 175 = .ok (.getfield 39, 3) := by decide +kernel
theorem dX0_become_178 : decode cX0_become 178 = .ok (.iload_n 2, 1) := by decide +kernel
theorem dX0_become_179 : decode cX0_become 179 = .ok (.iaload, 1) := by decide +kernel
theorem dX0_become_180 : decode cX0_become 180 = .ok (.iastore, 1) := by decide +kernel
theorem dX0_become_181 : decode cX0_become 181 = .ok (.aload_n 0, 1) := by decide +kernel
theorem dX0_become_182 : decode cX0_become 182 = .ok (.getfield 42, 3) := by decide +kernel
theorem dX0_become_185 : decode cX0_become 185 = .ok (.iload_n 2, 1) := by decide +kernel
theorem dX0_become_186 : decode cX0_become 186 = .ok (.aload_n 1, 1) := by decide +kernel
theorem dX0_become_187 : decode cX0_become 187 = .ok (.getfield 42, 3) := by decide +kernel
theorem dX0_become_190 : decode cX0_become 190 = .ok (.iload_n 2, 1) := by decide +kernel
theorem dX0_become_191 : decode cX0_become 191 = .ok (.iaload, 1) := by decide +kernel
theorem dX0_become_192 : decode cX0_become 192 = .ok (.iastore, 1) := by decide +kernel
theorem dX0_become_193 : decode cX0_become 193 = .ok (.aload_n 0, 1) := by decide +kernel
theorem dX0_become_194 : decode cX0_become 194 = .ok (.getfield 45, 3) := by decide +kernel
theorem dX0_become_197 : decode cX0_become 197 = .ok (.iload_n 2, 1) := by decide +kernel
theorem dX0_become_198 : decode cX0_become 198 = .ok (.aload_n 1, 1) := by decide +kernel
theorem dX0_become_199 : decode cX0_become 199 = .ok (.getfield 45, 3) := by decide +kernel
theorem dX0_become_202 : decode cX0_become 202 = .ok (.iload_n 2, 1) := by decide +kernel
theorem dX0_become_203 : decode cX0_become 203 = .ok (.iaload, 1) := by decide +kernel
theorem dX0_become_204 : decode cX0_become 204 = .ok (.iastore, 1) := by decide +kernel
theorem dX0_become_205 : decode cX0_become 205 = .ok (.iinc 2 1, 3) := by decide +kernel
theorem dX0_become_208 : decode cX0_become 208 = .ok (.goto (-117), 3) := by decide +kernel
theorem dX0_become_211 : decode cX0_become 211 = .ok (.return_, 1) := by decide +kernel
theorem dX0_openGate_0 : decode cX0_openGate 0 = .ok (.aload_n 0, 1) := by decide +kernel
theorem dX0_openGate_1 : decode cX0_openGate 1 = .ok (.getfield 52, 3) := by decide +kernel
theorem dX0_openGate_4 : decode cX0_openGate 4 = .ok (.istore_n 3, 1) := by decide +kernel
theorem dX0_openGate_5 : decode cX0_openGate 5 = .ok (.aload_n 0, 1) := by decide +kernel
theorem dX0_openGate_6 : decode cX0_openGate 6 = .ok (.getfield 9, 3) := by decide +kernel
theorem dX0_openGate_9 : decode cX0_openGate 9 = .ok (.iload_n 3, 1) := by decide +kernel
theorem dX0_openGate_10 : decode cX0_openGate 10 = .ok (.iload_n 1, 1) := by decide +kernel
theorem dX0_openGate_11 : decode cX0_openGate 11 = .ok (.iastore, 1) := by decide +kernel
theorem dX0_openGate_12 : decode cX0_openGate 12 = .ok (.aload_n 0, 1) := by decide +kernel
theorem dX0_openGate_13 : decode cX0_openGate 13 = .ok (.getfield 15, 3) := by decide +kernel
theorem dX0_openGate_16 : decode cX0_openGate 16 = .ok (.iload_n 3, 1) := by decide +kernel
theorem dX0_openGate_17 : decode cX0_openGate 17 = .ok (.iload_n 2, 1) := by decide +kernel
theorem dX0_openGate_18 : decode cX0_openGate 18 = .ok (.iastore, 1) := by decide +kernel
theorem dX0_openGate_19 : decode cX0_openGate 19 = .ok (.aload_n 0, 1) := by decide +kernel
theorem dX0_openGate_20 : decode cX0_openGate 20 = .ok (.dup, 1) := by decide +kernel
theorem dX0_openGate_21 : decode cX0_openGate 21 = .ok (.getfield 52, 3) := by decide +kernel
theorem dX0_openGate_24 : decode cX0_openGate 24 = .ok (.iconst 1, 1) := by decide +kernel
theorem dX0_openGate_25 : decode cX0_openGate 25 = .ok (.iadd, 1) := by decide +kernel
theorem dX0_openGate_26 : decode cX0_openGate 26 = .ok (.putfield 52, 3) := by decide +kernel
theorem dX0_openGate_29 : decode cX0_openGate 29 = .ok (.iload_n 3, 1) := by decide +kernel
theorem dX0_openGate_30 : decode cX0_openGate 30 = .ok (.ireturn, 1) := by decide +kernel
set_option maxRecDepth 20000 in
theorem ggX0_bringGoat_X0_rest : GoodIn wsX0_bringGoat wsX0_rest := goodIn_r _ [7, 8, 9, 10, 11, 12, 13, 14, 15, 16, 17, 18, 19, 20, 21, 22, 23, 24, 25, 26, 27, 28] (by decide +kernel) (by decide +kernel)
set_option maxRecDepth 20000 in
theorem gX0_bringGoat_X0_rest : GoodIn wsX0_bringGoat (wsV RX0 64 RX0 yX0_rest wsX0_rest) := goodIn_app (goodIn_of _ (by decide +kernel)) ggX0_bringGoat_X0_rest
theorem dX0_bringGoat_0 : decode cX0_bringGoat 0 = .ok (.aload_n 0, 1) := by decide +kernel
theorem dX0_bringGoat_1 : decode cX0_bringGoat 1 = .ok (.getfield 55, 3) := by decide +kernel
theorem dX0_bringGoat_4 : decode cX0_bringGoat 4 = .ok (.istore_n 2, 1) := by decide +kernel
theorem dX0_bringGoat_5 : decode cX0_bringGoat 5 = .ok (.aload_n 0, 1) := by decide +kernel
theorem dX0_bringGoat_6 : decode cX0_bringGoat 6 = .ok (.getfield 21, 3) := by decide +kernel
theorem dX0_bringGoat_9 : decode cX0_bringGoat 9 = .ok (.iload_n 2, 1) := by decide +kernel
theorem dX0_bringGoat_10 : decode cX0_bringGoat 10 = .ok (.iload_n 1, 1) := by decide +kernel
theorem dX0_bringGoat_11 : decode cX0_bringGoat 11 = .ok (.iastore, 1) := by decide +kernel
theorem dX0_bringGoat_12 : decode cX0_bringGoat 12 = .ok (.aload_n 0, 1) := by decide +kernel
theorem dX0_bringGoat_13 : decode cX0_bringGoat 13 = .ok (.iload_n 2, 1) := by decide +kernel
theorem dX0_bringGoat_14 : decode cX0_bringGoat 14 = .ok (.invokevirtual 64, 3) := by decide +kernel
theorem dX0_bringGoat_17 : decode cX0_bringGoat 17 = .ok (.aload_n 0, 1) := by decide +kernel
theorem dX0_bringGoat_18 : decode cX0_bringGoat 18 = .ok (.dup, 1) := by decide +kernel
theorem dX0_bringGoat_19 : decode cX0_bringGoat 19 = .ok (.getfield 55, 3) := by decide +kernel
theorem dX0_bringGoat_22 : decode cX0_bringGoat 22 = .ok (.iconst 1, 1) := by decide +kernel
theorem dX0_bringGoat_23 : decode cX0_bringGoat 23 = .ok (.iadd, 1) := by decide +kernel
theorem dX0_bringGoat_24 : decode cX0_bringGoat 24 = .ok (.putfield 55, 3) := by decide +kernel
theorem dX0_bringGoat_27 : decode cX0_bringGoat 27 = .ok (.iload_n 2, 1) := by decide +kernel
theorem dX0_bringGoat_28 : decode cX0_bringGoat 28 = .ok (.ireturn, 1) := by decide +kernel
theorem dX0_rest_0 : decode cX0_rest 0 = .ok (.aload_n 0, 1) := by decide +kernel
theorem dX0_rest_1 : decode cX0_rest 1 = .ok (.getfield 24, 3) := by decide +kernel
theorem dX0_rest_4 : decode cX0_rest 4 = .ok (.iload_n 1, 1) := by decide +kernel
theorem dX0_rest_5 : decode cX0_rest 5 = .ok (.iconst 0, 1) := by decide +kernel
theorem dX0_rest_6 : decode cX0_rest 6 = .ok (.iastore, 1) := by decide +kernel
theorem dX0_rest_7 : decode cX0_rest 7 = .ok (.aload_n 0, 1) := by decide +kernel
theorem dX0_rest_8 : decode cX0_rest 8 = .ok (.getfield 27, 3) := by decide +kernel
theorem dX0_rest_11 : decode cX0_rest 11 = .ok (.iload_n 1, 1) := by decide +kernel
theorem dX0_rest_12 : decode cX0_rest 12 = .ok (.iconst (-1), 1) := by decide +kernel
theorem dX0_rest_13 : decode cX0_rest 13 = .ok (.iastore, 1) := by decide +kernel
theorem dX0_rest_14 : decode cX0_rest 14 = .ok (.aload_n 0, 1) := by decide +kernel
theorem dX0_rest_15 : decode cX0_rest 15 = .ok (.getfield 36, 3) := by decide +kernel
theorem dX0_rest_18 : decode cX0_rest 18 = .ok (.iload_n 1, 1) := by decide +kernel
theorem dX0_rest_19 : decode cX0_rest 19 = .ok (.iconst 0, 1) := by decide +kernel
theorem dX0_rest_20 : decode cX0_rest 20 = .ok (.iastore, 1) := by decide +kernel
theorem dX0_rest_21 : decode cX0_rest 21 = .ok (.aload_n 0, 1) := by decide +kernel
theorem dX0_rest_22 : decode cX0_rest 22 = .ok (.getfield 42, 3) := by decide +kernel
theorem dX0_rest_25 : decode cX0_rest 25 = .ok (.iload_n 1, 1) := by decide +kernel
theorem dX0_rest_26 : decode cX0_rest 26 = .ok (.iconst 0, 1) := by decide +kernel
theorem dX0_rest_27 : decode cX0_rest 27 = .ok (.iastore, 1) := by decide +kernel
theorem dX0_rest_28 : decode cX0_rest 28 = .ok (.return_, 1) := by decide +kernel
theorem dX0_lineUp_0 : decode cX0_lineUp 0 = .ok (.aload_n 0, 1) := by decide +kernel
theorem dX0_lineUp_1 : decode cX0_lineUp 1 = .ok (.getfield 24, 3) := by decide +kernel
theorem dX0_lineUp_4 : decode cX0_lineUp 4 = .ok (.iload_n 1, 1) := by decide +kernel
theorem dX0_lineUp_5 : decode cX0_lineUp 5 = .ok (.iconst 1, 1) := by decide +kernel
theorem dX0_lineUp_6 : decode cX0_lineUp 6 = .ok (.iastore, 1) := by decide +kernel
theorem dX0_lineUp_7 : decode cX0_lineUp 7 = .ok (.aload_n 0, 1) := by decide +kernel
theorem dX0_lineUp_8 : decode cX0_lineUp 8 = .ok (.getfield 27, 3) := by decide +kernel
theorem dX0_lineUp_11 : decode cX0_lineUp 11 = .ok (.iload_n 1, 1) := by decide +kernel
theorem dX0_lineUp_12 : decode cX0_lineUp 12 = .ok (.iload_n 2, 1) := by decide +kernel
theorem dX0_lineUp_13 : decode cX0_lineUp 13 = .ok (.iastore, 1) := by decide +kernel
theorem dX0_lineUp_14 : decode cX0_lineUp 14 = .ok (.aload_n 0, 1) := by decide +kernel
theorem dX0_lineUp_15 : decode cX0_lineUp 15 = .ok (.getfield 30, 3) := by decide +kernel
theorem dX0_lineUp_18 : decode cX0_lineUp 18 = .ok (.iload_n 1, 1) := by decide +kernel
theorem dX0_lineUp_19 : decode cX0_lineUp 19 = .ok (.iload_n 3, 1) := by decide +kernel
theorem dX0_lineUp_20 : decode cX0_lineUp 20 = .ok (.iastore, 1) := by decide +kernel
theorem dX0_lineUp_21 : decode cX0_lineUp 21 = .ok (.aload_n 0, 1) := by decide +kernel
theorem dX0_lineUp_22 : decode cX0_lineUp 22 = .ok (.getfield 33, 3) := by decide +kernel
theorem dX0_lineUp_25 : decode cX0_lineUp 25 = .ok (.iload_n 1, 1) := by decide +kernel
theorem dX0_lineUp_26 : decode cX0_lineUp 26 = .ok (.iload 4, 2) := by decide +kernel
theorem dX0_lineUp_28 : decode cX0_lineUp 28 = .ok (.iastore, 1) := by decide +kernel
theorem dX0_lineUp_29 : decode cX0_lineUp 29 = .ok (.aload_n 0, 1) := by decide +kernel
theorem dX0_lineUp_30 : decode cX0_lineUp 30 = .ok (.getfield 36, 3) := by decide +kernel
theorem dX0_lineUp_33 : decode cX0_lineUp 33 = .ok (.iload_n 1, 1) := by decide +kernel
theorem dX0_lineUp_34 : decode cX0_lineUp 34 = .ok (.iload 5, 2) := by decide +kernel
theorem dX0_lineUp_36 : decode cX0_lineUp 36 = .ok (.iastore, 1) := by decide +kernel
theorem dX0_lineUp_37 : decode cX0_lineUp 37 = .ok (.aload_n 0, 1) := by decide +kernel
theorem dX0_lineUp_38 : decode cX0_lineUp 38 = .ok (.getfield 39, 3) := by decide +kernel
theorem dX0_lineUp_41 : decode cX0_lineUp 41 = .ok (.iload_n 1, 1) := by decide +kernel
theorem dX0_lineUp_42 : decode cX0_lineUp 42 = .ok (.aload_n 0, 1) := by decide +kernel
theorem dX0_lineUp_43 : decode cX0_lineUp 43 = .ok (.getfield 58, 3) := by decide +kernel
theorem dX0_lineUp_46 : decode cX0_lineUp 46 = .ok (.iastore, 1) := by decide +kernel
theorem dX0_lineUp_47 : decode cX0_lineUp 47 = .ok (.aload_n 0, 1) := by decide +kernel
theorem dX0_lineUp_48 : decode cX0_lineUp 48 = .ok (.dup, 1) := by decide +kernel
theorem dX0_lineUp_49 : decode cX0_lineUp 49 = .ok (.getfield 58, 3) := by decide +kernel
theorem dX0_lineUp_52 : decode cX0_lineUp 52 = .ok (.iconst 1, 1) := by decide +kernel
theorem dX0_lineUp_53 : decode cX0_lineUp 53 = .ok (.iadd, 1) := by decide +kernel
theorem dX0_lineUp_54 : decode cX0_lineUp 54 = .ok (.putfield 58, 3) := by decide +kernel
theorem dX0_lineUp_57 : decode cX0_lineUp 57 = .ok (.return_, 1) := by decide +kernel
theorem dX0_enter_0 : decode cX0_enter 0 = .ok (.aload_n 0, 1) := by decide +kernel
theorem dX0_enter_1 : decode cX0_enter 1 = .ok (.getfield 24, 3) := by decide +kernel
theorem dX0_enter_4 : decode cX0_enter 4 = .ok (.iload_n 1, 1) := by decide +kernel
theorem dX0_enter_5 : decode cX0_enter 5 = .ok (.iconst 2, 1) := by decide +kernel
theorem dX0_enter_6 : decode cX0_enter 6 = .ok (.iastore, 1) := by decide +kernel
theorem dX0_enter_7 : decode cX0_enter 7 = .ok (.aload_n 0, 1) := by decide +kernel
theorem dX0_enter_8 : decode cX0_enter 8 = .ok (.getfield 27, 3) := by decide +kernel
theorem dX0_enter_11 : decode cX0_enter 11 = .ok (.iload_n 1, 1) := by decide +kernel
theorem dX0_enter_12 : decode cX0_enter 12 = .ok (.iload_n 2, 1) := by decide +kernel
theorem dX0_enter_13 : decode cX0_enter 13 = .ok (.iastore, 1) := by decide +kernel
theorem dX0_enter_14 : decode cX0_enter 14 = .ok (.aload_n 0, 1) := by decide +kernel
theorem dX0_enter_15 : decode cX0_enter 15 = .ok (.getfield 30, 3) := by decide +kernel
theorem dX0_enter_18 : decode cX0_enter 18 = .ok (.iload_n 1, 1) := by decide +kernel
theorem dX0_enter_19 : decode cX0_enter 19 = .ok (.iload_n 3, 1) := by decide +kernel
theorem dX0_enter_20 : decode cX0_enter 20 = .ok (.iastore, 1) := by decide +kernel
theorem dX0_enter_21 : decode cX0_enter 21 = .ok (.aload_n 0, 1) := by decide +kernel
theorem dX0_enter_22 : decode cX0_enter 22 = .ok (.getfield 36, 3) := by decide +kernel
theorem dX0_enter_25 : decode cX0_enter 25 = .ok (.iload_n 1, 1) := by decide +kernel
theorem dX0_enter_26 : decode cX0_enter 26 = .ok (.iload 4, 2) := by decide +kernel
theorem dX0_enter_28 : decode cX0_enter 28 = .ok (.iastore, 1) := by decide +kernel
theorem dX0_enter_29 : decode cX0_enter 29 = .ok (.aload_n 0, 1) := by decide +kernel
theorem dX0_enter_30 : decode cX0_enter 30 = .ok (.getfield 42, 3) := by decide +kernel
theorem dX0_enter_33 : decode cX0_enter 33 = .ok (.iload_n 1, 1) := by decide +kernel
theorem dX0_enter_34 : decode cX0_enter 34 = .ok (.iconst 0, 1) := by decide +kernel
theorem dX0_enter_35 : decode cX0_enter 35 = .ok (.iastore, 1) := by decide +kernel
theorem dX0_enter_36 : decode cX0_enter 36 = .ok (.return_, 1) := by decide +kernel
set_option maxRecDepth 20000 in
theorem ggX0_liveAMinute_X0_leaveThoseWhoStayed : GoodIn wsX0_liveAMinute wsX0_leaveThoseWhoStayed := goodIn_r _ [7, 8, 9, 10, 11, 12, 13, 6, 14, 15, 16, 54, 55, 56, 57, 58, 59, 60, 61, 62, 63, 64, 65, 66, 67, 68, 69, 70] (by decide +kernel) (by decide +kernel)
set_option maxRecDepth 20000 in
theorem gX0_liveAMinute_X0_leaveThoseWhoStayed : GoodIn wsX0_liveAMinute (wsV RX0 68 RX0 yX0_leaveThoseWhoStayed wsX0_leaveThoseWhoStayed) := goodIn_app (goodIn_of _ (by decide +kernel)) ggX0_liveAMinute_X0_leaveThoseWhoStayed
set_option maxRecDepth 20000 in
theorem ggX0_liveAMinute_X0_letInThrough : GoodIn wsX0_liveAMinute wsX0_letInThrough := goodIn_r _ [20, 8, 21, 22, 23, 24, 25, 26, 6, 27, 28, 29, 30, 31, 32, 33, 34, 9, 15, 35, 36, 37, 38, 39, 40, 41, 42, 43, 16, 44, 45, 46, 47, 10, 54, 55, 56, 57, 58, 59, 60, 61, 62, 63, 64, 65, 66, 67, 68, 69, 70] (by decide +kernel) (by decide +kernel)
set_option maxRecDepth 20000 in
theorem gX0_liveAMinute_X0_letInThrough : GoodIn wsX0_liveAMinute (wsV RX0 71 RX0 yX0_letInThrough wsX0_letInThrough) := goodIn_app (goodIn_of _ (by decide +kernel)) ggX0_liveAMinute_X0_letInThrough
set_option maxRecDepth 20000 in
theorem ggX0_liveAMinute_X0_waitOnAt : GoodIn wsX0_liveAMinute wsX0_waitOnAt := goodIn_r _ [51, 8, 16, 52, 10, 53, 35, 36, 37, 6, 38, 9, 15, 11, 12, 13, 14, 54, 55, 56, 57, 58, 59, 60, 61, 62, 63, 64, 65, 66, 67, 68, 69, 70] (by decide +kernel) (by decide +kernel)
set_option maxRecDepth 20000 in
theorem gX0_liveAMinute_X0_waitOnAt : GoodIn wsX0_liveAMinute (wsV RX0 74 RX0 yX0_waitOnAt wsX0_waitOnAt) := goodIn_app (goodIn_of _ (by decide +kernel)) ggX0_liveAMinute_X0_waitOnAt
theorem dX0_liveAMinute_0 : decode cX0_liveAMinute 0 = .ok (.aload_n 0, 1) := by decide +kernel
theorem dX0_liveAMinute_1 : decode cX0_liveAMinute 1 = .ok (.invokevirtual 68, 3) := by decide +kernel
theorem dX0_liveAMinute_4 : decode cX0_liveAMinute 4 = .ok (.iconst 0, 1) := by decide +kernel
theorem dX0_liveAMinute_5 : decode cX0_liveAMinute 5 = .ok (.istore_n 1, 1) := by decide +kernel
theorem dX0_liveAMinute_6 : decode cX0_liveAMinute 6 = .ok (.iload_n 1, 1) := by decide +kernel
theorem dX0_liveAMinute_7 : decode cX0_liveAMinute 7 = .ok (.aload_n 0, 1) := by decide +kernel
theorem dX0_liveAMinute_8 : decode cX0_liveAMinute 8 = .ok (.getfield 52, 3) := by decide +kernel
theorem dX0_liveAMinute_11 : decode cX0_liveAMinute 11 = .ok (.if_icmp .ge 14, 3) := by decide +kernel
theorem dX0_liveAMinute_14 : decode cX0_liveAMinute 14 = .ok (.aload_n 0, 1) := by decide +kernel
theorem dX0_liveAMinute_15 : decode cX0_liveAMinute 15 = .ok (.iload_n 1, 1) := by decide +kernel
theorem dX0_liveAMinute_16 : decode cX0_liveAMinute 16 = .ok (.invokevirtual 71, 3) := by decide +kernel
theorem dX0_liveAMinute_19 : decode cX0_liveAMinute 19 = .ok (.iinc 1 1, 3) := by decide +kernel
theorem dX0_liveAMinute_22 : decode cX0_liveAMinute 22 = .ok (.goto (-16), 3) := by decide +kernel
theorem dX0_liveAMinute_25 : decode cX0_liveAMinute 25 = .ok (.iconst 0, 1) := by decide +kernel
theorem dX0_liveAMinute_26 : decode cX0_liveAMinute 26 = .ok (.istore_n 1, 1) := by decide +kernel
theorem dX0_liveAMinute_27 : decode cX0_liveAMinute 27 = .ok (.iload_n 1, 1) := by decide +kernel
theorem dX0_liveAMinute_28 : decode cX0_liveAMinute 28 = .ok (.aload_n 0, 1) := by decide +kernel
theorem dX0_liveAMinute_29 : decode cX0_liveAMinute 29 = .ok (.getfield 52, 3) := by decide +kernel
theorem dX0_liveAMinute_32 : decode cX0_liveAMinute 32 = .ok (.if_icmp .ge 14, 3) := by decide +kernel
theorem dX0_liveAMinute_35 : decode cX0_liveAMinute 35 = .ok (.aload_n 0, 1) := by decide +kernel
theorem dX0_liveAMinute_36 : decode cX0_liveAMinute 36 = .ok (.iload_n 1, 1) := by decide +kernel
theorem dX0_liveAMinute_37 : decode cX0_liveAMinute 37 = .ok (.invokevirtual 74, 3) := by decide +kernel
theorem dX0_liveAMinute_40 : decode cX0_liveAMinute 40 = .ok (.iinc 1 1, 3) := by decide +kernel
theorem dX0_liveAMinute_43 : decode cX0_liveAMinute 43 = .ok (.goto (-16), 3) := by decide +kernel
theorem dX0_liveAMinute_46 : decode cX0_liveAMinute 46 = .ok (.aload_n 0, 1) := by decide +kernel
theorem dX0_liveAMinute_47 : decode cX0_liveAMinute 47 = .ok (.dup, 1) := by decide +kernel
theorem dX0_liveAMinute_48 : decode cX0_liveAMinute 48 = .ok (.getfield 48, 3) := by decide +kernel
theorem dX0_liveAMinute_51 : decode cX0_liveAMinute 51 = .ok (.iconst 1, 1) := by decide +kernel
theorem dX0_liveAMinute_52 : decode cX0_liveAMinute 52 = .ok (.iadd, 1) := by decide +kernel
theorem dX0_liveAMinute_53 : decode cX0_liveAMinute 53 = .ok (.putfield 48, 3) := by decide +kernel
theorem dX0_liveAMinute_56 : decode cX0_liveAMinute 56 = .ok (.return_, 1) := by decide +kernel
set_option maxRecDepth 20000 in
theorem ggX0_leaveThoseWhoStayed_X0_rest : GoodIn wsX0_leaveThoseWhoStayed wsX0_rest := goodIn_r _ [8, 2, 9, 3, 10, 11, 12, 13, 14, 15, 16, 17, 18, 19, 20, 21, 22, 23, 24, 25, 26, 27] (by decide +kernel) (by decide +kernel)
set_option maxRecDepth 20000 in
theorem gX0_leaveThoseWhoStayed_X0_rest : GoodIn wsX0_leaveThoseWhoStayed (wsV RX0 64 RX0 yX0_rest wsX0_rest) := goodIn_app (goodIn_of _ (by decide +kernel)) ggX0_leaveThoseWhoStayed_X0_rest
theorem dX0_leaveThoseWhoStayed_0 : decode cX0_leaveThoseWhoStayed 0 = .ok (.iconst 0, 1) := by decide +kernel
theorem dX0_leaveThoseWhoStayed_1 : decode cX0_leaveThoseWhoStayed 1 = .ok (.istore_n 1, 1) := by decide +kernel
theorem dX0_leaveThoseWhoStayed_2 : decode cX0_leaveThoseWhoStayed 2 = .ok (.iload_n 1, 1) := by decide +kernel
theorem dX0_leaveThoseWhoStayed_3 : decode cX0_leaveThoseWhoStayed 3 = .ok (.aload_n 0, 1) := by decide +kernel
theorem dX0_leaveThoseWhoStayed_4 : decode cX0_leaveThoseWhoStayed 4 = .ok (.getfield 55, 3) := by decide +kernel
theorem dX0_leaveThoseWhoStayed_7 : decode cX0_leaveThoseWhoStayed 7 = .ok (.if_icmp .ge 43, 3) := by decide +kernel
theorem dX0_leaveThoseWhoStayed_10 : decode cX0_leaveThoseWhoStayed 10 = .ok (.aload_n 0, 1) := by decide +kernel
theorem dX0_leaveThoseWhoStayed_11 : decode cX0_leaveThoseWhoStayed 11 = .ok (.getfield 24, 3) := by decide +kernel
theorem dX0_leaveThoseWhoStayed_14 : decode cX0_leaveThoseWhoStayed 14 = .ok (.iload_n 1, 1) := by decide +kernel
theorem dX0_leaveThoseWhoStayed_15 : decode cX0_leaveThoseWhoStayed 15 = .ok (.iaload, 1) := by decide +kernel
theorem dX0_leaveThoseWhoStayed_16 : decode cX0_leaveThoseWhoStayed 16 = .ok (.iconst 2, 1) := by decide +kernel
theorem dX0_leaveThoseWhoStayed_17 : decode cX0_leaveThoseWhoStayed 17 = .ok (.if_icmp .ne 27, 3) := by decide +kernel
theorem dX0_leaveThoseWhoStayed_20 : decode cX0_leaveThoseWhoStayed 20 = .ok (.aload_n 0, 1) := by decide +kernel
theorem dX0_leaveThoseWhoStayed_21 : decode cX0_leaveThoseWhoStayed 21 = .ok (.getfield 36, 3) := by decide +kernel
theorem dX0_leaveThoseWhoStayed_24 : decode cX0_leaveThoseWhoStayed 24 = .ok (.iload_n 1, 1) := by decide +kernel
theorem dX0_leaveThoseWhoStayed_25 : decode cX0_leaveThoseWhoStayed 25 = .ok (.dup2, 1) := by decide +kernel
theorem dX0_leaveThoseWhoStayed_26 : decode cX0_leaveThoseWhoStayed 26 = .ok (.iaload, 1) := by decide +kernel
theorem dX0_leaveThoseWhoStayed_27 : decode cX0_leaveThoseWhoStayed 27 = .ok (.iconst 1, 1) := by decide +kernel
theorem dX0_leaveThoseWhoStayed_28 : decode cX0_leaveThoseWhoStayed 28 = .ok (.isub, 1) := by decide +kernel
theorem dX0_leaveThoseWhoStayed_29 : decode cX0_leaveThoseWhoStayed 29 = .ok (.iastore, 1) := by decide +kernel
theorem dX0_leaveThoseWhoStayed_30 : decode cX0_leaveThoseWhoStayed 30 = .ok (.aload_n 0, 1) := by decide +kernel
theorem dX0_leaveThoseWhoStayed_31 : decode cX0_leaveThoseWhoStayed 31 = .ok (.getfield 36, 3) := by decide +kernel
theorem dX0_leaveThoseWhoStayed_34 : decode cX0_leaveThoseWhoStayed 34 = .ok (.iload_n 1, 1) := by decide +kernel
theorem dX0_leaveThoseWhoStayed_35 : decode cX0_leaveThoseWhoStayed 35 = .ok (.iaload, 1) := by decide +kernel
theorem dX0_leaveThoseWhoStayed_36 : decode cX0_leaveThoseWhoStayed 36 = .ok (.ifCond .gt 8, 3) := by decide +kernel
theorem dX0_leaveThoseWhoStayed_39 : decode cX0_leaveThoseWhoStayed 39 = .ok (.aload_n 0, 1) := by decide +kernel
theorem dX0_leaveThoseWhoStayed_40 : decode cX0_leaveThoseWhoStayed 40 = .ok (.iload_n 1, 1) := by decide +kernel
theorem dX0_leaveThoseWhoStayed_41 : decode cX0_leaveThoseWhoStayed 41 = .ok (.invokevirtual 64, 3) := by decide +kernel
theorem dX0_leaveThoseWhoStayed_44 : decode cX0_leaveThoseWhoStayed 44 = .ok (.iinc 1 1, 3) := by decide +kernel
theorem dX0_leaveThoseWhoStayed_47 : decode cX0_leaveThoseWhoStayed 47 = .ok (.goto (-45), 3) := by decide +kernel
theorem dX0_leaveThoseWhoStayed_50 : decode cX0_leaveThoseWhoStayed 50 = .ok (.return_, 1) := by decide +kernel
set_option maxRecDepth 20000 in
theorem ggX0_letInThrough_X0_firstIn : GoodIn wsX0_letInThrough wsX0_firstIn := goodIn_r _ [9, 10, 1, 2, 11, 12, 13, 14, 8, 15, 16, 17, 18, 19, 20, 21, 22, 23, 24, 25, 26, 27, 28, 34, 35, 36, 37, 38, 39, 40, 41, 42, 43, 44, 45, 46, 47, 48, 49, 50] (by decide +kernel) (by decide +kernel)
set_option maxRecDepth 20000 in
theorem gX0_letInThrough_X0_firstIn : GoodIn wsX0_letInThrough (wsV RX0 77 RX0 yX0_firstIn wsX0_firstIn) := goodIn_app (goodIn_of _ (by decide +kernel)) ggX0_letInThrough_X0_firstIn
set_option maxRecDepth 20000 in
theorem ggX0_letInThrough_X0_enter : GoodIn wsX0_letInThrough wsX0_enter := goodIn_r _ [32, 17, 18, 2, 33, 28, 34, 35, 36, 37, 38, 39, 40, 41, 42, 43, 44, 45, 46, 47, 48, 49, 50] (by decide +kernel) (by decide +kernel)
set_option maxRecDepth 20000 in
theorem gX0_letInThrough_X0_enter : GoodIn wsX0_letInThrough (wsV RX0 81 RX0 yX0_enter wsX0_enter) := goodIn_app (goodIn_of _ (by decide +kernel)) ggX0_letInThrough_X0_enter
theorem dX0_letInThrough_0 : decode cX0_letInThrough 0 = .ok (.iconst 0, 1) := by decide +kernel
theorem dX0_letInThrough_1 : decode cX0_letInThrough 1 = .ok (.istore_n 2, 1) := by decide +kernel
theorem dX0_letInThrough_2 : decode cX0_letInThrough 2 = .ok (.iload_n 2, 1) := by decide +kernel
theorem dX0_letInThrough_3 : decode cX0_letInThrough 3 = .ok (.aload_n 0, 1) := by decide +kernel
theorem dX0_letInThrough_4 : decode cX0_letInThrough 4 = .ok (.getfield 55, 3) := by decide +kernel
theorem dX0_letInThrough_7 : decode cX0_letInThrough 7 = .ok (.if_icmp .ge 48, 3) := by decide +kernel
theorem dX0_letInThrough_10 : decode cX0_letInThrough 10 = .ok (.aload_n 0, 1) := by decide +kernel
theorem dX0_letInThrough_11 : decode cX0_letInThrough 11 = .ok (.iload_n 1, 1) := by decide +kernel
theorem dX0_letInThrough_12 : decode cX0_letInThrough 12 = .ok (.invokevirtual 77, 3) := by decide +kernel
theorem dX0_letInThrough_15 : decode cX0_letInThrough 15 = .ok (.istore_n 3, 1) := by decide +kernel
theorem dX0_letInThrough_16 : decode cX0_letInThrough 16 = .ok (.iload_n 3, 1) := by decide +kernel
theorem dX0_letInThrough_17 : decode cX0_letInThrough 17 = .ok (.ifCond .ge 4, 3) := by decide +kernel
theorem dX0_letInThrough_20 : decode cX0_letInThrough 20 = .ok (.return_, 1) := by decide +kernel
theorem dX0_letInThrough_21 : decode cX0_letInThrough 21 = .ok (.aload_n 0, 1) := by decide +kernel
theorem dX0_letInThrough_22 : decode cX0_letInThrough 22 = .ok (.iload_n 3, 1) := by decide +kernel
theorem dX0_letInThrough_23 : decode cX0_letInThrough 23 = .ok (.iload_n 1, 1) := by decide +kernel
theorem dX0_letInThrough_24 : decode cX0_letInThrough 24 = .ok (.aload_n 0, 1) := by decide +kernel
theorem dX0_letInThrough_25 : decode cX0_letInThrough 25 = .ok (.getfield 30, 3) := by decide +kernel
theorem dX0_letInThrough_28 : decode cX0_letInThrough 28 = .ok (.iload_n 3, 1) := by decide +kernel
theorem dX0_letInThrough_29 : decode cX0_letInThrough 29 = .ok (.iaload, 1) := by decide +kernel
theorem dX0_letInThrough_30 : decode cX0_letInThrough 30 = .ok (.aload_n 0, 1) := by decide +kernel
theorem dX0_letInThrough_31 : decode cX0_letInThrough 31 = .ok (.getfield 33, 3) := by decide +kernel
theorem dX0_letInThrough_34 : decode cX0_letInThrough 34 = .ok (.iload_n 3, 1) := by decide +kernel
theorem dX0_letInThrough_35 : decode cX0_letInThrough 35 = .ok (.iaload, 1) := by decide +kernel
theorem dX0_letInThrough_36 : decode cX0_letInThrough 36 = .ok (.invokevirtual 81, 3) := by decide +kernel
theorem dX0_letInThrough_39 : decode cX0_letInThrough 39 = .ok (.aload_n 0, 1) := by decide +kernel
theorem dX0_letInThrough_40 : decode cX0_letInThrough 40 = .ok (.dup, 1) := by decide +kernel
theorem dX0_letInThrough_41 : decode cX0_letInThrough 41 = .ok (.getfield 61, 3) := by decide +kernel
theorem dX0_letInThrough_44 : decode cX0_letInThrough 44 = .ok (.iconst 1, 1) := by decide +kernel
theorem dX0_letInThrough_45 : decode cX0_letInThrough 45 = .ok (.iadd, 1) := by decide +kernel
theorem dX0_letInThrough_46 : decode cX0_letInThrough 46 = .ok (.putfield 61, 3) := by decide +kernel
theorem dX0_letInThrough_49 : decode cX0_letInThrough 49 = .ok (.iinc 2 1, 3) := by decide +kernel
theorem dX0_letInThrough_52 : decode cX0_letInThrough 52 = .ok (.goto (-50), 3) := by decide +kernel
theorem dX0_letInThrough_55 : decode cX0_letInThrough 55 = .ok (.return_, 1) := by decide +kernel
set_option maxRecDepth 20000 in
theorem ggX0_waitOnAt_X0_waitsAt : GoodIn wsX0_waitOnAt wsX0_waitsAt := goodIn_r _ [10, 11, 12, 17, 18, 19, 20, 21, 22, 23, 24, 25, 26, 27, 28, 29, 30, 31, 32, 33] (by decide +kernel) (by decide +kernel)
set_option maxRecDepth 20000 in
theorem gX0_waitOnAt_X0_waitsAt : GoodIn wsX0_waitOnAt (wsV RX0 85 RX0 yX0_waitsAt wsX0_waitsAt) := goodIn_app (goodIn_of _ (by decide +kernel)) ggX0_waitOnAt_X0_waitsAt
set_option maxRecDepth 20000 in
theorem ggX0_waitOnAt_X0_rest : GoodIn wsX0_waitOnAt wsX0_rest := goodIn_r _ [16, 11, 12, 4, 2, 17, 18, 19, 20, 21, 22, 23, 24, 25, 26, 27, 28, 29, 30, 31, 32, 33] (by decide +kernel) (by decide +kernel)
set_option maxRecDepth 20000 in
theorem gX0_waitOnAt_X0_rest : GoodIn wsX0_waitOnAt (wsV RX0 64 RX0 yX0_rest wsX0_rest) := goodIn_app (goodIn_of _ (by decide +kernel)) ggX0_waitOnAt_X0_rest
theorem dX0_waitOnAt_0 : decode cX0_waitOnAt 0 = .ok (.iconst 0, 1) := by decide +kernel
theorem dX0_waitOnAt_1 : decode cX0_waitOnAt 1 = .ok (.istore_n 2, 1) := by decide +kernel
theorem dX0_waitOnAt_2 : decode cX0_waitOnAt 2 = .ok (.iload_n 2, 1) := by decide +kernel
theorem dX0_waitOnAt_3 : decode cX0_waitOnAt 3 = .ok (.aload_n 0, 1) := by decide +kernel
theorem dX0_waitOnAt_4 : decode cX0_waitOnAt 4 = .ok (.getfield 55, 3) := by decide +kernel
theorem dX0_waitOnAt_7 : decode cX0_waitOnAt 7 = .ok (.if_icmp .ge 72, 3) := by decide +kernel
theorem dX0_waitOnAt_10 : decode cX0_waitOnAt 10 = .ok (.aload_n 0, 1) := by decide +kernel
theorem dX0_waitOnAt_11 : decode cX0_waitOnAt 11 = .ok (.iload_n 2, 1) := by decide +kernel
theorem dX0_waitOnAt_12 : decode cX0_waitOnAt 12 = .ok (.iload_n 1, 1) := by decide +kernel
theorem dX0_waitOnAt_13 : decode cX0_waitOnAt 13 = .ok (.invokevirtual 85, 3) := by decide +kernel
theorem dX0_waitOnAt_16 : decode cX0_waitOnAt 16 = .ok (.ifCond .eq 57, 3) := by decide +kernel
theorem dX0_waitOnAt_19 : decode cX0_waitOnAt 19 = .ok (.aload_n 0, 1) := by decide +kernel
theorem dX0_waitOnAt_20 : decode cX0_waitOnAt 20 = .ok (.getfield 42, 3) := by decide +kernel
theorem dX0_waitOnAt_23 : decode cX0_waitOnAt 23 = .ok (.iload_n 2, 1) := by decide +kernel
theorem dX0_waitOnAt_24 : decode cX0_waitOnAt 24 = .ok (.dup2, 1) := by decide +kernel
theorem dX0_waitOnAt_25 : decode cX0_waitOnAt 25 = .ok (.iaload, 1) := by decide +kernel
theorem dX0_waitOnAt_26 : decode cX0_waitOnAt 26 = .ok (.iconst 1, 1) := by decide +kernel
theorem dX0_waitOnAt_27 : decode cX0_waitOnAt 27 = .ok (.iadd, 1) := by decide +kernel
theorem dX0_waitOnAt_28 : decode cX0_waitOnAt 28 = .ok (.iastore, 1) := by decide +kernel
theorem dX0_waitOnAt_29 : decode cX0_waitOnAt 29 = .ok (.aload_n 0, 1) := by decide +kernel
theorem dX0_waitOnAt_30 : decode cX0_waitOnAt 30 = .ok (.getfield 45, 3) := by decide +kernel
theorem dX0_waitOnAt_33 : decode cX0_waitOnAt 33 = .ok (.iload_n 2, 1) := by decide +kernel
theorem dX0_waitOnAt_34 : decode cX0_waitOnAt 34 = .ok (.dup2, 1) := by decide +kernel
theorem dX0_waitOnAt_35 : decode cX0_waitOnAt 35 = .ok (.iaload, 1) := by decide +kernel
theorem dX0_waitOnAt_36 : decode cX0_waitOnAt 36 = .ok (.iconst 1, 1) := by decide +kernel
theorem dX0_waitOnAt_37 : decode cX0_waitOnAt 37 = .ok (.iadd, 1) := by decide +kernel
theorem dX0_waitOnAt_38 : decode cX0_waitOnAt 38 = .ok (.iastore, 1) := by decide +kernel
theorem dX0_waitOnAt_39 : decode cX0_waitOnAt 39 = .ok (.aload_n 0, 1) := by decide +kernel
theorem dX0_waitOnAt_40 : decode cX0_waitOnAt 40 = .ok (.getfield 36, 3) := by decide +kernel
theorem dX0_waitOnAt_43 : decode cX0_waitOnAt 43 = .ok (.iload_n 2, 1) := by decide +kernel
theorem dX0_waitOnAt_44 : decode cX0_waitOnAt 44 = .ok (.dup2, 1) := by decide +kernel
theorem dX0_waitOnAt_45 : decode cX0_waitOnAt 45 = .ok (.iaload, 1) := by decide +kernel
theorem dX0_waitOnAt_46 : decode cX0_waitOnAt 46 = .ok (.iconst 1, 1) := by decide +kernel
theorem dX0_waitOnAt_47 : decode cX0_waitOnAt 47 = .ok (.isub, 1) := by decide +kernel
theorem dX0_waitOnAt_48 : decode cX0_waitOnAt 48 = .ok (.iastore, 1) := by decide +kernel
theorem dX0_waitOnAt_49 : decode cX0_waitOnAt 49 = .ok (.aload_n 0, 1) := by decide +kernel
theorem dX0_waitOnAt_50 : decode cX0_waitOnAt 50 = .ok (.getfield 36, 3) := by decide +kernel
theorem dX0_waitOnAt_53 : decode cX0_waitOnAt 53 = .ok (.iload_n 2, 1) := by decide +kernel
theorem dX0_waitOnAt_54 : decode cX0_waitOnAt 54 = .ok (.iaload, 1) := by decide +kernel
theorem dX0_waitOnAt_55 : decode cX0_waitOnAt 55 = .ok (.ifCond .gt 18, 3) := by decide +kernel
theorem dX0_waitOnAt_58 : decode cX0_waitOnAt 58 = .ok (.aload_n 0, 1) := by decide +kernel
theorem dX0_waitOnAt_59 : decode cX0_waitOnAt 59 = .ok (.iload_n 2, 1) := by decide +kernel
theorem dX0_waitOnAt_60 : decode cX0_waitOnAt 60 = .ok (.invokevirtual 64, 3) := by decide +kernel
theorem dX0_waitOnAt_63 : decode cX0_waitOnAt 63 = .ok (.aload_n 0, 1) := by decide +kernel
theorem dX0_waitOnAt_64 : decode cX0_waitOnAt 64 = .ok (.getfield 18, 3) := by decide +kernel
theorem dX0_waitOnAt_67 : decode cX0_waitOnAt 67 = .ok (.iload_n 1, 1) := by decide +kernel
theorem dX0_waitOnAt_68 : decode cX0_waitOnAt 68 = .ok (.dup2, 1) := by decide +kernel
theorem dX0_waitOnAt_69 : decode cX0_waitOnAt 69 = .ok (.iaload, 1) := by decide +kernel
theorem dX0_waitOnAt_70 : decode cX0_waitOnAt 70 = .ok (.iconst 1, 1) := by decide +kernel
theorem dX0_waitOnAt_71 : decode cX0_waitOnAt 71 = .ok (.iadd, 1) := by decide +kernel
theorem dX0_waitOnAt_72 : decode cX0_waitOnAt 72 = .ok (.iastore, 1) := by decide +kernel
theorem dX0_waitOnAt_73 : decode cX0_waitOnAt 73 = .ok (.iinc 2 1, 3) := by decide +kernel
theorem dX0_waitOnAt_76 : decode cX0_waitOnAt 76 = .ok (.goto (-74), 3) := by decide +kernel
theorem dX0_waitOnAt_79 : decode cX0_waitOnAt 79 = .ok (.return_, 1) := by decide +kernel
set_option maxRecDepth 20000 in
theorem ggX0_firstIn_X0_freePermits : GoodIn wsX0_firstIn wsX0_freePermits := goodIn_r _ [9, 10, 2, 11, 12, 3, 23, 24, 25, 26, 27, 28, 29, 30, 31, 32, 33, 34, 35, 36, 37, 38, 39] (by decide +kernel) (by decide +kernel)
set_option maxRecDepth 20000 in
theorem gX0_firstIn_X0_freePermits : GoodIn wsX0_firstIn (wsV RX0 89 RX0 yX0_freePermits wsX0_freePermits) := goodIn_app (goodIn_of _ (by decide +kernel)) ggX0_firstIn_X0_freePermits
set_option maxRecDepth 20000 in
theorem ggX0_firstIn_X0_waitsAt : GoodIn wsX0_firstIn wsX0_waitsAt := goodIn_r _ [16, 11, 12, 23, 24, 25, 26, 27, 28, 29, 30, 31, 32, 33, 34, 35, 36, 37, 38, 39] (by decide +kernel) (by decide +kernel)
set_option maxRecDepth 20000 in
theorem gX0_firstIn_X0_waitsAt : GoodIn wsX0_firstIn (wsV RX0 85 RX0 yX0_waitsAt wsX0_waitsAt) := goodIn_app (goodIn_of _ (by decide +kernel)) ggX0_firstIn_X0_waitsAt
set_option maxRecDepth 20000 in
theorem ggX0_firstIn_X0_seeming : GoodIn wsX0_firstIn wsX0_seeming := goodIn_r _ [20, 21, 22, 23, 24, 25, 26, 27, 28, 29, 30, 31, 32, 33, 34, 35, 36, 37, 38, 39] (by decide +kernel) (by decide +kernel)
set_option maxRecDepth 20000 in
theorem gX0_firstIn_X0_seeming : GoodIn wsX0_firstIn (wsV RX0 92 RX0 yX0_seeming wsX0_seeming) := goodIn_app (goodIn_of _ (by decide +kernel)) ggX0_firstIn_X0_seeming
theorem dX0_firstIn_0 : decode cX0_firstIn 0 = .ok (.aload_n 0, 1) := by decide +kernel
theorem dX0_firstIn_1 : decode cX0_firstIn 1 = .ok (.iload_n 1, 1) := by decide +kernel
theorem dX0_firstIn_2 : decode cX0_firstIn 2 = .ok (.invokevirtual 89, 3) := by decide +kernel
theorem dX0_firstIn_5 : decode cX0_firstIn 5 = .ok (.istore_n 2, 1) := by decide +kernel
theorem dX0_firstIn_6 : decode cX0_firstIn 6 = .ok (.aload_n 0, 1) := by decide +kernel
theorem dX0_firstIn_7 : decode cX0_firstIn 7 = .ok (.getfield 15, 3) := by decide +kernel
theorem dX0_firstIn_10 : decode cX0_firstIn 10 = .ok (.iload_n 1, 1) := by decide +kernel
theorem dX0_firstIn_11 : decode cX0_firstIn 11 = .ok (.iaload, 1) := by decide +kernel
theorem dX0_firstIn_12 : decode cX0_firstIn 12 = .ok (.iconst 1, 1) := by decide +kernel
theorem dX0_firstIn_13 : decode cX0_firstIn 13 = .ok (.if_icmp .ne 7, 3) := by decide +kernel
theorem dX0_firstIn_16 : decode cX0_firstIn 16 = .ok (.iconst 1, 1) := by decide +kernel
theorem dX0_firstIn_17 : decode cX0_firstIn 17 = .ok (.goto 4, 3) := by decide +kernel
theorem dX0_firstIn_20 : decode cX0_firstIn 20 = .ok (.iconst 0, 1) := by decide +kernel
theorem dX0_firstIn_21 : decode cX0_firstIn 21 = .ok (.istore_n 3, 1) := by decide +kernel
theorem dX0_firstIn_22 : decode cX0_firstIn 22 = .ok (.iconst (-1), 1) := by decide +kernel
theorem dX0_firstIn_23 : decode cX0_firstIn 23 = .ok (.istore 4, 2) := by decide +kernel
theorem dX0_firstIn_25 : decode cX0_firstIn 25 = .ok (.iconst 0, 1) := by decide +kernel
theorem dX0_firstIn_26 : decode cX0_firstIn 26 = .ok (.istore 5, 2) := by decide +kernel
theorem dX0_firstIn_28 : decode cX0_firstIn 28 = .ok (.iconst 0, 1) := by decide +kernel
theorem dX0_firstIn_29 : decode cX0_firstIn 29 = .ok (.istore 6, 2) := by decide +kernel
theorem dX0_firstIn_31 : decode cX0_firstIn 31 = .ok (.iload 6, 2) := by decide +kernel
theorem dX0_firstIn_33 : decode cX0_firstIn 33 = .ok (.aload_n 0, 1) := by decide +kernel
theorem dX0_firstIn_34 : decode cX0_firstIn 34 = .ok (.getfield 55, 3) := by decide +kernel
theorem dX0_firstIn_37 : decode cX0_firstIn 37 = .ok (.if_icmp .ge 118, 3) := by decide +kernel
theorem dX0_firstIn_40 : decode cX0_firstIn 40 = .ok (.aload_n 0, 1) := by decide +kernel
theorem dX0_firstIn_41 : decode cX0_firstIn 41 = .ok (.iload 6, 2) := by decide +kernel
theorem dX0_firstIn_43 : decode cX0_firstIn 43 = .ok (.iload_n 1, 1) := by decide +kernel
theorem dX0_firstIn_44 : decode cX0_firstIn 44 = .ok (.invokevirtual 85, 3) := by decide +kernel
theorem dX0_firstIn_47 : decode cX0_firstIn 47 = .ok (.ifCond .eq 22, 3) := by decide +kernel
theorem dX0_firstIn_50 : decode cX0_firstIn 50 = .ok (.iload_n 3, 1) := by decide +kernel
theorem dX0_firstIn_51 : decode cX0_firstIn 51 = .ok (.ifCond .eq 14, 3) := by decide +kernel
theorem dX0_firstIn_54 : decode cX0_firstIn 54 = .ok (.aload_n 0, 1) := by decide +kernel
theorem dX0_firstIn_55 : decode cX0_firstIn 55 = .ok (.getfield 30, 3) := by decide +kernel
theorem dX0_firstIn_58 : decode cX0_firstIn 58 = .ok (.iload 6, 2) := by decide +kernel
theorem dX0_firstIn_60 : decode cX0_firstIn 60 = .ok (.iaload, 1) := by decide +kernel
theorem dX0_firstIn_61 : decode cX0_firstIn 61 = .ok (.iload_n 2, 1) := by decide +kernel
theorem dX0_firstIn_62 : decode cX0_firstIn 62 = .ok (.if_icmp .gt 7, 3) := by decide +kernel
theorem dX0_firstIn_65 : decode cX0_firstIn 65 = .ok (.iconst 1, 1) := by decide +kernel
theorem dX0_firstIn_66 : decode cX0_firstIn 66 = .ok (.goto 4, 3) := by decide +kernel
theorem dX0_firstIn_69 : decode cX0_firstIn 69 = .ok (.iconst 0, 1) := by decide +kernel
theorem dX0_firstIn_70 : decode cX0_firstIn 70 = .ok (.istore 7, 2) := by decide +kernel
theorem dX0_firstIn_72 : decode cX0_firstIn 72 = .ok (.iload_n 3, 1) := by decide +kernel
theorem dX0_firstIn_73 : decode cX0_firstIn 73 = .ok (.ifCond .eq 12, 3) := by decide +kernel
theorem dX0_firstIn_76 : decode cX0_firstIn 76 = .ok (.aload_n 0, 1) := by decide +kernel
theorem dX0_firstIn_77 : decode cX0_firstIn 77 = .ok (.iload 6, 2) := by decide +kernel
theorem dX0_firstIn_79 : decode cX0_firstIn 79 = .ok (.invokevirtual 92, 3) := by decide +kernel
theorem dX0_firstIn_82 : decode cX0_firstIn 82 = .ok (.goto 4, 3) := by decide +kernel
theorem dX0_firstIn_85 : decode cX0_firstIn 85 = .ok (.iconst 0, 1) := by decide +kernel
theorem dX0_firstIn_86 : decode cX0_firstIn 86 = .ok (.istore 8, 2) := by decide +kernel
theorem dX0_firstIn_88 : decode cX0_firstIn 88 = .ok (.iload 4, 2) := by decide +kernel
theorem dX0_firstIn_90 : decode cX0_firstIn 90 = .ok (.ifCond .lt 20, 3) := by decide +kernel
theorem dX0_firstIn_93 : decode cX0_firstIn 93 = .ok (.aload_n 0, 1) := by decide +kernel
theorem dX0_firstIn_94 : decode cX0_firstIn 94 = .ok (.getfield 39, 3) := by decide +kernel
theorem dX0_firstIn_97 : decode cX0_firstIn 97 = .ok (.iload 6, 2) := by decide +kernel
theorem dX0_firstIn_99 : decode cX0_firstIn 99 = .ok (.iaload, 1) := by decide +kernel
theorem dX0_firstIn_100 : decode cX0_firstIn 100 = .ok (.aload_n 0, 1) := by decide +kernel
theorem dX0_firstIn_101 : decode cX0_firstIn 101 = .ok (.getfield 39, 3) := by decide +kernel
theorem dX0_firstIn_104 : decode cX0_firstIn 104 = .ok (.iload 4, 2) := by decide +kernel
theorem dX0_firstIn_106 : decode cX0_firstIn 106 = .ok (.iaload, 1) := by decide +kernel
theorem dX0_firstIn_107 : decode cX0_firstIn 107 = .ok (.if_icmp .ge 7, 3) := by decide +kernel
theorem dX0_firstIn_110 : decode cX0_firstIn 110 = .ok (.iconst 1, 1) := by decide +kernel
theorem dX0_firstIn_111 : decode cX0_firstIn 111 = .ok (.goto 4, 3) := by decide +kernel
theorem dX0_firstIn_114 : decode cX0_firstIn 114 = .ok (.iconst 0, 1) := by decide +kernel
theorem dX0_firstIn_115 : decode cX0_firstIn 115 = .ok (.istore 9, 2) := by decide +kernel
theorem dX0_firstIn_117 : decode cX0_firstIn 117 = .ok (.iload 7, 2) := by decide +kernel
theorem dX0_firstIn_119 : decode cX0_firstIn 119 = .ok (.ifCond .eq 30, 3) := by decide +kernel
theorem dX0_firstIn_122 : decode cX0_firstIn 122 = .ok (.iload 8, 2) := by decide +kernel
theorem dX0_firstIn_124 : decode cX0_firstIn 124 = .ok (.iload 5, 2) := by decide +kernel
theorem dX0_firstIn_126 : decode cX0_firstIn 126 = .ok (.if_icmp .gt 15, 3) := by decide +kernel
theorem dX0_firstIn_129 : decode cX0_firstIn 129 = .ok (.iload 8, 2) := by decide +kernel
theorem dX0_firstIn_131 : decode cX0_firstIn 131 = .ok (.iload 5, 2) := by decide +kernel
theorem dX0_firstIn_133 : decode cX0_firstIn 133 = .ok (.if_icmp .ne 16, 3) := by decide +kernel
theorem dX0_firstIn_136 : decode cX0_firstIn 136 = .ok (.iload 9, 2) := by decide +kernel
theorem dX0_firstIn_138 : decode cX0_firstIn 138 = .ok (.ifCond .eq 11, 3) := by decide +kernel
theorem dX0_firstIn_141 : decode cX0_firstIn 141 = .ok (.iload 6, 2) := by decide +kernel
theorem dX0_firstIn_143 : decode cX0_firstIn 143 = .ok (.istore 4, 2) := by decide +kernel
theorem dX0_firstIn_145 : decode cX0_firstIn 145 = .ok (.iload 8, 2) := by decide +kernel
theorem dX0_firstIn_147 : decode cX0_firstIn 147 = .ok (.istore 5, 2) := by decide +kernel
theorem dX0_firstIn_149 : decode cX0_firstIn 149 = .ok (.iinc 6 1, 3) := by decide +kernel
theorem dX0_firstIn_152 : decode cX0_firstIn 152 = .ok (.goto (-121), 3) := by decide +kernel
theorem dX0_firstIn_155 : decode cX0_firstIn 155 = .ok (.iload 4, 2) := by decide +kernel
theorem dX0_firstIn_157 : decode cX0_firstIn 157 = .ok (.ifCond .lt 19, 3) := by decide +kernel
theorem dX0_firstIn_160 : decode cX0_firstIn 160 = .ok (.aload_n 0, 1) := by decide +kernel
theorem dX0_firstIn_161 : decode cX0_firstIn 161 = .ok (.getfield 30, 3) := by decide +kernel
theorem dX0_firstIn_164 : decode cX0_firstIn 164 = .ok (.iload 4, 2) := by decide +kernel
theorem dX0_firstIn_166 : decode cX0_firstIn 166 = .ok (.iaload, 1) := by decide +kernel
theorem dX0_firstIn_167 : decode cX0_firstIn 167 = .ok (.iload_n 2, 1) := by decide +kernel
theorem dX0_firstIn_168 : decode cX0_firstIn 168 = .ok (.if_icmp .gt 8, 3) := by decide +kernel
theorem dX0_firstIn_171 : decode cX0_firstIn 171 = .ok (.iload 4, 2) := by decide +kernel
theorem dX0_firstIn_173 : decode cX0_firstIn 173 = .ok (.goto 4, 3) := by decide +kernel
theorem dX0_firstIn_176 : decode cX0_firstIn 176 = .ok (.iconst (-1), 1) := by decide +kernel
theorem dX0_firstIn_177 : decode cX0_firstIn 177 = .ok (.ireturn, 1) := by decide +kernel
theorem dX0_freePermits_0 : decode cX0_freePermits 0 = .ok (.aload_n 0, 1) := by decide +kernel
theorem dX0_freePermits_1 : decode cX0_freePermits 1 = .ok (.getfield 9, 3) := by decide +kernel
theorem dX0_freePermits_4 : decode cX0_freePermits 4 = .ok (.iload_n 1, 1) := by decide +kernel
theorem dX0_freePermits_5 : decode cX0_freePermits 5 = .ok (.iaload, 1) := by decide +kernel
theorem dX0_freePermits_6 : decode cX0_freePermits 6 = .ok (.istore_n 2, 1) := by decide +kernel
theorem dX0_freePermits_7 : decode cX0_freePermits 7 = .ok (.iconst 0, 1) := by decide +kernel
theorem dX0_freePermits_8 : decode cX0_freePermits 8 = .ok (.istore_n 3, 1) := by decide +kernel
theorem dX0_freePermits_9 : decode cX0_freePermits 9 = .ok (.iload_n 3, 1) := by decide +kernel
theorem dX0_freePermits_10 : decode cX0_freePermits 10 = .ok (.aload_n 0, 1) := by decide +kernel
theorem dX0_freePermits_11 : decode cX0_freePermits 11 = .ok (.getfield 55, 3) := by decide +kernel
theorem dX0_freePermits_14 : decode cX0_freePermits 14 = .ok (.if_icmp .ge 38, 3) := by decide +kernel
theorem dX0_freePermits_17 : decode cX0_freePermits 17 = .ok (.aload_n 0, 1) := by decide +kernel
theorem dX0_freePermits_18 : decode cX0_freePermits 18 = .ok (.getfield 24, 3) := by decide +kernel
theorem dX0_freePermits_21 : decode cX0_freePermits 21 = .ok (.iload_n 3, 1) := by decide +kernel
theorem dX0_freePermits_22 : decode cX0_freePermits 22 = .ok (.iaload, 1) := by decide +kernel
theorem dX0_freePermits_23 : decode cX0_freePermits 23 = .ok (.iconst 2, 1) := by decide +kernel
theorem dX0_freePermits_24 : decode cX0_freePermits 24 = .ok (.if_icmp .ne 22, 3) := by decide +kernel
theorem dX0_freePermits_27 : decode cX0_freePermits 27 = .ok (.aload_n 0, 1) := by decide +kernel
theorem dX0_freePermits_28 : decode cX0_freePermits 28 = .ok (.getfield 27, 3) := by decide +kernel
theorem dX0_freePermits_31 : decode cX0_freePermits 31 = .ok (.iload_n 3, 1) := by decide +kernel
theorem dX0_freePermits_32 : decode cX0_freePermits 32 = .ok (.iaload, 1) := by decide +kernel
theorem dX0_freePermits_33 : decode cX0_freePermits 33 = .ok (.iload_n 1, 1) := by decide +kernel
theorem dX0_freePermits_34 : decode cX0_freePermits 34 = .ok (.if_icmp .ne 12, 3) := by decide +kernel
theorem dX0_freePermits_37 : decode cX0_freePermits 37 = .ok (.iload_n 2, 1) := by decide +kernel
theorem dX0_freePermits_38 : decode cX0_freePermits 38 = .ok (.aload_n 0, 1) := by decide +kernel
theorem dX0_freePermits_39 : decode cX0_freePermits 39 = .ok (.getfield 30, 3) := by decide +kernel
theorem dX0_freePermits_42 : decode cX0_freePermits 42 = .ok (.iload_n 3, 1) := by decide +kernel
theorem dX0_freePermits_43 : decode cX0_freePermits 43 = .ok (.iaload, 1) := by decide +kernel
theorem dX0_freePermits_44 : decode cX0_freePermits 44 = .ok (.isub, 1) := by decide +kernel
theorem dX0_freePermits_45 : decode cX0_freePermits 45 = .ok (.istore_n 2, 1) := by decide +kernel
theorem dX0_freePermits_46 : decode cX0_freePermits 46 = .ok (.iinc 3 1, 3) := by decide +kernel
theorem dX0_freePermits_49 : decode cX0_freePermits 49 = .ok (.goto (-40), 3) := by decide +kernel
theorem dX0_freePermits_52 : decode cX0_freePermits 52 = .ok (.iload_n 2, 1) := by decide +kernel
theorem dX0_freePermits_53 : decode cX0_freePermits 53 = .ok (.ireturn, 1) := by decide +kernel
theorem dX0_waitsAt_0 : decode cX0_waitsAt 0 = .ok (.aload_n 0, 1) := by decide +kernel
theorem dX0_waitsAt_1 : decode cX0_waitsAt 1 = .ok (.getfield 24, 3) := by decide +kernel
theorem dX0_waitsAt_4 : decode cX0_waitsAt 4 = .ok (.iload_n 1, 1) := by decide +kernel
theorem dX0_waitsAt_5 : decode cX0_waitsAt 5 = .ok (.iaload, 1) := by decide +kernel
theorem dX0_waitsAt_6 : decode cX0_waitsAt 6 = .ok (.iconst 1, 1) := by decide +kernel
theorem dX0_waitsAt_7 : decode cX0_waitsAt 7 = .ok (.if_icmp .ne 17, 3) := by decide +kernel
theorem dX0_waitsAt_10 : decode cX0_waitsAt 10 = .ok (.aload_n 0, 1) := by decide +kernel
theorem dX0_waitsAt_11 : decode cX0_waitsAt 11 = .ok (.getfield 27, 3) := by decide +kernel
theorem dX0_waitsAt_14 : decode cX0_waitsAt 14 = .ok (.iload_n 1, 1) := by decide +kernel
theorem dX0_waitsAt_15 : decode cX0_waitsAt 15 = .ok (.iaload, 1) := by decide +kernel
theorem dX0_waitsAt_16 : decode cX0_waitsAt 16 = .ok (.iload_n 2, 1) := by decide +kernel
theorem dX0_waitsAt_17 : decode cX0_waitsAt 17 = .ok (.if_icmp .ne 7, 3) := by decide +kernel
theorem dX0_waitsAt_20 : decode cX0_waitsAt 20 = .ok (.iconst 1, 1) := by decide +kernel
theorem dX0_waitsAt_21 : decode cX0_waitsAt 21 = .ok (.goto 4, 3) := by decide +kernel
theorem dX0_waitsAt_24 : decode cX0_waitsAt 24 = .ok (.iconst 0, 1) := by decide +kernel
theorem dX0_waitsAt_25 : decode cX0_waitsAt 25 = .ok (.ireturn, 1) := by decide +kernel
theorem dX0_held_0 : decode cX0_held 0 = .ok (.aload_n 0, 1) := by decide +kernel
theorem dX0_held_1 : decode cX0_held 1 = .ok (.getfield 24, 3) := by decide +kernel
theorem dX0_held_4 : decode cX0_held 4 = .ok (.iload_n 1, 1) := by decide +kernel
theorem dX0_held_5 : decode cX0_held 5 = .ok (.iaload, 1) := by decide +kernel
theorem dX0_held_6 : decode cX0_held 6 = .ok (.iconst 2, 1) := by decide +kernel
theorem dX0_held_7 : decode cX0_held 7 = .ok (.if_icmp .ne 12, 3) := by decide +kernel
theorem dX0_held_10 : decode cX0_held 10 = .ok (.aload_n 0, 1) := by decide +kernel
theorem dX0_held_11 : decode cX0_held 11 = .ok (.getfield 30, 3) := by decide +kernel
theorem dX0_held_14 : decode cX0_held 14 = .ok (.iload_n 1, 1) := by decide +kernel
theorem dX0_held_15 : decode cX0_held 15 = .ok (.iaload, 1) := by decide +kernel
theorem dX0_held_16 : decode cX0_held 16 = .ok (.goto 4, 3) := by decide +kernel
theorem dX0_held_19 : decode cX0_held 19 = .ok (.iconst 0, 1) := by decide +kernel
theorem dX0_held_20 : decode cX0_held 20 = .ok (.ireturn, 1) := by decide +kernel
theorem dX0_seeming_0 : decode cX0_seeming 0 = .ok (.aload_n 0, 1) := by decide +kernel
theorem dX0_seeming_1 : decode cX0_seeming 1 = .ok (.getfield 21, 3) := by decide +kernel
theorem dX0_seeming_4 : decode cX0_seeming 4 = .ok (.iload_n 1, 1) := by decide +kernel
theorem dX0_seeming_5 : decode cX0_seeming 5 = .ok (.iaload, 1) := by decide +kernel
theorem dX0_seeming_6 : decode cX0_seeming 6 = .ok (.aload_n 0, 1) := by decide +kernel
theorem dX0_seeming_7 : decode cX0_seeming 7 = .ok (.getfield 42, 3) := by decide +kernel
theorem dX0_seeming_10 : decode cX0_seeming 10 = .ok (.iload_n 1, 1) := by decide +kernel
theorem dX0_seeming_11 : decode cX0_seeming 11 = .ok (.iaload, 1) := by decide +kernel
theorem dX0_seeming_12 : decode cX0_seeming 12 = .ok (.iconst 3, 1) := by decide +kernel
theorem dX0_seeming_13 : decode cX0_seeming 13 = .ok (.idiv, 1) := by decide +kernel
theorem dX0_seeming_14 : decode cX0_seeming 14 = .ok (.iadd, 1) := by decide +kernel
theorem dX0_seeming_15 : decode cX0_seeming 15 = .ok (.ireturn, 1) := by decide +kernel
set_option maxRecDepth 20000 in
theorem ggX0_countAheadOf_X0_waitsAt : GoodIn wsX0_countAheadOf wsX0_waitsAt := goodIn_r _ [8, 9, 2, 10, 11, 12, 13, 14, 15, 16, 17, 18, 19, 20, 21, 22, 23, 24, 25, 26] (by decide +kernel) (by decide +kernel)
set_option maxRecDepth 20000 in
theorem gX0_countAheadOf_X0_waitsAt : GoodIn wsX0_countAheadOf (wsV RX0 85 RX0 yX0_waitsAt wsX0_waitsAt) := goodIn_app (goodIn_of _ (by decide +kernel)) ggX0_countAheadOf_X0_waitsAt
theorem dX0_countAheadOf_0 : decode cX0_countAheadOf 0 = .ok (.iconst 0, 1) := by decide +kernel
theorem dX0_countAheadOf_1 : decode cX0_countAheadOf 1 = .ok (.istore_n 2, 1) := by decide +kernel
theorem dX0_countAheadOf_2 : decode cX0_countAheadOf 2 = .ok (.iconst 0, 1) := by decide +kernel
theorem dX0_countAheadOf_3 : decode cX0_countAheadOf 3 = .ok (.istore_n 3, 1) := by decide +kernel
theorem dX0_countAheadOf_4 : decode cX0_countAheadOf 4 = .ok (.iload_n 3, 1) := by decide +kernel
theorem dX0_countAheadOf_5 : decode cX0_countAheadOf 5 = .ok (.aload_n 0, 1) := by decide +kernel
theorem dX0_countAheadOf_6 : decode cX0_countAheadOf 6 = .ok (.getfield 55, 3) := by decide +kernel
theorem dX0_countAheadOf_9 : decode cX0_countAheadOf 9 = .ok (.if_icmp .ge 41, 3) := by decide +kernel
theorem dX0_countAheadOf_12 : decode cX0_countAheadOf 12 = .ok (.aload_n 0, 1) := by decide +kernel
theorem dX0_countAheadOf_13 : decode cX0_countAheadOf 13 = .ok (.iload_n 3, 1) := by decide +kernel
theorem dX0_countAheadOf_14 : decode cX0_countAheadOf 14 = .ok (.aload_n 0, 1) := by decide +kernel
theorem dX0_countAheadOf_15 : decode cX0_countAheadOf 15 = .ok (.getfield 27, 3) := by decide +kernel
theorem dX0_countAheadOf_18 : decode cX0_countAheadOf 18 = .ok (.iload_n 1, 1) := by decide +kernel
theorem dX0_countAheadOf_19 : decode cX0_countAheadOf 19 = .ok (.iaload, 1) := by decide +kernel
theorem dX0_countAheadOf_20 : decode cX0_countAheadOf 20 = .ok (.invokevirtual 85, 3) := by decide +kernel
theorem dX0_countAheadOf_23 : decode cX0_countAheadOf 23 = .ok (.ifCond .eq 21, 3) := by decide +kernel
theorem dX0_countAheadOf_26 : decode cX0_countAheadOf 26 = .ok (.aload_n 0, 1) := by decide +kernel
theorem dX0_countAheadOf_27 : decode cX0_countAheadOf 27 = .ok (.getfield 39, 3) := by decide +kernel
theorem dX0_countAheadOf_30 : decode cX0_countAheadOf 30 = .ok (.iload_n 3, 1) := by decide +kernel
theorem dX0_countAheadOf_31 : decode cX0_countAheadOf 31 = .ok (.iaload, 1) := by decide +kernel
theorem dX0_countAheadOf_32 : decode cX0_countAheadOf 32 = .ok (.aload_n 0, 1) := by decide +kernel
theorem dX0_countAheadOf_33 : decode cX0_countAheadOf 33 = .ok (.getfield 39, 3) := by decide +kernel
theorem dX0_countAheadOf_36 : decode cX0_countAheadOf 36 = .ok (.iload_n 1, 1) := by decide +kernel
theorem dX0_countAheadOf_37 : decode cX0_countAheadOf 37 = .ok (.iaload, 1) := by decide +kernel
theorem dX0_countAheadOf_38 : decode cX0_countAheadOf 38 = .ok (.if_icmp .ge 6, 3) := by decide +kernel
theorem dX0_countAheadOf_41 : decode cX0_countAheadOf 41 = .ok (.iinc 2 1, 3) := by decide +kernel
theorem dX0_countAheadOf_44 : decode cX0_countAheadOf 44 = .ok (.iinc 3 1, 3) := by decide +kernel
theorem dX0_countAheadOf_47 : decode cX0_countAheadOf 47 = .ok (.goto (-43), 3) := by decide +kernel
theorem dX0_countAheadOf_50 : decode cX0_countAheadOf 50 = .ok (.iload_n 2, 1) := by decide +kernel
theorem dX0_countAheadOf_51 : decode cX0_countAheadOf 51 = .ok (.ireturn, 1) := by decide +kernel
set_option maxRecDepth 20000 in
theorem ggX0_countWaitingAt_X0_waitsAt : GoodIn wsX0_countWaitingAt wsX0_waitsAt := goodIn_r _ [6, 7, 8, 9, 10, 11, 12, 13, 14, 15, 16, 17, 18, 19, 20, 21, 22, 23, 24, 25] (by decide +kernel) (by decide +kernel)
set_option maxRecDepth 20000 in
theorem gX0_countWaitingAt_X0_waitsAt : GoodIn wsX0_countWaitingAt (wsV RX0 85 RX0 yX0_waitsAt wsX0_waitsAt) := goodIn_app (goodIn_of _ (by decide +kernel)) ggX0_countWaitingAt_X0_waitsAt
theorem dX0_countWaitingAt_0 : decode cX0_countWaitingAt 0 = .ok (.iconst 0, 1) := by decide +kernel
theorem dX0_countWaitingAt_1 : decode cX0_countWaitingAt 1 = .ok (.istore_n 2, 1) := by decide +kernel
theorem dX0_countWaitingAt_2 : decode cX0_countWaitingAt 2 = .ok (.iconst 0, 1) := by decide +kernel
theorem dX0_countWaitingAt_3 : decode cX0_countWaitingAt 3 = .ok (.istore_n 3, 1) := by decide +kernel
theorem dX0_countWaitingAt_4 : decode cX0_countWaitingAt 4 = .ok (.iload_n 3, 1) := by decide +kernel
theorem dX0_countWaitingAt_5 : decode cX0_countWaitingAt 5 = .ok (.aload_n 0, 1) := by decide +kernel
theorem dX0_countWaitingAt_6 : decode cX0_countWaitingAt 6 = .ok (.getfield 55, 3) := by decide +kernel
theorem dX0_countWaitingAt_9 : decode cX0_countWaitingAt 9 = .ok (.if_icmp .ge 21, 3) := by decide +kernel
theorem dX0_countWaitingAt_12 : decode cX0_countWaitingAt 12 = .ok (.aload_n 0, 1) := by decide +kernel
theorem dX0_countWaitingAt_13 : decode cX0_countWaitingAt 13 = .ok (.iload_n 3, 1) := by decide +kernel
theorem dX0_countWaitingAt_14 : decode cX0_countWaitingAt 14 = .ok (.iload_n 1, 1) := by decide +kernel
theorem dX0_countWaitingAt_15 : decode cX0_countWaitingAt 15 = .ok (.invokevirtual 85, 3) := by decide +kernel
theorem dX0_countWaitingAt_18 : decode cX0_countWaitingAt 18 = .ok (.ifCond .eq 6, 3) := by decide +kernel
theorem dX0_countWaitingAt_21 : decode cX0_countWaitingAt 21 = .ok (.iinc 2 1, 3) := by decide +kernel
theorem dX0_countWaitingAt_24 : decode cX0_countWaitingAt 24 = .ok (.iinc 3 1, 3) := by decide +kernel
theorem dX0_countWaitingAt_27 : decode cX0_countWaitingAt 27 = .ok (.goto (-23), 3) := by decide +kernel
theorem dX0_countWaitingAt_30 : decode cX0_countWaitingAt 30 = .ok (.iload_n 2, 1) := by decide +kernel
theorem dX0_countWaitingAt_31 : decode cX0_countWaitingAt 31 = .ok (.ireturn, 1) := by decide +kernel
theorem dX0_countInState_0 : decode cX0_countInState 0 = .ok (.iconst 0, 1) := by decide +kernel
theorem dX0_countInState_1 : decode cX0_countInState 1 = .ok (.istore_n 2, 1) := by decide +kernel
theorem dX0_countInState_2 : decode cX0_countInState 2 = .ok (.iconst 0, 1) := by decide +kernel
theorem dX0_countInState_3 : decode cX0_countInState 3 = .ok (.istore_n 3, 1) := by decide +kernel
theorem dX0_countInState_4 : decode cX0_countInState 4 = .ok (.iload_n 3, 1) := by decide +kernel
theorem dX0_countInState_5 : decode cX0_countInState 5 = .ok (.aload_n 0, 1) := by decide +kernel
theorem dX0_countInState_6 : decode cX0_countInState 6 = .ok (.getfield 55, 3) := by decide +kernel
theorem dX0_countInState_9 : decode cX0_countInState 9 = .ok (.if_icmp .ge 22, 3) := by decide +kernel
theorem dX0_countInState_12 : decode cX0_countInState 12 = .ok (.aload_n 0, 1) := by decide +kernel
theorem dX0_countInState_13 : decode cX0_countInState 13 = .ok (.getfield 24, 3) := by decide +kernel
theorem dX0_countInState_16 : decode cX0_countInState 16 = .ok (.iload_n 3, 1) := by decide +kernel
theorem dX0_countInState_17 : decode cX0_countInState 17 = .ok (.iaload, 1) := by decide +kernel
theorem dX0_countInState_18 : decode cX0_countInState 18 = .ok (.iload_n 1, 1) := by decide +kernel
theorem dX0_countInState_19 : decode cX0_countInState 19 = .ok (.if_icmp .ne 6, 3) := by decide +kernel
theorem dX0_countInState_22 : decode cX0_countInState 22 = .ok (.iinc 2 1, 3) := by decide +kernel
theorem dX0_countInState_25 : decode cX0_countInState 25 = .ok (.iinc 3 1, 3) := by decide +kernel
theorem dX0_countInState_28 : decode cX0_countInState 28 = .ok (.goto (-24), 3) := by decide +kernel
theorem dX0_countInState_31 : decode cX0_countInState 31 = .ok (.iload_n 2, 1) := by decide +kernel
theorem dX0_countInState_32 : decode cX0_countInState 32 = .ok (.ireturn, 1) := by decide +kernel
theorem dX0_countStarving_0 : decode cX0_countStarving 0 = .ok (.iconst 0, 1) := by decide +kernel
theorem dX0_countStarving_1 : decode cX0_countStarving 1 = .ok (.istore_n 1, 1) := by decide +kernel
theorem dX0_countStarving_2 : decode cX0_countStarving 2 = .ok (.iconst 0, 1) := by decide +kernel
theorem dX0_countStarving_3 : decode cX0_countStarving 3 = .ok (.istore_n 2, 1) := by decide +kernel
theorem dX0_countStarving_4 : decode cX0_countStarving 4 = .ok (.iload_n 2, 1) := by decide +kernel
theorem dX0_countStarving_5 : decode cX0_countStarving 5 = .ok (.aload_n 0, 1) := by decide +kernel
theorem dX0_countStarving_6 : decode cX0_countStarving 6 = .ok (.getfield 55, 3) := by decide +kernel
theorem dX0_countStarving_9 : decode cX0_countStarving 9 = .ok (.if_icmp .ge 33, 3) := by decide +kernel
theorem dX0_countStarving_12 : decode cX0_countStarving 12 = .ok (.aload_n 0, 1) := by decide +kernel
theorem dX0_countStarving_13 : decode cX0_countStarving 13 = .ok (.getfield 24, 3) := by decide +kernel
theorem dX0_countStarving_16 : decode cX0_countStarving 16 = .ok (.iload_n 2, 1) := by decide +kernel
theorem dX0_countStarving_17 : decode cX0_countStarving 17 = .ok (.iaload, 1) := by decide +kernel
theorem dX0_countStarving_18 : decode cX0_countStarving 18 = .ok (.iconst 1, 1) := by decide +kernel
theorem dX0_countStarving_19 : decode cX0_countStarving 19 = .ok (.if_icmp .ne 17, 3) := by decide +kernel
theorem dX0_countStarving_22 : decode cX0_countStarving 22 = .ok (.aload_n 0, 1) := by decide +kernel
theorem dX0_countStarving_23 : decode cX0_countStarving 23 = .ok (.getfield 42, 3) := by decide +kernel
theorem dX0_countStarving_26 : decode cX0_countStarving 26 = .ok (.iload_n 2, 1) := by decide +kernel
theorem dX0_countStarving_27 : decode cX0_countStarving 27 = .ok (.iaload, 1) := by decide +kernel
theorem dX0_countStarving_28 : decode cX0_countStarving 28 = .ok (.bipush 8, 2) := by decide +kernel
theorem dX0_countStarving_30 : decode cX0_countStarving 30 = .ok (.if_icmp .lt 6, 3) := by decide +kernel
theorem dX0_countStarving_33 : decode cX0_countStarving 33 = .ok (.iinc 1 1, 3) := by decide +kernel
theorem dX0_countStarving_36 : decode cX0_countStarving 36 = .ok (.iinc 2 1, 3) := by decide +kernel
theorem dX0_countStarving_39 : decode cX0_countStarving 39 = .ok (.goto (-35), 3) := by decide +kernel
theorem dX0_countStarving_42 : decode cX0_countStarving 42 = .ok (.iload_n 1, 1) := by decide +kernel
theorem dX0_countStarving_43 : decode cX0_countStarving 43 = .ok (.ireturn, 1) := by decide +kernel
theorem dX0_givenUpInAll_0 : decode cX0_givenUpInAll 0 = .ok (.iconst 0, 1) := by decide +kernel
theorem dX0_givenUpInAll_1 : decode cX0_givenUpInAll 1 = .ok (.istore_n 1, 1) := by decide +kernel
theorem dX0_givenUpInAll_2 : decode cX0_givenUpInAll 2 = .ok (.iconst 0, 1) := by decide +kernel
theorem dX0_givenUpInAll_3 : decode cX0_givenUpInAll 3 = .ok (.istore_n 2, 1) := by decide +kernel
theorem dX0_givenUpInAll_4 : decode cX0_givenUpInAll 4 = .ok (.iload_n 2, 1) := by decide +kernel
theorem dX0_givenUpInAll_5 : decode cX0_givenUpInAll 5 = .ok (.aload_n 0, 1) := by decide +kernel
theorem dX0_givenUpInAll_6 : decode cX0_givenUpInAll 6 = .ok (.getfield 52, 3) := by decide +kernel
theorem dX0_givenUpInAll_9 : decode cX0_givenUpInAll 9 = .ok (.if_icmp .ge 18, 3) := by decide +kernel
theorem dX0_givenUpInAll_12 : decode cX0_givenUpInAll 12 = .ok (.iload_n 1, 1) := by decide +kernel
theorem dX0_givenUpInAll_13 : decode cX0_givenUpInAll 13 = .ok (.aload_n 0, 1) := by decide +kernel
theorem dX0_givenUpInAll_14 : decode cX0_givenUpInAll 14 = .ok (.getfield 18, 3) := by decide +kernel
theorem dX0_givenUpInAll_17 : decode cX0_givenUpInAll 17 = .ok (.iload_n 2, 1) := by decide +kernel
theorem dX0_givenUpInAll_18 : decode cX0_givenUpInAll 18 = .ok (.iaload, 1) := by decide +kernel
theorem dX0_givenUpInAll_19 : decode cX0_givenUpInAll 19 = .ok (.iadd, 1) := by decide +kernel
theorem dX0_givenUpInAll_20 : decode cX0_givenUpInAll 20 = .ok (.istore_n 1, 1) := by decide +kernel
theorem dX0_givenUpInAll_21 : decode cX0_givenUpInAll 21 = .ok (.iinc 2 1, 3) := by decide +kernel
theorem dX0_givenUpInAll_24 : decode cX0_givenUpInAll 24 = .ok (.goto (-20), 3) := by decide +kernel
theorem dX0_givenUpInAll_27 : decode cX0_givenUpInAll 27 = .ok (.iload_n 1, 1) := by decide +kernel
theorem dX0_givenUpInAll_28 : decode cX0_givenUpInAll 28 = .ok (.ireturn, 1) := by decide +kernel
theorem dX0_sumOfWaited_0 : decode cX0_sumOfWaited 0 = .ok (.iconst 0, 1) := by decide +kernel
theorem dX0_sumOfWaited_1 : decode cX0_sumOfWaited 1 = .ok (.istore_n 1, 1) := by decide +kernel
theorem dX0_sumOfWaited_2 : decode cX0_sumOfWaited 2 = .ok (.iconst 0, 1) := by decide +kernel
theorem dX0_sumOfWaited_3 : decode cX0_sumOfWaited 3 = .ok (.istore_n 2, 1) := by decide +kernel
theorem dX0_sumOfWaited_4 : decode cX0_sumOfWaited 4 = .ok (.iload_n 2, 1) := by decide +kernel
theorem dX0_sumOfWaited_5 : decode cX0_sumOfWaited 5 = .ok (.aload_n 0, 1) := by decide +kernel
theorem dX0_sumOfWaited_6 : decode cX0_sumOfWaited 6 = .ok (.getfield 55, 3) := by decide +kernel
theorem dX0_sumOfWaited_9 : decode cX0_sumOfWaited 9 = .ok (.if_icmp .ge 18, 3) := by decide +kernel
theorem dX0_sumOfWaited_12 : decode cX0_sumOfWaited 12 = .ok (.iload_n 1, 1) := by decide +kernel
theorem dX0_sumOfWaited_13 : decode cX0_sumOfWaited 13 = .ok (.aload_n 0, 1) := by decide +kernel
theorem dX0_sumOfWaited_14 : decode cX0_sumOfWaited 14 = .ok (.getfield 45, 3) := by decide +kernel
theorem dX0_sumOfWaited_17 : decode cX0_sumOfWaited 17 = .ok (.iload_n 2, 1) := by decide +kernel
theorem dX0_sumOfWaited_18 : decode cX0_sumOfWaited 18 = .ok (.iaload, 1) := by decide +kernel
theorem dX0_sumOfWaited_19 : decode cX0_sumOfWaited 19 = .ok (.iadd, 1) := by decide +kernel
theorem dX0_sumOfWaited_20 : decode cX0_sumOfWaited 20 = .ok (.istore_n 1, 1) := by decide +kernel
theorem dX0_sumOfWaited_21 : decode cX0_sumOfWaited 21 = .ok (.iinc 2 1, 3) := by decide +kernel
theorem dX0_sumOfWaited_24 : decode cX0_sumOfWaited 24 = .ok (.goto (-20), 3) := by decide +kernel
theorem dX0_sumOfWaited_27 : decode cX0_sumOfWaited 27 = .ok (.iload_n 1, 1) := by decide +kernel
theorem dX0_sumOfWaited_28 : decode cX0_sumOfWaited 28 = .ok (.ireturn, 1) := by decide +kernel
abbrev vwCl : List vw_C := [(RX0, TX0, 17), (RX1, TX1, 2), (RX2, TX2, 6)]
