/-! ===== names: by program out of the Statement and the listing ===== -/
def R_J : String := "JamRules"
def R_S : String := "JamRules$Sensor"
def R_I : String := "JamRules$Item"
def R_F : String := "JamRules$Fault"
def R_M : String := "JamRulesModel"
def R_L : String := "JamRulesLaw"
def F_J : u_T := fun k => match k with
  | 0 => ("JamRules", "sensors", "[LJamRules$Sensor;", true)
  | 1 => ("JamRules", "sensorCount", "I", false)
  | 2 => ("JamRules", "items", "[LJamRules$Item;", true)
  | 3 => ("JamRules", "itemCount", "I", false)
  | 4 => ("JamRules", "faults", "[LJamRules$Fault;", true)
  | 5 => ("JamRules", "faultCount", "I", false)
  | 6 => ("JamRules", "clearedCount", "I", false)
  | 7 => ("JamRules", "ruleStops", "[Z", true)
  | 8 => ("JamRules", "ruleThrows", "[Z", true)
  | 9 => ("JamRules", "list", "[I", true)
  | 10 => ("JamRules", "listSize", "I", false)
  | _ => ("JamRules", "clock", "J", false)
def t_J : Nat → FieldType := fun k => match k with
  | 0 => .array (.object "JamRules$Sensor")
  | 1 => .int
  | 2 => .array (.object "JamRules$Item")
  | 3 => .int
  | 4 => .array (.object "JamRules$Fault")
  | 5 => .int
  | 6 => .int
  | 7 => .array (.boolean)
  | 8 => .array (.boolean)
  | 9 => .array (.int)
  | 10 => .int
  | _ => .long
theorem n_J : ∀ a, a < 12 → ∀ b, b < 12 → a ≠ b → (F_J a).2.1 ≠ (F_J b).2.1 := by decide +kernel
theorem t_J_ok : ∀ k, k < 12 → parseFieldDescriptor (F_J k).2.2.1 = some (t_J k) := by decide +kernel
def F_S : u_T := fun k => match k with
  | 0 => ("JamRules$Sensor", "place", "J", true)
  | 1 => ("JamRules$Sensor", "edges", "I", false)
  | 2 => ("JamRules$Sensor", "dark", "Z", false)
  | 3 => ("JamRules$Sensor", "darkBy", "I", false)
  | 4 => ("JamRules$Sensor", "since", "J", false)
  | _ => ("JamRules$Sensor", "jamTold", "Z", false)
def t_S : Nat → FieldType := fun k => match k with
  | 0 => .long
  | 1 => .int
  | 2 => .boolean
  | 3 => .int
  | 4 => .long
  | _ => .boolean
theorem n_S : ∀ a, a < 6 → ∀ b, b < 6 → a ≠ b → (F_S a).2.1 ≠ (F_S b).2.1 := by decide +kernel
theorem t_S_ok : ∀ k, k < 6 → parseFieldDescriptor (F_S k).2.2.1 = some (t_S k) := by decide +kernel
def F_I : u_T := fun k => match k with
  | 0 => ("JamRules$Item", "length", "J", true)
  | 1 => ("JamRules$Item", "headTime", "J", true)
  | 2 => ("JamRules$Item", "offBy", "I", false)
  | 3 => ("JamRules$Item", "listed", "Z", false)
  | 4 => ("JamRules$Item", "fed", "Z", false)
  | 5 => ("JamRules$Item", "where", "I", false)
  | _ => ("JamRules$Item", "seenBits", "I", false)
def t_I : Nat → FieldType := fun k => match k with
  | 0 => .long
  | 1 => .long
  | 2 => .int
  | 3 => .boolean
  | 4 => .boolean
  | 5 => .int
  | _ => .int
theorem n_I : ∀ a, a < 7 → ∀ b, b < 7 → a ≠ b → (F_I a).2.1 ≠ (F_I b).2.1 := by decide +kernel
theorem t_I_ok : ∀ k, k < 7 → parseFieldDescriptor (F_I k).2.2.1 = some (t_I k) := by decide +kernel
def F_F : u_T := fun k => match k with
  | 0 => ("JamRules$Fault", "kind", "I", true)
  | 1 => ("JamRules$Fault", "sensor", "I", true)
  | 2 => ("JamRules$Fault", "time", "J", true)
  | 3 => ("JamRules$Fault", "threw", "Z", false)
  | 4 => ("JamRules$Fault", "stops", "Z", false)
  | 5 => ("JamRules$Fault", "doubt", "J", false)
  | _ => ("JamRules$Fault", "stepsDone", "I", false)
def t_F : Nat → FieldType := fun k => match k with
  | 0 => .int
  | 1 => .int
  | 2 => .long
  | 3 => .boolean
  | 4 => .boolean
  | 5 => .long
  | _ => .int
theorem n_F : ∀ a, a < 7 → ∀ b, b < 7 → a ≠ b → (F_F a).2.1 ≠ (F_F b).2.1 := by decide +kernel
theorem t_F_ok : ∀ k, k < 7 → parseFieldDescriptor (F_F k).2.2.1 = some (t_F k) := by decide +kernel
def F_M : u_T := fun k => match k with
  | 0 => ("JamRulesModel", "sensors", "I", false)
  | 1 => ("JamRulesModel", "places", "[J", true)
  | 2 => ("JamRulesModel", "dark", "[Z", true)
  | 3 => ("JamRulesModel", "counts", "[I", true)
  | 4 => ("JamRulesModel", "since", "[J", true)
  | 5 => ("JamRulesModel", "by", "[I", true)
  | 6 => ("JamRulesModel", "jammed", "[Z", true)
  | 7 => ("JamRulesModel", "items", "I", false)
  | 8 => ("JamRulesModel", "lengths", "[J", true)
  | 9 => ("JamRulesModel", "heads", "[J", true)
  | 10 => ("JamRulesModel", "states", "[I", true)
  | 11 => ("JamRulesModel", "seen", "[Z", true)
  | 12 => ("JamRulesModel", "isListed", "[Z", true)
  | 13 => ("JamRulesModel", "isFed", "[Z", true)
  | 14 => ("JamRulesModel", "list", "[I", true)
  | 15 => ("JamRulesModel", "listed", "I", false)
  | 16 => ("JamRulesModel", "faults", "I", false)
  | 17 => ("JamRulesModel", "kinds", "[I", true)
  | 18 => ("JamRulesModel", "at", "[I", true)
  | 19 => ("JamRulesModel", "times", "[J", true)
  | 20 => ("JamRulesModel", "stops", "[Z", true)
  | 21 => ("JamRulesModel", "threw", "[Z", true)
  | 22 => ("JamRulesModel", "planted", "[Z", true)
  | 23 => ("JamRulesModel", "done", "[I", true)
  | 24 => ("JamRulesModel", "cleared", "[Z", true)
  | 25 => ("JamRulesModel", "doubts", "[Z", true)
  | 26 => ("JamRulesModel", "does", "[Z", true)
  | 27 => ("JamRulesModel", "throwing", "[Z", true)
  | 28 => ("JamRulesModel", "ranks", "[I", true)
  | 29 => ("JamRulesModel", "steps", "[I", true)
  | 30 => ("JamRulesModel", "clock", "J", false)
  | 31 => ("JamRulesModel", "first", "I", false)
  | _ => ("JamRulesModel", "swept", "[Z", true)
def t_M : Nat → FieldType := fun k => match k with
  | 0 => .int
  | 1 => .array (.long)
  | 2 => .array (.boolean)
  | 3 => .array (.int)
  | 4 => .array (.long)
  | 5 => .array (.int)
  | 6 => .array (.boolean)
  | 7 => .int
  | 8 => .array (.long)
  | 9 => .array (.long)
  | 10 => .array (.int)
  | 11 => .array (.boolean)
  | 12 => .array (.boolean)
  | 13 => .array (.boolean)
  | 14 => .array (.int)
  | 15 => .int
  | 16 => .int
  | 17 => .array (.int)
  | 18 => .array (.int)
  | 19 => .array (.long)
  | 20 => .array (.boolean)
  | 21 => .array (.boolean)
  | 22 => .array (.boolean)
  | 23 => .array (.int)
  | 24 => .array (.boolean)
  | 25 => .array (.boolean)
  | 26 => .array (.boolean)
  | 27 => .array (.boolean)
  | 28 => .array (.int)
  | 29 => .array (.int)
  | 30 => .long
  | 31 => .int
  | _ => .array (.boolean)
theorem n_M : ∀ a, a < 33 → ∀ b, b < 33 → a ≠ b → (F_M a).2.1 ≠ (F_M b).2.1 := by decide +kernel
theorem t_M_ok : ∀ k, k < 33 → parseFieldDescriptor (F_M k).2.2.1 = some (t_M k) := by decide +kernel
def y_J_init : MethodName := ⟨R_J, "<init>", "()V"⟩
abbrev b_J_init : ByteArray := prog_1_method_1_code
def y_J_sensor : MethodName := ⟨R_J, "sensor", "(J)I"⟩
abbrev b_J_sensor : ByteArray := prog_1_method_2_code
def y_S_init : MethodName := ⟨R_S, "<init>", "(J)V"⟩
abbrev b_S_init : ByteArray := prog_4_method_1_code
def y_J_item : MethodName := ⟨R_J, "item", "(JJ)I"⟩
abbrev b_J_item : ByteArray := prog_1_method_3_code
def y_J_isTime : MethodName := ⟨R_J, "isTime", "(J)Z"⟩
abbrev b_J_isTime : ByteArray := prog_1_method_19_code
def y_J_earliestHead : MethodName := ⟨R_J, "earliestHead", "()J"⟩
abbrev b_J_earliestHead : ByteArray := prog_1_method_20_code
def y_J_goesOn : MethodName := ⟨R_J, "goesOn", "()Z"⟩
abbrev b_J_goesOn : ByteArray := prog_1_method_14_code
def y_I_init : MethodName := ⟨R_I, "<init>", "(JJ)V"⟩
abbrev b_I_init : ByteArray := prog_3_method_1_code
def y_J_edge : MethodName := ⟨R_J, "edge", "(IZJ)I"⟩
abbrev b_J_edge : ByteArray := prog_1_method_4_code
def y_J_isSensor : MethodName := ⟨R_J, "isSensor", "(I)Z"⟩
abbrev b_J_isSensor : ByteArray := prog_1_method_15_code
def y_J_tellJams : MethodName := ⟨R_J, "tellJams", "()V"⟩
abbrev b_J_tellJams : ByteArray := prog_1_method_21_code
def y_J_lengthAt : MethodName := ⟨R_J, "lengthAt", "(LJamRules$Sensor;)J"⟩
abbrev b_J_lengthAt : ByteArray := prog_1_method_22_code
def y_J_isItem : MethodName := ⟨R_J, "isItem", "(I)Z"⟩
abbrev b_J_isItem : ByteArray := prog_1_method_16_code
def y_J_tell : MethodName := ⟨R_J, "tell", "(II)I"⟩
abbrev b_J_tell : ByteArray := prog_1_method_31_code
def y_F_init : MethodName := ⟨R_F, "<init>", "(IIJ)V"⟩
abbrev b_F_init : ByteArray := prog_2_method_1_code
def y_J_doubtAt : MethodName := ⟨R_J, "doubtAt", "(I)J"⟩
abbrev b_J_doubtAt : ByteArray := prog_1_method_32_code
def y_J_isInDoubt : MethodName := ⟨R_J, "isInDoubt", "(II)Z"⟩
abbrev b_J_isInDoubt : ByteArray := prog_1_method_33_code
def y_I_isOnBelt : MethodName := ⟨R_I, "isOnBelt", "()Z"⟩
abbrev b_I_isOnBelt : ByteArray := prog_3_method_2_code
def y_I_isSeenBy : MethodName := ⟨R_I, "isSeenBy", "(I)Z"⟩
abbrev b_I_isSeenBy : ByteArray := prog_3_method_4_code
def y_J_becomeDark : MethodName := ⟨R_J, "becomeDark", "(I)V"⟩
abbrev b_J_becomeDark : ByteArray := prog_1_method_23_code
def y_J_loseLateItems : MethodName := ⟨R_J, "loseLateItems", "(I)V"⟩
abbrev b_J_loseLateItems : ByteArray := prog_1_method_24_code
def y_J_isAwaited : MethodName := ⟨R_J, "isAwaited", "(II)Z"⟩
abbrev b_J_isAwaited : ByteArray := prog_1_method_27_code
def y_J_dueAt : MethodName := ⟨R_J, "dueAt", "(II)J"⟩
abbrev b_J_dueAt : ByteArray := prog_1_method_30_code
def y_I_takeOffBelt : MethodName := ⟨R_I, "takeOffBelt", "(I)V"⟩
abbrev b_I_takeOffBelt : ByteArray := prog_3_method_6_code
def y_J_leastUnseen : MethodName := ⟨R_J, "leastUnseen", "(I)I"⟩
abbrev b_J_leastUnseen : ByteArray := prog_1_method_28_code
def y_J_isComing : MethodName := ⟨R_J, "isComing", "(II)Z"⟩
abbrev b_J_isComing : ByteArray := prog_1_method_29_code
def y_I_beSeenBy : MethodName := ⟨R_I, "beSeenBy", "(I)V"⟩
abbrev b_I_beSeenBy : ByteArray := prog_3_method_5_code
def y_S_darken : MethodName := ⟨R_S, "darken", "(IJ)V"⟩
abbrev b_S_darken : ByteArray := prog_4_method_2_code
def y_J_becomeLight : MethodName := ⟨R_J, "becomeLight", "(I)V"⟩
abbrev b_J_becomeLight : ByteArray := prog_1_method_25_code
def y_J_judgeLength : MethodName := ⟨R_J, "judgeLength", "(II)V"⟩
abbrev b_J_judgeLength : ByteArray := prog_1_method_26_code
def y_I_leaveBelt : MethodName := ⟨R_I, "leaveBelt", "()V"⟩
abbrev b_I_leaveBelt : ByteArray := prog_3_method_7_code
def y_S_lighten : MethodName := ⟨R_S, "lighten", "()V"⟩
abbrev b_S_lighten : ByteArray := prog_4_method_3_code
def y_J_doubt : MethodName := ⟨R_J, "doubt", "(II)I"⟩
abbrev b_J_doubt : ByteArray := prog_1_method_5_code
def y_J_isFault : MethodName := ⟨R_J, "isFault", "(I)Z"⟩
abbrev b_J_isFault : ByteArray := prog_1_method_17_code
def y_F_doubts : MethodName := ⟨R_F, "doubts", "(I)Z"⟩
abbrev b_F_doubts : ByteArray := prog_2_method_2_code
def y_J_cause : MethodName := ⟨R_J, "cause", "(I)I"⟩
abbrev b_J_cause : ByteArray := prog_1_method_6_code
def y_J_cameAgain : MethodName := ⟨R_J, "cameAgain", "(I)Z"⟩
abbrev b_J_cameAgain : ByteArray := prog_1_method_34_code
def y_J_isSameTrouble : MethodName := ⟨R_J, "isSameTrouble", "(LJamRules$Fault;LJamRules$Fault;)Z"⟩
abbrev b_J_isSameTrouble : ByteArray := prog_1_method_35_code
def y_J_step : MethodName := ⟨R_J, "step", "(II)I"⟩
abbrev b_J_step : ByteArray := prog_1_method_7_code
def y_J_nextStep : MethodName := ⟨R_J, "nextStep", "(LJamRules$Fault;)I"⟩
abbrev b_J_nextStep : ByteArray := prog_1_method_37_code
def y_J_resetCounts : MethodName := ⟨R_J, "resetCounts", "()V"⟩
abbrev b_J_resetCounts : ByteArray := prog_1_method_38_code
def y_J_clear : MethodName := ⟨R_J, "clear", "(I)V"⟩
abbrev b_J_clear : ByteArray := prog_1_method_39_code
def y_J_emptyBelt : MethodName := ⟨R_J, "emptyBelt", "(I)V"⟩
abbrev b_J_emptyBelt : ByteArray := prog_1_method_40_code
def y_I_isOff : MethodName := ⟨R_I, "isOff", "()Z"⟩
abbrev b_I_isOff : ByteArray := prog_3_method_3_code
def y_J_putOnList : MethodName := ⟨R_J, "putOnList", "(I)V"⟩
abbrev b_J_putOnList : ByteArray := prog_1_method_42_code
def y_J_listOffBy : MethodName := ⟨R_J, "listOffBy", "(I)V"⟩
abbrev b_J_listOffBy : ByteArray := prog_1_method_41_code
def y_J_feed : MethodName := ⟨R_J, "feed", "(I)I"⟩
abbrev b_J_feed : ByteArray := prog_1_method_8_code
def y_J_takeOffList : MethodName := ⟨R_J, "takeOffList", "(I)V"⟩
abbrev b_J_takeOffList : ByteArray := prog_1_method_43_code
def y_J_listed : MethodName := ⟨R_J, "listed", "(I)I"⟩
abbrev b_J_listed : ByteArray := prog_1_method_9_code
def y_J_rule : MethodName := ⟨R_J, "rule", "(IIZ)I"⟩
abbrev b_J_rule : ByteArray := prog_1_method_10_code
def y_J_isKind : MethodName := ⟨R_J, "isKind", "(I)Z"⟩
abbrev b_J_isKind : ByteArray := prog_1_method_18_code
def y_J_plant : MethodName := ⟨R_J, "plant", "(IJ)I"⟩
abbrev b_J_plant : ByteArray := prog_1_method_11_code
def y_J_alarm : MethodName := ⟨R_J, "alarm", "(II)I"⟩
abbrev b_J_alarm : ByteArray := prog_1_method_12_code
def y_J_faultByRank : MethodName := ⟨R_J, "faultByRank", "(I)I"⟩
abbrev b_J_faultByRank : ByteArray := prog_1_method_36_code
def y_F_rank : MethodName := ⟨R_F, "rank", "()I"⟩
abbrev b_F_rank : ByteArray := prog_2_method_3_code
def y_J_count : MethodName := ⟨R_J, "count", "(I)I"⟩
abbrev b_J_count : ByteArray := prog_1_method_13_code
def y_M_init : MethodName := ⟨R_M, "<init>", "()V"⟩
abbrev b_M_init : ByteArray := prog_6_method_1_code
def y_M_sensor : MethodName := ⟨R_M, "sensor", "(J)I"⟩
abbrev b_M_sensor : ByteArray := prog_6_method_5_code
def y_M_item : MethodName := ⟨R_M, "item", "(JJ)I"⟩
abbrev b_M_item : ByteArray := prog_6_method_6_code
def y_M_isIn : MethodName := ⟨R_M, "isIn", "(JJJ)Z"⟩
abbrev b_M_isIn : ByteArray := prog_6_method_2_code
def y_M_stands : MethodName := ⟨R_M, "stands", "()Z"⟩
abbrev b_M_stands : ByteArray := prog_6_method_4_code
def y_M_edge : MethodName := ⟨R_M, "edge", "(IZJ)I"⟩
abbrev b_M_edge : ByteArray := prog_6_method_15_code
def y_M_noSensor : MethodName := ⟨R_M, "noSensor", "(I)Z"⟩
abbrev b_M_noSensor : ByteArray := prog_6_method_3_code
def y_M_jams : MethodName := ⟨R_M, "jams", "(J)V"⟩
abbrev b_M_jams : ByteArray := prog_6_method_12_code
def y_M_tell : MethodName := ⟨R_M, "tell", "(IIJZ)I"⟩
abbrev b_M_tell : ByteArray := prog_6_method_9_code
def y_M_isDoubt : MethodName := ⟨R_M, "isDoubt", "(IIJ)Z"⟩
abbrev b_M_isDoubt : ByteArray := prog_6_method_8_code
def y_M_isSeen : MethodName := ⟨R_M, "isSeen", "(II)Z"⟩
abbrev b_M_isSeen : ByteArray := prog_6_method_7_code
def y_M_darken : MethodName := ⟨R_M, "darken", "(IJ)V"⟩
abbrev b_M_darken : ByteArray := prog_6_method_13_code
def y_M_next : MethodName := ⟨R_M, "next", "(I)I"⟩
abbrev b_M_next : ByteArray := prog_6_method_11_code
def y_M_due : MethodName := ⟨R_M, "due", "(II)J"⟩
abbrev b_M_due : ByteArray := prog_6_method_10_code
def y_M_lighten : MethodName := ⟨R_M, "lighten", "(IJ)V"⟩
abbrev b_M_lighten : ByteArray := prog_6_method_14_code
def y_M_doubt : MethodName := ⟨R_M, "doubt", "(II)I"⟩
abbrev b_M_doubt : ByteArray := prog_6_method_17_code
def y_M_noFault : MethodName := ⟨R_M, "noFault", "(I)Z"⟩
abbrev b_M_noFault : ByteArray := prog_6_method_16_code
def y_M_cause : MethodName := ⟨R_M, "cause", "(I)I"⟩
abbrev b_M_cause : ByteArray := prog_6_method_18_code
def y_M_step : MethodName := ⟨R_M, "step", "(II)I"⟩
abbrev b_M_step : ByteArray := prog_6_method_21_code
def y_M_clear : MethodName := ⟨R_M, "clear", "(I)V"⟩
abbrev b_M_clear : ByteArray := prog_6_method_20_code
def y_M_enlist : MethodName := ⟨R_M, "enlist", "(I)V"⟩
abbrev b_M_enlist : ByteArray := prog_6_method_19_code
def y_M_feed : MethodName := ⟨R_M, "feed", "(I)I"⟩
abbrev b_M_feed : ByteArray := prog_6_method_22_code
def y_M_listed : MethodName := ⟨R_M, "listed", "(I)I"⟩
abbrev b_M_listed : ByteArray := prog_6_method_23_code
def y_M_rule : MethodName := ⟨R_M, "rule", "(IIZ)I"⟩
abbrev b_M_rule : ByteArray := prog_6_method_24_code
def y_M_plant : MethodName := ⟨R_M, "plant", "(IJ)I"⟩
abbrev b_M_plant : ByteArray := prog_6_method_25_code
def y_M_alarm : MethodName := ⟨R_M, "alarm", "(II)I"⟩
abbrev b_M_alarm : ByteArray := prog_6_method_27_code
def y_M_rankOf : MethodName := ⟨R_M, "rankOf", "(I)I"⟩
abbrev b_M_rankOf : ByteArray := prog_6_method_26_code
def y_M_count : MethodName := ⟨R_M, "count", "(I)I"⟩
abbrev b_M_count : ByteArray := prog_6_method_28_code
def y_M_goesOn : MethodName := ⟨R_M, "goesOn", "()Z"⟩
abbrev b_M_goesOn : ByteArray := prog_6_method_29_code
def y_L_law : MethodName := x
abbrev b_L_law : ByteArray := code
/-- the tables' words that stay -/
def TB : List Cond := lw_tbl.filter goodWord
theorem TB_of {w : Cond} (h : w ∈ tables_1) (g : goodWord w = true) : w ∈ TB := List.mem_filter.mpr ⟨List.mem_append_right _ h, g⟩
theorem TB_se {q : MethodName × Nat} (h : q ∈ lw_privs) : Cond.selects q.1.cls q.1 q.1 ∈ TB := List.mem_filter.mpr ⟨List.mem_append_left _ (List.mem_map.mpr ⟨q, h, rfl⟩), rfl⟩
theorem TB_good : GoodIn TB TB := fun w h => ⟨h, good_of_word (List.mem_filter.mp h).2⟩
theorem TB_in {args : Array Value} {s : State} (h : ∀ w ∈ lw_tbl, w.before args s = true) : ∀ w ∈ TB, w.before args s = true := fun w hw => h w (List.mem_filter.mp hw).1
theorem in_J : ∀ w ∈ u_ws R_J F_J 12, w ∈ TB := fun w hw => by
  have h : w ∈ ([32, 34, 36, 38, 40, 42, 44, 46, 48, 50, 52, 54] : List Nat).filterMap (fun i => tables_1[i]?) := by
    rw [show u_ws R_J F_J 12 = ([32, 34, 36, 38, 40, 42, 44, 46, 48, 50, 52, 54] : List Nat).filterMap (fun i => tables_1[i]?) by decide +kernel] at hw
    exact hw
  obtain ⟨i, -, hi⟩ := List.mem_filterMap.mp h
  exact TB_of (List.mem_of_getElem? hi) (List.all_eq_true.mp (show (u_ws R_J F_J 12).all goodWord = true by decide +kernel) w hw)
theorem in_S : ∀ w ∈ u_ws R_S F_S 6, w ∈ TB := fun w hw => by
  have h : w ∈ ([82, 84, 86, 88, 90, 92] : List Nat).filterMap (fun i => tables_1[i]?) := by
    rw [show u_ws R_S F_S 6 = ([82, 84, 86, 88, 90, 92] : List Nat).filterMap (fun i => tables_1[i]?) by decide +kernel] at hw
    exact hw
  obtain ⟨i, -, hi⟩ := List.mem_filterMap.mp h
  exact TB_of (List.mem_of_getElem? hi) (List.all_eq_true.mp (show (u_ws R_S F_S 6).all goodWord = true by decide +kernel) w hw)
theorem in_I : ∀ w ∈ u_ws R_I F_I 7, w ∈ TB := fun w hw => by
  have h : w ∈ ([132, 134, 136, 138, 140, 142, 144] : List Nat).filterMap (fun i => tables_1[i]?) := by
    rw [show u_ws R_I F_I 7 = ([132, 134, 136, 138, 140, 142, 144] : List Nat).filterMap (fun i => tables_1[i]?) by decide +kernel] at hw
    exact hw
  obtain ⟨i, -, hi⟩ := List.mem_filterMap.mp h
  exact TB_of (List.mem_of_getElem? hi) (List.all_eq_true.mp (show (u_ws R_I F_I 7).all goodWord = true by decide +kernel) w hw)
theorem in_F : ∀ w ∈ u_ws R_F F_F 7, w ∈ TB := fun w hw => by
  have h : w ∈ ([191, 193, 195, 197, 199, 201, 203] : List Nat).filterMap (fun i => tables_1[i]?) := by
    rw [show u_ws R_F F_F 7 = ([191, 193, 195, 197, 199, 201, 203] : List Nat).filterMap (fun i => tables_1[i]?) by decide +kernel] at hw
    exact hw
  obtain ⟨i, -, hi⟩ := List.mem_filterMap.mp h
  exact TB_of (List.mem_of_getElem? hi) (List.all_eq_true.mp (show (u_ws R_F F_F 7).all goodWord = true by decide +kernel) w hw)
theorem in_M : ∀ w ∈ u_ws R_M F_M 33, w ∈ TB := fun w hw => by
  have h : w ∈ ([414, 416, 418, 420, 422, 424, 426, 428, 430, 432, 434, 436, 438, 440, 442, 444, 446, 448, 450, 452, 454, 456, 458, 460, 462, 464, 466, 468, 470, 472, 474, 476, 478] : List Nat).filterMap (fun i => tables_1[i]?) := by
    rw [show u_ws R_M F_M 33 = ([414, 416, 418, 420, 422, 424, 426, 428, 430, 432, 434, 436, 438, 440, 442, 444, 446, 448, 450, 452, 454, 456, 458, 460, 462, 464, 466, 468, 470, 472, 474, 476, 478] : List Nat).filterMap (fun i => tables_1[i]?) by decide +kernel] at hw
    exact hw
  obtain ⟨i, -, hi⟩ := List.mem_filterMap.mp h
  exact TB_of (List.mem_of_getElem? hi) (List.all_eq_true.mp (show (u_ws R_M F_M 33).all goodWord = true by decide +kernel) w hw)
theorem tw_0 : Cond.initialized "JamRulesLaw" ∈ TB := TB_of (List.mem_of_getElem? (i := 0) (by decide +kernel)) (by decide +kernel)
theorem tw_1 : Cond.initialized "JamRules" ∈ TB := TB_of (List.mem_of_getElem? (i := 1) (by decide +kernel)) (by decide +kernel)
theorem tw_2 : Cond.initialized "JamRulesModel" ∈ TB := TB_of (List.mem_of_getElem? (i := 2) (by decide +kernel)) (by decide +kernel)
theorem tw_3 : Cond.initialized "JamRules$Sensor" ∈ TB := TB_of (List.mem_of_getElem? (i := 3) (by decide +kernel)) (by decide +kernel)
theorem tw_4 : Cond.initialized "JamRules$Item" ∈ TB := TB_of (List.mem_of_getElem? (i := 4) (by decide +kernel)) (by decide +kernel)
theorem tw_5 : Cond.initialized "JamRules$Fault" ∈ TB := TB_of (List.mem_of_getElem? (i := 5) (by decide +kernel)) (by decide +kernel)
theorem tw_6 : Cond.classLink "JamRulesLaw" 7 "JamRules" ∈ TB := TB_of (List.mem_of_getElem? (i := 6) (by decide +kernel)) (by decide +kernel)
theorem tw_7 : Cond.instantiable "JamRules" 12 ∈ TB := TB_of (List.mem_of_getElem? (i := 7) (by decide +kernel)) (by decide +kernel)
theorem tw_8 : Cond.methodLink "JamRulesLaw" 9 y_J_init ∈ TB := TB_of (List.mem_of_getElem? (i := 8) (by decide +kernel)) (by decide +kernel)
theorem tw_9 : Cond.instanceMethod y_J_init ∈ TB := TB_of (List.mem_of_getElem? (i := 9) (by decide +kernel)) (by decide +kernel)
set_option maxRecDepth 100000 in
theorem tw_10 : Cond.code y_J_init b_J_init 1 none ∈ TB := TB_of (List.mem_of_getElem? (i := 10) rfl) rfl
theorem tw_11 : Cond.methodLink "JamRules" 1 objectInit ∈ TB := TB_of (List.mem_of_getElem? (i := 11) (by decide +kernel)) (by decide +kernel)
theorem tw_12 : Cond.instanceMethod objectInit ∈ TB := TB_of (List.mem_of_getElem? (i := 12) (by decide +kernel)) (by decide +kernel)
set_option maxRecDepth 100000 in
theorem tw_13 : Cond.code objectInit ⟨#[0xb1]⟩ 1 none ∈ TB := TB_of (List.mem_of_getElem? (i := 13) rfl) rfl
theorem tw_14 : Cond.classLink "JamRules" 9 "JamRules$Sensor" ∈ TB := TB_of (List.mem_of_getElem? (i := 14) (by decide +kernel)) (by decide +kernel)
theorem tw_16 : Cond.classLink "JamRules" 19 "JamRules$Item" ∈ TB := TB_of (List.mem_of_getElem? (i := 16) (by decide +kernel)) (by decide +kernel)
theorem tw_18 : Cond.classLink "JamRules" 28 "JamRules$Fault" ∈ TB := TB_of (List.mem_of_getElem? (i := 18) (by decide +kernel)) (by decide +kernel)
theorem tw_20 : Cond.fieldLink "JamRules" 11 "JamRules" "sensors" "[LJamRules$Sensor;" ∈ TB := TB_of (List.mem_of_getElem? (i := 20) (by decide +kernel)) (by decide +kernel)
theorem tw_21 : Cond.fieldLink "JamRules" 15 "JamRules" "sensorCount" "I" ∈ TB := TB_of (List.mem_of_getElem? (i := 21) (by decide +kernel)) (by decide +kernel)
theorem tw_22 : Cond.fieldLink "JamRules" 21 "JamRules" "items" "[LJamRules$Item;" ∈ TB := TB_of (List.mem_of_getElem? (i := 22) (by decide +kernel)) (by decide +kernel)
theorem tw_23 : Cond.fieldLink "JamRules" 25 "JamRules" "itemCount" "I" ∈ TB := TB_of (List.mem_of_getElem? (i := 23) (by decide +kernel)) (by decide +kernel)
theorem tw_24 : Cond.fieldLink "JamRules" 30 "JamRules" "faults" "[LJamRules$Fault;" ∈ TB := TB_of (List.mem_of_getElem? (i := 24) (by decide +kernel)) (by decide +kernel)
theorem tw_25 : Cond.fieldLink "JamRules" 34 "JamRules" "faultCount" "I" ∈ TB := TB_of (List.mem_of_getElem? (i := 25) (by decide +kernel)) (by decide +kernel)
theorem tw_26 : Cond.fieldLink "JamRules" 37 "JamRules" "clearedCount" "I" ∈ TB := TB_of (List.mem_of_getElem? (i := 26) (by decide +kernel)) (by decide +kernel)
theorem tw_27 : Cond.fieldLink "JamRules" 40 "JamRules" "ruleStops" "[Z" ∈ TB := TB_of (List.mem_of_getElem? (i := 27) (by decide +kernel)) (by decide +kernel)
theorem tw_28 : Cond.fieldLink "JamRules" 44 "JamRules" "ruleThrows" "[Z" ∈ TB := TB_of (List.mem_of_getElem? (i := 28) (by decide +kernel)) (by decide +kernel)
theorem tw_29 : Cond.fieldLink "JamRules" 47 "JamRules" "list" "[I" ∈ TB := TB_of (List.mem_of_getElem? (i := 29) (by decide +kernel)) (by decide +kernel)
theorem tw_30 : Cond.fieldLink "JamRules" 51 "JamRules" "listSize" "I" ∈ TB := TB_of (List.mem_of_getElem? (i := 30) (by decide +kernel)) (by decide +kernel)
theorem tw_31 : Cond.fieldLink "JamRules" 54 "JamRules" "clock" "J" ∈ TB := TB_of (List.mem_of_getElem? (i := 31) (by decide +kernel)) (by decide +kernel)
theorem tw_57 : Cond.arrayClass FieldType.boolean ∈ TB := TB_of (List.mem_of_getElem? (i := 57) (by decide +kernel)) (by decide +kernel)
theorem tw_58 : Cond.arrayClass FieldType.int ∈ TB := TB_of (List.mem_of_getElem? (i := 58) (by decide +kernel)) (by decide +kernel)
theorem tw_59 : Cond.methodLink "JamRulesLaw" 15 y_J_sensor ∈ TB := TB_of (List.mem_of_getElem? (i := 59) (by decide +kernel)) (by decide +kernel)
theorem tw_60 : Cond.instanceMethod y_J_sensor ∈ TB := TB_of (List.mem_of_getElem? (i := 60) (by decide +kernel)) (by decide +kernel)
theorem tw_61 : Cond.selects "JamRules" y_J_sensor y_J_sensor ∈ TB := TB_of (List.mem_of_getElem? (i := 61) (by decide +kernel)) (by decide +kernel)
set_option maxRecDepth 100000 in
theorem tw_62 : Cond.code y_J_sensor b_J_sensor 5 (some .int) ∈ TB := TB_of (List.mem_of_getElem? (i := 62) rfl) rfl
theorem tw_63 : Cond.constantLong "JamRules" 61 (100) ∈ TB := TB_of (List.mem_of_getElem? (i := 63) (by decide +kernel)) (by decide +kernel)
theorem tw_64 : Cond.constantLong "JamRules" 63 (100000) ∈ TB := TB_of (List.mem_of_getElem? (i := 64) (by decide +kernel)) (by decide +kernel)
theorem tw_65 : Cond.instantiable "JamRules$Sensor" 6 ∈ TB := TB_of (List.mem_of_getElem? (i := 65) (by decide +kernel)) (by decide +kernel)
theorem tw_66 : Cond.methodLink "JamRules" 65 y_S_init ∈ TB := TB_of (List.mem_of_getElem? (i := 66) (by decide +kernel)) (by decide +kernel)
theorem tw_67 : Cond.instanceMethod y_S_init ∈ TB := TB_of (List.mem_of_getElem? (i := 67) (by decide +kernel)) (by decide +kernel)
set_option maxRecDepth 100000 in
theorem tw_68 : Cond.code y_S_init b_S_init 3 none ∈ TB := TB_of (List.mem_of_getElem? (i := 68) rfl) rfl
theorem tw_69 : Cond.methodLink "JamRules$Sensor" 3 objectInit ∈ TB := TB_of (List.mem_of_getElem? (i := 69) (by decide +kernel)) (by decide +kernel)
theorem tw_70 : Cond.fieldLink "JamRules$Sensor" 29 "JamRules$Sensor" "place" "J" ∈ TB := TB_of (List.mem_of_getElem? (i := 70) (by decide +kernel)) (by decide +kernel)
theorem tw_71 : Cond.fieldLink "JamRules" 58 "JamRules$Sensor" "place" "J" ∈ TB := TB_of (List.mem_of_getElem? (i := 71) (by decide +kernel)) (by decide +kernel)
theorem tw_72 : Cond.fieldLink "JamRules$Sensor" 9 "JamRules$Sensor" "edges" "I" ∈ TB := TB_of (List.mem_of_getElem? (i := 72) (by decide +kernel)) (by decide +kernel)
theorem tw_73 : Cond.fieldLink "JamRules" 166 "JamRules$Sensor" "edges" "I" ∈ TB := TB_of (List.mem_of_getElem? (i := 73) (by decide +kernel)) (by decide +kernel)
theorem tw_74 : Cond.fieldLink "JamRules$Sensor" 15 "JamRules$Sensor" "dark" "Z" ∈ TB := TB_of (List.mem_of_getElem? (i := 74) (by decide +kernel)) (by decide +kernel)
theorem tw_75 : Cond.fieldLink "JamRules" 91 "JamRules$Sensor" "dark" "Z" ∈ TB := TB_of (List.mem_of_getElem? (i := 75) (by decide +kernel)) (by decide +kernel)
theorem tw_76 : Cond.fieldLink "JamRules$Sensor" 19 "JamRules$Sensor" "darkBy" "I" ∈ TB := TB_of (List.mem_of_getElem? (i := 76) (by decide +kernel)) (by decide +kernel)
theorem tw_77 : Cond.fieldLink "JamRules" 194 "JamRules$Sensor" "darkBy" "I" ∈ TB := TB_of (List.mem_of_getElem? (i := 77) (by decide +kernel)) (by decide +kernel)
theorem tw_78 : Cond.fieldLink "JamRules$Sensor" 22 "JamRules$Sensor" "since" "J" ∈ TB := TB_of (List.mem_of_getElem? (i := 78) (by decide +kernel)) (by decide +kernel)
theorem tw_79 : Cond.fieldLink "JamRules" 185 "JamRules$Sensor" "since" "J" ∈ TB := TB_of (List.mem_of_getElem? (i := 79) (by decide +kernel)) (by decide +kernel)
theorem tw_80 : Cond.fieldLink "JamRules$Sensor" 26 "JamRules$Sensor" "jamTold" "Z" ∈ TB := TB_of (List.mem_of_getElem? (i := 80) (by decide +kernel)) (by decide +kernel)
theorem tw_81 : Cond.fieldLink "JamRules" 182 "JamRules$Sensor" "jamTold" "Z" ∈ TB := TB_of (List.mem_of_getElem? (i := 81) (by decide +kernel)) (by decide +kernel)
theorem tw_95 : Cond.methodLink "JamRulesLaw" 20 y_J_item ∈ TB := TB_of (List.mem_of_getElem? (i := 95) (by decide +kernel)) (by decide +kernel)
theorem tw_96 : Cond.instanceMethod y_J_item ∈ TB := TB_of (List.mem_of_getElem? (i := 96) (by decide +kernel)) (by decide +kernel)
theorem tw_97 : Cond.selects "JamRules" y_J_item y_J_item ∈ TB := TB_of (List.mem_of_getElem? (i := 97) (by decide +kernel)) (by decide +kernel)
set_option maxRecDepth 100000 in
theorem tw_98 : Cond.code y_J_item b_J_item 5 (some .int) ∈ TB := TB_of (List.mem_of_getElem? (i := 98) rfl) rfl
theorem tw_99 : Cond.constantLong "JamRules" 68 (50) ∈ TB := TB_of (List.mem_of_getElem? (i := 99) (by decide +kernel)) (by decide +kernel)
theorem tw_100 : Cond.constantLong "JamRules" 70 (1000) ∈ TB := TB_of (List.mem_of_getElem? (i := 100) (by decide +kernel)) (by decide +kernel)
theorem tw_101 : Cond.methodLink "JamRules" 72 y_J_isTime ∈ TB := TB_of (List.mem_of_getElem? (i := 101) (by decide +kernel)) (by decide +kernel)
theorem tw_103 : Cond.instanceMethod y_J_isTime ∈ TB := TB_of (List.mem_of_getElem? (i := 103) (by decide +kernel)) (by decide +kernel)
set_option maxRecDepth 100000 in
theorem tw_104 : Cond.code y_J_isTime b_J_isTime 3 (some .boolean) ∈ TB := TB_of (List.mem_of_getElem? (i := 104) rfl) rfl
theorem tw_105 : Cond.constantLong "JamRules" 172 (1000000000) ∈ TB := TB_of (List.mem_of_getElem? (i := 105) (by decide +kernel)) (by decide +kernel)
theorem tw_106 : Cond.methodLink "JamRules" 76 y_J_earliestHead ∈ TB := TB_of (List.mem_of_getElem? (i := 106) (by decide +kernel)) (by decide +kernel)
theorem tw_108 : Cond.instanceMethod y_J_earliestHead ∈ TB := TB_of (List.mem_of_getElem? (i := 108) (by decide +kernel)) (by decide +kernel)
set_option maxRecDepth 100000 in
theorem tw_109 : Cond.code y_J_earliestHead b_J_earliestHead 2 (some .long) ∈ TB := TB_of (List.mem_of_getElem? (i := 109) rfl) rfl
theorem tw_110 : Cond.constantLong "JamRules" 180 (30) ∈ TB := TB_of (List.mem_of_getElem? (i := 110) (by decide +kernel)) (by decide +kernel)
theorem tw_111 : Cond.methodLink "JamRules" 80 y_J_goesOn ∈ TB := TB_of (List.mem_of_getElem? (i := 111) (by decide +kernel)) (by decide +kernel)
theorem tw_112 : Cond.instanceMethod y_J_goesOn ∈ TB := TB_of (List.mem_of_getElem? (i := 112) (by decide +kernel)) (by decide +kernel)
theorem tw_113 : Cond.selects "JamRules" y_J_goesOn y_J_goesOn ∈ TB := TB_of (List.mem_of_getElem? (i := 113) (by decide +kernel)) (by decide +kernel)
set_option maxRecDepth 100000 in
theorem tw_114 : Cond.code y_J_goesOn b_J_goesOn 2 (some .boolean) ∈ TB := TB_of (List.mem_of_getElem? (i := 114) rfl) rfl
theorem tw_115 : Cond.instantiable "JamRules$Item" 7 ∈ TB := TB_of (List.mem_of_getElem? (i := 115) (by decide +kernel)) (by decide +kernel)
theorem tw_116 : Cond.methodLink "JamRules" 84 y_I_init ∈ TB := TB_of (List.mem_of_getElem? (i := 116) (by decide +kernel)) (by decide +kernel)
theorem tw_117 : Cond.instanceMethod y_I_init ∈ TB := TB_of (List.mem_of_getElem? (i := 117) (by decide +kernel)) (by decide +kernel)
set_option maxRecDepth 100000 in
theorem tw_118 : Cond.code y_I_init b_I_init 5 none ∈ TB := TB_of (List.mem_of_getElem? (i := 118) rfl) rfl
theorem tw_119 : Cond.methodLink "JamRules$Item" 3 objectInit ∈ TB := TB_of (List.mem_of_getElem? (i := 119) (by decide +kernel)) (by decide +kernel)
theorem tw_120 : Cond.fieldLink "JamRules$Item" 28 "JamRules$Item" "length" "J" ∈ TB := TB_of (List.mem_of_getElem? (i := 120) (by decide +kernel)) (by decide +kernel)
theorem tw_121 : Cond.fieldLink "JamRules" 177 "JamRules$Item" "length" "J" ∈ TB := TB_of (List.mem_of_getElem? (i := 121) (by decide +kernel)) (by decide +kernel)
theorem tw_122 : Cond.fieldLink "JamRules$Item" 32 "JamRules$Item" "headTime" "J" ∈ TB := TB_of (List.mem_of_getElem? (i := 122) (by decide +kernel)) (by decide +kernel)
theorem tw_123 : Cond.fieldLink "JamRules" 174 "JamRules$Item" "headTime" "J" ∈ TB := TB_of (List.mem_of_getElem? (i := 123) (by decide +kernel)) (by decide +kernel)
theorem tw_124 : Cond.fieldLink "JamRules$Item" 9 "JamRules$Item" "offBy" "I" ∈ TB := TB_of (List.mem_of_getElem? (i := 124) (by decide +kernel)) (by decide +kernel)
theorem tw_125 : Cond.fieldLink "JamRules" 278 "JamRules$Item" "offBy" "I" ∈ TB := TB_of (List.mem_of_getElem? (i := 125) (by decide +kernel)) (by decide +kernel)
theorem tw_126 : Cond.fieldLink "JamRules$Item" 15 "JamRules$Item" "listed" "Z" ∈ TB := TB_of (List.mem_of_getElem? (i := 126) (by decide +kernel)) (by decide +kernel)
theorem tw_127 : Cond.fieldLink "JamRules" 142 "JamRules$Item" "listed" "Z" ∈ TB := TB_of (List.mem_of_getElem? (i := 127) (by decide +kernel)) (by decide +kernel)
theorem tw_128 : Cond.fieldLink "JamRules$Item" 19 "JamRules$Item" "fed" "Z" ∈ TB := TB_of (List.mem_of_getElem? (i := 128) (by decide +kernel)) (by decide +kernel)
theorem tw_129 : Cond.fieldLink "JamRules" 139 "JamRules$Item" "fed" "Z" ∈ TB := TB_of (List.mem_of_getElem? (i := 129) (by decide +kernel)) (by decide +kernel)
theorem tw_130 : Cond.fieldLink "JamRules$Item" 22 "JamRules$Item" "where" "I" ∈ TB := TB_of (List.mem_of_getElem? (i := 130) (by decide +kernel)) (by decide +kernel)
theorem tw_131 : Cond.fieldLink "JamRules$Item" 25 "JamRules$Item" "seenBits" "I" ∈ TB := TB_of (List.mem_of_getElem? (i := 131) (by decide +kernel)) (by decide +kernel)
theorem tw_147 : Cond.methodLink "JamRulesLaw" 25 y_J_edge ∈ TB := TB_of (List.mem_of_getElem? (i := 147) (by decide +kernel)) (by decide +kernel)
theorem tw_148 : Cond.instanceMethod y_J_edge ∈ TB := TB_of (List.mem_of_getElem? (i := 148) (by decide +kernel)) (by decide +kernel)
theorem tw_149 : Cond.selects "JamRules" y_J_edge y_J_edge ∈ TB := TB_of (List.mem_of_getElem? (i := 149) (by decide +kernel)) (by decide +kernel)
set_option maxRecDepth 100000 in
theorem tw_150 : Cond.code y_J_edge b_J_edge 6 (some .int) ∈ TB := TB_of (List.mem_of_getElem? (i := 150) rfl) rfl
theorem tw_151 : Cond.methodLink "JamRules" 87 y_J_isSensor ∈ TB := TB_of (List.mem_of_getElem? (i := 151) (by decide +kernel)) (by decide +kernel)
theorem tw_153 : Cond.instanceMethod y_J_isSensor ∈ TB := TB_of (List.mem_of_getElem? (i := 153) (by decide +kernel)) (by decide +kernel)
set_option maxRecDepth 100000 in
theorem tw_154 : Cond.code y_J_isSensor b_J_isSensor 2 (some .boolean) ∈ TB := TB_of (List.mem_of_getElem? (i := 154) rfl) rfl
theorem tw_155 : Cond.methodLink "JamRules" 95 y_J_tellJams ∈ TB := TB_of (List.mem_of_getElem? (i := 155) (by decide +kernel)) (by decide +kernel)
theorem tw_157 : Cond.instanceMethod y_J_tellJams ∈ TB := TB_of (List.mem_of_getElem? (i := 157) (by decide +kernel)) (by decide +kernel)
set_option maxRecDepth 100000 in
theorem tw_158 : Cond.code y_J_tellJams b_J_tellJams 3 none ∈ TB := TB_of (List.mem_of_getElem? (i := 158) rfl) rfl
theorem tw_159 : Cond.constantLong "JamRules" 188 (500) ∈ TB := TB_of (List.mem_of_getElem? (i := 159) (by decide +kernel)) (by decide +kernel)
theorem tw_160 : Cond.methodLink "JamRules" 190 y_J_lengthAt ∈ TB := TB_of (List.mem_of_getElem? (i := 160) (by decide +kernel)) (by decide +kernel)
theorem tw_162 : Cond.instanceMethod y_J_lengthAt ∈ TB := TB_of (List.mem_of_getElem? (i := 162) (by decide +kernel)) (by decide +kernel)
set_option maxRecDepth 100000 in
theorem tw_163 : Cond.code y_J_lengthAt b_J_lengthAt 2 (some .long) ∈ TB := TB_of (List.mem_of_getElem? (i := 163) rfl) rfl
theorem tw_164 : Cond.methodLink "JamRules" 136 y_J_isItem ∈ TB := TB_of (List.mem_of_getElem? (i := 164) (by decide +kernel)) (by decide +kernel)
theorem tw_166 : Cond.instanceMethod y_J_isItem ∈ TB := TB_of (List.mem_of_getElem? (i := 166) (by decide +kernel)) (by decide +kernel)
set_option maxRecDepth 100000 in
theorem tw_167 : Cond.code y_J_isItem b_J_isItem 2 (some .boolean) ∈ TB := TB_of (List.mem_of_getElem? (i := 167) rfl) rfl
theorem tw_168 : Cond.methodLink "JamRules" 151 y_J_tell ∈ TB := TB_of (List.mem_of_getElem? (i := 168) (by decide +kernel)) (by decide +kernel)
theorem tw_170 : Cond.instanceMethod y_J_tell ∈ TB := TB_of (List.mem_of_getElem? (i := 170) (by decide +kernel)) (by decide +kernel)
set_option maxRecDepth 100000 in
theorem tw_171 : Cond.code y_J_tell b_J_tell 5 (some .int) ∈ TB := TB_of (List.mem_of_getElem? (i := 171) rfl) rfl
theorem tw_172 : Cond.instantiable "JamRules$Fault" 7 ∈ TB := TB_of (List.mem_of_getElem? (i := 172) (by decide +kernel)) (by decide +kernel)
theorem tw_173 : Cond.methodLink "JamRules" 244 y_F_init ∈ TB := TB_of (List.mem_of_getElem? (i := 173) (by decide +kernel)) (by decide +kernel)
theorem tw_174 : Cond.instanceMethod y_F_init ∈ TB := TB_of (List.mem_of_getElem? (i := 174) (by decide +kernel)) (by decide +kernel)
set_option maxRecDepth 100000 in
theorem tw_175 : Cond.code y_F_init b_F_init 5 none ∈ TB := TB_of (List.mem_of_getElem? (i := 175) rfl) rfl
theorem tw_176 : Cond.methodLink "JamRules$Fault" 3 objectInit ∈ TB := TB_of (List.mem_of_getElem? (i := 176) (by decide +kernel)) (by decide +kernel)
theorem tw_177 : Cond.fieldLink "JamRules$Fault" 26 "JamRules$Fault" "kind" "I" ∈ TB := TB_of (List.mem_of_getElem? (i := 177) (by decide +kernel)) (by decide +kernel)
theorem tw_178 : Cond.fieldLink "JamRules" 114 "JamRules$Fault" "kind" "I" ∈ TB := TB_of (List.mem_of_getElem? (i := 178) (by decide +kernel)) (by decide +kernel)
theorem tw_179 : Cond.fieldLink "JamRules$Fault" 29 "JamRules$Fault" "sensor" "I" ∈ TB := TB_of (List.mem_of_getElem? (i := 179) (by decide +kernel)) (by decide +kernel)
theorem tw_180 : Cond.fieldLink "JamRules" 111 "JamRules$Fault" "sensor" "I" ∈ TB := TB_of (List.mem_of_getElem? (i := 180) (by decide +kernel)) (by decide +kernel)
theorem tw_181 : Cond.fieldLink "JamRules$Fault" 32 "JamRules$Fault" "time" "J" ∈ TB := TB_of (List.mem_of_getElem? (i := 181) (by decide +kernel)) (by decide +kernel)
theorem tw_182 : Cond.fieldLink "JamRules" 163 "JamRules$Fault" "time" "J" ∈ TB := TB_of (List.mem_of_getElem? (i := 182) (by decide +kernel)) (by decide +kernel)
theorem tw_183 : Cond.fieldLink "JamRules$Fault" 9 "JamRules$Fault" "threw" "Z" ∈ TB := TB_of (List.mem_of_getElem? (i := 183) (by decide +kernel)) (by decide +kernel)
theorem tw_184 : Cond.fieldLink "JamRules" 117 "JamRules$Fault" "threw" "Z" ∈ TB := TB_of (List.mem_of_getElem? (i := 184) (by decide +kernel)) (by decide +kernel)
theorem tw_185 : Cond.fieldLink "JamRules$Fault" 15 "JamRules$Fault" "stops" "Z" ∈ TB := TB_of (List.mem_of_getElem? (i := 185) (by decide +kernel)) (by decide +kernel)
theorem tw_186 : Cond.fieldLink "JamRules" 169 "JamRules$Fault" "stops" "Z" ∈ TB := TB_of (List.mem_of_getElem? (i := 186) (by decide +kernel)) (by decide +kernel)
theorem tw_187 : Cond.fieldLink "JamRules$Fault" 18 "JamRules$Fault" "doubt" "J" ∈ TB := TB_of (List.mem_of_getElem? (i := 187) (by decide +kernel)) (by decide +kernel)
theorem tw_188 : Cond.fieldLink "JamRules" 251 "JamRules$Fault" "doubt" "J" ∈ TB := TB_of (List.mem_of_getElem? (i := 188) (by decide +kernel)) (by decide +kernel)
theorem tw_189 : Cond.fieldLink "JamRules$Fault" 22 "JamRules$Fault" "stepsDone" "I" ∈ TB := TB_of (List.mem_of_getElem? (i := 189) (by decide +kernel)) (by decide +kernel)
theorem tw_190 : Cond.fieldLink "JamRules" 127 "JamRules$Fault" "stepsDone" "I" ∈ TB := TB_of (List.mem_of_getElem? (i := 190) (by decide +kernel)) (by decide +kernel)
theorem tw_206 : Cond.methodLink "JamRules" 247 y_J_doubtAt ∈ TB := TB_of (List.mem_of_getElem? (i := 206) (by decide +kernel)) (by decide +kernel)
theorem tw_208 : Cond.instanceMethod y_J_doubtAt ∈ TB := TB_of (List.mem_of_getElem? (i := 208) (by decide +kernel)) (by decide +kernel)
set_option maxRecDepth 100000 in
theorem tw_209 : Cond.code y_J_doubtAt b_J_doubtAt 5 (some .long) ∈ TB := TB_of (List.mem_of_getElem? (i := 209) rfl) rfl
theorem tw_210 : Cond.methodLink "JamRules" 254 y_J_isInDoubt ∈ TB := TB_of (List.mem_of_getElem? (i := 210) (by decide +kernel)) (by decide +kernel)
theorem tw_212 : Cond.instanceMethod y_J_isInDoubt ∈ TB := TB_of (List.mem_of_getElem? (i := 212) (by decide +kernel)) (by decide +kernel)
set_option maxRecDepth 100000 in
theorem tw_213 : Cond.code y_J_isInDoubt b_J_isInDoubt 4 (some .boolean) ∈ TB := TB_of (List.mem_of_getElem? (i := 213) rfl) rfl
theorem tw_214 : Cond.methodLink "JamRules" 238 y_I_isOnBelt ∈ TB := TB_of (List.mem_of_getElem? (i := 214) (by decide +kernel)) (by decide +kernel)
theorem tw_215 : Cond.instanceMethod y_I_isOnBelt ∈ TB := TB_of (List.mem_of_getElem? (i := 215) (by decide +kernel)) (by decide +kernel)
theorem tw_216 : Cond.selects "JamRules$Item" y_I_isOnBelt y_I_isOnBelt ∈ TB := TB_of (List.mem_of_getElem? (i := 216) (by decide +kernel)) (by decide +kernel)
set_option maxRecDepth 100000 in
theorem tw_217 : Cond.code y_I_isOnBelt b_I_isOnBelt 1 (some .boolean) ∈ TB := TB_of (List.mem_of_getElem? (i := 217) rfl) rfl
theorem tw_218 : Cond.methodLink "JamRules" 241 y_I_isSeenBy ∈ TB := TB_of (List.mem_of_getElem? (i := 218) (by decide +kernel)) (by decide +kernel)
theorem tw_219 : Cond.instanceMethod y_I_isSeenBy ∈ TB := TB_of (List.mem_of_getElem? (i := 219) (by decide +kernel)) (by decide +kernel)
theorem tw_220 : Cond.selects "JamRules$Item" y_I_isSeenBy y_I_isSeenBy ∈ TB := TB_of (List.mem_of_getElem? (i := 220) (by decide +kernel)) (by decide +kernel)
set_option maxRecDepth 100000 in
theorem tw_221 : Cond.code y_I_isSeenBy b_I_isSeenBy 2 (some .boolean) ∈ TB := TB_of (List.mem_of_getElem? (i := 221) rfl) rfl
theorem tw_222 : Cond.methodLink "JamRules" 98 y_J_becomeDark ∈ TB := TB_of (List.mem_of_getElem? (i := 222) (by decide +kernel)) (by decide +kernel)
theorem tw_224 : Cond.instanceMethod y_J_becomeDark ∈ TB := TB_of (List.mem_of_getElem? (i := 224) (by decide +kernel)) (by decide +kernel)
set_option maxRecDepth 100000 in
theorem tw_225 : Cond.code y_J_becomeDark b_J_becomeDark 3 none ∈ TB := TB_of (List.mem_of_getElem? (i := 225) rfl) rfl
theorem tw_226 : Cond.methodLink "JamRules" 197 y_J_loseLateItems ∈ TB := TB_of (List.mem_of_getElem? (i := 226) (by decide +kernel)) (by decide +kernel)
theorem tw_228 : Cond.instanceMethod y_J_loseLateItems ∈ TB := TB_of (List.mem_of_getElem? (i := 228) (by decide +kernel)) (by decide +kernel)
set_option maxRecDepth 100000 in
theorem tw_229 : Cond.code y_J_loseLateItems b_J_loseLateItems 4 none ∈ TB := TB_of (List.mem_of_getElem? (i := 229) rfl) rfl
theorem tw_230 : Cond.methodLink "JamRules" 214 y_J_isAwaited ∈ TB := TB_of (List.mem_of_getElem? (i := 230) (by decide +kernel)) (by decide +kernel)
theorem tw_232 : Cond.instanceMethod y_J_isAwaited ∈ TB := TB_of (List.mem_of_getElem? (i := 232) (by decide +kernel)) (by decide +kernel)
set_option maxRecDepth 100000 in
theorem tw_233 : Cond.code y_J_isAwaited b_J_isAwaited 3 (some .boolean) ∈ TB := TB_of (List.mem_of_getElem? (i := 233) rfl) rfl
theorem tw_234 : Cond.methodLink "JamRules" 217 y_J_dueAt ∈ TB := TB_of (List.mem_of_getElem? (i := 234) (by decide +kernel)) (by decide +kernel)
theorem tw_236 : Cond.instanceMethod y_J_dueAt ∈ TB := TB_of (List.mem_of_getElem? (i := 236) (by decide +kernel)) (by decide +kernel)
set_option maxRecDepth 100000 in
theorem tw_237 : Cond.code y_J_dueAt b_J_dueAt 3 (some .long) ∈ TB := TB_of (List.mem_of_getElem? (i := 237) rfl) rfl
theorem tw_238 : Cond.constantLong "JamRules" 221 (15) ∈ TB := TB_of (List.mem_of_getElem? (i := 238) (by decide +kernel)) (by decide +kernel)
theorem tw_239 : Cond.methodLink "JamRules" 223 y_I_takeOffBelt ∈ TB := TB_of (List.mem_of_getElem? (i := 239) (by decide +kernel)) (by decide +kernel)
theorem tw_240 : Cond.instanceMethod y_I_takeOffBelt ∈ TB := TB_of (List.mem_of_getElem? (i := 240) (by decide +kernel)) (by decide +kernel)
theorem tw_241 : Cond.selects "JamRules$Item" y_I_takeOffBelt y_I_takeOffBelt ∈ TB := TB_of (List.mem_of_getElem? (i := 241) (by decide +kernel)) (by decide +kernel)
set_option maxRecDepth 100000 in
theorem tw_242 : Cond.code y_I_takeOffBelt b_I_takeOffBelt 2 none ∈ TB := TB_of (List.mem_of_getElem? (i := 242) rfl) rfl
theorem tw_243 : Cond.methodLink "JamRules" 200 y_J_leastUnseen ∈ TB := TB_of (List.mem_of_getElem? (i := 243) (by decide +kernel)) (by decide +kernel)
theorem tw_245 : Cond.instanceMethod y_J_leastUnseen ∈ TB := TB_of (List.mem_of_getElem? (i := 245) (by decide +kernel)) (by decide +kernel)
set_option maxRecDepth 100000 in
theorem tw_246 : Cond.code y_J_leastUnseen b_J_leastUnseen 3 (some .int) ∈ TB := TB_of (List.mem_of_getElem? (i := 246) rfl) rfl
theorem tw_247 : Cond.methodLink "JamRules" 203 y_J_isComing ∈ TB := TB_of (List.mem_of_getElem? (i := 247) (by decide +kernel)) (by decide +kernel)
theorem tw_249 : Cond.instanceMethod y_J_isComing ∈ TB := TB_of (List.mem_of_getElem? (i := 249) (by decide +kernel)) (by decide +kernel)
set_option maxRecDepth 100000 in
theorem tw_250 : Cond.code y_J_isComing b_J_isComing 3 (some .boolean) ∈ TB := TB_of (List.mem_of_getElem? (i := 250) rfl) rfl
theorem tw_251 : Cond.methodLink "JamRules" 207 y_I_beSeenBy ∈ TB := TB_of (List.mem_of_getElem? (i := 251) (by decide +kernel)) (by decide +kernel)
theorem tw_252 : Cond.instanceMethod y_I_beSeenBy ∈ TB := TB_of (List.mem_of_getElem? (i := 252) (by decide +kernel)) (by decide +kernel)
theorem tw_253 : Cond.selects "JamRules$Item" y_I_beSeenBy y_I_beSeenBy ∈ TB := TB_of (List.mem_of_getElem? (i := 253) (by decide +kernel)) (by decide +kernel)
set_option maxRecDepth 100000 in
theorem tw_254 : Cond.code y_I_beSeenBy b_I_beSeenBy 2 none ∈ TB := TB_of (List.mem_of_getElem? (i := 254) rfl) rfl
theorem tw_255 : Cond.methodLink "JamRules" 210 y_S_darken ∈ TB := TB_of (List.mem_of_getElem? (i := 255) (by decide +kernel)) (by decide +kernel)
theorem tw_256 : Cond.instanceMethod y_S_darken ∈ TB := TB_of (List.mem_of_getElem? (i := 256) (by decide +kernel)) (by decide +kernel)
theorem tw_257 : Cond.selects "JamRules$Sensor" y_S_darken y_S_darken ∈ TB := TB_of (List.mem_of_getElem? (i := 257) (by decide +kernel)) (by decide +kernel)
set_option maxRecDepth 100000 in
theorem tw_258 : Cond.code y_S_darken b_S_darken 4 none ∈ TB := TB_of (List.mem_of_getElem? (i := 258) rfl) rfl
theorem tw_259 : Cond.methodLink "JamRules" 102 y_J_becomeLight ∈ TB := TB_of (List.mem_of_getElem? (i := 259) (by decide +kernel)) (by decide +kernel)
theorem tw_261 : Cond.instanceMethod y_J_becomeLight ∈ TB := TB_of (List.mem_of_getElem? (i := 261) (by decide +kernel)) (by decide +kernel)
set_option maxRecDepth 100000 in
theorem tw_262 : Cond.code y_J_becomeLight b_J_becomeLight 3 none ∈ TB := TB_of (List.mem_of_getElem? (i := 262) rfl) rfl
theorem tw_263 : Cond.methodLink "JamRules" 226 y_J_judgeLength ∈ TB := TB_of (List.mem_of_getElem? (i := 263) (by decide +kernel)) (by decide +kernel)
theorem tw_265 : Cond.instanceMethod y_J_judgeLength ∈ TB := TB_of (List.mem_of_getElem? (i := 265) (by decide +kernel)) (by decide +kernel)
set_option maxRecDepth 100000 in
theorem tw_266 : Cond.code y_J_judgeLength b_J_judgeLength 7 none ∈ TB := TB_of (List.mem_of_getElem? (i := 266) rfl) rfl
theorem tw_267 : Cond.constantLong "JamRules" 236 (-15) ∈ TB := TB_of (List.mem_of_getElem? (i := 267) (by decide +kernel)) (by decide +kernel)
theorem tw_268 : Cond.methodLink "JamRules" 230 y_I_leaveBelt ∈ TB := TB_of (List.mem_of_getElem? (i := 268) (by decide +kernel)) (by decide +kernel)
theorem tw_269 : Cond.instanceMethod y_I_leaveBelt ∈ TB := TB_of (List.mem_of_getElem? (i := 269) (by decide +kernel)) (by decide +kernel)
theorem tw_270 : Cond.selects "JamRules$Item" y_I_leaveBelt y_I_leaveBelt ∈ TB := TB_of (List.mem_of_getElem? (i := 270) (by decide +kernel)) (by decide +kernel)
set_option maxRecDepth 100000 in
theorem tw_271 : Cond.code y_I_leaveBelt b_I_leaveBelt 1 none ∈ TB := TB_of (List.mem_of_getElem? (i := 271) rfl) rfl
theorem tw_272 : Cond.methodLink "JamRules" 233 y_S_lighten ∈ TB := TB_of (List.mem_of_getElem? (i := 272) (by decide +kernel)) (by decide +kernel)
theorem tw_273 : Cond.instanceMethod y_S_lighten ∈ TB := TB_of (List.mem_of_getElem? (i := 273) (by decide +kernel)) (by decide +kernel)
theorem tw_274 : Cond.selects "JamRules$Sensor" y_S_lighten y_S_lighten ∈ TB := TB_of (List.mem_of_getElem? (i := 274) (by decide +kernel)) (by decide +kernel)
set_option maxRecDepth 100000 in
theorem tw_275 : Cond.code y_S_lighten b_S_lighten 1 none ∈ TB := TB_of (List.mem_of_getElem? (i := 275) rfl) rfl
theorem tw_276 : Cond.methodLink "JamRulesLaw" 30 y_J_doubt ∈ TB := TB_of (List.mem_of_getElem? (i := 276) (by decide +kernel)) (by decide +kernel)
theorem tw_277 : Cond.instanceMethod y_J_doubt ∈ TB := TB_of (List.mem_of_getElem? (i := 277) (by decide +kernel)) (by decide +kernel)
theorem tw_278 : Cond.selects "JamRules" y_J_doubt y_J_doubt ∈ TB := TB_of (List.mem_of_getElem? (i := 278) (by decide +kernel)) (by decide +kernel)
set_option maxRecDepth 100000 in
theorem tw_279 : Cond.code y_J_doubt b_J_doubt 5 (some .int) ∈ TB := TB_of (List.mem_of_getElem? (i := 279) rfl) rfl
theorem tw_280 : Cond.methodLink "JamRules" 105 y_J_isFault ∈ TB := TB_of (List.mem_of_getElem? (i := 280) (by decide +kernel)) (by decide +kernel)
theorem tw_282 : Cond.instanceMethod y_J_isFault ∈ TB := TB_of (List.mem_of_getElem? (i := 282) (by decide +kernel)) (by decide +kernel)
set_option maxRecDepth 100000 in
theorem tw_283 : Cond.code y_J_isFault b_J_isFault 2 (some .boolean) ∈ TB := TB_of (List.mem_of_getElem? (i := 283) rfl) rfl
theorem tw_284 : Cond.methodLink "JamRules" 108 y_F_doubts ∈ TB := TB_of (List.mem_of_getElem? (i := 284) (by decide +kernel)) (by decide +kernel)
theorem tw_285 : Cond.instanceMethod y_F_doubts ∈ TB := TB_of (List.mem_of_getElem? (i := 285) (by decide +kernel)) (by decide +kernel)
theorem tw_286 : Cond.selects "JamRules$Fault" y_F_doubts y_F_doubts ∈ TB := TB_of (List.mem_of_getElem? (i := 286) (by decide +kernel)) (by decide +kernel)
set_option maxRecDepth 100000 in
theorem tw_287 : Cond.code y_F_doubts b_F_doubts 2 (some .boolean) ∈ TB := TB_of (List.mem_of_getElem? (i := 287) rfl) rfl
theorem tw_288 : Cond.methodLink "JamRulesLaw" 35 y_J_cause ∈ TB := TB_of (List.mem_of_getElem? (i := 288) (by decide +kernel)) (by decide +kernel)
theorem tw_289 : Cond.instanceMethod y_J_cause ∈ TB := TB_of (List.mem_of_getElem? (i := 289) (by decide +kernel)) (by decide +kernel)
theorem tw_290 : Cond.selects "JamRules" y_J_cause y_J_cause ∈ TB := TB_of (List.mem_of_getElem? (i := 290) (by decide +kernel)) (by decide +kernel)
set_option maxRecDepth 100000 in
theorem tw_291 : Cond.code y_J_cause b_J_cause 4 (some .int) ∈ TB := TB_of (List.mem_of_getElem? (i := 291) rfl) rfl
theorem tw_292 : Cond.methodLink "JamRules" 120 y_J_cameAgain ∈ TB := TB_of (List.mem_of_getElem? (i := 292) (by decide +kernel)) (by decide +kernel)
theorem tw_294 : Cond.instanceMethod y_J_cameAgain ∈ TB := TB_of (List.mem_of_getElem? (i := 294) (by decide +kernel)) (by decide +kernel)
set_option maxRecDepth 100000 in
theorem tw_295 : Cond.code y_J_cameAgain b_J_cameAgain 4 (some .boolean) ∈ TB := TB_of (List.mem_of_getElem? (i := 295) rfl) rfl
theorem tw_296 : Cond.constantLong "JamRules" 257 (10000) ∈ TB := TB_of (List.mem_of_getElem? (i := 296) (by decide +kernel)) (by decide +kernel)
theorem tw_297 : Cond.methodLink "JamRules" 259 y_J_isSameTrouble ∈ TB := TB_of (List.mem_of_getElem? (i := 297) (by decide +kernel)) (by decide +kernel)
theorem tw_298 : Cond.static y_J_isSameTrouble ∈ TB := TB_of (List.mem_of_getElem? (i := 298) (by decide +kernel)) (by decide +kernel)
set_option maxRecDepth 100000 in
theorem tw_299 : Cond.code y_J_isSameTrouble b_J_isSameTrouble 2 (some .boolean) ∈ TB := TB_of (List.mem_of_getElem? (i := 299) rfl) rfl
theorem tw_300 : Cond.methodLink "JamRulesLaw" 40 y_J_step ∈ TB := TB_of (List.mem_of_getElem? (i := 300) (by decide +kernel)) (by decide +kernel)
theorem tw_301 : Cond.instanceMethod y_J_step ∈ TB := TB_of (List.mem_of_getElem? (i := 301) (by decide +kernel)) (by decide +kernel)
theorem tw_302 : Cond.selects "JamRules" y_J_step y_J_step ∈ TB := TB_of (List.mem_of_getElem? (i := 302) (by decide +kernel)) (by decide +kernel)
set_option maxRecDepth 100000 in
theorem tw_303 : Cond.code y_J_step b_J_step 4 (some .int) ∈ TB := TB_of (List.mem_of_getElem? (i := 303) rfl) rfl
theorem tw_304 : Cond.methodLink "JamRules" 123 y_J_nextStep ∈ TB := TB_of (List.mem_of_getElem? (i := 304) (by decide +kernel)) (by decide +kernel)
theorem tw_305 : Cond.static y_J_nextStep ∈ TB := TB_of (List.mem_of_getElem? (i := 305) (by decide +kernel)) (by decide +kernel)
set_option maxRecDepth 100000 in
theorem tw_306 : Cond.code y_J_nextStep b_J_nextStep 1 (some .int) ∈ TB := TB_of (List.mem_of_getElem? (i := 306) rfl) rfl
theorem tw_307 : Cond.fieldLink "JamRules" 263 "JamRules" "STEPS" "[I" ∈ TB := TB_of (List.mem_of_getElem? (i := 307) (by decide +kernel)) (by decide +kernel)
theorem tw_309 : Cond.methodLink "JamRules" 130 y_J_resetCounts ∈ TB := TB_of (List.mem_of_getElem? (i := 309) (by decide +kernel)) (by decide +kernel)
theorem tw_311 : Cond.instanceMethod y_J_resetCounts ∈ TB := TB_of (List.mem_of_getElem? (i := 311) (by decide +kernel)) (by decide +kernel)
set_option maxRecDepth 100000 in
theorem tw_312 : Cond.code y_J_resetCounts b_J_resetCounts 2 none ∈ TB := TB_of (List.mem_of_getElem? (i := 312) rfl) rfl
theorem tw_313 : Cond.methodLink "JamRules" 133 y_J_clear ∈ TB := TB_of (List.mem_of_getElem? (i := 313) (by decide +kernel)) (by decide +kernel)
theorem tw_315 : Cond.instanceMethod y_J_clear ∈ TB := TB_of (List.mem_of_getElem? (i := 315) (by decide +kernel)) (by decide +kernel)
set_option maxRecDepth 100000 in
theorem tw_316 : Cond.code y_J_clear b_J_clear 4 none ∈ TB := TB_of (List.mem_of_getElem? (i := 316) rfl) rfl
theorem tw_317 : Cond.methodLink "JamRules" 266 y_J_emptyBelt ∈ TB := TB_of (List.mem_of_getElem? (i := 317) (by decide +kernel)) (by decide +kernel)
theorem tw_319 : Cond.instanceMethod y_J_emptyBelt ∈ TB := TB_of (List.mem_of_getElem? (i := 319) (by decide +kernel)) (by decide +kernel)
set_option maxRecDepth 100000 in
theorem tw_320 : Cond.code y_J_emptyBelt b_J_emptyBelt 3 none ∈ TB := TB_of (List.mem_of_getElem? (i := 320) rfl) rfl
theorem tw_321 : Cond.methodLink "JamRules" 269 y_I_isOff ∈ TB := TB_of (List.mem_of_getElem? (i := 321) (by decide +kernel)) (by decide +kernel)
theorem tw_322 : Cond.instanceMethod y_I_isOff ∈ TB := TB_of (List.mem_of_getElem? (i := 322) (by decide +kernel)) (by decide +kernel)
theorem tw_323 : Cond.selects "JamRules$Item" y_I_isOff y_I_isOff ∈ TB := TB_of (List.mem_of_getElem? (i := 323) (by decide +kernel)) (by decide +kernel)
set_option maxRecDepth 100000 in
theorem tw_324 : Cond.code y_I_isOff b_I_isOff 1 (some .boolean) ∈ TB := TB_of (List.mem_of_getElem? (i := 324) rfl) rfl
theorem tw_325 : Cond.methodLink "JamRules" 272 y_J_putOnList ∈ TB := TB_of (List.mem_of_getElem? (i := 325) (by decide +kernel)) (by decide +kernel)
theorem tw_327 : Cond.instanceMethod y_J_putOnList ∈ TB := TB_of (List.mem_of_getElem? (i := 327) (by decide +kernel)) (by decide +kernel)
set_option maxRecDepth 100000 in
theorem tw_328 : Cond.code y_J_putOnList b_J_putOnList 2 none ∈ TB := TB_of (List.mem_of_getElem? (i := 328) rfl) rfl
theorem tw_329 : Cond.methodLink "JamRules" 275 y_J_listOffBy ∈ TB := TB_of (List.mem_of_getElem? (i := 329) (by decide +kernel)) (by decide +kernel)
theorem tw_331 : Cond.instanceMethod y_J_listOffBy ∈ TB := TB_of (List.mem_of_getElem? (i := 331) (by decide +kernel)) (by decide +kernel)
set_option maxRecDepth 100000 in
theorem tw_332 : Cond.code y_J_listOffBy b_J_listOffBy 3 none ∈ TB := TB_of (List.mem_of_getElem? (i := 332) rfl) rfl
theorem tw_333 : Cond.methodLink "JamRulesLaw" 44 y_J_feed ∈ TB := TB_of (List.mem_of_getElem? (i := 333) (by decide +kernel)) (by decide +kernel)
theorem tw_334 : Cond.instanceMethod y_J_feed ∈ TB := TB_of (List.mem_of_getElem? (i := 334) (by decide +kernel)) (by decide +kernel)
theorem tw_335 : Cond.selects "JamRules" y_J_feed y_J_feed ∈ TB := TB_of (List.mem_of_getElem? (i := 335) (by decide +kernel)) (by decide +kernel)
set_option maxRecDepth 100000 in
theorem tw_336 : Cond.code y_J_feed b_J_feed 3 (some .int) ∈ TB := TB_of (List.mem_of_getElem? (i := 336) rfl) rfl
theorem tw_337 : Cond.methodLink "JamRules" 145 y_J_takeOffList ∈ TB := TB_of (List.mem_of_getElem? (i := 337) (by decide +kernel)) (by decide +kernel)
theorem tw_339 : Cond.instanceMethod y_J_takeOffList ∈ TB := TB_of (List.mem_of_getElem? (i := 339) (by decide +kernel)) (by decide +kernel)
set_option maxRecDepth 100000 in
theorem tw_340 : Cond.code y_J_takeOffList b_J_takeOffList 4 none ∈ TB := TB_of (List.mem_of_getElem? (i := 340) rfl) rfl
theorem tw_341 : Cond.methodLink "JamRulesLaw" 48 y_J_listed ∈ TB := TB_of (List.mem_of_getElem? (i := 341) (by decide +kernel)) (by decide +kernel)
theorem tw_342 : Cond.instanceMethod y_J_listed ∈ TB := TB_of (List.mem_of_getElem? (i := 342) (by decide +kernel)) (by decide +kernel)
theorem tw_343 : Cond.selects "JamRules" y_J_listed y_J_listed ∈ TB := TB_of (List.mem_of_getElem? (i := 343) (by decide +kernel)) (by decide +kernel)
set_option maxRecDepth 100000 in
theorem tw_344 : Cond.code y_J_listed b_J_listed 2 (some .int) ∈ TB := TB_of (List.mem_of_getElem? (i := 344) rfl) rfl
theorem tw_345 : Cond.methodLink "JamRulesLaw" 52 y_J_rule ∈ TB := TB_of (List.mem_of_getElem? (i := 345) (by decide +kernel)) (by decide +kernel)
theorem tw_346 : Cond.instanceMethod y_J_rule ∈ TB := TB_of (List.mem_of_getElem? (i := 346) (by decide +kernel)) (by decide +kernel)
theorem tw_347 : Cond.selects "JamRules" y_J_rule y_J_rule ∈ TB := TB_of (List.mem_of_getElem? (i := 347) (by decide +kernel)) (by decide +kernel)
set_option maxRecDepth 100000 in
theorem tw_348 : Cond.code y_J_rule b_J_rule 5 (some .int) ∈ TB := TB_of (List.mem_of_getElem? (i := 348) rfl) rfl
theorem tw_349 : Cond.methodLink "JamRules" 148 y_J_isKind ∈ TB := TB_of (List.mem_of_getElem? (i := 349) (by decide +kernel)) (by decide +kernel)
theorem tw_350 : Cond.static y_J_isKind ∈ TB := TB_of (List.mem_of_getElem? (i := 350) (by decide +kernel)) (by decide +kernel)
set_option maxRecDepth 100000 in
theorem tw_351 : Cond.code y_J_isKind b_J_isKind 1 (some .boolean) ∈ TB := TB_of (List.mem_of_getElem? (i := 351) rfl) rfl
theorem tw_352 : Cond.methodLink "JamRulesLaw" 57 y_J_plant ∈ TB := TB_of (List.mem_of_getElem? (i := 352) (by decide +kernel)) (by decide +kernel)
theorem tw_353 : Cond.instanceMethod y_J_plant ∈ TB := TB_of (List.mem_of_getElem? (i := 353) (by decide +kernel)) (by decide +kernel)
theorem tw_354 : Cond.selects "JamRules" y_J_plant y_J_plant ∈ TB := TB_of (List.mem_of_getElem? (i := 354) (by decide +kernel)) (by decide +kernel)
set_option maxRecDepth 100000 in
theorem tw_355 : Cond.code y_J_plant b_J_plant 4 (some .int) ∈ TB := TB_of (List.mem_of_getElem? (i := 355) rfl) rfl
theorem tw_356 : Cond.methodLink "JamRulesLaw" 62 y_J_alarm ∈ TB := TB_of (List.mem_of_getElem? (i := 356) (by decide +kernel)) (by decide +kernel)
theorem tw_357 : Cond.instanceMethod y_J_alarm ∈ TB := TB_of (List.mem_of_getElem? (i := 357) (by decide +kernel)) (by decide +kernel)
theorem tw_358 : Cond.selects "JamRules" y_J_alarm y_J_alarm ∈ TB := TB_of (List.mem_of_getElem? (i := 358) (by decide +kernel)) (by decide +kernel)
set_option maxRecDepth 100000 in
theorem tw_359 : Cond.code y_J_alarm b_J_alarm 5 (some .int) ∈ TB := TB_of (List.mem_of_getElem? (i := 359) rfl) rfl
theorem tw_360 : Cond.methodLink "JamRules" 155 y_J_faultByRank ∈ TB := TB_of (List.mem_of_getElem? (i := 360) (by decide +kernel)) (by decide +kernel)
theorem tw_362 : Cond.instanceMethod y_J_faultByRank ∈ TB := TB_of (List.mem_of_getElem? (i := 362) (by decide +kernel)) (by decide +kernel)
set_option maxRecDepth 100000 in
theorem tw_363 : Cond.code y_J_faultByRank b_J_faultByRank 5 (some .int) ∈ TB := TB_of (List.mem_of_getElem? (i := 363) rfl) rfl
theorem tw_364 : Cond.methodLink "JamRules" 159 y_F_rank ∈ TB := TB_of (List.mem_of_getElem? (i := 364) (by decide +kernel)) (by decide +kernel)
theorem tw_365 : Cond.instanceMethod y_F_rank ∈ TB := TB_of (List.mem_of_getElem? (i := 365) (by decide +kernel)) (by decide +kernel)
theorem tw_366 : Cond.selects "JamRules$Fault" y_F_rank y_F_rank ∈ TB := TB_of (List.mem_of_getElem? (i := 366) (by decide +kernel)) (by decide +kernel)
set_option maxRecDepth 100000 in
theorem tw_367 : Cond.code y_F_rank b_F_rank 1 (some .int) ∈ TB := TB_of (List.mem_of_getElem? (i := 367) rfl) rfl
theorem tw_370 : Cond.methodLink "JamRulesLaw" 66 y_J_count ∈ TB := TB_of (List.mem_of_getElem? (i := 370) (by decide +kernel)) (by decide +kernel)
theorem tw_371 : Cond.instanceMethod y_J_count ∈ TB := TB_of (List.mem_of_getElem? (i := 371) (by decide +kernel)) (by decide +kernel)
theorem tw_372 : Cond.selects "JamRules" y_J_count y_J_count ∈ TB := TB_of (List.mem_of_getElem? (i := 372) (by decide +kernel)) (by decide +kernel)
set_option maxRecDepth 100000 in
theorem tw_373 : Cond.code y_J_count b_J_count 2 (some .int) ∈ TB := TB_of (List.mem_of_getElem? (i := 373) rfl) rfl
theorem tw_374 : Cond.methodLink "JamRulesLaw" 70 y_J_goesOn ∈ TB := TB_of (List.mem_of_getElem? (i := 374) (by decide +kernel)) (by decide +kernel)
theorem tw_375 : Cond.classLink "JamRulesLaw" 10 "JamRulesModel" ∈ TB := TB_of (List.mem_of_getElem? (i := 375) (by decide +kernel)) (by decide +kernel)
theorem tw_376 : Cond.instantiable "JamRulesModel" 33 ∈ TB := TB_of (List.mem_of_getElem? (i := 376) (by decide +kernel)) (by decide +kernel)
theorem tw_377 : Cond.methodLink "JamRulesLaw" 12 y_M_init ∈ TB := TB_of (List.mem_of_getElem? (i := 377) (by decide +kernel)) (by decide +kernel)
theorem tw_378 : Cond.instanceMethod y_M_init ∈ TB := TB_of (List.mem_of_getElem? (i := 378) (by decide +kernel)) (by decide +kernel)
set_option maxRecDepth 100000 in
theorem tw_379 : Cond.code y_M_init b_M_init 1 none ∈ TB := TB_of (List.mem_of_getElem? (i := 379) rfl) rfl
theorem tw_380 : Cond.methodLink "JamRulesModel" 1 objectInit ∈ TB := TB_of (List.mem_of_getElem? (i := 380) (by decide +kernel)) (by decide +kernel)
theorem tw_381 : Cond.fieldLink "JamRulesModel" 93 "JamRulesModel" "sensors" "I" ∈ TB := TB_of (List.mem_of_getElem? (i := 381) (by decide +kernel)) (by decide +kernel)
theorem tw_382 : Cond.fieldLink "JamRulesModel" 7 "JamRulesModel" "places" "[J" ∈ TB := TB_of (List.mem_of_getElem? (i := 382) (by decide +kernel)) (by decide +kernel)
theorem tw_383 : Cond.fieldLink "JamRulesModel" 13 "JamRulesModel" "dark" "[Z" ∈ TB := TB_of (List.mem_of_getElem? (i := 383) (by decide +kernel)) (by decide +kernel)
theorem tw_384 : Cond.fieldLink "JamRulesModel" 17 "JamRulesModel" "counts" "[I" ∈ TB := TB_of (List.mem_of_getElem? (i := 384) (by decide +kernel)) (by decide +kernel)
theorem tw_385 : Cond.fieldLink "JamRulesModel" 21 "JamRulesModel" "since" "[J" ∈ TB := TB_of (List.mem_of_getElem? (i := 385) (by decide +kernel)) (by decide +kernel)
theorem tw_386 : Cond.fieldLink "JamRulesModel" 24 "JamRulesModel" "by" "[I" ∈ TB := TB_of (List.mem_of_getElem? (i := 386) (by decide +kernel)) (by decide +kernel)
theorem tw_387 : Cond.fieldLink "JamRulesModel" 27 "JamRulesModel" "jammed" "[Z" ∈ TB := TB_of (List.mem_of_getElem? (i := 387) (by decide +kernel)) (by decide +kernel)
theorem tw_388 : Cond.fieldLink "JamRulesModel" 104 "JamRulesModel" "items" "I" ∈ TB := TB_of (List.mem_of_getElem? (i := 388) (by decide +kernel)) (by decide +kernel)
theorem tw_389 : Cond.fieldLink "JamRulesModel" 30 "JamRulesModel" "lengths" "[J" ∈ TB := TB_of (List.mem_of_getElem? (i := 389) (by decide +kernel)) (by decide +kernel)
theorem tw_390 : Cond.fieldLink "JamRulesModel" 33 "JamRulesModel" "heads" "[J" ∈ TB := TB_of (List.mem_of_getElem? (i := 390) (by decide +kernel)) (by decide +kernel)
theorem tw_391 : Cond.fieldLink "JamRulesModel" 36 "JamRulesModel" "states" "[I" ∈ TB := TB_of (List.mem_of_getElem? (i := 391) (by decide +kernel)) (by decide +kernel)
theorem tw_392 : Cond.fieldLink "JamRulesModel" 39 "JamRulesModel" "seen" "[Z" ∈ TB := TB_of (List.mem_of_getElem? (i := 392) (by decide +kernel)) (by decide +kernel)
theorem tw_393 : Cond.fieldLink "JamRulesModel" 42 "JamRulesModel" "isListed" "[Z" ∈ TB := TB_of (List.mem_of_getElem? (i := 393) (by decide +kernel)) (by decide +kernel)
theorem tw_394 : Cond.fieldLink "JamRulesModel" 45 "JamRulesModel" "isFed" "[Z" ∈ TB := TB_of (List.mem_of_getElem? (i := 394) (by decide +kernel)) (by decide +kernel)
theorem tw_395 : Cond.fieldLink "JamRulesModel" 48 "JamRulesModel" "list" "[I" ∈ TB := TB_of (List.mem_of_getElem? (i := 395) (by decide +kernel)) (by decide +kernel)
theorem tw_396 : Cond.fieldLink "JamRulesModel" 178 "JamRulesModel" "listed" "I" ∈ TB := TB_of (List.mem_of_getElem? (i := 396) (by decide +kernel)) (by decide +kernel)
theorem tw_397 : Cond.fieldLink "JamRulesModel" 97 "JamRulesModel" "faults" "I" ∈ TB := TB_of (List.mem_of_getElem? (i := 397) (by decide +kernel)) (by decide +kernel)
theorem tw_398 : Cond.fieldLink "JamRulesModel" 51 "JamRulesModel" "kinds" "[I" ∈ TB := TB_of (List.mem_of_getElem? (i := 398) (by decide +kernel)) (by decide +kernel)
theorem tw_399 : Cond.fieldLink "JamRulesModel" 54 "JamRulesModel" "at" "[I" ∈ TB := TB_of (List.mem_of_getElem? (i := 399) (by decide +kernel)) (by decide +kernel)
theorem tw_400 : Cond.fieldLink "JamRulesModel" 57 "JamRulesModel" "times" "[J" ∈ TB := TB_of (List.mem_of_getElem? (i := 400) (by decide +kernel)) (by decide +kernel)
theorem tw_401 : Cond.fieldLink "JamRulesModel" 60 "JamRulesModel" "stops" "[Z" ∈ TB := TB_of (List.mem_of_getElem? (i := 401) (by decide +kernel)) (by decide +kernel)
theorem tw_402 : Cond.fieldLink "JamRulesModel" 63 "JamRulesModel" "threw" "[Z" ∈ TB := TB_of (List.mem_of_getElem? (i := 402) (by decide +kernel)) (by decide +kernel)
theorem tw_403 : Cond.fieldLink "JamRulesModel" 66 "JamRulesModel" "planted" "[Z" ∈ TB := TB_of (List.mem_of_getElem? (i := 403) (by decide +kernel)) (by decide +kernel)
theorem tw_404 : Cond.fieldLink "JamRulesModel" 69 "JamRulesModel" "done" "[I" ∈ TB := TB_of (List.mem_of_getElem? (i := 404) (by decide +kernel)) (by decide +kernel)
theorem tw_405 : Cond.fieldLink "JamRulesModel" 72 "JamRulesModel" "cleared" "[Z" ∈ TB := TB_of (List.mem_of_getElem? (i := 405) (by decide +kernel)) (by decide +kernel)
theorem tw_406 : Cond.fieldLink "JamRulesModel" 75 "JamRulesModel" "doubts" "[Z" ∈ TB := TB_of (List.mem_of_getElem? (i := 406) (by decide +kernel)) (by decide +kernel)
theorem tw_407 : Cond.fieldLink "JamRulesModel" 78 "JamRulesModel" "does" "[Z" ∈ TB := TB_of (List.mem_of_getElem? (i := 407) (by decide +kernel)) (by decide +kernel)
theorem tw_408 : Cond.fieldLink "JamRulesModel" 81 "JamRulesModel" "throwing" "[Z" ∈ TB := TB_of (List.mem_of_getElem? (i := 408) (by decide +kernel)) (by decide +kernel)
theorem tw_409 : Cond.fieldLink "JamRulesModel" 84 "JamRulesModel" "ranks" "[I" ∈ TB := TB_of (List.mem_of_getElem? (i := 409) (by decide +kernel)) (by decide +kernel)
theorem tw_410 : Cond.fieldLink "JamRulesModel" 87 "JamRulesModel" "steps" "[I" ∈ TB := TB_of (List.mem_of_getElem? (i := 410) (by decide +kernel)) (by decide +kernel)
theorem tw_411 : Cond.fieldLink "JamRulesModel" 115 "JamRulesModel" "clock" "J" ∈ TB := TB_of (List.mem_of_getElem? (i := 411) (by decide +kernel)) (by decide +kernel)
theorem tw_412 : Cond.fieldLink "JamRulesModel" 135 "JamRulesModel" "first" "I" ∈ TB := TB_of (List.mem_of_getElem? (i := 412) (by decide +kernel)) (by decide +kernel)
theorem tw_413 : Cond.fieldLink "JamRulesModel" 90 "JamRulesModel" "swept" "[Z" ∈ TB := TB_of (List.mem_of_getElem? (i := 413) (by decide +kernel)) (by decide +kernel)
theorem tw_481 : Cond.arrayClass FieldType.long ∈ TB := TB_of (List.mem_of_getElem? (i := 481) (by decide +kernel)) (by decide +kernel)
theorem tw_482 : Cond.methodLink "JamRulesLaw" 19 y_M_sensor ∈ TB := TB_of (List.mem_of_getElem? (i := 482) (by decide +kernel)) (by decide +kernel)
theorem tw_483 : Cond.instanceMethod y_M_sensor ∈ TB := TB_of (List.mem_of_getElem? (i := 483) (by decide +kernel)) (by decide +kernel)
theorem tw_484 : Cond.selects "JamRulesModel" y_M_sensor y_M_sensor ∈ TB := TB_of (List.mem_of_getElem? (i := 484) (by decide +kernel)) (by decide +kernel)
set_option maxRecDepth 100000 in
theorem tw_485 : Cond.code y_M_sensor b_M_sensor 4 (some .int) ∈ TB := TB_of (List.mem_of_getElem? (i := 485) rfl) rfl
theorem tw_486 : Cond.constantLong "JamRulesModel" 100 (100000) ∈ TB := TB_of (List.mem_of_getElem? (i := 486) (by decide +kernel)) (by decide +kernel)
theorem tw_487 : Cond.constantLong "JamRulesModel" 102 (100) ∈ TB := TB_of (List.mem_of_getElem? (i := 487) (by decide +kernel)) (by decide +kernel)
theorem tw_488 : Cond.methodLink "JamRulesLaw" 24 y_M_item ∈ TB := TB_of (List.mem_of_getElem? (i := 488) (by decide +kernel)) (by decide +kernel)
theorem tw_489 : Cond.instanceMethod y_M_item ∈ TB := TB_of (List.mem_of_getElem? (i := 489) (by decide +kernel)) (by decide +kernel)
theorem tw_490 : Cond.selects "JamRulesModel" y_M_item y_M_item ∈ TB := TB_of (List.mem_of_getElem? (i := 490) (by decide +kernel)) (by decide +kernel)
set_option maxRecDepth 100000 in
theorem tw_491 : Cond.code y_M_item b_M_item 6 (some .int) ∈ TB := TB_of (List.mem_of_getElem? (i := 491) rfl) rfl
theorem tw_492 : Cond.constantLong "JamRulesModel" 107 (50) ∈ TB := TB_of (List.mem_of_getElem? (i := 492) (by decide +kernel)) (by decide +kernel)
theorem tw_493 : Cond.constantLong "JamRulesModel" 109 (1000) ∈ TB := TB_of (List.mem_of_getElem? (i := 493) (by decide +kernel)) (by decide +kernel)
theorem tw_494 : Cond.methodLink "JamRulesModel" 111 y_M_isIn ∈ TB := TB_of (List.mem_of_getElem? (i := 494) (by decide +kernel)) (by decide +kernel)
theorem tw_495 : Cond.static y_M_isIn ∈ TB := TB_of (List.mem_of_getElem? (i := 495) (by decide +kernel)) (by decide +kernel)
set_option maxRecDepth 100000 in
theorem tw_496 : Cond.code y_M_isIn b_M_isIn 6 (some .boolean) ∈ TB := TB_of (List.mem_of_getElem? (i := 496) rfl) rfl
theorem tw_497 : Cond.constantLong "JamRulesModel" 119 (1000000000) ∈ TB := TB_of (List.mem_of_getElem? (i := 497) (by decide +kernel)) (by decide +kernel)
theorem tw_498 : Cond.constantLong "JamRulesModel" 121 (30) ∈ TB := TB_of (List.mem_of_getElem? (i := 498) (by decide +kernel)) (by decide +kernel)
theorem tw_499 : Cond.methodLink "JamRulesModel" 123 y_M_stands ∈ TB := TB_of (List.mem_of_getElem? (i := 499) (by decide +kernel)) (by decide +kernel)
theorem tw_501 : Cond.instanceMethod y_M_stands ∈ TB := TB_of (List.mem_of_getElem? (i := 501) (by decide +kernel)) (by decide +kernel)
set_option maxRecDepth 100000 in
theorem tw_502 : Cond.code y_M_stands b_M_stands 4 (some .boolean) ∈ TB := TB_of (List.mem_of_getElem? (i := 502) rfl) rfl
theorem tw_503 : Cond.methodLink "JamRulesLaw" 29 y_M_edge ∈ TB := TB_of (List.mem_of_getElem? (i := 503) (by decide +kernel)) (by decide +kernel)
theorem tw_504 : Cond.instanceMethod y_M_edge ∈ TB := TB_of (List.mem_of_getElem? (i := 504) (by decide +kernel)) (by decide +kernel)
theorem tw_505 : Cond.selects "JamRulesModel" y_M_edge y_M_edge ∈ TB := TB_of (List.mem_of_getElem? (i := 505) (by decide +kernel)) (by decide +kernel)
set_option maxRecDepth 100000 in
theorem tw_506 : Cond.code y_M_edge b_M_edge 5 (some .int) ∈ TB := TB_of (List.mem_of_getElem? (i := 506) rfl) rfl
theorem tw_507 : Cond.methodLink "JamRulesModel" 158 y_M_noSensor ∈ TB := TB_of (List.mem_of_getElem? (i := 507) (by decide +kernel)) (by decide +kernel)
theorem tw_509 : Cond.instanceMethod y_M_noSensor ∈ TB := TB_of (List.mem_of_getElem? (i := 509) (by decide +kernel)) (by decide +kernel)
set_option maxRecDepth 100000 in
theorem tw_510 : Cond.code y_M_noSensor b_M_noSensor 2 (some .boolean) ∈ TB := TB_of (List.mem_of_getElem? (i := 510) rfl) rfl
theorem tw_511 : Cond.methodLink "JamRulesModel" 162 y_M_jams ∈ TB := TB_of (List.mem_of_getElem? (i := 511) (by decide +kernel)) (by decide +kernel)
theorem tw_513 : Cond.instanceMethod y_M_jams ∈ TB := TB_of (List.mem_of_getElem? (i := 513) (by decide +kernel)) (by decide +kernel)
set_option maxRecDepth 100000 in
theorem tw_514 : Cond.code y_M_jams b_M_jams 7 none ∈ TB := TB_of (List.mem_of_getElem? (i := 514) rfl) rfl
theorem tw_515 : Cond.constantLong "JamRulesModel" 138 (500) ∈ TB := TB_of (List.mem_of_getElem? (i := 515) (by decide +kernel)) (by decide +kernel)
theorem tw_516 : Cond.methodLink "JamRulesModel" 140 y_M_tell ∈ TB := TB_of (List.mem_of_getElem? (i := 516) (by decide +kernel)) (by decide +kernel)
theorem tw_518 : Cond.instanceMethod y_M_tell ∈ TB := TB_of (List.mem_of_getElem? (i := 518) (by decide +kernel)) (by decide +kernel)
set_option maxRecDepth 100000 in
theorem tw_519 : Cond.code y_M_tell b_M_tell 7 (some .int) ∈ TB := TB_of (List.mem_of_getElem? (i := 519) rfl) rfl
theorem tw_520 : Cond.methodLink "JamRulesModel" 131 y_M_isDoubt ∈ TB := TB_of (List.mem_of_getElem? (i := 520) (by decide +kernel)) (by decide +kernel)
theorem tw_522 : Cond.instanceMethod y_M_isDoubt ∈ TB := TB_of (List.mem_of_getElem? (i := 522) (by decide +kernel)) (by decide +kernel)
set_option maxRecDepth 100000 in
theorem tw_523 : Cond.code y_M_isDoubt b_M_isDoubt 7 (some .boolean) ∈ TB := TB_of (List.mem_of_getElem? (i := 523) rfl) rfl
theorem tw_524 : Cond.methodLink "JamRulesModel" 127 y_M_isSeen ∈ TB := TB_of (List.mem_of_getElem? (i := 524) (by decide +kernel)) (by decide +kernel)
theorem tw_526 : Cond.instanceMethod y_M_isSeen ∈ TB := TB_of (List.mem_of_getElem? (i := 526) (by decide +kernel)) (by decide +kernel)
set_option maxRecDepth 100000 in
theorem tw_527 : Cond.code y_M_isSeen b_M_isSeen 3 (some .boolean) ∈ TB := TB_of (List.mem_of_getElem? (i := 527) rfl) rfl
theorem tw_528 : Cond.methodLink "JamRulesModel" 166 y_M_darken ∈ TB := TB_of (List.mem_of_getElem? (i := 528) (by decide +kernel)) (by decide +kernel)
theorem tw_530 : Cond.instanceMethod y_M_darken ∈ TB := TB_of (List.mem_of_getElem? (i := 530) (by decide +kernel)) (by decide +kernel)
set_option maxRecDepth 100000 in
theorem tw_531 : Cond.code y_M_darken b_M_darken 6 none ∈ TB := TB_of (List.mem_of_getElem? (i := 531) rfl) rfl
theorem tw_532 : Cond.methodLink "JamRulesModel" 144 y_M_next ∈ TB := TB_of (List.mem_of_getElem? (i := 532) (by decide +kernel)) (by decide +kernel)
theorem tw_534 : Cond.instanceMethod y_M_next ∈ TB := TB_of (List.mem_of_getElem? (i := 534) (by decide +kernel)) (by decide +kernel)
set_option maxRecDepth 100000 in
theorem tw_535 : Cond.code y_M_next b_M_next 3 (some .int) ∈ TB := TB_of (List.mem_of_getElem? (i := 535) rfl) rfl
theorem tw_536 : Cond.methodLink "JamRulesModel" 148 y_M_due ∈ TB := TB_of (List.mem_of_getElem? (i := 536) (by decide +kernel)) (by decide +kernel)
theorem tw_538 : Cond.instanceMethod y_M_due ∈ TB := TB_of (List.mem_of_getElem? (i := 538) (by decide +kernel)) (by decide +kernel)
set_option maxRecDepth 100000 in
theorem tw_539 : Cond.code y_M_due b_M_due 3 (some .long) ∈ TB := TB_of (List.mem_of_getElem? (i := 539) rfl) rfl
theorem tw_540 : Cond.constantLong "JamRulesModel" 152 (16) ∈ TB := TB_of (List.mem_of_getElem? (i := 540) (by decide +kernel)) (by decide +kernel)
theorem tw_541 : Cond.constantLong "JamRulesModel" 154 (-15) ∈ TB := TB_of (List.mem_of_getElem? (i := 541) (by decide +kernel)) (by decide +kernel)
theorem tw_542 : Cond.constantLong "JamRulesModel" 156 (15) ∈ TB := TB_of (List.mem_of_getElem? (i := 542) (by decide +kernel)) (by decide +kernel)
theorem tw_543 : Cond.methodLink "JamRulesModel" 170 y_M_lighten ∈ TB := TB_of (List.mem_of_getElem? (i := 543) (by decide +kernel)) (by decide +kernel)
theorem tw_545 : Cond.instanceMethod y_M_lighten ∈ TB := TB_of (List.mem_of_getElem? (i := 545) (by decide +kernel)) (by decide +kernel)
set_option maxRecDepth 100000 in
theorem tw_546 : Cond.code y_M_lighten b_M_lighten 9 none ∈ TB := TB_of (List.mem_of_getElem? (i := 546) rfl) rfl
theorem tw_547 : Cond.methodLink "JamRulesLaw" 34 y_M_doubt ∈ TB := TB_of (List.mem_of_getElem? (i := 547) (by decide +kernel)) (by decide +kernel)
theorem tw_548 : Cond.instanceMethod y_M_doubt ∈ TB := TB_of (List.mem_of_getElem? (i := 548) (by decide +kernel)) (by decide +kernel)
theorem tw_549 : Cond.selects "JamRulesModel" y_M_doubt y_M_doubt ∈ TB := TB_of (List.mem_of_getElem? (i := 549) (by decide +kernel)) (by decide +kernel)
set_option maxRecDepth 100000 in
theorem tw_550 : Cond.code y_M_doubt b_M_doubt 5 (some .int) ∈ TB := TB_of (List.mem_of_getElem? (i := 550) rfl) rfl
theorem tw_551 : Cond.methodLink "JamRulesModel" 173 y_M_noFault ∈ TB := TB_of (List.mem_of_getElem? (i := 551) (by decide +kernel)) (by decide +kernel)
theorem tw_553 : Cond.instanceMethod y_M_noFault ∈ TB := TB_of (List.mem_of_getElem? (i := 553) (by decide +kernel)) (by decide +kernel)
set_option maxRecDepth 100000 in
theorem tw_554 : Cond.code y_M_noFault b_M_noFault 2 (some .boolean) ∈ TB := TB_of (List.mem_of_getElem? (i := 554) rfl) rfl
theorem tw_555 : Cond.methodLink "JamRulesLaw" 39 y_M_cause ∈ TB := TB_of (List.mem_of_getElem? (i := 555) (by decide +kernel)) (by decide +kernel)
theorem tw_556 : Cond.instanceMethod y_M_cause ∈ TB := TB_of (List.mem_of_getElem? (i := 556) (by decide +kernel)) (by decide +kernel)
theorem tw_557 : Cond.selects "JamRulesModel" y_M_cause y_M_cause ∈ TB := TB_of (List.mem_of_getElem? (i := 557) (by decide +kernel)) (by decide +kernel)
set_option maxRecDepth 100000 in
theorem tw_558 : Cond.code y_M_cause b_M_cause 6 (some .int) ∈ TB := TB_of (List.mem_of_getElem? (i := 558) rfl) rfl
theorem tw_559 : Cond.constantLong "JamRulesModel" 176 (10000) ∈ TB := TB_of (List.mem_of_getElem? (i := 559) (by decide +kernel)) (by decide +kernel)
theorem tw_560 : Cond.methodLink "JamRulesLaw" 43 y_M_step ∈ TB := TB_of (List.mem_of_getElem? (i := 560) (by decide +kernel)) (by decide +kernel)
theorem tw_561 : Cond.instanceMethod y_M_step ∈ TB := TB_of (List.mem_of_getElem? (i := 561) (by decide +kernel)) (by decide +kernel)
theorem tw_562 : Cond.selects "JamRulesModel" y_M_step y_M_step ∈ TB := TB_of (List.mem_of_getElem? (i := 562) (by decide +kernel)) (by decide +kernel)
set_option maxRecDepth 100000 in
theorem tw_563 : Cond.code y_M_step b_M_step 6 (some .int) ∈ TB := TB_of (List.mem_of_getElem? (i := 563) rfl) rfl
theorem tw_564 : Cond.constantLong "JamRulesModel" 185 (5) ∈ TB := TB_of (List.mem_of_getElem? (i := 564) (by decide +kernel)) (by decide +kernel)
theorem tw_565 : Cond.methodLink "JamRulesModel" 187 y_M_clear ∈ TB := TB_of (List.mem_of_getElem? (i := 565) (by decide +kernel)) (by decide +kernel)
theorem tw_567 : Cond.instanceMethod y_M_clear ∈ TB := TB_of (List.mem_of_getElem? (i := 567) (by decide +kernel)) (by decide +kernel)
set_option maxRecDepth 100000 in
theorem tw_568 : Cond.code y_M_clear b_M_clear 3 none ∈ TB := TB_of (List.mem_of_getElem? (i := 568) rfl) rfl
theorem tw_569 : Cond.methodLink "JamRulesModel" 181 y_M_enlist ∈ TB := TB_of (List.mem_of_getElem? (i := 569) (by decide +kernel)) (by decide +kernel)
theorem tw_571 : Cond.instanceMethod y_M_enlist ∈ TB := TB_of (List.mem_of_getElem? (i := 571) (by decide +kernel)) (by decide +kernel)
set_option maxRecDepth 100000 in
theorem tw_572 : Cond.code y_M_enlist b_M_enlist 2 none ∈ TB := TB_of (List.mem_of_getElem? (i := 572) rfl) rfl
theorem tw_573 : Cond.methodLink "JamRulesLaw" 47 y_M_feed ∈ TB := TB_of (List.mem_of_getElem? (i := 573) (by decide +kernel)) (by decide +kernel)
theorem tw_574 : Cond.instanceMethod y_M_feed ∈ TB := TB_of (List.mem_of_getElem? (i := 574) (by decide +kernel)) (by decide +kernel)
theorem tw_575 : Cond.selects "JamRulesModel" y_M_feed y_M_feed ∈ TB := TB_of (List.mem_of_getElem? (i := 575) (by decide +kernel)) (by decide +kernel)
set_option maxRecDepth 100000 in
theorem tw_576 : Cond.code y_M_feed b_M_feed 4 (some .int) ∈ TB := TB_of (List.mem_of_getElem? (i := 576) rfl) rfl
theorem tw_577 : Cond.methodLink "JamRulesLaw" 51 y_M_listed ∈ TB := TB_of (List.mem_of_getElem? (i := 577) (by decide +kernel)) (by decide +kernel)
theorem tw_578 : Cond.instanceMethod y_M_listed ∈ TB := TB_of (List.mem_of_getElem? (i := 578) (by decide +kernel)) (by decide +kernel)
theorem tw_579 : Cond.selects "JamRulesModel" y_M_listed y_M_listed ∈ TB := TB_of (List.mem_of_getElem? (i := 579) (by decide +kernel)) (by decide +kernel)
set_option maxRecDepth 100000 in
theorem tw_580 : Cond.code y_M_listed b_M_listed 2 (some .int) ∈ TB := TB_of (List.mem_of_getElem? (i := 580) rfl) rfl
theorem tw_581 : Cond.methodLink "JamRulesLaw" 56 y_M_rule ∈ TB := TB_of (List.mem_of_getElem? (i := 581) (by decide +kernel)) (by decide +kernel)
theorem tw_582 : Cond.instanceMethod y_M_rule ∈ TB := TB_of (List.mem_of_getElem? (i := 582) (by decide +kernel)) (by decide +kernel)
theorem tw_583 : Cond.selects "JamRulesModel" y_M_rule y_M_rule ∈ TB := TB_of (List.mem_of_getElem? (i := 583) (by decide +kernel)) (by decide +kernel)
set_option maxRecDepth 100000 in
theorem tw_584 : Cond.code y_M_rule b_M_rule 5 (some .int) ∈ TB := TB_of (List.mem_of_getElem? (i := 584) rfl) rfl
theorem tw_585 : Cond.constantLong "JamRulesModel" 190 (6) ∈ TB := TB_of (List.mem_of_getElem? (i := 585) (by decide +kernel)) (by decide +kernel)
theorem tw_586 : Cond.methodLink "JamRulesLaw" 61 y_M_plant ∈ TB := TB_of (List.mem_of_getElem? (i := 586) (by decide +kernel)) (by decide +kernel)
theorem tw_587 : Cond.instanceMethod y_M_plant ∈ TB := TB_of (List.mem_of_getElem? (i := 587) (by decide +kernel)) (by decide +kernel)
theorem tw_588 : Cond.selects "JamRulesModel" y_M_plant y_M_plant ∈ TB := TB_of (List.mem_of_getElem? (i := 588) (by decide +kernel)) (by decide +kernel)
set_option maxRecDepth 100000 in
theorem tw_589 : Cond.code y_M_plant b_M_plant 4 (some .int) ∈ TB := TB_of (List.mem_of_getElem? (i := 589) rfl) rfl
theorem tw_590 : Cond.methodLink "JamRulesLaw" 65 y_M_alarm ∈ TB := TB_of (List.mem_of_getElem? (i := 590) (by decide +kernel)) (by decide +kernel)
theorem tw_591 : Cond.instanceMethod y_M_alarm ∈ TB := TB_of (List.mem_of_getElem? (i := 591) (by decide +kernel)) (by decide +kernel)
theorem tw_592 : Cond.selects "JamRulesModel" y_M_alarm y_M_alarm ∈ TB := TB_of (List.mem_of_getElem? (i := 592) (by decide +kernel)) (by decide +kernel)
set_option maxRecDepth 100000 in
theorem tw_593 : Cond.code y_M_alarm b_M_alarm 6 (some .int) ∈ TB := TB_of (List.mem_of_getElem? (i := 593) rfl) rfl
theorem tw_594 : Cond.constantLong "JamRulesModel" 192 (4) ∈ TB := TB_of (List.mem_of_getElem? (i := 594) (by decide +kernel)) (by decide +kernel)
theorem tw_595 : Cond.methodLink "JamRulesModel" 194 y_M_rankOf ∈ TB := TB_of (List.mem_of_getElem? (i := 595) (by decide +kernel)) (by decide +kernel)
theorem tw_597 : Cond.instanceMethod y_M_rankOf ∈ TB := TB_of (List.mem_of_getElem? (i := 597) (by decide +kernel)) (by decide +kernel)
set_option maxRecDepth 100000 in
theorem tw_598 : Cond.code y_M_rankOf b_M_rankOf 2 (some .int) ∈ TB := TB_of (List.mem_of_getElem? (i := 598) rfl) rfl
theorem tw_599 : Cond.methodLink "JamRulesLaw" 69 y_M_count ∈ TB := TB_of (List.mem_of_getElem? (i := 599) (by decide +kernel)) (by decide +kernel)
theorem tw_600 : Cond.instanceMethod y_M_count ∈ TB := TB_of (List.mem_of_getElem? (i := 600) (by decide +kernel)) (by decide +kernel)
theorem tw_601 : Cond.selects "JamRulesModel" y_M_count y_M_count ∈ TB := TB_of (List.mem_of_getElem? (i := 601) (by decide +kernel)) (by decide +kernel)
set_option maxRecDepth 100000 in
theorem tw_602 : Cond.code y_M_count b_M_count 2 (some .int) ∈ TB := TB_of (List.mem_of_getElem? (i := 602) rfl) rfl
theorem tw_603 : Cond.methodLink "JamRulesLaw" 74 y_M_goesOn ∈ TB := TB_of (List.mem_of_getElem? (i := 603) (by decide +kernel)) (by decide +kernel)
theorem tw_604 : Cond.instanceMethod y_M_goesOn ∈ TB := TB_of (List.mem_of_getElem? (i := 604) (by decide +kernel)) (by decide +kernel)
theorem tw_605 : Cond.selects "JamRulesModel" y_M_goesOn y_M_goesOn ∈ TB := TB_of (List.mem_of_getElem? (i := 605) (by decide +kernel)) (by decide +kernel)
set_option maxRecDepth 100000 in
theorem tw_606 : Cond.code y_M_goesOn b_M_goesOn 1 (some .boolean) ∈ TB := TB_of (List.mem_of_getElem? (i := 606) rfl) rfl
theorem tw_607 : Cond.constantLong "JamRulesLaw" 13 (4294967295) ∈ TB := TB_of (List.mem_of_getElem? (i := 607) (by decide +kernel)) (by decide +kernel)
theorem se_0 : Cond.selects R_J y_J_isTime y_J_isTime ∈ TB := TB_se (q := (y_J_isTime, 12)) (List.mem_of_getElem? (i := 0) (by decide +kernel))
theorem se_1 : Cond.selects R_J y_J_earliestHead y_J_earliestHead ∈ TB := TB_se (q := (y_J_earliestHead, 12)) (List.mem_of_getElem? (i := 1) (by decide +kernel))
theorem se_2 : Cond.selects R_J y_J_isSensor y_J_isSensor ∈ TB := TB_se (q := (y_J_isSensor, 12)) (List.mem_of_getElem? (i := 2) (by decide +kernel))
theorem se_3 : Cond.selects R_J y_J_tellJams y_J_tellJams ∈ TB := TB_se (q := (y_J_tellJams, 12)) (List.mem_of_getElem? (i := 3) (by decide +kernel))
theorem se_4 : Cond.selects R_J y_J_lengthAt y_J_lengthAt ∈ TB := TB_se (q := (y_J_lengthAt, 12)) (List.mem_of_getElem? (i := 4) (by decide +kernel))
theorem se_5 : Cond.selects R_J y_J_isItem y_J_isItem ∈ TB := TB_se (q := (y_J_isItem, 12)) (List.mem_of_getElem? (i := 5) (by decide +kernel))
theorem se_6 : Cond.selects R_J y_J_tell y_J_tell ∈ TB := TB_se (q := (y_J_tell, 12)) (List.mem_of_getElem? (i := 6) (by decide +kernel))
theorem se_7 : Cond.selects R_J y_J_doubtAt y_J_doubtAt ∈ TB := TB_se (q := (y_J_doubtAt, 12)) (List.mem_of_getElem? (i := 7) (by decide +kernel))
theorem se_8 : Cond.selects R_J y_J_isInDoubt y_J_isInDoubt ∈ TB := TB_se (q := (y_J_isInDoubt, 12)) (List.mem_of_getElem? (i := 8) (by decide +kernel))
theorem se_9 : Cond.selects R_J y_J_becomeDark y_J_becomeDark ∈ TB := TB_se (q := (y_J_becomeDark, 12)) (List.mem_of_getElem? (i := 9) (by decide +kernel))
theorem se_10 : Cond.selects R_J y_J_loseLateItems y_J_loseLateItems ∈ TB := TB_se (q := (y_J_loseLateItems, 12)) (List.mem_of_getElem? (i := 10) (by decide +kernel))
theorem se_11 : Cond.selects R_J y_J_isAwaited y_J_isAwaited ∈ TB := TB_se (q := (y_J_isAwaited, 12)) (List.mem_of_getElem? (i := 11) (by decide +kernel))
theorem se_12 : Cond.selects R_J y_J_dueAt y_J_dueAt ∈ TB := TB_se (q := (y_J_dueAt, 12)) (List.mem_of_getElem? (i := 12) (by decide +kernel))
theorem se_13 : Cond.selects R_J y_J_leastUnseen y_J_leastUnseen ∈ TB := TB_se (q := (y_J_leastUnseen, 12)) (List.mem_of_getElem? (i := 13) (by decide +kernel))
theorem se_14 : Cond.selects R_J y_J_isComing y_J_isComing ∈ TB := TB_se (q := (y_J_isComing, 12)) (List.mem_of_getElem? (i := 14) (by decide +kernel))
theorem se_15 : Cond.selects R_J y_J_becomeLight y_J_becomeLight ∈ TB := TB_se (q := (y_J_becomeLight, 12)) (List.mem_of_getElem? (i := 15) (by decide +kernel))
theorem se_16 : Cond.selects R_J y_J_judgeLength y_J_judgeLength ∈ TB := TB_se (q := (y_J_judgeLength, 12)) (List.mem_of_getElem? (i := 16) (by decide +kernel))
theorem se_17 : Cond.selects R_J y_J_isFault y_J_isFault ∈ TB := TB_se (q := (y_J_isFault, 12)) (List.mem_of_getElem? (i := 17) (by decide +kernel))
theorem se_18 : Cond.selects R_J y_J_cameAgain y_J_cameAgain ∈ TB := TB_se (q := (y_J_cameAgain, 12)) (List.mem_of_getElem? (i := 18) (by decide +kernel))
theorem se_19 : Cond.selects R_J y_J_resetCounts y_J_resetCounts ∈ TB := TB_se (q := (y_J_resetCounts, 12)) (List.mem_of_getElem? (i := 19) (by decide +kernel))
theorem se_20 : Cond.selects R_J y_J_clear y_J_clear ∈ TB := TB_se (q := (y_J_clear, 12)) (List.mem_of_getElem? (i := 20) (by decide +kernel))
theorem se_21 : Cond.selects R_J y_J_emptyBelt y_J_emptyBelt ∈ TB := TB_se (q := (y_J_emptyBelt, 12)) (List.mem_of_getElem? (i := 21) (by decide +kernel))
theorem se_22 : Cond.selects R_J y_J_putOnList y_J_putOnList ∈ TB := TB_se (q := (y_J_putOnList, 12)) (List.mem_of_getElem? (i := 22) (by decide +kernel))
theorem se_23 : Cond.selects R_J y_J_listOffBy y_J_listOffBy ∈ TB := TB_se (q := (y_J_listOffBy, 12)) (List.mem_of_getElem? (i := 23) (by decide +kernel))
theorem se_24 : Cond.selects R_J y_J_takeOffList y_J_takeOffList ∈ TB := TB_se (q := (y_J_takeOffList, 12)) (List.mem_of_getElem? (i := 24) (by decide +kernel))
theorem se_25 : Cond.selects R_J y_J_faultByRank y_J_faultByRank ∈ TB := TB_se (q := (y_J_faultByRank, 12)) (List.mem_of_getElem? (i := 25) (by decide +kernel))
theorem se_26 : Cond.selects R_M y_M_stands y_M_stands ∈ TB := TB_se (q := (y_M_stands, 33)) (List.mem_of_getElem? (i := 26) (by decide +kernel))
theorem se_27 : Cond.selects R_M y_M_noSensor y_M_noSensor ∈ TB := TB_se (q := (y_M_noSensor, 33)) (List.mem_of_getElem? (i := 27) (by decide +kernel))
theorem se_28 : Cond.selects R_M y_M_jams y_M_jams ∈ TB := TB_se (q := (y_M_jams, 33)) (List.mem_of_getElem? (i := 28) (by decide +kernel))
theorem se_29 : Cond.selects R_M y_M_tell y_M_tell ∈ TB := TB_se (q := (y_M_tell, 33)) (List.mem_of_getElem? (i := 29) (by decide +kernel))
theorem se_30 : Cond.selects R_M y_M_isDoubt y_M_isDoubt ∈ TB := TB_se (q := (y_M_isDoubt, 33)) (List.mem_of_getElem? (i := 30) (by decide +kernel))
theorem se_31 : Cond.selects R_M y_M_isSeen y_M_isSeen ∈ TB := TB_se (q := (y_M_isSeen, 33)) (List.mem_of_getElem? (i := 31) (by decide +kernel))
theorem se_32 : Cond.selects R_M y_M_darken y_M_darken ∈ TB := TB_se (q := (y_M_darken, 33)) (List.mem_of_getElem? (i := 32) (by decide +kernel))
theorem se_33 : Cond.selects R_M y_M_next y_M_next ∈ TB := TB_se (q := (y_M_next, 33)) (List.mem_of_getElem? (i := 33) (by decide +kernel))
theorem se_34 : Cond.selects R_M y_M_due y_M_due ∈ TB := TB_se (q := (y_M_due, 33)) (List.mem_of_getElem? (i := 34) (by decide +kernel))
theorem se_35 : Cond.selects R_M y_M_lighten y_M_lighten ∈ TB := TB_se (q := (y_M_lighten, 33)) (List.mem_of_getElem? (i := 35) (by decide +kernel))
theorem se_36 : Cond.selects R_M y_M_noFault y_M_noFault ∈ TB := TB_se (q := (y_M_noFault, 33)) (List.mem_of_getElem? (i := 36) (by decide +kernel))
theorem se_37 : Cond.selects R_M y_M_clear y_M_clear ∈ TB := TB_se (q := (y_M_clear, 33)) (List.mem_of_getElem? (i := 37) (by decide +kernel))
theorem se_38 : Cond.selects R_M y_M_enlist y_M_enlist ∈ TB := TB_se (q := (y_M_enlist, 33)) (List.mem_of_getElem? (i := 38) (by decide +kernel))
theorem se_39 : Cond.selects R_M y_M_rankOf y_M_rankOf ∈ TB := TB_se (q := (y_M_rankOf, 33)) (List.mem_of_getElem? (i := 39) (by decide +kernel))
