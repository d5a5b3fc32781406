/-! ===== BEGIN printed: names, fields, word lists, decode rows ===== -/
def RX0 : String := "ClubRolls$Club"
def TX0 : u_T := fun k => match k with
  | 0 => ("ClubRolls$Club", "members", "[LClubRolls$Member;", true)
  | 1 => ("ClubRolls$Club", "post", "LClubRolls$Post;", true)
  | 2 => ("ClubRolls$Club", "coming", "[I", true)
  | 3 => ("ClubRolls$Club", "count", "I", false)
  | 4 => ("ClubRolls$Club", "time", "I", false)
  | 5 => ("ClubRolls$Club", "patience", "I", false)
  | 6 => ("ClubRolls$Club", "speeches", "I", false)
  | 7 => ("ClubRolls$Club", "late", "I", false)
  | _ => ("ClubRolls$Club", "stood", "I", false)
def tyX0 : Nat → FieldType := fun k => match k with
  | 0 => .array (.object "ClubRolls$Member")
  | 1 => .object "ClubRolls$Post"
  | 2 => .array .int
  | 3 => .int
  | 4 => .int
  | 5 => .int
  | 6 => .int
  | 7 => .int
  | _ => .int
abbrev wsX00 : List Cond := u_ws RX0 TX0 9
theorem nmX0 : ∀ a, a < 9 → ∀ b, b < 9 → a ≠ b → (TX0 a).2.1 ≠ (TX0 b).2.1 := by decide +kernel
theorem tyX0_ok : ∀ k, k < 9 → parseFieldDescriptor (TX0 k).2.2.1 = some (tyX0 k) := by decide +kernel
abbrev cX0_init : ByteArray := prog_2_method_1_code
def yX0_init : MethodName := ⟨RX0, "<init>", "()V"⟩
abbrev cX0_copyFrom : ByteArray := prog_2_method_2_code
def yX0_copyFrom : MethodName := ⟨RX0, "copyFrom", "(LClubRolls$Club;)V"⟩
abbrev cX0_hasMember : ByteArray := prog_2_method_3_code
def yX0_hasMember : MethodName := ⟨RX0, "hasMember", "(I)Z"⟩
abbrev cX0_isGone : ByteArray := prog_2_method_4_code
def yX0_isGone : MethodName := ⟨RX0, "isGone", "(I)Z"⟩
abbrev cX0_everybody : ByteArray := prog_2_method_5_code
def yX0_everybody : MethodName := ⟨RX0, "everybody", "()I"⟩
abbrev cX0_isRollWith : ByteArray := prog_2_method_6_code
def yX0_isRollWith : MethodName := ⟨RX0, "isRollWith", "(II)Z"⟩
abbrev cX0_whoAre : ByteArray := prog_2_method_7_code
def yX0_whoAre : MethodName := ⟨RX0, "whoAre", "(I)I"⟩
abbrev cX0_allSitIn : ByteArray := prog_2_method_8_code
def yX0_allSitIn : MethodName := ⟨RX0, "allSitIn", "(III)Z"⟩
abbrev cX0_groupOf : ByteArray := prog_2_method_9_code
def yX0_groupOf : MethodName := ⟨RX0, "groupOf", "(I)I"⟩
abbrev cX0_speechesMissedBy : ByteArray := prog_2_method_10_code
def yX0_speechesMissedBy : MethodName := ⟨RX0, "speechesMissedBy", "(I)I"⟩
abbrev cX0_sharedSessions : ByteArray := prog_2_method_11_code
def yX0_sharedSessions : MethodName := ⟨RX0, "sharedSessions", "(IIZ)I"⟩
abbrev cX0_carryOut : ByteArray := prog_2_method_12_code
def yX0_carryOut : MethodName := ⟨RX0, "carryOut", "(III)Z"⟩
abbrev cX0_carryOutBy : ByteArray := prog_2_method_13_code
def yX0_carryOutBy : MethodName := ⟨RX0, "carryOutBy", "(III)Z"⟩
abbrev cX0_addMember : ByteArray := prog_2_method_14_code
def yX0_addMember : MethodName := ⟨RX0, "addMember", "(I)I"⟩
abbrev cX0_speak : ByteArray := prog_2_method_15_code
def yX0_speak : MethodName := ⟨RX0, "speak", "(I)I"⟩
abbrev cX0_callRoll : ByteArray := prog_2_method_16_code
def yX0_callRoll : MethodName := ⟨RX0, "callRoll", "(II)I"⟩
abbrev cX0_letTicksGo : ByteArray := prog_2_method_17_code
def yX0_letTicksGo : MethodName := ⟨RX0, "letTicksGo", "(I)V"⟩
abbrev cX0_noteComes : ByteArray := prog_2_method_18_code
def yX0_noteComes : MethodName := ⟨RX0, "noteComes", "()V"⟩
abbrev cX0_answerCall : ByteArray := prog_2_method_19_code
def yX0_answerCall : MethodName := ⟨RX0, "answerCall", "(LClubRolls$Member;LClubRolls$Member;I)V"⟩
abbrev cX0_rollStands : ByteArray := prog_2_method_20_code
def yX0_rollStands : MethodName := ⟨RX0, "rollStands", "(LClubRolls$Member;)V"⟩
def RX1 : String := "ClubRolls$History"
def TX1 : u_T := fun k => match k with
  | 0 => ("ClubRolls$History", "states", "[LClubRolls$Club;", true)
  | 1 => ("ClubRolls$History", "next", "I", false)
  | _ => ("ClubRolls$History", "count", "I", false)
def tyX1 : Nat → FieldType := fun k => match k with
  | 0 => .array (.object "ClubRolls$Club")
  | 1 => .int
  | _ => .int
abbrev wsX10 : List Cond := u_ws RX1 TX1 3
theorem nmX1 : ∀ a, a < 3 → ∀ b, b < 3 → a ≠ b → (TX1 a).2.1 ≠ (TX1 b).2.1 := by decide +kernel
theorem tyX1_ok : ∀ k, k < 3 → parseFieldDescriptor (TX1 k).2.2.1 = some (tyX1 k) := by decide +kernel
abbrev cX1_init : ByteArray := prog_3_method_1_code
def yX1_init : MethodName := ⟨RX1, "<init>", "()V"⟩
abbrev cX1_remember : ByteArray := prog_3_method_2_code
def yX1_remember : MethodName := ⟨RX1, "remember", "(LClubRolls$Club;)V"⟩
abbrev cX1_takeLast : ByteArray := prog_3_method_3_code
def yX1_takeLast : MethodName := ⟨RX1, "takeLast", "()LClubRolls$Club;"⟩
def RX2 : String := "ClubRolls$Member"
def TX2 : u_T := fun k => match k with
  | 0 => ("ClubRolls$Member", "self", "I", true)
  | 1 => ("ClubRolls$Member", "place", "I", false)
  | 2 => ("ClubRolls$Member", "presence", "I", false)
  | 3 => ("ClubRolls$Member", "rollNumber", "I", false)
  | 4 => ("ClubRolls$Member", "rollCaller", "I", false)
  | 5 => ("ClubRolls$Member", "rollMembers", "I", false)
  | 6 => ("ClubRolls$Member", "heard", "I", false)
  | 7 => ("ClubRolls$Member", "promise", "I", false)
  | 8 => ("ClubRolls$Member", "speeches", "I", false)
  | 9 => ("ClubRolls$Member", "calledNumber", "I", false)
  | 10 => ("ClubRolls$Member", "calledSet", "I", false)
  | 11 => ("ClubRolls$Member", "calledSince", "I", false)
  | 12 => ("ClubRolls$Member", "answered", "I", false)
  | 13 => ("ClubRolls$Member", "answers", "LClubRolls$Reports;", true)
  | 14 => ("ClubRolls$Member", "kept", "LClubRolls$Reports;", true)
  | _ => ("ClubRolls$Member", "sessions", "LClubRolls$Reports;", true)
def tyX2 : Nat → FieldType := fun k => match k with
  | 0 => .int
  | 1 => .int
  | 2 => .int
  | 3 => .int
  | 4 => .int
  | 5 => .int
  | 6 => .int
  | 7 => .int
  | 8 => .int
  | 9 => .int
  | 10 => .int
  | 11 => .int
  | 12 => .int
  | 13 => .object "ClubRolls$Reports"
  | 14 => .object "ClubRolls$Reports"
  | _ => .object "ClubRolls$Reports"
abbrev wsX20 : List Cond := u_ws RX2 TX2 16
theorem nmX2 : ∀ a, a < 16 → ∀ b, b < 16 → a ≠ b → (TX2 a).2.1 ≠ (TX2 b).2.1 := by decide +kernel
theorem tyX2_ok : ∀ k, k < 16 → parseFieldDescriptor (TX2 k).2.2.1 = some (tyX2 k) := by decide +kernel
abbrev cX2_init : ByteArray := prog_4_method_1_code
def yX2_init : MethodName := ⟨RX2, "<init>", "(I)V"⟩
abbrev cX2_copyFrom : ByteArray := prog_4_method_2_code
def yX2_copyFrom : MethodName := ⟨RX2, "copyFrom", "(LClubRolls$Member;)V"⟩
abbrev cX2_isIn : ByteArray := prog_4_method_3_code
def yX2_isIn : MethodName := ⟨RX2, "isIn", "(II)Z"⟩
abbrev cX2_maySpeak : ByteArray := prog_4_method_4_code
def yX2_maySpeak : MethodName := ⟨RX2, "maySpeak", "()Z"⟩
abbrev cX2_isOutOfPatience : ByteArray := prog_4_method_5_code
def yX2_isOutOfPatience : MethodName := ⟨RX2, "isOutOfPatience", "(II)Z"⟩
abbrev cX2_startCall : ByteArray := prog_4_method_6_code
def yX2_startCall : MethodName := ⟨RX2, "startCall", "(II)V"⟩
abbrev cX2_countsAnswer : ByteArray := prog_4_method_7_code
def yX2_countsAnswer : MethodName := ⟨RX2, "countsAnswer", "([I)Z"⟩
abbrev cX2_isAnsweredByAll : ByteArray := prog_4_method_8_code
def yX2_isAnsweredByAll : MethodName := ⟨RX2, "isAnsweredByAll", "()Z"⟩
abbrev cX2_stopCall : ByteArray := prog_4_method_9_code
def yX2_stopCall : MethodName := ⟨RX2, "stopCall", "()V"⟩
abbrev cX2_hushFor : ByteArray := prog_4_method_10_code
def yX2_hushFor : MethodName := ⟨RX2, "hushFor", "(I)V"⟩
abbrev cX2_takesSpeech : ByteArray := prog_4_method_11_code
def yX2_takesSpeech : MethodName := ⟨RX2, "takesSpeech", "(III)Z"⟩
abbrev cX2_enterRoll : ByteArray := prog_4_method_12_code
def yX2_enterRoll : MethodName := ⟨RX2, "enterRoll", "(IIII)V"⟩
abbrev cX2_goAway : ByteArray := prog_4_method_13_code
def yX2_goAway : MethodName := ⟨RX2, "goAway", "()V"⟩
abbrev cX2_comeBack : ByteArray := prog_4_method_14_code
def yX2_comeBack : MethodName := ⟨RX2, "comeBack", "()V"⟩
def RX3 : String := "ClubRolls$Post"
def TX3 : u_T := fun k => match k with
  | 0 => ("ClubRolls$Post", "cutFrom", "[I", true)
  | 1 => ("ClubRolls$Post", "rows", "[I", true)
  | 2 => ("ClubRolls$Post", "cutWays", "I", false)
  | 3 => ("ClubRolls$Post", "count", "I", false)
  | _ => ("ClubRolls$Post", "lost", "I", false)
def tyX3 : Nat → FieldType := fun k => match k with
  | 0 => .array .int
  | 1 => .array .int
  | 2 => .int
  | 3 => .int
  | _ => .int
abbrev wsX30 : List Cond := u_ws RX3 TX3 5
theorem nmX3 : ∀ a, a < 5 → ∀ b, b < 5 → a ≠ b → (TX3 a).2.1 ≠ (TX3 b).2.1 := by decide +kernel
theorem tyX3_ok : ∀ k, k < 5 → parseFieldDescriptor (TX3 k).2.2.1 = some (tyX3 k) := by decide +kernel
abbrev cX3_init : ByteArray := prog_5_method_1_code
def yX3_init : MethodName := ⟨RX3, "<init>", "()V"⟩
abbrev cX3_copyFrom : ByteArray := prog_5_method_2_code
def yX3_copyFrom : MethodName := ⟨RX3, "copyFrom", "(LClubRolls$Post;)V"⟩
abbrev cX3_isCutBetween : ByteArray := prog_5_method_3_code
def yX3_isCutBetween : MethodName := ⟨RX3, "isCutBetween", "(II)Z"⟩
abbrev cX3_changeWay : ByteArray := prog_5_method_4_code
def yX3_changeWay : MethodName := ⟨RX3, "changeWay", "(IIZ)V"⟩
abbrev cX3_send : ByteArray := prog_5_method_5_code
def yX3_send : MethodName := ⟨RX3, "send", "(ILClubRolls$Member;LClubRolls$Member;III)V"⟩
abbrev cX3_isDue : ByteArray := prog_5_method_6_code
def yX3_isDue : MethodName := ⟨RX3, "isDue", "(I)Z"⟩
abbrev cX3_takeFirst : ByteArray := prog_5_method_7_code
def yX3_takeFirst : MethodName := ⟨RX3, "takeFirst", "([I)V"⟩
def RX4 : String := "ClubRolls$Reports"
def TX4 : u_T := fun k => match k with
  | 0 => ("ClubRolls$Reports", "number", "[I", true)
  | 1 => ("ClubRolls$Reports", "caller", "[I", true)
  | 2 => ("ClubRolls$Reports", "heard", "[I", true)
  | _ => ("ClubRolls$Reports", "count", "I", false)
def tyX4 : Nat → FieldType := fun k => match k with
  | 0 => .array .int
  | 1 => .array .int
  | 2 => .array .int
  | _ => .int
abbrev wsX40 : List Cond := u_ws RX4 TX4 4
theorem nmX4 : ∀ a, a < 4 → ∀ b, b < 4 → a ≠ b → (TX4 a).2.1 ≠ (TX4 b).2.1 := by decide +kernel
theorem tyX4_ok : ∀ k, k < 4 → parseFieldDescriptor (TX4 k).2.2.1 = some (tyX4 k) := by decide +kernel
abbrev cX4_init : ByteArray := prog_6_method_1_code
def yX4_init : MethodName := ⟨RX4, "<init>", "(I)V"⟩
abbrev cX4_copyFrom : ByteArray := prog_6_method_2_code
def yX4_copyFrom : MethodName := ⟨RX4, "copyFrom", "(LClubRolls$Reports;)V"⟩
abbrev cX4_isFull : ByteArray := prog_6_method_3_code
def yX4_isFull : MethodName := ⟨RX4, "isFull", "()Z"⟩
abbrev cX4_put : ByteArray := prog_6_method_4_code
def yX4_put : MethodName := ⟨RX4, "put", "(IIII)V"⟩
abbrev cX4_add : ByteArray := prog_6_method_5_code
def yX4_add : MethodName := ⟨RX4, "add", "(III)V"⟩
abbrev cX4_takeUpTo : ByteArray := prog_6_method_6_code
def yX4_takeUpTo : MethodName := ⟨RX4, "takeUpTo", "(II)I"⟩
abbrev cX4_heardLike : ByteArray := prog_6_method_7_code
def yX4_heardLike : MethodName := ⟨RX4, "heardLike", "(II)I"⟩
def RX5 : String := "ClubRolls$Text"
def TX5 : u_T := fun k => match k with
  | 0 => ("ClubRolls$Text", "signs", "[I", true)
  | _ => ("ClubRolls$Text", "length", "I", false)
def tyX5 : Nat → FieldType := fun k => match k with
  | 0 => .array .int
  | _ => .int
abbrev wsX50 : List Cond := u_ws RX5 TX5 2
theorem nmX5 : ∀ a, a < 2 → ∀ b, b < 2 → a ≠ b → (TX5 a).2.1 ≠ (TX5 b).2.1 := by decide +kernel
theorem tyX5_ok : ∀ k, k < 2 → parseFieldDescriptor (TX5 k).2.2.1 = some (tyX5 k) := by decide +kernel
abbrev cX5_init : ByteArray := prog_7_method_1_code
def yX5_init : MethodName := ⟨RX5, "<init>", "()V"⟩
abbrev cX5_addSign : ByteArray := prog_7_method_2_code
def yX5_addSign : MethodName := ⟨RX5, "addSign", "(I)V"⟩
abbrev cX5_signAt : ByteArray := prog_7_method_3_code
def yX5_signAt : MethodName := ⟨RX5, "signAt", "(I)I"⟩
abbrev cX5_firstError : ByteArray := prog_7_method_4_code
def yX5_firstError : MethodName := ⟨RX5, "firstError", "()I"⟩
abbrev cX5_digitsBehind : ByteArray := prog_7_method_5_code
def yX5_digitsBehind : MethodName := ⟨RX5, "digitsBehind", "(I)I"⟩
abbrev cX5_isAllowed : ByteArray := prog_7_method_6_code
def yX5_isAllowed : MethodName := ⟨RX5, "isAllowed", "(II)Z"⟩
abbrev cX5_beginsNumber : ByteArray := prog_7_method_7_code
def yX5_beginsNumber : MethodName := ⟨RX5, "beginsNumber", "(IIII)Z"⟩
abbrev cX5_twoDigits : ByteArray := prog_7_method_8_code
def yX5_twoDigits : MethodName := ⟨RX5, "twoDigits", "(I)I"⟩
abbrev cX5_firstNumber : ByteArray := prog_7_method_9_code
def yX5_firstNumber : MethodName := ⟨RX5, "firstNumber", "(I)I"⟩
abbrev cX5_secondNumber : ByteArray := prog_7_method_10_code
def yX5_secondNumber : MethodName := ⟨RX5, "secondNumber", "(I)I"⟩
def RX6 : String := "ClubRolls"
def TX6 : u_T := fun k => match k with
  | 0 => ("ClubRolls", "text", "LClubRolls$Text;", true)
  | 1 => ("ClubRolls", "club", "LClubRolls$Club;", true)
  | 2 => ("ClubRolls", "newClub", "LClubRolls$Club;", true)
  | 3 => ("ClubRolls", "trial", "LClubRolls$Club;", true)
  | 4 => ("ClubRolls", "history", "LClubRolls$History;", true)
  | 5 => ("ClubRolls", "slots", "[LClubRolls$Club;", true)
  | _ => ("ClubRolls", "isSaved", "[Z", true)
def tyX6 : Nat → FieldType := fun k => match k with
  | 0 => .object "ClubRolls$Text"
  | 1 => .object "ClubRolls$Club"
  | 2 => .object "ClubRolls$Club"
  | 3 => .object "ClubRolls$Club"
  | 4 => .object "ClubRolls$History"
  | 5 => .array (.object "ClubRolls$Club")
  | _ => .array .boolean
abbrev wsX60 : List Cond := u_ws RX6 TX6 7
theorem nmX6 : ∀ a, a < 7 → ∀ b, b < 7 → a ≠ b → (TX6 a).2.1 ≠ (TX6 b).2.1 := by decide +kernel
theorem tyX6_ok : ∀ k, k < 7 → parseFieldDescriptor (TX6 k).2.2.1 = some (tyX6 k) := by decide +kernel
abbrev cX6_init : ByteArray := prog_1_method_1_code
def yX6_init : MethodName := ⟨RX6, "<init>", "()V"⟩
abbrev cX6_append : ByteArray := prog_1_method_2_code
def yX6_append : MethodName := ⟨RX6, "append", "(I)I"⟩
abbrev cX6_load : ByteArray := prog_1_method_5_code
def yX6_load : MethodName := ⟨RX6, "load", "()I"⟩
abbrev cX6_about : ByteArray := prog_1_method_6_code
def yX6_about : MethodName := ⟨RX6, "about", "(I)I"⟩
abbrev cX6_memberOf : ByteArray := prog_1_method_7_code
def yX6_memberOf : MethodName := ⟨RX6, "memberOf", "(II)I"⟩
abbrev cX6_session : ByteArray := prog_1_method_8_code
def yX6_session : MethodName := ⟨RX6, "session", "(III)I"⟩
abbrev cX6_note : ByteArray := prog_1_method_9_code
def yX6_note : MethodName := ⟨RX6, "note", "(II)I"⟩
abbrev cX6_isCut : ByteArray := prog_1_method_10_code
def yX6_isCut : MethodName := ⟨RX6, "isCut", "(II)I"⟩
abbrev cX6_member : ByteArray := prog_1_method_11_code
def yX6_member : MethodName := ⟨RX6, "member", "(I)I"⟩
abbrev cX6_say : ByteArray := prog_1_method_12_code
def yX6_say : MethodName := ⟨RX6, "say", "(I)I"⟩
abbrev cX6_call : ByteArray := prog_1_method_13_code
def yX6_call : MethodName := ⟨RX6, "call", "(II)I"⟩
abbrev cX6_cut : ByteArray := prog_1_method_14_code
def yX6_cut : MethodName := ⟨RX6, "cut", "(IIZ)I"⟩
abbrev cX6_leave : ByteArray := prog_1_method_15_code
def yX6_leave : MethodName := ⟨RX6, "leave", "(I)I"⟩
abbrev cX6_back : ByteArray := prog_1_method_16_code
def yX6_back : MethodName := ⟨RX6, "back", "(I)I"⟩
abbrev cX6_set : ByteArray := prog_1_method_17_code
def yX6_set : MethodName := ⟨RX6, "set", "(I)I"⟩
abbrev cX6_ticks : ByteArray := prog_1_method_18_code
def yX6_ticks : MethodName := ⟨RX6, "ticks", "(I)I"⟩
abbrev cX6_undo : ByteArray := prog_1_method_19_code
def yX6_undo : MethodName := ⟨RX6, "undo", "()I"⟩
abbrev cX6_standsIn : ByteArray := prog_1_method_20_code
def yX6_standsIn : MethodName := ⟨RX6, "standsIn", "(III)I"⟩
abbrev cX6_compare : ByteArray := prog_1_method_21_code
def yX6_compare : MethodName := ⟨RX6, "compare", "(III)I"⟩
abbrev cX6_lacks : ByteArray := prog_1_method_22_code
def yX6_lacks : MethodName := ⟨RX6, "lacks", "(I)I"⟩
abbrev cX6_together : ByteArray := prog_1_method_23_code
def yX6_together : MethodName := ⟨RX6, "together", "()I"⟩
abbrev cX6_runScript : ByteArray := prog_1_method_24_code
def yX6_runScript : MethodName := ⟨RX6, "runScript", "(IJ)I"⟩
abbrev cX6_simulate : ByteArray := prog_1_method_25_code
def yX6_simulate : MethodName := ⟨RX6, "simulate", "(JI)I"⟩
abbrev cX6_save : ByteArray := prog_1_method_26_code
def yX6_save : MethodName := ⟨RX6, "save", "(I)I"⟩
abbrev cX6_restore : ByteArray := prog_1_method_27_code
def yX6_restore : MethodName := ⟨RX6, "restore", "(I)I"⟩
abbrev cX6_checkMember : ByteArray := prog_1_method_28_code
def yX6_checkMember : MethodName := ⟨RX6, "checkMember", "(I)V"⟩
abbrev cX6_checkSlot : ByteArray := prog_1_method_29_code
def yX6_checkSlot : MethodName := ⟨RX6, "checkSlot", "(I)V"⟩
abbrev cX6_succeeds : ByteArray := prog_1_method_30_code
def yX6_succeeds : MethodName := ⟨RX6, "succeeds", "(I)Z"⟩
abbrev cX6_takeTurn : ByteArray := prog_1_method_31_code
def yX6_takeTurn : MethodName := ⟨RX6, "takeTurn", "(I)V"⟩
abbrev cX6_isPlace : ByteArray := prog_1_method_32_code
def yX6_isPlace : MethodName := ⟨RX6, "isPlace", "(I)Z"⟩
abbrev cX6_isPatience : ByteArray := prog_1_method_33_code
def yX6_isPatience : MethodName := ⟨RX6, "isPatience", "(I)Z"⟩
abbrev cX6_areTicks : ByteArray := prog_1_method_34_code
def yX6_areTicks : MethodName := ⟨RX6, "areTicks", "(I)Z"⟩
abbrev cX6_hasBit : ByteArray := prog_1_method_35_code
def yX6_hasBit : MethodName := ⟨RX6, "hasBit", "(II)Z"⟩
def RX7 : String := "ClubRollsModel"
def TX7 : u_T := fun k => match k with
  | _ => ("", "", "", false)
def tyX7 : Nat → FieldType := fun k => match k with
  | _ => .int
abbrev wsX70 : List Cond := u_ws RX7 TX7 0
theorem nmX7 : ∀ a, a < 0 → ∀ b, b < 0 → a ≠ b → (TX7 a).2.1 ≠ (TX7 b).2.1 := by decide +kernel
theorem tyX7_ok : ∀ k, k < 0 → parseFieldDescriptor (TX7 k).2.2.1 = some (tyX7 k) := by decide +kernel
def RJ6 : String := "java/lang/Integer"
def TJ6 : u_T := fun k => match k with
  | _ => ("", "", "", false)
def tyJ6 : Nat → FieldType := fun k => match k with
  | _ => .int
abbrev wsJ60 : List Cond := u_ws RJ6 TJ6 0
theorem nmJ6 : ∀ a, a < 0 → ∀ b, b < 0 → a ≠ b → (TJ6 a).2.1 ≠ (TJ6 b).2.1 := by decide +kernel
theorem tyJ6_ok : ∀ k, k < 0 → parseFieldDescriptor (TJ6 k).2.2.1 = some (tyJ6 k) := by decide +kernel
abbrev cJ6_bitCount_0f7a4 : ByteArray := prog_14_method_49_code
def yJ6_bitCount_0f7a4 : MethodName := ⟨RJ6, "bitCount", "(I)I"⟩
def RJ9 : String := "java/lang/Math"
def TJ9 : u_T := fun k => match k with
  | _ => ("", "", "", false)
def tyJ9 : Nat → FieldType := fun k => match k with
  | _ => .int
abbrev wsJ90 : List Cond := u_ws RJ9 TJ9 0
theorem nmJ9 : ∀ a, a < 0 → ∀ b, b < 0 → a ≠ b → (TJ9 a).2.1 ≠ (TJ9 b).2.1 := by decide +kernel
theorem tyJ9_ok : ∀ k, k < 0 → parseFieldDescriptor (TJ9 k).2.2.1 = some (tyJ9 k) := by decide +kernel
abbrev cJ9_abs_0f7a4 : ByteArray := prog_15_method_59_code
def yJ9_abs_0f7a4 : MethodName := ⟨RJ9, "abs", "(I)I"⟩
abbrev cJ9_min_7cf53 : ByteArray := prog_15_method_69_code
def yJ9_min_7cf53 : MethodName := ⟨RJ9, "min", "(II)I"⟩
def RJ0 : String := "java/lang/String"
def TJ0 : u_T := fun k => match k with
  | _ => ("", "", "", false)
def tyJ0 : Nat → FieldType := fun k => match k with
  | _ => .int
abbrev wsJ00 : List Cond := u_ws RJ0 TJ0 0
theorem nmJ0 : ∀ a, a < 0 → ∀ b, b < 0 → a ≠ b → (TJ0 a).2.1 ≠ (TJ0 b).2.1 := by decide +kernel
theorem tyJ0_ok : ∀ k, k < 0 → parseFieldDescriptor (TJ0 k).2.2.1 = some (tyJ0 k) := by decide +kernel
def RJ10 : String := "java/lang/System"
def TJ10 : u_T := fun k => match k with
  | _ => ("", "", "", false)
def tyJ10 : Nat → FieldType := fun k => match k with
  | _ => .int
abbrev wsJ100 : List Cond := u_ws RJ10 TJ10 0
theorem nmJ10 : ∀ a, a < 0 → ∀ b, b < 0 → a ≠ b → (TJ10 a).2.1 ≠ (TJ10 b).2.1 := by decide +kernel
theorem tyJ10_ok : ∀ k, k < 0 → parseFieldDescriptor (TJ10 k).2.2.1 = some (tyJ10 k) := by decide +kernel
def RL : String := "ClubRollsLaw"
abbrev cL_cuts : ByteArray := method_2_code
def yL_cuts : MethodName := ⟨RL, "cuts", "(LClubRolls;IIZ)I"⟩
abbrev cL_doScript : ByteArray := method_3_code
def yL_doScript : MethodName := ⟨RL, "doScript", "(LClubRolls;IJ)I"⟩
abbrev cL_doSimulate : ByteArray := method_4_code
def yL_doSimulate : MethodName := ⟨RL, "doSimulate", "(LClubRolls;JI)I"⟩
abbrev cL_tryAppend : ByteArray := method_5_code
def yL_tryAppend : MethodName := ⟨RL, "tryAppend", "(LClubRolls;I)I"⟩
abbrev cL_tryLoad : ByteArray := method_6_code
def yL_tryLoad : MethodName := ⟨RL, "tryLoad", "(LClubRolls;)I"⟩
abbrev cL_tryAbout : ByteArray := method_7_code
def yL_tryAbout : MethodName := ⟨RL, "tryAbout", "(LClubRolls;I)I"⟩
abbrev cL_tryMember : ByteArray := method_8_code
def yL_tryMember : MethodName := ⟨RL, "tryMember", "(LClubRolls;II)I"⟩
abbrev cL_trySession : ByteArray := method_9_code
def yL_trySession : MethodName := ⟨RL, "trySession", "(LClubRolls;III)I"⟩
abbrev cL_tryNote : ByteArray := method_10_code
def yL_tryNote : MethodName := ⟨RL, "tryNote", "(LClubRolls;II)I"⟩
abbrev cL_tryCut : ByteArray := method_11_code
def yL_tryCut : MethodName := ⟨RL, "tryCut", "(LClubRolls;II)I"⟩
abbrev cL_tryCome : ByteArray := method_12_code
def yL_tryCome : MethodName := ⟨RL, "tryCome", "(LClubRolls;I)I"⟩
abbrev cL_trySay : ByteArray := method_13_code
def yL_trySay : MethodName := ⟨RL, "trySay", "(LClubRolls;I)I"⟩
abbrev cL_tryCall : ByteArray := method_14_code
def yL_tryCall : MethodName := ⟨RL, "tryCall", "(LClubRolls;II)I"⟩
abbrev cL_tryLeave : ByteArray := method_15_code
def yL_tryLeave : MethodName := ⟨RL, "tryLeave", "(LClubRolls;I)I"⟩
abbrev cL_tryReturn : ByteArray := method_16_code
def yL_tryReturn : MethodName := ⟨RL, "tryReturn", "(LClubRolls;I)I"⟩
abbrev cL_tryLay : ByteArray := method_17_code
def yL_tryLay : MethodName := ⟨RL, "tryLay", "(LClubRolls;I)I"⟩
abbrev cL_tryTicks : ByteArray := method_18_code
def yL_tryTicks : MethodName := ⟨RL, "tryTicks", "(LClubRolls;I)I"⟩
abbrev cL_tryUndo : ByteArray := method_19_code
def yL_tryUndo : MethodName := ⟨RL, "tryUndo", "(LClubRolls;)I"⟩
abbrev cL_tryStands : ByteArray := method_20_code
def yL_tryStands : MethodName := ⟨RL, "tryStands", "(LClubRolls;III)I"⟩
abbrev cL_tryCompare : ByteArray := method_21_code
def yL_tryCompare : MethodName := ⟨RL, "tryCompare", "(LClubRolls;III)I"⟩
abbrev cL_tryLacks : ByteArray := method_22_code
def yL_tryLacks : MethodName := ⟨RL, "tryLacks", "(LClubRolls;I)I"⟩
abbrev cL_tryKeep : ByteArray := method_23_code
def yL_tryKeep : MethodName := ⟨RL, "tryKeep", "(LClubRolls;I)I"⟩
abbrev cL_tryBack : ByteArray := method_24_code
def yL_tryBack : MethodName := ⟨RL, "tryBack", "(LClubRolls;I)I"⟩
abbrev cL_call : ByteArray := method_25_code
def yL_call : MethodName := ⟨RL, "call", "(LClubRolls;IIII)I"⟩
abbrev cL_cell : ByteArray := method_26_code
def yL_cell : MethodName := ⟨RL, "cell", "([II)I"⟩
abbrev cL_thrown : ByteArray := method_27_code
def yL_thrown : MethodName := ⟨RL, "thrown", "(I)Z"⟩
abbrev cL_refuses : ByteArray := method_28_code
def yL_refuses : MethodName := ⟨RL, "refuses", "(LClubRolls;I)Z"⟩
abbrev cL_bits : ByteArray := method_29_code
def yL_bits : MethodName := ⟨RL, "bits", "(I)I"⟩
abbrev cL_rollBehind : ByteArray := method_30_code
def yL_rollBehind : MethodName := ⟨RL, "rollBehind", "(LClubRolls;II)I"⟩
abbrev cL_together : ByteArray := method_31_code
def yL_together : MethodName := ⟨RL, "together", "(LClubRolls;II)Z"⟩
abbrev cL_holds : ByteArray := method_32_code
def yL_holds : MethodName := ⟨RL, "holds", "(LClubRolls;I)Z"⟩
abbrev cL_act : ByteArray := method_33_code
def yL_act : MethodName := ⟨RL, "act", "(LClubRolls;I)I"⟩
abbrev cL_alike : ByteArray := method_34_code
def yL_alike : MethodName := ⟨RL, "alike", "(LClubRolls;LClubRolls;I)Z"⟩
abbrev cL_law : ByteArray := code
def yL_law : MethodName := ⟨RL, "law", "([I)Z"⟩
abbrev cL_waits : ByteArray := method_36_code
def yL_waits : MethodName := ⟨RL, "waits", "(LClubRolls;LClubRolls;I)Z"⟩
abbrev cL_undoes : ByteArray := method_37_code
def yL_undoes : MethodName := ⟨RL, "undoes", "(LClubRolls;LClubRolls;I)Z"⟩
abbrev cL_stands : ByteArray := method_38_code
def yL_stands : MethodName := ⟨RL, "stands", "(LClubRolls;LClubRolls;I)Z"⟩
abbrev cL_says : ByteArray := method_39_code
def yL_says : MethodName := ⟨RL, "says", "(LClubRolls;LClubRolls;I)Z"⟩
theorem dJ6_bitCount_0f7a4_0 : decode cJ6_bitCount_0f7a4 0 = .ok (.iload_n 0, 1) := by decide +kernel
theorem dJ6_bitCount_0f7a4_1 : decode cJ6_bitCount_0f7a4 1 = .ok (.iload_n 0, 1) := by decide +kernel
theorem dJ6_bitCount_0f7a4_2 : decode cJ6_bitCount_0f7a4 2 = .ok (.iconst 1, 1) := by decide +kernel
theorem dJ6_bitCount_0f7a4_3 : decode cJ6_bitCount_0f7a4 3 = .ok (.iushr, 1) := by decide +kernel
theorem dJ6_bitCount_0f7a4_4 : decode cJ6_bitCount_0f7a4 4 = .ok (.ldc_w 265, 3) := by decide +kernel
theorem dJ6_bitCount_0f7a4_7 : decode cJ6_bitCount_0f7a4 7 = .ok (.iand, 1) := by decide +kernel
theorem dJ6_bitCount_0f7a4_8 : decode cJ6_bitCount_0f7a4 8 = .ok (.isub, 1) := by decide +kernel
theorem dJ6_bitCount_0f7a4_9 : decode cJ6_bitCount_0f7a4 9 = .ok (.istore_n 0, 1) := by decide +kernel
theorem dJ6_bitCount_0f7a4_10 : decode cJ6_bitCount_0f7a4 10 = .ok (.iload_n 0, 1) := by decide +kernel
theorem dJ6_bitCount_0f7a4_11 : decode cJ6_bitCount_0f7a4 11 = .ok (.ldc_w 266, 3) := by decide +kernel
theorem dJ6_bitCount_0f7a4_14 : decode cJ6_bitCount_0f7a4 14 = .ok (.iand, 1) := by decide +kernel
theorem dJ6_bitCount_0f7a4_15 : decode cJ6_bitCount_0f7a4 15 = .ok (.iload_n 0, 1) := by decide +kernel
theorem dJ6_bitCount_0f7a4_16 : decode cJ6_bitCount_0f7a4 16 = .ok (.iconst 2, 1) := by decide +kernel
theorem dJ6_bitCount_0f7a4_17 : decode cJ6_bitCount_0f7a4 17 = .ok (.iushr, 1) := by decide +kernel
theorem dJ6_bitCount_0f7a4_18 : decode cJ6_bitCount_0f7a4 18 = .ok (.ldc_w 266, 3) := by decide +kernel
theorem dJ6_bitCount_0f7a4_21 : decode cJ6_bitCount_0f7a4 21 = .ok (.iand, 1) := by decide +kernel
theorem dJ6_bitCount_0f7a4_22 : decode cJ6_bitCount_0f7a4 22 = .ok (.iadd, 1) := by decide +kernel
theorem dJ6_bitCount_0f7a4_23 : decode cJ6_bitCount_0f7a4 23 = .ok (.istore_n 0, 1) := by decide +kernel
theorem dJ6_bitCount_0f7a4_24 : decode cJ6_bitCount_0f7a4 24 = .ok (.iload_n 0, 1) := by decide +kernel
theorem dJ6_bitCount_0f7a4_25 : decode cJ6_bitCount_0f7a4 25 = .ok (.iload_n 0, 1) := by decide +kernel
theorem dJ6_bitCount_0f7a4_26 : decode cJ6_bitCount_0f7a4 26 = .ok (.iconst 4, 1) := by decide +kernel
theorem dJ6_bitCount_0f7a4_27 : decode cJ6_bitCount_0f7a4 27 = .ok (.iushr, 1) := by decide +kernel
theorem dJ6_bitCount_0f7a4_28 : decode cJ6_bitCount_0f7a4 28 = .ok (.iadd, 1) := by decide +kernel
theorem dJ6_bitCount_0f7a4_29 : decode cJ6_bitCount_0f7a4 29 = .ok (.ldc_w 267, 3) := by decide +kernel
theorem dJ6_bitCount_0f7a4_32 : decode cJ6_bitCount_0f7a4 32 = .ok (.iand, 1) := by decide +kernel
theorem dJ6_bitCount_0f7a4_33 : decode cJ6_bitCount_0f7a4 33 = .ok (.istore_n 0, 1) := by decide +kernel
theorem dJ6_bitCount_0f7a4_34 : decode cJ6_bitCount_0f7a4 34 = .ok (.iload_n 0, 1) := by decide +kernel
theorem dJ6_bitCount_0f7a4_35 : decode cJ6_bitCount_0f7a4 35 = .ok (.iload_n 0, 1) := by decide +kernel
theorem dJ6_bitCount_0f7a4_36 : decode cJ6_bitCount_0f7a4 36 = .ok (.bipush 8, 2) := by decide +kernel
theorem dJ6_bitCount_0f7a4_38 : decode cJ6_bitCount_0f7a4 38 = .ok (.iushr, 1) := by decide +kernel
theorem dJ6_bitCount_0f7a4_39 : decode cJ6_bitCount_0f7a4 39 = .ok (.iadd, 1) := by decide +kernel
theorem dJ6_bitCount_0f7a4_40 : decode cJ6_bitCount_0f7a4 40 = .ok (.istore_n 0, 1) := by decide +kernel
theorem dJ6_bitCount_0f7a4_41 : decode cJ6_bitCount_0f7a4 41 = .ok (.iload_n 0, 1) := by decide +kernel
theorem dJ6_bitCount_0f7a4_42 : decode cJ6_bitCount_0f7a4 42 = .ok (.iload_n 0, 1) := by decide +kernel
theorem dJ6_bitCount_0f7a4_43 : decode cJ6_bitCount_0f7a4 43 = .ok (.bipush 16, 2) := by decide +kernel
theorem dJ6_bitCount_0f7a4_45 : decode cJ6_bitCount_0f7a4 45 = .ok (.iushr, 1) := by decide +kernel
theorem dJ6_bitCount_0f7a4_46 : decode cJ6_bitCount_0f7a4 46 = .ok (.iadd, 1) := by decide +kernel
theorem dJ6_bitCount_0f7a4_47 : decode cJ6_bitCount_0f7a4 47 = .ok (.istore_n 0, 1) := by decide +kernel
theorem dJ6_bitCount_0f7a4_48 : decode cJ6_bitCount_0f7a4 48 = .ok (.iload_n 0, 1) := by decide +kernel
theorem dJ6_bitCount_0f7a4_49 : decode cJ6_bitCount_0f7a4 49 = .ok (.bipush 63, 2) := by decide +kernel
theorem dJ6_bitCount_0f7a4_51 : decode cJ6_bitCount_0f7a4 51 = .ok (.iand, 1) := by decide +kernel
theorem dJ6_bitCount_0f7a4_52 : decode cJ6_bitCount_0f7a4 52 = .ok (.ireturn, 1) := by decide +kernel
theorem dJ9_abs_0f7a4_0 : decode cJ9_abs_0f7a4 0 = .ok (.iload_n 0, 1) := by decide +kernel
theorem dJ9_abs_0f7a4_1 : decode cJ9_abs_0f7a4 1 = .ok (.ifCond .ge 8, 3) := by decide +kernel
theorem dJ9_abs_0f7a4_4 : decode cJ9_abs_0f7a4 4 = .ok (.iload_n 0, 1) := by decide +kernel
theorem dJ9_abs_0f7a4_5 : decode cJ9_abs_0f7a4 5 = .ok (.ineg, 1) := by decide +kernel
theorem dJ9_abs_0f7a4_6 : decode cJ9_abs_0f7a4 6 = .ok (.goto 4, 3) := by decide +kernel
theorem dJ9_abs_0f7a4_9 : decode cJ9_abs_0f7a4 9 = .ok (.iload_n 0, 1) := by decide +kernel
theorem dJ9_abs_0f7a4_10 : decode cJ9_abs_0f7a4 10 = .ok (.ireturn, 1) := by decide +kernel
theorem dJ9_min_7cf53_0 : decode cJ9_min_7cf53 0 = .ok (.iload_n 0, 1) := by decide +kernel
theorem dJ9_min_7cf53_1 : decode cJ9_min_7cf53 1 = .ok (.iload_n 1, 1) := by decide +kernel
theorem dJ9_min_7cf53_2 : decode cJ9_min_7cf53 2 = .ok (.if_icmp .gt 7, 3) := by decide +kernel
theorem dJ9_min_7cf53_5 : decode cJ9_min_7cf53 5 = .ok (.iload_n 0, 1) := by decide +kernel
theorem dJ9_min_7cf53_6 : decode cJ9_min_7cf53 6 = .ok (.goto 4, 3) := by decide +kernel
theorem dJ9_min_7cf53_9 : decode cJ9_min_7cf53 9 = .ok (.iload_n 1, 1) := by decide +kernel
theorem dJ9_min_7cf53_10 : decode cJ9_min_7cf53 10 = .ok (.ireturn, 1) := by decide +kernel
abbrev vwCl : List vw_C := [(RX0, TX0, 9), (RX1, TX1, 3), (RX2, TX2, 16), (RX3, TX3, 5), (RX4, TX4, 4), (RX5, TX5, 2), (RX6, TX6, 7)]
