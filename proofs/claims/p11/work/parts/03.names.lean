/-! ===== BEGIN printed: names, fields, word lists, decode rows ===== -/
def RX0 : String := "NoticeStations$Letter"
def TX0 : u_T := fun k => match k with
  | 0 => ("NoticeStations$Letter", "kind", "I", true)
  | 1 => ("NoticeStations$Letter", "from", "I", true)
  | 2 => ("NoticeStations$Letter", "to", "I", true)
  | 3 => ("NoticeStations$Letter", "number", "I", true)
  | _ => ("NoticeStations$Letter", "standing", "LNoticeStations$Standing;", true)
def tyX0 : Nat → FieldType := fun k => match k with
  | 0 => .int
  | 1 => .int
  | 2 => .int
  | 3 => .int
  | _ => .object "NoticeStations$Standing"
abbrev wsX00 : List Cond := u_ws RX0 TX0 5
theorem nmX0 : ∀ a, a < 5 → ∀ b, b < 5 → a ≠ b → (TX0 a).2.1 ≠ (TX0 b).2.1 := by decide +kernel
theorem tyX0_ok : ∀ k, k < 5 → parseFieldDescriptor (TX0 k).2.2.1 = some (tyX0 k) := by decide +kernel
abbrev cX0_init : ByteArray := prog_2_method_1_code
def yX0_init : MethodName := ⟨RX0, "<init>", "(IIIILNoticeStations$Standing;)V"⟩
abbrev cX0_goesOnFrom : ByteArray := prog_2_method_2_code
def yX0_goesOnFrom : MethodName := ⟨RX0, "goesOnFrom", "(LNoticeStations$Standing;)Z"⟩
abbrev cX0_bookLength : ByteArray := prog_2_method_3_code
def yX0_bookLength : MethodName := ⟨RX0, "bookLength", "()I"⟩
def RX1 : String := "NoticeStations$OpenWrite"
def TX1 : u_T := fun k => match k with
  | 0 => ("NoticeStations$OpenWrite", "number", "I", true)
  | 1 => ("NoticeStations$OpenWrite", "entry", "I", true)
  | 2 => ("NoticeStations$OpenWrite", "granted", "[LNoticeStations$Standing;", true)
  | 3 => ("NoticeStations$OpenWrite", "prepared", "[Z", true)
  | _ => ("NoticeStations$OpenWrite", "next", "LNoticeStations$Standing;", false)
def tyX1 : Nat → FieldType := fun k => match k with
  | 0 => .int
  | 1 => .int
  | 2 => .array (.object "NoticeStations$Standing")
  | 3 => .array .boolean
  | _ => .object "NoticeStations$Standing"
abbrev wsX10 : List Cond := u_ws RX1 TX1 5
theorem nmX1 : ∀ a, a < 5 → ∀ b, b < 5 → a ≠ b → (TX1 a).2.1 ≠ (TX1 b).2.1 := by decide +kernel
theorem tyX1_ok : ∀ k, k < 5 → parseFieldDescriptor (TX1 k).2.2.1 = some (tyX1 k) := by decide +kernel
abbrev cX1_init : ByteArray := prog_3_method_1_code
def yX1_init : MethodName := ⟨RX1, "<init>", "(II)V"⟩
abbrev cX1_isCollecting : ByteArray := prog_3_method_2_code
def yX1_isCollecting : MethodName := ⟨RX1, "isCollecting", "()Z"⟩
abbrev cX1_isOfGroup : ByteArray := prog_3_method_3_code
def yX1_isOfGroup : MethodName := ⟨RX1, "isOfGroup", "(I)Z"⟩
abbrev cX1_awaits : ByteArray := prog_3_method_4_code
def yX1_awaits : MethodName := ⟨RX1, "awaits", "(I)Z"⟩
abbrev cX1_awaited : ByteArray := prog_3_method_5_code
def yX1_awaited : MethodName := ⟨RX1, "awaited", "()I"⟩
abbrev cX1_groupSize : ByteArray := prog_3_method_6_code
def yX1_groupSize : MethodName := ⟨RX1, "groupSize", "()I"⟩
abbrev cX1_leastOfGroup : ByteArray := prog_3_method_7_code
def yX1_leastOfGroup : MethodName := ⟨RX1, "leastOfGroup", "()I"⟩
abbrev cX1_prepareFrom : ByteArray := prog_3_method_8_code
def yX1_prepareFrom : MethodName := ⟨RX1, "prepareFrom", "(LNoticeStations$Standing;I)V"⟩
def RX2 : String := "NoticeStations$Standing"
def TX2 : u_T := fun k => match k with
  | 0 => ("NoticeStations$Standing", "entries", "[I", true)
  | 1 => ("NoticeStations$Standing", "numbers", "[I", true)
  | 2 => ("NoticeStations$Standing", "size", "I", true)
  | _ => ("NoticeStations$Standing", "named", "I", true)
def tyX2 : Nat → FieldType := fun k => match k with
  | 0 => .array .int
  | 1 => .array .int
  | 2 => .int
  | _ => .int
abbrev wsX20 : List Cond := u_ws RX2 TX2 4
theorem nmX2 : ∀ a, a < 4 → ∀ b, b < 4 → a ≠ b → (TX2 a).2.1 ≠ (TX2 b).2.1 := by decide +kernel
theorem tyX2_ok : ∀ k, k < 4 → parseFieldDescriptor (TX2 k).2.2.1 = some (tyX2 k) := by decide +kernel
abbrev cX2_init : ByteArray := prog_4_method_1_code
def yX2_init : MethodName := ⟨RX2, "<init>", "([I[III)V"⟩
abbrev cX2_length : ByteArray := prog_4_method_2_code
def yX2_length : MethodName := ⟨RX2, "length", "()I"⟩
abbrev cX2_hasNoticeAt : ByteArray := prog_4_method_3_code
def yX2_hasNoticeAt : MethodName := ⟨RX2, "hasNoticeAt", "(I)Z"⟩
abbrev cX2_isWithdrawn : ByteArray := prog_4_method_4_code
def yX2_isWithdrawn : MethodName := ⟨RX2, "isWithdrawn", "(I)Z"⟩
abbrev cX2_hasNumber : ByteArray := prog_4_method_5_code
def yX2_hasNumber : MethodName := ⟨RX2, "hasNumber", "(I)Z"⟩
abbrev cX2_goesOnFrom : ByteArray := prog_4_method_6_code
def yX2_goesOnFrom : MethodName := ⟨RX2, "goesOnFrom", "(LNoticeStations$Standing;)Z"⟩
abbrev cX2_followedBy : ByteArray := prog_4_method_7_code
def yX2_followedBy : MethodName := ⟨RX2, "followedBy", "(IIII)LNoticeStations$Standing;"⟩
def RX3 : String := "NoticeStations$Station"
def TX3 : u_T := fun k => match k with
  | 0 => ("NoticeStations$Station", "own", "I", true)
  | 1 => ("NoticeStations$Station", "up", "Z", false)
  | 2 => ("NoticeStations$Station", "stored", "LNoticeStations$Standing;", false)
  | 3 => ("NoticeStations$Station", "began", "I", false)
  | 4 => ("NoticeStations$Station", "preparedNumber", "I", false)
  | 5 => ("NoticeStations$Station", "preparedStanding", "LNoticeStations$Standing;", false)
  | 6 => ("NoticeStations$Station", "lock", "I", false)
  | _ => ("NoticeStations$Station", "open", "LNoticeStations$OpenWrite;", false)
def tyX3 : Nat → FieldType := fun k => match k with
  | 0 => .int
  | 1 => .boolean
  | 2 => .object "NoticeStations$Standing"
  | 3 => .int
  | 4 => .int
  | 5 => .object "NoticeStations$Standing"
  | 6 => .int
  | _ => .object "NoticeStations$OpenWrite"
abbrev wsX30 : List Cond := u_ws RX3 TX3 8
theorem nmX3 : ∀ a, a < 8 → ∀ b, b < 8 → a ≠ b → (TX3 a).2.1 ≠ (TX3 b).2.1 := by decide +kernel
theorem tyX3_ok : ∀ k, k < 8 → parseFieldDescriptor (TX3 k).2.2.1 = some (tyX3 k) := by decide +kernel
abbrev cX3_init : ByteArray := prog_5_method_1_code
def yX3_init : MethodName := ⟨RX3, "<init>", "(ILNoticeStations$Standing;)V"⟩
abbrev cX3_isInDoubt : ByteArray := prog_5_method_2_code
def yX3_isInDoubt : MethodName := ⟨RX3, "isInDoubt", "()Z"⟩
abbrev cX3_isPreparedFor : ByteArray := prog_5_method_3_code
def yX3_isPreparedFor : MethodName := ⟨RX3, "isPreparedFor", "(I)Z"⟩
abbrev cX3_isFree : ByteArray := prog_5_method_4_code
def yX3_isFree : MethodName := ⟨RX3, "isFree", "()Z"⟩
abbrev cX3_forgetWrite : ByteArray := prog_5_method_5_code
def yX3_forgetWrite : MethodName := ⟨RX3, "forgetWrite", "()V"⟩
abbrev cX3_endDoubt : ByteArray := prog_5_method_6_code
def yX3_endDoubt : MethodName := ⟨RX3, "endDoubt", "()V"⟩
abbrev cX3_hasEndedWrite : ByteArray := prog_5_method_7_code
def yX3_hasEndedWrite : MethodName := ⟨RX3, "hasEndedWrite", "(I)Z"⟩
def RX4 : String := "NoticeStations"
def TX4 : u_T := fun k => match k with
  | 0 => ("NoticeStations", "stations", "[LNoticeStations$Station;", true)
  | 1 => ("NoticeStations", "cables", "[I", true)
  | 2 => ("NoticeStations", "row", "Ljava/util/ArrayList;", true)
  | _ => ("NoticeStations", "asIfGranted", "[LNoticeStations$Standing;", true)
def tyX4 : Nat → FieldType := fun k => match k with
  | 0 => .array (.object "NoticeStations$Station")
  | 1 => .array .int
  | 2 => .object "java/util/ArrayList"
  | _ => .array (.object "NoticeStations$Standing")
abbrev wsX40 : List Cond := u_ws RX4 TX4 4
theorem nmX4 : ∀ a, a < 4 → ∀ b, b < 4 → a ≠ b → (TX4 a).2.1 ≠ (TX4 b).2.1 := by decide +kernel
theorem tyX4_ok : ∀ k, k < 4 → parseFieldDescriptor (TX4 k).2.2.1 = some (tyX4 k) := by decide +kernel
abbrev cX4_init : ByteArray := prog_1_method_1_code
def yX4_init : MethodName := ⟨RX4, "<init>", "()V"⟩
abbrev cX4_cable : ByteArray := prog_1_method_2_code
def yX4_cable : MethodName := ⟨RX4, "cable", "(IIZ)Z"⟩
abbrev cX4_write : ByteArray := prog_1_method_3_code
def yX4_write : MethodName := ⟨RX4, "write", "(IIII)I"⟩
abbrev cX4_withdraw : ByteArray := prog_1_method_4_code
def yX4_withdraw : MethodName := ⟨RX4, "withdraw", "(II)I"⟩
abbrev cX4_decide : ByteArray := prog_1_method_5_code
def yX4_decide : MethodName := ⟨RX4, "decide", "(I)Z"⟩
abbrev cX4_giveUp : ByteArray := prog_1_method_6_code
def yX4_giveUp : MethodName := ⟨RX4, "giveUp", "(I)V"⟩
abbrev cX4_resend : ByteArray := prog_1_method_7_code
def yX4_resend : MethodName := ⟨RX4, "resend", "(I)I"⟩
abbrev cX4_unlock : ByteArray := prog_1_method_8_code
def yX4_unlock : MethodName := ⟨RX4, "unlock", "(I)V"⟩
abbrev cX4_ask : ByteArray := prog_1_method_9_code
def yX4_ask : MethodName := ⟨RX4, "ask", "(II)V"⟩
abbrev cX4_stop : ByteArray := prog_1_method_10_code
def yX4_stop : MethodName := ⟨RX4, "stop", "(I)Z"⟩
abbrev cX4_start : ByteArray := prog_1_method_11_code
def yX4_start : MethodName := ⟨RX4, "start", "(I)Z"⟩
abbrev cX4_letters : ByteArray := prog_1_method_12_code
def yX4_letters : MethodName := ⟨RX4, "letters", "()I"⟩
abbrev cX4_deliver : ByteArray := prog_1_method_13_code
def yX4_deliver : MethodName := ⟨RX4, "deliver", "(I)I"⟩
abbrev cX4_lose : ByteArray := prog_1_method_14_code
def yX4_lose : MethodName := ⟨RX4, "lose", "(I)V"⟩
abbrev cX4_twin : ByteArray := prog_1_method_15_code
def yX4_twin : MethodName := ⟨RX4, "twin", "(I)V"⟩
abbrev cX4_letter : ByteArray := prog_1_method_16_code
def yX4_letter : MethodName := ⟨RX4, "letter", "(II)I"⟩
abbrev cX4_count : ByteArray := prog_1_method_17_code
def yX4_count : MethodName := ⟨RX4, "count", "(I)I"⟩
abbrev cX4_entry : ByteArray := prog_1_method_18_code
def yX4_entry : MethodName := ⟨RX4, "entry", "(IIZ)I"⟩
abbrev cX4_about : ByteArray := prog_1_method_19_code
def yX4_about : MethodName := ⟨RX4, "about", "(II)I"⟩
abbrev cX4_allowed : ByteArray := prog_1_method_20_code
def yX4_allowed : MethodName := ⟨RX4, "allowed", "(I)Z"⟩
abbrev cX4_inForce : ByteArray := prog_1_method_21_code
def yX4_inForce : MethodName := ⟨RX4, "inForce", "(III)I"⟩
abbrev cX4_isBelow : ByteArray := prog_1_method_22_code
def yX4_isBelow : MethodName := ⟨RX4, "isBelow", "(II)Z"⟩
abbrev cX4_withdrawalOf : ByteArray := prog_1_method_23_code
def yX4_withdrawalOf : MethodName := ⟨RX4, "withdrawalOf", "(I)I"⟩
abbrev cX4_isOn : ByteArray := prog_1_method_24_code
def yX4_isOn : MethodName := ⟨RX4, "isOn", "(III)Z"⟩
abbrev cX4_stationAt : ByteArray := prog_1_method_25_code
def yX4_stationAt : MethodName := ⟨RX4, "stationAt", "(I)LNoticeStations$Station;"⟩
abbrev cX4_requireTwoStations : ByteArray := prog_1_method_26_code
def yX4_requireTwoStations : MethodName := ⟨RX4, "requireTwoStations", "(II)V"⟩
abbrev cX4_requireLetter : ByteArray := prog_1_method_27_code
def yX4_requireLetter : MethodName := ⟨RX4, "requireLetter", "(I)V"⟩
abbrev cX4_letterAt : ByteArray := prog_1_method_28_code
def yX4_letterAt : MethodName := ⟨RX4, "letterAt", "(I)LNoticeStations$Letter;"⟩
abbrev cX4_openWriteOf : ByteArray := prog_1_method_29_code
def yX4_openWriteOf : MethodName := ⟨RX4, "openWriteOf", "(LNoticeStations$Station;)LNoticeStations$OpenWrite;"⟩
abbrev cX4_requireRoomFor : ByteArray := prog_1_method_30_code
def yX4_requireRoomFor : MethodName := ⟨RX4, "requireRoomFor", "(I)V"⟩
abbrev cX4_send : ByteArray := prog_1_method_31_code
def yX4_send : MethodName := ⟨RX4, "send", "(IIIILNoticeStations$Standing;)V"⟩
abbrev cX4_sendBack : ByteArray := prog_1_method_32_code
def yX4_sendBack : MethodName := ⟨RX4, "sendBack", "(ILNoticeStations$Letter;LNoticeStations$Standing;)V"⟩
abbrev cX4_areInOnePiece : ByteArray := prog_1_method_33_code
def yX4_areInOnePiece : MethodName := ⟨RX4, "areInOnePiece", "(II)Z"⟩
abbrev cX4_beginWrite : ByteArray := prog_1_method_34_code
def yX4_beginWrite : MethodName := ⟨RX4, "beginWrite", "(LNoticeStations$Station;I)I"⟩
abbrev cX4_heldByHolders : ByteArray := prog_1_method_35_code
def yX4_heldByHolders : MethodName := ⟨RX4, "heldByHolders", "([LNoticeStations$Standing;)LNoticeStations$Standing;"⟩
abbrev cX4_mayGoOn : ByteArray := prog_1_method_36_code
def yX4_mayGoOn : MethodName := ⟨RX4, "mayGoOn", "([LNoticeStations$Standing;LNoticeStations$Standing;)Z"⟩
abbrev cX4_sendAwaited : ByteArray := prog_1_method_37_code
def yX4_sendAwaited : MethodName := ⟨RX4, "sendAwaited", "(LNoticeStations$Station;LNoticeStations$OpenWrite;)V"⟩
abbrev cX4_commitIfAllPrepared : ByteArray := prog_1_method_38_code
def yX4_commitIfAllPrepared : MethodName := ⟨RX4, "commitIfAllPrepared", "(LNoticeStations$Station;LNoticeStations$OpenWrite;)V"⟩
abbrev cX4_answersTo : ByteArray := prog_1_method_39_code
def yX4_answersTo : MethodName := ⟨RX4, "answersTo", "(LNoticeStations$Letter;LNoticeStations$Station;)I"⟩
abbrev cX4_openWriteFor : ByteArray := prog_1_method_40_code
def yX4_openWriteFor : MethodName := ⟨RX4, "openWriteFor", "(LNoticeStations$Letter;LNoticeStations$Station;)LNoticeStations$OpenWrite;"⟩
abbrev cX4_take : ByteArray := prog_1_method_41_code
def yX4_take : MethodName := ⟨RX4, "take", "(LNoticeStations$Letter;LNoticeStations$Station;)V"⟩
abbrev cX4_takeLock : ByteArray := prog_1_method_42_code
def yX4_takeLock : MethodName := ⟨RX4, "takeLock", "(LNoticeStations$Letter;LNoticeStations$Station;)V"⟩
abbrev cX4_takeGrant : ByteArray := prog_1_method_43_code
def yX4_takeGrant : MethodName := ⟨RX4, "takeGrant", "(LNoticeStations$Letter;LNoticeStations$Station;)V"⟩
abbrev cX4_takePrepare : ByteArray := prog_1_method_44_code
def yX4_takePrepare : MethodName := ⟨RX4, "takePrepare", "(LNoticeStations$Letter;LNoticeStations$Station;)V"⟩
abbrev cX4_takePrepared : ByteArray := prog_1_method_45_code
def yX4_takePrepared : MethodName := ⟨RX4, "takePrepared", "(LNoticeStations$Letter;LNoticeStations$Station;)V"⟩
abbrev cX4_takeCommit : ByteArray := prog_1_method_46_code
def yX4_takeCommit : MethodName := ⟨RX4, "takeCommit", "(LNoticeStations$Letter;LNoticeStations$Station;)V"⟩
abbrev cX4_takeAbort : ByteArray := prog_1_method_47_code
def yX4_takeAbort : MethodName := ⟨RX4, "takeAbort", "(LNoticeStations$Letter;LNoticeStations$Station;)V"⟩
abbrev cX4_takeAsk : ByteArray := prog_1_method_48_code
def yX4_takeAsk : MethodName := ⟨RX4, "takeAsk", "(LNoticeStations$Letter;LNoticeStations$Station;)V"⟩
def RX5 : String := "NoticeStationsModel"
def TX5 : u_T := fun k => match k with
  | 0 => ("NoticeStationsModel", "thrown", "I", false)
  | 1 => ("NoticeStationsModel", "states", "I", false)
  | 2 => ("NoticeStationsModel", "length", "[I", false)
  | 3 => ("NoticeStationsModel", "earlier", "[I", false)
  | 4 => ("NoticeStationsModel", "entryOf", "[I", false)
  | 5 => ("NoticeStationsModel", "writeOf", "[I", false)
  | 6 => ("NoticeStationsModel", "sizeOf", "[I", false)
  | 7 => ("NoticeStationsModel", "namedOf", "[I", false)
  | 8 => ("NoticeStationsModel", "state", "[I", true)
  | 9 => ("NoticeStationsModel", "began", "[I", true)
  | 10 => ("NoticeStationsModel", "preparedFor", "[I", true)
  | 11 => ("NoticeStationsModel", "preparedState", "[I", true)
  | 12 => ("NoticeStationsModel", "stopped", "[Z", true)
  | 13 => ("NoticeStationsModel", "lock", "[I", true)
  | 14 => ("NoticeStationsModel", "open", "[I", true)
  | 15 => ("NoticeStationsModel", "openEntry", "[I", true)
  | 16 => ("NoticeStationsModel", "made", "[I", true)
  | 17 => ("NoticeStationsModel", "group", "[I", true)
  | 18 => ("NoticeStationsModel", "done", "[I", true)
  | 19 => ("NoticeStationsModel", "granted", "[I", true)
  | 20 => ("NoticeStationsModel", "torn", "[Z", true)
  | 21 => ("NoticeStationsModel", "mark", "[I", true)
  | 22 => ("NoticeStationsModel", "letters", "I", false)
  | 23 => ("NoticeStationsModel", "kind", "[I", true)
  | 24 => ("NoticeStationsModel", "from", "[I", true)
  | 25 => ("NoticeStationsModel", "to", "[I", true)
  | 26 => ("NoticeStationsModel", "write", "[I", true)
  | 27 => ("NoticeStationsModel", "with", "[I", true)
  | _ => ("NoticeStationsModel", "asked", "[I", true)
def tyX5 : Nat → FieldType := fun k => match k with
  | 0 => .int
  | 1 => .int
  | 2 => .array .int
  | 3 => .array .int
  | 4 => .array .int
  | 5 => .array .int
  | 6 => .array .int
  | 7 => .array .int
  | 8 => .array .int
  | 9 => .array .int
  | 10 => .array .int
  | 11 => .array .int
  | 12 => .array .boolean
  | 13 => .array .int
  | 14 => .array .int
  | 15 => .array .int
  | 16 => .array .int
  | 17 => .array .int
  | 18 => .array .int
  | 19 => .array .int
  | 20 => .array .boolean
  | 21 => .array .int
  | 22 => .int
  | 23 => .array .int
  | 24 => .array .int
  | 25 => .array .int
  | 26 => .array .int
  | 27 => .array .int
  | _ => .array .int
abbrev wsX50 : List Cond := u_ws RX5 TX5 29
theorem nmX5 : ∀ a, a < 29 → ∀ b, b < 29 → a ≠ b → (TX5 a).2.1 ≠ (TX5 b).2.1 := by decide +kernel
theorem tyX5_ok : ∀ k, k < 29 → parseFieldDescriptor (TX5 k).2.2.1 = some (tyX5 k) := by decide +kernel
abbrev cX5_init : ByteArray := prog_7_method_1_code
def yX5_init : MethodName := ⟨RX5, "<init>", "()V"⟩
abbrev cX5_thrown : ByteArray := prog_7_method_2_code
def yX5_thrown : MethodName := ⟨RX5, "thrown", "()I"⟩
abbrev cX5_isOne : ByteArray := prog_7_method_3_code
def yX5_isOne : MethodName := ⟨RX5, "isOne", "(I)Z"⟩
abbrev cX5_has : ByteArray := prog_7_method_4_code
def yX5_has : MethodName := ⟨RX5, "has", "(II)Z"⟩
abbrev cX5_many : ByteArray := prog_7_method_5_code
def yX5_many : MethodName := ⟨RX5, "many", "(I)I"⟩
abbrev cX5_isFree : ByteArray := prog_7_method_6_code
def yX5_isFree : MethodName := ⟨RX5, "isFree", "(I)Z"⟩
abbrev cX5_back : ByteArray := prog_7_method_7_code
def yX5_back : MethodName := ⟨RX5, "back", "(II)I"⟩
abbrev cX5_contains : ByteArray := prog_7_method_8_code
def yX5_contains : MethodName := ⟨RX5, "contains", "(II)Z"⟩
abbrev cX5_isNotice : ByteArray := prog_7_method_9_code
def yX5_isNotice : MethodName := ⟨RX5, "isNotice", "(II)Z"⟩
abbrev cX5_isFull : ByteArray := prog_7_method_10_code
def yX5_isFull : MethodName := ⟨RX5, "isFull", "(I)Z"⟩
abbrev cX5_send : ByteArray := prog_7_method_11_code
def yX5_send : MethodName := ⟨RX5, "send", "(IIIII)V"⟩
abbrev cX5_remove : ByteArray := prog_7_method_12_code
def yX5_remove : MethodName := ⟨RX5, "remove", "(I)V"⟩
abbrev cX5_sendAll : ByteArray := prog_7_method_13_code
def yX5_sendAll : MethodName := ⟨RX5, "sendAll", "(IIIII)V"⟩
abbrev cX5_cable : ByteArray := prog_7_method_14_code
def yX5_cable : MethodName := ⟨RX5, "cable", "(IIZ)Z"⟩
abbrev cX5_isJoined : ByteArray := prog_7_method_15_code
def yX5_isJoined : MethodName := ⟨RX5, "isJoined", "(II)Z"⟩
abbrev cX5_begin : ByteArray := prog_7_method_16_code
def yX5_begin : MethodName := ⟨RX5, "begin", "(II)I"⟩
abbrev cX5_write : ByteArray := prog_7_method_17_code
def yX5_write : MethodName := ⟨RX5, "write", "(IIII)I"⟩
abbrev cX5_withdraw : ByteArray := prog_7_method_18_code
def yX5_withdraw : MethodName := ⟨RX5, "withdraw", "(II)I"⟩
abbrev cX5_greatest : ByteArray := prog_7_method_19_code
def yX5_greatest : MethodName := ⟨RX5, "greatest", "()I"⟩
abbrev cX5_mayGoOn : ByteArray := prog_7_method_20_code
def yX5_mayGoOn : MethodName := ⟨RX5, "mayGoOn", "()Z"⟩
abbrev cX5_askGranted : ByteArray := prog_7_method_21_code
def yX5_askGranted : MethodName := ⟨RX5, "askGranted", "(I)V"⟩
abbrev cX5_longer : ByteArray := prog_7_method_22_code
def yX5_longer : MethodName := ⟨RX5, "longer", "([I)[I"⟩
abbrev cX5_decide : ByteArray := prog_7_method_23_code
def yX5_decide : MethodName := ⟨RX5, "decide", "(I)Z"⟩
abbrev cX5_finish : ByteArray := prog_7_method_24_code
def yX5_finish : MethodName := ⟨RX5, "finish", "(I)V"⟩
abbrev cX5_giveUp : ByteArray := prog_7_method_25_code
def yX5_giveUp : MethodName := ⟨RX5, "giveUp", "(I)V"⟩
abbrev cX5_resend : ByteArray := prog_7_method_26_code
def yX5_resend : MethodName := ⟨RX5, "resend", "(I)I"⟩
abbrev cX5_unlock : ByteArray := prog_7_method_27_code
def yX5_unlock : MethodName := ⟨RX5, "unlock", "(I)V"⟩
abbrev cX5_ask : ByteArray := prog_7_method_28_code
def yX5_ask : MethodName := ⟨RX5, "ask", "(II)V"⟩
abbrev cX5_stop : ByteArray := prog_7_method_29_code
def yX5_stop : MethodName := ⟨RX5, "stop", "(I)Z"⟩
abbrev cX5_start : ByteArray := prog_7_method_30_code
def yX5_start : MethodName := ⟨RX5, "start", "(I)Z"⟩
abbrev cX5_letters : ByteArray := prog_7_method_31_code
def yX5_letters : MethodName := ⟨RX5, "letters", "()I"⟩
abbrev cX5_isLetter : ByteArray := prog_7_method_32_code
def yX5_isLetter : MethodName := ⟨RX5, "isLetter", "(I)Z"⟩
abbrev cX5_counts : ByteArray := prog_7_method_33_code
def yX5_counts : MethodName := ⟨RX5, "counts", "(I)Z"⟩
abbrev cX5_work : ByteArray := prog_7_method_34_code
def yX5_work : MethodName := ⟨RX5, "work", "(IIIII)V"⟩
abbrev cX5_end : ByteArray := prog_7_method_35_code
def yX5_end : MethodName := ⟨RX5, "end", "(IIZ)V"⟩
abbrev cX5_answer : ByteArray := prog_7_method_36_code
def yX5_answer : MethodName := ⟨RX5, "answer", "(IIII)V"⟩
abbrev cX5_deliver : ByteArray := prog_7_method_37_code
def yX5_deliver : MethodName := ⟨RX5, "deliver", "(I)I"⟩
abbrev cX5_lose : ByteArray := prog_7_method_38_code
def yX5_lose : MethodName := ⟨RX5, "lose", "(I)V"⟩
abbrev cX5_twin : ByteArray := prog_7_method_39_code
def yX5_twin : MethodName := ⟨RX5, "twin", "(I)V"⟩
abbrev cX5_letter : ByteArray := prog_7_method_40_code
def yX5_letter : MethodName := ⟨RX5, "letter", "(II)I"⟩
abbrev cX5_count : ByteArray := prog_7_method_41_code
def yX5_count : MethodName := ⟨RX5, "count", "(I)I"⟩
abbrev cX5_entry : ByteArray := prog_7_method_42_code
def yX5_entry : MethodName := ⟨RX5, "entry", "(IIZ)I"⟩
abbrev cX5_about : ByteArray := prog_7_method_43_code
def yX5_about : MethodName := ⟨RX5, "about", "(II)I"⟩
abbrev cX5_allowed : ByteArray := prog_7_method_44_code
def yX5_allowed : MethodName := ⟨RX5, "allowed", "(I)Z"⟩
abbrev cX5_inForce : ByteArray := prog_7_method_45_code
def yX5_inForce : MethodName := ⟨RX5, "inForce", "(III)I"⟩
def RJx145de : String := "java/io/Serializable"
def TJx145de : u_T := fun k => match k with
  | _ => ("", "", "", false)
def tyJx145de : Nat → FieldType := fun k => match k with
  | _ => .int
abbrev wsJx145de0 : List Cond := u_ws RJx145de TJx145de 0
theorem nmJx145de : ∀ a, a < 0 → ∀ b, b < 0 → a ≠ b → (TJx145de a).2.1 ≠ (TJx145de b).2.1 := by decide +kernel
theorem tyJx145de_ok : ∀ k, k < 0 → parseFieldDescriptor (TJx145de k).2.2.1 = some (tyJx145de k) := by decide +kernel
def RJx8e188 : String := "java/lang/Cloneable"
def TJx8e188 : u_T := fun k => match k with
  | _ => ("", "", "", false)
def tyJx8e188 : Nat → FieldType := fun k => match k with
  | _ => .int
abbrev wsJx8e1880 : List Cond := u_ws RJx8e188 TJx8e188 0
theorem nmJx8e188 : ∀ a, a < 0 → ∀ b, b < 0 → a ≠ b → (TJx8e188 a).2.1 ≠ (TJx8e188 b).2.1 := by decide +kernel
theorem tyJx8e188_ok : ∀ k, k < 0 → parseFieldDescriptor (TJx8e188 k).2.2.1 = some (tyJx8e188 k) := by decide +kernel
def RJxab1ab : String := "java/lang/Iterable"
def TJxab1ab : u_T := fun k => match k with
  | _ => ("", "", "", false)
def tyJxab1ab : Nat → FieldType := fun k => match k with
  | _ => .int
abbrev wsJxab1ab0 : List Cond := u_ws RJxab1ab TJxab1ab 0
theorem nmJxab1ab : ∀ a, a < 0 → ∀ b, b < 0 → a ≠ b → (TJxab1ab a).2.1 ≠ (TJxab1ab b).2.1 := by decide +kernel
theorem tyJxab1ab_ok : ∀ k, k < 0 → parseFieldDescriptor (TJxab1ab k).2.2.1 = some (tyJxab1ab k) := by decide +kernel
def RJ9 : String := "java/lang/Math"
def TJ9 : u_T := fun k => match k with
  | _ => ("", "", "", false)
def tyJ9 : Nat → FieldType := fun k => match k with
  | _ => .int
abbrev wsJ90 : List Cond := u_ws RJ9 TJ9 0
theorem nmJ9 : ∀ a, a < 0 → ∀ b, b < 0 → a ≠ b → (TJ9 a).2.1 ≠ (TJ9 b).2.1 := by decide +kernel
theorem tyJ9_ok : ∀ k, k < 0 → parseFieldDescriptor (TJ9 k).2.2.1 = some (tyJ9 k) := by decide +kernel
abbrev cJ9_max_7cf53 : ByteArray := prog_15_method_65_code
def yJ9_max_7cf53 : MethodName := ⟨RJ9, "max", "(II)I"⟩
abbrev cJ9_min_7cf53 : ByteArray := prog_15_method_69_code
def yJ9_min_7cf53 : MethodName := ⟨RJ9, "min", "(II)I"⟩
def RJ0 : String := "java/lang/String"
def TJ0 : u_T := fun k => match k with
  | _ => ("", "", "", false)
def tyJ0 : Nat → FieldType := fun k => match k with
  | _ => .int
abbrev wsJ00 : List Cond := u_ws RJ0 TJ0 0
theorem nmJ0 : ∀ a, a < 0 → ∀ b, b < 0 → a ≠ b → (TJ0 a).2.1 ≠ (TJ0 b).2.1 := by decide +kernel
theorem tyJ0_ok : ∀ k, k < 0 → parseFieldDescriptor (TJ0 k).2.2.1 = some (tyJ0 k) := by decide +kernel
def RJ10 : String := "java/lang/System"
def TJ10 : u_T := fun k => match k with
  | _ => ("", "", "", false)
def tyJ10 : Nat → FieldType := fun k => match k with
  | _ => .int
abbrev wsJ100 : List Cond := u_ws RJ10 TJ10 0
theorem nmJ10 : ∀ a, a < 0 → ∀ b, b < 0 → a ≠ b → (TJ10 a).2.1 ≠ (TJ10 b).2.1 := by decide +kernel
theorem tyJ10_ok : ∀ k, k < 0 → parseFieldDescriptor (TJ10 k).2.2.1 = some (tyJ10 k) := by decide +kernel
def RJxa1e45 : String := "java/util/AbstractCollection"
def TJxa1e45 : u_T := fun k => match k with
  | _ => ("", "", "", false)
def tyJxa1e45 : Nat → FieldType := fun k => match k with
  | _ => .int
abbrev wsJxa1e450 : List Cond := u_ws RJxa1e45 TJxa1e45 0
theorem nmJxa1e45 : ∀ a, a < 0 → ∀ b, b < 0 → a ≠ b → (TJxa1e45 a).2.1 ≠ (TJxa1e45 b).2.1 := by decide +kernel
theorem tyJxa1e45_ok : ∀ k, k < 0 → parseFieldDescriptor (TJxa1e45 k).2.2.1 = some (tyJxa1e45 k) := by decide +kernel
abbrev cJxa1e45_init_da8c8 : ByteArray := prog_21_method_1_code
def yJxa1e45_init_da8c8 : MethodName := ⟨RJxa1e45, "<init>", "()V"⟩
def RJxc12de : String := "java/util/AbstractList"
def TJxc12de : u_T := fun k => match k with
  | _ => ("", "", "", false)
def tyJxc12de : Nat → FieldType := fun k => match k with
  | _ => .int
abbrev wsJxc12de0 : List Cond := u_ws RJxc12de TJxc12de 0
theorem nmJxc12de : ∀ a, a < 0 → ∀ b, b < 0 → a ≠ b → (TJxc12de a).2.1 ≠ (TJxc12de b).2.1 := by decide +kernel
theorem tyJxc12de_ok : ∀ k, k < 0 → parseFieldDescriptor (TJxc12de k).2.2.1 = some (tyJxc12de k) := by decide +kernel
abbrev cJxc12de_init_da8c8 : ByteArray := prog_22_method_1_code
def yJxc12de_init_da8c8 : MethodName := ⟨RJxc12de, "<init>", "()V"⟩
def RJx4a65c : String := "java/util/ArrayList"
def TJx4a65c : u_T := fun k => match k with
  | 0 => ("java/util/AbstractList", "modCount", "I", false)
  | 1 => ("java/util/ArrayList", "elementData", "[Ljava/lang/Object;", false)
  | _ => ("java/util/ArrayList", "size", "I", false)
def tyJx4a65c : Nat → FieldType := fun k => match k with
  | 0 => .int
  | 1 => .array (.object "java/lang/Object")
  | _ => .int
abbrev wsJx4a65c0 : List Cond := u_ws RJx4a65c TJx4a65c 3
theorem nmJx4a65c : ∀ a, a < 3 → ∀ b, b < 3 → a ≠ b → (TJx4a65c a).2.1 ≠ (TJx4a65c b).2.1 := by decide +kernel
theorem tyJx4a65c_ok : ∀ k, k < 3 → parseFieldDescriptor (TJx4a65c k).2.2.1 = some (tyJx4a65c k) := by decide +kernel
abbrev cJx4a65c_init_da8c8 : ByteArray := prog_23_method_2_code
def yJx4a65c_init_da8c8 : MethodName := ⟨RJx4a65c, "<init>", "()V"⟩
abbrev cJx4a65c_grow_92f84 : ByteArray := prog_23_method_6_code
def yJx4a65c_grow_92f84 : MethodName := ⟨RJx4a65c, "grow", "(I)[Ljava/lang/Object;"⟩
abbrev cJx4a65c_grow_d5877 : ByteArray := prog_23_method_7_code
def yJx4a65c_grow_d5877 : MethodName := ⟨RJx4a65c, "grow", "()[Ljava/lang/Object;"⟩
abbrev cJx4a65c_size_8abf5 : ByteArray := prog_23_method_8_code
def yJx4a65c_size_8abf5 : MethodName := ⟨RJx4a65c, "size", "()I"⟩
abbrev cJx4a65c_elementData_915e3 : ByteArray := prog_23_method_18_code
def yJx4a65c_elementData_915e3 : MethodName := ⟨RJx4a65c, "elementData", "(I)Ljava/lang/Object;"⟩
abbrev cJx4a65c_get_915e3 : ByteArray := prog_23_method_20_code
def yJx4a65c_get_915e3 : MethodName := ⟨RJx4a65c, "get", "(I)Ljava/lang/Object;"⟩
abbrev cJx4a65c_add_72be8 : ByteArray := prog_23_method_24_code
def yJx4a65c_add_72be8 : MethodName := ⟨RJx4a65c, "add", "(Ljava/lang/Object;[Ljava/lang/Object;I)V"⟩
abbrev cJx4a65c_add_9ea2d : ByteArray := prog_23_method_25_code
def yJx4a65c_add_9ea2d : MethodName := ⟨RJx4a65c, "add", "(Ljava/lang/Object;)Z"⟩
abbrev cJx4a65c_remove_915e3 : ByteArray := prog_23_method_29_code
def yJx4a65c_remove_915e3 : MethodName := ⟨RJx4a65c, "remove", "(I)Ljava/lang/Object;"⟩
abbrev cJx4a65c_fastRemove_b59b0 : ByteArray := prog_23_method_39_code
def yJx4a65c_fastRemove_b59b0 : MethodName := ⟨RJx4a65c, "fastRemove", "([Ljava/lang/Object;I)V"⟩
def RJ7 : String := "java/util/Arrays"
def TJ7 : u_T := fun k => match k with
  | _ => ("", "", "", false)
def tyJ7 : Nat → FieldType := fun k => match k with
  | _ => .int
abbrev wsJ70 : List Cond := u_ws RJ7 TJ7 0
theorem nmJ7 : ∀ a, a < 0 → ∀ b, b < 0 → a ≠ b → (TJ7 a).2.1 ≠ (TJ7 b).2.1 := by decide +kernel
theorem tyJ7_ok : ∀ k, k < 0 → parseFieldDescriptor (TJ7 k).2.2.1 = some (tyJ7 k) := by decide +kernel
abbrev cJ7_copyOf_1904c : ByteArray := prog_24_method_119_code
def yJ7_copyOf_1904c : MethodName := ⟨RJ7, "copyOf", "([Ljava/lang/Object;I)[Ljava/lang/Object;"⟩
abbrev cJ7_copyOf_6403c : ByteArray := prog_24_method_120_code
def yJ7_copyOf_6403c : MethodName := ⟨RJ7, "copyOf", "([Ljava/lang/Object;ILjava/lang/Class;)[Ljava/lang/Object;"⟩
abbrev cJ7_copyOf_59c91 : ByteArray := prog_24_method_123_code
def yJ7_copyOf_59c91 : MethodName := ⟨RJ7, "copyOf", "([II)[I"⟩
def RJx5ef63 : String := "java/util/Collection"
def TJx5ef63 : u_T := fun k => match k with
  | _ => ("", "", "", false)
def tyJx5ef63 : Nat → FieldType := fun k => match k with
  | _ => .int
abbrev wsJx5ef630 : List Cond := u_ws RJx5ef63 TJx5ef63 0
theorem nmJx5ef63 : ∀ a, a < 0 → ∀ b, b < 0 → a ≠ b → (TJx5ef63 a).2.1 ≠ (TJx5ef63 b).2.1 := by decide +kernel
theorem tyJx5ef63_ok : ∀ k, k < 0 → parseFieldDescriptor (TJx5ef63 k).2.2.1 = some (tyJx5ef63 k) := by decide +kernel
def RJxbd725 : String := "java/util/List"
def TJxbd725 : u_T := fun k => match k with
  | _ => ("", "", "", false)
def tyJxbd725 : Nat → FieldType := fun k => match k with
  | _ => .int
abbrev wsJxbd7250 : List Cond := u_ws RJxbd725 TJxbd725 0
theorem nmJxbd725 : ∀ a, a < 0 → ∀ b, b < 0 → a ≠ b → (TJxbd725 a).2.1 ≠ (TJxbd725 b).2.1 := by decide +kernel
theorem tyJxbd725_ok : ∀ k, k < 0 → parseFieldDescriptor (TJxbd725 k).2.2.1 = some (tyJxbd725 k) := by decide +kernel
def RJ15 : String := "java/util/Objects"
def TJ15 : u_T := fun k => match k with
  | _ => ("", "", "", false)
def tyJ15 : Nat → FieldType := fun k => match k with
  | _ => .int
abbrev wsJ150 : List Cond := u_ws RJ15 TJ15 0
theorem nmJ15 : ∀ a, a < 0 → ∀ b, b < 0 → a ≠ b → (TJ15 a).2.1 ≠ (TJ15 b).2.1 := by decide +kernel
theorem tyJ15_ok : ∀ k, k < 0 → parseFieldDescriptor (TJ15 k).2.2.1 = some (tyJ15 k) := by decide +kernel
abbrev cJ15_checkIndex_7cf53 : ByteArray := prog_28_method_17_code
def yJ15_checkIndex_7cf53 : MethodName := ⟨RJ15, "checkIndex", "(II)I"⟩
def RJxf0a74 : String := "java/util/RandomAccess"
def TJxf0a74 : u_T := fun k => match k with
  | _ => ("", "", "", false)
def tyJxf0a74 : Nat → FieldType := fun k => match k with
  | _ => .int
abbrev wsJxf0a740 : List Cond := u_ws RJxf0a74 TJxf0a74 0
theorem nmJxf0a74 : ∀ a, a < 0 → ∀ b, b < 0 → a ≠ b → (TJxf0a74 a).2.1 ≠ (TJxf0a74 b).2.1 := by decide +kernel
theorem tyJxf0a74_ok : ∀ k, k < 0 → parseFieldDescriptor (TJxf0a74 k).2.2.1 = some (tyJxf0a74 k) := by decide +kernel
def RJxa66e6 : String := "java/util/SequencedCollection"
def TJxa66e6 : u_T := fun k => match k with
  | _ => ("", "", "", false)
def tyJxa66e6 : Nat → FieldType := fun k => match k with
  | _ => .int
abbrev wsJxa66e60 : List Cond := u_ws RJxa66e6 TJxa66e6 0
theorem nmJxa66e6 : ∀ a, a < 0 → ∀ b, b < 0 → a ≠ b → (TJxa66e6 a).2.1 ≠ (TJxa66e6 b).2.1 := by decide +kernel
theorem tyJxa66e6_ok : ∀ k, k < 0 → parseFieldDescriptor (TJxa66e6 k).2.2.1 = some (tyJxa66e6 k) := by decide +kernel
def RJ8 : String := "jdk/internal/util/ArraysSupport"
def TJ8 : u_T := fun k => match k with
  | _ => ("", "", "", false)
def tyJ8 : Nat → FieldType := fun k => match k with
  | _ => .int
abbrev wsJ80 : List Cond := u_ws RJ8 TJ8 0
theorem nmJ8 : ∀ a, a < 0 → ∀ b, b < 0 → a ≠ b → (TJ8 a).2.1 ≠ (TJ8 b).2.1 := by decide +kernel
theorem tyJ8_ok : ∀ k, k < 0 → parseFieldDescriptor (TJ8 k).2.2.1 = some (tyJ8 k) := by decide +kernel
abbrev cJ8_newLength_cabcc : ByteArray := prog_31_method_27_code
def yJ8_newLength_cabcc : MethodName := ⟨RJ8, "newLength", "(III)I"⟩
abbrev cJ8_hugeLength_7cf53 : ByteArray := prog_31_method_28_code
def yJ8_hugeLength_7cf53 : MethodName := ⟨RJ8, "hugeLength", "(II)I"⟩
def RJ3 : String := "jdk/internal/util/Preconditions"
def TJ3 : u_T := fun k => match k with
  | _ => ("", "", "", false)
def tyJ3 : Nat → FieldType := fun k => match k with
  | _ => .int
abbrev wsJ30 : List Cond := u_ws RJ3 TJ3 0
theorem nmJ3 : ∀ a, a < 0 → ∀ b, b < 0 → a ≠ b → (TJ3 a).2.1 ≠ (TJ3 b).2.1 := by decide +kernel
theorem tyJ3_ok : ∀ k, k < 0 → parseFieldDescriptor (TJ3 k).2.2.1 = some (tyJ3 k) := by decide +kernel
abbrev cJ3_checkIndex_8e157 : ByteArray := prog_32_method_11_code
def yJ3_checkIndex_8e157 : MethodName := ⟨RJ3, "checkIndex", "(IILjava/util/function/BiFunction;)I"⟩
def RL : String := "NoticeStationsLaw"
abbrev cL_cable : ByteArray := method_3_code
def yL_cable : MethodName := ⟨RL, "cable", "(LNoticeStations;IIZ[J)I"⟩
abbrev cL_write : ByteArray := method_4_code
def yL_write : MethodName := ⟨RL, "write", "(LNoticeStations;IIII[J)I"⟩
abbrev cL_withdraw : ByteArray := method_5_code
def yL_withdraw : MethodName := ⟨RL, "withdraw", "(LNoticeStations;II[J)I"⟩
abbrev cL_decide : ByteArray := method_6_code
def yL_decide : MethodName := ⟨RL, "decide", "(LNoticeStations;I[J)I"⟩
abbrev cL_giveUp : ByteArray := method_7_code
def yL_giveUp : MethodName := ⟨RL, "giveUp", "(LNoticeStations;I)I"⟩
abbrev cL_resend : ByteArray := method_8_code
def yL_resend : MethodName := ⟨RL, "resend", "(LNoticeStations;I[J)I"⟩
abbrev cL_unlock : ByteArray := method_9_code
def yL_unlock : MethodName := ⟨RL, "unlock", "(LNoticeStations;I)I"⟩
abbrev cL_ask : ByteArray := method_10_code
def yL_ask : MethodName := ⟨RL, "ask", "(LNoticeStations;II)I"⟩
abbrev cL_stop : ByteArray := method_11_code
def yL_stop : MethodName := ⟨RL, "stop", "(LNoticeStations;I[J)I"⟩
abbrev cL_start : ByteArray := method_12_code
def yL_start : MethodName := ⟨RL, "start", "(LNoticeStations;I[J)I"⟩
abbrev cL_deliver : ByteArray := method_13_code
def yL_deliver : MethodName := ⟨RL, "deliver", "(LNoticeStations;I[J)I"⟩
abbrev cL_lose : ByteArray := method_14_code
def yL_lose : MethodName := ⟨RL, "lose", "(LNoticeStations;I)I"⟩
abbrev cL_twin : ByteArray := method_15_code
def yL_twin : MethodName := ⟨RL, "twin", "(LNoticeStations;I)I"⟩
abbrev cL_letter : ByteArray := method_16_code
def yL_letter : MethodName := ⟨RL, "letter", "(LNoticeStations;II[J)I"⟩
abbrev cL_count : ByteArray := method_17_code
def yL_count : MethodName := ⟨RL, "count", "(LNoticeStations;I[J)I"⟩
abbrev cL_entry : ByteArray := method_18_code
def yL_entry : MethodName := ⟨RL, "entry", "(LNoticeStations;IIZ[J)I"⟩
abbrev cL_about : ByteArray := method_19_code
def yL_about : MethodName := ⟨RL, "about", "(LNoticeStations;II[J)I"⟩
abbrev cL_allowed : ByteArray := method_20_code
def yL_allowed : MethodName := ⟨RL, "allowed", "(LNoticeStations;I[J)I"⟩
abbrev cL_inForce : ByteArray := method_21_code
def yL_inForce : MethodName := ⟨RL, "inForce", "(LNoticeStations;III[J)I"⟩
abbrev cL_law : ByteArray := code
def yL_law : MethodName := ⟨RL, "law", "([I)Z"⟩
