def RX0 : String := "CottageWeeks$History"
def TX0 : u_T := fun k => match k with
  | 0 => ("CottageWeeks$History", "rows", "[LCottageWeeks$House;", true)
  | 1 => ("CottageWeeks$History", "oldest", "I", false)
  | _ => ("CottageWeeks$History", "count", "I", false)
def tyX0 : Nat → FieldType := fun k => match k with
  | 0 => .array (.object "CottageWeeks$House")
  | 1 => .int
  | _ => .int
theorem nmX0 : ∀ a, a < 3 → ∀ b, b < 3 → a ≠ b → (TX0 a).2.1 ≠ (TX0 b).2.1 := by decide +kernel
theorem tyX0_ok : ∀ k, k < 3 → parseFieldDescriptor (TX0 k).2.2.1 = some (tyX0 k) := by decide +kernel
abbrev cX0_init : ByteArray := prog_2_method_1_code
def yX0_init : MethodName := ⟨RX0, "<init>", "()V"⟩
abbrev cX0_isEmpty : ByteArray := prog_2_method_2_code
def yX0_isEmpty : MethodName := ⟨RX0, "isEmpty", "()Z"⟩
abbrev cX0_forget : ByteArray := prog_2_method_3_code
def yX0_forget : MethodName := ⟨RX0, "forget", "()V"⟩
abbrev cX0_remember : ByteArray := prog_2_method_4_code
def yX0_remember : MethodName := ⟨RX0, "remember", "(LCottageWeeks$House;)V"⟩
abbrev cX0_takeBack : ByteArray := prog_2_method_5_code
def yX0_takeBack : MethodName := ⟨RX0, "takeBack", "(LCottageWeeks$House;)I"⟩
def RX1 : String := "CottageWeeks$House"
def TX1 : u_T := fun k => match k with
  | 0 => ("CottageWeeks$House", "settings", "[I", true)
  | 1 => ("CottageWeeks$House", "totals", "[I", true)
  | 2 => ("CottageWeeks$House", "yearNumber", "I", false)
  | 3 => ("CottageWeeks$House", "owners", "I", false)
  | 4 => ("CottageWeeks$House", "shares", "[I", true)
  | 5 => ("CottageWeeks$House", "points", "[I", true)
  | 6 => ("CottageWeeks$House", "won", "[I", true)
  | 7 => ("CottageWeeks$House", "paid", "[I", true)
  | 8 => ("CottageWeeks$House", "costs", "[I", true)
  | 9 => ("CottageWeeks$House", "schools", "[Z", true)
  | 10 => ("CottageWeeks$House", "holders", "[I", true)
  | 11 => ("CottageWeeks$House", "bids", "[I", true)
  | 12 => ("CottageWeeks$House", "offers", "I", false)
  | 13 => ("CottageWeeks$House", "offerers", "[I", true)
  | 14 => ("CottageWeeks$House", "offered", "[I", true)
  | _ => ("CottageWeeks$House", "wanted", "[I", true)
def tyX1 : Nat → FieldType := fun k => match k with
  | 0 => .array .int
  | 1 => .array .int
  | 2 => .int
  | 3 => .int
  | 4 => .array .int
  | 5 => .array .int
  | 6 => .array .int
  | 7 => .array .int
  | 8 => .array .int
  | 9 => .array .boolean
  | 10 => .array .int
  | 11 => .array .int
  | 12 => .int
  | 13 => .array .int
  | 14 => .array .int
  | _ => .array .int
theorem nmX1 : ∀ a, a < 16 → ∀ b, b < 16 → a ≠ b → (TX1 a).2.1 ≠ (TX1 b).2.1 := by decide +kernel
theorem tyX1_ok : ∀ k, k < 16 → parseFieldDescriptor (TX1 k).2.2.1 = some (tyX1 k) := by decide +kernel
abbrev cX1_init : ByteArray := prog_3_method_1_code
def yX1_init : MethodName := ⟨RX1, "<init>", "()V"⟩
abbrev cX1_clear : ByteArray := prog_3_method_2_code
def yX1_clear : MethodName := ⟨RX1, "clear", "()V"⟩
abbrev cX1_copyFrom : ByteArray := prog_3_method_3_code
def yX1_copyFrom : MethodName := ⟨RX1, "copyFrom", "(LCottageWeeks$House;)V"⟩
abbrev cX1_hasOwner : ByteArray := prog_3_method_4_code
def yX1_hasOwner : MethodName := ⟨RX1, "hasOwner", "(I)Z"⟩
abbrev cX1_hasWeek : ByteArray := prog_3_method_5_code
def yX1_hasWeek : MethodName := ⟨RX1, "hasWeek", "(I)Z"⟩
abbrev cX1_hasOffer : ByteArray := prog_3_method_6_code
def yX1_hasOffer : MethodName := ⟨RX1, "hasOffer", "(I)Z"⟩
abbrev cX1_holds : ByteArray := prog_3_method_7_code
def yX1_holds : MethodName := ⟨RX1, "holds", "(II)Z"⟩
abbrev cX1_hasAtLeast : ByteArray := prog_3_method_8_code
def yX1_hasAtLeast : MethodName := ⟨RX1, "hasAtLeast", "(II)Z"⟩
abbrev cX1_isOpenForBids : ByteArray := prog_3_method_9_code
def yX1_isOpenForBids : MethodName := ⟨RX1, "isOpenForBids", "(I)Z"⟩
abbrev cX1_weeksHeldBy : ByteArray := prog_3_method_10_code
def yX1_weeksHeldBy : MethodName := ⟨RX1, "weeksHeldBy", "(I)I"⟩
abbrev cX1_lowestWeekHeldBy : ByteArray := prog_3_method_11_code
def yX1_lowestWeekHeldBy : MethodName := ⟨RX1, "lowestWeekHeldBy", "(I)I"⟩
abbrev cX1_pointsOfAll : ByteArray := prog_3_method_12_code
def yX1_pointsOfAll : MethodName := ⟨RX1, "pointsOfAll", "()I"⟩
abbrev cX1_extraOf : ByteArray := prog_3_method_13_code
def yX1_extraOf : MethodName := ⟨RX1, "extraOf", "(II)I"⟩
abbrev cX1_bidsBy : ByteArray := prog_3_method_14_code
def yX1_bidsBy : MethodName := ⟨RX1, "bidsBy", "(I)I"⟩
abbrev cX1_bidsFor : ByteArray := prog_3_method_15_code
def yX1_bidsFor : MethodName := ⟨RX1, "bidsFor", "(I)I"⟩
abbrev cX1_bidsOfAll : ByteArray := prog_3_method_16_code
def yX1_bidsOfAll : MethodName := ⟨RX1, "bidsOfAll", "()I"⟩
abbrev cX1_greatestExtraFor : ByteArray := prog_3_method_17_code
def yX1_greatestExtraFor : MethodName := ⟨RX1, "greatestExtraFor", "(I)I"⟩
abbrev cX1_addOwner : ByteArray := prog_3_method_18_code
def yX1_addOwner : MethodName := ⟨RX1, "addOwner", "(I)I"⟩
abbrev cX1_givePoints : ByteArray := prog_3_method_19_code
def yX1_givePoints : MethodName := ⟨RX1, "givePoints", "(I)V"⟩
abbrev cX1_spendPoints : ByteArray := prog_3_method_20_code
def yX1_spendPoints : MethodName := ⟨RX1, "spendPoints", "(II)V"⟩
abbrev cX1_changeCost : ByteArray := prog_3_method_21_code
def yX1_changeCost : MethodName := ⟨RX1, "changeCost", "(II)I"⟩
abbrev cX1_markSchool : ByteArray := prog_3_method_22_code
def yX1_markSchool : MethodName := ⟨RX1, "markSchool", "(IZ)I"⟩
abbrev cX1_reasonAgainst : ByteArray := prog_3_method_23_code
def yX1_reasonAgainst : MethodName := ⟨RX1, "reasonAgainst", "(II)I"⟩
abbrev cX1_takeWeek : ByteArray := prog_3_method_24_code
def yX1_takeWeek : MethodName := ⟨RX1, "takeWeek", "(II)I"⟩
abbrev cX1_giveBack : ByteArray := prog_3_method_25_code
def yX1_giveBack : MethodName := ⟨RX1, "giveBack", "(II)I"⟩
abbrev cX1_placeBid : ByteArray := prog_3_method_26_code
def yX1_placeBid : MethodName := ⟨RX1, "placeBid", "(III)I"⟩
abbrev cX1_settleBids : ByteArray := prog_3_method_27_code
def yX1_settleBids : MethodName := ⟨RX1, "settleBids", "()I"⟩
abbrev cX1_settleWeek : ByteArray := prog_3_method_28_code
def yX1_settleWeek : MethodName := ⟨RX1, "settleWeek", "(I)Z"⟩
abbrev cX1_bestBidder : ByteArray := prog_3_method_29_code
def yX1_bestBidder : MethodName := ⟨RX1, "bestBidder", "(I)I"⟩
abbrev cX1_canWin : ByteArray := prog_3_method_30_code
def yX1_canWin : MethodName := ⟨RX1, "canWin", "(II)Z"⟩
abbrev cX1_isAhead : ByteArray := prog_3_method_31_code
def yX1_isAhead : MethodName := ⟨RX1, "isAhead", "(III)Z"⟩
abbrev cX1_canSwap : ByteArray := prog_3_method_32_code
def yX1_canSwap : MethodName := ⟨RX1, "canSwap", "(III)Z"⟩
abbrev cX1_canOffer : ByteArray := prog_3_method_33_code
def yX1_canOffer : MethodName := ⟨RX1, "canOffer", "(III)Z"⟩
abbrev cX1_placeOffer : ByteArray := prog_3_method_34_code
def yX1_placeOffer : MethodName := ⟨RX1, "placeOffer", "(III)I"⟩
abbrev cX1_acceptOffer : ByteArray := prog_3_method_35_code
def yX1_acceptOffer : MethodName := ⟨RX1, "acceptOffer", "(I)I"⟩
abbrev cX1_dropOffer : ByteArray := prog_3_method_36_code
def yX1_dropOffer : MethodName := ⟨RX1, "dropOffer", "(I)V"⟩
abbrev cX1_payUpkeep : ByteArray := prog_3_method_37_code
def yX1_payUpkeep : MethodName := ⟨RX1, "payUpkeep", "(I)I"⟩
abbrev cX1_partOf : ByteArray := prog_3_method_38_code
def yX1_partOf : MethodName := ⟨RX1, "partOf", "(II)I"⟩
abbrev cX1_sharesOfAll : ByteArray := prog_3_method_39_code
def yX1_sharesOfAll : MethodName := ⟨RX1, "sharesOfAll", "()I"⟩
abbrev cX1_beginYear : ByteArray := prog_3_method_40_code
def yX1_beginYear : MethodName := ⟨RX1, "beginYear", "()I"⟩
def RX2 : String := "CottageWeeks$Matching"
def TX2 : u_T := fun k => match k with
  | 0 => ("CottageWeeks$Matching", "takers", "[I", true)
  | _ => ("CottageWeeks$Matching", "tried", "[I", true)
def tyX2 : Nat → FieldType := fun k => match k with
  | 0 => .array .int
  | _ => .array .int
theorem nmX2 : ∀ a, a < 2 → ∀ b, b < 2 → a ≠ b → (TX2 a).2.1 ≠ (TX2 b).2.1 := by decide +kernel
theorem tyX2_ok : ∀ k, k < 2 → parseFieldDescriptor (TX2 k).2.2.1 = some (tyX2 k) := by decide +kernel
abbrev cX2_init : ByteArray := prog_4_method_1_code
def yX2_init : MethodName := ⟨RX2, "<init>", "()V"⟩
abbrev cX2_countByMoving : ByteArray := prog_4_method_2_code
def yX2_countByMoving : MethodName := ⟨RX2, "countByMoving", "(LCottageWeeks$House;)I"⟩
abbrev cX2_findWeek : ByteArray := prog_4_method_3_code
def yX2_findWeek : MethodName := ⟨RX2, "findWeek", "(LCottageWeeks$House;I[I[II)Z"⟩
abbrev cX2_countBySets : ByteArray := prog_4_method_4_code
def yX2_countBySets : MethodName := ⟨RX2, "countBySets", "(LCottageWeeks$House;)I"⟩
abbrev cX2_growSets : ByteArray := prog_4_method_5_code
def yX2_growSets : MethodName := ⟨RX2, "growSets", "(LCottageWeeks$House;IJ)J"⟩
def RX3 : String := "CottageWeeks$Script"
def TX3 : u_T := fun k => match k with
  | _ => ("", "", "", false)
def tyX3 : Nat → FieldType := fun k => match k with
  | _ => .int
theorem nmX3 : ∀ a, a < 0 → ∀ b, b < 0 → a ≠ b → (TX3 a).2.1 ≠ (TX3 b).2.1 := by decide +kernel
theorem tyX3_ok : ∀ k, k < 0 → parseFieldDescriptor (TX3 k).2.2.1 = some (tyX3 k) := by decide +kernel
abbrev cX3_succeeds : ByteArray := prog_5_method_2_code
def yX3_succeeds : MethodName := ⟨RX3, "succeeds", "(LCottageWeeks$House;I)Z"⟩
def RX4 : String := "CottageWeeks$Simulation"
def TX4 : u_T := fun k => match k with
  | _ => ("", "", "", false)
def tyX4 : Nat → FieldType := fun k => match k with
  | _ => .int
theorem nmX4 : ∀ a, a < 0 → ∀ b, b < 0 → a ≠ b → (TX4 a).2.1 ≠ (TX4 b).2.1 := by decide +kernel
theorem tyX4_ok : ∀ k, k < 0 → parseFieldDescriptor (TX4 k).2.2.1 = some (tyX4 k) := by decide +kernel
abbrev cX4_turn : ByteArray := prog_6_method_2_code
def yX4_turn : MethodName := ⟨RX4, "turn", "(LCottageWeeks$House;I)V"⟩
def RX5 : String := "CottageWeeks$Text"
def TX5 : u_T := fun k => match k with
  | 0 => ("CottageWeeks$Text", "signs", "[C", true)
  | 1 => ("CottageWeeks$Text", "length", "I", false)
  | 2 => ("CottageWeeks$Text", "at", "I", false)
  | 3 => ("CottageWeeks$Text", "wrong", "Z", false)
  | 4 => ("CottageWeeks$Text", "values", "[I", true)
  | _ => ("CottageWeeks$Text", "valueCount", "I", false)
def tyX5 : Nat → FieldType := fun k => match k with
  | 0 => .array .char
  | 1 => .int
  | 2 => .int
  | 3 => .boolean
  | 4 => .array .int
  | _ => .int
theorem nmX5 : ∀ a, a < 6 → ∀ b, b < 6 → a ≠ b → (TX5 a).2.1 ≠ (TX5 b).2.1 := by decide +kernel
theorem tyX5_ok : ∀ k, k < 6 → parseFieldDescriptor (TX5 k).2.2.1 = some (tyX5 k) := by decide +kernel
abbrev cX5_init : ByteArray := prog_7_method_1_code
def yX5_init : MethodName := ⟨RX5, "<init>", "()V"⟩
abbrev cX5_isFull : ByteArray := prog_7_method_2_code
def yX5_isFull : MethodName := ⟨RX5, "isFull", "()Z"⟩
abbrev cX5_add : ByteArray := prog_7_method_3_code
def yX5_add : MethodName := ⟨RX5, "add", "(C)I"⟩
abbrev cX5_empty : ByteArray := prog_7_method_4_code
def yX5_empty : MethodName := ⟨RX5, "empty", "()I"⟩
abbrev cX5_findError : ByteArray := prog_7_method_5_code
def yX5_findError : MethodName := ⟨RX5, "findError", "()I"⟩
abbrev cX5_build : ByteArray := prog_7_method_6_code
def yX5_build : MethodName := ⟨RX5, "build", "(LCottageWeeks$House;)I"⟩
abbrev cX5_startReading : ByteArray := prog_7_method_7_code
def yX5_startReading : MethodName := ⟨RX5, "startReading", "()V"⟩
abbrev cX5_hasMore : ByteArray := prog_7_method_8_code
def yX5_hasMore : MethodName := ⟨RX5, "hasMore", "()Z"⟩
abbrev cX5_nextSign : ByteArray := prog_7_method_9_code
def yX5_nextSign : MethodName := ⟨RX5, "nextSign", "()I"⟩
abbrev cX5_readCommand : ByteArray := prog_7_method_10_code
def yX5_readCommand : MethodName := ⟨RX5, "readCommand", "()I"⟩
abbrev cX5_readValues : ByteArray := prog_7_method_11_code
def yX5_readValues : MethodName := ⟨RX5, "readValues", "(I)V"⟩
abbrev cX5_readOwner : ByteArray := prog_7_method_12_code
def yX5_readOwner : MethodName := ⟨RX5, "readOwner", "()V"⟩
abbrev cX5_readWeek : ByteArray := prog_7_method_13_code
def yX5_readWeek : MethodName := ⟨RX5, "readWeek", "()V"⟩
abbrev cX5_readPlusOrMinus : ByteArray := prog_7_method_14_code
def yX5_readPlusOrMinus : MethodName := ⟨RX5, "readPlusOrMinus", "()V"⟩
abbrev cX5_readNumber : ByteArray := prog_7_method_15_code
def yX5_readNumber : MethodName := ⟨RX5, "readNumber", "(III)V"⟩
abbrev cX5_keepValue : ByteArray := prog_7_method_16_code
def yX5_keepValue : MethodName := ⟨RX5, "keepValue", "(I)V"⟩
abbrev cX5_isDone : ByteArray := prog_7_method_17_code
def yX5_isDone : MethodName := ⟨RX5, "isDone", "(LCottageWeeks$House;I)Z"⟩
def RX6 : String := "CottageWeeks"
def TX6 : u_T := fun k => match k with
  | 0 => ("CottageWeeks", "present", "LCottageWeeks$House;", true)
  | 1 => ("CottageWeeks", "copy", "LCottageWeeks$House;", true)
  | 2 => ("CottageWeeks", "history", "LCottageWeeks$History;", true)
  | 3 => ("CottageWeeks", "slots", "[LCottageWeeks$House;", true)
  | 4 => ("CottageWeeks", "saved", "[Z", true)
  | 5 => ("CottageWeeks", "text", "LCottageWeeks$Text;", true)
  | _ => ("CottageWeeks", "matching", "LCottageWeeks$Matching;", true)
def tyX6 : Nat → FieldType := fun k => match k with
  | 0 => .object "CottageWeeks$House"
  | 1 => .object "CottageWeeks$House"
  | 2 => .object "CottageWeeks$History"
  | 3 => .array (.object "CottageWeeks$House")
  | 4 => .array .boolean
  | 5 => .object "CottageWeeks$Text"
  | _ => .object "CottageWeeks$Matching"
theorem nmX6 : ∀ a, a < 7 → ∀ b, b < 7 → a ≠ b → (TX6 a).2.1 ≠ (TX6 b).2.1 := by decide +kernel
theorem tyX6_ok : ∀ k, k < 7 → parseFieldDescriptor (TX6 k).2.2.1 = some (tyX6 k) := by decide +kernel
abbrev cX6_init : ByteArray := prog_1_method_1_code
def yX6_init : MethodName := ⟨RX6, "<init>", "()V"⟩
abbrev cX6_append : ByteArray := prog_1_method_2_code
def yX6_append : MethodName := ⟨RX6, "append", "(I)I"⟩
abbrev cX6_clearText : ByteArray := prog_1_method_3_code
def yX6_clearText : MethodName := ⟨RX6, "clearText", "()I"⟩
abbrev cX6_errorPosition : ByteArray := prog_1_method_4_code
def yX6_errorPosition : MethodName := ⟨RX6, "errorPosition", "()I"⟩
abbrev cX6_load : ByteArray := prog_1_method_5_code
def yX6_load : MethodName := ⟨RX6, "load", "()I"⟩
abbrev cX6_about : ByteArray := prog_1_method_6_code
def yX6_about : MethodName := ⟨RX6, "about", "(I)I"⟩
abbrev cX6_ownerOf : ByteArray := prog_1_method_7_code
def yX6_ownerOf : MethodName := ⟨RX6, "ownerOf", "(II)I"⟩
abbrev cX6_weekOf : ByteArray := prog_1_method_8_code
def yX6_weekOf : MethodName := ⟨RX6, "weekOf", "(II)I"⟩
abbrev cX6_bidOf : ByteArray := prog_1_method_9_code
def yX6_bidOf : MethodName := ⟨RX6, "bidOf", "(II)I"⟩
abbrev cX6_offerOf : ByteArray := prog_1_method_10_code
def yX6_offerOf : MethodName := ⟨RX6, "offerOf", "(II)I"⟩
abbrev cX6_owner : ByteArray := prog_1_method_11_code
def yX6_owner : MethodName := ⟨RX6, "owner", "(I)I"⟩
abbrev cX6_cost : ByteArray := prog_1_method_12_code
def yX6_cost : MethodName := ⟨RX6, "cost", "(II)I"⟩
abbrev cX6_school : ByteArray := prog_1_method_13_code
def yX6_school : MethodName := ⟨RX6, "school", "(IZ)I"⟩
abbrev cX6_take : ByteArray := prog_1_method_14_code
def yX6_take : MethodName := ⟨RX6, "take", "(II)I"⟩
abbrev cX6_release : ByteArray := prog_1_method_15_code
def yX6_release : MethodName := ⟨RX6, "release", "(II)I"⟩
abbrev cX6_bid : ByteArray := prog_1_method_16_code
def yX6_bid : MethodName := ⟨RX6, "bid", "(III)I"⟩
abbrev cX6_settle : ByteArray := prog_1_method_17_code
def yX6_settle : MethodName := ⟨RX6, "settle", "()I"⟩
abbrev cX6_offer : ByteArray := prog_1_method_18_code
def yX6_offer : MethodName := ⟨RX6, "offer", "(III)I"⟩
abbrev cX6_accept : ByteArray := prog_1_method_19_code
def yX6_accept : MethodName := ⟨RX6, "accept", "(I)I"⟩
abbrev cX6_upkeep : ByteArray := prog_1_method_20_code
def yX6_upkeep : MethodName := ⟨RX6, "upkeep", "(I)I"⟩
abbrev cX6_year : ByteArray := prog_1_method_21_code
def yX6_year : MethodName := ⟨RX6, "year", "()I"⟩
abbrev cX6_set : ByteArray := prog_1_method_22_code
def yX6_set : MethodName := ⟨RX6, "set", "(II)I"⟩
abbrev cX6_undo : ByteArray := prog_1_method_23_code
def yX6_undo : MethodName := ⟨RX6, "undo", "()I"⟩
abbrev cX6_why : ByteArray := prog_1_method_24_code
def yX6_why : MethodName := ⟨RX6, "why", "(II)I"⟩
abbrev cX6_could : ByteArray := prog_1_method_25_code
def yX6_could : MethodName := ⟨RX6, "could", "(I)I"⟩
abbrev cX6_winner : ByteArray := prog_1_method_26_code
def yX6_winner : MethodName := ⟨RX6, "winner", "(I)I"⟩
abbrev cX6_leastBid : ByteArray := prog_1_method_27_code
def yX6_leastBid : MethodName := ⟨RX6, "leastBid", "(II)I"⟩
abbrev cX6_ifUpkeep : ByteArray := prog_1_method_28_code
def yX6_ifUpkeep : MethodName := ⟨RX6, "ifUpkeep", "(II)I"⟩
abbrev cX6_runScript : ByteArray := prog_1_method_29_code
def yX6_runScript : MethodName := ⟨RX6, "runScript", "(IJ)I"⟩
abbrev cX6_simulate : ByteArray := prog_1_method_30_code
def yX6_simulate : MethodName := ⟨RX6, "simulate", "(JI)I"⟩
abbrev cX6_save : ByteArray := prog_1_method_31_code
def yX6_save : MethodName := ⟨RX6, "save", "(I)I"⟩
abbrev cX6_restore : ByteArray := prog_1_method_32_code
def yX6_restore : MethodName := ⟨RX6, "restore", "(I)I"⟩
abbrev cX6_needOwner : ByteArray := prog_1_method_33_code
def yX6_needOwner : MethodName := ⟨RX6, "needOwner", "(I)V"⟩
abbrev cX6_needWeek : ByteArray := prog_1_method_34_code
def yX6_needWeek : MethodName := ⟨RX6, "needWeek", "(I)V"⟩
abbrev cX6_needOffer : ByteArray := prog_1_method_35_code
def yX6_needOffer : MethodName := ⟨RX6, "needOffer", "(I)V"⟩
abbrev cX6_needSlot : ByteArray := prog_1_method_36_code
def yX6_needSlot : MethodName := ⟨RX6, "needSlot", "(I)V"⟩
abbrev cX6_needRange : ByteArray := prog_1_method_37_code
def yX6_needRange : MethodName := ⟨RX6, "needRange", "(III)V"⟩
abbrev cX6_settleCopyBefore : ByteArray := prog_1_method_38_code
def yX6_settleCopyBefore : MethodName := ⟨RX6, "settleCopyBefore", "(I)V"⟩
def RX7 : String := "CottageWeeksModel"
def TX7 : u_T := fun k => match k with
  | 0 => ("CottageWeeksModel", "thrown", "I", false)
  | 1 => ("CottageWeeksModel", "s", "[I", true)
  | 2 => ("CottageWeeksModel", "aside", "[I", true)
  | 3 => ("CottageWeeksModel", "history", "[I", true)
  | 4 => ("CottageWeeksModel", "known", "I", false)
  | 5 => ("CottageWeeksModel", "slots", "[I", true)
  | 6 => ("CottageWeeksModel", "kept", "I", false)
  | 7 => ("CottageWeeksModel", "text", "[I", true)
  | 8 => ("CottageWeeksModel", "length", "I", false)
  | 9 => ("CottageWeeksModel", "letter", "I", false)
  | 10 => ("CottageWeeksModel", "first", "I", false)
  | 11 => ("CottageWeeksModel", "second", "I", false)
  | 12 => ("CottageWeeksModel", "third", "I", false)
  | 13 => ("CottageWeeksModel", "spot", "I", false)
  | 14 => ("CottageWeeksModel", "isWrong", "Z", false)
  | _ => ("CottageWeeksModel", "sets", "[Z", true)
def tyX7 : Nat → FieldType := fun k => match k with
  | 0 => .int
  | 1 => .array .int
  | 2 => .array .int
  | 3 => .array .int
  | 4 => .int
  | 5 => .array .int
  | 6 => .int
  | 7 => .array .int
  | 8 => .int
  | 9 => .int
  | 10 => .int
  | 11 => .int
  | 12 => .int
  | 13 => .int
  | 14 => .boolean
  | _ => .array .boolean
theorem nmX7 : ∀ a, a < 16 → ∀ b, b < 16 → a ≠ b → (TX7 a).2.1 ≠ (TX7 b).2.1 := by decide +kernel
theorem tyX7_ok : ∀ k, k < 16 → parseFieldDescriptor (TX7 k).2.2.1 = some (tyX7 k) := by decide +kernel
abbrev cX7_init : ByteArray := prog_9_method_1_code
def yX7_init : MethodName := ⟨RX7, "<init>", "()V"⟩
abbrev cX7_thrown : ByteArray := prog_9_method_2_code
def yX7_thrown : MethodName := ⟨RX7, "thrown", "()I"⟩
abbrev cX7_in : ByteArray := prog_9_method_3_code
def yX7_in : MethodName := ⟨RX7, "in", "(III)Z"⟩
abbrev cX7_holds : ByteArray := prog_9_method_4_code
def yX7_holds : MethodName := ⟨RX7, "holds", "(I)Z"⟩
abbrev cX7_begins : ByteArray := prog_9_method_5_code
def yX7_begins : MethodName := ⟨RX7, "begins", "()V"⟩
abbrev cX7_of : ByteArray := prog_9_method_6_code
def yX7_of : MethodName := ⟨RX7, "of", "(II)I"⟩
abbrev cX7_ofWeek : ByteArray := prog_9_method_7_code
def yX7_ofWeek : MethodName := ⟨RX7, "ofWeek", "(II)I"⟩
abbrev cX7_ofBid : ByteArray := prog_9_method_8_code
def yX7_ofBid : MethodName := ⟨RX7, "ofBid", "(II)I"⟩
abbrev cX7_ofOffer : ByteArray := prog_9_method_9_code
def yX7_ofOffer : MethodName := ⟨RX7, "ofOffer", "(II)I"⟩
abbrev cX7_isOwner : ByteArray := prog_9_method_10_code
def yX7_isOwner : MethodName := ⟨RX7, "isOwner", "(I)Z"⟩
abbrev cX7_isWeek : ByteArray := prog_9_method_11_code
def yX7_isWeek : MethodName := ⟨RX7, "isWeek", "(I)Z"⟩
abbrev cX7_areThere : ByteArray := prog_9_method_12_code
def yX7_areThere : MethodName := ⟨RX7, "areThere", "(II)Z"⟩
abbrev cX7_remember : ByteArray := prog_9_method_13_code
def yX7_remember : MethodName := ⟨RX7, "remember", "()V"⟩
abbrev cX7_putAside : ByteArray := prog_9_method_14_code
def yX7_putAside : MethodName := ⟨RX7, "putAside", "()V"⟩
abbrev cX7_putBack : ByteArray := prog_9_method_15_code
def yX7_putBack : MethodName := ⟨RX7, "putBack", "()V"⟩
abbrev cX7_held : ByteArray := prog_9_method_16_code
def yX7_held : MethodName := ⟨RX7, "held", "(I)I"⟩
abbrev cX7_gives : ByteArray := prog_9_method_17_code
def yX7_gives : MethodName := ⟨RX7, "gives", "(I)V"⟩
abbrev cX7_spends : ByteArray := prog_9_method_18_code
def yX7_spends : MethodName := ⟨RX7, "spends", "(II)V"⟩
abbrev cX7_hindrance : ByteArray := prog_9_method_19_code
def yX7_hindrance : MethodName := ⟨RX7, "hindrance", "(II)I"⟩
abbrev cX7_comes : ByteArray := prog_9_method_20_code
def yX7_comes : MethodName := ⟨RX7, "comes", "(I)I"⟩
abbrev cX7_becomes : ByteArray := prog_9_method_21_code
def yX7_becomes : MethodName := ⟨RX7, "becomes", "(II)I"⟩
abbrev cX7_schools : ByteArray := prog_9_method_22_code
def yX7_schools : MethodName := ⟨RX7, "schools", "()I"⟩
abbrev cX7_takes : ByteArray := prog_9_method_23_code
def yX7_takes : MethodName := ⟨RX7, "takes", "(II)I"⟩
abbrev cX7_releases : ByteArray := prog_9_method_24_code
def yX7_releases : MethodName := ⟨RX7, "releases", "(II)I"⟩
abbrev cX7_bidsFor : ByteArray := prog_9_method_25_code
def yX7_bidsFor : MethodName := ⟨RX7, "bidsFor", "(I)I"⟩
abbrev cX7_bids : ByteArray := prog_9_method_26_code
def yX7_bids : MethodName := ⟨RX7, "bids", "(III)I"⟩
abbrev cX7_canWin : ByteArray := prog_9_method_27_code
def yX7_canWin : MethodName := ⟨RX7, "canWin", "(II)Z"⟩
abbrev cX7_isBetter : ByteArray := prog_9_method_28_code
def yX7_isBetter : MethodName := ⟨RX7, "isBetter", "(III)Z"⟩
abbrev cX7_settlesOne : ByteArray := prog_9_method_29_code
def yX7_settlesOne : MethodName := ⟨RX7, "settlesOne", "(I)I"⟩
abbrev cX7_noBids : ByteArray := prog_9_method_30_code
def yX7_noBids : MethodName := ⟨RX7, "noBids", "()V"⟩
abbrev cX7_settles : ByteArray := prog_9_method_31_code
def yX7_settles : MethodName := ⟨RX7, "settles", "()I"⟩
abbrev cX7_offers : ByteArray := prog_9_method_32_code
def yX7_offers : MethodName := ⟨RX7, "offers", "(III)I"⟩
abbrev cX7_isVoid : ByteArray := prog_9_method_33_code
def yX7_isVoid : MethodName := ⟨RX7, "isVoid", "(I)Z"⟩
abbrev cX7_accepts : ByteArray := prog_9_method_34_code
def yX7_accepts : MethodName := ⟨RX7, "accepts", "(I)I"⟩
abbrev cX7_shares : ByteArray := prog_9_method_35_code
def yX7_shares : MethodName := ⟨RX7, "shares", "()I"⟩
abbrev cX7_partOf : ByteArray := prog_9_method_36_code
def yX7_partOf : MethodName := ⟨RX7, "partOf", "(II)I"⟩
abbrev cX7_parts : ByteArray := prog_9_method_37_code
def yX7_parts : MethodName := ⟨RX7, "parts", "(I)I"⟩
abbrev cX7_goesOn : ByteArray := prog_9_method_38_code
def yX7_goesOn : MethodName := ⟨RX7, "goesOn", "()I"⟩
abbrev cX7_errorOfOwner : ByteArray := prog_9_method_39_code
def yX7_errorOfOwner : MethodName := ⟨RX7, "errorOfOwner", "(I)I"⟩
abbrev cX7_errorOfCost : ByteArray := prog_9_method_40_code
def yX7_errorOfCost : MethodName := ⟨RX7, "errorOfCost", "(II)I"⟩
abbrev cX7_errorOfRelease : ByteArray := prog_9_method_41_code
def yX7_errorOfRelease : MethodName := ⟨RX7, "errorOfRelease", "(II)I"⟩
abbrev cX7_errorOfBid : ByteArray := prog_9_method_42_code
def yX7_errorOfBid : MethodName := ⟨RX7, "errorOfBid", "(III)I"⟩
abbrev cX7_errorOfOffer : ByteArray := prog_9_method_43_code
def yX7_errorOfOffer : MethodName := ⟨RX7, "errorOfOffer", "(III)I"⟩
abbrev cX7_errorOfUpkeep : ByteArray := prog_9_method_44_code
def yX7_errorOfUpkeep : MethodName := ⟨RX7, "errorOfUpkeep", "(I)I"⟩
abbrev cX7_isOffer : ByteArray := prog_9_method_45_code
def yX7_isOffer : MethodName := ⟨RX7, "isOffer", "(I)Z"⟩
abbrev cX7_does : ByteArray := prog_9_method_46_code
def yX7_does : MethodName := ⟨RX7, "does", "()I"⟩
abbrev cX7_append : ByteArray := prog_9_method_47_code
def yX7_append : MethodName := ⟨RX7, "append", "(I)I"⟩
abbrev cX7_clearText : ByteArray := prog_9_method_48_code
def yX7_clearText : MethodName := ⟨RX7, "clearText", "()I"⟩
abbrev cX7_takesOne : ByteArray := prog_9_method_49_code
def yX7_takesOne : MethodName := ⟨RX7, "takesOne", "(II)I"⟩
abbrev cX7_readWeek : ByteArray := prog_9_method_50_code
def yX7_readWeek : MethodName := ⟨RX7, "readWeek", "()I"⟩
abbrev cX7_readExtra : ByteArray := prog_9_method_51_code
def yX7_readExtra : MethodName := ⟨RX7, "readExtra", "()I"⟩
abbrev cX7_readCoins : ByteArray := prog_9_method_52_code
def yX7_readCoins : MethodName := ⟨RX7, "readCoins", "()I"⟩
abbrev cX7_isLetter : ByteArray := prog_9_method_53_code
def yX7_isLetter : MethodName := ⟨RX7, "isLetter", "(I)Z"⟩
abbrev cX7_readCommand : ByteArray := prog_9_method_54_code
def yX7_readCommand : MethodName := ⟨RX7, "readCommand", "()V"⟩
abbrev cX7_goesThrough : ByteArray := prog_9_method_55_code
def yX7_goesThrough : MethodName := ⟨RX7, "goesThrough", "(Z)I"⟩
abbrev cX7_errorPosition : ByteArray := prog_9_method_56_code
def yX7_errorPosition : MethodName := ⟨RX7, "errorPosition", "()I"⟩
abbrev cX7_load : ByteArray := prog_9_method_57_code
def yX7_load : MethodName := ⟨RX7, "load", "()I"⟩
abbrev cX7_points : ByteArray := prog_9_method_58_code
def yX7_points : MethodName := ⟨RX7, "points", "()I"⟩
abbrev cX7_allBids : ByteArray := prog_9_method_59_code
def yX7_allBids : MethodName := ⟨RX7, "allBids", "()I"⟩
abbrev cX7_told : ByteArray := prog_9_method_60_code
def yX7_told : MethodName := ⟨RX7, "told", "(I)I"⟩
abbrev cX7_about : ByteArray := prog_9_method_61_code
def yX7_about : MethodName := ⟨RX7, "about", "(I)I"⟩
abbrev cX7_lowestOf : ByteArray := prog_9_method_62_code
def yX7_lowestOf : MethodName := ⟨RX7, "lowestOf", "(I)I"⟩
abbrev cX7_bidsOf : ByteArray := prog_9_method_63_code
def yX7_bidsOf : MethodName := ⟨RX7, "bidsOf", "(I)I"⟩
abbrev cX7_ofOwner : ByteArray := prog_9_method_64_code
def yX7_ofOwner : MethodName := ⟨RX7, "ofOwner", "(II)I"⟩
abbrev cX7_ownerOf : ByteArray := prog_9_method_65_code
def yX7_ownerOf : MethodName := ⟨RX7, "ownerOf", "(II)I"⟩
abbrev cX7_greatestFor : ByteArray := prog_9_method_66_code
def yX7_greatestFor : MethodName := ⟨RX7, "greatestFor", "(I)I"⟩
abbrev cX7_weekOf : ByteArray := prog_9_method_67_code
def yX7_weekOf : MethodName := ⟨RX7, "weekOf", "(II)I"⟩
abbrev cX7_bidOf : ByteArray := prog_9_method_68_code
def yX7_bidOf : MethodName := ⟨RX7, "bidOf", "(II)I"⟩
abbrev cX7_offerOf : ByteArray := prog_9_method_69_code
def yX7_offerOf : MethodName := ⟨RX7, "offerOf", "(II)I"⟩
abbrev cX7_acts : ByteArray := prog_9_method_70_code
def yX7_acts : MethodName := ⟨RX7, "acts", "(IIII)I"⟩
abbrev cX7_owner : ByteArray := prog_9_method_71_code
def yX7_owner : MethodName := ⟨RX7, "owner", "(I)I"⟩
abbrev cX7_cost : ByteArray := prog_9_method_72_code
def yX7_cost : MethodName := ⟨RX7, "cost", "(II)I"⟩
abbrev cX7_school : ByteArray := prog_9_method_73_code
def yX7_school : MethodName := ⟨RX7, "school", "(IZ)I"⟩
abbrev cX7_take : ByteArray := prog_9_method_74_code
def yX7_take : MethodName := ⟨RX7, "take", "(II)I"⟩
abbrev cX7_release : ByteArray := prog_9_method_75_code
def yX7_release : MethodName := ⟨RX7, "release", "(II)I"⟩
abbrev cX7_bid : ByteArray := prog_9_method_76_code
def yX7_bid : MethodName := ⟨RX7, "bid", "(III)I"⟩
abbrev cX7_settle : ByteArray := prog_9_method_77_code
def yX7_settle : MethodName := ⟨RX7, "settle", "()I"⟩
abbrev cX7_offer : ByteArray := prog_9_method_78_code
def yX7_offer : MethodName := ⟨RX7, "offer", "(III)I"⟩
abbrev cX7_accept : ByteArray := prog_9_method_79_code
def yX7_accept : MethodName := ⟨RX7, "accept", "(I)I"⟩
abbrev cX7_upkeep : ByteArray := prog_9_method_80_code
def yX7_upkeep : MethodName := ⟨RX7, "upkeep", "(I)I"⟩
abbrev cX7_year : ByteArray := prog_9_method_81_code
def yX7_year : MethodName := ⟨RX7, "year", "()I"⟩
abbrev cX7_isSetting : ByteArray := prog_9_method_82_code
def yX7_isSetting : MethodName := ⟨RX7, "isSetting", "(II)Z"⟩
abbrev cX7_set : ByteArray := prog_9_method_83_code
def yX7_set : MethodName := ⟨RX7, "set", "(II)I"⟩
abbrev cX7_undo : ByteArray := prog_9_method_84_code
def yX7_undo : MethodName := ⟨RX7, "undo", "()I"⟩
abbrev cX7_why : ByteArray := prog_9_method_85_code
def yX7_why : MethodName := ⟨RX7, "why", "(II)I"⟩
abbrev cX7_mostAtOnce : ByteArray := prog_9_method_86_code
def yX7_mostAtOnce : MethodName := ⟨RX7, "mostAtOnce", "()I"⟩
abbrev cX7_could : ByteArray := prog_9_method_87_code
def yX7_could : MethodName := ⟨RX7, "could", "(I)I"⟩
abbrev cX7_wouldWin : ByteArray := prog_9_method_88_code
def yX7_wouldWin : MethodName := ⟨RX7, "wouldWin", "(I)I"⟩
abbrev cX7_winner : ByteArray := prog_9_method_89_code
def yX7_winner : MethodName := ⟨RX7, "winner", "(I)I"⟩
abbrev cX7_leastFor : ByteArray := prog_9_method_90_code
def yX7_leastFor : MethodName := ⟨RX7, "leastFor", "(II)I"⟩
abbrev cX7_leastBid : ByteArray := prog_9_method_91_code
def yX7_leastBid : MethodName := ⟨RX7, "leastBid", "(II)I"⟩
abbrev cX7_ifUpkeep : ByteArray := prog_9_method_92_code
def yX7_ifUpkeep : MethodName := ⟨RX7, "ifUpkeep", "(II)I"⟩
abbrev cX7_digits : ByteArray := prog_9_method_93_code
def yX7_digits : MethodName := ⟨RX7, "digits", "(III)I"⟩
abbrev cX7_succeeds : ByteArray := prog_9_method_94_code
def yX7_succeeds : MethodName := ⟨RX7, "succeeds", "(I)Z"⟩
abbrev cX7_runs : ByteArray := prog_9_method_95_code
def yX7_runs : MethodName := ⟨RX7, "runs", "(IJ)I"⟩
abbrev cX7_runScript : ByteArray := prog_9_method_96_code
def yX7_runScript : MethodName := ⟨RX7, "runScript", "(IJ)I"⟩
abbrev cX7_turns : ByteArray := prog_9_method_97_code
def yX7_turns : MethodName := ⟨RX7, "turns", "(I)I"⟩
abbrev cX7_simulates : ByteArray := prog_9_method_98_code
def yX7_simulates : MethodName := ⟨RX7, "simulates", "(JI)I"⟩
abbrev cX7_simulate : ByteArray := prog_9_method_99_code
def yX7_simulate : MethodName := ⟨RX7, "simulate", "(JI)I"⟩
abbrev cX7_save : ByteArray := prog_9_method_100_code
def yX7_save : MethodName := ⟨RX7, "save", "(I)I"⟩
abbrev cX7_restore : ByteArray := prog_9_method_101_code
def yX7_restore : MethodName := ⟨RX7, "restore", "(I)I"⟩
def RJx145de : String := "java/io/Serializable"
def TJx145de : u_T := fun k => match k with
  | _ => ("", "", "", false)
def tyJx145de : Nat → FieldType := fun k => match k with
  | _ => .int
theorem nmJx145de : ∀ a, a < 0 → ∀ b, b < 0 → a ≠ b → (TJx145de a).2.1 ≠ (TJx145de b).2.1 := by decide +kernel
def RJx9f9b0 : String := "java/lang/CharSequence"
def TJx9f9b0 : u_T := fun k => match k with
  | _ => ("", "", "", false)
def tyJx9f9b0 : Nat → FieldType := fun k => match k with
  | _ => .int
theorem nmJx9f9b0 : ∀ a, a < 0 → ∀ b, b < 0 → a ≠ b → (TJx9f9b0 a).2.1 ≠ (TJx9f9b0 b).2.1 := by decide +kernel
def RJ11 : String := "java/lang/Character"
def TJ11 : u_T := fun k => match k with
  | _ => ("", "", "", false)
def tyJ11 : Nat → FieldType := fun k => match k with
  | _ => .int
theorem nmJ11 : ∀ a, a < 0 → ∀ b, b < 0 → a ≠ b → (TJ11 a).2.1 ≠ (TJ11 b).2.1 := by decide +kernel
theorem tyJ11_ok : ∀ k, k < 0 → parseFieldDescriptor (TJ11 k).2.2.1 = some (tyJ11 k) := by decide +kernel
abbrev cJ11_isValidCodePoint_9a6ad : ByteArray := prog_10_method_11_code
def yJ11_isValidCodePoint_9a6ad : MethodName := ⟨RJ11, "isValidCodePoint", "(I)Z"⟩
abbrev cJ11_highSurrogate_5068e : ByteArray := prog_10_method_28_code
def yJ11_highSurrogate_5068e : MethodName := ⟨RJ11, "highSurrogate", "(I)C"⟩
abbrev cJ11_lowSurrogate_5068e : ByteArray := prog_10_method_29_code
def yJ11_lowSurrogate_5068e : MethodName := ⟨RJ11, "lowSurrogate", "(I)C"⟩
def RJxb160c : String := "java/lang/Comparable"
def TJxb160c : u_T := fun k => match k with
  | _ => ("", "", "", false)
def tyJxb160c : Nat → FieldType := fun k => match k with
  | _ => .int
theorem nmJxb160c : ∀ a, a < 0 → ∀ b, b < 0 → a ≠ b → (TJxb160c a).2.1 ≠ (TJxb160c b).2.1 := by decide +kernel
def RJ6 : String := "java/lang/Integer"
def TJ6 : u_T := fun k => match k with
  | _ => ("", "", "", false)
def tyJ6 : Nat → FieldType := fun k => match k with
  | _ => .int
theorem nmJ6 : ∀ a, a < 0 → ∀ b, b < 0 → a ≠ b → (TJ6 a).2.1 ≠ (TJ6 b).2.1 := by decide +kernel
theorem tyJ6_ok : ∀ k, k < 0 → parseFieldDescriptor (TJ6 k).2.2.1 = some (tyJ6 k) := by decide +kernel
abbrev cJ6_bitCount_0f7a4 : ByteArray := prog_15_method_49_code
def yJ6_bitCount_0f7a4 : MethodName := ⟨RJ6, "bitCount", "(I)I"⟩
def RJ9 : String := "java/lang/Math"
def TJ9 : u_T := fun k => match k with
  | _ => ("", "", "", false)
def tyJ9 : Nat → FieldType := fun k => match k with
  | _ => .int
theorem nmJ9 : ∀ a, a < 0 → ∀ b, b < 0 → a ≠ b → (TJ9 a).2.1 ≠ (TJ9 b).2.1 := by decide +kernel
theorem tyJ9_ok : ∀ k, k < 0 → parseFieldDescriptor (TJ9 k).2.2.1 = some (tyJ9 k) := by decide +kernel
abbrev cJ9_max_7cf53 : ByteArray := prog_16_method_65_code
def yJ9_max_7cf53 : MethodName := ⟨RJ9, "max", "(II)I"⟩
abbrev cJ9_min_7cf53 : ByteArray := prog_16_method_69_code
def yJ9_min_7cf53 : MethodName := ⟨RJ9, "min", "(II)I"⟩
def RJ0 : String := "java/lang/String"
def TJ0 : u_T := fun k => match k with
  | _ => ("", "", "", false)
def tyJ0 : Nat → FieldType := fun k => match k with
  | _ => .int
theorem nmJ0 : ∀ a, a < 0 → ∀ b, b < 0 → a ≠ b → (TJ0 a).2.1 ≠ (TJ0 b).2.1 := by decide +kernel
theorem tyJ0_ok : ∀ k, k < 0 → parseFieldDescriptor (TJ0 k).2.2.1 = some (tyJ0 k) := by decide +kernel
abbrev cJ0_length_8abf5 : ByteArray := prog_18_method_54_code
def yJ0_length_8abf5 : MethodName := ⟨RJ0, "length", "()I"⟩
abbrev cJ0_indexOf_0f7a4 : ByteArray := prog_18_method_79_code
def yJ0_indexOf_0f7a4 : MethodName := ⟨RJ0, "indexOf", "(I)I"⟩
abbrev cJ0_indexOf_7cf53 : ByteArray := prog_18_method_80_code
def yJ0_indexOf_7cf53 : MethodName := ⟨RJ0, "indexOf", "(II)I"⟩
abbrev cJ0_coder_7d493 : ByteArray := prog_18_method_152_code
def yJ0_coder_7d493 : MethodName := ⟨RJ0, "coder", "()B"⟩
abbrev cJ0_isLatin1_aae02 : ByteArray := prog_18_method_154_code
def yJ0_isLatin1_aae02 : MethodName := ⟨RJ0, "isLatin1", "()Z"⟩
abbrev cJ0_checkBoundsBeginEnd_23922 : ByteArray := prog_18_method_158_code
def yJ0_checkBoundsBeginEnd_23922 : MethodName := ⟨RJ0, "checkBoundsBeginEnd", "(III)V"⟩
def RJ1 : String := "java/lang/StringLatin1"
def TJ1 : u_T := fun k => match k with
  | _ => ("", "", "", false)
def tyJ1 : Nat → FieldType := fun k => match k with
  | _ => .int
theorem nmJ1 : ∀ a, a < 0 → ∀ b, b < 0 → a ≠ b → (TJ1 a).2.1 ≠ (TJ1 b).2.1 := by decide +kernel
theorem tyJ1_ok : ∀ k, k < 0 → parseFieldDescriptor (TJ1 k).2.2.1 = some (tyJ1 k) := by decide +kernel
abbrev cJ1_canEncode_9a6ad : ByteArray := prog_19_method_4_code
def yJ1_canEncode_9a6ad : MethodName := ⟨RJ1, "canEncode", "(I)Z"⟩
abbrev cJ1_indexOf_4cfef : ByteArray := prog_19_method_22_code
def yJ1_indexOf_4cfef : MethodName := ⟨RJ1, "indexOf", "([BIII)I"⟩
abbrev cJ1_indexOfChar_4cfef : ByteArray := prog_19_method_23_code
def yJ1_indexOfChar_4cfef : MethodName := ⟨RJ1, "indexOfChar", "([BIII)I"⟩
def RJ2 : String := "java/lang/StringUTF16"
def TJ2 : u_T := fun k => match k with
  | _ => ("", "", "", false)
def tyJ2 : Nat → FieldType := fun k => match k with
  | _ => .int
theorem nmJ2 : ∀ a, a < 0 → ∀ b, b < 0 → a ≠ b → (TJ2 a).2.1 ≠ (TJ2 b).2.1 := by decide +kernel
theorem tyJ2_ok : ∀ k, k < 0 → parseFieldDescriptor (TJ2 k).2.2.1 = some (tyJ2 k) := by decide +kernel
abbrev cJ2_getChar_3b067 : ByteArray := prog_20_method_5_code
def yJ2_getChar_3b067 : MethodName := ⟨RJ2, "getChar", "([BI)C"⟩
abbrev cJ2_length_9d52b : ByteArray := prog_20_method_6_code
def yJ2_length_9d52b : MethodName := ⟨RJ2, "length", "([B)I"⟩
abbrev cJ2_indexOf_4cfef : ByteArray := prog_20_method_40_code
def yJ2_indexOf_4cfef : MethodName := ⟨RJ2, "indexOf", "([BIII)I"⟩
abbrev cJ2_indexOfChar_4cfef : ByteArray := prog_20_method_47_code
def yJ2_indexOfChar_4cfef : MethodName := ⟨RJ2, "indexOfChar", "([BIII)I"⟩
abbrev cJ2_indexOfCharUnsafe_4cfef : ByteArray := prog_20_method_48_code
def yJ2_indexOfCharUnsafe_4cfef : MethodName := ⟨RJ2, "indexOfCharUnsafe", "([BIII)I"⟩
abbrev cJ2_indexOfSupplementary_4cfef : ByteArray := prog_20_method_49_code
def yJ2_indexOfSupplementary_4cfef : MethodName := ⟨RJ2, "indexOfSupplementary", "([BIII)I"⟩
abbrev cJ2_checkBoundsBeginEnd_d044e : ByteArray := prog_20_method_93_code
def yJ2_checkBoundsBeginEnd_d044e : MethodName := ⟨RJ2, "checkBoundsBeginEnd", "(II[B)V"⟩
def RJ10 : String := "java/lang/System"
def TJ10 : u_T := fun k => match k with
  | _ => ("", "", "", false)
def tyJ10 : Nat → FieldType := fun k => match k with
  | _ => .int
theorem nmJ10 : ∀ a, a < 0 → ∀ b, b < 0 → a ≠ b → (TJ10 a).2.1 ≠ (TJ10 b).2.1 := by decide +kernel
theorem tyJ10_ok : ∀ k, k < 0 → parseFieldDescriptor (TJ10 k).2.2.1 = some (tyJ10 k) := by decide +kernel
def RJxfd54e : String := "java/lang/constant/Constable"
def TJxfd54e : u_T := fun k => match k with
  | _ => ("", "", "", false)
def tyJxfd54e : Nat → FieldType := fun k => match k with
  | _ => .int
theorem nmJxfd54e : ∀ a, a < 0 → ∀ b, b < 0 → a ≠ b → (TJxfd54e a).2.1 ≠ (TJxfd54e b).2.1 := by decide +kernel
def RJx3cf43 : String := "java/lang/constant/ConstantDesc"
def TJx3cf43 : u_T := fun k => match k with
  | _ => ("", "", "", false)
def tyJx3cf43 : Nat → FieldType := fun k => match k with
  | _ => .int
theorem nmJx3cf43 : ∀ a, a < 0 → ∀ b, b < 0 → a ≠ b → (TJx3cf43 a).2.1 ≠ (TJx3cf43 b).2.1 := by decide +kernel
def RJ7 : String := "java/util/Arrays"
def TJ7 : u_T := fun k => match k with
  | _ => ("", "", "", false)
def tyJ7 : Nat → FieldType := fun k => match k with
  | _ => .int
theorem nmJ7 : ∀ a, a < 0 → ∀ b, b < 0 → a ≠ b → (TJ7 a).2.1 ≠ (TJ7 b).2.1 := by decide +kernel
theorem tyJ7_ok : ∀ k, k < 0 → parseFieldDescriptor (TJ7 k).2.2.1 = some (tyJ7 k) := by decide +kernel
abbrev cJ7_fill_53178 : ByteArray := prog_23_method_103_code
def yJ7_fill_53178 : MethodName := ⟨RJ7, "fill", "([II)V"⟩
def RJ3 : String := "jdk/internal/util/Preconditions"
def TJ3 : u_T := fun k => match k with
  | _ => ("", "", "", false)
def tyJ3 : Nat → FieldType := fun k => match k with
  | _ => .int
theorem nmJ3 : ∀ a, a < 0 → ∀ b, b < 0 → a ≠ b → (TJ3 a).2.1 ≠ (TJ3 b).2.1 := by decide +kernel
theorem tyJ3_ok : ∀ k, k < 0 → parseFieldDescriptor (TJ3 k).2.2.1 = some (tyJ3 k) := by decide +kernel
abbrev cJ3_checkFromToIndex_8c36e : ByteArray := prog_24_method_12_code
def yJ3_checkFromToIndex_8c36e : MethodName := ⟨RJ3, "checkFromToIndex", "(IIILjava/util/function/BiFunction;)I"⟩
def RL : String := "CottageWeeksLaw"
abbrev cL_append : ByteArray := method_3_code
def yL_append : MethodName := ⟨RL, "append", "(LCottageWeeks;I[J)I"⟩
abbrev cL_load : ByteArray := method_4_code
def yL_load : MethodName := ⟨RL, "load", "(LCottageWeeks;[J)I"⟩
abbrev cL_about : ByteArray := method_5_code
def yL_about : MethodName := ⟨RL, "about", "(LCottageWeeks;I[J)I"⟩
abbrev cL_ownerOf : ByteArray := method_6_code
def yL_ownerOf : MethodName := ⟨RL, "ownerOf", "(LCottageWeeks;II[J)I"⟩
abbrev cL_weekOf : ByteArray := method_7_code
def yL_weekOf : MethodName := ⟨RL, "weekOf", "(LCottageWeeks;II[J)I"⟩
abbrev cL_bidOf : ByteArray := method_8_code
def yL_bidOf : MethodName := ⟨RL, "bidOf", "(LCottageWeeks;II[J)I"⟩
abbrev cL_offerOf : ByteArray := method_9_code
def yL_offerOf : MethodName := ⟨RL, "offerOf", "(LCottageWeeks;II[J)I"⟩
abbrev cL_owner : ByteArray := method_10_code
def yL_owner : MethodName := ⟨RL, "owner", "(LCottageWeeks;I[J)I"⟩
abbrev cL_cost : ByteArray := method_11_code
def yL_cost : MethodName := ⟨RL, "cost", "(LCottageWeeks;II[J)I"⟩
abbrev cL_school : ByteArray := method_12_code
def yL_school : MethodName := ⟨RL, "school", "(LCottageWeeks;IZ[J)I"⟩
abbrev cL_take : ByteArray := method_13_code
def yL_take : MethodName := ⟨RL, "take", "(LCottageWeeks;II[J)I"⟩
abbrev cL_release : ByteArray := method_14_code
def yL_release : MethodName := ⟨RL, "release", "(LCottageWeeks;II[J)I"⟩
abbrev cL_bid : ByteArray := method_15_code
def yL_bid : MethodName := ⟨RL, "bid", "(LCottageWeeks;III[J)I"⟩
abbrev cL_offer : ByteArray := method_16_code
def yL_offer : MethodName := ⟨RL, "offer", "(LCottageWeeks;III[J)I"⟩
abbrev cL_accept : ByteArray := method_17_code
def yL_accept : MethodName := ⟨RL, "accept", "(LCottageWeeks;I[J)I"⟩
abbrev cL_upkeep : ByteArray := method_18_code
def yL_upkeep : MethodName := ⟨RL, "upkeep", "(LCottageWeeks;I[J)I"⟩
abbrev cL_set : ByteArray := method_19_code
def yL_set : MethodName := ⟨RL, "set", "(LCottageWeeks;II[J)I"⟩
abbrev cL_undo : ByteArray := method_20_code
def yL_undo : MethodName := ⟨RL, "undo", "(LCottageWeeks;[J)I"⟩
abbrev cL_why : ByteArray := method_21_code
def yL_why : MethodName := ⟨RL, "why", "(LCottageWeeks;II[J)I"⟩
abbrev cL_could : ByteArray := method_22_code
def yL_could : MethodName := ⟨RL, "could", "(LCottageWeeks;I[J)I"⟩
abbrev cL_winner : ByteArray := method_23_code
def yL_winner : MethodName := ⟨RL, "winner", "(LCottageWeeks;I[J)I"⟩
abbrev cL_leastBid : ByteArray := method_24_code
def yL_leastBid : MethodName := ⟨RL, "leastBid", "(LCottageWeeks;II[J)I"⟩
abbrev cL_ifUpkeep : ByteArray := method_25_code
def yL_ifUpkeep : MethodName := ⟨RL, "ifUpkeep", "(LCottageWeeks;II[J)I"⟩
abbrev cL_runScript : ByteArray := method_26_code
def yL_runScript : MethodName := ⟨RL, "runScript", "(LCottageWeeks;IJ[J)I"⟩
abbrev cL_simulate : ByteArray := method_27_code
def yL_simulate : MethodName := ⟨RL, "simulate", "(LCottageWeeks;JI[J)I"⟩
abbrev cL_save : ByteArray := method_28_code
def yL_save : MethodName := ⟨RL, "save", "(LCottageWeeks;I[J)I"⟩
abbrev cL_restore : ByteArray := method_29_code
def yL_restore : MethodName := ⟨RL, "restore", "(LCottageWeeks;I[J)I"⟩
abbrev cL_law : ByteArray := code
def yL_law : MethodName := ⟨RL, "law", "([I)Z"⟩
theorem dX0_init_0 : decode cX0_init 0 = .ok (.aload_n 0, 1) := by decide +kernel
theorem dX0_init_1 : decode cX0_init 1 = .ok (.invokespecial 3, 3) := by decide +kernel
theorem dX0_init_4 : decode cX0_init 4 = .ok (.aload_n 0, 1) := by decide +kernel
theorem dX0_init_5 : decode cX0_init 5 = .ok (.bipush 14, 2) := by decide +kernel
theorem dX0_init_7 : decode cX0_init 7 = .ok (.anewarray 9, 3) := by decide +kernel
theorem dX0_init_10 : decode cX0_init 10 = .ok (.putfield 11, 3) := by decide +kernel
theorem dX0_init_13 : decode cX0_init 13 = .ok (.iconst 0, 1) := by decide +kernel
theorem dX0_init_14 : decode cX0_init 14 = .ok (.istore_n 1, 1) := by decide +kernel
theorem dX0_init_15 : decode cX0_init 15 = .ok (.iload_n 1, 1) := by decide +kernel
theorem dX0_init_16 : decode cX0_init 16 = .ok (.bipush 14, 2) := by decide +kernel
theorem dX0_init_18 : decode cX0_init 18 = .ok (.if_icmp .ge 22, 3) := by decide +kernel
theorem dX0_init_21 : decode cX0_init 21 = .ok (.aload_n 0, 1) := by decide +kernel
theorem dX0_init_22 : decode cX0_init 22 = .ok (.getfield 11, 3) := by decide +kernel
theorem dX0_init_25 : decode cX0_init 25 = .ok (.iload_n 1, 1) := by decide +kernel
theorem dX0_init_26 : decode cX0_init 26 = .ok (.new 9, 3) := by decide +kernel
theorem dX0_init_29 : decode cX0_init 29 = .ok (.dup, 1) := by decide +kernel
theorem dX0_init_30 : decode cX0_init 30 = .ok (.invokespecial 17, 3) := by decide +kernel
theorem dX0_init_33 : decode cX0_init 33 = .ok (.aastore, 1) := by decide +kernel
theorem dX0_init_34 : decode cX0_init 34 = .ok (.iinc 1 1, 3) := by decide +kernel
theorem dX0_init_37 : decode cX0_init 37 = .ok (.goto (-22), 3) := by decide +kernel
theorem dX0_init_40 : decode cX0_init 40 = .ok (.return_, 1) := by decide +kernel
theorem dX0_isEmpty_0 : decode cX0_isEmpty 0 = .ok (.aload_n 0, 1) := by decide +kernel
theorem dX0_isEmpty_1 : decode cX0_isEmpty 1 = .ok (.getfield 18, 3) := by decide +kernel
theorem dX0_isEmpty_4 : decode cX0_isEmpty 4 = .ok (.ifCond .ne 7, 3) := by decide +kernel
theorem dX0_isEmpty_7 : decode cX0_isEmpty 7 = .ok (.iconst 1, 1) := by decide +kernel
theorem dX0_isEmpty_8 : decode cX0_isEmpty 8 = .ok (.goto 4, 3) := by decide +kernel
theorem dX0_isEmpty_11 : decode cX0_isEmpty 11 = .ok (.iconst 0, 1) := by decide +kernel
theorem dX0_isEmpty_12 : decode cX0_isEmpty 12 = .ok (.ireturn, 1) := by decide +kernel
theorem dX0_forget_0 : decode cX0_forget 0 = .ok (.aload_n 0, 1) := by decide +kernel
theorem dX0_forget_1 : decode cX0_forget 1 = .ok (.iconst 0, 1) := by decide +kernel
theorem dX0_forget_2 : decode cX0_forget 2 = .ok (.putfield 18, 3) := by decide +kernel
theorem dX0_forget_5 : decode cX0_forget 5 = .ok (.return_, 1) := by decide +kernel
theorem dX0_remember_0 : decode cX0_remember 0 = .ok (.aload_n 0, 1) := by decide +kernel
theorem dX0_remember_1 : decode cX0_remember 1 = .ok (.getfield 18, 3) := by decide +kernel
theorem dX0_remember_4 : decode cX0_remember 4 = .ok (.bipush 14, 2) := by decide +kernel
theorem dX0_remember_6 : decode cX0_remember 6 = .ok (.if_icmp .lt 26, 3) := by decide +kernel
theorem dX0_remember_9 : decode cX0_remember 9 = .ok (.aload_n 0, 1) := by decide +kernel
theorem dX0_remember_10 : decode cX0_remember 10 = .ok (.aload_n 0, 1) := by decide +kernel
theorem dX0_remember_11 : decode cX0_remember 11 = .ok (.getfield 22, 3) := by decide +kernel
theorem dX0_remember_14 : decode cX0_remember 14 = .ok (.iconst 1, 1) := by decide +kernel
theorem dX0_remember_15 : decode cX0_remember 15 = .ok (.iadd, 1) := by decide +kernel
theorem dX0_remember_16 : decode cX0_remember 16 = .ok (.bipush 14, 2) := by decide +kernel
theorem dX0_remember_18 : decode cX0_remember 18 = .ok (.irem, 1) := by decide +kernel
theorem dX0_remember_19 : decode cX0_remember 19 = .ok (.putfield 22, 3) := by decide +kernel
theorem dX0_remember_22 : decode cX0_remember 22 = .ok (.aload_n 0, 1) := by decide +kernel
theorem dX0_remember_23 : decode cX0_remember 23 = .ok (.dup, 1) := by decide +kernel
theorem dX0_remember_24 : decode cX0_remember 24 = .ok (.getfield 18, 3) := by decide +kernel
theorem dX0_remember_27 : decode cX0_remember 27 = .ok (.iconst 1, 1) := by decide +kernel
theorem dX0_remember_28 : decode cX0_remember 28 = .ok (.isub, 1) := by decide +kernel
theorem dX0_remember_29 : decode cX0_remember 29 = .ok (.putfield 18, 3) := by decide +kernel
theorem dX0_remember_32 : decode cX0_remember 32 = .ok (.aload_n 0, 1) := by decide +kernel
theorem dX0_remember_33 : decode cX0_remember 33 = .ok (.getfield 11, 3) := by decide +kernel
theorem dX0_remember_36 : decode cX0_remember 36 = .ok (.aload_n 0, 1) := by decide +kernel
theorem dX0_remember_37 : decode cX0_remember 37 = .ok (.getfield 22, 3) := by decide +kernel
theorem dX0_remember_40 : decode cX0_remember 40 = .ok (.aload_n 0, 1) := by decide +kernel
theorem dX0_remember_41 : decode cX0_remember 41 = .ok (.getfield 18, 3) := by decide +kernel
theorem dX0_remember_44 : decode cX0_remember 44 = .ok (.iadd, 1) := by decide +kernel
theorem dX0_remember_45 : decode cX0_remember 45 = .ok (.bipush 14, 2) := by decide +kernel
theorem dX0_remember_47 : decode cX0_remember 47 = .ok (.irem, 1) := by decide +kernel
theorem dX0_remember_48 : decode cX0_remember 48 = .ok (.aaload, 1) := by decide +kernel
theorem dX0_remember_49 : decode cX0_remember 49 = .ok (.aload_n 1, 1) := by decide +kernel
theorem dX0_remember_50 : decode cX0_remember 50 = .ok (.invokevirtual 25, 3) := by decide +kernel
theorem dX0_remember_53 : decode cX0_remember 53 = .ok (.aload_n 0, 1) := by decide +kernel
theorem dX0_remember_54 : decode cX0_remember 54 = .ok (.dup, 1) := by decide +kernel
theorem dX0_remember_55 : decode cX0_remember 55 = .ok (.getfield 18, 3) := by decide +kernel
theorem dX0_remember_58 : decode cX0_remember 58 = .ok (.iconst 1, 1) := by decide +kernel
theorem dX0_remember_59 : decode cX0_remember 59 = .ok (.iadd, 1) := by decide +kernel
theorem dX0_remember_60 : decode cX0_remember 60 = .ok (.putfield 18, 3) := by decide +kernel
theorem dX0_remember_63 : decode cX0_remember 63 = .ok (.return_, 1) := by decide +kernel
theorem dX0_takeBack_0 : decode cX0_takeBack 0 = .ok (.aload_n 0, 1) := by decide +kernel
theorem dX0_takeBack_1 : decode cX0_takeBack 1 = .ok (.getfield 18, 3) := by decide +kernel
theorem dX0_takeBack_4 : decode cX0_takeBack 4 = .ok (.ifCond .le 34, 3) := by decide +kernel
theorem dX0_takeBack_7 : decode cX0_takeBack 7 = .ok (.aload_n 0, 1) := by decide +kernel
theorem dX0_takeBack_8 : decode cX0_takeBack 8 = .ok (.dup, 1) := by decide +kernel
theorem dX0_takeBack_9 : decode cX0_takeBack 9 = .ok (.getfield 18, 3) := by decide +kernel
theorem dX0_takeBack_12 : decode cX0_takeBack 12 = .ok (.iconst 1, 1) := by decide +kernel
theorem dX0_takeBack_13 : decode cX0_takeBack 13 = .ok (.isub, 1) := by decide +kernel
theorem dX0_takeBack_14 : decode cX0_takeBack 14 = .ok (.putfield 18, 3) := by decide +kernel
theorem dX0_takeBack_17 : decode cX0_takeBack 17 = .ok (.aload_n 1, 1) := by decide +kernel
theorem dX0_takeBack_18 : decode cX0_takeBack 18 = .ok (.aload_n 0, 1) := by decide +kernel
theorem dX0_takeBack_19 : decode cX0_takeBack 19 = .ok (.getfield 11, 3) := by decide +kernel
theorem dX0_takeBack_22 : decode cX0_takeBack 22 = .ok (.aload_n 0, 1) := by decide +kernel
theorem dX0_takeBack_23 : decode cX0_takeBack 23 = .ok (.getfield 22, 3) := by decide +kernel
theorem dX0_takeBack_26 : decode cX0_takeBack 26 = .ok (.aload_n 0, 1) := by decide +kernel
theorem dX0_takeBack_27 : decode cX0_takeBack 27 = .ok (.getfield 18, 3) := by decide +kernel
theorem dX0_takeBack_30 : decode cX0_takeBack 30 = .ok (.iadd, 1) := by decide +kernel
theorem dX0_takeBack_31 : decode cX0_takeBack 31 = .ok (.bipush 14, 2) := by decide +kernel
theorem dX0_takeBack_33 : decode cX0_takeBack 33 = .ok (.irem, 1) := by decide +kernel
theorem dX0_takeBack_34 : decode cX0_takeBack 34 = .ok (.aaload, 1) := by decide +kernel
theorem dX0_takeBack_35 : decode cX0_takeBack 35 = .ok (.invokevirtual 25, 3) := by decide +kernel
theorem dX0_takeBack_38 : decode cX0_takeBack 38 = .ok (.aload_n 0, 1) := by decide +kernel
theorem dX0_takeBack_39 : decode cX0_takeBack 39 = .ok (.getfield 18, 3) := by decide +kernel
theorem dX0_takeBack_42 : decode cX0_takeBack 42 = .ok (.ireturn, 1) := by decide +kernel
theorem dX1_init_0 : decode cX1_init 0 = .ok (.aload_n 0, 1) := by decide +kernel
theorem dX1_init_1 : decode cX1_init 1 = .ok (.invokespecial 3, 3) := by decide +kernel
theorem dX1_init_4 : decode cX1_init 4 = .ok (.aload_n 0, 1) := by decide +kernel
theorem dX1_init_5 : decode cX1_init 5 = .ok (.iconst 3, 1) := by decide +kernel
theorem dX1_init_6 : decode cX1_init 6 = .ok (.newarray .int, 2) := by decide +kernel
theorem dX1_init_8 : decode cX1_init 8 = .ok (.putfield 9, 3) := by decide +kernel
theorem dX1_init_11 : decode cX1_init 11 = .ok (.aload_n 0, 1) := by decide +kernel
theorem dX1_init_12 : decode cX1_init 12 = .ok (.bipush 8, 2) := by decide +kernel
theorem dX1_init_14 : decode cX1_init 14 = .ok (.newarray .int, 2) := by decide +kernel
theorem dX1_init_16 : decode cX1_init 16 = .ok (.putfield 15, 3) := by decide +kernel
theorem dX1_init_19 : decode cX1_init 19 = .ok (.aload_n 0, 1) := by decide +kernel
theorem dX1_init_20 : decode cX1_init 20 = .ok (.bipush 6, 2) := by decide +kernel
theorem dX1_init_22 : decode cX1_init 22 = .ok (.newarray .int, 2) := by decide +kernel
theorem dX1_init_24 : decode cX1_init 24 = .ok (.putfield 18, 3) := by decide +kernel
theorem dX1_init_27 : decode cX1_init 27 = .ok (.aload_n 0, 1) := by decide +kernel
theorem dX1_init_28 : decode cX1_init 28 = .ok (.bipush 6, 2) := by decide +kernel
theorem dX1_init_30 : decode cX1_init 30 = .ok (.newarray .int, 2) := by decide +kernel
theorem dX1_init_32 : decode cX1_init 32 = .ok (.putfield 21, 3) := by decide +kernel
theorem dX1_init_35 : decode cX1_init 35 = .ok (.aload_n 0, 1) := by decide +kernel
theorem dX1_init_36 : decode cX1_init 36 = .ok (.bipush 6, 2) := by decide +kernel
theorem dX1_init_38 : decode cX1_init 38 = .ok (.newarray .int, 2) := by decide +kernel
theorem dX1_init_40 : decode cX1_init 40 = .ok (.putfield 24, 3) := by decide +kernel
theorem dX1_init_43 : decode cX1_init 43 = .ok (.aload_n 0, 1) := by decide +kernel
theorem dX1_init_44 : decode cX1_init 44 = .ok (.bipush 6, 2) := by decide +kernel
theorem dX1_init_46 : decode cX1_init 46 = .ok (.newarray .int, 2) := by decide +kernel
theorem dX1_init_48 : decode cX1_init 48 = .ok (.putfield 27, 3) := by decide +kernel
theorem dX1_init_51 : decode cX1_init 51 = .ok (.aload_n 0, 1) := by decide +kernel
theorem dX1_init_52 : decode cX1_init 52 = .ok (.bipush 20, 2) := by decide +kernel
theorem dX1_init_54 : decode cX1_init 54 = .ok (.newarray .int, 2) := by decide +kernel
theorem dX1_init_56 : decode cX1_init 56 = .ok (.putfield 30, 3) := by decide +kernel
theorem dX1_init_59 : decode cX1_init 59 = .ok (.aload_n 0, 1) := by decide +kernel
theorem dX1_init_60 : decode cX1_init 60 = .ok (.bipush 20, 2) := by decide +kernel
theorem dX1_init_62 : decode cX1_init 62 = .ok (.newarray .boolean, 2) := by decide +kernel
theorem dX1_init_64 : decode cX1_init 64 = .ok (.putfield 33, 3) := by decide +kernel
theorem dX1_init_67 : decode cX1_init 67 = .ok (.aload_n 0, 1) := by decide +kernel
theorem dX1_init_68 : decode cX1_init 68 = .ok (.bipush 20, 2) := by decide +kernel
theorem dX1_init_70 : decode cX1_init 70 = .ok (.newarray .int, 2) := by decide +kernel
theorem dX1_init_72 : decode cX1_init 72 = .ok (.putfield 37, 3) := by decide +kernel
theorem dX1_init_75 : decode cX1_init 75 = .ok (.aload_n 0, 1) := by decide +kernel
theorem dX1_init_76 : decode cX1_init 76 = .ok (.bipush 120, 2) := by decide +kernel
theorem dX1_init_78 : decode cX1_init 78 = .ok (.newarray .int, 2) := by decide +kernel
theorem dX1_init_80 : decode cX1_init 80 = .ok (.putfield 40, 3) := by decide +kernel
theorem dX1_init_83 : decode cX1_init 83 = .ok (.aload_n 0, 1) := by decide +kernel
theorem dX1_init_84 : decode cX1_init 84 = .ok (.bipush 8, 2) := by decide +kernel
theorem dX1_init_86 : decode cX1_init 86 = .ok (.newarray .int, 2) := by decide +kernel
theorem dX1_init_88 : decode cX1_init 88 = .ok (.putfield 43, 3) := by decide +kernel
theorem dX1_init_91 : decode cX1_init 91 = .ok (.aload_n 0, 1) := by decide +kernel
theorem dX1_init_92 : decode cX1_init 92 = .ok (.bipush 8, 2) := by decide +kernel
theorem dX1_init_94 : decode cX1_init 94 = .ok (.newarray .int, 2) := by decide +kernel
theorem dX1_init_96 : decode cX1_init 96 = .ok (.putfield 46, 3) := by decide +kernel
theorem dX1_init_99 : decode cX1_init 99 = .ok (.aload_n 0, 1) := by decide +kernel
theorem dX1_init_100 : decode cX1_init 100 = .ok (.bipush 8, 2) := by decide +kernel
theorem dX1_init_102 : decode cX1_init 102 = .ok (.newarray .int, 2) := by decide +kernel
theorem dX1_init_104 : decode cX1_init 104 = .ok (.putfield 49, 3) := by decide +kernel
theorem dX1_init_107 : decode cX1_init 107 = .ok (.aload_n 0, 1) := by decide +kernel
theorem dX1_init_108 : decode cX1_init 108 = .ok (.invokevirtual 52, 3) := by decide +kernel
theorem dX1_init_111 : decode cX1_init 111 = .ok (.return_, 1) := by decide +kernel
theorem dX1_clear_0 : decode cX1_clear 0 = .ok (.getstatic 55, 3) := by decide +kernel
theorem dX1_clear_3 : decode cX1_clear 3 = .ok (.iconst 0, 1) := by decide +kernel
theorem dX1_clear_4 : decode cX1_clear 4 = .ok (.aload_n 0, 1) := by decide +kernel
theorem dX1_clear_5 : decode cX1_clear 5 = .ok (.getfield 9, 3) := by decide +kernel
theorem dX1_clear_8 : decode cX1_clear 8 = .ok (.iconst 0, 1) := by decide +kernel
theorem dX1_clear_9 : decode cX1_clear 9 = .ok (.iconst 3, 1) := by decide +kernel
theorem dX1_clear_10 : decode cX1_clear 10 = .ok (.invokestatic 58, 3) := by decide +kernel
theorem dX1_clear_13 : decode cX1_clear 13 = .ok (.aload_n 0, 1) := by decide +kernel
theorem dX1_clear_14 : decode cX1_clear 14 = .ok (.getfield 15, 3) := by decide +kernel
theorem dX1_clear_17 : decode cX1_clear 17 = .ok (.iconst 0, 1) := by decide +kernel
theorem dX1_clear_18 : decode cX1_clear 18 = .ok (.invokestatic 64, 3) := by decide +kernel
theorem dX1_clear_21 : decode cX1_clear 21 = .ok (.aload_n 0, 1) := by decide +kernel
theorem dX1_clear_22 : decode cX1_clear 22 = .ok (.iconst 0, 1) := by decide +kernel
theorem dX1_clear_23 : decode cX1_clear 23 = .ok (.putfield 70, 3) := by decide +kernel
theorem dX1_clear_26 : decode cX1_clear 26 = .ok (.aload_n 0, 1) := by decide +kernel
theorem dX1_clear_27 : decode cX1_clear 27 = .ok (.iconst 0, 1) := by decide +kernel
theorem dX1_clear_28 : decode cX1_clear 28 = .ok (.putfield 74, 3) := by decide +kernel
theorem dX1_clear_31 : decode cX1_clear 31 = .ok (.aload_n 0, 1) := by decide +kernel
theorem dX1_clear_32 : decode cX1_clear 32 = .ok (.getfield 18, 3) := by decide +kernel
theorem dX1_clear_35 : decode cX1_clear 35 = .ok (.iconst 0, 1) := by decide +kernel
theorem dX1_clear_36 : decode cX1_clear 36 = .ok (.invokestatic 64, 3) := by decide +kernel
theorem dX1_clear_39 : decode cX1_clear 39 = .ok (.aload_n 0, 1) := by decide +kernel
theorem dX1_clear_40 : decode cX1_clear 40 = .ok (.getfield 21, 3) := by decide +kernel
theorem dX1_clear_43 : decode cX1_clear 43 = .ok (.iconst 0, 1) := by decide +kernel
theorem dX1_clear_44 : decode cX1_clear 44 = .ok (.invokestatic 64, 3) := by decide +kernel
theorem dX1_clear_47 : decode cX1_clear 47 = .ok (.aload_n 0, 1) := by decide +kernel
theorem dX1_clear_48 : decode cX1_clear 48 = .ok (.getfield 24, 3) := by decide +kernel
theorem dX1_clear_51 : decode cX1_clear 51 = .ok (.iconst 0, 1) := by decide +kernel
theorem dX1_clear_52 : decode cX1_clear 52 = .ok (.invokestatic 64, 3) := by decide +kernel
theorem dX1_clear_55 : decode cX1_clear 55 = .ok (.aload_n 0, 1) := by decide +kernel
theorem dX1_clear_56 : decode cX1_clear 56 = .ok (.getfield 27, 3) := by decide +kernel
theorem dX1_clear_59 : decode cX1_clear 59 = .ok (.iconst 0, 1) := by decide +kernel
theorem dX1_clear_60 : decode cX1_clear 60 = .ok (.invokestatic 64, 3) := by decide +kernel
theorem dX1_clear_63 : decode cX1_clear 63 = .ok (.aload_n 0, 1) := by decide +kernel
theorem dX1_clear_64 : decode cX1_clear 64 = .ok (.getfield 30, 3) := by decide +kernel
theorem dX1_clear_67 : decode cX1_clear 67 = .ok (.iconst 3, 1) := by decide +kernel
theorem dX1_clear_68 : decode cX1_clear 68 = .ok (.invokestatic 64, 3) := by decide +kernel
theorem dX1_clear_71 : decode cX1_clear 71 = .ok (.iconst 0, 1) := by decide +kernel
theorem dX1_clear_72 : decode cX1_clear 72 = .ok (.istore_n 1, 1) := by decide +kernel
theorem dX1_clear_73 : decode cX1_clear 73 = .ok (.iload_n 1, 1) := by decide +kernel
theorem dX1_clear_74 : decode cX1_clear 74 = .ok (.bipush 20, 2) := by decide +kernel
theorem dX1_clear_76 : decode cX1_clear 76 = .ok (.if_icmp .ge 16, 3) := by decide +kernel
theorem dX1_clear_79 : decode cX1_clear 79 = .ok (.aload_n 0, 1) := by decide +kernel
theorem dX1_clear_80 : decode cX1_clear 80 = .ok (.getfield 33, 3) := by decide +kernel
theorem dX1_clear_83 : decode cX1_clear 83 = .ok (.iload_n 1, 1) := by decide +kernel
theorem dX1_clear_84 : decode cX1_clear 84 = .ok (.iconst 0, 1) := by decide +kernel
theorem dX1_clear_85 : decode cX1_clear 85 = .ok (.bastore, 1) := by decide +kernel
theorem dX1_clear_86 : decode cX1_clear 86 = .ok (.iinc 1 1, 3) := by decide +kernel
theorem dX1_clear_89 : decode cX1_clear 89 = .ok (.goto (-16), 3) := by decide +kernel
theorem dX1_clear_92 : decode cX1_clear 92 = .ok (.aload_n 0, 1) := by decide +kernel
theorem dX1_clear_93 : decode cX1_clear 93 = .ok (.getfield 37, 3) := by decide +kernel
theorem dX1_clear_96 : decode cX1_clear 96 = .ok (.iconst (-1), 1) := by decide +kernel
theorem dX1_clear_97 : decode cX1_clear 97 = .ok (.invokestatic 64, 3) := by decide +kernel
theorem dX1_clear_100 : decode cX1_clear 100 = .ok (.aload_n 0, 1) := by decide +kernel
theorem dX1_clear_101 : decode cX1_clear 101 = .ok (.getfield 40, 3) := by decide +kernel
theorem dX1_clear_104 : decode cX1_clear 104 = .ok (.iconst (-1), 1) := by decide +kernel
theorem dX1_clear_105 : decode cX1_clear 105 = .ok (.invokestatic 64, 3) := by decide +kernel
theorem dX1_clear_108 : decode cX1_clear 108 = .ok (.aload_n 0, 1) := by decide +kernel
theorem dX1_clear_109 : decode cX1_clear 109 = .ok (.iconst 0, 1) := by decide +kernel
theorem dX1_clear_110 : decode cX1_clear 110 = .ok (.putfield 77, 3) := by decide +kernel
theorem dX1_clear_113 : decode cX1_clear 113 = .ok (.return_, 1) := by decide +kernel
theorem dX1_copyFrom_0 : decode cX1_copyFrom 0 = .ok (.aload_n 1, 1) := by decide +kernel
theorem dX1_copyFrom_1 : decode cX1_copyFrom 1 = .ok (.getfield 9, 3) := by decide +kernel
theorem dX1_copyFrom_4 : decode cX1_copyFrom 4 = .ok (.iconst 0, 1) := by decide +kernel
theorem dX1_copyFrom_5 : decode cX1_copyFrom 5 = .ok (.aload_n 0, 1) := by decide +kernel
theorem dX1_copyFrom_6 : decode cX1_copyFrom 6 = .ok (.getfield 9, 3) := by decide +kernel
theorem dX1_copyFrom_9 : decode cX1_copyFrom 9 = .ok (.iconst 0, 1) := by decide +kernel
theorem dX1_copyFrom_10 : decode cX1_copyFrom 10 = .ok (.iconst 3, 1) := by decide +kernel
theorem dX1_copyFrom_11 : decode cX1_copyFrom 11 = .ok (.invokestatic 58, 3) := by decide +kernel
theorem dX1_copyFrom_14 : decode cX1_copyFrom 14 = .ok (.aload_n 1, 1) := by decide +kernel
theorem dX1_copyFrom_15 : decode cX1_copyFrom 15 = .ok (.getfield 15, 3) := by decide +kernel
theorem dX1_copyFrom_18 : decode cX1_copyFrom 18 = .ok (.iconst 0, 1) := by decide +kernel
theorem dX1_copyFrom_19 : decode cX1_copyFrom 19 = .ok (.aload_n 0, 1) := by decide +kernel
theorem dX1_copyFrom_20 : decode cX1_copyFrom 20 = .ok (.getfield 15, 3) := by decide +kernel
theorem dX1_copyFrom_23 : decode cX1_copyFrom 23 = .ok (.iconst 0, 1) := by decide +kernel
theorem dX1_copyFrom_24 : decode cX1_copyFrom 24 = .ok (.bipush 8, 2) := by decide +kernel
theorem dX1_copyFrom_26 : decode cX1_copyFrom 26 = .ok (.invokestatic 58, 3) := by decide +kernel
theorem dX1_copyFrom_29 : decode cX1_copyFrom 29 = .ok (.aload_n 0, 1) := by decide +kernel
theorem dX1_copyFrom_30 : decode cX1_copyFrom 30 = .ok (.aload_n 1, 1) := by decide +kernel
theorem dX1_copyFrom_31 : decode cX1_copyFrom 31 = .ok (.getfield 70, 3) := by decide +kernel
theorem dX1_copyFrom_34 : decode cX1_copyFrom 34 = .ok (.putfield 70, 3) := by decide +kernel
theorem dX1_copyFrom_37 : decode cX1_copyFrom 37 = .ok (.aload_n 0, 1) := by decide +kernel
theorem dX1_copyFrom_38 : decode cX1_copyFrom 38 = .ok (.aload_n 1, 1) := by decide +kernel
theorem dX1_copyFrom_39 : decode cX1_copyFrom 39 = .ok (.getfield 74, 3) := by decide +kernel
theorem dX1_copyFrom_42 : decode cX1_copyFrom 42 = .ok (.putfield 74, 3) := by decide +kernel
theorem dX1_copyFrom_45 : decode cX1_copyFrom 45 = .ok (.aload_n 1, 1) := by decide +kernel
theorem dX1_copyFrom_46 : decode cX1_copyFrom 46 = .ok (.getfield 18, 3) := by decide +kernel
theorem dX1_copyFrom_49 : decode cX1_copyFrom 49 = .ok (.iconst 0, 1) := by decide +kernel
theorem dX1_copyFrom_50 : decode cX1_copyFrom 50 = .ok (.aload_n 0, 1) := by decide +kernel
theorem dX1_copyFrom_51 : decode cX1_copyFrom 51 = .ok (.getfield 18, 3) := by decide +kernel
theorem dX1_copyFrom_54 : decode cX1_copyFrom 54 = .ok (.iconst 0, 1) := by decide +kernel
theorem dX1_copyFrom_55 : decode cX1_copyFrom 55 = .ok (.bipush 6, 2) := by decide +kernel
theorem dX1_copyFrom_57 : decode cX1_copyFrom 57 = .ok (.invokestatic 58, 3) := by decide +kernel
theorem dX1_copyFrom_60 : decode cX1_copyFrom 60 = .ok (.aload_n 1, 1) := by decide +kernel
theorem dX1_copyFrom_61 : decode cX1_copyFrom 61 = .ok (.getfield 21, 3) := by decide +kernel
theorem dX1_copyFrom_64 : decode cX1_copyFrom 64 = .ok (.iconst 0, 1) := by decide +kernel
theorem dX1_copyFrom_65 : decode cX1_copyFrom 65 = .ok (.aload_n 0, 1) := by decide +kernel
theorem dX1_copyFrom_66 : decode cX1_copyFrom 66 = .ok (.getfield 21, 3) := by decide +kernel
theorem dX1_copyFrom_69 : decode cX1_copyFrom 69 = .ok (.iconst 0, 1) := by decide +kernel
theorem dX1_copyFrom_70 : decode cX1_copyFrom 70 = .ok (.bipush 6, 2) := by decide +kernel
theorem dX1_copyFrom_72 : decode cX1_copyFrom 72 = .ok (.invokestatic 58, 3) := by decide +kernel
theorem dX1_copyFrom_75 : decode cX1_copyFrom 75 = .ok (.aload_n 1, 1) := by decide +kernel
theorem dX1_copyFrom_76 : decode cX1_copyFrom 76 = .ok (.getfield 24, 3) := by decide +kernel
theorem dX1_copyFrom_79 : decode cX1_copyFrom 79 = .ok (.iconst 0, 1) := by decide +kernel
theorem dX1_copyFrom_80 : decode cX1_copyFrom 80 = .ok (.aload_n 0, 1) := by decide +kernel
theorem dX1_copyFrom_81 : decode cX1_copyFrom 81 = .ok (.getfield 24, 3) := by decide +kernel
theorem dX1_copyFrom_84 : decode cX1_copyFrom 84 = .ok (.iconst 0, 1) := by decide +kernel
theorem dX1_copyFrom_85 : decode cX1_copyFrom 85 = .ok (.bipush 6, 2) := by decide +kernel
theorem dX1_copyFrom_87 : decode cX1_copyFrom 87 = .ok (.invokestatic 58, 3) := by decide +kernel
theorem dX1_copyFrom_90 : decode cX1_copyFrom 90 = .ok (.aload_n 1, 1) := by decide +kernel
theorem dX1_copyFrom_91 : decode cX1_copyFrom 91 = .ok (.getfield 27, 3) := by decide +kernel
theorem dX1_copyFrom_94 : decode cX1_copyFrom 94 = .ok (.iconst 0, 1) := by decide +kernel
theorem dX1_copyFrom_95 : decode cX1_copyFrom 95 = .ok (.aload_n 0, 1) := by decide +kernel
theorem dX1_copyFrom_96 : decode cX1_copyFrom 96 = .ok (.getfield 27, 3) := by decide +kernel
theorem dX1_copyFrom_99 : decode cX1_copyFrom 99 = .ok (.iconst 0, 1) := by decide +kernel
theorem dX1_copyFrom_100 : decode cX1_copyFrom 100 = .ok (.bipush 6, 2) := by decide +kernel
theorem dX1_copyFrom_102 : decode cX1_copyFrom 102 = .ok (.invokestatic 58, 3) := by decide +kernel
theorem dX1_copyFrom_105 : decode cX1_copyFrom 105 = .ok (.aload_n 1, 1) := by decide +kernel
theorem dX1_copyFrom_106 : decode cX1_copyFrom 106 = .ok (.getfield 30, 3) := by decide +kernel
theorem dX1_copyFrom_109 : decode cX1_copyFrom 109 = .ok (.iconst 0, 1) := by decide +kernel
theorem dX1_copyFrom_110 : decode cX1_copyFrom 110 = .ok (.aload_n 0, 1) := by decide +kernel
theorem dX1_copyFrom_111 : decode cX1_copyFrom 111 = .ok (.getfield 30, 3) := by decide +kernel
theorem dX1_copyFrom_114 : decode cX1_copyFrom 114 = .ok (.iconst 0, 1) := by decide +kernel
theorem dX1_copyFrom_115 : decode cX1_copyFrom 115 = .ok (.bipush 20, 2) := by decide +kernel
theorem dX1_copyFrom_117 : decode cX1_copyFrom 117 = .ok (.invokestatic 58, 3) := by decide +kernel
theorem dX1_copyFrom_120 : decode cX1_copyFrom 120 = .ok (.aload_n 1, 1) := by decide +kernel
theorem dX1_copyFrom_121 : decode cX1_copyFrom 121 = .ok (.getfield 33, 3) := by decide +kernel
theorem dX1_copyFrom_124 : decode cX1_copyFrom 124 = .ok (.iconst 0, 1) := by decide +kernel
theorem dX1_copyFrom_125 : decode cX1_copyFrom 125 = .ok (.aload_n 0, 1) := by decide +kernel
theorem dX1_copyFrom_126 : decode cX1_copyFrom 126 = .ok (.getfield 33, 3) := by decide +kernel
theorem dX1_copyFrom_129 : decode cX1_copyFrom 129 = .ok (.iconst 0, 1) := by decide +kernel
theorem dX1_copyFrom_130 : decode cX1_copyFrom 130 = .ok (.bipush 20, 2) := by decide +kernel
theorem dX1_copyFrom_132 : decode cX1_copyFrom 132 = .ok (.invokestatic 58, 3) := by decide +kernel
theorem dX1_copyFrom_135 : decode cX1_copyFrom 135 = .ok (.aload_n 1, 1) := by decide +kernel
theorem dX1_copyFrom_136 : decode cX1_copyFrom 136 = .ok (.getfield 37, 3) := by decide +kernel
theorem dX1_copyFrom_139 : decode cX1_copyFrom 139 = .ok (.iconst 0, 1) := by decide +kernel
theorem dX1_copyFrom_140 : decode cX1_copyFrom 140 = .ok (.aload_n 0, 1) := by decide +kernel
theorem dX1_copyFrom_141 : decode cX1_copyFrom 141 = .ok (.getfield 37, 3) := by decide +kernel
theorem dX1_copyFrom_144 : decode cX1_copyFrom 144 = .ok (.iconst 0, 1) := by decide +kernel
theorem dX1_copyFrom_145 : decode cX1_copyFrom 145 = .ok (.bipush 20, 2) := by decide +kernel
theorem dX1_copyFrom_147 : decode cX1_copyFrom 147 = .ok (.invokestatic 58, 3) := by decide +kernel
theorem dX1_copyFrom_150 : decode cX1_copyFrom 150 = .ok (.aload_n 1, 1) := by decide +kernel
theorem dX1_copyFrom_151 : decode cX1_copyFrom 151 = .ok (.getfield 40, 3) := by decide +kernel
theorem dX1_copyFrom_154 : decode cX1_copyFrom 154 = .ok (.iconst 0, 1) := by decide +kernel
theorem dX1_copyFrom_155 : decode cX1_copyFrom 155 = .ok (.aload_n 0, 1) := by decide +kernel
theorem dX1_copyFrom_156 : decode cX1_copyFrom 156 = .ok (.getfield 40, 3) := by decide +kernel
theorem dX1_copyFrom_159 : decode cX1_copyFrom 159 = .ok (.iconst 0, 1) := by decide +kernel
theorem dX1_copyFrom_160 : decode cX1_copyFrom 160 = .ok (.bipush 120, 2) := by decide +kernel
theorem dX1_copyFrom_162 : decode cX1_copyFrom 162 = .ok (.invokestatic 58, 3) := by decide +kernel
theorem dX1_copyFrom_165 : decode cX1_copyFrom 165 = .ok (.aload_n 0, 1) := by decide +kernel
theorem dX1_copyFrom_166 : decode cX1_copyFrom 166 = .ok (.aload_n 1, 1) := by decide +kernel
theorem dX1_copyFrom_167 : decode cX1_copyFrom 167 = .ok (.getfield 77, 3) := by decide +kernel
theorem dX1_copyFrom_170 : decode cX1_copyFrom 170 = .ok (.putfield 77, 3) := by decide +kernel
theorem dX1_copyFrom_173 : decode cX1_copyFrom 173 = .ok (.aload_n 1, 1) := by decide +kernel
theorem dX1_copyFrom_174 : decode cX1_copyFrom 174 = .ok (.getfield 43, 3) := by decide +kernel
theorem dX1_copyFrom_177 : decode cX1_copyFrom 177 = .ok (.iconst 0, 1) := by decide +kernel
theorem dX1_copyFrom_178 : decode cX1_copyFrom 178 = .ok (.aload_n 0, 1) := by decide +kernel
theorem dX1_copyFrom_179 : decode cX1_copyFrom 179 = .ok (.getfield 43, 3) := by decide +kernel
theorem dX1_copyFrom_182 : decode cX1_copyFrom 182 = .ok (.iconst 0, 1) := by decide +kernel
theorem dX1_copyFrom_183 : decode cX1_copyFrom 183 = .ok (.bipush 8, 2) := by decide +kernel
theorem dX1_copyFrom_185 : decode cX1_copyFrom 185 = .ok (.invokestatic 58, 3) := by decide +kernel
theorem dX1_copyFrom_188 : decode cX1_copyFrom 188 = .ok (.aload_n 1, 1) := by decide +kernel
theorem dX1_copyFrom_189 : decode cX1_copyFrom 189 = .ok (.getfield 46, 3) := by decide +kernel
theorem dX1_copyFrom_192 : decode cX1_copyFrom 192 = .ok (.iconst 0, 1) := by decide +kernel
theorem dX1_copyFrom_193 : decode cX1_copyFrom 193 = .ok (.aload_n 0, 1) := by decide +kernel
theorem dX1_copyFrom_194 : decode cX1_copyFrom 194 = .ok (.getfield 46, 3) := by decide +kernel
theorem dX1_copyFrom_197 : decode cX1_copyFrom 197 = .ok (.iconst 0, 1) := by decide +kernel
theorem dX1_copyFrom_198 : decode cX1_copyFrom 198 = .ok (.bipush 8, 2) := by decide +kernel
theorem dX1_copyFrom_200 : decode cX1_copyFrom 200 = .ok (.invokestatic 58, 3) := by decide +kernel
theorem dX1_copyFrom_203 : decode cX1_copyFrom 203 = .ok (.aload_n 1, 1) := by decide +kernel
theorem dX1_copyFrom_204 : decode cX1_copyFrom 204 = .ok (.getfield 49, 3) := by decide +kernel
theorem dX1_copyFrom_207 : decode cX1_copyFrom 207 = .ok (.iconst 0, 1) := by decide +kernel
theorem dX1_copyFrom_208 : decode cX1_copyFrom 208 = .ok (.aload_n 0, 1) := by decide +kernel
theorem dX1_copyFrom_209 : decode cX1_copyFrom 209 = .ok (.getfield 49, 3) := by decide +kernel
theorem dX1_copyFrom_212 : decode cX1_copyFrom 212 = .ok (.iconst 0, 1) := by decide +kernel
theorem dX1_copyFrom_213 : decode cX1_copyFrom 213 = .ok (.bipush 8, 2) := by decide +kernel
theorem dX1_copyFrom_215 : decode cX1_copyFrom 215 = .ok (.invokestatic 58, 3) := by decide +kernel
theorem dX1_copyFrom_218 : decode cX1_copyFrom 218 = .ok (.return_, 1) := by decide +kernel
theorem dX1_hasOwner_0 : decode cX1_hasOwner 0 = .ok (.iload_n 1, 1) := by decide +kernel
theorem dX1_hasOwner_1 : decode cX1_hasOwner 1 = .ok (.ifCond .lt 21, 3) := by decide +kernel
theorem dX1_hasOwner_4 : decode cX1_hasOwner 4 = .ok (.iload_n 1, 1) := by decide +kernel
theorem dX1_hasOwner_5 : decode cX1_hasOwner 5 = .ok (.aload_n 0, 1) := by decide +kernel
theorem dX1_hasOwner_6 : decode cX1_hasOwner 6 = .ok (.getfield 74, 3) := by decide +kernel
theorem dX1_hasOwner_9 : decode cX1_hasOwner 9 = .ok (.if_icmp .ge 13, 3) := by decide +kernel
theorem dX1_hasOwner_12 : decode cX1_hasOwner 12 = .ok (.iload_n 1, 1) := by decide +kernel
theorem dX1_hasOwner_13 : decode cX1_hasOwner 13 = .ok (.bipush 6, 2) := by decide +kernel
theorem dX1_hasOwner_15 : decode cX1_hasOwner 15 = .ok (.if_icmp .ge 7, 3) := by decide +kernel
theorem dX1_hasOwner_18 : decode cX1_hasOwner 18 = .ok (.iconst 1, 1) := by decide +kernel
theorem dX1_hasOwner_19 : decode cX1_hasOwner 19 = .ok (.goto 4, 3) := by decide +kernel
theorem dX1_hasOwner_22 : decode cX1_hasOwner 22 = .ok (.iconst 0, 1) := by decide +kernel
theorem dX1_hasOwner_23 : decode cX1_hasOwner 23 = .ok (.ireturn, 1) := by decide +kernel
theorem dX1_hasWeek_0 : decode cX1_hasWeek 0 = .ok (.iload_n 1, 1) := by decide +kernel
theorem dX1_hasWeek_1 : decode cX1_hasWeek 1 = .ok (.ifCond .lt 13, 3) := by decide +kernel
theorem dX1_hasWeek_4 : decode cX1_hasWeek 4 = .ok (.iload_n 1, 1) := by decide +kernel
theorem dX1_hasWeek_5 : decode cX1_hasWeek 5 = .ok (.bipush 20, 2) := by decide +kernel
theorem dX1_hasWeek_7 : decode cX1_hasWeek 7 = .ok (.if_icmp .ge 7, 3) := by decide +kernel
theorem dX1_hasWeek_10 : decode cX1_hasWeek 10 = .ok (.iconst 1, 1) := by decide +kernel
theorem dX1_hasWeek_11 : decode cX1_hasWeek 11 = .ok (.goto 4, 3) := by decide +kernel
theorem dX1_hasWeek_14 : decode cX1_hasWeek 14 = .ok (.iconst 0, 1) := by decide +kernel
theorem dX1_hasWeek_15 : decode cX1_hasWeek 15 = .ok (.ireturn, 1) := by decide +kernel
theorem dX1_hasOffer_0 : decode cX1_hasOffer 0 = .ok (.iload_n 1, 1) := by decide +kernel
theorem dX1_hasOffer_1 : decode cX1_hasOffer 1 = .ok (.ifCond .lt 21, 3) := by decide +kernel
theorem dX1_hasOffer_4 : decode cX1_hasOffer 4 = .ok (.iload_n 1, 1) := by decide +kernel
theorem dX1_hasOffer_5 : decode cX1_hasOffer 5 = .ok (.aload_n 0, 1) := by decide +kernel
theorem dX1_hasOffer_6 : decode cX1_hasOffer 6 = .ok (.getfield 77, 3) := by decide +kernel
theorem dX1_hasOffer_9 : decode cX1_hasOffer 9 = .ok (.if_icmp .ge 13, 3) := by decide +kernel
theorem dX1_hasOffer_12 : decode cX1_hasOffer 12 = .ok (.iload_n 1, 1) := by decide +kernel
theorem dX1_hasOffer_13 : decode cX1_hasOffer 13 = .ok (.bipush 8, 2) := by decide +kernel
theorem dX1_hasOffer_15 : decode cX1_hasOffer 15 = .ok (.if_icmp .ge 7, 3) := by decide +kernel
theorem dX1_hasOffer_18 : decode cX1_hasOffer 18 = .ok (.iconst 1, 1) := by decide +kernel
theorem dX1_hasOffer_19 : decode cX1_hasOffer 19 = .ok (.goto 4, 3) := by decide +kernel
theorem dX1_hasOffer_22 : decode cX1_hasOffer 22 = .ok (.iconst 0, 1) := by decide +kernel
theorem dX1_hasOffer_23 : decode cX1_hasOffer 23 = .ok (.ireturn, 1) := by decide +kernel
theorem dX1_holds_0 : decode cX1_holds 0 = .ok (.aload_n 0, 1) := by decide +kernel
theorem dX1_holds_1 : decode cX1_holds 1 = .ok (.iload_n 1, 1) := by decide +kernel
theorem dX1_holds_2 : decode cX1_holds 2 = .ok (.invokevirtual 80, 3) := by decide +kernel
theorem dX1_holds_5 : decode cX1_holds 5 = .ok (.ifCond .eq 25, 3) := by decide +kernel
theorem dX1_holds_8 : decode cX1_holds 8 = .ok (.aload_n 0, 1) := by decide +kernel
theorem dX1_holds_9 : decode cX1_holds 9 = .ok (.iload_n 2, 1) := by decide +kernel
theorem dX1_holds_10 : decode cX1_holds 10 = .ok (.invokevirtual 84, 3) := by decide +kernel
theorem dX1_holds_13 : decode cX1_holds 13 = .ok (.ifCond .eq 17, 3) := by decide +kernel
theorem dX1_holds_16 : decode cX1_holds 16 = .ok (.aload_n 0, 1) := by decide +kernel
theorem dX1_holds_17 : decode cX1_holds 17 = .ok (.getfield 37, 3) := by decide +kernel
theorem dX1_holds_20 : decode cX1_holds 20 = .ok (.iload_n 2, 1) := by decide +kernel
theorem dX1_holds_21 : decode cX1_holds 21 = .ok (.iaload, 1) := by decide +kernel
theorem dX1_holds_22 : decode cX1_holds 22 = .ok (.iload_n 1, 1) := by decide +kernel
theorem dX1_holds_23 : decode cX1_holds 23 = .ok (.if_icmp .ne 7, 3) := by decide +kernel
theorem dX1_holds_26 : decode cX1_holds 26 = .ok (.iconst 1, 1) := by decide +kernel
theorem dX1_holds_27 : decode cX1_holds 27 = .ok (.goto 4, 3) := by decide +kernel
theorem dX1_holds_30 : decode cX1_holds 30 = .ok (.iconst 0, 1) := by decide +kernel
theorem dX1_holds_31 : decode cX1_holds 31 = .ok (.ireturn, 1) := by decide +kernel
theorem dX1_hasAtLeast_0 : decode cX1_hasAtLeast 0 = .ok (.aload_n 0, 1) := by decide +kernel
theorem dX1_hasAtLeast_1 : decode cX1_hasAtLeast 1 = .ok (.iload_n 1, 1) := by decide +kernel
theorem dX1_hasAtLeast_2 : decode cX1_hasAtLeast 2 = .ok (.invokevirtual 80, 3) := by decide +kernel
theorem dX1_hasAtLeast_5 : decode cX1_hasAtLeast 5 = .ok (.ifCond .eq 17, 3) := by decide +kernel
theorem dX1_hasAtLeast_8 : decode cX1_hasAtLeast 8 = .ok (.aload_n 0, 1) := by decide +kernel
theorem dX1_hasAtLeast_9 : decode cX1_hasAtLeast 9 = .ok (.getfield 21, 3) := by decide +kernel
theorem dX1_hasAtLeast_12 : decode cX1_hasAtLeast 12 = .ok (.iload_n 1, 1) := by decide +kernel
theorem dX1_hasAtLeast_13 : decode cX1_hasAtLeast 13 = .ok (.iaload, 1) := by decide +kernel
theorem dX1_hasAtLeast_14 : decode cX1_hasAtLeast 14 = .ok (.iload_n 2, 1) := by decide +kernel
theorem dX1_hasAtLeast_15 : decode cX1_hasAtLeast 15 = .ok (.if_icmp .lt 7, 3) := by decide +kernel
theorem dX1_hasAtLeast_18 : decode cX1_hasAtLeast 18 = .ok (.iconst 1, 1) := by decide +kernel
theorem dX1_hasAtLeast_19 : decode cX1_hasAtLeast 19 = .ok (.goto 4, 3) := by decide +kernel
theorem dX1_hasAtLeast_22 : decode cX1_hasAtLeast 22 = .ok (.iconst 0, 1) := by decide +kernel
theorem dX1_hasAtLeast_23 : decode cX1_hasAtLeast 23 = .ok (.ireturn, 1) := by decide +kernel
theorem dX1_isOpenForBids_0 : decode cX1_isOpenForBids 0 = .ok (.aload_n 0, 1) := by decide +kernel
theorem dX1_isOpenForBids_1 : decode cX1_isOpenForBids 1 = .ok (.iload_n 1, 1) := by decide +kernel
theorem dX1_isOpenForBids_2 : decode cX1_isOpenForBids 2 = .ok (.invokevirtual 84, 3) := by decide +kernel
theorem dX1_isOpenForBids_5 : decode cX1_isOpenForBids 5 = .ok (.ifCond .eq 26, 3) := by decide +kernel
theorem dX1_isOpenForBids_8 : decode cX1_isOpenForBids 8 = .ok (.aload_n 0, 1) := by decide +kernel
theorem dX1_isOpenForBids_9 : decode cX1_isOpenForBids 9 = .ok (.getfield 33, 3) := by decide +kernel
theorem dX1_isOpenForBids_12 : decode cX1_isOpenForBids 12 = .ok (.iload_n 1, 1) := by decide +kernel
theorem dX1_isOpenForBids_13 : decode cX1_isOpenForBids 13 = .ok (.baload, 1) := by decide +kernel
theorem dX1_isOpenForBids_14 : decode cX1_isOpenForBids 14 = .ok (.ifCond .eq 17, 3) := by decide +kernel
theorem dX1_isOpenForBids_17 : decode cX1_isOpenForBids 17 = .ok (.aload_n 0, 1) := by decide +kernel
theorem dX1_isOpenForBids_18 : decode cX1_isOpenForBids 18 = .ok (.getfield 37, 3) := by decide +kernel
theorem dX1_isOpenForBids_21 : decode cX1_isOpenForBids 21 = .ok (.iload_n 1, 1) := by decide +kernel
theorem dX1_isOpenForBids_22 : decode cX1_isOpenForBids 22 = .ok (.iaload, 1) := by decide +kernel
theorem dX1_isOpenForBids_23 : decode cX1_isOpenForBids 23 = .ok (.iconst (-1), 1) := by decide +kernel
theorem dX1_isOpenForBids_24 : decode cX1_isOpenForBids 24 = .ok (.if_icmp .ne 7, 3) := by decide +kernel
theorem dX1_isOpenForBids_27 : decode cX1_isOpenForBids 27 = .ok (.iconst 1, 1) := by decide +kernel
theorem dX1_isOpenForBids_28 : decode cX1_isOpenForBids 28 = .ok (.goto 4, 3) := by decide +kernel
theorem dX1_isOpenForBids_31 : decode cX1_isOpenForBids 31 = .ok (.iconst 0, 1) := by decide +kernel
theorem dX1_isOpenForBids_32 : decode cX1_isOpenForBids 32 = .ok (.ireturn, 1) := by decide +kernel
theorem dX1_weeksHeldBy_0 : decode cX1_weeksHeldBy 0 = .ok (.iconst 0, 1) := by decide +kernel
theorem dX1_weeksHeldBy_1 : decode cX1_weeksHeldBy 1 = .ok (.istore_n 2, 1) := by decide +kernel
theorem dX1_weeksHeldBy_2 : decode cX1_weeksHeldBy 2 = .ok (.iconst 0, 1) := by decide +kernel
theorem dX1_weeksHeldBy_3 : decode cX1_weeksHeldBy 3 = .ok (.istore_n 3, 1) := by decide +kernel
theorem dX1_weeksHeldBy_4 : decode cX1_weeksHeldBy 4 = .ok (.iload_n 3, 1) := by decide +kernel
theorem dX1_weeksHeldBy_5 : decode cX1_weeksHeldBy 5 = .ok (.bipush 20, 2) := by decide +kernel
theorem dX1_weeksHeldBy_7 : decode cX1_weeksHeldBy 7 = .ok (.if_icmp .ge 22, 3) := by decide +kernel
theorem dX1_weeksHeldBy_10 : decode cX1_weeksHeldBy 10 = .ok (.aload_n 0, 1) := by decide +kernel
theorem dX1_weeksHeldBy_11 : decode cX1_weeksHeldBy 11 = .ok (.getfield 37, 3) := by decide +kernel
theorem dX1_weeksHeldBy_14 : decode cX1_weeksHeldBy 14 = .ok (.iload_n 3, 1) := by decide +kernel
theorem dX1_weeksHeldBy_15 : decode cX1_weeksHeldBy 15 = .ok (.iaload, 1) := by decide +kernel
theorem dX1_weeksHeldBy_16 : decode cX1_weeksHeldBy 16 = .ok (.iload_n 1, 1) := by decide +kernel
theorem dX1_weeksHeldBy_17 : decode cX1_weeksHeldBy 17 = .ok (.if_icmp .ne 6, 3) := by decide +kernel
theorem dX1_weeksHeldBy_20 : decode cX1_weeksHeldBy 20 = .ok (.iinc 2 1, 3) := by decide +kernel
theorem dX1_weeksHeldBy_23 : decode cX1_weeksHeldBy 23 = .ok (.iinc 3 1, 3) := by decide +kernel
theorem dX1_weeksHeldBy_26 : decode cX1_weeksHeldBy 26 = .ok (.goto (-22), 3) := by decide +kernel
theorem dX1_weeksHeldBy_29 : decode cX1_weeksHeldBy 29 = .ok (.iload_n 2, 1) := by decide +kernel
theorem dX1_weeksHeldBy_30 : decode cX1_weeksHeldBy 30 = .ok (.ireturn, 1) := by decide +kernel
theorem dX1_lowestWeekHeldBy_0 : decode cX1_lowestWeekHeldBy 0 = .ok (.iconst 0, 1) := by decide +kernel
theorem dX1_lowestWeekHeldBy_1 : decode cX1_lowestWeekHeldBy 1 = .ok (.istore_n 2, 1) := by decide +kernel
theorem dX1_lowestWeekHeldBy_2 : decode cX1_lowestWeekHeldBy 2 = .ok (.iload_n 2, 1) := by decide +kernel
theorem dX1_lowestWeekHeldBy_3 : decode cX1_lowestWeekHeldBy 3 = .ok (.bipush 20, 2) := by decide +kernel
theorem dX1_lowestWeekHeldBy_5 : decode cX1_lowestWeekHeldBy 5 = .ok (.if_icmp .ge 21, 3) := by decide +kernel
theorem dX1_lowestWeekHeldBy_8 : decode cX1_lowestWeekHeldBy 8 = .ok (.aload_n 0, 1) := by decide +kernel
theorem dX1_lowestWeekHeldBy_9 : decode cX1_lowestWeekHeldBy 9 = .ok (.getfield 37, 3) := by decide +kernel
theorem dX1_lowestWeekHeldBy_12 : decode cX1_lowestWeekHeldBy 12 = .ok (.iload_n 2, 1) := by decide +kernel
theorem dX1_lowestWeekHeldBy_13 : decode cX1_lowestWeekHeldBy 13 = .ok (.iaload, 1) := by decide +kernel
theorem dX1_lowestWeekHeldBy_14 : decode cX1_lowestWeekHeldBy 14 = .ok (.iload_n 1, 1) := by decide +kernel
theorem dX1_lowestWeekHeldBy_15 : decode cX1_lowestWeekHeldBy 15 = .ok (.if_icmp .ne 5, 3) := by decide +kernel
theorem dX1_lowestWeekHeldBy_18 : decode cX1_lowestWeekHeldBy 18 = .ok (.iload_n 2, 1) := by decide +kernel
theorem dX1_lowestWeekHeldBy_19 : decode cX1_lowestWeekHeldBy 19 = .ok (.ireturn, 1) := by decide +kernel
theorem dX1_lowestWeekHeldBy_20 : decode cX1_lowestWeekHeldBy 20 = .ok (.iinc 2 1, 3) := by decide +kernel
theorem dX1_lowestWeekHeldBy_23 : decode cX1_lowestWeekHeldBy 23 = .ok (.goto (-21), 3) := by decide +kernel
theorem dX1_lowestWeekHeldBy_26 : decode cX1_lowestWeekHeldBy 26 = .ok (.iconst (-1), 1) := by decide +kernel
theorem dX1_lowestWeekHeldBy_27 : decode cX1_lowestWeekHeldBy 27 = .ok (.ireturn, 1) := by decide +kernel
theorem dX1_pointsOfAll_0 : decode cX1_pointsOfAll 0 = .ok (.iconst 0, 1) := by decide +kernel
theorem dX1_pointsOfAll_1 : decode cX1_pointsOfAll 1 = .ok (.istore_n 1, 1) := by decide +kernel
theorem dX1_pointsOfAll_2 : decode cX1_pointsOfAll 2 = .ok (.iconst 0, 1) := by decide +kernel
theorem dX1_pointsOfAll_3 : decode cX1_pointsOfAll 3 = .ok (.istore_n 2, 1) := by decide +kernel
theorem dX1_pointsOfAll_4 : decode cX1_pointsOfAll 4 = .ok (.iload_n 2, 1) := by decide +kernel
theorem dX1_pointsOfAll_5 : decode cX1_pointsOfAll 5 = .ok (.bipush 6, 2) := by decide +kernel
theorem dX1_pointsOfAll_7 : decode cX1_pointsOfAll 7 = .ok (.if_icmp .ge 18, 3) := by decide +kernel
theorem dX1_pointsOfAll_10 : decode cX1_pointsOfAll 10 = .ok (.iload_n 1, 1) := by decide +kernel
theorem dX1_pointsOfAll_11 : decode cX1_pointsOfAll 11 = .ok (.aload_n 0, 1) := by decide +kernel
theorem dX1_pointsOfAll_12 : decode cX1_pointsOfAll 12 = .ok (.getfield 21, 3) := by decide +kernel
theorem dX1_pointsOfAll_15 : decode cX1_pointsOfAll 15 = .ok (.iload_n 2, 1) := by decide +kernel
theorem dX1_pointsOfAll_16 : decode cX1_pointsOfAll 16 = .ok (.iaload, 1) := by decide +kernel
theorem dX1_pointsOfAll_17 : decode cX1_pointsOfAll 17 = .ok (.iadd, 1) := by decide +kernel
theorem dX1_pointsOfAll_18 : decode cX1_pointsOfAll 18 = .ok (.istore_n 1, 1) := by decide +kernel
theorem dX1_pointsOfAll_19 : decode cX1_pointsOfAll 19 = .ok (.iinc 2 1, 3) := by decide +kernel
theorem dX1_pointsOfAll_22 : decode cX1_pointsOfAll 22 = .ok (.goto (-18), 3) := by decide +kernel
theorem dX1_pointsOfAll_25 : decode cX1_pointsOfAll 25 = .ok (.iload_n 1, 1) := by decide +kernel
theorem dX1_pointsOfAll_26 : decode cX1_pointsOfAll 26 = .ok (.ireturn, 1) := by decide +kernel
theorem dX1_extraOf_0 : decode cX1_extraOf 0 = .ok (.iload_n 1, 1) := by decide +kernel
theorem dX1_extraOf_1 : decode cX1_extraOf 1 = .ok (.ifCond .lt 23, 3) := by decide +kernel
theorem dX1_extraOf_4 : decode cX1_extraOf 4 = .ok (.iload_n 1, 1) := by decide +kernel
theorem dX1_extraOf_5 : decode cX1_extraOf 5 = .ok (.bipush 6, 2) := by decide +kernel
theorem dX1_extraOf_7 : decode cX1_extraOf 7 = .ok (.if_icmp .ge 17, 3) := by decide +kernel
theorem dX1_extraOf_10 : decode cX1_extraOf 10 = .ok (.iload_n 2, 1) := by decide +kernel
theorem dX1_extraOf_11 : decode cX1_extraOf 11 = .ok (.ifCond .lt 13, 3) := by decide +kernel
theorem dX1_extraOf_14 : decode cX1_extraOf 14 = .ok (.iload_n 2, 1) := by decide +kernel
theorem dX1_extraOf_15 : decode cX1_extraOf 15 = .ok (.bipush 20, 2) := by decide +kernel
theorem dX1_extraOf_17 : decode cX1_extraOf 17 = .ok (.if_icmp .ge 7, 3) := by decide +kernel
theorem dX1_extraOf_20 : decode cX1_extraOf 20 = .ok (.iconst 1, 1) := by decide +kernel
theorem dX1_extraOf_21 : decode cX1_extraOf 21 = .ok (.goto 4, 3) := by decide +kernel
theorem dX1_extraOf_24 : decode cX1_extraOf 24 = .ok (.iconst 0, 1) := by decide +kernel
theorem dX1_extraOf_25 : decode cX1_extraOf 25 = .ok (.istore_n 3, 1) := by decide +kernel
theorem dX1_extraOf_26 : decode cX1_extraOf 26 = .ok (.iload_n 3, 1) := by decide +kernel
theorem dX1_extraOf_27 : decode cX1_extraOf 27 = .ok (.ifCond .eq 17, 3) := by decide +kernel
theorem dX1_extraOf_30 : decode cX1_extraOf 30 = .ok (.aload_n 0, 1) := by decide +kernel
theorem dX1_extraOf_31 : decode cX1_extraOf 31 = .ok (.getfield 40, 3) := by decide +kernel
theorem dX1_extraOf_34 : decode cX1_extraOf 34 = .ok (.iload_n 1, 1) := by decide +kernel
theorem dX1_extraOf_35 : decode cX1_extraOf 35 = .ok (.bipush 20, 2) := by decide +kernel
theorem dX1_extraOf_37 : decode cX1_extraOf 37 = .ok (.imul, 1) := by decide +kernel
theorem dX1_extraOf_38 : decode cX1_extraOf 38 = .ok (.iload_n 2, 1) := by decide +kernel
theorem dX1_extraOf_39 : decode cX1_extraOf 39 = .ok (.iadd, 1) := by decide +kernel
theorem dX1_extraOf_40 : decode cX1_extraOf 40 = .ok (.iaload, 1) := by decide +kernel
theorem dX1_extraOf_41 : decode cX1_extraOf 41 = .ok (.goto 4, 3) := by decide +kernel
theorem dX1_extraOf_44 : decode cX1_extraOf 44 = .ok (.iconst (-1), 1) := by decide +kernel
theorem dX1_extraOf_45 : decode cX1_extraOf 45 = .ok (.ireturn, 1) := by decide +kernel
theorem dX1_bidsBy_0 : decode cX1_bidsBy 0 = .ok (.iconst 0, 1) := by decide +kernel
theorem dX1_bidsBy_1 : decode cX1_bidsBy 1 = .ok (.istore_n 2, 1) := by decide +kernel
theorem dX1_bidsBy_2 : decode cX1_bidsBy 2 = .ok (.iconst 0, 1) := by decide +kernel
theorem dX1_bidsBy_3 : decode cX1_bidsBy 3 = .ok (.istore_n 3, 1) := by decide +kernel
theorem dX1_bidsBy_4 : decode cX1_bidsBy 4 = .ok (.iload_n 3, 1) := by decide +kernel
theorem dX1_bidsBy_5 : decode cX1_bidsBy 5 = .ok (.bipush 20, 2) := by decide +kernel
theorem dX1_bidsBy_7 : decode cX1_bidsBy 7 = .ok (.if_icmp .ge 22, 3) := by decide +kernel
theorem dX1_bidsBy_10 : decode cX1_bidsBy 10 = .ok (.aload_n 0, 1) := by decide +kernel
theorem dX1_bidsBy_11 : decode cX1_bidsBy 11 = .ok (.iload_n 1, 1) := by decide +kernel
theorem dX1_bidsBy_12 : decode cX1_bidsBy 12 = .ok (.iload_n 3, 1) := by decide +kernel
theorem dX1_bidsBy_13 : decode cX1_bidsBy 13 = .ok (.invokevirtual 87, 3) := by decide +kernel
theorem dX1_bidsBy_16 : decode cX1_bidsBy 16 = .ok (.iconst (-1), 1) := by decide +kernel
theorem dX1_bidsBy_17 : decode cX1_bidsBy 17 = .ok (.if_icmp .eq 6, 3) := by decide +kernel
theorem dX1_bidsBy_20 : decode cX1_bidsBy 20 = .ok (.iinc 2 1, 3) := by decide +kernel
theorem dX1_bidsBy_23 : decode cX1_bidsBy 23 = .ok (.iinc 3 1, 3) := by decide +kernel
theorem dX1_bidsBy_26 : decode cX1_bidsBy 26 = .ok (.goto (-22), 3) := by decide +kernel
theorem dX1_bidsBy_29 : decode cX1_bidsBy 29 = .ok (.iload_n 2, 1) := by decide +kernel
theorem dX1_bidsBy_30 : decode cX1_bidsBy 30 = .ok (.ireturn, 1) := by decide +kernel
theorem dX1_bidsFor_0 : decode cX1_bidsFor 0 = .ok (.iconst 0, 1) := by decide +kernel
theorem dX1_bidsFor_1 : decode cX1_bidsFor 1 = .ok (.istore_n 2, 1) := by decide +kernel
theorem dX1_bidsFor_2 : decode cX1_bidsFor 2 = .ok (.iconst 0, 1) := by decide +kernel
theorem dX1_bidsFor_3 : decode cX1_bidsFor 3 = .ok (.istore_n 3, 1) := by decide +kernel
theorem dX1_bidsFor_4 : decode cX1_bidsFor 4 = .ok (.iload_n 3, 1) := by decide +kernel
theorem dX1_bidsFor_5 : decode cX1_bidsFor 5 = .ok (.bipush 6, 2) := by decide +kernel
theorem dX1_bidsFor_7 : decode cX1_bidsFor 7 = .ok (.if_icmp .ge 22, 3) := by decide +kernel
theorem dX1_bidsFor_10 : decode cX1_bidsFor 10 = .ok (.aload_n 0, 1) := by decide +kernel
theorem dX1_bidsFor_11 : decode cX1_bidsFor 11 = .ok (.iload_n 3, 1) := by decide +kernel
theorem dX1_bidsFor_12 : decode cX1_bidsFor 12 = .ok (.iload_n 1, 1) := by decide +kernel
theorem dX1_bidsFor_13 : decode cX1_bidsFor 13 = .ok (.invokevirtual 87, 3) := by decide +kernel
theorem dX1_bidsFor_16 : decode cX1_bidsFor 16 = .ok (.iconst (-1), 1) := by decide +kernel
theorem dX1_bidsFor_17 : decode cX1_bidsFor 17 = .ok (.if_icmp .eq 6, 3) := by decide +kernel
theorem dX1_bidsFor_20 : decode cX1_bidsFor 20 = .ok (.iinc 2 1, 3) := by decide +kernel
theorem dX1_bidsFor_23 : decode cX1_bidsFor 23 = .ok (.iinc 3 1, 3) := by decide +kernel
theorem dX1_bidsFor_26 : decode cX1_bidsFor 26 = .ok (.goto (-22), 3) := by decide +kernel
theorem dX1_bidsFor_29 : decode cX1_bidsFor 29 = .ok (.iload_n 2, 1) := by decide +kernel
theorem dX1_bidsFor_30 : decode cX1_bidsFor 30 = .ok (.ireturn, 1) := by decide +kernel
theorem dX1_bidsOfAll_0 : decode cX1_bidsOfAll 0 = .ok (.iconst 0, 1) := by decide +kernel
theorem dX1_bidsOfAll_1 : decode cX1_bidsOfAll 1 = .ok (.istore_n 1, 1) := by decide +kernel
theorem dX1_bidsOfAll_2 : decode cX1_bidsOfAll 2 = .ok (.iconst 0, 1) := by decide +kernel
theorem dX1_bidsOfAll_3 : decode cX1_bidsOfAll 3 = .ok (.istore_n 2, 1) := by decide +kernel
theorem dX1_bidsOfAll_4 : decode cX1_bidsOfAll 4 = .ok (.iload_n 2, 1) := by decide +kernel
theorem dX1_bidsOfAll_5 : decode cX1_bidsOfAll 5 = .ok (.bipush 6, 2) := by decide +kernel
theorem dX1_bidsOfAll_7 : decode cX1_bidsOfAll 7 = .ok (.if_icmp .ge 17, 3) := by decide +kernel
theorem dX1_bidsOfAll_10 : decode cX1_bidsOfAll 10 = .ok (.iload_n 1, 1) := by decide +kernel
theorem dX1_bidsOfAll_11 : decode cX1_bidsOfAll 11 = .ok (.aload_n 0, 1) := by decide +kernel
theorem dX1_bidsOfAll_12 : decode cX1_bidsOfAll 12 = .ok (.iload_n 2, 1) := by decide +kernel
theorem dX1_bidsOfAll_13 : decode cX1_bidsOfAll 13 = .ok (.invokevirtual 91, 3) := by decide +kernel
theorem dX1_bidsOfAll_16 : decode cX1_bidsOfAll 16 = .ok (.iadd, 1) := by decide +kernel
theorem dX1_bidsOfAll_17 : decode cX1_bidsOfAll 17 = .ok (.istore_n 1, 1) := by decide +kernel
theorem dX1_bidsOfAll_18 : decode cX1_bidsOfAll 18 = .ok (.iinc 2 1, 3) := by decide +kernel
theorem dX1_bidsOfAll_21 : decode cX1_bidsOfAll 21 = .ok (.goto (-17), 3) := by decide +kernel
theorem dX1_bidsOfAll_24 : decode cX1_bidsOfAll 24 = .ok (.iload_n 1, 1) := by decide +kernel
theorem dX1_bidsOfAll_25 : decode cX1_bidsOfAll 25 = .ok (.ireturn, 1) := by decide +kernel
theorem dX1_greatestExtraFor_0 : decode cX1_greatestExtraFor 0 = .ok (.iconst (-1), 1) := by decide +kernel
theorem dX1_greatestExtraFor_1 : decode cX1_greatestExtraFor 1 = .ok (.istore_n 2, 1) := by decide +kernel
theorem dX1_greatestExtraFor_2 : decode cX1_greatestExtraFor 2 = .ok (.iconst 0, 1) := by decide +kernel
theorem dX1_greatestExtraFor_3 : decode cX1_greatestExtraFor 3 = .ok (.istore_n 3, 1) := by decide +kernel
theorem dX1_greatestExtraFor_4 : decode cX1_greatestExtraFor 4 = .ok (.iload_n 3, 1) := by decide +kernel
theorem dX1_greatestExtraFor_5 : decode cX1_greatestExtraFor 5 = .ok (.bipush 6, 2) := by decide +kernel
theorem dX1_greatestExtraFor_7 : decode cX1_greatestExtraFor 7 = .ok (.if_icmp .ge 20, 3) := by decide +kernel
theorem dX1_greatestExtraFor_10 : decode cX1_greatestExtraFor 10 = .ok (.iload_n 2, 1) := by decide +kernel
theorem dX1_greatestExtraFor_11 : decode cX1_greatestExtraFor 11 = .ok (.aload_n 0, 1) := by decide +kernel
theorem dX1_greatestExtraFor_12 : decode cX1_greatestExtraFor 12 = .ok (.iload_n 3, 1) := by decide +kernel
theorem dX1_greatestExtraFor_13 : decode cX1_greatestExtraFor 13 = .ok (.iload_n 1, 1) := by decide +kernel
theorem dX1_greatestExtraFor_14 : decode cX1_greatestExtraFor 14 = .ok (.invokevirtual 87, 3) := by decide +kernel
theorem dX1_greatestExtraFor_17 : decode cX1_greatestExtraFor 17 = .ok (.invokestatic 95, 3) := by decide +kernel
theorem dX1_greatestExtraFor_20 : decode cX1_greatestExtraFor 20 = .ok (.istore_n 2, 1) := by decide +kernel
theorem dX1_greatestExtraFor_21 : decode cX1_greatestExtraFor 21 = .ok (.iinc 3 1, 3) := by decide +kernel
theorem dX1_greatestExtraFor_24 : decode cX1_greatestExtraFor 24 = .ok (.goto (-20), 3) := by decide +kernel
theorem dX1_greatestExtraFor_27 : decode cX1_greatestExtraFor 27 = .ok (.iload_n 2, 1) := by decide +kernel
theorem dX1_greatestExtraFor_28 : decode cX1_greatestExtraFor 28 = .ok (.ireturn, 1) := by decide +kernel
theorem dX1_addOwner_0 : decode cX1_addOwner 0 = .ok (.iload_n 1, 1) := by decide +kernel
theorem dX1_addOwner_1 : decode cX1_addOwner 1 = .ok (.iconst 1, 1) := by decide +kernel
theorem dX1_addOwner_2 : decode cX1_addOwner 2 = .ok (.if_icmp .lt 18, 3) := by decide +kernel
theorem dX1_addOwner_5 : decode cX1_addOwner 5 = .ok (.iload_n 1, 1) := by decide +kernel
theorem dX1_addOwner_6 : decode cX1_addOwner 6 = .ok (.bipush 9, 2) := by decide +kernel
theorem dX1_addOwner_8 : decode cX1_addOwner 8 = .ok (.if_icmp .gt 12, 3) := by decide +kernel
theorem dX1_addOwner_11 : decode cX1_addOwner 11 = .ok (.aload_n 0, 1) := by decide +kernel
theorem dX1_addOwner_12 : decode cX1_addOwner 12 = .ok (.getfield 74, 3) := by decide +kernel
theorem dX1_addOwner_15 : decode cX1_addOwner 15 = .ok (.bipush 6, 2) := by decide +kernel
theorem dX1_addOwner_17 : decode cX1_addOwner 17 = .ok (.if_icmp .lt 6, 3) := by decide +kernel
theorem dX1_addOwner_20 : decode cX1_addOwner 20 = .ok (.bipush (-2), 2) := by decide +kernel
theorem dX1_addOwner_22 : decode cX1_addOwner 22 = .ok (.ireturn, 1) := by decide +kernel
theorem dX1_addOwner_23 : decode cX1_addOwner 23 = .ok (.aload_n 0, 1) := by decide +kernel
theorem dX1_addOwner_24 : decode cX1_addOwner 24 = .ok (.getfield 74, 3) := by decide +kernel
theorem dX1_addOwner_27 : decode cX1_addOwner 27 = .ok (.istore_n 2, 1) := by decide +kernel
theorem dX1_addOwner_28 : decode cX1_addOwner 28 = .ok (.aload_n 0, 1) := by decide +kernel
theorem dX1_addOwner_29 : decode cX1_addOwner 29 = .ok (.dup, 1) := by decide +kernel
theorem dX1_addOwner_30 : decode cX1_addOwner 30 = .ok (.getfield 74, 3) := by decide +kernel
theorem dX1_addOwner_33 : decode cX1_addOwner 33 = .ok (.iconst 1, 1) := by decide +kernel
theorem dX1_addOwner_34 : decode cX1_addOwner 34 = .ok (.iadd, 1) := by decide +kernel
theorem dX1_addOwner_35 : decode cX1_addOwner 35 = .ok (.putfield 74, 3) := by decide +kernel
theorem dX1_addOwner_38 : decode cX1_addOwner 38 = .ok (.aload_n 0, 1) := by decide +kernel
theorem dX1_addOwner_39 : decode cX1_addOwner 39 = .ok (.getfield 18, 3) := by decide +kernel
theorem dX1_addOwner_42 : decode cX1_addOwner 42 = .ok (.iload_n 2, 1) := by decide +kernel
theorem dX1_addOwner_43 : decode cX1_addOwner 43 = .ok (.iload_n 1, 1) := by decide +kernel
theorem dX1_addOwner_44 : decode cX1_addOwner 44 = .ok (.iastore, 1) := by decide +kernel
theorem dX1_addOwner_45 : decode cX1_addOwner 45 = .ok (.aload_n 0, 1) := by decide +kernel
theorem dX1_addOwner_46 : decode cX1_addOwner 46 = .ok (.iload_n 2, 1) := by decide +kernel
theorem dX1_addOwner_47 : decode cX1_addOwner 47 = .ok (.invokevirtual 100, 3) := by decide +kernel
theorem dX1_addOwner_50 : decode cX1_addOwner 50 = .ok (.iload_n 2, 1) := by decide +kernel
theorem dX1_addOwner_51 : decode cX1_addOwner 51 = .ok (.ireturn, 1) := by decide +kernel
theorem dX1_givePoints_0 : decode cX1_givePoints 0 = .ok (.aload_n 0, 1) := by decide +kernel
theorem dX1_givePoints_1 : decode cX1_givePoints 1 = .ok (.getfield 9, 3) := by decide +kernel
theorem dX1_givePoints_4 : decode cX1_givePoints 4 = .ok (.iconst 0, 1) := by decide +kernel
theorem dX1_givePoints_5 : decode cX1_givePoints 5 = .ok (.iaload, 1) := by decide +kernel
theorem dX1_givePoints_6 : decode cX1_givePoints 6 = .ok (.aload_n 0, 1) := by decide +kernel
theorem dX1_givePoints_7 : decode cX1_givePoints 7 = .ok (.getfield 18, 3) := by decide +kernel
theorem dX1_givePoints_10 : decode cX1_givePoints 10 = .ok (.iload_n 1, 1) := by decide +kernel
theorem dX1_givePoints_11 : decode cX1_givePoints 11 = .ok (.iaload, 1) := by decide +kernel
theorem dX1_givePoints_12 : decode cX1_givePoints 12 = .ok (.imul, 1) := by decide +kernel
theorem dX1_givePoints_13 : decode cX1_givePoints 13 = .ok (.istore_n 2, 1) := by decide +kernel
theorem dX1_givePoints_14 : decode cX1_givePoints 14 = .ok (.aload_n 0, 1) := by decide +kernel
theorem dX1_givePoints_15 : decode cX1_givePoints 15 = .ok (.getfield 21, 3) := by decide +kernel
theorem dX1_givePoints_18 : decode cX1_givePoints 18 = .ok (.iload_n 1, 1) := by decide +kernel
theorem dX1_givePoints_19 : decode cX1_givePoints 19 = .ok (.dup2, 1) := by decide +kernel
theorem dX1_givePoints_20 : decode cX1_givePoints 20 = .ok (.iaload, 1) := by decide +kernel
theorem dX1_givePoints_21 : decode cX1_givePoints 21 = .ok (.iload_n 2, 1) := by decide +kernel
theorem dX1_givePoints_22 : decode cX1_givePoints 22 = .ok (.iadd, 1) := by decide +kernel
theorem dX1_givePoints_23 : decode cX1_givePoints 23 = .ok (.iastore, 1) := by decide +kernel
theorem dX1_givePoints_24 : decode cX1_givePoints 24 = .ok (.aload_n 0, 1) := by decide +kernel
theorem dX1_givePoints_25 : decode cX1_givePoints 25 = .ok (.getfield 15, 3) := by decide +kernel
theorem dX1_givePoints_28 : decode cX1_givePoints 28 = .ok (.iconst 0, 1) := by decide +kernel
theorem dX1_givePoints_29 : decode cX1_givePoints 29 = .ok (.dup2, 1) := by decide +kernel
theorem dX1_givePoints_30 : decode cX1_givePoints 30 = .ok (.iaload, 1) := by decide +kernel
theorem dX1_givePoints_31 : decode cX1_givePoints 31 = .ok (.iload_n 2, 1) := by decide +kernel
theorem dX1_givePoints_32 : decode cX1_givePoints 32 = .ok (.iadd, 1) := by decide +kernel
theorem dX1_givePoints_33 : decode cX1_givePoints 33 = .ok (.iastore, 1) := by decide +kernel
theorem dX1_givePoints_34 : decode cX1_givePoints 34 = .ok (.return_, 1) := by decide +kernel
theorem dX1_spendPoints_0 : decode cX1_spendPoints 0 = .ok (.aload_n 0, 1) := by decide +kernel
theorem dX1_spendPoints_1 : decode cX1_spendPoints 1 = .ok (.getfield 21, 3) := by decide +kernel
theorem dX1_spendPoints_4 : decode cX1_spendPoints 4 = .ok (.iload_n 1, 1) := by decide +kernel
theorem dX1_spendPoints_5 : decode cX1_spendPoints 5 = .ok (.dup2, 1) := by decide +kernel
theorem dX1_spendPoints_6 : decode cX1_spendPoints 6 = .ok (.iaload, 1) := by decide +kernel
theorem dX1_spendPoints_7 : decode cX1_spendPoints 7 = .ok (.iload_n 2, 1) := by decide +kernel
theorem dX1_spendPoints_8 : decode cX1_spendPoints 8 = .ok (.isub, 1) := by decide +kernel
theorem dX1_spendPoints_9 : decode cX1_spendPoints 9 = .ok (.iastore, 1) := by decide +kernel
theorem dX1_spendPoints_10 : decode cX1_spendPoints 10 = .ok (.aload_n 0, 1) := by decide +kernel
theorem dX1_spendPoints_11 : decode cX1_spendPoints 11 = .ok (.getfield 15, 3) := by decide +kernel
theorem dX1_spendPoints_14 : decode cX1_spendPoints 14 = .ok (.iconst 1, 1) := by decide +kernel
theorem dX1_spendPoints_15 : decode cX1_spendPoints 15 = .ok (.dup2, 1) := by decide +kernel
theorem dX1_spendPoints_16 : decode cX1_spendPoints 16 = .ok (.iaload, 1) := by decide +kernel
theorem dX1_spendPoints_17 : decode cX1_spendPoints 17 = .ok (.iload_n 2, 1) := by decide +kernel
theorem dX1_spendPoints_18 : decode cX1_spendPoints 18 = .ok (.iadd, 1) := by decide +kernel
theorem dX1_spendPoints_19 : decode cX1_spendPoints 19 = .ok (.iastore, 1) := by decide +kernel
theorem dX1_spendPoints_20 : decode cX1_spendPoints 20 = .ok (.return_, 1) := by decide +kernel
theorem dX1_changeCost_0 : decode cX1_changeCost 0 = .ok (.aload_n 0, 1) := by decide +kernel
theorem dX1_changeCost_1 : decode cX1_changeCost 1 = .ok (.iload_n 1, 1) := by decide +kernel
theorem dX1_changeCost_2 : decode cX1_changeCost 2 = .ok (.invokevirtual 84, 3) := by decide +kernel
theorem dX1_changeCost_5 : decode cX1_changeCost 5 = .ok (.ifCond .eq 14, 3) := by decide +kernel
theorem dX1_changeCost_8 : decode cX1_changeCost 8 = .ok (.iload_n 2, 1) := by decide +kernel
theorem dX1_changeCost_9 : decode cX1_changeCost 9 = .ok (.iconst 1, 1) := by decide +kernel
theorem dX1_changeCost_10 : decode cX1_changeCost 10 = .ok (.if_icmp .lt 9, 3) := by decide +kernel
theorem dX1_changeCost_13 : decode cX1_changeCost 13 = .ok (.iload_n 2, 1) := by decide +kernel
theorem dX1_changeCost_14 : decode cX1_changeCost 14 = .ok (.bipush 9, 2) := by decide +kernel
theorem dX1_changeCost_16 : decode cX1_changeCost 16 = .ok (.if_icmp .le 6, 3) := by decide +kernel
theorem dX1_changeCost_19 : decode cX1_changeCost 19 = .ok (.bipush (-2), 2) := by decide +kernel
theorem dX1_changeCost_21 : decode cX1_changeCost 21 = .ok (.ireturn, 1) := by decide +kernel
theorem dX1_changeCost_22 : decode cX1_changeCost 22 = .ok (.aload_n 0, 1) := by decide +kernel
theorem dX1_changeCost_23 : decode cX1_changeCost 23 = .ok (.getfield 30, 3) := by decide +kernel
theorem dX1_changeCost_26 : decode cX1_changeCost 26 = .ok (.iload_n 1, 1) := by decide +kernel
theorem dX1_changeCost_27 : decode cX1_changeCost 27 = .ok (.iaload, 1) := by decide +kernel
theorem dX1_changeCost_28 : decode cX1_changeCost 28 = .ok (.istore_n 3, 1) := by decide +kernel
theorem dX1_changeCost_29 : decode cX1_changeCost 29 = .ok (.aload_n 0, 1) := by decide +kernel
theorem dX1_changeCost_30 : decode cX1_changeCost 30 = .ok (.getfield 30, 3) := by decide +kernel
theorem dX1_changeCost_33 : decode cX1_changeCost 33 = .ok (.iload_n 1, 1) := by decide +kernel
theorem dX1_changeCost_34 : decode cX1_changeCost 34 = .ok (.iload_n 2, 1) := by decide +kernel
theorem dX1_changeCost_35 : decode cX1_changeCost 35 = .ok (.iastore, 1) := by decide +kernel
theorem dX1_changeCost_36 : decode cX1_changeCost 36 = .ok (.iload_n 3, 1) := by decide +kernel
theorem dX1_changeCost_37 : decode cX1_changeCost 37 = .ok (.ireturn, 1) := by decide +kernel
theorem dX1_markSchool_0 : decode cX1_markSchool 0 = .ok (.aload_n 0, 1) := by decide +kernel
theorem dX1_markSchool_1 : decode cX1_markSchool 1 = .ok (.iload_n 1, 1) := by decide +kernel
theorem dX1_markSchool_2 : decode cX1_markSchool 2 = .ok (.invokevirtual 84, 3) := by decide +kernel
theorem dX1_markSchool_5 : decode cX1_markSchool 5 = .ok (.ifCond .ne 6, 3) := by decide +kernel
theorem dX1_markSchool_8 : decode cX1_markSchool 8 = .ok (.bipush (-2), 2) := by decide +kernel
theorem dX1_markSchool_10 : decode cX1_markSchool 10 = .ok (.ireturn, 1) := by decide +kernel
theorem dX1_markSchool_11 : decode cX1_markSchool 11 = .ok (.aload_n 0, 1) := by decide +kernel
theorem dX1_markSchool_12 : decode cX1_markSchool 12 = .ok (.getfield 33, 3) := by decide +kernel
theorem dX1_markSchool_15 : decode cX1_markSchool 15 = .ok (.iload_n 1, 1) := by decide +kernel
theorem dX1_markSchool_16 : decode cX1_markSchool 16 = .ok (.iload_n 2, 1) := by decide +kernel
theorem dX1_markSchool_17 : decode cX1_markSchool 17 = .ok (.bastore, 1) := by decide +kernel
theorem dX1_markSchool_18 : decode cX1_markSchool 18 = .ok (.iconst 0, 1) := by decide +kernel
theorem dX1_markSchool_19 : decode cX1_markSchool 19 = .ok (.istore_n 3, 1) := by decide +kernel
theorem dX1_markSchool_20 : decode cX1_markSchool 20 = .ok (.iconst 0, 1) := by decide +kernel
theorem dX1_markSchool_21 : decode cX1_markSchool 21 = .ok (.istore 4, 2) := by decide +kernel
theorem dX1_markSchool_23 : decode cX1_markSchool 23 = .ok (.iload 4, 2) := by decide +kernel
theorem dX1_markSchool_25 : decode cX1_markSchool 25 = .ok (.bipush 20, 2) := by decide +kernel
theorem dX1_markSchool_27 : decode cX1_markSchool 27 = .ok (.if_icmp .ge 22, 3) := by decide +kernel
theorem dX1_markSchool_30 : decode cX1_markSchool 30 = .ok (.aload_n 0, 1) := by decide +kernel
theorem dX1_markSchool_31 : decode cX1_markSchool 31 = .ok (.getfield 33, 3) := by decide +kernel
theorem dX1_markSchool_34 : decode cX1_markSchool 34 = .ok (.iload 4, 2) := by decide +kernel
theorem dX1_markSchool_36 : decode cX1_markSchool 36 = .ok (.baload, 1) := by decide +kernel
theorem dX1_markSchool_37 : decode cX1_markSchool 37 = .ok (.ifCond .eq 6, 3) := by decide +kernel
theorem dX1_markSchool_40 : decode cX1_markSchool 40 = .ok (.iinc 3 1, 3) := by decide +kernel
theorem dX1_markSchool_43 : decode cX1_markSchool 43 = .ok (.iinc 4 1, 3) := by decide +kernel
theorem dX1_markSchool_46 : decode cX1_markSchool 46 = .ok (.goto (-23), 3) := by decide +kernel
theorem dX1_markSchool_49 : decode cX1_markSchool 49 = .ok (.iload_n 3, 1) := by decide +kernel
theorem dX1_markSchool_50 : decode cX1_markSchool 50 = .ok (.ireturn, 1) := by decide +kernel
theorem dX1_reasonAgainst_0 : decode cX1_reasonAgainst 0 = .ok (.aload_n 0, 1) := by decide +kernel
theorem dX1_reasonAgainst_1 : decode cX1_reasonAgainst 1 = .ok (.iload_n 1, 1) := by decide +kernel
theorem dX1_reasonAgainst_2 : decode cX1_reasonAgainst 2 = .ok (.invokevirtual 80, 3) := by decide +kernel
theorem dX1_reasonAgainst_5 : decode cX1_reasonAgainst 5 = .ok (.ifCond .eq 11, 3) := by decide +kernel
theorem dX1_reasonAgainst_8 : decode cX1_reasonAgainst 8 = .ok (.aload_n 0, 1) := by decide +kernel
theorem dX1_reasonAgainst_9 : decode cX1_reasonAgainst 9 = .ok (.iload_n 2, 1) := by decide +kernel
theorem dX1_reasonAgainst_10 : decode cX1_reasonAgainst 10 = .ok (.invokevirtual 84, 3) := by decide +kernel
theorem dX1_reasonAgainst_13 : decode cX1_reasonAgainst 13 = .ok (.ifCond .ne 6, 3) := by decide +kernel
theorem dX1_reasonAgainst_16 : decode cX1_reasonAgainst 16 = .ok (.bipush (-2), 2) := by decide +kernel
theorem dX1_reasonAgainst_18 : decode cX1_reasonAgainst 18 = .ok (.ireturn, 1) := by decide +kernel
theorem dX1_reasonAgainst_19 : decode cX1_reasonAgainst 19 = .ok (.aload_n 0, 1) := by decide +kernel
theorem dX1_reasonAgainst_20 : decode cX1_reasonAgainst 20 = .ok (.getfield 33, 3) := by decide +kernel
theorem dX1_reasonAgainst_23 : decode cX1_reasonAgainst 23 = .ok (.iload_n 2, 1) := by decide +kernel
theorem dX1_reasonAgainst_24 : decode cX1_reasonAgainst 24 = .ok (.baload, 1) := by decide +kernel
theorem dX1_reasonAgainst_25 : decode cX1_reasonAgainst 25 = .ok (.ifCond .eq 5, 3) := by decide +kernel
theorem dX1_reasonAgainst_28 : decode cX1_reasonAgainst 28 = .ok (.iconst 1, 1) := by decide +kernel
theorem dX1_reasonAgainst_29 : decode cX1_reasonAgainst 29 = .ok (.ireturn, 1) := by decide +kernel
theorem dX1_reasonAgainst_30 : decode cX1_reasonAgainst 30 = .ok (.aload_n 0, 1) := by decide +kernel
theorem dX1_reasonAgainst_31 : decode cX1_reasonAgainst 31 = .ok (.getfield 37, 3) := by decide +kernel
theorem dX1_reasonAgainst_34 : decode cX1_reasonAgainst 34 = .ok (.iload_n 2, 1) := by decide +kernel
theorem dX1_reasonAgainst_35 : decode cX1_reasonAgainst 35 = .ok (.iaload, 1) := by decide +kernel
theorem dX1_reasonAgainst_36 : decode cX1_reasonAgainst 36 = .ok (.iconst (-1), 1) := by decide +kernel
theorem dX1_reasonAgainst_37 : decode cX1_reasonAgainst 37 = .ok (.if_icmp .eq 5, 3) := by decide +kernel
theorem dX1_reasonAgainst_40 : decode cX1_reasonAgainst 40 = .ok (.iconst 2, 1) := by decide +kernel
theorem dX1_reasonAgainst_41 : decode cX1_reasonAgainst 41 = .ok (.ireturn, 1) := by decide +kernel
theorem dX1_reasonAgainst_42 : decode cX1_reasonAgainst 42 = .ok (.aload_n 0, 1) := by decide +kernel
theorem dX1_reasonAgainst_43 : decode cX1_reasonAgainst 43 = .ok (.iload_n 1, 1) := by decide +kernel
theorem dX1_reasonAgainst_44 : decode cX1_reasonAgainst 44 = .ok (.invokevirtual 104, 3) := by decide +kernel
theorem dX1_reasonAgainst_47 : decode cX1_reasonAgainst 47 = .ok (.aload_n 0, 1) := by decide +kernel
theorem dX1_reasonAgainst_48 : decode cX1_reasonAgainst 48 = .ok (.getfield 9, 3) := by decide +kernel
theorem dX1_reasonAgainst_51 : decode cX1_reasonAgainst 51 = .ok (.iconst 2, 1) := by decide +kernel
theorem dX1_reasonAgainst_52 : decode cX1_reasonAgainst 52 = .ok (.iaload, 1) := by decide +kernel
theorem dX1_reasonAgainst_53 : decode cX1_reasonAgainst 53 = .ok (.if_icmp .lt 5, 3) := by decide +kernel
theorem dX1_reasonAgainst_56 : decode cX1_reasonAgainst 56 = .ok (.iconst 3, 1) := by decide +kernel
theorem dX1_reasonAgainst_57 : decode cX1_reasonAgainst 57 = .ok (.ireturn, 1) := by decide +kernel
theorem dX1_reasonAgainst_58 : decode cX1_reasonAgainst 58 = .ok (.aload_n 0, 1) := by decide +kernel
theorem dX1_reasonAgainst_59 : decode cX1_reasonAgainst 59 = .ok (.getfield 21, 3) := by decide +kernel
theorem dX1_reasonAgainst_62 : decode cX1_reasonAgainst 62 = .ok (.iload_n 1, 1) := by decide +kernel
theorem dX1_reasonAgainst_63 : decode cX1_reasonAgainst 63 = .ok (.iaload, 1) := by decide +kernel
theorem dX1_reasonAgainst_64 : decode cX1_reasonAgainst 64 = .ok (.aload_n 0, 1) := by decide +kernel
theorem dX1_reasonAgainst_65 : decode cX1_reasonAgainst 65 = .ok (.getfield 30, 3) := by decide +kernel
theorem dX1_reasonAgainst_68 : decode cX1_reasonAgainst 68 = .ok (.iload_n 2, 1) := by decide +kernel
theorem dX1_reasonAgainst_69 : decode cX1_reasonAgainst 69 = .ok (.iaload, 1) := by decide +kernel
theorem dX1_reasonAgainst_70 : decode cX1_reasonAgainst 70 = .ok (.if_icmp .ge 7, 3) := by decide +kernel
theorem dX1_reasonAgainst_73 : decode cX1_reasonAgainst 73 = .ok (.iconst 4, 1) := by decide +kernel
theorem dX1_reasonAgainst_74 : decode cX1_reasonAgainst 74 = .ok (.goto 4, 3) := by decide +kernel
theorem dX1_reasonAgainst_77 : decode cX1_reasonAgainst 77 = .ok (.iconst 0, 1) := by decide +kernel
theorem dX1_reasonAgainst_78 : decode cX1_reasonAgainst 78 = .ok (.ireturn, 1) := by decide +kernel
theorem dX1_takeWeek_0 : decode cX1_takeWeek 0 = .ok (.aload_n 0, 1) := by decide +kernel
theorem dX1_takeWeek_1 : decode cX1_takeWeek 1 = .ok (.iload_n 1, 1) := by decide +kernel
theorem dX1_takeWeek_2 : decode cX1_takeWeek 2 = .ok (.invokevirtual 80, 3) := by decide +kernel
theorem dX1_takeWeek_5 : decode cX1_takeWeek 5 = .ok (.ifCond .eq 11, 3) := by decide +kernel
theorem dX1_takeWeek_8 : decode cX1_takeWeek 8 = .ok (.aload_n 0, 1) := by decide +kernel
theorem dX1_takeWeek_9 : decode cX1_takeWeek 9 = .ok (.iload_n 2, 1) := by decide +kernel
theorem dX1_takeWeek_10 : decode cX1_takeWeek 10 = .ok (.invokevirtual 84, 3) := by decide +kernel
theorem dX1_takeWeek_13 : decode cX1_takeWeek 13 = .ok (.ifCond .ne 6, 3) := by decide +kernel
theorem dX1_takeWeek_16 : decode cX1_takeWeek 16 = .ok (.bipush (-2), 2) := by decide +kernel
theorem dX1_takeWeek_18 : decode cX1_takeWeek 18 = .ok (.ireturn, 1) := by decide +kernel
theorem dX1_takeWeek_19 : decode cX1_takeWeek 19 = .ok (.aload_n 0, 1) := by decide +kernel
theorem dX1_takeWeek_20 : decode cX1_takeWeek 20 = .ok (.iload_n 1, 1) := by decide +kernel
theorem dX1_takeWeek_21 : decode cX1_takeWeek 21 = .ok (.iload_n 2, 1) := by decide +kernel
theorem dX1_takeWeek_22 : decode cX1_takeWeek 22 = .ok (.invokevirtual 107, 3) := by decide +kernel
theorem dX1_takeWeek_25 : decode cX1_takeWeek 25 = .ok (.istore_n 3, 1) := by decide +kernel
theorem dX1_takeWeek_26 : decode cX1_takeWeek 26 = .ok (.iload_n 3, 1) := by decide +kernel
theorem dX1_takeWeek_27 : decode cX1_takeWeek 27 = .ok (.ifCond .ne 24, 3) := by decide +kernel
theorem dX1_takeWeek_30 : decode cX1_takeWeek 30 = .ok (.aload_n 0, 1) := by decide +kernel
theorem dX1_takeWeek_31 : decode cX1_takeWeek 31 = .ok (.getfield 37, 3) := by decide +kernel
theorem dX1_takeWeek_34 : decode cX1_takeWeek 34 = .ok (.iload_n 2, 1) := by decide +kernel
theorem dX1_takeWeek_35 : decode cX1_takeWeek 35 = .ok (.iload_n 1, 1) := by decide +kernel
theorem dX1_takeWeek_36 : decode cX1_takeWeek 36 = .ok (.iastore, 1) := by decide +kernel
theorem dX1_takeWeek_37 : decode cX1_takeWeek 37 = .ok (.aload_n 0, 1) := by decide +kernel
theorem dX1_takeWeek_38 : decode cX1_takeWeek 38 = .ok (.iload_n 1, 1) := by decide +kernel
theorem dX1_takeWeek_39 : decode cX1_takeWeek 39 = .ok (.aload_n 0, 1) := by decide +kernel
theorem dX1_takeWeek_40 : decode cX1_takeWeek 40 = .ok (.getfield 30, 3) := by decide +kernel
theorem dX1_takeWeek_43 : decode cX1_takeWeek 43 = .ok (.iload_n 2, 1) := by decide +kernel
theorem dX1_takeWeek_44 : decode cX1_takeWeek 44 = .ok (.iaload, 1) := by decide +kernel
theorem dX1_takeWeek_45 : decode cX1_takeWeek 45 = .ok (.invokevirtual 110, 3) := by decide +kernel
theorem dX1_takeWeek_48 : decode cX1_takeWeek 48 = .ok (.goto 14, 3) := by decide +kernel
theorem dX1_takeWeek_51 : decode cX1_takeWeek 51 = .ok (.aload_n 0, 1) := by decide +kernel
theorem dX1_takeWeek_52 : decode cX1_takeWeek 52 = .ok (.getfield 15, 3) := by decide +kernel
theorem dX1_takeWeek_55 : decode cX1_takeWeek 55 = .ok (.bipush 6, 2) := by decide +kernel
theorem dX1_takeWeek_57 : decode cX1_takeWeek 57 = .ok (.dup2, 1) := by decide +kernel
theorem dX1_takeWeek_58 : decode cX1_takeWeek 58 = .ok (.iaload, 1) := by decide +kernel
theorem dX1_takeWeek_59 : decode cX1_takeWeek 59 = .ok (.iconst 1, 1) := by decide +kernel
theorem dX1_takeWeek_60 : decode cX1_takeWeek 60 = .ok (.iadd, 1) := by decide +kernel
theorem dX1_takeWeek_61 : decode cX1_takeWeek 61 = .ok (.iastore, 1) := by decide +kernel
theorem dX1_takeWeek_62 : decode cX1_takeWeek 62 = .ok (.iload_n 3, 1) := by decide +kernel
theorem dX1_takeWeek_63 : decode cX1_takeWeek 63 = .ok (.ireturn, 1) := by decide +kernel
theorem dX1_giveBack_0 : decode cX1_giveBack 0 = .ok (.aload_n 0, 1) := by decide +kernel
theorem dX1_giveBack_1 : decode cX1_giveBack 1 = .ok (.iload_n 1, 1) := by decide +kernel
theorem dX1_giveBack_2 : decode cX1_giveBack 2 = .ok (.iload_n 2, 1) := by decide +kernel
theorem dX1_giveBack_3 : decode cX1_giveBack 3 = .ok (.invokevirtual 114, 3) := by decide +kernel
theorem dX1_giveBack_6 : decode cX1_giveBack 6 = .ok (.ifCond .ne 6, 3) := by decide +kernel
theorem dX1_giveBack_9 : decode cX1_giveBack 9 = .ok (.bipush (-2), 2) := by decide +kernel
theorem dX1_giveBack_11 : decode cX1_giveBack 11 = .ok (.ireturn, 1) := by decide +kernel
theorem dX1_giveBack_12 : decode cX1_giveBack 12 = .ok (.aload_n 0, 1) := by decide +kernel
theorem dX1_giveBack_13 : decode cX1_giveBack 13 = .ok (.getfield 30, 3) := by decide +kernel
theorem dX1_giveBack_16 : decode cX1_giveBack 16 = .ok (.iload_n 2, 1) := by decide +kernel
theorem dX1_giveBack_17 : decode cX1_giveBack 17 = .ok (.iaload, 1) := by decide +kernel
theorem dX1_giveBack_18 : decode cX1_giveBack 18 = .ok (.iconst 2, 1) := by decide +kernel
theorem dX1_giveBack_19 : decode cX1_giveBack 19 = .ok (.idiv, 1) := by decide +kernel
theorem dX1_giveBack_20 : decode cX1_giveBack 20 = .ok (.istore_n 3, 1) := by decide +kernel
theorem dX1_giveBack_21 : decode cX1_giveBack 21 = .ok (.aload_n 0, 1) := by decide +kernel
theorem dX1_giveBack_22 : decode cX1_giveBack 22 = .ok (.getfield 37, 3) := by decide +kernel
theorem dX1_giveBack_25 : decode cX1_giveBack 25 = .ok (.iload_n 2, 1) := by decide +kernel
theorem dX1_giveBack_26 : decode cX1_giveBack 26 = .ok (.iconst (-1), 1) := by decide +kernel
theorem dX1_giveBack_27 : decode cX1_giveBack 27 = .ok (.iastore, 1) := by decide +kernel
theorem dX1_giveBack_28 : decode cX1_giveBack 28 = .ok (.aload_n 0, 1) := by decide +kernel
theorem dX1_giveBack_29 : decode cX1_giveBack 29 = .ok (.getfield 21, 3) := by decide +kernel
theorem dX1_giveBack_32 : decode cX1_giveBack 32 = .ok (.iload_n 1, 1) := by decide +kernel
theorem dX1_giveBack_33 : decode cX1_giveBack 33 = .ok (.dup2, 1) := by decide +kernel
theorem dX1_giveBack_34 : decode cX1_giveBack 34 = .ok (.iaload, 1) := by decide +kernel
theorem dX1_giveBack_35 : decode cX1_giveBack 35 = .ok (.iload_n 3, 1) := by decide +kernel
theorem dX1_giveBack_36 : decode cX1_giveBack 36 = .ok (.iadd, 1) := by decide +kernel
theorem dX1_giveBack_37 : decode cX1_giveBack 37 = .ok (.iastore, 1) := by decide +kernel
theorem dX1_giveBack_38 : decode cX1_giveBack 38 = .ok (.aload_n 0, 1) := by decide +kernel
theorem dX1_giveBack_39 : decode cX1_giveBack 39 = .ok (.getfield 15, 3) := by decide +kernel
theorem dX1_giveBack_42 : decode cX1_giveBack 42 = .ok (.iconst 2, 1) := by decide +kernel
theorem dX1_giveBack_43 : decode cX1_giveBack 43 = .ok (.dup2, 1) := by decide +kernel
theorem dX1_giveBack_44 : decode cX1_giveBack 44 = .ok (.iaload, 1) := by decide +kernel
theorem dX1_giveBack_45 : decode cX1_giveBack 45 = .ok (.iload_n 3, 1) := by decide +kernel
theorem dX1_giveBack_46 : decode cX1_giveBack 46 = .ok (.iadd, 1) := by decide +kernel
theorem dX1_giveBack_47 : decode cX1_giveBack 47 = .ok (.iastore, 1) := by decide +kernel
theorem dX1_giveBack_48 : decode cX1_giveBack 48 = .ok (.iload_n 3, 1) := by decide +kernel
theorem dX1_giveBack_49 : decode cX1_giveBack 49 = .ok (.ireturn, 1) := by decide +kernel
theorem dX1_placeBid_0 : decode cX1_placeBid 0 = .ok (.aload_n 0, 1) := by decide +kernel
theorem dX1_placeBid_1 : decode cX1_placeBid 1 = .ok (.iload_n 1, 1) := by decide +kernel
theorem dX1_placeBid_2 : decode cX1_placeBid 2 = .ok (.invokevirtual 80, 3) := by decide +kernel
theorem dX1_placeBid_5 : decode cX1_placeBid 5 = .ok (.ifCond .eq 21, 3) := by decide +kernel
theorem dX1_placeBid_8 : decode cX1_placeBid 8 = .ok (.aload_n 0, 1) := by decide +kernel
theorem dX1_placeBid_9 : decode cX1_placeBid 9 = .ok (.iload_n 2, 1) := by decide +kernel
theorem dX1_placeBid_10 : decode cX1_placeBid 10 = .ok (.invokevirtual 118, 3) := by decide +kernel
theorem dX1_placeBid_13 : decode cX1_placeBid 13 = .ok (.ifCond .eq 13, 3) := by decide +kernel
theorem dX1_placeBid_16 : decode cX1_placeBid 16 = .ok (.iload_n 3, 1) := by decide +kernel
theorem dX1_placeBid_17 : decode cX1_placeBid 17 = .ok (.ifCond .lt 9, 3) := by decide +kernel
theorem dX1_placeBid_20 : decode cX1_placeBid 20 = .ok (.iload_n 3, 1) := by decide +kernel
theorem dX1_placeBid_21 : decode cX1_placeBid 21 = .ok (.bipush 20, 2) := by decide +kernel
theorem dX1_placeBid_23 : decode cX1_placeBid 23 = .ok (.if_icmp .le 6, 3) := by decide +kernel
theorem dX1_placeBid_26 : decode cX1_placeBid 26 = .ok (.bipush (-2), 2) := by decide +kernel
theorem dX1_placeBid_28 : decode cX1_placeBid 28 = .ok (.ireturn, 1) := by decide +kernel
theorem dX1_placeBid_29 : decode cX1_placeBid 29 = .ok (.aload_n 0, 1) := by decide +kernel
theorem dX1_placeBid_30 : decode cX1_placeBid 30 = .ok (.getfield 40, 3) := by decide +kernel
theorem dX1_placeBid_33 : decode cX1_placeBid 33 = .ok (.iload_n 1, 1) := by decide +kernel
theorem dX1_placeBid_34 : decode cX1_placeBid 34 = .ok (.bipush 20, 2) := by decide +kernel
theorem dX1_placeBid_36 : decode cX1_placeBid 36 = .ok (.imul, 1) := by decide +kernel
theorem dX1_placeBid_37 : decode cX1_placeBid 37 = .ok (.iload_n 2, 1) := by decide +kernel
theorem dX1_placeBid_38 : decode cX1_placeBid 38 = .ok (.iadd, 1) := by decide +kernel
theorem dX1_placeBid_39 : decode cX1_placeBid 39 = .ok (.iload_n 3, 1) := by decide +kernel
theorem dX1_placeBid_40 : decode cX1_placeBid 40 = .ok (.iastore, 1) := by decide +kernel
theorem dX1_placeBid_41 : decode cX1_placeBid 41 = .ok (.aload_n 0, 1) := by decide +kernel
theorem dX1_placeBid_42 : decode cX1_placeBid 42 = .ok (.iload_n 2, 1) := by decide +kernel
theorem dX1_placeBid_43 : decode cX1_placeBid 43 = .ok (.invokevirtual 121, 3) := by decide +kernel
theorem dX1_placeBid_46 : decode cX1_placeBid 46 = .ok (.ireturn, 1) := by decide +kernel
theorem dX1_settleBids_0 : decode cX1_settleBids 0 = .ok (.iconst 0, 1) := by decide +kernel
theorem dX1_settleBids_1 : decode cX1_settleBids 1 = .ok (.istore_n 1, 1) := by decide +kernel
theorem dX1_settleBids_2 : decode cX1_settleBids 2 = .ok (.iconst 0, 1) := by decide +kernel
theorem dX1_settleBids_3 : decode cX1_settleBids 3 = .ok (.istore_n 2, 1) := by decide +kernel
theorem dX1_settleBids_4 : decode cX1_settleBids 4 = .ok (.iload_n 2, 1) := by decide +kernel
theorem dX1_settleBids_5 : decode cX1_settleBids 5 = .ok (.bipush 20, 2) := by decide +kernel
theorem dX1_settleBids_7 : decode cX1_settleBids 7 = .ok (.if_icmp .ge 20, 3) := by decide +kernel
theorem dX1_settleBids_10 : decode cX1_settleBids 10 = .ok (.aload_n 0, 1) := by decide +kernel
theorem dX1_settleBids_11 : decode cX1_settleBids 11 = .ok (.iload_n 2, 1) := by decide +kernel
theorem dX1_settleBids_12 : decode cX1_settleBids 12 = .ok (.invokevirtual 124, 3) := by decide +kernel
theorem dX1_settleBids_15 : decode cX1_settleBids 15 = .ok (.ifCond .eq 6, 3) := by decide +kernel
theorem dX1_settleBids_18 : decode cX1_settleBids 18 = .ok (.iinc 1 1, 3) := by decide +kernel
theorem dX1_settleBids_21 : decode cX1_settleBids 21 = .ok (.iinc 2 1, 3) := by decide +kernel
theorem dX1_settleBids_24 : decode cX1_settleBids 24 = .ok (.goto (-20), 3) := by decide +kernel
theorem dX1_settleBids_27 : decode cX1_settleBids 27 = .ok (.aload_n 0, 1) := by decide +kernel
theorem dX1_settleBids_28 : decode cX1_settleBids 28 = .ok (.getfield 40, 3) := by decide +kernel
theorem dX1_settleBids_31 : decode cX1_settleBids 31 = .ok (.iconst (-1), 1) := by decide +kernel
theorem dX1_settleBids_32 : decode cX1_settleBids 32 = .ok (.invokestatic 64, 3) := by decide +kernel
theorem dX1_settleBids_35 : decode cX1_settleBids 35 = .ok (.iload_n 1, 1) := by decide +kernel
theorem dX1_settleBids_36 : decode cX1_settleBids 36 = .ok (.ireturn, 1) := by decide +kernel
theorem dX1_settleWeek_0 : decode cX1_settleWeek 0 = .ok (.aload_n 0, 1) := by decide +kernel
theorem dX1_settleWeek_1 : decode cX1_settleWeek 1 = .ok (.iload_n 1, 1) := by decide +kernel
theorem dX1_settleWeek_2 : decode cX1_settleWeek 2 = .ok (.invokevirtual 127, 3) := by decide +kernel
theorem dX1_settleWeek_5 : decode cX1_settleWeek 5 = .ok (.istore_n 2, 1) := by decide +kernel
theorem dX1_settleWeek_6 : decode cX1_settleWeek 6 = .ok (.aload_n 0, 1) := by decide +kernel
theorem dX1_settleWeek_7 : decode cX1_settleWeek 7 = .ok (.iload_n 2, 1) := by decide +kernel
theorem dX1_settleWeek_8 : decode cX1_settleWeek 8 = .ok (.invokevirtual 80, 3) := by decide +kernel
theorem dX1_settleWeek_11 : decode cX1_settleWeek 11 = .ok (.ifCond .eq 11, 3) := by decide +kernel
theorem dX1_settleWeek_14 : decode cX1_settleWeek 14 = .ok (.aload_n 0, 1) := by decide +kernel
theorem dX1_settleWeek_15 : decode cX1_settleWeek 15 = .ok (.iload_n 1, 1) := by decide +kernel
theorem dX1_settleWeek_16 : decode cX1_settleWeek 16 = .ok (.invokevirtual 84, 3) := by decide +kernel
theorem dX1_settleWeek_19 : decode cX1_settleWeek 19 = .ok (.ifCond .ne 5, 3) := by decide +kernel
theorem dX1_settleWeek_22 : decode cX1_settleWeek 22 = .ok (.iconst 0, 1) := by decide +kernel
theorem dX1_settleWeek_23 : decode cX1_settleWeek 23 = .ok (.ireturn, 1) := by decide +kernel
theorem dX1_settleWeek_24 : decode cX1_settleWeek 24 = .ok (.aload_n 0, 1) := by decide +kernel
theorem dX1_settleWeek_25 : decode cX1_settleWeek 25 = .ok (.iload_n 2, 1) := by decide +kernel
theorem dX1_settleWeek_26 : decode cX1_settleWeek 26 = .ok (.aload_n 0, 1) := by decide +kernel
theorem dX1_settleWeek_27 : decode cX1_settleWeek 27 = .ok (.getfield 30, 3) := by decide +kernel
theorem dX1_settleWeek_30 : decode cX1_settleWeek 30 = .ok (.iload_n 1, 1) := by decide +kernel
theorem dX1_settleWeek_31 : decode cX1_settleWeek 31 = .ok (.iaload, 1) := by decide +kernel
theorem dX1_settleWeek_32 : decode cX1_settleWeek 32 = .ok (.aload_n 0, 1) := by decide +kernel
theorem dX1_settleWeek_33 : decode cX1_settleWeek 33 = .ok (.iload_n 2, 1) := by decide +kernel
theorem dX1_settleWeek_34 : decode cX1_settleWeek 34 = .ok (.iload_n 1, 1) := by decide +kernel
theorem dX1_settleWeek_35 : decode cX1_settleWeek 35 = .ok (.invokevirtual 87, 3) := by decide +kernel
theorem dX1_settleWeek_38 : decode cX1_settleWeek 38 = .ok (.iadd, 1) := by decide +kernel
theorem dX1_settleWeek_39 : decode cX1_settleWeek 39 = .ok (.invokevirtual 110, 3) := by decide +kernel
theorem dX1_settleWeek_42 : decode cX1_settleWeek 42 = .ok (.aload_n 0, 1) := by decide +kernel
theorem dX1_settleWeek_43 : decode cX1_settleWeek 43 = .ok (.getfield 37, 3) := by decide +kernel
theorem dX1_settleWeek_46 : decode cX1_settleWeek 46 = .ok (.iload_n 1, 1) := by decide +kernel
theorem dX1_settleWeek_47 : decode cX1_settleWeek 47 = .ok (.iload_n 2, 1) := by decide +kernel
theorem dX1_settleWeek_48 : decode cX1_settleWeek 48 = .ok (.iastore, 1) := by decide +kernel
theorem dX1_settleWeek_49 : decode cX1_settleWeek 49 = .ok (.aload_n 0, 1) := by decide +kernel
theorem dX1_settleWeek_50 : decode cX1_settleWeek 50 = .ok (.getfield 24, 3) := by decide +kernel
theorem dX1_settleWeek_53 : decode cX1_settleWeek 53 = .ok (.iload_n 2, 1) := by decide +kernel
theorem dX1_settleWeek_54 : decode cX1_settleWeek 54 = .ok (.dup2, 1) := by decide +kernel
theorem dX1_settleWeek_55 : decode cX1_settleWeek 55 = .ok (.iaload, 1) := by decide +kernel
theorem dX1_settleWeek_56 : decode cX1_settleWeek 56 = .ok (.iconst 1, 1) := by decide +kernel
theorem dX1_settleWeek_57 : decode cX1_settleWeek 57 = .ok (.iadd, 1) := by decide +kernel
theorem dX1_settleWeek_58 : decode cX1_settleWeek 58 = .ok (.iastore, 1) := by decide +kernel
theorem dX1_settleWeek_59 : decode cX1_settleWeek 59 = .ok (.iconst 1, 1) := by decide +kernel
theorem dX1_settleWeek_60 : decode cX1_settleWeek 60 = .ok (.ireturn, 1) := by decide +kernel
theorem dX1_bestBidder_0 : decode cX1_bestBidder 0 = .ok (.iconst (-1), 1) := by decide +kernel
theorem dX1_bestBidder_1 : decode cX1_bestBidder 1 = .ok (.istore_n 2, 1) := by decide +kernel
theorem dX1_bestBidder_2 : decode cX1_bestBidder 2 = .ok (.aload_n 0, 1) := by decide +kernel
theorem dX1_bestBidder_3 : decode cX1_bestBidder 3 = .ok (.iload_n 1, 1) := by decide +kernel
theorem dX1_bestBidder_4 : decode cX1_bestBidder 4 = .ok (.invokevirtual 118, 3) := by decide +kernel
theorem dX1_bestBidder_7 : decode cX1_bestBidder 7 = .ok (.ifCond .ne 5, 3) := by decide +kernel
theorem dX1_bestBidder_10 : decode cX1_bestBidder 10 = .ok (.iload_n 2, 1) := by decide +kernel
theorem dX1_bestBidder_11 : decode cX1_bestBidder 11 = .ok (.ireturn, 1) := by decide +kernel
theorem dX1_bestBidder_12 : decode cX1_bestBidder 12 = .ok (.iconst 0, 1) := by decide +kernel
theorem dX1_bestBidder_13 : decode cX1_bestBidder 13 = .ok (.istore_n 3, 1) := by decide +kernel
theorem dX1_bestBidder_14 : decode cX1_bestBidder 14 = .ok (.iload_n 3, 1) := by decide +kernel
theorem dX1_bestBidder_15 : decode cX1_bestBidder 15 = .ok (.bipush 6, 2) := by decide +kernel
theorem dX1_bestBidder_17 : decode cX1_bestBidder 17 = .ok (.if_icmp .ge 35, 3) := by decide +kernel
theorem dX1_bestBidder_20 : decode cX1_bestBidder 20 = .ok (.aload_n 0, 1) := by decide +kernel
theorem dX1_bestBidder_21 : decode cX1_bestBidder 21 = .ok (.iload_n 3, 1) := by decide +kernel
theorem dX1_bestBidder_22 : decode cX1_bestBidder 22 = .ok (.iload_n 1, 1) := by decide +kernel
theorem dX1_bestBidder_23 : decode cX1_bestBidder 23 = .ok (.invokevirtual 130, 3) := by decide +kernel
theorem dX1_bestBidder_26 : decode cX1_bestBidder 26 = .ok (.ifCond .eq 20, 3) := by decide +kernel
theorem dX1_bestBidder_29 : decode cX1_bestBidder 29 = .ok (.iload_n 2, 1) := by decide +kernel
theorem dX1_bestBidder_30 : decode cX1_bestBidder 30 = .ok (.iconst (-1), 1) := by decide +kernel
theorem dX1_bestBidder_31 : decode cX1_bestBidder 31 = .ok (.if_icmp .eq 13, 3) := by decide +kernel
theorem dX1_bestBidder_34 : decode cX1_bestBidder 34 = .ok (.aload_n 0, 1) := by decide +kernel
theorem dX1_bestBidder_35 : decode cX1_bestBidder 35 = .ok (.iload_n 3, 1) := by decide +kernel
theorem dX1_bestBidder_36 : decode cX1_bestBidder 36 = .ok (.iload_n 2, 1) := by decide +kernel
theorem dX1_bestBidder_37 : decode cX1_bestBidder 37 = .ok (.iload_n 1, 1) := by decide +kernel
theorem dX1_bestBidder_38 : decode cX1_bestBidder 38 = .ok (.invokevirtual 133, 3) := by decide +kernel
theorem dX1_bestBidder_41 : decode cX1_bestBidder 41 = .ok (.ifCond .eq 5, 3) := by decide +kernel
theorem dX1_bestBidder_44 : decode cX1_bestBidder 44 = .ok (.iload_n 3, 1) := by decide +kernel
theorem dX1_bestBidder_45 : decode cX1_bestBidder 45 = .ok (.istore_n 2, 1) := by decide +kernel
theorem dX1_bestBidder_46 : decode cX1_bestBidder 46 = .ok (.iinc 3 1, 3) := by decide +kernel
theorem dX1_bestBidder_49 : decode cX1_bestBidder 49 = .ok (.goto (-35), 3) := by decide +kernel
theorem dX1_bestBidder_52 : decode cX1_bestBidder 52 = .ok (.iload_n 2, 1) := by decide +kernel
theorem dX1_bestBidder_53 : decode cX1_bestBidder 53 = .ok (.ireturn, 1) := by decide +kernel
theorem dX1_canWin_0 : decode cX1_canWin 0 = .ok (.aload_n 0, 1) := by decide +kernel
theorem dX1_canWin_1 : decode cX1_canWin 1 = .ok (.iload_n 1, 1) := by decide +kernel
theorem dX1_canWin_2 : decode cX1_canWin 2 = .ok (.iload_n 2, 1) := by decide +kernel
theorem dX1_canWin_3 : decode cX1_canWin 3 = .ok (.invokevirtual 87, 3) := by decide +kernel
theorem dX1_canWin_6 : decode cX1_canWin 6 = .ok (.istore_n 3, 1) := by decide +kernel
theorem dX1_canWin_7 : decode cX1_canWin 7 = .ok (.iload_n 3, 1) := by decide +kernel
theorem dX1_canWin_8 : decode cX1_canWin 8 = .ok (.iconst (-1), 1) := by decide +kernel
theorem dX1_canWin_9 : decode cX1_canWin 9 = .ok (.if_icmp .eq 38, 3) := by decide +kernel
theorem dX1_canWin_12 : decode cX1_canWin 12 = .ok (.aload_n 0, 1) := by decide +kernel
theorem dX1_canWin_13 : decode cX1_canWin 13 = .ok (.iload_n 1, 1) := by decide +kernel
theorem dX1_canWin_14 : decode cX1_canWin 14 = .ok (.invokevirtual 104, 3) := by decide +kernel
theorem dX1_canWin_17 : decode cX1_canWin 17 = .ok (.aload_n 0, 1) := by decide +kernel
theorem dX1_canWin_18 : decode cX1_canWin 18 = .ok (.getfield 9, 3) := by decide +kernel
theorem dX1_canWin_21 : decode cX1_canWin 21 = .ok (.iconst 2, 1) := by decide +kernel
theorem dX1_canWin_22 : decode cX1_canWin 22 = .ok (.iaload, 1) := by decide +kernel
theorem dX1_canWin_23 : decode cX1_canWin 23 = .ok (.if_icmp .ge 24, 3) := by decide +kernel
theorem dX1_canWin_26 : decode cX1_canWin 26 = .ok (.aload_n 0, 1) := by decide +kernel
theorem dX1_canWin_27 : decode cX1_canWin 27 = .ok (.getfield 21, 3) := by decide +kernel
theorem dX1_canWin_30 : decode cX1_canWin 30 = .ok (.iload_n 1, 1) := by decide +kernel
theorem dX1_canWin_31 : decode cX1_canWin 31 = .ok (.iaload, 1) := by decide +kernel
theorem dX1_canWin_32 : decode cX1_canWin 32 = .ok (.aload_n 0, 1) := by decide +kernel
theorem dX1_canWin_33 : decode cX1_canWin 33 = .ok (.getfield 30, 3) := by decide +kernel
theorem dX1_canWin_36 : decode cX1_canWin 36 = .ok (.iload_n 2, 1) := by decide +kernel
theorem dX1_canWin_37 : decode cX1_canWin 37 = .ok (.iaload, 1) := by decide +kernel
theorem dX1_canWin_38 : decode cX1_canWin 38 = .ok (.iload_n 3, 1) := by decide +kernel
theorem dX1_canWin_39 : decode cX1_canWin 39 = .ok (.iadd, 1) := by decide +kernel
theorem dX1_canWin_40 : decode cX1_canWin 40 = .ok (.if_icmp .lt 7, 3) := by decide +kernel
theorem dX1_canWin_43 : decode cX1_canWin 43 = .ok (.iconst 1, 1) := by decide +kernel
theorem dX1_canWin_44 : decode cX1_canWin 44 = .ok (.goto 4, 3) := by decide +kernel
theorem dX1_canWin_47 : decode cX1_canWin 47 = .ok (.iconst 0, 1) := by decide +kernel
theorem dX1_canWin_48 : decode cX1_canWin 48 = .ok (.ireturn, 1) := by decide +kernel
theorem dX1_isAhead_0 : decode cX1_isAhead 0 = .ok (.aload_n 0, 1) := by decide +kernel
theorem dX1_isAhead_1 : decode cX1_isAhead 1 = .ok (.iload_n 1, 1) := by decide +kernel
theorem dX1_isAhead_2 : decode cX1_isAhead 2 = .ok (.invokevirtual 80, 3) := by decide +kernel
theorem dX1_isAhead_5 : decode cX1_isAhead 5 = .ok (.ifCond .eq 11, 3) := by decide +kernel
theorem dX1_isAhead_8 : decode cX1_isAhead 8 = .ok (.aload_n 0, 1) := by decide +kernel
theorem dX1_isAhead_9 : decode cX1_isAhead 9 = .ok (.iload_n 2, 1) := by decide +kernel
theorem dX1_isAhead_10 : decode cX1_isAhead 10 = .ok (.invokevirtual 80, 3) := by decide +kernel
theorem dX1_isAhead_13 : decode cX1_isAhead 13 = .ok (.ifCond .ne 5, 3) := by decide +kernel
theorem dX1_isAhead_16 : decode cX1_isAhead 16 = .ok (.iconst 0, 1) := by decide +kernel
theorem dX1_isAhead_17 : decode cX1_isAhead 17 = .ok (.ireturn, 1) := by decide +kernel
theorem dX1_isAhead_18 : decode cX1_isAhead 18 = .ok (.aload_n 0, 1) := by decide +kernel
theorem dX1_isAhead_19 : decode cX1_isAhead 19 = .ok (.iload_n 1, 1) := by decide +kernel
theorem dX1_isAhead_20 : decode cX1_isAhead 20 = .ok (.iload_n 3, 1) := by decide +kernel
theorem dX1_isAhead_21 : decode cX1_isAhead 21 = .ok (.invokevirtual 87, 3) := by decide +kernel
theorem dX1_isAhead_24 : decode cX1_isAhead 24 = .ok (.istore 4, 2) := by decide +kernel
theorem dX1_isAhead_26 : decode cX1_isAhead 26 = .ok (.aload_n 0, 1) := by decide +kernel
theorem dX1_isAhead_27 : decode cX1_isAhead 27 = .ok (.iload_n 2, 1) := by decide +kernel
theorem dX1_isAhead_28 : decode cX1_isAhead 28 = .ok (.iload_n 3, 1) := by decide +kernel
theorem dX1_isAhead_29 : decode cX1_isAhead 29 = .ok (.invokevirtual 87, 3) := by decide +kernel
theorem dX1_isAhead_32 : decode cX1_isAhead 32 = .ok (.istore 5, 2) := by decide +kernel
theorem dX1_isAhead_34 : decode cX1_isAhead 34 = .ok (.iload 4, 2) := by decide +kernel
theorem dX1_isAhead_36 : decode cX1_isAhead 36 = .ok (.iload 5, 2) := by decide +kernel
theorem dX1_isAhead_38 : decode cX1_isAhead 38 = .ok (.if_icmp .eq 16, 3) := by decide +kernel
theorem dX1_isAhead_41 : decode cX1_isAhead 41 = .ok (.iload 4, 2) := by decide +kernel
theorem dX1_isAhead_43 : decode cX1_isAhead 43 = .ok (.iload 5, 2) := by decide +kernel
theorem dX1_isAhead_45 : decode cX1_isAhead 45 = .ok (.if_icmp .le 7, 3) := by decide +kernel
theorem dX1_isAhead_48 : decode cX1_isAhead 48 = .ok (.iconst 1, 1) := by decide +kernel
theorem dX1_isAhead_49 : decode cX1_isAhead 49 = .ok (.goto 4, 3) := by decide +kernel
theorem dX1_isAhead_52 : decode cX1_isAhead 52 = .ok (.iconst 0, 1) := by decide +kernel
theorem dX1_isAhead_53 : decode cX1_isAhead 53 = .ok (.ireturn, 1) := by decide +kernel
theorem dX1_isAhead_54 : decode cX1_isAhead 54 = .ok (.aload_n 0, 1) := by decide +kernel
theorem dX1_isAhead_55 : decode cX1_isAhead 55 = .ok (.getfield 24, 3) := by decide +kernel
theorem dX1_isAhead_58 : decode cX1_isAhead 58 = .ok (.iload_n 1, 1) := by decide +kernel
theorem dX1_isAhead_59 : decode cX1_isAhead 59 = .ok (.iaload, 1) := by decide +kernel
theorem dX1_isAhead_60 : decode cX1_isAhead 60 = .ok (.aload_n 0, 1) := by decide +kernel
theorem dX1_isAhead_61 : decode cX1_isAhead 61 = .ok (.getfield 24, 3) := by decide +kernel
theorem dX1_isAhead_64 : decode cX1_isAhead 64 = .ok (.iload_n 2, 1) := by decide +kernel
theorem dX1_isAhead_65 : decode cX1_isAhead 65 = .ok (.iaload, 1) := by decide +kernel
theorem dX1_isAhead_66 : decode cX1_isAhead 66 = .ok (.if_icmp .eq 24, 3) := by decide +kernel
theorem dX1_isAhead_69 : decode cX1_isAhead 69 = .ok (.aload_n 0, 1) := by decide +kernel
theorem dX1_isAhead_70 : decode cX1_isAhead 70 = .ok (.getfield 24, 3) := by decide +kernel
theorem dX1_isAhead_73 : decode cX1_isAhead 73 = .ok (.iload_n 1, 1) := by decide +kernel
theorem dX1_isAhead_74 : decode cX1_isAhead 74 = .ok (.iaload, 1) := by decide +kernel
theorem dX1_isAhead_75 : decode cX1_isAhead 75 = .ok (.aload_n 0, 1) := by decide +kernel
theorem dX1_isAhead_76 : decode cX1_isAhead 76 = .ok (.getfield 24, 3) := by decide +kernel
theorem dX1_isAhead_79 : decode cX1_isAhead 79 = .ok (.iload_n 2, 1) := by decide +kernel
theorem dX1_isAhead_80 : decode cX1_isAhead 80 = .ok (.iaload, 1) := by decide +kernel
theorem dX1_isAhead_81 : decode cX1_isAhead 81 = .ok (.if_icmp .ge 7, 3) := by decide +kernel
theorem dX1_isAhead_84 : decode cX1_isAhead 84 = .ok (.iconst 1, 1) := by decide +kernel
theorem dX1_isAhead_85 : decode cX1_isAhead 85 = .ok (.goto 4, 3) := by decide +kernel
theorem dX1_isAhead_88 : decode cX1_isAhead 88 = .ok (.iconst 0, 1) := by decide +kernel
theorem dX1_isAhead_89 : decode cX1_isAhead 89 = .ok (.ireturn, 1) := by decide +kernel
theorem dX1_isAhead_90 : decode cX1_isAhead 90 = .ok (.aload_n 0, 1) := by decide +kernel
theorem dX1_isAhead_91 : decode cX1_isAhead 91 = .ok (.getfield 18, 3) := by decide +kernel
theorem dX1_isAhead_94 : decode cX1_isAhead 94 = .ok (.iload_n 1, 1) := by decide +kernel
theorem dX1_isAhead_95 : decode cX1_isAhead 95 = .ok (.iaload, 1) := by decide +kernel
theorem dX1_isAhead_96 : decode cX1_isAhead 96 = .ok (.aload_n 0, 1) := by decide +kernel
theorem dX1_isAhead_97 : decode cX1_isAhead 97 = .ok (.getfield 18, 3) := by decide +kernel
theorem dX1_isAhead_100 : decode cX1_isAhead 100 = .ok (.iload_n 2, 1) := by decide +kernel
theorem dX1_isAhead_101 : decode cX1_isAhead 101 = .ok (.iaload, 1) := by decide +kernel
theorem dX1_isAhead_102 : decode cX1_isAhead 102 = .ok (.if_icmp .eq 24, 3) := by decide +kernel
theorem dX1_isAhead_105 : decode cX1_isAhead 105 = .ok (.aload_n 0, 1) := by decide +kernel
theorem dX1_isAhead_106 : decode cX1_isAhead 106 = .ok (.getfield 18, 3) := by decide +kernel
theorem dX1_isAhead_109 : decode cX1_isAhead 109 = .ok (.iload_n 1, 1) := by decide +kernel
theorem dX1_isAhead_110 : decode cX1_isAhead 110 = .ok (.iaload, 1) := by decide +kernel
theorem dX1_isAhead_111 : decode cX1_isAhead 111 = .ok (.aload_n 0, 1) := by decide +kernel
theorem dX1_isAhead_112 : decode cX1_isAhead 112 = .ok (.getfield 18, 3) := by decide +kernel
theorem dX1_isAhead_115 : decode cX1_isAhead 115 = .ok (.iload_n 2, 1) := by decide +kernel
theorem dX1_isAhead_116 : decode cX1_isAhead 116 = .ok (.iaload, 1) := by decide +kernel
theorem dX1_isAhead_117 : decode cX1_isAhead 117 = .ok (.if_icmp .le 7, 3) := by decide +kernel
theorem dX1_isAhead_120 : decode cX1_isAhead 120 = .ok (.iconst 1, 1) := by decide +kernel
theorem dX1_isAhead_121 : decode cX1_isAhead 121 = .ok (.goto 4, 3) := by decide +kernel
theorem dX1_isAhead_124 : decode cX1_isAhead 124 = .ok (.iconst 0, 1) := by decide +kernel
theorem dX1_isAhead_125 : decode cX1_isAhead 125 = .ok (.ireturn, 1) := by decide +kernel
theorem dX1_isAhead_126 : decode cX1_isAhead 126 = .ok (.iload_n 1, 1) := by decide +kernel
theorem dX1_isAhead_127 : decode cX1_isAhead 127 = .ok (.iload_n 2, 1) := by decide +kernel
theorem dX1_isAhead_128 : decode cX1_isAhead 128 = .ok (.if_icmp .ge 7, 3) := by decide +kernel
theorem dX1_isAhead_131 : decode cX1_isAhead 131 = .ok (.iconst 1, 1) := by decide +kernel
theorem dX1_isAhead_132 : decode cX1_isAhead 132 = .ok (.goto 4, 3) := by decide +kernel
theorem dX1_isAhead_135 : decode cX1_isAhead 135 = .ok (.iconst 0, 1) := by decide +kernel
theorem dX1_isAhead_136 : decode cX1_isAhead 136 = .ok (.ireturn, 1) := by decide +kernel
theorem dX1_canSwap_0 : decode cX1_canSwap 0 = .ok (.aload_n 0, 1) := by decide +kernel
theorem dX1_canSwap_1 : decode cX1_canSwap 1 = .ok (.iload_n 1, 1) := by decide +kernel
theorem dX1_canSwap_2 : decode cX1_canSwap 2 = .ok (.iload_n 2, 1) := by decide +kernel
theorem dX1_canSwap_3 : decode cX1_canSwap 3 = .ok (.invokevirtual 114, 3) := by decide +kernel
theorem dX1_canSwap_6 : decode cX1_canSwap 6 = .ok (.ifCond .eq 35, 3) := by decide +kernel
theorem dX1_canSwap_9 : decode cX1_canSwap 9 = .ok (.aload_n 0, 1) := by decide +kernel
theorem dX1_canSwap_10 : decode cX1_canSwap 10 = .ok (.iload_n 3, 1) := by decide +kernel
theorem dX1_canSwap_11 : decode cX1_canSwap 11 = .ok (.invokevirtual 84, 3) := by decide +kernel
theorem dX1_canSwap_14 : decode cX1_canSwap 14 = .ok (.ifCond .eq 27, 3) := by decide +kernel
theorem dX1_canSwap_17 : decode cX1_canSwap 17 = .ok (.aload_n 0, 1) := by decide +kernel
theorem dX1_canSwap_18 : decode cX1_canSwap 18 = .ok (.getfield 37, 3) := by decide +kernel
theorem dX1_canSwap_21 : decode cX1_canSwap 21 = .ok (.iload_n 3, 1) := by decide +kernel
theorem dX1_canSwap_22 : decode cX1_canSwap 22 = .ok (.iaload, 1) := by decide +kernel
theorem dX1_canSwap_23 : decode cX1_canSwap 23 = .ok (.iconst (-1), 1) := by decide +kernel
theorem dX1_canSwap_24 : decode cX1_canSwap 24 = .ok (.if_icmp .eq 17, 3) := by decide +kernel
theorem dX1_canSwap_27 : decode cX1_canSwap 27 = .ok (.aload_n 0, 1) := by decide +kernel
theorem dX1_canSwap_28 : decode cX1_canSwap 28 = .ok (.getfield 37, 3) := by decide +kernel
theorem dX1_canSwap_31 : decode cX1_canSwap 31 = .ok (.iload_n 3, 1) := by decide +kernel
theorem dX1_canSwap_32 : decode cX1_canSwap 32 = .ok (.iaload, 1) := by decide +kernel
theorem dX1_canSwap_33 : decode cX1_canSwap 33 = .ok (.iload_n 1, 1) := by decide +kernel
theorem dX1_canSwap_34 : decode cX1_canSwap 34 = .ok (.if_icmp .eq 7, 3) := by decide +kernel
theorem dX1_canSwap_37 : decode cX1_canSwap 37 = .ok (.iconst 1, 1) := by decide +kernel
theorem dX1_canSwap_38 : decode cX1_canSwap 38 = .ok (.goto 4, 3) := by decide +kernel
theorem dX1_canSwap_41 : decode cX1_canSwap 41 = .ok (.iconst 0, 1) := by decide +kernel
theorem dX1_canSwap_42 : decode cX1_canSwap 42 = .ok (.ireturn, 1) := by decide +kernel
theorem dX1_canOffer_0 : decode cX1_canOffer 0 = .ok (.aload_n 0, 1) := by decide +kernel
theorem dX1_canOffer_1 : decode cX1_canOffer 1 = .ok (.iload_n 1, 1) := by decide +kernel
theorem dX1_canOffer_2 : decode cX1_canOffer 2 = .ok (.iload_n 2, 1) := by decide +kernel
theorem dX1_canOffer_3 : decode cX1_canOffer 3 = .ok (.iload_n 3, 1) := by decide +kernel
theorem dX1_canOffer_4 : decode cX1_canOffer 4 = .ok (.invokevirtual 137, 3) := by decide +kernel
theorem dX1_canOffer_7 : decode cX1_canOffer 7 = .ok (.ifCond .eq 16, 3) := by decide +kernel
theorem dX1_canOffer_10 : decode cX1_canOffer 10 = .ok (.aload_n 0, 1) := by decide +kernel
theorem dX1_canOffer_11 : decode cX1_canOffer 11 = .ok (.getfield 77, 3) := by decide +kernel
theorem dX1_canOffer_14 : decode cX1_canOffer 14 = .ok (.bipush 8, 2) := by decide +kernel
theorem dX1_canOffer_16 : decode cX1_canOffer 16 = .ok (.if_icmp .ge 7, 3) := by decide +kernel
theorem dX1_canOffer_19 : decode cX1_canOffer 19 = .ok (.iconst 1, 1) := by decide +kernel
theorem dX1_canOffer_20 : decode cX1_canOffer 20 = .ok (.goto 4, 3) := by decide +kernel
theorem dX1_canOffer_23 : decode cX1_canOffer 23 = .ok (.iconst 0, 1) := by decide +kernel
theorem dX1_canOffer_24 : decode cX1_canOffer 24 = .ok (.ireturn, 1) := by decide +kernel
theorem dX1_placeOffer_0 : decode cX1_placeOffer 0 = .ok (.aload_n 0, 1) := by decide +kernel
theorem dX1_placeOffer_1 : decode cX1_placeOffer 1 = .ok (.iload_n 1, 1) := by decide +kernel
theorem dX1_placeOffer_2 : decode cX1_placeOffer 2 = .ok (.iload_n 2, 1) := by decide +kernel
theorem dX1_placeOffer_3 : decode cX1_placeOffer 3 = .ok (.iload_n 3, 1) := by decide +kernel
theorem dX1_placeOffer_4 : decode cX1_placeOffer 4 = .ok (.invokevirtual 140, 3) := by decide +kernel
theorem dX1_placeOffer_7 : decode cX1_placeOffer 7 = .ok (.ifCond .ne 6, 3) := by decide +kernel
theorem dX1_placeOffer_10 : decode cX1_placeOffer 10 = .ok (.bipush (-2), 2) := by decide +kernel
theorem dX1_placeOffer_12 : decode cX1_placeOffer 12 = .ok (.ireturn, 1) := by decide +kernel
theorem dX1_placeOffer_13 : decode cX1_placeOffer 13 = .ok (.aload_n 0, 1) := by decide +kernel
theorem dX1_placeOffer_14 : decode cX1_placeOffer 14 = .ok (.getfield 77, 3) := by decide +kernel
theorem dX1_placeOffer_17 : decode cX1_placeOffer 17 = .ok (.istore 4, 2) := by decide +kernel
theorem dX1_placeOffer_19 : decode cX1_placeOffer 19 = .ok (.aload_n 0, 1) := by decide +kernel
theorem dX1_placeOffer_20 : decode cX1_placeOffer 20 = .ok (.dup, 1) := by decide +kernel
theorem dX1_placeOffer_21 : decode cX1_placeOffer 21 = .ok (.getfield 77, 3) := by decide +kernel
theorem dX1_placeOffer_24 : decode cX1_placeOffer 24 = .ok (.iconst 1, 1) := by decide +kernel
theorem dX1_placeOffer_25 : decode cX1_placeOffer 25 = .ok (.iadd, 1) := by decide +kernel
theorem dX1_placeOffer_26 : decode cX1_placeOffer 26 = .ok (.putfield 77, 3) := by decide +kernel
theorem dX1_placeOffer_29 : decode cX1_placeOffer 29 = .ok (.aload_n 0, 1) := by decide +kernel
theorem dX1_placeOffer_30 : decode cX1_placeOffer 30 = .ok (.getfield 43, 3) := by decide +kernel
theorem dX1_placeOffer_33 : decode cX1_placeOffer 33 = .ok (.iload 4, 2) := by decide +kernel
theorem dX1_placeOffer_35 : decode cX1_placeOffer 35 = .ok (.iload_n 1, 1) := by decide +kernel
theorem dX1_placeOffer_36 : decode cX1_placeOffer 36 = .ok (.iastore, 1) := by decide +kernel
theorem dX1_placeOffer_37 : decode cX1_placeOffer 37 = .ok (.aload_n 0, 1) := by decide +kernel
theorem dX1_placeOffer_38 : decode cX1_placeOffer 38 = .ok (.getfield 46, 3) := by decide +kernel
theorem dX1_placeOffer_41 : decode cX1_placeOffer 41 = .ok (.iload 4, 2) := by decide +kernel
theorem dX1_placeOffer_43 : decode cX1_placeOffer 43 = .ok (.iload_n 2, 1) := by decide +kernel
theorem dX1_placeOffer_44 : decode cX1_placeOffer 44 = .ok (.iastore, 1) := by decide +kernel
theorem dX1_placeOffer_45 : decode cX1_placeOffer 45 = .ok (.aload_n 0, 1) := by decide +kernel
theorem dX1_placeOffer_46 : decode cX1_placeOffer 46 = .ok (.getfield 49, 3) := by decide +kernel
theorem dX1_placeOffer_49 : decode cX1_placeOffer 49 = .ok (.iload 4, 2) := by decide +kernel
theorem dX1_placeOffer_51 : decode cX1_placeOffer 51 = .ok (.iload_n 3, 1) := by decide +kernel
theorem dX1_placeOffer_52 : decode cX1_placeOffer 52 = .ok (.iastore, 1) := by decide +kernel
theorem dX1_placeOffer_53 : decode cX1_placeOffer 53 = .ok (.iload 4, 2) := by decide +kernel
theorem dX1_placeOffer_55 : decode cX1_placeOffer 55 = .ok (.ireturn, 1) := by decide +kernel
theorem dX1_acceptOffer_0 : decode cX1_acceptOffer 0 = .ok (.aload_n 0, 1) := by decide +kernel
theorem dX1_acceptOffer_1 : decode cX1_acceptOffer 1 = .ok (.iload_n 1, 1) := by decide +kernel
theorem dX1_acceptOffer_2 : decode cX1_acceptOffer 2 = .ok (.invokevirtual 143, 3) := by decide +kernel
theorem dX1_acceptOffer_5 : decode cX1_acceptOffer 5 = .ok (.ifCond .ne 6, 3) := by decide +kernel
theorem dX1_acceptOffer_8 : decode cX1_acceptOffer 8 = .ok (.bipush (-2), 2) := by decide +kernel
theorem dX1_acceptOffer_10 : decode cX1_acceptOffer 10 = .ok (.ireturn, 1) := by decide +kernel
theorem dX1_acceptOffer_11 : decode cX1_acceptOffer 11 = .ok (.aload_n 0, 1) := by decide +kernel
theorem dX1_acceptOffer_12 : decode cX1_acceptOffer 12 = .ok (.getfield 43, 3) := by decide +kernel
theorem dX1_acceptOffer_15 : decode cX1_acceptOffer 15 = .ok (.iload_n 1, 1) := by decide +kernel
theorem dX1_acceptOffer_16 : decode cX1_acceptOffer 16 = .ok (.iaload, 1) := by decide +kernel
theorem dX1_acceptOffer_17 : decode cX1_acceptOffer 17 = .ok (.istore_n 2, 1) := by decide +kernel
theorem dX1_acceptOffer_18 : decode cX1_acceptOffer 18 = .ok (.aload_n 0, 1) := by decide +kernel
theorem dX1_acceptOffer_19 : decode cX1_acceptOffer 19 = .ok (.getfield 46, 3) := by decide +kernel
theorem dX1_acceptOffer_22 : decode cX1_acceptOffer 22 = .ok (.iload_n 1, 1) := by decide +kernel
theorem dX1_acceptOffer_23 : decode cX1_acceptOffer 23 = .ok (.iaload, 1) := by decide +kernel
theorem dX1_acceptOffer_24 : decode cX1_acceptOffer 24 = .ok (.istore_n 3, 1) := by decide +kernel
theorem dX1_acceptOffer_25 : decode cX1_acceptOffer 25 = .ok (.aload_n 0, 1) := by decide +kernel
theorem dX1_acceptOffer_26 : decode cX1_acceptOffer 26 = .ok (.getfield 49, 3) := by decide +kernel
theorem dX1_acceptOffer_29 : decode cX1_acceptOffer 29 = .ok (.iload_n 1, 1) := by decide +kernel
theorem dX1_acceptOffer_30 : decode cX1_acceptOffer 30 = .ok (.iaload, 1) := by decide +kernel
theorem dX1_acceptOffer_31 : decode cX1_acceptOffer 31 = .ok (.istore 4, 2) := by decide +kernel
theorem dX1_acceptOffer_33 : decode cX1_acceptOffer 33 = .ok (.aload_n 0, 1) := by decide +kernel
theorem dX1_acceptOffer_34 : decode cX1_acceptOffer 34 = .ok (.iload_n 1, 1) := by decide +kernel
theorem dX1_acceptOffer_35 : decode cX1_acceptOffer 35 = .ok (.invokevirtual 146, 3) := by decide +kernel
theorem dX1_acceptOffer_38 : decode cX1_acceptOffer 38 = .ok (.aload_n 0, 1) := by decide +kernel
theorem dX1_acceptOffer_39 : decode cX1_acceptOffer 39 = .ok (.iload_n 2, 1) := by decide +kernel
theorem dX1_acceptOffer_40 : decode cX1_acceptOffer 40 = .ok (.iload_n 3, 1) := by decide +kernel
theorem dX1_acceptOffer_41 : decode cX1_acceptOffer 41 = .ok (.iload 4, 2) := by decide +kernel
theorem dX1_acceptOffer_43 : decode cX1_acceptOffer 43 = .ok (.invokevirtual 137, 3) := by decide +kernel
theorem dX1_acceptOffer_46 : decode cX1_acceptOffer 46 = .ok (.ifCond .ne 15, 3) := by decide +kernel
theorem dX1_acceptOffer_49 : decode cX1_acceptOffer 49 = .ok (.aload_n 0, 1) := by decide +kernel
theorem dX1_acceptOffer_50 : decode cX1_acceptOffer 50 = .ok (.getfield 15, 3) := by decide +kernel
theorem dX1_acceptOffer_53 : decode cX1_acceptOffer 53 = .ok (.iconst 5, 1) := by decide +kernel
theorem dX1_acceptOffer_54 : decode cX1_acceptOffer 54 = .ok (.dup2, 1) := by decide +kernel
theorem dX1_acceptOffer_55 : decode cX1_acceptOffer 55 = .ok (.iaload, 1) := by decide +kernel
theorem dX1_acceptOffer_56 : decode cX1_acceptOffer 56 = .ok (.iconst 1, 1) := by decide +kernel
theorem dX1_acceptOffer_57 : decode cX1_acceptOffer 57 = .ok (.iadd, 1) := by decide +kernel
theorem dX1_acceptOffer_58 : decode cX1_acceptOffer 58 = .ok (.iastore, 1) := by decide +kernel
theorem dX1_acceptOffer_59 : decode cX1_acceptOffer 59 = .ok (.iconst 0, 1) := by decide +kernel
theorem dX1_acceptOffer_60 : decode cX1_acceptOffer 60 = .ok (.ireturn, 1) := by decide +kernel
theorem dX1_acceptOffer_61 : decode cX1_acceptOffer 61 = .ok (.aload_n 0, 1) := by decide +kernel
theorem dX1_acceptOffer_62 : decode cX1_acceptOffer 62 = .ok (.getfield 37, 3) := by decide +kernel
theorem dX1_acceptOffer_65 : decode cX1_acceptOffer 65 = .ok (.iload_n 3, 1) := by decide +kernel
theorem dX1_acceptOffer_66 : decode cX1_acceptOffer 66 = .ok (.aload_n 0, 1) := by decide +kernel
theorem dX1_acceptOffer_67 : decode cX1_acceptOffer 67 = .ok (.getfield 37, 3) := by decide +kernel
theorem dX1_acceptOffer_70 : decode cX1_acceptOffer 70 = .ok (.iload 4, 2) := by decide +kernel
theorem dX1_acceptOffer_72 : decode cX1_acceptOffer 72 = .ok (.iaload, 1) := by decide +kernel
theorem dX1_acceptOffer_73 : decode cX1_acceptOffer 73 = .ok (.iastore, 1) := by decide +kernel
theorem dX1_acceptOffer_74 : decode cX1_acceptOffer 74 = .ok (.aload_n 0, 1) := by decide +kernel
theorem dX1_acceptOffer_75 : decode cX1_acceptOffer 75 = .ok (.getfield 37, 3) := by decide +kernel
theorem dX1_acceptOffer_78 : decode cX1_acceptOffer 78 = .ok (.iload 4, 2) := by decide +kernel
theorem dX1_acceptOffer_80 : decode cX1_acceptOffer 80 = .ok (.iload_n 2, 1) := by decide +kernel
theorem dX1_acceptOffer_81 : decode cX1_acceptOffer 81 = .ok (.iastore, 1) := by decide +kernel
theorem dX1_acceptOffer_82 : decode cX1_acceptOffer 82 = .ok (.aload_n 0, 1) := by decide +kernel
theorem dX1_acceptOffer_83 : decode cX1_acceptOffer 83 = .ok (.getfield 15, 3) := by decide +kernel
theorem dX1_acceptOffer_86 : decode cX1_acceptOffer 86 = .ok (.iconst 4, 1) := by decide +kernel
theorem dX1_acceptOffer_87 : decode cX1_acceptOffer 87 = .ok (.dup2, 1) := by decide +kernel
theorem dX1_acceptOffer_88 : decode cX1_acceptOffer 88 = .ok (.iaload, 1) := by decide +kernel
theorem dX1_acceptOffer_89 : decode cX1_acceptOffer 89 = .ok (.iconst 1, 1) := by decide +kernel
theorem dX1_acceptOffer_90 : decode cX1_acceptOffer 90 = .ok (.iadd, 1) := by decide +kernel
theorem dX1_acceptOffer_91 : decode cX1_acceptOffer 91 = .ok (.iastore, 1) := by decide +kernel
theorem dX1_acceptOffer_92 : decode cX1_acceptOffer 92 = .ok (.iconst 1, 1) := by decide +kernel
theorem dX1_acceptOffer_93 : decode cX1_acceptOffer 93 = .ok (.ireturn, 1) := by decide +kernel
theorem dX1_dropOffer_0 : decode cX1_dropOffer 0 = .ok (.aload_n 0, 1) := by decide +kernel
theorem dX1_dropOffer_1 : decode cX1_dropOffer 1 = .ok (.dup, 1) := by decide +kernel
theorem dX1_dropOffer_2 : decode cX1_dropOffer 2 = .ok (.getfield 77, 3) := by decide +kernel
theorem dX1_dropOffer_5 : decode cX1_dropOffer 5 = .ok (.iconst 1, 1) := by decide +kernel
theorem dX1_dropOffer_6 : decode cX1_dropOffer 6 = .ok (.isub, 1) := by decide +kernel
theorem dX1_dropOffer_7 : decode cX1_dropOffer 7 = .ok (.putfield 77, 3) := by decide +kernel
theorem dX1_dropOffer_10 : decode cX1_dropOffer 10 = .ok (.iload_n 1, 1) := by decide +kernel
theorem dX1_dropOffer_11 : decode cX1_dropOffer 11 = .ok (.istore_n 2, 1) := by decide +kernel
theorem dX1_dropOffer_12 : decode cX1_dropOffer 12 = .ok (.iload_n 2, 1) := by decide +kernel
theorem dX1_dropOffer_13 : decode cX1_dropOffer 13 = .ok (.aload_n 0, 1) := by decide +kernel
theorem dX1_dropOffer_14 : decode cX1_dropOffer 14 = .ok (.getfield 77, 3) := by decide +kernel
theorem dX1_dropOffer_17 : decode cX1_dropOffer 17 = .ok (.if_icmp .ge 59, 3) := by decide +kernel
theorem dX1_dropOffer_20 : decode cX1_dropOffer 20 = .ok (.iload_n 2, 1) := by decide +kernel
theorem dX1_dropOffer_21 : decode cX1_dropOffer 21 = .ok (.iconst 1, 1) := by decide +kernel
theorem dX1_dropOffer_22 : decode cX1_dropOffer 22 = .ok (.iadd, 1) := by decide +kernel
theorem dX1_dropOffer_23 : decode cX1_dropOffer 23 = .ok (.bipush 8, 2) := by decide +kernel
theorem dX1_dropOffer_25 : decode cX1_dropOffer 25 = .ok (.if_icmp .ge 51, 3) := by decide +kernel
theorem dX1_dropOffer_28 : decode cX1_dropOffer 28 = .ok (.aload_n 0, 1) := by decide +kernel
theorem dX1_dropOffer_29 : decode cX1_dropOffer 29 = .ok (.getfield 43, 3) := by decide +kernel
theorem dX1_dropOffer_32 : decode cX1_dropOffer 32 = .ok (.iload_n 2, 1) := by decide +kernel
theorem dX1_dropOffer_33 : decode cX1_dropOffer 33 = .ok (.aload_n 0, 1) := by decide +kernel
theorem dX1_dropOffer_34 : decode cX1_dropOffer 34 = .ok (.getfield 43, 3) := by decide +kernel
theorem dX1_dropOffer_37 : decode cX1_dropOffer 37 = .ok (.iload_n 2, 1) := by decide +kernel
theorem dX1_dropOffer_38 : decode cX1_dropOffer 38 = .ok (.iconst 1, 1) := by decide +kernel
theorem dX1_dropOffer_39 : decode cX1_dropOffer 39 = .ok (.iadd, 1) := by decide +kernel
theorem dX1_dropOffer_40 : decode cX1_dropOffer 40 = .ok (.iaload, 1) := by decide +kernel
theorem dX1_dropOffer_41 : decode cX1_dropOffer 41 = .ok (.iastore, 1) := by decide +kernel
theorem dX1_dropOffer_42 : decode cX1_dropOffer 42 = .ok (.aload_n 0, 1) := by decide +kernel
theorem dX1_dropOffer_43 : decode cX1_dropOffer 43 = .ok (.getfield 46, 3) := by decide +kernel
theorem dX1_dropOffer_46 : decode cX1_dropOffer 46 = .ok (.iload_n 2, 1) := by decide +kernel
theorem dX1_dropOffer_47 : decode cX1_dropOffer 47 = .ok (.aload_n 0, 1) := by decide +kernel
theorem dX1_dropOffer_48 : decode cX1_dropOffer 48 = .ok (.getfield 46, 3) := by decide +kernel
theorem dX1_dropOffer_51 : decode cX1_dropOffer 51 = .ok (.iload_n 2, 1) := by decide +kernel
theorem dX1_dropOffer_52 : decode cX1_dropOffer 52 = .ok (.iconst 1, 1) := by decide +kernel
theorem dX1_dropOffer_53 : decode cX1_dropOffer 53 = .ok (.iadd, 1) := by decide +kernel
theorem dX1_dropOffer_54 : decode cX1_dropOffer 54 = .ok (.iaload, 1) := by decide +kernel
theorem dX1_dropOffer_55 : decode cX1_dropOffer 55 = .ok (.iastore, 1) := by decide +kernel
theorem dX1_dropOffer_56 : decode cX1_dropOffer 56 = .ok (.aload_n 0, 1) := by decide +kernel
theorem dX1_dropOffer_57 : decode cX1_dropOffer 57 = .ok (.getfield 49, 3) := by decide +kernel
theorem dX1_dropOffer_60 : decode cX1_dropOffer 60 = .ok (.iload_n 2, 1) := by decide +kernel
theorem dX1_dropOffer_61 : decode cX1_dropOffer 61 = .ok (.aload_n 0, 1) := by decide +kernel
theorem dX1_dropOffer_62 : decode cX1_dropOffer 62 = .ok (.getfield 49, 3) := by decide +kernel
theorem dX1_dropOffer_65 : decode cX1_dropOffer 65 = .ok (.iload_n 2, 1) := by decide +kernel
theorem dX1_dropOffer_66 : decode cX1_dropOffer 66 = .ok (.iconst 1, 1) := by decide +kernel
theorem dX1_dropOffer_67 : decode cX1_dropOffer 67 = .ok (.iadd, 1) := by decide +kernel
theorem dX1_dropOffer_68 : decode cX1_dropOffer 68 = .ok (.iaload, 1) := by decide +kernel
theorem dX1_dropOffer_69 : decode cX1_dropOffer 69 = .ok (.iastore, 1) := by decide +kernel
theorem dX1_dropOffer_70 : decode cX1_dropOffer 70 = .ok (.iinc 2 1, 3) := by decide +kernel
theorem dX1_dropOffer_73 : decode cX1_dropOffer 73 = .ok (.goto (-61), 3) := by decide +kernel
theorem dX1_dropOffer_76 : decode cX1_dropOffer 76 = .ok (.return_, 1) := by decide +kernel
theorem dX1_payUpkeep_0 : decode cX1_payUpkeep 0 = .ok (.aload_n 0, 1) := by decide +kernel
theorem dX1_payUpkeep_1 : decode cX1_payUpkeep 1 = .ok (.getfield 74, 3) := by decide +kernel
theorem dX1_payUpkeep_4 : decode cX1_payUpkeep 4 = .ok (.ifCond .eq 15, 3) := by decide +kernel
theorem dX1_payUpkeep_7 : decode cX1_payUpkeep 7 = .ok (.iload_n 1, 1) := by decide +kernel
theorem dX1_payUpkeep_8 : decode cX1_payUpkeep 8 = .ok (.iconst 1, 1) := by decide +kernel
theorem dX1_payUpkeep_9 : decode cX1_payUpkeep 9 = .ok (.if_icmp .lt 10, 3) := by decide +kernel
theorem dX1_payUpkeep_12 : decode cX1_payUpkeep 12 = .ok (.iload_n 1, 1) := by decide +kernel
theorem dX1_payUpkeep_13 : decode cX1_payUpkeep 13 = .ok (.sipush 999, 3) := by decide +kernel
theorem dX1_payUpkeep_16 : decode cX1_payUpkeep 16 = .ok (.if_icmp .le 6, 3) := by decide +kernel
theorem dX1_payUpkeep_19 : decode cX1_payUpkeep 19 = .ok (.bipush (-2), 2) := by decide +kernel
theorem dX1_payUpkeep_21 : decode cX1_payUpkeep 21 = .ok (.ireturn, 1) := by decide +kernel
theorem dX1_payUpkeep_22 : decode cX1_payUpkeep 22 = .ok (.iconst 0, 1) := by decide +kernel
theorem dX1_payUpkeep_23 : decode cX1_payUpkeep 23 = .ok (.istore_n 2, 1) := by decide +kernel
theorem dX1_payUpkeep_24 : decode cX1_payUpkeep 24 = .ok (.iconst 0, 1) := by decide +kernel
theorem dX1_payUpkeep_25 : decode cX1_payUpkeep 25 = .ok (.istore_n 3, 1) := by decide +kernel
theorem dX1_payUpkeep_26 : decode cX1_payUpkeep 26 = .ok (.iload_n 3, 1) := by decide +kernel
theorem dX1_payUpkeep_27 : decode cX1_payUpkeep 27 = .ok (.bipush 6, 2) := by decide +kernel
theorem dX1_payUpkeep_29 : decode cX1_payUpkeep 29 = .ok (.if_icmp .ge 35, 3) := by decide +kernel
theorem dX1_payUpkeep_32 : decode cX1_payUpkeep 32 = .ok (.aload_n 0, 1) := by decide +kernel
theorem dX1_payUpkeep_33 : decode cX1_payUpkeep 33 = .ok (.iload_n 3, 1) := by decide +kernel
theorem dX1_payUpkeep_34 : decode cX1_payUpkeep 34 = .ok (.iload_n 1, 1) := by decide +kernel
theorem dX1_payUpkeep_35 : decode cX1_payUpkeep 35 = .ok (.invokevirtual 149, 3) := by decide +kernel
theorem dX1_payUpkeep_38 : decode cX1_payUpkeep 38 = .ok (.istore 4, 2) := by decide +kernel
theorem dX1_payUpkeep_40 : decode cX1_payUpkeep 40 = .ok (.aload_n 0, 1) := by decide +kernel
theorem dX1_payUpkeep_41 : decode cX1_payUpkeep 41 = .ok (.getfield 27, 3) := by decide +kernel
theorem dX1_payUpkeep_44 : decode cX1_payUpkeep 44 = .ok (.iload_n 3, 1) := by decide +kernel
theorem dX1_payUpkeep_45 : decode cX1_payUpkeep 45 = .ok (.dup2, 1) := by decide +kernel
theorem dX1_payUpkeep_46 : decode cX1_payUpkeep 46 = .ok (.iaload, 1) := by decide +kernel
theorem dX1_payUpkeep_47 : decode cX1_payUpkeep 47 = .ok (.iload 4, 2) := by decide +kernel
theorem dX1_payUpkeep_49 : decode cX1_payUpkeep 49 = .ok (.iadd, 1) := by decide +kernel
theorem dX1_payUpkeep_50 : decode cX1_payUpkeep 50 = .ok (.iastore, 1) := by decide +kernel
theorem dX1_payUpkeep_51 : decode cX1_payUpkeep 51 = .ok (.iload_n 2, 1) := by decide +kernel
theorem dX1_payUpkeep_52 : decode cX1_payUpkeep 52 = .ok (.iload 4, 2) := by decide +kernel
theorem dX1_payUpkeep_54 : decode cX1_payUpkeep 54 = .ok (.invokestatic 95, 3) := by decide +kernel
theorem dX1_payUpkeep_57 : decode cX1_payUpkeep 57 = .ok (.istore_n 2, 1) := by decide +kernel
theorem dX1_payUpkeep_58 : decode cX1_payUpkeep 58 = .ok (.iinc 3 1, 3) := by decide +kernel
theorem dX1_payUpkeep_61 : decode cX1_payUpkeep 61 = .ok (.goto (-35), 3) := by decide +kernel
theorem dX1_payUpkeep_64 : decode cX1_payUpkeep 64 = .ok (.aload_n 0, 1) := by decide +kernel
theorem dX1_payUpkeep_65 : decode cX1_payUpkeep 65 = .ok (.getfield 15, 3) := by decide +kernel
theorem dX1_payUpkeep_68 : decode cX1_payUpkeep 68 = .ok (.bipush 7, 2) := by decide +kernel
theorem dX1_payUpkeep_70 : decode cX1_payUpkeep 70 = .ok (.dup2, 1) := by decide +kernel
theorem dX1_payUpkeep_71 : decode cX1_payUpkeep 71 = .ok (.iaload, 1) := by decide +kernel
theorem dX1_payUpkeep_72 : decode cX1_payUpkeep 72 = .ok (.iload_n 1, 1) := by decide +kernel
theorem dX1_payUpkeep_73 : decode cX1_payUpkeep 73 = .ok (.iadd, 1) := by decide +kernel
theorem dX1_payUpkeep_74 : decode cX1_payUpkeep 74 = .ok (.iastore, 1) := by decide +kernel
theorem dX1_payUpkeep_75 : decode cX1_payUpkeep 75 = .ok (.iload_n 2, 1) := by decide +kernel
theorem dX1_payUpkeep_76 : decode cX1_payUpkeep 76 = .ok (.ireturn, 1) := by decide +kernel
theorem dX1_partOf_0 : decode cX1_partOf 0 = .ok (.aload_n 0, 1) := by decide +kernel
theorem dX1_partOf_1 : decode cX1_partOf 1 = .ok (.invokevirtual 152, 3) := by decide +kernel
theorem dX1_partOf_4 : decode cX1_partOf 4 = .ok (.istore_n 3, 1) := by decide +kernel
theorem dX1_partOf_5 : decode cX1_partOf 5 = .ok (.aload_n 0, 1) := by decide +kernel
theorem dX1_partOf_6 : decode cX1_partOf 6 = .ok (.iload_n 1, 1) := by decide +kernel
theorem dX1_partOf_7 : decode cX1_partOf 7 = .ok (.invokevirtual 80, 3) := by decide +kernel
theorem dX1_partOf_10 : decode cX1_partOf 10 = .ok (.ifCond .eq 7, 3) := by decide +kernel
theorem dX1_partOf_13 : decode cX1_partOf 13 = .ok (.iload_n 3, 1) := by decide +kernel
theorem dX1_partOf_14 : decode cX1_partOf 14 = .ok (.ifCond .gt 5, 3) := by decide +kernel
theorem dX1_partOf_17 : decode cX1_partOf 17 = .ok (.iconst 0, 1) := by decide +kernel
theorem dX1_partOf_18 : decode cX1_partOf 18 = .ok (.ireturn, 1) := by decide +kernel
theorem dX1_partOf_19 : decode cX1_partOf 19 = .ok (.iload_n 2, 1) := by decide +kernel
theorem dX1_partOf_20 : decode cX1_partOf 20 = .ok (.aload_n 0, 1) := by decide +kernel
theorem dX1_partOf_21 : decode cX1_partOf 21 = .ok (.getfield 18, 3) := by decide +kernel
theorem dX1_partOf_24 : decode cX1_partOf 24 = .ok (.iload_n 1, 1) := by decide +kernel
theorem dX1_partOf_25 : decode cX1_partOf 25 = .ok (.iaload, 1) := by decide +kernel
theorem dX1_partOf_26 : decode cX1_partOf 26 = .ok (.imul, 1) := by decide +kernel
theorem dX1_partOf_27 : decode cX1_partOf 27 = .ok (.iload_n 3, 1) := by decide +kernel
theorem dX1_partOf_28 : decode cX1_partOf 28 = .ok (.irem, 1) := by decide +kernel
theorem dX1_partOf_29 : decode cX1_partOf 29 = .ok (.istore 4, 2) := by decide +kernel
theorem dX1_partOf_31 : decode cX1_partOf 31 = .ok (.iload_n 2, 1) := by decide +kernel
theorem dX1_partOf_32 : decode cX1_partOf 32 = .ok (.istore 5, 2) := by decide +kernel
theorem dX1_partOf_34 : decode cX1_partOf 34 = .ok (.iconst 0, 1) := by decide +kernel
theorem dX1_partOf_35 : decode cX1_partOf 35 = .ok (.istore 6, 2) := by decide +kernel
theorem dX1_partOf_37 : decode cX1_partOf 37 = .ok (.iconst 0, 1) := by decide +kernel
theorem dX1_partOf_38 : decode cX1_partOf 38 = .ok (.istore 7, 2) := by decide +kernel
theorem dX1_partOf_40 : decode cX1_partOf 40 = .ok (.iload 7, 2) := by decide +kernel
theorem dX1_partOf_42 : decode cX1_partOf 42 = .ok (.bipush 6, 2) := by decide +kernel
theorem dX1_partOf_44 : decode cX1_partOf 44 = .ok (.if_icmp .ge 61, 3) := by decide +kernel
theorem dX1_partOf_47 : decode cX1_partOf 47 = .ok (.iload 5, 2) := by decide +kernel
theorem dX1_partOf_49 : decode cX1_partOf 49 = .ok (.iload_n 2, 1) := by decide +kernel
theorem dX1_partOf_50 : decode cX1_partOf 50 = .ok (.aload_n 0, 1) := by decide +kernel
theorem dX1_partOf_51 : decode cX1_partOf 51 = .ok (.getfield 18, 3) := by decide +kernel
theorem dX1_partOf_54 : decode cX1_partOf 54 = .ok (.iload 7, 2) := by decide +kernel
theorem dX1_partOf_56 : decode cX1_partOf 56 = .ok (.iaload, 1) := by decide +kernel
theorem dX1_partOf_57 : decode cX1_partOf 57 = .ok (.imul, 1) := by decide +kernel
theorem dX1_partOf_58 : decode cX1_partOf 58 = .ok (.iload_n 3, 1) := by decide +kernel
theorem dX1_partOf_59 : decode cX1_partOf 59 = .ok (.idiv, 1) := by decide +kernel
theorem dX1_partOf_60 : decode cX1_partOf 60 = .ok (.isub, 1) := by decide +kernel
theorem dX1_partOf_61 : decode cX1_partOf 61 = .ok (.istore 5, 2) := by decide +kernel
theorem dX1_partOf_63 : decode cX1_partOf 63 = .ok (.iload_n 2, 1) := by decide +kernel
theorem dX1_partOf_64 : decode cX1_partOf 64 = .ok (.aload_n 0, 1) := by decide +kernel
theorem dX1_partOf_65 : decode cX1_partOf 65 = .ok (.getfield 18, 3) := by decide +kernel
theorem dX1_partOf_68 : decode cX1_partOf 68 = .ok (.iload 7, 2) := by decide +kernel
theorem dX1_partOf_70 : decode cX1_partOf 70 = .ok (.iaload, 1) := by decide +kernel
theorem dX1_partOf_71 : decode cX1_partOf 71 = .ok (.imul, 1) := by decide +kernel
theorem dX1_partOf_72 : decode cX1_partOf 72 = .ok (.iload_n 3, 1) := by decide +kernel
theorem dX1_partOf_73 : decode cX1_partOf 73 = .ok (.irem, 1) := by decide +kernel
theorem dX1_partOf_74 : decode cX1_partOf 74 = .ok (.istore 8, 2) := by decide +kernel
theorem dX1_partOf_76 : decode cX1_partOf 76 = .ok (.iload 8, 2) := by decide +kernel
theorem dX1_partOf_78 : decode cX1_partOf 78 = .ok (.iload 4, 2) := by decide +kernel
theorem dX1_partOf_80 : decode cX1_partOf 80 = .ok (.if_icmp .gt 16, 3) := by decide +kernel
theorem dX1_partOf_83 : decode cX1_partOf 83 = .ok (.iload 8, 2) := by decide +kernel
theorem dX1_partOf_85 : decode cX1_partOf 85 = .ok (.iload 4, 2) := by decide +kernel
theorem dX1_partOf_87 : decode cX1_partOf 87 = .ok (.if_icmp .ne 12, 3) := by decide +kernel
theorem dX1_partOf_90 : decode cX1_partOf 90 = .ok (.iload 7, 2) := by decide +kernel
theorem dX1_partOf_92 : decode cX1_partOf 92 = .ok (.iload_n 1, 1) := by decide +kernel
theorem dX1_partOf_93 : decode cX1_partOf 93 = .ok (.if_icmp .ge 6, 3) := by decide +kernel
theorem dX1_partOf_96 : decode cX1_partOf 96 = .ok (.iinc 6 1, 3) := by decide +kernel
theorem dX1_partOf_99 : decode cX1_partOf 99 = .ok (.iinc 7 1, 3) := by decide +kernel
theorem dX1_partOf_102 : decode cX1_partOf 102 = .ok (.goto (-62), 3) := by decide +kernel
theorem dX1_partOf_105 : decode cX1_partOf 105 = .ok (.iload_n 2, 1) := by decide +kernel
theorem dX1_partOf_106 : decode cX1_partOf 106 = .ok (.aload_n 0, 1) := by decide +kernel
theorem dX1_partOf_107 : decode cX1_partOf 107 = .ok (.getfield 18, 3) := by decide +kernel
theorem dX1_partOf_110 : decode cX1_partOf 110 = .ok (.iload_n 1, 1) := by decide +kernel
theorem dX1_partOf_111 : decode cX1_partOf 111 = .ok (.iaload, 1) := by decide +kernel
theorem dX1_partOf_112 : decode cX1_partOf 112 = .ok (.imul, 1) := by decide +kernel
theorem dX1_partOf_113 : decode cX1_partOf 113 = .ok (.iload_n 3, 1) := by decide +kernel
theorem dX1_partOf_114 : decode cX1_partOf 114 = .ok (.idiv, 1) := by decide +kernel
theorem dX1_partOf_115 : decode cX1_partOf 115 = .ok (.iload 6, 2) := by decide +kernel
theorem dX1_partOf_117 : decode cX1_partOf 117 = .ok (.iload 5, 2) := by decide +kernel
theorem dX1_partOf_119 : decode cX1_partOf 119 = .ok (.if_icmp .ge 7, 3) := by decide +kernel
theorem dX1_partOf_122 : decode cX1_partOf 122 = .ok (.iconst 1, 1) := by decide +kernel
theorem dX1_partOf_123 : decode cX1_partOf 123 = .ok (.goto 4, 3) := by decide +kernel
theorem dX1_partOf_126 : decode cX1_partOf 126 = .ok (.iconst 0, 1) := by decide +kernel
theorem dX1_partOf_127 : decode cX1_partOf 127 = .ok (.iadd, 1) := by decide +kernel
theorem dX1_partOf_128 : decode cX1_partOf 128 = .ok (.ireturn, 1) := by decide +kernel
theorem dX1_sharesOfAll_0 : decode cX1_sharesOfAll 0 = .ok (.iconst 0, 1) := by decide +kernel
theorem dX1_sharesOfAll_1 : decode cX1_sharesOfAll 1 = .ok (.istore_n 1, 1) := by decide +kernel
theorem dX1_sharesOfAll_2 : decode cX1_sharesOfAll 2 = .ok (.iconst 0, 1) := by decide +kernel
theorem dX1_sharesOfAll_3 : decode cX1_sharesOfAll 3 = .ok (.istore_n 2, 1) := by decide +kernel
theorem dX1_sharesOfAll_4 : decode cX1_sharesOfAll 4 = .ok (.iload_n 2, 1) := by decide +kernel
theorem dX1_sharesOfAll_5 : decode cX1_sharesOfAll 5 = .ok (.bipush 6, 2) := by decide +kernel
theorem dX1_sharesOfAll_7 : decode cX1_sharesOfAll 7 = .ok (.if_icmp .ge 18, 3) := by decide +kernel
theorem dX1_sharesOfAll_10 : decode cX1_sharesOfAll 10 = .ok (.iload_n 1, 1) := by decide +kernel
theorem dX1_sharesOfAll_11 : decode cX1_sharesOfAll 11 = .ok (.aload_n 0, 1) := by decide +kernel
theorem dX1_sharesOfAll_12 : decode cX1_sharesOfAll 12 = .ok (.getfield 18, 3) := by decide +kernel
theorem dX1_sharesOfAll_15 : decode cX1_sharesOfAll 15 = .ok (.iload_n 2, 1) := by decide +kernel
theorem dX1_sharesOfAll_16 : decode cX1_sharesOfAll 16 = .ok (.iaload, 1) := by decide +kernel
theorem dX1_sharesOfAll_17 : decode cX1_sharesOfAll 17 = .ok (.iadd, 1) := by decide +kernel
theorem dX1_sharesOfAll_18 : decode cX1_sharesOfAll 18 = .ok (.istore_n 1, 1) := by decide +kernel
theorem dX1_sharesOfAll_19 : decode cX1_sharesOfAll 19 = .ok (.iinc 2 1, 3) := by decide +kernel
theorem dX1_sharesOfAll_22 : decode cX1_sharesOfAll 22 = .ok (.goto (-18), 3) := by decide +kernel
theorem dX1_sharesOfAll_25 : decode cX1_sharesOfAll 25 = .ok (.iload_n 1, 1) := by decide +kernel
theorem dX1_sharesOfAll_26 : decode cX1_sharesOfAll 26 = .ok (.ireturn, 1) := by decide +kernel
theorem dX1_beginYear_0 : decode cX1_beginYear 0 = .ok (.aload_n 0, 1) := by decide +kernel
theorem dX1_beginYear_1 : decode cX1_beginYear 1 = .ok (.dup, 1) := by decide +kernel
theorem dX1_beginYear_2 : decode cX1_beginYear 2 = .ok (.getfield 70, 3) := by decide +kernel
theorem dX1_beginYear_5 : decode cX1_beginYear 5 = .ok (.iconst 1, 1) := by decide +kernel
theorem dX1_beginYear_6 : decode cX1_beginYear 6 = .ok (.iadd, 1) := by decide +kernel
theorem dX1_beginYear_7 : decode cX1_beginYear 7 = .ok (.putfield 70, 3) := by decide +kernel
theorem dX1_beginYear_10 : decode cX1_beginYear 10 = .ok (.aload_n 0, 1) := by decide +kernel
theorem dX1_beginYear_11 : decode cX1_beginYear 11 = .ok (.getfield 37, 3) := by decide +kernel
theorem dX1_beginYear_14 : decode cX1_beginYear 14 = .ok (.iconst (-1), 1) := by decide +kernel
theorem dX1_beginYear_15 : decode cX1_beginYear 15 = .ok (.invokestatic 64, 3) := by decide +kernel
theorem dX1_beginYear_18 : decode cX1_beginYear 18 = .ok (.aload_n 0, 1) := by decide +kernel
theorem dX1_beginYear_19 : decode cX1_beginYear 19 = .ok (.getfield 40, 3) := by decide +kernel
theorem dX1_beginYear_22 : decode cX1_beginYear 22 = .ok (.iconst (-1), 1) := by decide +kernel
theorem dX1_beginYear_23 : decode cX1_beginYear 23 = .ok (.invokestatic 64, 3) := by decide +kernel
theorem dX1_beginYear_26 : decode cX1_beginYear 26 = .ok (.aload_n 0, 1) := by decide +kernel
theorem dX1_beginYear_27 : decode cX1_beginYear 27 = .ok (.iconst 0, 1) := by decide +kernel
theorem dX1_beginYear_28 : decode cX1_beginYear 28 = .ok (.putfield 77, 3) := by decide +kernel
theorem dX1_beginYear_31 : decode cX1_beginYear 31 = .ok (.iconst 0, 1) := by decide +kernel
theorem dX1_beginYear_32 : decode cX1_beginYear 32 = .ok (.istore_n 1, 1) := by decide +kernel
theorem dX1_beginYear_33 : decode cX1_beginYear 33 = .ok (.iconst 0, 1) := by decide +kernel
theorem dX1_beginYear_34 : decode cX1_beginYear 34 = .ok (.istore_n 2, 1) := by decide +kernel
theorem dX1_beginYear_35 : decode cX1_beginYear 35 = .ok (.iload_n 2, 1) := by decide +kernel
theorem dX1_beginYear_36 : decode cX1_beginYear 36 = .ok (.bipush 6, 2) := by decide +kernel
theorem dX1_beginYear_38 : decode cX1_beginYear 38 = .ok (.if_icmp .ge 46, 3) := by decide +kernel
theorem dX1_beginYear_41 : decode cX1_beginYear 41 = .ok (.iconst 0, 1) := by decide +kernel
theorem dX1_beginYear_42 : decode cX1_beginYear 42 = .ok (.aload_n 0, 1) := by decide +kernel
theorem dX1_beginYear_43 : decode cX1_beginYear 43 = .ok (.getfield 21, 3) := by decide +kernel
theorem dX1_beginYear_46 : decode cX1_beginYear 46 = .ok (.iload_n 2, 1) := by decide +kernel
theorem dX1_beginYear_47 : decode cX1_beginYear 47 = .ok (.iaload, 1) := by decide +kernel
theorem dX1_beginYear_48 : decode cX1_beginYear 48 = .ok (.aload_n 0, 1) := by decide +kernel
theorem dX1_beginYear_49 : decode cX1_beginYear 49 = .ok (.getfield 9, 3) := by decide +kernel
theorem dX1_beginYear_52 : decode cX1_beginYear 52 = .ok (.iconst 1, 1) := by decide +kernel
theorem dX1_beginYear_53 : decode cX1_beginYear 53 = .ok (.iaload, 1) := by decide +kernel
theorem dX1_beginYear_54 : decode cX1_beginYear 54 = .ok (.isub, 1) := by decide +kernel
theorem dX1_beginYear_55 : decode cX1_beginYear 55 = .ok (.invokestatic 95, 3) := by decide +kernel
theorem dX1_beginYear_58 : decode cX1_beginYear 58 = .ok (.istore_n 3, 1) := by decide +kernel
theorem dX1_beginYear_59 : decode cX1_beginYear 59 = .ok (.aload_n 0, 1) := by decide +kernel
theorem dX1_beginYear_60 : decode cX1_beginYear 60 = .ok (.getfield 21, 3) := by decide +kernel
theorem dX1_beginYear_63 : decode cX1_beginYear 63 = .ok (.iload_n 2, 1) := by decide +kernel
theorem dX1_beginYear_64 : decode cX1_beginYear 64 = .ok (.dup2, 1) := by decide +kernel
theorem dX1_beginYear_65 : decode cX1_beginYear 65 = .ok (.iaload, 1) := by decide +kernel
theorem dX1_beginYear_66 : decode cX1_beginYear 66 = .ok (.iload_n 3, 1) := by decide +kernel
theorem dX1_beginYear_67 : decode cX1_beginYear 67 = .ok (.isub, 1) := by decide +kernel
theorem dX1_beginYear_68 : decode cX1_beginYear 68 = .ok (.iastore, 1) := by decide +kernel
theorem dX1_beginYear_69 : decode cX1_beginYear 69 = .ok (.iload_n 1, 1) := by decide +kernel
theorem dX1_beginYear_70 : decode cX1_beginYear 70 = .ok (.iload_n 3, 1) := by decide +kernel
theorem dX1_beginYear_71 : decode cX1_beginYear 71 = .ok (.iadd, 1) := by decide +kernel
theorem dX1_beginYear_72 : decode cX1_beginYear 72 = .ok (.istore_n 1, 1) := by decide +kernel
theorem dX1_beginYear_73 : decode cX1_beginYear 73 = .ok (.aload_n 0, 1) := by decide +kernel
theorem dX1_beginYear_74 : decode cX1_beginYear 74 = .ok (.iload_n 2, 1) := by decide +kernel
theorem dX1_beginYear_75 : decode cX1_beginYear 75 = .ok (.invokevirtual 100, 3) := by decide +kernel
theorem dX1_beginYear_78 : decode cX1_beginYear 78 = .ok (.iinc 2 1, 3) := by decide +kernel
theorem dX1_beginYear_81 : decode cX1_beginYear 81 = .ok (.goto (-46), 3) := by decide +kernel
theorem dX1_beginYear_84 : decode cX1_beginYear 84 = .ok (.aload_n 0, 1) := by decide +kernel
theorem dX1_beginYear_85 : decode cX1_beginYear 85 = .ok (.getfield 15, 3) := by decide +kernel
theorem dX1_beginYear_88 : decode cX1_beginYear 88 = .ok (.iconst 3, 1) := by decide +kernel
theorem dX1_beginYear_89 : decode cX1_beginYear 89 = .ok (.dup2, 1) := by decide +kernel
theorem dX1_beginYear_90 : decode cX1_beginYear 90 = .ok (.iaload, 1) := by decide +kernel
theorem dX1_beginYear_91 : decode cX1_beginYear 91 = .ok (.iload_n 1, 1) := by decide +kernel
theorem dX1_beginYear_92 : decode cX1_beginYear 92 = .ok (.iadd, 1) := by decide +kernel
theorem dX1_beginYear_93 : decode cX1_beginYear 93 = .ok (.iastore, 1) := by decide +kernel
theorem dX1_beginYear_94 : decode cX1_beginYear 94 = .ok (.iload_n 1, 1) := by decide +kernel
theorem dX1_beginYear_95 : decode cX1_beginYear 95 = .ok (.ireturn, 1) := by decide +kernel
theorem dX2_init_0 : decode cX2_init 0 = .ok (.aload_n 0, 1) := by decide +kernel
theorem dX2_init_1 : decode cX2_init 1 = .ok (.invokespecial 3, 3) := by decide +kernel
theorem dX2_init_4 : decode cX2_init 4 = .ok (.aload_n 0, 1) := by decide +kernel
theorem dX2_init_5 : decode cX2_init 5 = .ok (.bipush 20, 2) := by decide +kernel
theorem dX2_init_7 : decode cX2_init 7 = .ok (.newarray .int, 2) := by decide +kernel
theorem dX2_init_9 : decode cX2_init 9 = .ok (.putfield 9, 3) := by decide +kernel
theorem dX2_init_12 : decode cX2_init 12 = .ok (.aload_n 0, 1) := by decide +kernel
theorem dX2_init_13 : decode cX2_init 13 = .ok (.bipush 20, 2) := by decide +kernel
theorem dX2_init_15 : decode cX2_init 15 = .ok (.newarray .int, 2) := by decide +kernel
theorem dX2_init_17 : decode cX2_init 17 = .ok (.putfield 15, 3) := by decide +kernel
theorem dX2_init_20 : decode cX2_init 20 = .ok (.return_, 1) := by decide +kernel
theorem dX2_countByMoving_0 : decode cX2_countByMoving 0 = .ok (.aload_n 0, 1) := by decide +kernel
theorem dX2_countByMoving_1 : decode cX2_countByMoving 1 = .ok (.getfield 9, 3) := by decide +kernel
theorem dX2_countByMoving_4 : decode cX2_countByMoving 4 = .ok (.iconst (-1), 1) := by decide +kernel
theorem dX2_countByMoving_5 : decode cX2_countByMoving 5 = .ok (.invokestatic 18, 3) := by decide +kernel
theorem dX2_countByMoving_8 : decode cX2_countByMoving 8 = .ok (.iconst 0, 1) := by decide +kernel
theorem dX2_countByMoving_9 : decode cX2_countByMoving 9 = .ok (.istore_n 2, 1) := by decide +kernel
theorem dX2_countByMoving_10 : decode cX2_countByMoving 10 = .ok (.iconst 0, 1) := by decide +kernel
theorem dX2_countByMoving_11 : decode cX2_countByMoving 11 = .ok (.istore_n 3, 1) := by decide +kernel
theorem dX2_countByMoving_12 : decode cX2_countByMoving 12 = .ok (.iload_n 3, 1) := by decide +kernel
theorem dX2_countByMoving_13 : decode cX2_countByMoving 13 = .ok (.bipush 6, 2) := by decide +kernel
theorem dX2_countByMoving_15 : decode cX2_countByMoving 15 = .ok (.if_icmp .ge 37, 3) := by decide +kernel
theorem dX2_countByMoving_18 : decode cX2_countByMoving 18 = .ok (.aload_n 0, 1) := by decide +kernel
theorem dX2_countByMoving_19 : decode cX2_countByMoving 19 = .ok (.getfield 15, 3) := by decide +kernel
theorem dX2_countByMoving_22 : decode cX2_countByMoving 22 = .ok (.iconst 0, 1) := by decide +kernel
theorem dX2_countByMoving_23 : decode cX2_countByMoving 23 = .ok (.invokestatic 18, 3) := by decide +kernel
theorem dX2_countByMoving_26 : decode cX2_countByMoving 26 = .ok (.aload_n 1, 1) := by decide +kernel
theorem dX2_countByMoving_27 : decode cX2_countByMoving 27 = .ok (.iload_n 3, 1) := by decide +kernel
theorem dX2_countByMoving_28 : decode cX2_countByMoving 28 = .ok (.aload_n 0, 1) := by decide +kernel
theorem dX2_countByMoving_29 : decode cX2_countByMoving 29 = .ok (.getfield 9, 3) := by decide +kernel
theorem dX2_countByMoving_32 : decode cX2_countByMoving 32 = .ok (.aload_n 0, 1) := by decide +kernel
theorem dX2_countByMoving_33 : decode cX2_countByMoving 33 = .ok (.getfield 15, 3) := by decide +kernel
theorem dX2_countByMoving_36 : decode cX2_countByMoving 36 = .ok (.iconst 0, 1) := by decide +kernel
theorem dX2_countByMoving_37 : decode cX2_countByMoving 37 = .ok (.invokestatic 24, 3) := by decide +kernel
theorem dX2_countByMoving_40 : decode cX2_countByMoving 40 = .ok (.ifCond .eq 6, 3) := by decide +kernel
theorem dX2_countByMoving_43 : decode cX2_countByMoving 43 = .ok (.iinc 2 1, 3) := by decide +kernel
theorem dX2_countByMoving_46 : decode cX2_countByMoving 46 = .ok (.iinc 3 1, 3) := by decide +kernel
theorem dX2_countByMoving_49 : decode cX2_countByMoving 49 = .ok (.goto (-37), 3) := by decide +kernel
theorem dX2_countByMoving_52 : decode cX2_countByMoving 52 = .ok (.iload_n 2, 1) := by decide +kernel
theorem dX2_countByMoving_53 : decode cX2_countByMoving 53 = .ok (.ireturn, 1) := by decide +kernel
theorem dX2_findWeek_0 : decode cX2_findWeek 0 = .ok (.iload 4, 2) := by decide +kernel
theorem dX2_findWeek_2 : decode cX2_findWeek 2 = .ok (.bipush 6, 2) := by decide +kernel
theorem dX2_findWeek_4 : decode cX2_findWeek 4 = .ok (.if_icmp .le 5, 3) := by decide +kernel
theorem dX2_findWeek_7 : decode cX2_findWeek 7 = .ok (.iconst 0, 1) := by decide +kernel
theorem dX2_findWeek_8 : decode cX2_findWeek 8 = .ok (.ireturn, 1) := by decide +kernel
theorem dX2_findWeek_9 : decode cX2_findWeek 9 = .ok (.iconst 0, 1) := by decide +kernel
theorem dX2_findWeek_10 : decode cX2_findWeek 10 = .ok (.istore 5, 2) := by decide +kernel
theorem dX2_findWeek_12 : decode cX2_findWeek 12 = .ok (.iload 5, 2) := by decide +kernel
theorem dX2_findWeek_14 : decode cX2_findWeek 14 = .ok (.bipush 20, 2) := by decide +kernel
theorem dX2_findWeek_16 : decode cX2_findWeek 16 = .ok (.if_icmp .ge 77, 3) := by decide +kernel
theorem dX2_findWeek_19 : decode cX2_findWeek 19 = .ok (.iload 5, 2) := by decide +kernel
theorem dX2_findWeek_21 : decode cX2_findWeek 21 = .ok (.aload_n 2, 1) := by decide +kernel
theorem dX2_findWeek_22 : decode cX2_findWeek 22 = .ok (.arraylength, 1) := by decide +kernel
theorem dX2_findWeek_23 : decode cX2_findWeek 23 = .ok (.if_icmp .ge 70, 3) := by decide +kernel
theorem dX2_findWeek_26 : decode cX2_findWeek 26 = .ok (.iload 5, 2) := by decide +kernel
theorem dX2_findWeek_28 : decode cX2_findWeek 28 = .ok (.aload_n 3, 1) := by decide +kernel
theorem dX2_findWeek_29 : decode cX2_findWeek 29 = .ok (.arraylength, 1) := by decide +kernel
theorem dX2_findWeek_30 : decode cX2_findWeek 30 = .ok (.if_icmp .ge 63, 3) := by decide +kernel
theorem dX2_findWeek_33 : decode cX2_findWeek 33 = .ok (.aload_n 3, 1) := by decide +kernel
theorem dX2_findWeek_34 : decode cX2_findWeek 34 = .ok (.iload 5, 2) := by decide +kernel
theorem dX2_findWeek_36 : decode cX2_findWeek 36 = .ok (.iaload, 1) := by decide +kernel
theorem dX2_findWeek_37 : decode cX2_findWeek 37 = .ok (.ifCond .ne 50, 3) := by decide +kernel
theorem dX2_findWeek_40 : decode cX2_findWeek 40 = .ok (.aload_n 0, 1) := by decide +kernel
theorem dX2_findWeek_41 : decode cX2_findWeek 41 = .ok (.iload_n 1, 1) := by decide +kernel
theorem dX2_findWeek_42 : decode cX2_findWeek 42 = .ok (.iload 5, 2) := by decide +kernel
theorem dX2_findWeek_44 : decode cX2_findWeek 44 = .ok (.invokevirtual 28, 3) := by decide +kernel
theorem dX2_findWeek_47 : decode cX2_findWeek 47 = .ok (.ifCond .ne 40, 3) := by decide +kernel
theorem dX2_findWeek_50 : decode cX2_findWeek 50 = .ok (.aload_n 3, 1) := by decide +kernel
theorem dX2_findWeek_51 : decode cX2_findWeek 51 = .ok (.iload 5, 2) := by decide +kernel
theorem dX2_findWeek_53 : decode cX2_findWeek 53 = .ok (.iconst 1, 1) := by decide +kernel
theorem dX2_findWeek_54 : decode cX2_findWeek 54 = .ok (.iastore, 1) := by decide +kernel
theorem dX2_findWeek_55 : decode cX2_findWeek 55 = .ok (.aload_n 2, 1) := by decide +kernel
theorem dX2_findWeek_56 : decode cX2_findWeek 56 = .ok (.iload 5, 2) := by decide +kernel
theorem dX2_findWeek_58 : decode cX2_findWeek 58 = .ok (.iaload, 1) := by decide +kernel
theorem dX2_findWeek_59 : decode cX2_findWeek 59 = .ok (.iconst (-1), 1) := by decide +kernel
theorem dX2_findWeek_60 : decode cX2_findWeek 60 = .ok (.if_icmp .eq 20, 3) := by decide +kernel
theorem dX2_findWeek_63 : decode cX2_findWeek 63 = .ok (.aload_n 0, 1) := by decide +kernel
theorem dX2_findWeek_64 : decode cX2_findWeek 64 = .ok (.aload_n 2, 1) := by decide +kernel
theorem dX2_findWeek_65 : decode cX2_findWeek 65 = .ok (.iload 5, 2) := by decide +kernel
theorem dX2_findWeek_67 : decode cX2_findWeek 67 = .ok (.iaload, 1) := by decide +kernel
theorem dX2_findWeek_68 : decode cX2_findWeek 68 = .ok (.aload_n 2, 1) := by decide +kernel
theorem dX2_findWeek_69 : decode cX2_findWeek 69 = .ok (.aload_n 3, 1) := by decide +kernel
theorem dX2_findWeek_70 : decode cX2_findWeek 70 = .ok (.iload 4, 2) := by decide +kernel
theorem dX2_findWeek_72 : decode cX2_findWeek 72 = .ok (.iconst 1, 1) := by decide +kernel
theorem dX2_findWeek_73 : decode cX2_findWeek 73 = .ok (.iadd, 1) := by decide +kernel
theorem dX2_findWeek_74 : decode cX2_findWeek 74 = .ok (.invokestatic 24, 3) := by decide +kernel
theorem dX2_findWeek_77 : decode cX2_findWeek 77 = .ok (.ifCond .eq 10, 3) := by decide +kernel
theorem dX2_findWeek_80 : decode cX2_findWeek 80 = .ok (.aload_n 2, 1) := by decide +kernel
theorem dX2_findWeek_81 : decode cX2_findWeek 81 = .ok (.iload 5, 2) := by decide +kernel
theorem dX2_findWeek_83 : decode cX2_findWeek 83 = .ok (.iload_n 1, 1) := by decide +kernel
theorem dX2_findWeek_84 : decode cX2_findWeek 84 = .ok (.iastore, 1) := by decide +kernel
theorem dX2_findWeek_85 : decode cX2_findWeek 85 = .ok (.iconst 1, 1) := by decide +kernel
theorem dX2_findWeek_86 : decode cX2_findWeek 86 = .ok (.ireturn, 1) := by decide +kernel
theorem dX2_findWeek_87 : decode cX2_findWeek 87 = .ok (.iinc 5 1, 3) := by decide +kernel
theorem dX2_findWeek_90 : decode cX2_findWeek 90 = .ok (.goto (-78), 3) := by decide +kernel
theorem dX2_findWeek_93 : decode cX2_findWeek 93 = .ok (.iconst 0, 1) := by decide +kernel
theorem dX2_findWeek_94 : decode cX2_findWeek 94 = .ok (.ireturn, 1) := by decide +kernel
theorem dX2_countBySets_0 : decode cX2_countBySets 0 = .ok (.lconst 1, 1) := by decide +kernel
theorem dX2_countBySets_1 : decode cX2_countBySets 1 = .ok (.lstore_n 2, 1) := by decide +kernel
theorem dX2_countBySets_2 : decode cX2_countBySets 2 = .ok (.iconst 0, 1) := by decide +kernel
theorem dX2_countBySets_3 : decode cX2_countBySets 3 = .ok (.istore 4, 2) := by decide +kernel
theorem dX2_countBySets_5 : decode cX2_countBySets 5 = .ok (.iload 4, 2) := by decide +kernel
theorem dX2_countBySets_7 : decode cX2_countBySets 7 = .ok (.bipush 20, 2) := by decide +kernel
theorem dX2_countBySets_9 : decode cX2_countBySets 9 = .ok (.if_icmp .ge 19, 3) := by decide +kernel
theorem dX2_countBySets_12 : decode cX2_countBySets 12 = .ok (.lload_n 2, 1) := by decide +kernel
theorem dX2_countBySets_13 : decode cX2_countBySets 13 = .ok (.aload_n 1, 1) := by decide +kernel
theorem dX2_countBySets_14 : decode cX2_countBySets 14 = .ok (.iload 4, 2) := by decide +kernel
theorem dX2_countBySets_16 : decode cX2_countBySets 16 = .ok (.lload_n 2, 1) := by decide +kernel
theorem dX2_countBySets_17 : decode cX2_countBySets 17 = .ok (.invokestatic 34, 3) := by decide +kernel
theorem dX2_countBySets_20 : decode cX2_countBySets 20 = .ok (.lor, 1) := by decide +kernel
theorem dX2_countBySets_21 : decode cX2_countBySets 21 = .ok (.lstore_n 2, 1) := by decide +kernel
theorem dX2_countBySets_22 : decode cX2_countBySets 22 = .ok (.iinc 4 1, 3) := by decide +kernel
theorem dX2_countBySets_25 : decode cX2_countBySets 25 = .ok (.goto (-20), 3) := by decide +kernel
theorem dX2_countBySets_28 : decode cX2_countBySets 28 = .ok (.iconst 0, 1) := by decide +kernel
theorem dX2_countBySets_29 : decode cX2_countBySets 29 = .ok (.istore 4, 2) := by decide +kernel
theorem dX2_countBySets_31 : decode cX2_countBySets 31 = .ok (.iconst 0, 1) := by decide +kernel
theorem dX2_countBySets_32 : decode cX2_countBySets 32 = .ok (.istore 5, 2) := by decide +kernel
theorem dX2_countBySets_34 : decode cX2_countBySets 34 = .ok (.iload 5, 2) := by decide +kernel
theorem dX2_countBySets_36 : decode cX2_countBySets 36 = .ok (.bipush 64, 2) := by decide +kernel
theorem dX2_countBySets_38 : decode cX2_countBySets 38 = .ok (.if_icmp .ge 32, 3) := by decide +kernel
theorem dX2_countBySets_41 : decode cX2_countBySets 41 = .ok (.lload_n 2, 1) := by decide +kernel
theorem dX2_countBySets_42 : decode cX2_countBySets 42 = .ok (.iload 5, 2) := by decide +kernel
theorem dX2_countBySets_44 : decode cX2_countBySets 44 = .ok (.lushr, 1) := by decide +kernel
theorem dX2_countBySets_45 : decode cX2_countBySets 45 = .ok (.lconst 1, 1) := by decide +kernel
theorem dX2_countBySets_46 : decode cX2_countBySets 46 = .ok (.land, 1) := by decide +kernel
theorem dX2_countBySets_47 : decode cX2_countBySets 47 = .ok (.lconst 0, 1) := by decide +kernel
theorem dX2_countBySets_48 : decode cX2_countBySets 48 = .ok (.lcmp, 1) := by decide +kernel
theorem dX2_countBySets_49 : decode cX2_countBySets 49 = .ok (.ifCond .eq 15, 3) := by decide +kernel
theorem dX2_countBySets_52 : decode cX2_countBySets 52 = .ok (.iload 4, 2) := by decide +kernel
theorem dX2_countBySets_54 : decode cX2_countBySets 54 = .ok (.iload 5, 2) := by decide +kernel
theorem dX2_countBySets_56 : decode cX2_countBySets 56 = .ok (.invokestatic 38, 3) := by decide +kernel
theorem dX2_countBySets_59 : decode cX2_countBySets 59 = .ok (.invokestatic 44, 3) := by decide +kernel
theorem dX2_countBySets_62 : decode cX2_countBySets 62 = .ok (.istore 4, 2) := by decide +kernel
theorem dX2_countBySets_64 : decode cX2_countBySets 64 = .ok (.iinc 5 1, 3) := by decide +kernel
theorem dX2_countBySets_67 : decode cX2_countBySets 67 = .ok (.goto (-33), 3) := by decide +kernel
theorem dX2_countBySets_70 : decode cX2_countBySets 70 = .ok (.iload 4, 2) := by decide +kernel
theorem dX2_countBySets_72 : decode cX2_countBySets 72 = .ok (.ireturn, 1) := by decide +kernel
theorem dX2_growSets_0 : decode cX2_growSets 0 = .ok (.lconst 0, 1) := by decide +kernel
theorem dX2_growSets_1 : decode cX2_growSets 1 = .ok (.lstore 4, 2) := by decide +kernel
theorem dX2_growSets_3 : decode cX2_growSets 3 = .ok (.iconst 0, 1) := by decide +kernel
theorem dX2_growSets_4 : decode cX2_growSets 4 = .ok (.istore 6, 2) := by decide +kernel
theorem dX2_growSets_6 : decode cX2_growSets 6 = .ok (.iload 6, 2) := by decide +kernel
theorem dX2_growSets_8 : decode cX2_growSets 8 = .ok (.bipush 6, 2) := by decide +kernel
theorem dX2_growSets_10 : decode cX2_growSets 10 = .ok (.if_icmp .ge 60, 3) := by decide +kernel
theorem dX2_growSets_13 : decode cX2_growSets 13 = .ok (.aload_n 0, 1) := by decide +kernel
theorem dX2_growSets_14 : decode cX2_growSets 14 = .ok (.iload 6, 2) := by decide +kernel
theorem dX2_growSets_16 : decode cX2_growSets 16 = .ok (.iload_n 1, 1) := by decide +kernel
theorem dX2_growSets_17 : decode cX2_growSets 17 = .ok (.invokevirtual 28, 3) := by decide +kernel
theorem dX2_growSets_20 : decode cX2_growSets 20 = .ok (.ifCond .ne 44, 3) := by decide +kernel
theorem dX2_growSets_23 : decode cX2_growSets 23 = .ok (.iconst 0, 1) := by decide +kernel
theorem dX2_growSets_24 : decode cX2_growSets 24 = .ok (.istore 7, 2) := by decide +kernel
theorem dX2_growSets_26 : decode cX2_growSets 26 = .ok (.iload 7, 2) := by decide +kernel
theorem dX2_growSets_28 : decode cX2_growSets 28 = .ok (.bipush 64, 2) := by decide +kernel
theorem dX2_growSets_30 : decode cX2_growSets 30 = .ok (.if_icmp .ge 34, 3) := by decide +kernel
theorem dX2_growSets_33 : decode cX2_growSets 33 = .ok (.lload_n 2, 1) := by decide +kernel
theorem dX2_growSets_34 : decode cX2_growSets 34 = .ok (.iload 7, 2) := by decide +kernel
theorem dX2_growSets_36 : decode cX2_growSets 36 = .ok (.lushr, 1) := by decide +kernel
theorem dX2_growSets_37 : decode cX2_growSets 37 = .ok (.lconst 1, 1) := by decide +kernel
theorem dX2_growSets_38 : decode cX2_growSets 38 = .ok (.land, 1) := by decide +kernel
theorem dX2_growSets_39 : decode cX2_growSets 39 = .ok (.lconst 0, 1) := by decide +kernel
theorem dX2_growSets_40 : decode cX2_growSets 40 = .ok (.lcmp, 1) := by decide +kernel
theorem dX2_growSets_41 : decode cX2_growSets 41 = .ok (.ifCond .eq 17, 3) := by decide +kernel
theorem dX2_growSets_44 : decode cX2_growSets 44 = .ok (.lload 4, 2) := by decide +kernel
theorem dX2_growSets_46 : decode cX2_growSets 46 = .ok (.lconst 1, 1) := by decide +kernel
theorem dX2_growSets_47 : decode cX2_growSets 47 = .ok (.iload 7, 2) := by decide +kernel
theorem dX2_growSets_49 : decode cX2_growSets 49 = .ok (.iconst 1, 1) := by decide +kernel
theorem dX2_growSets_50 : decode cX2_growSets 50 = .ok (.iload 6, 2) := by decide +kernel
theorem dX2_growSets_52 : decode cX2_growSets 52 = .ok (.ishl, 1) := by decide +kernel
theorem dX2_growSets_53 : decode cX2_growSets 53 = .ok (.ior, 1) := by decide +kernel
theorem dX2_growSets_54 : decode cX2_growSets 54 = .ok (.lshl, 1) := by decide +kernel
theorem dX2_growSets_55 : decode cX2_growSets 55 = .ok (.lor, 1) := by decide +kernel
theorem dX2_growSets_56 : decode cX2_growSets 56 = .ok (.lstore 4, 2) := by decide +kernel
theorem dX2_growSets_58 : decode cX2_growSets 58 = .ok (.iinc 7 1, 3) := by decide +kernel
theorem dX2_growSets_61 : decode cX2_growSets 61 = .ok (.goto (-35), 3) := by decide +kernel
theorem dX2_growSets_64 : decode cX2_growSets 64 = .ok (.iinc 6 1, 3) := by decide +kernel
theorem dX2_growSets_67 : decode cX2_growSets 67 = .ok (.goto (-61), 3) := by decide +kernel
theorem dX2_growSets_70 : decode cX2_growSets 70 = .ok (.lload 4, 2) := by decide +kernel
theorem dX2_growSets_72 : decode cX2_growSets 72 = .ok (.lreturn, 1) := by decide +kernel
theorem dX3_succeeds_0 : decode cX3_succeeds 0 = .ok (.iload_n 1, 1) := by decide +kernel
theorem dX3_succeeds_1 : decode cX3_succeeds 1 = .ok (.sipush 10000, 3) := by decide +kernel
theorem dX3_succeeds_4 : decode cX3_succeeds 4 = .ok (.idiv, 1) := by decide +kernel
theorem dX3_succeeds_5 : decode cX3_succeeds 5 = .ok (.bipush 10, 2) := by decide +kernel
theorem dX3_succeeds_7 : decode cX3_succeeds 7 = .ok (.irem, 1) := by decide +kernel
theorem dX3_succeeds_8 : decode cX3_succeeds 8 = .ok (.istore_n 2, 1) := by decide +kernel
theorem dX3_succeeds_9 : decode cX3_succeeds 9 = .ok (.iload_n 1, 1) := by decide +kernel
theorem dX3_succeeds_10 : decode cX3_succeeds 10 = .ok (.bipush 100, 2) := by decide +kernel
theorem dX3_succeeds_12 : decode cX3_succeeds 12 = .ok (.idiv, 1) := by decide +kernel
theorem dX3_succeeds_13 : decode cX3_succeeds 13 = .ok (.bipush 100, 2) := by decide +kernel
theorem dX3_succeeds_15 : decode cX3_succeeds 15 = .ok (.irem, 1) := by decide +kernel
theorem dX3_succeeds_16 : decode cX3_succeeds 16 = .ok (.istore_n 3, 1) := by decide +kernel
theorem dX3_succeeds_17 : decode cX3_succeeds 17 = .ok (.iload_n 1, 1) := by decide +kernel
theorem dX3_succeeds_18 : decode cX3_succeeds 18 = .ok (.bipush 100, 2) := by decide +kernel
theorem dX3_succeeds_20 : decode cX3_succeeds 20 = .ok (.irem, 1) := by decide +kernel
theorem dX3_succeeds_21 : decode cX3_succeeds 21 = .ok (.istore 4, 2) := by decide +kernel
theorem dX3_succeeds_23 : decode cX3_succeeds 23 = .ok (.iload_n 1, 1) := by decide +kernel
theorem dX3_succeeds_24 : decode cX3_succeeds 24 = .ok (.ldc 9, 2) := by decide +kernel
theorem dX3_succeeds_26 : decode cX3_succeeds 26 = .ok (.idiv, 1) := by decide +kernel
theorem dX3_succeeds_27 : decode cX3_succeeds 27 = .ok (.tableswitch 242 1 9 #[49, 69, 88, 116, 138, 157, 180, 202, 222], 49) := by decide +kernel
theorem dX3_succeeds_76 : decode cX3_succeeds 76 = .ok (.iload 4, 2) := by decide +kernel
theorem dX3_succeeds_78 : decode cX3_succeeds 78 = .ok (.ifCond .ne 16, 3) := by decide +kernel
theorem dX3_succeeds_81 : decode cX3_succeeds 81 = .ok (.aload_n 0, 1) := by decide +kernel
theorem dX3_succeeds_82 : decode cX3_succeeds 82 = .ok (.iload_n 2, 1) := by decide +kernel
theorem dX3_succeeds_83 : decode cX3_succeeds 83 = .ok (.iload_n 3, 1) := by decide +kernel
theorem dX3_succeeds_84 : decode cX3_succeeds 84 = .ok (.invokevirtual 10, 3) := by decide +kernel
theorem dX3_succeeds_87 : decode cX3_succeeds 87 = .ok (.ifCond .ne 7, 3) := by decide +kernel
theorem dX3_succeeds_90 : decode cX3_succeeds 90 = .ok (.iconst 1, 1) := by decide +kernel
theorem dX3_succeeds_91 : decode cX3_succeeds 91 = .ok (.goto 4, 3) := by decide +kernel
theorem dX3_succeeds_94 : decode cX3_succeeds 94 = .ok (.iconst 0, 1) := by decide +kernel
theorem dX3_succeeds_95 : decode cX3_succeeds 95 = .ok (.ireturn, 1) := by decide +kernel
theorem dX3_succeeds_96 : decode cX3_succeeds 96 = .ok (.aload_n 0, 1) := by decide +kernel
theorem dX3_succeeds_97 : decode cX3_succeeds 97 = .ok (.iload_n 2, 1) := by decide +kernel
theorem dX3_succeeds_98 : decode cX3_succeeds 98 = .ok (.iload_n 3, 1) := by decide +kernel
theorem dX3_succeeds_99 : decode cX3_succeeds 99 = .ok (.iload 4, 2) := by decide +kernel
theorem dX3_succeeds_101 : decode cX3_succeeds 101 = .ok (.invokevirtual 16, 3) := by decide +kernel
theorem dX3_succeeds_104 : decode cX3_succeeds 104 = .ok (.bipush (-2), 2) := by decide +kernel
theorem dX3_succeeds_106 : decode cX3_succeeds 106 = .ok (.if_icmp .eq 7, 3) := by decide +kernel
theorem dX3_succeeds_109 : decode cX3_succeeds 109 = .ok (.iconst 1, 1) := by decide +kernel
theorem dX3_succeeds_110 : decode cX3_succeeds 110 = .ok (.goto 4, 3) := by decide +kernel
theorem dX3_succeeds_113 : decode cX3_succeeds 113 = .ok (.iconst 0, 1) := by decide +kernel
theorem dX3_succeeds_114 : decode cX3_succeeds 114 = .ok (.ireturn, 1) := by decide +kernel
theorem dX3_succeeds_115 : decode cX3_succeeds 115 = .ok (.iload_n 1, 1) := by decide +kernel
theorem dX3_succeeds_116 : decode cX3_succeeds 116 = .ok (.bipush 10, 2) := by decide +kernel
theorem dX3_succeeds_118 : decode cX3_succeeds 118 = .ok (.idiv, 1) := by decide +kernel
theorem dX3_succeeds_119 : decode cX3_succeeds 119 = .ok (.sipush 10000, 3) := by decide +kernel
theorem dX3_succeeds_122 : decode cX3_succeeds 122 = .ok (.irem, 1) := by decide +kernel
theorem dX3_succeeds_123 : decode cX3_succeeds 123 = .ok (.ifCond .ne 18, 3) := by decide +kernel
theorem dX3_succeeds_126 : decode cX3_succeeds 126 = .ok (.aload_n 0, 1) := by decide +kernel
theorem dX3_succeeds_127 : decode cX3_succeeds 127 = .ok (.invokevirtual 20, 3) := by decide +kernel
theorem dX3_succeeds_130 : decode cX3_succeeds 130 = .ok (.iload_n 1, 1) := by decide +kernel
theorem dX3_succeeds_131 : decode cX3_succeeds 131 = .ok (.bipush 10, 2) := by decide +kernel
theorem dX3_succeeds_133 : decode cX3_succeeds 133 = .ok (.irem, 1) := by decide +kernel
theorem dX3_succeeds_134 : decode cX3_succeeds 134 = .ok (.if_icmp .lt 7, 3) := by decide +kernel
theorem dX3_succeeds_137 : decode cX3_succeeds 137 = .ok (.iconst 1, 1) := by decide +kernel
theorem dX3_succeeds_138 : decode cX3_succeeds 138 = .ok (.goto 4, 3) := by decide +kernel
theorem dX3_succeeds_141 : decode cX3_succeeds 141 = .ok (.iconst 0, 1) := by decide +kernel
theorem dX3_succeeds_142 : decode cX3_succeeds 142 = .ok (.ireturn, 1) := by decide +kernel
theorem dX3_succeeds_143 : decode cX3_succeeds 143 = .ok (.iload 4, 2) := by decide +kernel
theorem dX3_succeeds_145 : decode cX3_succeeds 145 = .ok (.ifCond .ne 18, 3) := by decide +kernel
theorem dX3_succeeds_148 : decode cX3_succeeds 148 = .ok (.aload_n 0, 1) := by decide +kernel
theorem dX3_succeeds_149 : decode cX3_succeeds 149 = .ok (.iload_n 2, 1) := by decide +kernel
theorem dX3_succeeds_150 : decode cX3_succeeds 150 = .ok (.iload_n 3, 1) := by decide +kernel
theorem dX3_succeeds_151 : decode cX3_succeeds 151 = .ok (.invokevirtual 24, 3) := by decide +kernel
theorem dX3_succeeds_154 : decode cX3_succeeds 154 = .ok (.bipush (-2), 2) := by decide +kernel
theorem dX3_succeeds_156 : decode cX3_succeeds 156 = .ok (.if_icmp .eq 7, 3) := by decide +kernel
theorem dX3_succeeds_159 : decode cX3_succeeds 159 = .ok (.iconst 1, 1) := by decide +kernel
theorem dX3_succeeds_160 : decode cX3_succeeds 160 = .ok (.goto 4, 3) := by decide +kernel
theorem dX3_succeeds_163 : decode cX3_succeeds 163 = .ok (.iconst 0, 1) := by decide +kernel
theorem dX3_succeeds_164 : decode cX3_succeeds 164 = .ok (.ireturn, 1) := by decide +kernel
theorem dX3_succeeds_165 : decode cX3_succeeds 165 = .ok (.aload_n 0, 1) := by decide +kernel
theorem dX3_succeeds_166 : decode cX3_succeeds 166 = .ok (.iload_n 2, 1) := by decide +kernel
theorem dX3_succeeds_167 : decode cX3_succeeds 167 = .ok (.iload_n 3, 1) := by decide +kernel
theorem dX3_succeeds_168 : decode cX3_succeeds 168 = .ok (.iload 4, 2) := by decide +kernel
theorem dX3_succeeds_170 : decode cX3_succeeds 170 = .ok (.invokevirtual 27, 3) := by decide +kernel
theorem dX3_succeeds_173 : decode cX3_succeeds 173 = .ok (.bipush (-2), 2) := by decide +kernel
theorem dX3_succeeds_175 : decode cX3_succeeds 175 = .ok (.if_icmp .eq 7, 3) := by decide +kernel
theorem dX3_succeeds_178 : decode cX3_succeeds 178 = .ok (.iconst 1, 1) := by decide +kernel
theorem dX3_succeeds_179 : decode cX3_succeeds 179 = .ok (.goto 4, 3) := by decide +kernel
theorem dX3_succeeds_182 : decode cX3_succeeds 182 = .ok (.iconst 0, 1) := by decide +kernel
theorem dX3_succeeds_183 : decode cX3_succeeds 183 = .ok (.ireturn, 1) := by decide +kernel
theorem dX3_succeeds_184 : decode cX3_succeeds 184 = .ok (.iload_n 1, 1) := by decide +kernel
theorem dX3_succeeds_185 : decode cX3_succeeds 185 = .ok (.sipush 10000, 3) := by decide +kernel
theorem dX3_succeeds_188 : decode cX3_succeeds 188 = .ok (.irem, 1) := by decide +kernel
theorem dX3_succeeds_189 : decode cX3_succeeds 189 = .ok (.ifCond .ne 16, 3) := by decide +kernel
theorem dX3_succeeds_192 : decode cX3_succeeds 192 = .ok (.aload_n 0, 1) := by decide +kernel
theorem dX3_succeeds_193 : decode cX3_succeeds 193 = .ok (.iload_n 2, 1) := by decide +kernel
theorem dX3_succeeds_194 : decode cX3_succeeds 194 = .ok (.invokevirtual 30, 3) := by decide +kernel
theorem dX3_succeeds_197 : decode cX3_succeeds 197 = .ok (.iconst 1, 1) := by decide +kernel
theorem dX3_succeeds_198 : decode cX3_succeeds 198 = .ok (.if_icmp .ne 7, 3) := by decide +kernel
theorem dX3_succeeds_201 : decode cX3_succeeds 201 = .ok (.iconst 1, 1) := by decide +kernel
theorem dX3_succeeds_202 : decode cX3_succeeds 202 = .ok (.goto 4, 3) := by decide +kernel
theorem dX3_succeeds_205 : decode cX3_succeeds 205 = .ok (.iconst 0, 1) := by decide +kernel
theorem dX3_succeeds_206 : decode cX3_succeeds 206 = .ok (.ireturn, 1) := by decide +kernel
theorem dX3_succeeds_207 : decode cX3_succeeds 207 = .ok (.iload_n 1, 1) := by decide +kernel
theorem dX3_succeeds_208 : decode cX3_succeeds 208 = .ok (.ldc 9, 2) := by decide +kernel
theorem dX3_succeeds_210 : decode cX3_succeeds 210 = .ok (.irem, 1) := by decide +kernel
theorem dX3_succeeds_211 : decode cX3_succeeds 211 = .ok (.ifCond .ne 16, 3) := by decide +kernel
theorem dX3_succeeds_214 : decode cX3_succeeds 214 = .ok (.aload_n 0, 1) := by decide +kernel
theorem dX3_succeeds_215 : decode cX3_succeeds 215 = .ok (.invokevirtual 34, 3) := by decide +kernel
theorem dX3_succeeds_218 : decode cX3_succeeds 218 = .ok (.bipush (-2), 2) := by decide +kernel
theorem dX3_succeeds_220 : decode cX3_succeeds 220 = .ok (.if_icmp .eq 7, 3) := by decide +kernel
theorem dX3_succeeds_223 : decode cX3_succeeds 223 = .ok (.iconst 1, 1) := by decide +kernel
theorem dX3_succeeds_224 : decode cX3_succeeds 224 = .ok (.goto 4, 3) := by decide +kernel
theorem dX3_succeeds_227 : decode cX3_succeeds 227 = .ok (.iconst 0, 1) := by decide +kernel
theorem dX3_succeeds_228 : decode cX3_succeeds 228 = .ok (.ireturn, 1) := by decide +kernel
theorem dX3_succeeds_229 : decode cX3_succeeds 229 = .ok (.iload_n 3, 1) := by decide +kernel
theorem dX3_succeeds_230 : decode cX3_succeeds 230 = .ok (.ifCond .ne 17, 3) := by decide +kernel
theorem dX3_succeeds_233 : decode cX3_succeeds 233 = .ok (.aload_n 0, 1) := by decide +kernel
theorem dX3_succeeds_234 : decode cX3_succeeds 234 = .ok (.iload_n 2, 1) := by decide +kernel
theorem dX3_succeeds_235 : decode cX3_succeeds 235 = .ok (.iload 4, 2) := by decide +kernel
theorem dX3_succeeds_237 : decode cX3_succeeds 237 = .ok (.invokevirtual 37, 3) := by decide +kernel
theorem dX3_succeeds_240 : decode cX3_succeeds 240 = .ok (.ifCond .eq 7, 3) := by decide +kernel
theorem dX3_succeeds_243 : decode cX3_succeeds 243 = .ok (.iconst 1, 1) := by decide +kernel
theorem dX3_succeeds_244 : decode cX3_succeeds 244 = .ok (.goto 4, 3) := by decide +kernel
theorem dX3_succeeds_247 : decode cX3_succeeds 247 = .ok (.iconst 0, 1) := by decide +kernel
theorem dX3_succeeds_248 : decode cX3_succeeds 248 = .ok (.ireturn, 1) := by decide +kernel
theorem dX3_succeeds_249 : decode cX3_succeeds 249 = .ok (.iload 4, 2) := by decide +kernel
theorem dX3_succeeds_251 : decode cX3_succeeds 251 = .ok (.ifCond .ne 16, 3) := by decide +kernel
theorem dX3_succeeds_254 : decode cX3_succeeds 254 = .ok (.aload_n 0, 1) := by decide +kernel
theorem dX3_succeeds_255 : decode cX3_succeeds 255 = .ok (.iload_n 2, 1) := by decide +kernel
theorem dX3_succeeds_256 : decode cX3_succeeds 256 = .ok (.iload_n 3, 1) := by decide +kernel
theorem dX3_succeeds_257 : decode cX3_succeeds 257 = .ok (.invokevirtual 41, 3) := by decide +kernel
theorem dX3_succeeds_260 : decode cX3_succeeds 260 = .ok (.ifCond .eq 7, 3) := by decide +kernel
theorem dX3_succeeds_263 : decode cX3_succeeds 263 = .ok (.iconst 1, 1) := by decide +kernel
theorem dX3_succeeds_264 : decode cX3_succeeds 264 = .ok (.goto 4, 3) := by decide +kernel
theorem dX3_succeeds_267 : decode cX3_succeeds 267 = .ok (.iconst 0, 1) := by decide +kernel
theorem dX3_succeeds_268 : decode cX3_succeeds 268 = .ok (.ireturn, 1) := by decide +kernel
theorem dX3_succeeds_269 : decode cX3_succeeds 269 = .ok (.iconst 0, 1) := by decide +kernel
theorem dX3_succeeds_270 : decode cX3_succeeds 270 = .ok (.ireturn, 1) := by decide +kernel
theorem dX4_turn_0 : decode cX4_turn 0 = .ok (.iload_n 1, 1) := by decide +kernel
theorem dX4_turn_1 : decode cX4_turn 1 = .ok (.bipush 16, 2) := by decide +kernel
theorem dX4_turn_3 : decode cX4_turn 3 = .ok (.idiv, 1) := by decide +kernel
theorem dX4_turn_4 : decode cX4_turn 4 = .ok (.istore_n 2, 1) := by decide +kernel
theorem dX4_turn_5 : decode cX4_turn 5 = .ok (.iload_n 1, 1) := by decide +kernel
theorem dX4_turn_6 : decode cX4_turn 6 = .ok (.bipush 16, 2) := by decide +kernel
theorem dX4_turn_8 : decode cX4_turn 8 = .ok (.irem, 1) := by decide +kernel
theorem dX4_turn_9 : decode cX4_turn 9 = .ok (.tableswitch 264 0 14 #[75, 89, 110, 137, 137, 137, 137, 156, 156, 183, 191, 210, 210, 237, 249], 75) := by decide +kernel
theorem dX4_turn_84 : decode cX4_turn 84 = .ok (.aload_n 0, 1) := by decide +kernel
theorem dX4_turn_85 : decode cX4_turn 85 = .ok (.iconst 1, 1) := by decide +kernel
theorem dX4_turn_86 : decode cX4_turn 86 = .ok (.iload_n 2, 1) := by decide +kernel
theorem dX4_turn_87 : decode cX4_turn 87 = .ok (.bipush 9, 2) := by decide +kernel
theorem dX4_turn_89 : decode cX4_turn 89 = .ok (.irem, 1) := by decide +kernel
theorem dX4_turn_90 : decode cX4_turn 90 = .ok (.iadd, 1) := by decide +kernel
theorem dX4_turn_91 : decode cX4_turn 91 = .ok (.invokevirtual 7, 3) := by decide +kernel
theorem dX4_turn_94 : decode cX4_turn 94 = .ok (.pop, 1) := by decide +kernel
theorem dX4_turn_95 : decode cX4_turn 95 = .ok (.goto 183, 3) := by decide +kernel
theorem dX4_turn_98 : decode cX4_turn 98 = .ok (.aload_n 0, 1) := by decide +kernel
theorem dX4_turn_99 : decode cX4_turn 99 = .ok (.iload_n 2, 1) := by decide +kernel
theorem dX4_turn_100 : decode cX4_turn 100 = .ok (.bipush 20, 2) := by decide +kernel
theorem dX4_turn_102 : decode cX4_turn 102 = .ok (.irem, 1) := by decide +kernel
theorem dX4_turn_103 : decode cX4_turn 103 = .ok (.iconst 1, 1) := by decide +kernel
theorem dX4_turn_104 : decode cX4_turn 104 = .ok (.iload_n 2, 1) := by decide +kernel
theorem dX4_turn_105 : decode cX4_turn 105 = .ok (.bipush 32, 2) := by decide +kernel
theorem dX4_turn_107 : decode cX4_turn 107 = .ok (.idiv, 1) := by decide +kernel
theorem dX4_turn_108 : decode cX4_turn 108 = .ok (.bipush 9, 2) := by decide +kernel
theorem dX4_turn_110 : decode cX4_turn 110 = .ok (.irem, 1) := by decide +kernel
theorem dX4_turn_111 : decode cX4_turn 111 = .ok (.iadd, 1) := by decide +kernel
theorem dX4_turn_112 : decode cX4_turn 112 = .ok (.invokevirtual 13, 3) := by decide +kernel
theorem dX4_turn_115 : decode cX4_turn 115 = .ok (.pop, 1) := by decide +kernel
theorem dX4_turn_116 : decode cX4_turn 116 = .ok (.goto 162, 3) := by decide +kernel
theorem dX4_turn_119 : decode cX4_turn 119 = .ok (.aload_n 0, 1) := by decide +kernel
theorem dX4_turn_120 : decode cX4_turn 120 = .ok (.iload_n 2, 1) := by decide +kernel
theorem dX4_turn_121 : decode cX4_turn 121 = .ok (.bipush 20, 2) := by decide +kernel
theorem dX4_turn_123 : decode cX4_turn 123 = .ok (.irem, 1) := by decide +kernel
theorem dX4_turn_124 : decode cX4_turn 124 = .ok (.iload_n 2, 1) := by decide +kernel
theorem dX4_turn_125 : decode cX4_turn 125 = .ok (.bipush 32, 2) := by decide +kernel
theorem dX4_turn_127 : decode cX4_turn 127 = .ok (.idiv, 1) := by decide +kernel
theorem dX4_turn_128 : decode cX4_turn 128 = .ok (.iconst 2, 1) := by decide +kernel
theorem dX4_turn_129 : decode cX4_turn 129 = .ok (.irem, 1) := by decide +kernel
theorem dX4_turn_130 : decode cX4_turn 130 = .ok (.iconst 1, 1) := by decide +kernel
theorem dX4_turn_131 : decode cX4_turn 131 = .ok (.if_icmp .ne 7, 3) := by decide +kernel
theorem dX4_turn_134 : decode cX4_turn 134 = .ok (.iconst 1, 1) := by decide +kernel
theorem dX4_turn_135 : decode cX4_turn 135 = .ok (.goto 4, 3) := by decide +kernel
theorem dX4_turn_138 : decode cX4_turn 138 = .ok (.iconst 0, 1) := by decide +kernel
theorem dX4_turn_139 : decode cX4_turn 139 = .ok (.invokevirtual 17, 3) := by decide +kernel
theorem dX4_turn_142 : decode cX4_turn 142 = .ok (.pop, 1) := by decide +kernel
theorem dX4_turn_143 : decode cX4_turn 143 = .ok (.goto 135, 3) := by decide +kernel
theorem dX4_turn_146 : decode cX4_turn 146 = .ok (.aload_n 0, 1) := by decide +kernel
theorem dX4_turn_147 : decode cX4_turn 147 = .ok (.iload_n 2, 1) := by decide +kernel
theorem dX4_turn_148 : decode cX4_turn 148 = .ok (.bipush 6, 2) := by decide +kernel
theorem dX4_turn_150 : decode cX4_turn 150 = .ok (.irem, 1) := by decide +kernel
theorem dX4_turn_151 : decode cX4_turn 151 = .ok (.iload_n 2, 1) := by decide +kernel
theorem dX4_turn_152 : decode cX4_turn 152 = .ok (.bipush 8, 2) := by decide +kernel
theorem dX4_turn_154 : decode cX4_turn 154 = .ok (.idiv, 1) := by decide +kernel
theorem dX4_turn_155 : decode cX4_turn 155 = .ok (.bipush 20, 2) := by decide +kernel
theorem dX4_turn_157 : decode cX4_turn 157 = .ok (.irem, 1) := by decide +kernel
theorem dX4_turn_158 : decode cX4_turn 158 = .ok (.invokevirtual 21, 3) := by decide +kernel
theorem dX4_turn_161 : decode cX4_turn 161 = .ok (.pop, 1) := by decide +kernel
theorem dX4_turn_162 : decode cX4_turn 162 = .ok (.goto 116, 3) := by decide +kernel
theorem dX4_turn_165 : decode cX4_turn 165 = .ok (.aload_n 0, 1) := by decide +kernel
theorem dX4_turn_166 : decode cX4_turn 166 = .ok (.iload_n 2, 1) := by decide +kernel
theorem dX4_turn_167 : decode cX4_turn 167 = .ok (.bipush 6, 2) := by decide +kernel
theorem dX4_turn_169 : decode cX4_turn 169 = .ok (.irem, 1) := by decide +kernel
theorem dX4_turn_170 : decode cX4_turn 170 = .ok (.iload_n 2, 1) := by decide +kernel
theorem dX4_turn_171 : decode cX4_turn 171 = .ok (.bipush 8, 2) := by decide +kernel
theorem dX4_turn_173 : decode cX4_turn 173 = .ok (.idiv, 1) := by decide +kernel
theorem dX4_turn_174 : decode cX4_turn 174 = .ok (.bipush 20, 2) := by decide +kernel
theorem dX4_turn_176 : decode cX4_turn 176 = .ok (.irem, 1) := by decide +kernel
theorem dX4_turn_177 : decode cX4_turn 177 = .ok (.iload_n 2, 1) := by decide +kernel
theorem dX4_turn_178 : decode cX4_turn 178 = .ok (.sipush 256, 3) := by decide +kernel
theorem dX4_turn_181 : decode cX4_turn 181 = .ok (.idiv, 1) := by decide +kernel
theorem dX4_turn_182 : decode cX4_turn 182 = .ok (.bipush 21, 2) := by decide +kernel
theorem dX4_turn_184 : decode cX4_turn 184 = .ok (.irem, 1) := by decide +kernel
theorem dX4_turn_185 : decode cX4_turn 185 = .ok (.invokevirtual 24, 3) := by decide +kernel
theorem dX4_turn_188 : decode cX4_turn 188 = .ok (.pop, 1) := by decide +kernel
theorem dX4_turn_189 : decode cX4_turn 189 = .ok (.goto 89, 3) := by decide +kernel
theorem dX4_turn_192 : decode cX4_turn 192 = .ok (.aload_n 0, 1) := by decide +kernel
theorem dX4_turn_193 : decode cX4_turn 193 = .ok (.invokevirtual 28, 3) := by decide +kernel
theorem dX4_turn_196 : decode cX4_turn 196 = .ok (.pop, 1) := by decide +kernel
theorem dX4_turn_197 : decode cX4_turn 197 = .ok (.goto 81, 3) := by decide +kernel
theorem dX4_turn_200 : decode cX4_turn 200 = .ok (.aload_n 0, 1) := by decide +kernel
theorem dX4_turn_201 : decode cX4_turn 201 = .ok (.iload_n 2, 1) := by decide +kernel
theorem dX4_turn_202 : decode cX4_turn 202 = .ok (.bipush 6, 2) := by decide +kernel
theorem dX4_turn_204 : decode cX4_turn 204 = .ok (.irem, 1) := by decide +kernel
theorem dX4_turn_205 : decode cX4_turn 205 = .ok (.iload_n 2, 1) := by decide +kernel
theorem dX4_turn_206 : decode cX4_turn 206 = .ok (.bipush 8, 2) := by decide +kernel
theorem dX4_turn_208 : decode cX4_turn 208 = .ok (.idiv, 1) := by decide +kernel
theorem dX4_turn_209 : decode cX4_turn 209 = .ok (.bipush 20, 2) := by decide +kernel
theorem dX4_turn_211 : decode cX4_turn 211 = .ok (.irem, 1) := by decide +kernel
theorem dX4_turn_212 : decode cX4_turn 212 = .ok (.invokevirtual 32, 3) := by decide +kernel
theorem dX4_turn_215 : decode cX4_turn 215 = .ok (.pop, 1) := by decide +kernel
theorem dX4_turn_216 : decode cX4_turn 216 = .ok (.goto 62, 3) := by decide +kernel
theorem dX4_turn_219 : decode cX4_turn 219 = .ok (.aload_n 0, 1) := by decide +kernel
theorem dX4_turn_220 : decode cX4_turn 220 = .ok (.iload_n 2, 1) := by decide +kernel
theorem dX4_turn_221 : decode cX4_turn 221 = .ok (.bipush 6, 2) := by decide +kernel
theorem dX4_turn_223 : decode cX4_turn 223 = .ok (.irem, 1) := by decide +kernel
theorem dX4_turn_224 : decode cX4_turn 224 = .ok (.iload_n 2, 1) := by decide +kernel
theorem dX4_turn_225 : decode cX4_turn 225 = .ok (.bipush 8, 2) := by decide +kernel
theorem dX4_turn_227 : decode cX4_turn 227 = .ok (.idiv, 1) := by decide +kernel
theorem dX4_turn_228 : decode cX4_turn 228 = .ok (.bipush 20, 2) := by decide +kernel
theorem dX4_turn_230 : decode cX4_turn 230 = .ok (.irem, 1) := by decide +kernel
theorem dX4_turn_231 : decode cX4_turn 231 = .ok (.iload_n 2, 1) := by decide +kernel
theorem dX4_turn_232 : decode cX4_turn 232 = .ok (.sipush 256, 3) := by decide +kernel
theorem dX4_turn_235 : decode cX4_turn 235 = .ok (.idiv, 1) := by decide +kernel
theorem dX4_turn_236 : decode cX4_turn 236 = .ok (.bipush 20, 2) := by decide +kernel
theorem dX4_turn_238 : decode cX4_turn 238 = .ok (.irem, 1) := by decide +kernel
theorem dX4_turn_239 : decode cX4_turn 239 = .ok (.invokevirtual 35, 3) := by decide +kernel
theorem dX4_turn_242 : decode cX4_turn 242 = .ok (.pop, 1) := by decide +kernel
theorem dX4_turn_243 : decode cX4_turn 243 = .ok (.goto 35, 3) := by decide +kernel
theorem dX4_turn_246 : decode cX4_turn 246 = .ok (.aload_n 0, 1) := by decide +kernel
theorem dX4_turn_247 : decode cX4_turn 247 = .ok (.iload_n 2, 1) := by decide +kernel
theorem dX4_turn_248 : decode cX4_turn 248 = .ok (.bipush 8, 2) := by decide +kernel
theorem dX4_turn_250 : decode cX4_turn 250 = .ok (.irem, 1) := by decide +kernel
theorem dX4_turn_251 : decode cX4_turn 251 = .ok (.invokevirtual 38, 3) := by decide +kernel
theorem dX4_turn_254 : decode cX4_turn 254 = .ok (.pop, 1) := by decide +kernel
theorem dX4_turn_255 : decode cX4_turn 255 = .ok (.goto 23, 3) := by decide +kernel
theorem dX4_turn_258 : decode cX4_turn 258 = .ok (.aload_n 0, 1) := by decide +kernel
theorem dX4_turn_259 : decode cX4_turn 259 = .ok (.iconst 1, 1) := by decide +kernel
theorem dX4_turn_260 : decode cX4_turn 260 = .ok (.iload_n 2, 1) := by decide +kernel
theorem dX4_turn_261 : decode cX4_turn 261 = .ok (.sipush 999, 3) := by decide +kernel
theorem dX4_turn_264 : decode cX4_turn 264 = .ok (.irem, 1) := by decide +kernel
theorem dX4_turn_265 : decode cX4_turn 265 = .ok (.iadd, 1) := by decide +kernel
theorem dX4_turn_266 : decode cX4_turn 266 = .ok (.invokevirtual 41, 3) := by decide +kernel
theorem dX4_turn_269 : decode cX4_turn 269 = .ok (.pop, 1) := by decide +kernel
theorem dX4_turn_270 : decode cX4_turn 270 = .ok (.goto 8, 3) := by decide +kernel
theorem dX4_turn_273 : decode cX4_turn 273 = .ok (.aload_n 0, 1) := by decide +kernel
theorem dX4_turn_274 : decode cX4_turn 274 = .ok (.invokevirtual 44, 3) := by decide +kernel
theorem dX4_turn_277 : decode cX4_turn 277 = .ok (.pop, 1) := by decide +kernel
theorem dX4_turn_278 : decode cX4_turn 278 = .ok (.return_, 1) := by decide +kernel
theorem dX5_init_0 : decode cX5_init 0 = .ok (.aload_n 0, 1) := by decide +kernel
theorem dX5_init_1 : decode cX5_init 1 = .ok (.invokespecial 3, 3) := by decide +kernel
theorem dX5_init_4 : decode cX5_init 4 = .ok (.aload_n 0, 1) := by decide +kernel
theorem dX5_init_5 : decode cX5_init 5 = .ok (.bipush 120, 2) := by decide +kernel
theorem dX5_init_7 : decode cX5_init 7 = .ok (.newarray .char, 2) := by decide +kernel
theorem dX5_init_9 : decode cX5_init 9 = .ok (.putfield 9, 3) := by decide +kernel
theorem dX5_init_12 : decode cX5_init 12 = .ok (.aload_n 0, 1) := by decide +kernel
theorem dX5_init_13 : decode cX5_init 13 = .ok (.iconst 3, 1) := by decide +kernel
theorem dX5_init_14 : decode cX5_init 14 = .ok (.newarray .int, 2) := by decide +kernel
theorem dX5_init_16 : decode cX5_init 16 = .ok (.putfield 15, 3) := by decide +kernel
theorem dX5_init_19 : decode cX5_init 19 = .ok (.return_, 1) := by decide +kernel
theorem dX5_isFull_0 : decode cX5_isFull 0 = .ok (.aload_n 0, 1) := by decide +kernel
theorem dX5_isFull_1 : decode cX5_isFull 1 = .ok (.getfield 19, 3) := by decide +kernel
theorem dX5_isFull_4 : decode cX5_isFull 4 = .ok (.bipush 120, 2) := by decide +kernel
theorem dX5_isFull_6 : decode cX5_isFull 6 = .ok (.if_icmp .lt 7, 3) := by decide +kernel
theorem dX5_isFull_9 : decode cX5_isFull 9 = .ok (.iconst 1, 1) := by decide +kernel
theorem dX5_isFull_10 : decode cX5_isFull 10 = .ok (.goto 4, 3) := by decide +kernel
theorem dX5_isFull_13 : decode cX5_isFull 13 = .ok (.iconst 0, 1) := by decide +kernel
theorem dX5_isFull_14 : decode cX5_isFull 14 = .ok (.ireturn, 1) := by decide +kernel
theorem dX5_add_0 : decode cX5_add 0 = .ok (.aload_n 0, 1) := by decide +kernel
theorem dX5_add_1 : decode cX5_add 1 = .ok (.invokevirtual 23, 3) := by decide +kernel
theorem dX5_add_4 : decode cX5_add 4 = .ok (.ifCond .ne 23, 3) := by decide +kernel
theorem dX5_add_7 : decode cX5_add 7 = .ok (.aload_n 0, 1) := by decide +kernel
theorem dX5_add_8 : decode cX5_add 8 = .ok (.getfield 9, 3) := by decide +kernel
theorem dX5_add_11 : decode cX5_add 11 = .ok (.aload_n 0, 1) := by decide +kernel
theorem dX5_add_12 : decode cX5_add 12 = .ok (.getfield 19, 3) := by decide +kernel
theorem dX5_add_15 : decode cX5_add 15 = .ok (.iload_n 1, 1) := by decide +kernel
theorem dX5_add_16 : decode cX5_add 16 = .ok (.castore, 1) := by decide +kernel
theorem dX5_add_17 : decode cX5_add 17 = .ok (.aload_n 0, 1) := by decide +kernel
theorem dX5_add_18 : decode cX5_add 18 = .ok (.dup, 1) := by decide +kernel
theorem dX5_add_19 : decode cX5_add 19 = .ok (.getfield 19, 3) := by decide +kernel
theorem dX5_add_22 : decode cX5_add 22 = .ok (.iconst 1, 1) := by decide +kernel
theorem dX5_add_23 : decode cX5_add 23 = .ok (.iadd, 1) := by decide +kernel
theorem dX5_add_24 : decode cX5_add 24 = .ok (.putfield 19, 3) := by decide +kernel
theorem dX5_add_27 : decode cX5_add 27 = .ok (.aload_n 0, 1) := by decide +kernel
theorem dX5_add_28 : decode cX5_add 28 = .ok (.getfield 19, 3) := by decide +kernel
theorem dX5_add_31 : decode cX5_add 31 = .ok (.ireturn, 1) := by decide +kernel
theorem dX5_empty_0 : decode cX5_empty 0 = .ok (.aload_n 0, 1) := by decide +kernel
theorem dX5_empty_1 : decode cX5_empty 1 = .ok (.getfield 19, 3) := by decide +kernel
theorem dX5_empty_4 : decode cX5_empty 4 = .ok (.istore_n 1, 1) := by decide +kernel
theorem dX5_empty_5 : decode cX5_empty 5 = .ok (.aload_n 0, 1) := by decide +kernel
theorem dX5_empty_6 : decode cX5_empty 6 = .ok (.iconst 0, 1) := by decide +kernel
theorem dX5_empty_7 : decode cX5_empty 7 = .ok (.putfield 19, 3) := by decide +kernel
theorem dX5_empty_10 : decode cX5_empty 10 = .ok (.iload_n 1, 1) := by decide +kernel
theorem dX5_empty_11 : decode cX5_empty 11 = .ok (.ireturn, 1) := by decide +kernel
theorem dX5_findError_0 : decode cX5_findError 0 = .ok (.aload_n 0, 1) := by decide +kernel
theorem dX5_findError_1 : decode cX5_findError 1 = .ok (.invokevirtual 27, 3) := by decide +kernel
theorem dX5_findError_4 : decode cX5_findError 4 = .ok (.iconst 0, 1) := by decide +kernel
theorem dX5_findError_5 : decode cX5_findError 5 = .ok (.istore_n 1, 1) := by decide +kernel
theorem dX5_findError_6 : decode cX5_findError 6 = .ok (.iload_n 1, 1) := by decide +kernel
theorem dX5_findError_7 : decode cX5_findError 7 = .ok (.bipush 120, 2) := by decide +kernel
theorem dX5_findError_9 : decode cX5_findError 9 = .ok (.if_icmp .ge 21, 3) := by decide +kernel
theorem dX5_findError_12 : decode cX5_findError 12 = .ok (.aload_n 0, 1) := by decide +kernel
theorem dX5_findError_13 : decode cX5_findError 13 = .ok (.invokevirtual 30, 3) := by decide +kernel
theorem dX5_findError_16 : decode cX5_findError 16 = .ok (.ifCond .eq 14, 3) := by decide +kernel
theorem dX5_findError_19 : decode cX5_findError 19 = .ok (.aload_n 0, 1) := by decide +kernel
theorem dX5_findError_20 : decode cX5_findError 20 = .ok (.invokevirtual 33, 3) := by decide +kernel
theorem dX5_findError_23 : decode cX5_findError 23 = .ok (.pop, 1) := by decide +kernel
theorem dX5_findError_24 : decode cX5_findError 24 = .ok (.iinc 1 1, 3) := by decide +kernel
theorem dX5_findError_27 : decode cX5_findError 27 = .ok (.goto (-21), 3) := by decide +kernel
theorem dX5_findError_30 : decode cX5_findError 30 = .ok (.aload_n 0, 1) := by decide +kernel
theorem dX5_findError_31 : decode cX5_findError 31 = .ok (.getfield 37, 3) := by decide +kernel
theorem dX5_findError_34 : decode cX5_findError 34 = .ok (.ifCond .eq 10, 3) := by decide +kernel
theorem dX5_findError_37 : decode cX5_findError 37 = .ok (.aload_n 0, 1) := by decide +kernel
theorem dX5_findError_38 : decode cX5_findError 38 = .ok (.getfield 41, 3) := by decide +kernel
theorem dX5_findError_41 : decode cX5_findError 41 = .ok (.goto 4, 3) := by decide +kernel
theorem dX5_findError_44 : decode cX5_findError 44 = .ok (.iconst (-1), 1) := by decide +kernel
theorem dX5_findError_45 : decode cX5_findError 45 = .ok (.ireturn, 1) := by decide +kernel
theorem dX5_build_0 : decode cX5_build 0 = .ok (.iconst 0, 1) := by decide +kernel
theorem dX5_build_1 : decode cX5_build 1 = .ok (.istore_n 2, 1) := by decide +kernel
theorem dX5_build_2 : decode cX5_build 2 = .ok (.aload_n 0, 1) := by decide +kernel
theorem dX5_build_3 : decode cX5_build 3 = .ok (.invokevirtual 27, 3) := by decide +kernel
theorem dX5_build_6 : decode cX5_build 6 = .ok (.iconst 0, 1) := by decide +kernel
theorem dX5_build_7 : decode cX5_build 7 = .ok (.istore_n 3, 1) := by decide +kernel
theorem dX5_build_8 : decode cX5_build 8 = .ok (.iload_n 3, 1) := by decide +kernel
theorem dX5_build_9 : decode cX5_build 9 = .ok (.bipush 120, 2) := by decide +kernel
theorem dX5_build_11 : decode cX5_build 11 = .ok (.if_icmp .ge 42, 3) := by decide +kernel
theorem dX5_build_14 : decode cX5_build 14 = .ok (.aload_n 0, 1) := by decide +kernel
theorem dX5_build_15 : decode cX5_build 15 = .ok (.invokevirtual 30, 3) := by decide +kernel
theorem dX5_build_18 : decode cX5_build 18 = .ok (.ifCond .eq 35, 3) := by decide +kernel
theorem dX5_build_21 : decode cX5_build 21 = .ok (.aload_n 0, 1) := by decide +kernel
theorem dX5_build_22 : decode cX5_build 22 = .ok (.invokevirtual 33, 3) := by decide +kernel
theorem dX5_build_25 : decode cX5_build 25 = .ok (.istore 4, 2) := by decide +kernel
theorem dX5_build_27 : decode cX5_build 27 = .ok (.aload_n 0, 1) := by decide +kernel
theorem dX5_build_28 : decode cX5_build 28 = .ok (.getfield 37, 3) := by decide +kernel
theorem dX5_build_31 : decode cX5_build 31 = .ok (.ifCond .ne 16, 3) := by decide +kernel
theorem dX5_build_34 : decode cX5_build 34 = .ok (.aload_n 0, 1) := by decide +kernel
theorem dX5_build_35 : decode cX5_build 35 = .ok (.aload_n 1, 1) := by decide +kernel
theorem dX5_build_36 : decode cX5_build 36 = .ok (.iload 4, 2) := by decide +kernel
theorem dX5_build_38 : decode cX5_build 38 = .ok (.invokevirtual 44, 3) := by decide +kernel
theorem dX5_build_41 : decode cX5_build 41 = .ok (.ifCond .ne 6, 3) := by decide +kernel
theorem dX5_build_44 : decode cX5_build 44 = .ok (.iinc 2 1, 3) := by decide +kernel
theorem dX5_build_47 : decode cX5_build 47 = .ok (.iinc 3 1, 3) := by decide +kernel
theorem dX5_build_50 : decode cX5_build 50 = .ok (.goto (-42), 3) := by decide +kernel
theorem dX5_build_53 : decode cX5_build 53 = .ok (.iload_n 2, 1) := by decide +kernel
theorem dX5_build_54 : decode cX5_build 54 = .ok (.ireturn, 1) := by decide +kernel
theorem dX5_startReading_0 : decode cX5_startReading 0 = .ok (.aload_n 0, 1) := by decide +kernel
theorem dX5_startReading_1 : decode cX5_startReading 1 = .ok (.iconst 0, 1) := by decide +kernel
theorem dX5_startReading_2 : decode cX5_startReading 2 = .ok (.putfield 41, 3) := by decide +kernel
theorem dX5_startReading_5 : decode cX5_startReading 5 = .ok (.aload_n 0, 1) := by decide +kernel
theorem dX5_startReading_6 : decode cX5_startReading 6 = .ok (.aload_n 0, 1) := by decide +kernel
theorem dX5_startReading_7 : decode cX5_startReading 7 = .ok (.invokevirtual 48, 3) := by decide +kernel
theorem dX5_startReading_10 : decode cX5_startReading 10 = .ok (.bipush 67, 2) := by decide +kernel
theorem dX5_startReading_12 : decode cX5_startReading 12 = .ok (.if_icmp .eq 7, 3) := by decide +kernel
theorem dX5_startReading_15 : decode cX5_startReading 15 = .ok (.iconst 1, 1) := by decide +kernel
theorem dX5_startReading_16 : decode cX5_startReading 16 = .ok (.goto 4, 3) := by decide +kernel
theorem dX5_startReading_19 : decode cX5_startReading 19 = .ok (.iconst 0, 1) := by decide +kernel
theorem dX5_startReading_20 : decode cX5_startReading 20 = .ok (.putfield 37, 3) := by decide +kernel
theorem dX5_startReading_23 : decode cX5_startReading 23 = .ok (.aload_n 0, 1) := by decide +kernel
theorem dX5_startReading_24 : decode cX5_startReading 24 = .ok (.getfield 37, 3) := by decide +kernel
theorem dX5_startReading_27 : decode cX5_startReading 27 = .ok (.ifCond .ne 13, 3) := by decide +kernel
theorem dX5_startReading_30 : decode cX5_startReading 30 = .ok (.aload_n 0, 1) := by decide +kernel
theorem dX5_startReading_31 : decode cX5_startReading 31 = .ok (.dup, 1) := by decide +kernel
theorem dX5_startReading_32 : decode cX5_startReading 32 = .ok (.getfield 41, 3) := by decide +kernel
theorem dX5_startReading_35 : decode cX5_startReading 35 = .ok (.iconst 1, 1) := by decide +kernel
theorem dX5_startReading_36 : decode cX5_startReading 36 = .ok (.iadd, 1) := by decide +kernel
theorem dX5_startReading_37 : decode cX5_startReading 37 = .ok (.putfield 41, 3) := by decide +kernel
theorem dX5_startReading_40 : decode cX5_startReading 40 = .ok (.return_, 1) := by decide +kernel
theorem dX5_hasMore_0 : decode cX5_hasMore 0 = .ok (.aload_n 0, 1) := by decide +kernel
theorem dX5_hasMore_1 : decode cX5_hasMore 1 = .ok (.getfield 37, 3) := by decide +kernel
theorem dX5_hasMore_4 : decode cX5_hasMore 4 = .ok (.ifCond .ne 18, 3) := by decide +kernel
theorem dX5_hasMore_7 : decode cX5_hasMore 7 = .ok (.aload_n 0, 1) := by decide +kernel
theorem dX5_hasMore_8 : decode cX5_hasMore 8 = .ok (.getfield 41, 3) := by decide +kernel
theorem dX5_hasMore_11 : decode cX5_hasMore 11 = .ok (.aload_n 0, 1) := by decide +kernel
theorem dX5_hasMore_12 : decode cX5_hasMore 12 = .ok (.getfield 19, 3) := by decide +kernel
theorem dX5_hasMore_15 : decode cX5_hasMore 15 = .ok (.if_icmp .ge 7, 3) := by decide +kernel
theorem dX5_hasMore_18 : decode cX5_hasMore 18 = .ok (.iconst 1, 1) := by decide +kernel
theorem dX5_hasMore_19 : decode cX5_hasMore 19 = .ok (.goto 4, 3) := by decide +kernel
theorem dX5_hasMore_22 : decode cX5_hasMore 22 = .ok (.iconst 0, 1) := by decide +kernel
theorem dX5_hasMore_23 : decode cX5_hasMore 23 = .ok (.ireturn, 1) := by decide +kernel
theorem dX5_nextSign_0 : decode cX5_nextSign 0 = .ok (.aload_n 0, 1) := by decide +kernel
theorem dX5_nextSign_1 : decode cX5_nextSign 1 = .ok (.getfield 41, 3) := by decide +kernel
theorem dX5_nextSign_4 : decode cX5_nextSign 4 = .ok (.aload_n 0, 1) := by decide +kernel
theorem dX5_nextSign_5 : decode cX5_nextSign 5 = .ok (.getfield 19, 3) := by decide +kernel
theorem dX5_nextSign_8 : decode cX5_nextSign 8 = .ok (.if_icmp .ge 24, 3) := by decide +kernel
theorem dX5_nextSign_11 : decode cX5_nextSign 11 = .ok (.aload_n 0, 1) := by decide +kernel
theorem dX5_nextSign_12 : decode cX5_nextSign 12 = .ok (.getfield 41, 3) := by decide +kernel
theorem dX5_nextSign_15 : decode cX5_nextSign 15 = .ok (.bipush 120, 2) := by decide +kernel
theorem dX5_nextSign_17 : decode cX5_nextSign 17 = .ok (.if_icmp .ge 15, 3) := by decide +kernel
theorem dX5_nextSign_20 : decode cX5_nextSign 20 = .ok (.aload_n 0, 1) := by decide +kernel
theorem dX5_nextSign_21 : decode cX5_nextSign 21 = .ok (.getfield 9, 3) := by decide +kernel
theorem dX5_nextSign_24 : decode cX5_nextSign 24 = .ok (.aload_n 0, 1) := by decide +kernel
theorem dX5_nextSign_25 : decode cX5_nextSign 25 = .ok (.getfield 41, 3) := by decide +kernel
theorem dX5_nextSign_28 : decode cX5_nextSign 28 = .ok (.caload, 1) := by decide +kernel
theorem dX5_nextSign_29 : decode cX5_nextSign 29 = .ok (.goto 4, 3) := by decide +kernel
theorem dX5_nextSign_32 : decode cX5_nextSign 32 = .ok (.iconst (-1), 1) := by decide +kernel
theorem dX5_nextSign_33 : decode cX5_nextSign 33 = .ok (.ireturn, 1) := by decide +kernel
theorem dX5_readCommand_0 : decode cX5_readCommand 0 = .ok (.aload_n 0, 1) := by decide +kernel
theorem dX5_readCommand_1 : decode cX5_readCommand 1 = .ok (.invokevirtual 48, 3) := by decide +kernel
theorem dX5_readCommand_4 : decode cX5_readCommand 4 = .ok (.istore_n 1, 1) := by decide +kernel
theorem dX5_readCommand_5 : decode cX5_readCommand 5 = .ok (.aload_n 0, 1) := by decide +kernel
theorem dX5_readCommand_6 : decode cX5_readCommand 6 = .ok (.iconst 0, 1) := by decide +kernel
theorem dX5_readCommand_7 : decode cX5_readCommand 7 = .ok (.putfield 51, 3) := by decide +kernel
theorem dX5_readCommand_10 : decode cX5_readCommand 10 = .ok (.aload_n 0, 1) := by decide +kernel
theorem dX5_readCommand_11 : decode cX5_readCommand 11 = .ok (.iload_n 1, 1) := by decide +kernel
theorem dX5_readCommand_12 : decode cX5_readCommand 12 = .ok (.iconst (-1), 1) := by decide +kernel
theorem dX5_readCommand_13 : decode cX5_readCommand 13 = .ok (.if_icmp .eq 13, 3) := by decide +kernel
theorem dX5_readCommand_16 : decode cX5_readCommand 16 = .ok (.ldc 54, 2) := by decide +kernel
theorem dX5_readCommand_18 : decode cX5_readCommand 18 = .ok (.iload_n 1, 1) := by decide +kernel
theorem dX5_readCommand_19 : decode cX5_readCommand 19 = .ok (.i2c, 1) := by decide +kernel
theorem dX5_readCommand_20 : decode cX5_readCommand 20 = .ok (.invokevirtual 56, 3) := by decide +kernel
theorem dX5_readCommand_23 : decode cX5_readCommand 23 = .ok (.ifCond .ge 7, 3) := by decide +kernel
theorem dX5_readCommand_26 : decode cX5_readCommand 26 = .ok (.iconst 1, 1) := by decide +kernel
theorem dX5_readCommand_27 : decode cX5_readCommand 27 = .ok (.goto 4, 3) := by decide +kernel
theorem dX5_readCommand_30 : decode cX5_readCommand 30 = .ok (.iconst 0, 1) := by decide +kernel
theorem dX5_readCommand_31 : decode cX5_readCommand 31 = .ok (.putfield 37, 3) := by decide +kernel
theorem dX5_readCommand_34 : decode cX5_readCommand 34 = .ok (.aload_n 0, 1) := by decide +kernel
theorem dX5_readCommand_35 : decode cX5_readCommand 35 = .ok (.getfield 37, 3) := by decide +kernel
theorem dX5_readCommand_38 : decode cX5_readCommand 38 = .ok (.ifCond .ne 18, 3) := by decide +kernel
theorem dX5_readCommand_41 : decode cX5_readCommand 41 = .ok (.aload_n 0, 1) := by decide +kernel
theorem dX5_readCommand_42 : decode cX5_readCommand 42 = .ok (.dup, 1) := by decide +kernel
theorem dX5_readCommand_43 : decode cX5_readCommand 43 = .ok (.getfield 41, 3) := by decide +kernel
theorem dX5_readCommand_46 : decode cX5_readCommand 46 = .ok (.iconst 1, 1) := by decide +kernel
theorem dX5_readCommand_47 : decode cX5_readCommand 47 = .ok (.iadd, 1) := by decide +kernel
theorem dX5_readCommand_48 : decode cX5_readCommand 48 = .ok (.putfield 41, 3) := by decide +kernel
theorem dX5_readCommand_51 : decode cX5_readCommand 51 = .ok (.aload_n 0, 1) := by decide +kernel
theorem dX5_readCommand_52 : decode cX5_readCommand 52 = .ok (.iload_n 1, 1) := by decide +kernel
theorem dX5_readCommand_53 : decode cX5_readCommand 53 = .ok (.invokevirtual 62, 3) := by decide +kernel
theorem dX5_readCommand_56 : decode cX5_readCommand 56 = .ok (.iload_n 1, 1) := by decide +kernel
theorem dX5_readCommand_57 : decode cX5_readCommand 57 = .ok (.ireturn, 1) := by decide +kernel
theorem dX5_readValues_0 : decode cX5_readValues 0 = .ok (.iload_n 1, 1) := by decide +kernel
theorem dX5_readValues_1 : decode cX5_readValues 1 = .ok (.tableswitch 204 97 117 #[181, 147, 204, 204, 204, 166, 204, 204, 204, 204, 110, 204, 204, 204, 99, 204, 204, 136, 125, 136, 192], 99) := by decide +kernel
theorem dX5_readValues_100 : decode cX5_readValues 100 = .ok (.aload_n 0, 1) := by decide +kernel
theorem dX5_readValues_101 : decode cX5_readValues 101 = .ok (.iconst 1, 1) := by decide +kernel
theorem dX5_readValues_102 : decode cX5_readValues 102 = .ok (.iconst 1, 1) := by decide +kernel
theorem dX5_readValues_103 : decode cX5_readValues 103 = .ok (.bipush 9, 2) := by decide +kernel
theorem dX5_readValues_105 : decode cX5_readValues 105 = .ok (.invokevirtual 66, 3) := by decide +kernel
theorem dX5_readValues_108 : decode cX5_readValues 108 = .ok (.goto 97, 3) := by decide +kernel
theorem dX5_readValues_111 : decode cX5_readValues 111 = .ok (.aload_n 0, 1) := by decide +kernel
theorem dX5_readValues_112 : decode cX5_readValues 112 = .ok (.invokevirtual 70, 3) := by decide +kernel
theorem dX5_readValues_115 : decode cX5_readValues 115 = .ok (.aload_n 0, 1) := by decide +kernel
theorem dX5_readValues_116 : decode cX5_readValues 116 = .ok (.iconst 1, 1) := by decide +kernel
theorem dX5_readValues_117 : decode cX5_readValues 117 = .ok (.iconst 1, 1) := by decide +kernel
theorem dX5_readValues_118 : decode cX5_readValues 118 = .ok (.bipush 9, 2) := by decide +kernel
theorem dX5_readValues_120 : decode cX5_readValues 120 = .ok (.invokevirtual 66, 3) := by decide +kernel
theorem dX5_readValues_123 : decode cX5_readValues 123 = .ok (.goto 82, 3) := by decide +kernel
theorem dX5_readValues_126 : decode cX5_readValues 126 = .ok (.aload_n 0, 1) := by decide +kernel
theorem dX5_readValues_127 : decode cX5_readValues 127 = .ok (.invokevirtual 70, 3) := by decide +kernel
theorem dX5_readValues_130 : decode cX5_readValues 130 = .ok (.aload_n 0, 1) := by decide +kernel
theorem dX5_readValues_131 : decode cX5_readValues 131 = .ok (.invokevirtual 73, 3) := by decide +kernel
theorem dX5_readValues_134 : decode cX5_readValues 134 = .ok (.goto 71, 3) := by decide +kernel
theorem dX5_readValues_137 : decode cX5_readValues 137 = .ok (.aload_n 0, 1) := by decide +kernel
theorem dX5_readValues_138 : decode cX5_readValues 138 = .ok (.invokevirtual 76, 3) := by decide +kernel
theorem dX5_readValues_141 : decode cX5_readValues 141 = .ok (.aload_n 0, 1) := by decide +kernel
theorem dX5_readValues_142 : decode cX5_readValues 142 = .ok (.invokevirtual 70, 3) := by decide +kernel
theorem dX5_readValues_145 : decode cX5_readValues 145 = .ok (.goto 60, 3) := by decide +kernel
theorem dX5_readValues_148 : decode cX5_readValues 148 = .ok (.aload_n 0, 1) := by decide +kernel
theorem dX5_readValues_149 : decode cX5_readValues 149 = .ok (.invokevirtual 76, 3) := by decide +kernel
theorem dX5_readValues_152 : decode cX5_readValues 152 = .ok (.aload_n 0, 1) := by decide +kernel
theorem dX5_readValues_153 : decode cX5_readValues 153 = .ok (.invokevirtual 70, 3) := by decide +kernel
theorem dX5_readValues_156 : decode cX5_readValues 156 = .ok (.aload_n 0, 1) := by decide +kernel
theorem dX5_readValues_157 : decode cX5_readValues 157 = .ok (.iconst 2, 1) := by decide +kernel
theorem dX5_readValues_158 : decode cX5_readValues 158 = .ok (.iconst 0, 1) := by decide +kernel
theorem dX5_readValues_159 : decode cX5_readValues 159 = .ok (.bipush 20, 2) := by decide +kernel
theorem dX5_readValues_161 : decode cX5_readValues 161 = .ok (.invokevirtual 66, 3) := by decide +kernel
theorem dX5_readValues_164 : decode cX5_readValues 164 = .ok (.goto 41, 3) := by decide +kernel
theorem dX5_readValues_167 : decode cX5_readValues 167 = .ok (.aload_n 0, 1) := by decide +kernel
theorem dX5_readValues_168 : decode cX5_readValues 168 = .ok (.invokevirtual 76, 3) := by decide +kernel
theorem dX5_readValues_171 : decode cX5_readValues 171 = .ok (.aload_n 0, 1) := by decide +kernel
theorem dX5_readValues_172 : decode cX5_readValues 172 = .ok (.invokevirtual 70, 3) := by decide +kernel
theorem dX5_readValues_175 : decode cX5_readValues 175 = .ok (.aload_n 0, 1) := by decide +kernel
theorem dX5_readValues_176 : decode cX5_readValues 176 = .ok (.invokevirtual 70, 3) := by decide +kernel
theorem dX5_readValues_179 : decode cX5_readValues 179 = .ok (.goto 26, 3) := by decide +kernel
theorem dX5_readValues_182 : decode cX5_readValues 182 = .ok (.aload_n 0, 1) := by decide +kernel
theorem dX5_readValues_183 : decode cX5_readValues 183 = .ok (.iconst 1, 1) := by decide +kernel
theorem dX5_readValues_184 : decode cX5_readValues 184 = .ok (.iconst 0, 1) := by decide +kernel
theorem dX5_readValues_185 : decode cX5_readValues 185 = .ok (.bipush 7, 2) := by decide +kernel
theorem dX5_readValues_187 : decode cX5_readValues 187 = .ok (.invokevirtual 66, 3) := by decide +kernel
theorem dX5_readValues_190 : decode cX5_readValues 190 = .ok (.goto 15, 3) := by decide +kernel
theorem dX5_readValues_193 : decode cX5_readValues 193 = .ok (.aload_n 0, 1) := by decide +kernel
theorem dX5_readValues_194 : decode cX5_readValues 194 = .ok (.iconst 3, 1) := by decide +kernel
theorem dX5_readValues_195 : decode cX5_readValues 195 = .ok (.iconst 1, 1) := by decide +kernel
theorem dX5_readValues_196 : decode cX5_readValues 196 = .ok (.sipush 999, 3) := by decide +kernel
theorem dX5_readValues_199 : decode cX5_readValues 199 = .ok (.invokevirtual 66, 3) := by decide +kernel
theorem dX5_readValues_202 : decode cX5_readValues 202 = .ok (.goto 3, 3) := by decide +kernel
theorem dX5_readValues_205 : decode cX5_readValues 205 = .ok (.return_, 1) := by decide +kernel
theorem dX5_readOwner_0 : decode cX5_readOwner 0 = .ok (.aload_n 0, 1) := by decide +kernel
theorem dX5_readOwner_1 : decode cX5_readOwner 1 = .ok (.iconst 1, 1) := by decide +kernel
theorem dX5_readOwner_2 : decode cX5_readOwner 2 = .ok (.iconst 0, 1) := by decide +kernel
theorem dX5_readOwner_3 : decode cX5_readOwner 3 = .ok (.iconst 5, 1) := by decide +kernel
theorem dX5_readOwner_4 : decode cX5_readOwner 4 = .ok (.invokevirtual 66, 3) := by decide +kernel
theorem dX5_readOwner_7 : decode cX5_readOwner 7 = .ok (.return_, 1) := by decide +kernel
theorem dX5_readWeek_0 : decode cX5_readWeek 0 = .ok (.aload_n 0, 1) := by decide +kernel
theorem dX5_readWeek_1 : decode cX5_readWeek 1 = .ok (.iconst 2, 1) := by decide +kernel
theorem dX5_readWeek_2 : decode cX5_readWeek 2 = .ok (.iconst 0, 1) := by decide +kernel
theorem dX5_readWeek_3 : decode cX5_readWeek 3 = .ok (.bipush 19, 2) := by decide +kernel
theorem dX5_readWeek_5 : decode cX5_readWeek 5 = .ok (.invokevirtual 66, 3) := by decide +kernel
theorem dX5_readWeek_8 : decode cX5_readWeek 8 = .ok (.return_, 1) := by decide +kernel
theorem dX5_readPlusOrMinus_0 : decode cX5_readPlusOrMinus 0 = .ok (.aload_n 0, 1) := by decide +kernel
theorem dX5_readPlusOrMinus_1 : decode cX5_readPlusOrMinus 1 = .ok (.getfield 37, 3) := by decide +kernel
theorem dX5_readPlusOrMinus_4 : decode cX5_readPlusOrMinus 4 = .ok (.ifCond .eq 4, 3) := by decide +kernel
theorem dX5_readPlusOrMinus_7 : decode cX5_readPlusOrMinus 7 = .ok (.return_, 1) := by decide +kernel
theorem dX5_readPlusOrMinus_8 : decode cX5_readPlusOrMinus 8 = .ok (.aload_n 0, 1) := by decide +kernel
theorem dX5_readPlusOrMinus_9 : decode cX5_readPlusOrMinus 9 = .ok (.invokevirtual 48, 3) := by decide +kernel
theorem dX5_readPlusOrMinus_12 : decode cX5_readPlusOrMinus 12 = .ok (.istore_n 1, 1) := by decide +kernel
theorem dX5_readPlusOrMinus_13 : decode cX5_readPlusOrMinus 13 = .ok (.aload_n 0, 1) := by decide +kernel
theorem dX5_readPlusOrMinus_14 : decode cX5_readPlusOrMinus 14 = .ok (.iload_n 1, 1) := by decide +kernel
theorem dX5_readPlusOrMinus_15 : decode cX5_readPlusOrMinus 15 = .ok (.bipush 43, 2) := by decide +kernel
theorem dX5_readPlusOrMinus_17 : decode cX5_readPlusOrMinus 17 = .ok (.if_icmp .eq 13, 3) := by decide +kernel
theorem dX5_readPlusOrMinus_20 : decode cX5_readPlusOrMinus 20 = .ok (.iload_n 1, 1) := by decide +kernel
theorem dX5_readPlusOrMinus_21 : decode cX5_readPlusOrMinus 21 = .ok (.bipush 45, 2) := by decide +kernel
theorem dX5_readPlusOrMinus_23 : decode cX5_readPlusOrMinus 23 = .ok (.if_icmp .eq 7, 3) := by decide +kernel
theorem dX5_readPlusOrMinus_26 : decode cX5_readPlusOrMinus 26 = .ok (.iconst 1, 1) := by decide +kernel
theorem dX5_readPlusOrMinus_27 : decode cX5_readPlusOrMinus 27 = .ok (.goto 4, 3) := by decide +kernel
theorem dX5_readPlusOrMinus_30 : decode cX5_readPlusOrMinus 30 = .ok (.iconst 0, 1) := by decide +kernel
theorem dX5_readPlusOrMinus_31 : decode cX5_readPlusOrMinus 31 = .ok (.putfield 37, 3) := by decide +kernel
theorem dX5_readPlusOrMinus_34 : decode cX5_readPlusOrMinus 34 = .ok (.aload_n 0, 1) := by decide +kernel
theorem dX5_readPlusOrMinus_35 : decode cX5_readPlusOrMinus 35 = .ok (.getfield 37, 3) := by decide +kernel
theorem dX5_readPlusOrMinus_38 : decode cX5_readPlusOrMinus 38 = .ok (.ifCond .ne 28, 3) := by decide +kernel
theorem dX5_readPlusOrMinus_41 : decode cX5_readPlusOrMinus 41 = .ok (.aload_n 0, 1) := by decide +kernel
theorem dX5_readPlusOrMinus_42 : decode cX5_readPlusOrMinus 42 = .ok (.dup, 1) := by decide +kernel
theorem dX5_readPlusOrMinus_43 : decode cX5_readPlusOrMinus 43 = .ok (.getfield 41, 3) := by decide +kernel
theorem dX5_readPlusOrMinus_46 : decode cX5_readPlusOrMinus 46 = .ok (.iconst 1, 1) := by decide +kernel
theorem dX5_readPlusOrMinus_47 : decode cX5_readPlusOrMinus 47 = .ok (.iadd, 1) := by decide +kernel
theorem dX5_readPlusOrMinus_48 : decode cX5_readPlusOrMinus 48 = .ok (.putfield 41, 3) := by decide +kernel
theorem dX5_readPlusOrMinus_51 : decode cX5_readPlusOrMinus 51 = .ok (.aload_n 0, 1) := by decide +kernel
theorem dX5_readPlusOrMinus_52 : decode cX5_readPlusOrMinus 52 = .ok (.iload_n 1, 1) := by decide +kernel
theorem dX5_readPlusOrMinus_53 : decode cX5_readPlusOrMinus 53 = .ok (.bipush 43, 2) := by decide +kernel
theorem dX5_readPlusOrMinus_55 : decode cX5_readPlusOrMinus 55 = .ok (.if_icmp .ne 7, 3) := by decide +kernel
theorem dX5_readPlusOrMinus_58 : decode cX5_readPlusOrMinus 58 = .ok (.iconst 1, 1) := by decide +kernel
theorem dX5_readPlusOrMinus_59 : decode cX5_readPlusOrMinus 59 = .ok (.goto 4, 3) := by decide +kernel
theorem dX5_readPlusOrMinus_62 : decode cX5_readPlusOrMinus 62 = .ok (.iconst 0, 1) := by decide +kernel
theorem dX5_readPlusOrMinus_63 : decode cX5_readPlusOrMinus 63 = .ok (.invokevirtual 79, 3) := by decide +kernel
theorem dX5_readPlusOrMinus_66 : decode cX5_readPlusOrMinus 66 = .ok (.return_, 1) := by decide +kernel
theorem dX5_readNumber_0 : decode cX5_readNumber 0 = .ok (.iconst 1, 1) := by decide +kernel
theorem dX5_readNumber_1 : decode cX5_readNumber 1 = .ok (.istore 4, 2) := by decide +kernel
theorem dX5_readNumber_3 : decode cX5_readNumber 3 = .ok (.iconst 0, 1) := by decide +kernel
theorem dX5_readNumber_4 : decode cX5_readNumber 4 = .ok (.istore 5, 2) := by decide +kernel
theorem dX5_readNumber_6 : decode cX5_readNumber 6 = .ok (.iload 5, 2) := by decide +kernel
theorem dX5_readNumber_8 : decode cX5_readNumber 8 = .ok (.iload_n 1, 1) := by decide +kernel
theorem dX5_readNumber_9 : decode cX5_readNumber 9 = .ok (.if_icmp .ge 16, 3) := by decide +kernel
theorem dX5_readNumber_12 : decode cX5_readNumber 12 = .ok (.iload 4, 2) := by decide +kernel
theorem dX5_readNumber_14 : decode cX5_readNumber 14 = .ok (.bipush 10, 2) := by decide +kernel
theorem dX5_readNumber_16 : decode cX5_readNumber 16 = .ok (.imul, 1) := by decide +kernel
theorem dX5_readNumber_17 : decode cX5_readNumber 17 = .ok (.istore 4, 2) := by decide +kernel
theorem dX5_readNumber_19 : decode cX5_readNumber 19 = .ok (.iinc 5 1, 3) := by decide +kernel
theorem dX5_readNumber_22 : decode cX5_readNumber 22 = .ok (.goto (-16), 3) := by decide +kernel
theorem dX5_readNumber_25 : decode cX5_readNumber 25 = .ok (.iconst 0, 1) := by decide +kernel
theorem dX5_readNumber_26 : decode cX5_readNumber 26 = .ok (.istore 5, 2) := by decide +kernel
theorem dX5_readNumber_28 : decode cX5_readNumber 28 = .ok (.iconst 0, 1) := by decide +kernel
theorem dX5_readNumber_29 : decode cX5_readNumber 29 = .ok (.istore 6, 2) := by decide +kernel
theorem dX5_readNumber_31 : decode cX5_readNumber 31 = .ok (.iload 6, 2) := by decide +kernel
theorem dX5_readNumber_33 : decode cX5_readNumber 33 = .ok (.iload_n 1, 1) := by decide +kernel
theorem dX5_readNumber_34 : decode cX5_readNumber 34 = .ok (.if_icmp .ge 103, 3) := by decide +kernel
theorem dX5_readNumber_37 : decode cX5_readNumber 37 = .ok (.aload_n 0, 1) := by decide +kernel
theorem dX5_readNumber_38 : decode cX5_readNumber 38 = .ok (.getfield 37, 3) := by decide +kernel
theorem dX5_readNumber_41 : decode cX5_readNumber 41 = .ok (.ifCond .ne 96, 3) := by decide +kernel
theorem dX5_readNumber_44 : decode cX5_readNumber 44 = .ok (.aload_n 0, 1) := by decide +kernel
theorem dX5_readNumber_45 : decode cX5_readNumber 45 = .ok (.invokevirtual 48, 3) := by decide +kernel
theorem dX5_readNumber_48 : decode cX5_readNumber 48 = .ok (.bipush 48, 2) := by decide +kernel
theorem dX5_readNumber_50 : decode cX5_readNumber 50 = .ok (.isub, 1) := by decide +kernel
theorem dX5_readNumber_51 : decode cX5_readNumber 51 = .ok (.istore 7, 2) := by decide +kernel
theorem dX5_readNumber_53 : decode cX5_readNumber 53 = .ok (.iload 4, 2) := by decide +kernel
theorem dX5_readNumber_55 : decode cX5_readNumber 55 = .ok (.bipush 10, 2) := by decide +kernel
theorem dX5_readNumber_57 : decode cX5_readNumber 57 = .ok (.idiv, 1) := by decide +kernel
theorem dX5_readNumber_58 : decode cX5_readNumber 58 = .ok (.istore 4, 2) := by decide +kernel
theorem dX5_readNumber_60 : decode cX5_readNumber 60 = .ok (.iload 5, 2) := by decide +kernel
theorem dX5_readNumber_62 : decode cX5_readNumber 62 = .ok (.bipush 10, 2) := by decide +kernel
theorem dX5_readNumber_64 : decode cX5_readNumber 64 = .ok (.imul, 1) := by decide +kernel
theorem dX5_readNumber_65 : decode cX5_readNumber 65 = .ok (.iload 7, 2) := by decide +kernel
theorem dX5_readNumber_67 : decode cX5_readNumber 67 = .ok (.iadd, 1) := by decide +kernel
theorem dX5_readNumber_68 : decode cX5_readNumber 68 = .ok (.istore 5, 2) := by decide +kernel
theorem dX5_readNumber_70 : decode cX5_readNumber 70 = .ok (.aload_n 0, 1) := by decide +kernel
theorem dX5_readNumber_71 : decode cX5_readNumber 71 = .ok (.iload 7, 2) := by decide +kernel
theorem dX5_readNumber_73 : decode cX5_readNumber 73 = .ok (.ifCond .lt 33, 3) := by decide +kernel
theorem dX5_readNumber_76 : decode cX5_readNumber 76 = .ok (.iload 7, 2) := by decide +kernel
theorem dX5_readNumber_78 : decode cX5_readNumber 78 = .ok (.bipush 9, 2) := by decide +kernel
theorem dX5_readNumber_80 : decode cX5_readNumber 80 = .ok (.if_icmp .gt 26, 3) := by decide +kernel
theorem dX5_readNumber_83 : decode cX5_readNumber 83 = .ok (.iload 5, 2) := by decide +kernel
theorem dX5_readNumber_85 : decode cX5_readNumber 85 = .ok (.iload 4, 2) := by decide +kernel
theorem dX5_readNumber_87 : decode cX5_readNumber 87 = .ok (.imul, 1) := by decide +kernel
theorem dX5_readNumber_88 : decode cX5_readNumber 88 = .ok (.iload_n 3, 1) := by decide +kernel
theorem dX5_readNumber_89 : decode cX5_readNumber 89 = .ok (.if_icmp .gt 17, 3) := by decide +kernel
theorem dX5_readNumber_92 : decode cX5_readNumber 92 = .ok (.iload 5, 2) := by decide +kernel
theorem dX5_readNumber_94 : decode cX5_readNumber 94 = .ok (.iload 4, 2) := by decide +kernel
theorem dX5_readNumber_96 : decode cX5_readNumber 96 = .ok (.imul, 1) := by decide +kernel
theorem dX5_readNumber_97 : decode cX5_readNumber 97 = .ok (.iload 4, 2) := by decide +kernel
theorem dX5_readNumber_99 : decode cX5_readNumber 99 = .ok (.iadd, 1) := by decide +kernel
theorem dX5_readNumber_100 : decode cX5_readNumber 100 = .ok (.iconst 1, 1) := by decide +kernel
theorem dX5_readNumber_101 : decode cX5_readNumber 101 = .ok (.isub, 1) := by decide +kernel
theorem dX5_readNumber_102 : decode cX5_readNumber 102 = .ok (.iload_n 2, 1) := by decide +kernel
theorem dX5_readNumber_103 : decode cX5_readNumber 103 = .ok (.if_icmp .ge 7, 3) := by decide +kernel
theorem dX5_readNumber_106 : decode cX5_readNumber 106 = .ok (.iconst 1, 1) := by decide +kernel
theorem dX5_readNumber_107 : decode cX5_readNumber 107 = .ok (.goto 4, 3) := by decide +kernel
theorem dX5_readNumber_110 : decode cX5_readNumber 110 = .ok (.iconst 0, 1) := by decide +kernel
theorem dX5_readNumber_111 : decode cX5_readNumber 111 = .ok (.putfield 37, 3) := by decide +kernel
theorem dX5_readNumber_114 : decode cX5_readNumber 114 = .ok (.aload_n 0, 1) := by decide +kernel
theorem dX5_readNumber_115 : decode cX5_readNumber 115 = .ok (.getfield 37, 3) := by decide +kernel
theorem dX5_readNumber_118 : decode cX5_readNumber 118 = .ok (.ifCond .ne 13, 3) := by decide +kernel
theorem dX5_readNumber_121 : decode cX5_readNumber 121 = .ok (.aload_n 0, 1) := by decide +kernel
theorem dX5_readNumber_122 : decode cX5_readNumber 122 = .ok (.dup, 1) := by decide +kernel
theorem dX5_readNumber_123 : decode cX5_readNumber 123 = .ok (.getfield 41, 3) := by decide +kernel
theorem dX5_readNumber_126 : decode cX5_readNumber 126 = .ok (.iconst 1, 1) := by decide +kernel
theorem dX5_readNumber_127 : decode cX5_readNumber 127 = .ok (.iadd, 1) := by decide +kernel
theorem dX5_readNumber_128 : decode cX5_readNumber 128 = .ok (.putfield 41, 3) := by decide +kernel
theorem dX5_readNumber_131 : decode cX5_readNumber 131 = .ok (.iinc 6 1, 3) := by decide +kernel
theorem dX5_readNumber_134 : decode cX5_readNumber 134 = .ok (.goto (-103), 3) := by decide +kernel
theorem dX5_readNumber_137 : decode cX5_readNumber 137 = .ok (.aload_n 0, 1) := by decide +kernel
theorem dX5_readNumber_138 : decode cX5_readNumber 138 = .ok (.iload 5, 2) := by decide +kernel
theorem dX5_readNumber_140 : decode cX5_readNumber 140 = .ok (.invokevirtual 79, 3) := by decide +kernel
theorem dX5_readNumber_143 : decode cX5_readNumber 143 = .ok (.return_, 1) := by decide +kernel
theorem dX5_keepValue_0 : decode cX5_keepValue 0 = .ok (.aload_n 0, 1) := by decide +kernel
theorem dX5_keepValue_1 : decode cX5_keepValue 1 = .ok (.getfield 51, 3) := by decide +kernel
theorem dX5_keepValue_4 : decode cX5_keepValue 4 = .ok (.aload_n 0, 1) := by decide +kernel
theorem dX5_keepValue_5 : decode cX5_keepValue 5 = .ok (.getfield 15, 3) := by decide +kernel
theorem dX5_keepValue_8 : decode cX5_keepValue 8 = .ok (.arraylength, 1) := by decide +kernel
theorem dX5_keepValue_9 : decode cX5_keepValue 9 = .ok (.if_icmp .ge 23, 3) := by decide +kernel
theorem dX5_keepValue_12 : decode cX5_keepValue 12 = .ok (.aload_n 0, 1) := by decide +kernel
theorem dX5_keepValue_13 : decode cX5_keepValue 13 = .ok (.getfield 15, 3) := by decide +kernel
theorem dX5_keepValue_16 : decode cX5_keepValue 16 = .ok (.aload_n 0, 1) := by decide +kernel
theorem dX5_keepValue_17 : decode cX5_keepValue 17 = .ok (.getfield 51, 3) := by decide +kernel
theorem dX5_keepValue_20 : decode cX5_keepValue 20 = .ok (.iload_n 1, 1) := by decide +kernel
theorem dX5_keepValue_21 : decode cX5_keepValue 21 = .ok (.iastore, 1) := by decide +kernel
theorem dX5_keepValue_22 : decode cX5_keepValue 22 = .ok (.aload_n 0, 1) := by decide +kernel
theorem dX5_keepValue_23 : decode cX5_keepValue 23 = .ok (.dup, 1) := by decide +kernel
theorem dX5_keepValue_24 : decode cX5_keepValue 24 = .ok (.getfield 51, 3) := by decide +kernel
theorem dX5_keepValue_27 : decode cX5_keepValue 27 = .ok (.iconst 1, 1) := by decide +kernel
theorem dX5_keepValue_28 : decode cX5_keepValue 28 = .ok (.iadd, 1) := by decide +kernel
theorem dX5_keepValue_29 : decode cX5_keepValue 29 = .ok (.putfield 51, 3) := by decide +kernel
theorem dX5_keepValue_32 : decode cX5_keepValue 32 = .ok (.return_, 1) := by decide +kernel
theorem dX5_isDone_0 : decode cX5_isDone 0 = .ok (.aload_n 0, 1) := by decide +kernel
theorem dX5_isDone_1 : decode cX5_isDone 1 = .ok (.getfield 15, 3) := by decide +kernel
theorem dX5_isDone_4 : decode cX5_isDone 4 = .ok (.iconst 0, 1) := by decide +kernel
theorem dX5_isDone_5 : decode cX5_isDone 5 = .ok (.iaload, 1) := by decide +kernel
theorem dX5_isDone_6 : decode cX5_isDone 6 = .ok (.istore_n 3, 1) := by decide +kernel
theorem dX5_isDone_7 : decode cX5_isDone 7 = .ok (.aload_n 0, 1) := by decide +kernel
theorem dX5_isDone_8 : decode cX5_isDone 8 = .ok (.getfield 15, 3) := by decide +kernel
theorem dX5_isDone_11 : decode cX5_isDone 11 = .ok (.iconst 1, 1) := by decide +kernel
theorem dX5_isDone_12 : decode cX5_isDone 12 = .ok (.iaload, 1) := by decide +kernel
theorem dX5_isDone_13 : decode cX5_isDone 13 = .ok (.istore 4, 2) := by decide +kernel
theorem dX5_isDone_15 : decode cX5_isDone 15 = .ok (.aload_n 0, 1) := by decide +kernel
theorem dX5_isDone_16 : decode cX5_isDone 16 = .ok (.getfield 15, 3) := by decide +kernel
theorem dX5_isDone_19 : decode cX5_isDone 19 = .ok (.iconst 2, 1) := by decide +kernel
theorem dX5_isDone_20 : decode cX5_isDone 20 = .ok (.iaload, 1) := by decide +kernel
theorem dX5_isDone_21 : decode cX5_isDone 21 = .ok (.istore 5, 2) := by decide +kernel
theorem dX5_isDone_23 : decode cX5_isDone 23 = .ok (.iload_n 2, 1) := by decide +kernel
theorem dX5_isDone_24 : decode cX5_isDone 24 = .ok (.tableswitch 292 97 117 #[260, 187, 292, 292, 207, 240, 292, 292, 292, 292, 116, 292, 292, 292, 100, 292, 292, 222, 134, 161, 276], 100) := by decide +kernel
theorem dX5_isDone_124 : decode cX5_isDone 124 = .ok (.aload_n 1, 1) := by decide +kernel
theorem dX5_isDone_125 : decode cX5_isDone 125 = .ok (.iload_n 3, 1) := by decide +kernel
theorem dX5_isDone_126 : decode cX5_isDone 126 = .ok (.invokevirtual 82, 3) := by decide +kernel
theorem dX5_isDone_129 : decode cX5_isDone 129 = .ok (.bipush (-2), 2) := by decide +kernel
theorem dX5_isDone_131 : decode cX5_isDone 131 = .ok (.if_icmp .eq 7, 3) := by decide +kernel
theorem dX5_isDone_134 : decode cX5_isDone 134 = .ok (.iconst 1, 1) := by decide +kernel
theorem dX5_isDone_135 : decode cX5_isDone 135 = .ok (.goto 4, 3) := by decide +kernel
theorem dX5_isDone_138 : decode cX5_isDone 138 = .ok (.iconst 0, 1) := by decide +kernel
theorem dX5_isDone_139 : decode cX5_isDone 139 = .ok (.ireturn, 1) := by decide +kernel
theorem dX5_isDone_140 : decode cX5_isDone 140 = .ok (.aload_n 1, 1) := by decide +kernel
theorem dX5_isDone_141 : decode cX5_isDone 141 = .ok (.iload_n 3, 1) := by decide +kernel
theorem dX5_isDone_142 : decode cX5_isDone 142 = .ok (.iload 4, 2) := by decide +kernel
theorem dX5_isDone_144 : decode cX5_isDone 144 = .ok (.invokevirtual 87, 3) := by decide +kernel
theorem dX5_isDone_147 : decode cX5_isDone 147 = .ok (.bipush (-2), 2) := by decide +kernel
theorem dX5_isDone_149 : decode cX5_isDone 149 = .ok (.if_icmp .eq 7, 3) := by decide +kernel
theorem dX5_isDone_152 : decode cX5_isDone 152 = .ok (.iconst 1, 1) := by decide +kernel
theorem dX5_isDone_153 : decode cX5_isDone 153 = .ok (.goto 4, 3) := by decide +kernel
theorem dX5_isDone_156 : decode cX5_isDone 156 = .ok (.iconst 0, 1) := by decide +kernel
theorem dX5_isDone_157 : decode cX5_isDone 157 = .ok (.ireturn, 1) := by decide +kernel
theorem dX5_isDone_158 : decode cX5_isDone 158 = .ok (.aload_n 1, 1) := by decide +kernel
theorem dX5_isDone_159 : decode cX5_isDone 159 = .ok (.iload_n 3, 1) := by decide +kernel
theorem dX5_isDone_160 : decode cX5_isDone 160 = .ok (.iload 4, 2) := by decide +kernel
theorem dX5_isDone_162 : decode cX5_isDone 162 = .ok (.iconst 1, 1) := by decide +kernel
theorem dX5_isDone_163 : decode cX5_isDone 163 = .ok (.if_icmp .ne 7, 3) := by decide +kernel
theorem dX5_isDone_166 : decode cX5_isDone 166 = .ok (.iconst 1, 1) := by decide +kernel
theorem dX5_isDone_167 : decode cX5_isDone 167 = .ok (.goto 4, 3) := by decide +kernel
theorem dX5_isDone_170 : decode cX5_isDone 170 = .ok (.iconst 0, 1) := by decide +kernel
theorem dX5_isDone_171 : decode cX5_isDone 171 = .ok (.invokevirtual 91, 3) := by decide +kernel
theorem dX5_isDone_174 : decode cX5_isDone 174 = .ok (.bipush (-2), 2) := by decide +kernel
theorem dX5_isDone_176 : decode cX5_isDone 176 = .ok (.if_icmp .eq 7, 3) := by decide +kernel
theorem dX5_isDone_179 : decode cX5_isDone 179 = .ok (.iconst 1, 1) := by decide +kernel
theorem dX5_isDone_180 : decode cX5_isDone 180 = .ok (.goto 4, 3) := by decide +kernel
theorem dX5_isDone_183 : decode cX5_isDone 183 = .ok (.iconst 0, 1) := by decide +kernel
theorem dX5_isDone_184 : decode cX5_isDone 184 = .ok (.ireturn, 1) := by decide +kernel
theorem dX5_isDone_185 : decode cX5_isDone 185 = .ok (.aload_n 1, 1) := by decide +kernel
theorem dX5_isDone_186 : decode cX5_isDone 186 = .ok (.iload_n 3, 1) := by decide +kernel
theorem dX5_isDone_187 : decode cX5_isDone 187 = .ok (.iload 4, 2) := by decide +kernel
theorem dX5_isDone_189 : decode cX5_isDone 189 = .ok (.invokevirtual 95, 3) := by decide +kernel
theorem dX5_isDone_192 : decode cX5_isDone 192 = .ok (.ifCond .ne 17, 3) := by decide +kernel
theorem dX5_isDone_195 : decode cX5_isDone 195 = .ok (.aload_n 1, 1) := by decide +kernel
theorem dX5_isDone_196 : decode cX5_isDone 196 = .ok (.iload_n 3, 1) := by decide +kernel
theorem dX5_isDone_197 : decode cX5_isDone 197 = .ok (.iload 4, 2) := by decide +kernel
theorem dX5_isDone_199 : decode cX5_isDone 199 = .ok (.invokevirtual 98, 3) := by decide +kernel
theorem dX5_isDone_202 : decode cX5_isDone 202 = .ok (.ifCond .ne 7, 3) := by decide +kernel
theorem dX5_isDone_205 : decode cX5_isDone 205 = .ok (.iconst 1, 1) := by decide +kernel
theorem dX5_isDone_206 : decode cX5_isDone 206 = .ok (.goto 4, 3) := by decide +kernel
theorem dX5_isDone_209 : decode cX5_isDone 209 = .ok (.iconst 0, 1) := by decide +kernel
theorem dX5_isDone_210 : decode cX5_isDone 210 = .ok (.ireturn, 1) := by decide +kernel
theorem dX5_isDone_211 : decode cX5_isDone 211 = .ok (.aload_n 1, 1) := by decide +kernel
theorem dX5_isDone_212 : decode cX5_isDone 212 = .ok (.iload_n 3, 1) := by decide +kernel
theorem dX5_isDone_213 : decode cX5_isDone 213 = .ok (.iload 4, 2) := by decide +kernel
theorem dX5_isDone_215 : decode cX5_isDone 215 = .ok (.iload 5, 2) := by decide +kernel
theorem dX5_isDone_217 : decode cX5_isDone 217 = .ok (.invokevirtual 101, 3) := by decide +kernel
theorem dX5_isDone_220 : decode cX5_isDone 220 = .ok (.bipush (-2), 2) := by decide +kernel
theorem dX5_isDone_222 : decode cX5_isDone 222 = .ok (.if_icmp .eq 7, 3) := by decide +kernel
theorem dX5_isDone_225 : decode cX5_isDone 225 = .ok (.iconst 1, 1) := by decide +kernel
theorem dX5_isDone_226 : decode cX5_isDone 226 = .ok (.goto 4, 3) := by decide +kernel
theorem dX5_isDone_229 : decode cX5_isDone 229 = .ok (.iconst 0, 1) := by decide +kernel
theorem dX5_isDone_230 : decode cX5_isDone 230 = .ok (.ireturn, 1) := by decide +kernel
theorem dX5_isDone_231 : decode cX5_isDone 231 = .ok (.aload_n 1, 1) := by decide +kernel
theorem dX5_isDone_232 : decode cX5_isDone 232 = .ok (.invokevirtual 105, 3) := by decide +kernel
theorem dX5_isDone_235 : decode cX5_isDone 235 = .ok (.bipush (-2), 2) := by decide +kernel
theorem dX5_isDone_237 : decode cX5_isDone 237 = .ok (.if_icmp .eq 7, 3) := by decide +kernel
theorem dX5_isDone_240 : decode cX5_isDone 240 = .ok (.iconst 1, 1) := by decide +kernel
theorem dX5_isDone_241 : decode cX5_isDone 241 = .ok (.goto 4, 3) := by decide +kernel
theorem dX5_isDone_244 : decode cX5_isDone 244 = .ok (.iconst 0, 1) := by decide +kernel
theorem dX5_isDone_245 : decode cX5_isDone 245 = .ok (.ireturn, 1) := by decide +kernel
theorem dX5_isDone_246 : decode cX5_isDone 246 = .ok (.aload_n 1, 1) := by decide +kernel
theorem dX5_isDone_247 : decode cX5_isDone 247 = .ok (.iload_n 3, 1) := by decide +kernel
theorem dX5_isDone_248 : decode cX5_isDone 248 = .ok (.iload 4, 2) := by decide +kernel
theorem dX5_isDone_250 : decode cX5_isDone 250 = .ok (.invokevirtual 108, 3) := by decide +kernel
theorem dX5_isDone_253 : decode cX5_isDone 253 = .ok (.bipush (-2), 2) := by decide +kernel
theorem dX5_isDone_255 : decode cX5_isDone 255 = .ok (.if_icmp .eq 7, 3) := by decide +kernel
theorem dX5_isDone_258 : decode cX5_isDone 258 = .ok (.iconst 1, 1) := by decide +kernel
theorem dX5_isDone_259 : decode cX5_isDone 259 = .ok (.goto 4, 3) := by decide +kernel
theorem dX5_isDone_262 : decode cX5_isDone 262 = .ok (.iconst 0, 1) := by decide +kernel
theorem dX5_isDone_263 : decode cX5_isDone 263 = .ok (.ireturn, 1) := by decide +kernel
theorem dX5_isDone_264 : decode cX5_isDone 264 = .ok (.aload_n 1, 1) := by decide +kernel
theorem dX5_isDone_265 : decode cX5_isDone 265 = .ok (.iload_n 3, 1) := by decide +kernel
theorem dX5_isDone_266 : decode cX5_isDone 266 = .ok (.iload 4, 2) := by decide +kernel
theorem dX5_isDone_268 : decode cX5_isDone 268 = .ok (.iload 5, 2) := by decide +kernel
theorem dX5_isDone_270 : decode cX5_isDone 270 = .ok (.invokevirtual 111, 3) := by decide +kernel
theorem dX5_isDone_273 : decode cX5_isDone 273 = .ok (.bipush (-2), 2) := by decide +kernel
theorem dX5_isDone_275 : decode cX5_isDone 275 = .ok (.if_icmp .eq 7, 3) := by decide +kernel
theorem dX5_isDone_278 : decode cX5_isDone 278 = .ok (.iconst 1, 1) := by decide +kernel
theorem dX5_isDone_279 : decode cX5_isDone 279 = .ok (.goto 4, 3) := by decide +kernel
theorem dX5_isDone_282 : decode cX5_isDone 282 = .ok (.iconst 0, 1) := by decide +kernel
theorem dX5_isDone_283 : decode cX5_isDone 283 = .ok (.ireturn, 1) := by decide +kernel
theorem dX5_isDone_284 : decode cX5_isDone 284 = .ok (.aload_n 1, 1) := by decide +kernel
theorem dX5_isDone_285 : decode cX5_isDone 285 = .ok (.iload_n 3, 1) := by decide +kernel
theorem dX5_isDone_286 : decode cX5_isDone 286 = .ok (.invokevirtual 114, 3) := by decide +kernel
theorem dX5_isDone_289 : decode cX5_isDone 289 = .ok (.bipush (-2), 2) := by decide +kernel
theorem dX5_isDone_291 : decode cX5_isDone 291 = .ok (.if_icmp .eq 7, 3) := by decide +kernel
theorem dX5_isDone_294 : decode cX5_isDone 294 = .ok (.iconst 1, 1) := by decide +kernel
theorem dX5_isDone_295 : decode cX5_isDone 295 = .ok (.goto 4, 3) := by decide +kernel
theorem dX5_isDone_298 : decode cX5_isDone 298 = .ok (.iconst 0, 1) := by decide +kernel
theorem dX5_isDone_299 : decode cX5_isDone 299 = .ok (.ireturn, 1) := by decide +kernel
theorem dX5_isDone_300 : decode cX5_isDone 300 = .ok (.aload_n 1, 1) := by decide +kernel
theorem dX5_isDone_301 : decode cX5_isDone 301 = .ok (.iload_n 3, 1) := by decide +kernel
theorem dX5_isDone_302 : decode cX5_isDone 302 = .ok (.invokevirtual 117, 3) := by decide +kernel
theorem dX5_isDone_305 : decode cX5_isDone 305 = .ok (.bipush (-2), 2) := by decide +kernel
theorem dX5_isDone_307 : decode cX5_isDone 307 = .ok (.if_icmp .eq 7, 3) := by decide +kernel
theorem dX5_isDone_310 : decode cX5_isDone 310 = .ok (.iconst 1, 1) := by decide +kernel
theorem dX5_isDone_311 : decode cX5_isDone 311 = .ok (.goto 4, 3) := by decide +kernel
theorem dX5_isDone_314 : decode cX5_isDone 314 = .ok (.iconst 0, 1) := by decide +kernel
theorem dX5_isDone_315 : decode cX5_isDone 315 = .ok (.ireturn, 1) := by decide +kernel
theorem dX5_isDone_316 : decode cX5_isDone 316 = .ok (.aload_n 1, 1) := by decide +kernel
theorem dX5_isDone_317 : decode cX5_isDone 317 = .ok (.invokevirtual 120, 3) := by decide +kernel
theorem dX5_isDone_320 : decode cX5_isDone 320 = .ok (.bipush (-2), 2) := by decide +kernel
theorem dX5_isDone_322 : decode cX5_isDone 322 = .ok (.if_icmp .eq 7, 3) := by decide +kernel
theorem dX5_isDone_325 : decode cX5_isDone 325 = .ok (.iconst 1, 1) := by decide +kernel
theorem dX5_isDone_326 : decode cX5_isDone 326 = .ok (.goto 4, 3) := by decide +kernel
theorem dX5_isDone_329 : decode cX5_isDone 329 = .ok (.iconst 0, 1) := by decide +kernel
theorem dX5_isDone_330 : decode cX5_isDone 330 = .ok (.ireturn, 1) := by decide +kernel
theorem dX6_init_0 : decode cX6_init 0 = .ok (.aload_n 0, 1) := by decide +kernel
theorem dX6_init_1 : decode cX6_init 1 = .ok (.invokespecial 1, 3) := by decide +kernel
theorem dX6_init_4 : decode cX6_init 4 = .ok (.aload_n 0, 1) := by decide +kernel
theorem dX6_init_5 : decode cX6_init 5 = .ok (.new 7, 3) := by decide +kernel
theorem dX6_init_8 : decode cX6_init 8 = .ok (.dup, 1) := by decide +kernel
theorem dX6_init_9 : decode cX6_init 9 = .ok (.invokespecial 9, 3) := by decide +kernel
theorem dX6_init_12 : decode cX6_init 12 = .ok (.putfield 10, 3) := by decide +kernel
theorem dX6_init_15 : decode cX6_init 15 = .ok (.aload_n 0, 1) := by decide +kernel
theorem dX6_init_16 : decode cX6_init 16 = .ok (.new 7, 3) := by decide +kernel
theorem dX6_init_19 : decode cX6_init 19 = .ok (.dup, 1) := by decide +kernel
theorem dX6_init_20 : decode cX6_init 20 = .ok (.invokespecial 9, 3) := by decide +kernel
theorem dX6_init_23 : decode cX6_init 23 = .ok (.putfield 16, 3) := by decide +kernel
theorem dX6_init_26 : decode cX6_init 26 = .ok (.aload_n 0, 1) := by decide +kernel
theorem dX6_init_27 : decode cX6_init 27 = .ok (.new 19, 3) := by decide +kernel
theorem dX6_init_30 : decode cX6_init 30 = .ok (.dup, 1) := by decide +kernel
theorem dX6_init_31 : decode cX6_init 31 = .ok (.invokespecial 21, 3) := by decide +kernel
theorem dX6_init_34 : decode cX6_init 34 = .ok (.putfield 22, 3) := by decide +kernel
theorem dX6_init_37 : decode cX6_init 37 = .ok (.aload_n 0, 1) := by decide +kernel
theorem dX6_init_38 : decode cX6_init 38 = .ok (.iconst 2, 1) := by decide +kernel
theorem dX6_init_39 : decode cX6_init 39 = .ok (.anewarray 7, 3) := by decide +kernel
theorem dX6_init_42 : decode cX6_init 42 = .ok (.putfield 26, 3) := by decide +kernel
theorem dX6_init_45 : decode cX6_init 45 = .ok (.aload_n 0, 1) := by decide +kernel
theorem dX6_init_46 : decode cX6_init 46 = .ok (.iconst 2, 1) := by decide +kernel
theorem dX6_init_47 : decode cX6_init 47 = .ok (.newarray .boolean, 2) := by decide +kernel
theorem dX6_init_49 : decode cX6_init 49 = .ok (.putfield 30, 3) := by decide +kernel
theorem dX6_init_52 : decode cX6_init 52 = .ok (.aload_n 0, 1) := by decide +kernel
theorem dX6_init_53 : decode cX6_init 53 = .ok (.new 34, 3) := by decide +kernel
theorem dX6_init_56 : decode cX6_init 56 = .ok (.dup, 1) := by decide +kernel
theorem dX6_init_57 : decode cX6_init 57 = .ok (.invokespecial 36, 3) := by decide +kernel
theorem dX6_init_60 : decode cX6_init 60 = .ok (.putfield 37, 3) := by decide +kernel
theorem dX6_init_63 : decode cX6_init 63 = .ok (.aload_n 0, 1) := by decide +kernel
theorem dX6_init_64 : decode cX6_init 64 = .ok (.new 41, 3) := by decide +kernel
theorem dX6_init_67 : decode cX6_init 67 = .ok (.dup, 1) := by decide +kernel
theorem dX6_init_68 : decode cX6_init 68 = .ok (.invokespecial 43, 3) := by decide +kernel
theorem dX6_init_71 : decode cX6_init 71 = .ok (.putfield 44, 3) := by decide +kernel
theorem dX6_init_74 : decode cX6_init 74 = .ok (.iconst 0, 1) := by decide +kernel
theorem dX6_init_75 : decode cX6_init 75 = .ok (.istore_n 1, 1) := by decide +kernel
theorem dX6_init_76 : decode cX6_init 76 = .ok (.iload_n 1, 1) := by decide +kernel
theorem dX6_init_77 : decode cX6_init 77 = .ok (.iconst 2, 1) := by decide +kernel
theorem dX6_init_78 : decode cX6_init 78 = .ok (.if_icmp .ge 22, 3) := by decide +kernel
theorem dX6_init_81 : decode cX6_init 81 = .ok (.aload_n 0, 1) := by decide +kernel
theorem dX6_init_82 : decode cX6_init 82 = .ok (.getfield 26, 3) := by decide +kernel
theorem dX6_init_85 : decode cX6_init 85 = .ok (.iload_n 1, 1) := by decide +kernel
theorem dX6_init_86 : decode cX6_init 86 = .ok (.new 7, 3) := by decide +kernel
theorem dX6_init_89 : decode cX6_init 89 = .ok (.dup, 1) := by decide +kernel
theorem dX6_init_90 : decode cX6_init 90 = .ok (.invokespecial 9, 3) := by decide +kernel
theorem dX6_init_93 : decode cX6_init 93 = .ok (.aastore, 1) := by decide +kernel
theorem dX6_init_94 : decode cX6_init 94 = .ok (.iinc 1 1, 3) := by decide +kernel
theorem dX6_init_97 : decode cX6_init 97 = .ok (.goto (-21), 3) := by decide +kernel
theorem dX6_init_100 : decode cX6_init 100 = .ok (.return_, 1) := by decide +kernel
theorem dX6_append_0 : decode cX6_append 0 = .ok (.aload_n 0, 1) := by decide +kernel
theorem dX6_append_1 : decode cX6_append 1 = .ok (.iload_n 1, 1) := by decide +kernel
theorem dX6_append_2 : decode cX6_append 2 = .ok (.iconst 0, 1) := by decide +kernel
theorem dX6_append_3 : decode cX6_append 3 = .ok (.sipush 255, 3) := by decide +kernel
theorem dX6_append_6 : decode cX6_append 6 = .ok (.invokevirtual 48, 3) := by decide +kernel
theorem dX6_append_9 : decode cX6_append 9 = .ok (.aload_n 0, 1) := by decide +kernel
theorem dX6_append_10 : decode cX6_append 10 = .ok (.getfield 37, 3) := by decide +kernel
theorem dX6_append_13 : decode cX6_append 13 = .ok (.invokevirtual 52, 3) := by decide +kernel
theorem dX6_append_16 : decode cX6_append 16 = .ok (.ifCond .eq 13, 3) := by decide +kernel
theorem dX6_append_19 : decode cX6_append 19 = .ok (.new 56, 3) := by decide +kernel
theorem dX6_append_22 : decode cX6_append 22 = .ok (.dup, 1) := by decide +kernel
theorem dX6_append_23 : decode cX6_append 23 = .ok (.ldc 58, 2) := by decide +kernel
theorem dX6_append_25 : decode cX6_append 25 = .ok (.invokespecial 60, 3) := by decide +kernel
theorem dX6_append_28 : decode cX6_append 28 = .ok (.athrow, 1) := by decide +kernel
theorem dX6_append_29 : decode cX6_append 29 = .ok (.aload_n 0, 1) := by decide +kernel
theorem dX6_append_30 : decode cX6_append 30 = .ok (.getfield 37, 3) := by decide +kernel
theorem dX6_append_33 : decode cX6_append 33 = .ok (.iload_n 1, 1) := by decide +kernel
theorem dX6_append_34 : decode cX6_append 34 = .ok (.i2c, 1) := by decide +kernel
theorem dX6_append_35 : decode cX6_append 35 = .ok (.invokevirtual 63, 3) := by decide +kernel
theorem dX6_append_38 : decode cX6_append 38 = .ok (.ireturn, 1) := by decide +kernel
theorem dX6_clearText_0 : decode cX6_clearText 0 = .ok (.aload_n 0, 1) := by decide +kernel
theorem dX6_clearText_1 : decode cX6_clearText 1 = .ok (.getfield 37, 3) := by decide +kernel
theorem dX6_clearText_4 : decode cX6_clearText 4 = .ok (.invokevirtual 67, 3) := by decide +kernel
theorem dX6_clearText_7 : decode cX6_clearText 7 = .ok (.ireturn, 1) := by decide +kernel
theorem dX6_errorPosition_0 : decode cX6_errorPosition 0 = .ok (.aload_n 0, 1) := by decide +kernel
theorem dX6_errorPosition_1 : decode cX6_errorPosition 1 = .ok (.getfield 37, 3) := by decide +kernel
theorem dX6_errorPosition_4 : decode cX6_errorPosition 4 = .ok (.invokevirtual 71, 3) := by decide +kernel
theorem dX6_errorPosition_7 : decode cX6_errorPosition 7 = .ok (.ireturn, 1) := by decide +kernel
theorem dX6_load_0 : decode cX6_load 0 = .ok (.aload_n 0, 1) := by decide +kernel
theorem dX6_load_1 : decode cX6_load 1 = .ok (.getfield 37, 3) := by decide +kernel
theorem dX6_load_4 : decode cX6_load 4 = .ok (.invokevirtual 71, 3) := by decide +kernel
theorem dX6_load_7 : decode cX6_load 7 = .ok (.iconst (-1), 1) := by decide +kernel
theorem dX6_load_8 : decode cX6_load 8 = .ok (.if_icmp .eq 13, 3) := by decide +kernel
theorem dX6_load_11 : decode cX6_load 11 = .ok (.new 56, 3) := by decide +kernel
theorem dX6_load_14 : decode cX6_load 14 = .ok (.dup, 1) := by decide +kernel
theorem dX6_load_15 : decode cX6_load 15 = .ok (.ldc 74, 2) := by decide +kernel
theorem dX6_load_17 : decode cX6_load 17 = .ok (.invokespecial 60, 3) := by decide +kernel
theorem dX6_load_20 : decode cX6_load 20 = .ok (.athrow, 1) := by decide +kernel
theorem dX6_load_21 : decode cX6_load 21 = .ok (.aload_n 0, 1) := by decide +kernel
theorem dX6_load_22 : decode cX6_load 22 = .ok (.getfield 10, 3) := by decide +kernel
theorem dX6_load_25 : decode cX6_load 25 = .ok (.invokevirtual 76, 3) := by decide +kernel
theorem dX6_load_28 : decode cX6_load 28 = .ok (.aload_n 0, 1) := by decide +kernel
theorem dX6_load_29 : decode cX6_load 29 = .ok (.getfield 22, 3) := by decide +kernel
theorem dX6_load_32 : decode cX6_load 32 = .ok (.invokevirtual 79, 3) := by decide +kernel
theorem dX6_load_35 : decode cX6_load 35 = .ok (.iconst 0, 1) := by decide +kernel
theorem dX6_load_36 : decode cX6_load 36 = .ok (.istore_n 1, 1) := by decide +kernel
theorem dX6_load_37 : decode cX6_load 37 = .ok (.iload_n 1, 1) := by decide +kernel
theorem dX6_load_38 : decode cX6_load 38 = .ok (.iconst 2, 1) := by decide +kernel
theorem dX6_load_39 : decode cX6_load 39 = .ok (.if_icmp .ge 16, 3) := by decide +kernel
theorem dX6_load_42 : decode cX6_load 42 = .ok (.aload_n 0, 1) := by decide +kernel
theorem dX6_load_43 : decode cX6_load 43 = .ok (.getfield 30, 3) := by decide +kernel
theorem dX6_load_46 : decode cX6_load 46 = .ok (.iload_n 1, 1) := by decide +kernel
theorem dX6_load_47 : decode cX6_load 47 = .ok (.iconst 0, 1) := by decide +kernel
theorem dX6_load_48 : decode cX6_load 48 = .ok (.bastore, 1) := by decide +kernel
theorem dX6_load_49 : decode cX6_load 49 = .ok (.iinc 1 1, 3) := by decide +kernel
theorem dX6_load_52 : decode cX6_load 52 = .ok (.goto (-15), 3) := by decide +kernel
theorem dX6_load_55 : decode cX6_load 55 = .ok (.aload_n 0, 1) := by decide +kernel
theorem dX6_load_56 : decode cX6_load 56 = .ok (.getfield 37, 3) := by decide +kernel
theorem dX6_load_59 : decode cX6_load 59 = .ok (.aload_n 0, 1) := by decide +kernel
theorem dX6_load_60 : decode cX6_load 60 = .ok (.getfield 10, 3) := by decide +kernel
theorem dX6_load_63 : decode cX6_load 63 = .ok (.invokevirtual 82, 3) := by decide +kernel
theorem dX6_load_66 : decode cX6_load 66 = .ok (.ireturn, 1) := by decide +kernel
theorem dX6_about_0 : decode cX6_about 0 = .ok (.iload_n 1, 1) := by decide +kernel
theorem dX6_about_1 : decode cX6_about 1 = .ok (.tableswitch 202 0 13 #[71, 79, 87, 96, 106, 116, 126, 136, 144, 152, 160, 170, 180, 191], 71) := by decide +kernel
theorem dX6_about_72 : decode cX6_about 72 = .ok (.aload_n 0, 1) := by decide +kernel
theorem dX6_about_73 : decode cX6_about 73 = .ok (.getfield 10, 3) := by decide +kernel
theorem dX6_about_76 : decode cX6_about 76 = .ok (.getfield 86, 3) := by decide +kernel
theorem dX6_about_79 : decode cX6_about 79 = .ok (.ireturn, 1) := by decide +kernel
theorem dX6_about_80 : decode cX6_about 80 = .ok (.aload_n 0, 1) := by decide +kernel
theorem dX6_about_81 : decode cX6_about 81 = .ok (.getfield 10, 3) := by decide +kernel
theorem dX6_about_84 : decode cX6_about 84 = .ok (.getfield 90, 3) := by decide +kernel
theorem dX6_about_87 : decode cX6_about 87 = .ok (.ireturn, 1) := by decide +kernel
theorem dX6_about_88 : decode cX6_about 88 = .ok (.aload_n 0, 1) := by decide +kernel
theorem dX6_about_89 : decode cX6_about 89 = .ok (.getfield 10, 3) := by decide +kernel
theorem dX6_about_92 : decode cX6_about 92 = .ok (.iconst (-1), 1) := by decide +kernel
theorem dX6_about_93 : decode cX6_about 93 = .ok (.invokevirtual 93, 3) := by decide +kernel
theorem dX6_about_96 : decode cX6_about 96 = .ok (.ireturn, 1) := by decide +kernel
theorem dX6_about_97 : decode cX6_about 97 = .ok (.aload_n 0, 1) := by decide +kernel
theorem dX6_about_98 : decode cX6_about 98 = .ok (.getfield 10, 3) := by decide +kernel
theorem dX6_about_101 : decode cX6_about 101 = .ok (.getfield 97, 3) := by decide +kernel
theorem dX6_about_104 : decode cX6_about 104 = .ok (.iconst 0, 1) := by decide +kernel
theorem dX6_about_105 : decode cX6_about 105 = .ok (.iaload, 1) := by decide +kernel
theorem dX6_about_106 : decode cX6_about 106 = .ok (.ireturn, 1) := by decide +kernel
theorem dX6_about_107 : decode cX6_about 107 = .ok (.aload_n 0, 1) := by decide +kernel
theorem dX6_about_108 : decode cX6_about 108 = .ok (.getfield 10, 3) := by decide +kernel
theorem dX6_about_111 : decode cX6_about 111 = .ok (.getfield 97, 3) := by decide +kernel
theorem dX6_about_114 : decode cX6_about 114 = .ok (.iconst 1, 1) := by decide +kernel
theorem dX6_about_115 : decode cX6_about 115 = .ok (.iaload, 1) := by decide +kernel
theorem dX6_about_116 : decode cX6_about 116 = .ok (.ireturn, 1) := by decide +kernel
theorem dX6_about_117 : decode cX6_about 117 = .ok (.aload_n 0, 1) := by decide +kernel
theorem dX6_about_118 : decode cX6_about 118 = .ok (.getfield 10, 3) := by decide +kernel
theorem dX6_about_121 : decode cX6_about 121 = .ok (.getfield 97, 3) := by decide +kernel
theorem dX6_about_124 : decode cX6_about 124 = .ok (.iconst 2, 1) := by decide +kernel
theorem dX6_about_125 : decode cX6_about 125 = .ok (.iaload, 1) := by decide +kernel
theorem dX6_about_126 : decode cX6_about 126 = .ok (.ireturn, 1) := by decide +kernel
theorem dX6_about_127 : decode cX6_about 127 = .ok (.aload_n 0, 1) := by decide +kernel
theorem dX6_about_128 : decode cX6_about 128 = .ok (.getfield 10, 3) := by decide +kernel
theorem dX6_about_131 : decode cX6_about 131 = .ok (.getfield 97, 3) := by decide +kernel
theorem dX6_about_134 : decode cX6_about 134 = .ok (.iconst 3, 1) := by decide +kernel
theorem dX6_about_135 : decode cX6_about 135 = .ok (.iaload, 1) := by decide +kernel
theorem dX6_about_136 : decode cX6_about 136 = .ok (.ireturn, 1) := by decide +kernel
theorem dX6_about_137 : decode cX6_about 137 = .ok (.aload_n 0, 1) := by decide +kernel
theorem dX6_about_138 : decode cX6_about 138 = .ok (.getfield 10, 3) := by decide +kernel
theorem dX6_about_141 : decode cX6_about 141 = .ok (.invokevirtual 101, 3) := by decide +kernel
theorem dX6_about_144 : decode cX6_about 144 = .ok (.ireturn, 1) := by decide +kernel
theorem dX6_about_145 : decode cX6_about 145 = .ok (.aload_n 0, 1) := by decide +kernel
theorem dX6_about_146 : decode cX6_about 146 = .ok (.getfield 10, 3) := by decide +kernel
theorem dX6_about_149 : decode cX6_about 149 = .ok (.invokevirtual 104, 3) := by decide +kernel
theorem dX6_about_152 : decode cX6_about 152 = .ok (.ireturn, 1) := by decide +kernel
theorem dX6_about_153 : decode cX6_about 153 = .ok (.aload_n 0, 1) := by decide +kernel
theorem dX6_about_154 : decode cX6_about 154 = .ok (.getfield 10, 3) := by decide +kernel
theorem dX6_about_157 : decode cX6_about 157 = .ok (.getfield 107, 3) := by decide +kernel
theorem dX6_about_160 : decode cX6_about 160 = .ok (.ireturn, 1) := by decide +kernel
theorem dX6_about_161 : decode cX6_about 161 = .ok (.aload_n 0, 1) := by decide +kernel
theorem dX6_about_162 : decode cX6_about 162 = .ok (.getfield 10, 3) := by decide +kernel
theorem dX6_about_165 : decode cX6_about 165 = .ok (.getfield 97, 3) := by decide +kernel
theorem dX6_about_168 : decode cX6_about 168 = .ok (.iconst 4, 1) := by decide +kernel
theorem dX6_about_169 : decode cX6_about 169 = .ok (.iaload, 1) := by decide +kernel
theorem dX6_about_170 : decode cX6_about 170 = .ok (.ireturn, 1) := by decide +kernel
theorem dX6_about_171 : decode cX6_about 171 = .ok (.aload_n 0, 1) := by decide +kernel
theorem dX6_about_172 : decode cX6_about 172 = .ok (.getfield 10, 3) := by decide +kernel
theorem dX6_about_175 : decode cX6_about 175 = .ok (.getfield 97, 3) := by decide +kernel
theorem dX6_about_178 : decode cX6_about 178 = .ok (.iconst 5, 1) := by decide +kernel
theorem dX6_about_179 : decode cX6_about 179 = .ok (.iaload, 1) := by decide +kernel
theorem dX6_about_180 : decode cX6_about 180 = .ok (.ireturn, 1) := by decide +kernel
theorem dX6_about_181 : decode cX6_about 181 = .ok (.aload_n 0, 1) := by decide +kernel
theorem dX6_about_182 : decode cX6_about 182 = .ok (.getfield 10, 3) := by decide +kernel
theorem dX6_about_185 : decode cX6_about 185 = .ok (.getfield 97, 3) := by decide +kernel
theorem dX6_about_188 : decode cX6_about 188 = .ok (.bipush 6, 2) := by decide +kernel
theorem dX6_about_190 : decode cX6_about 190 = .ok (.iaload, 1) := by decide +kernel
theorem dX6_about_191 : decode cX6_about 191 = .ok (.ireturn, 1) := by decide +kernel
theorem dX6_about_192 : decode cX6_about 192 = .ok (.aload_n 0, 1) := by decide +kernel
theorem dX6_about_193 : decode cX6_about 193 = .ok (.getfield 10, 3) := by decide +kernel
theorem dX6_about_196 : decode cX6_about 196 = .ok (.getfield 97, 3) := by decide +kernel
theorem dX6_about_199 : decode cX6_about 199 = .ok (.bipush 7, 2) := by decide +kernel
theorem dX6_about_201 : decode cX6_about 201 = .ok (.iaload, 1) := by decide +kernel
theorem dX6_about_202 : decode cX6_about 202 = .ok (.ireturn, 1) := by decide +kernel
theorem dX6_about_203 : decode cX6_about 203 = .ok (.new 110, 3) := by decide +kernel
theorem dX6_about_206 : decode cX6_about 206 = .ok (.dup, 1) := by decide +kernel
theorem dX6_about_207 : decode cX6_about 207 = .ok (.ldc 112, 2) := by decide +kernel
theorem dX6_about_209 : decode cX6_about 209 = .ok (.invokespecial 114, 3) := by decide +kernel
theorem dX6_about_212 : decode cX6_about 212 = .ok (.athrow, 1) := by decide +kernel
theorem dX6_ownerOf_0 : decode cX6_ownerOf 0 = .ok (.aload_n 0, 1) := by decide +kernel
theorem dX6_ownerOf_1 : decode cX6_ownerOf 1 = .ok (.iload_n 1, 1) := by decide +kernel
theorem dX6_ownerOf_2 : decode cX6_ownerOf 2 = .ok (.invokevirtual 115, 3) := by decide +kernel
theorem dX6_ownerOf_5 : decode cX6_ownerOf 5 = .ok (.iload_n 2, 1) := by decide +kernel
theorem dX6_ownerOf_6 : decode cX6_ownerOf 6 = .ok (.tableswitch 109 0 6 #[42, 52, 62, 71, 81, 91, 100], 42) := by decide +kernel
theorem dX6_ownerOf_48 : decode cX6_ownerOf 48 = .ok (.aload_n 0, 1) := by decide +kernel
theorem dX6_ownerOf_49 : decode cX6_ownerOf 49 = .ok (.getfield 10, 3) := by decide +kernel
theorem dX6_ownerOf_52 : decode cX6_ownerOf 52 = .ok (.getfield 119, 3) := by decide +kernel
theorem dX6_ownerOf_55 : decode cX6_ownerOf 55 = .ok (.iload_n 1, 1) := by decide +kernel
theorem dX6_ownerOf_56 : decode cX6_ownerOf 56 = .ok (.iaload, 1) := by decide +kernel
theorem dX6_ownerOf_57 : decode cX6_ownerOf 57 = .ok (.ireturn, 1) := by decide +kernel
theorem dX6_ownerOf_58 : decode cX6_ownerOf 58 = .ok (.aload_n 0, 1) := by decide +kernel
theorem dX6_ownerOf_59 : decode cX6_ownerOf 59 = .ok (.getfield 10, 3) := by decide +kernel
theorem dX6_ownerOf_62 : decode cX6_ownerOf 62 = .ok (.getfield 122, 3) := by decide +kernel
theorem dX6_ownerOf_65 : decode cX6_ownerOf 65 = .ok (.iload_n 1, 1) := by decide +kernel
theorem dX6_ownerOf_66 : decode cX6_ownerOf 66 = .ok (.iaload, 1) := by decide +kernel
theorem dX6_ownerOf_67 : decode cX6_ownerOf 67 = .ok (.ireturn, 1) := by decide +kernel
theorem dX6_ownerOf_68 : decode cX6_ownerOf 68 = .ok (.aload_n 0, 1) := by decide +kernel
theorem dX6_ownerOf_69 : decode cX6_ownerOf 69 = .ok (.getfield 10, 3) := by decide +kernel
theorem dX6_ownerOf_72 : decode cX6_ownerOf 72 = .ok (.iload_n 1, 1) := by decide +kernel
theorem dX6_ownerOf_73 : decode cX6_ownerOf 73 = .ok (.invokevirtual 93, 3) := by decide +kernel
theorem dX6_ownerOf_76 : decode cX6_ownerOf 76 = .ok (.ireturn, 1) := by decide +kernel
theorem dX6_ownerOf_77 : decode cX6_ownerOf 77 = .ok (.aload_n 0, 1) := by decide +kernel
theorem dX6_ownerOf_78 : decode cX6_ownerOf 78 = .ok (.getfield 10, 3) := by decide +kernel
theorem dX6_ownerOf_81 : decode cX6_ownerOf 81 = .ok (.getfield 125, 3) := by decide +kernel
theorem dX6_ownerOf_84 : decode cX6_ownerOf 84 = .ok (.iload_n 1, 1) := by decide +kernel
theorem dX6_ownerOf_85 : decode cX6_ownerOf 85 = .ok (.iaload, 1) := by decide +kernel
theorem dX6_ownerOf_86 : decode cX6_ownerOf 86 = .ok (.ireturn, 1) := by decide +kernel
theorem dX6_ownerOf_87 : decode cX6_ownerOf 87 = .ok (.aload_n 0, 1) := by decide +kernel
theorem dX6_ownerOf_88 : decode cX6_ownerOf 88 = .ok (.getfield 10, 3) := by decide +kernel
theorem dX6_ownerOf_91 : decode cX6_ownerOf 91 = .ok (.getfield 128, 3) := by decide +kernel
theorem dX6_ownerOf_94 : decode cX6_ownerOf 94 = .ok (.iload_n 1, 1) := by decide +kernel
theorem dX6_ownerOf_95 : decode cX6_ownerOf 95 = .ok (.iaload, 1) := by decide +kernel
theorem dX6_ownerOf_96 : decode cX6_ownerOf 96 = .ok (.ireturn, 1) := by decide +kernel
theorem dX6_ownerOf_97 : decode cX6_ownerOf 97 = .ok (.aload_n 0, 1) := by decide +kernel
theorem dX6_ownerOf_98 : decode cX6_ownerOf 98 = .ok (.getfield 10, 3) := by decide +kernel
theorem dX6_ownerOf_101 : decode cX6_ownerOf 101 = .ok (.iload_n 1, 1) := by decide +kernel
theorem dX6_ownerOf_102 : decode cX6_ownerOf 102 = .ok (.invokevirtual 131, 3) := by decide +kernel
theorem dX6_ownerOf_105 : decode cX6_ownerOf 105 = .ok (.ireturn, 1) := by decide +kernel
theorem dX6_ownerOf_106 : decode cX6_ownerOf 106 = .ok (.aload_n 0, 1) := by decide +kernel
theorem dX6_ownerOf_107 : decode cX6_ownerOf 107 = .ok (.getfield 10, 3) := by decide +kernel
theorem dX6_ownerOf_110 : decode cX6_ownerOf 110 = .ok (.iload_n 1, 1) := by decide +kernel
theorem dX6_ownerOf_111 : decode cX6_ownerOf 111 = .ok (.invokevirtual 134, 3) := by decide +kernel
theorem dX6_ownerOf_114 : decode cX6_ownerOf 114 = .ok (.ireturn, 1) := by decide +kernel
theorem dX6_ownerOf_115 : decode cX6_ownerOf 115 = .ok (.new 110, 3) := by decide +kernel
theorem dX6_ownerOf_118 : decode cX6_ownerOf 118 = .ok (.dup, 1) := by decide +kernel
theorem dX6_ownerOf_119 : decode cX6_ownerOf 119 = .ok (.ldc 137, 2) := by decide +kernel
theorem dX6_ownerOf_121 : decode cX6_ownerOf 121 = .ok (.invokespecial 114, 3) := by decide +kernel
theorem dX6_ownerOf_124 : decode cX6_ownerOf 124 = .ok (.athrow, 1) := by decide +kernel
theorem dX6_weekOf_0 : decode cX6_weekOf 0 = .ok (.aload_n 0, 1) := by decide +kernel
theorem dX6_weekOf_1 : decode cX6_weekOf 1 = .ok (.iload_n 1, 1) := by decide +kernel
theorem dX6_weekOf_2 : decode cX6_weekOf 2 = .ok (.invokevirtual 139, 3) := by decide +kernel
theorem dX6_weekOf_5 : decode cX6_weekOf 5 = .ok (.iload_n 2, 1) := by decide +kernel
theorem dX6_weekOf_6 : decode cX6_weekOf 6 = .ok (.tableswitch 90 0 4 #[34, 44, 62, 72, 81], 34) := by decide +kernel
theorem dX6_weekOf_40 : decode cX6_weekOf 40 = .ok (.aload_n 0, 1) := by decide +kernel
theorem dX6_weekOf_41 : decode cX6_weekOf 41 = .ok (.getfield 10, 3) := by decide +kernel
theorem dX6_weekOf_44 : decode cX6_weekOf 44 = .ok (.getfield 142, 3) := by decide +kernel
theorem dX6_weekOf_47 : decode cX6_weekOf 47 = .ok (.iload_n 1, 1) := by decide +kernel
theorem dX6_weekOf_48 : decode cX6_weekOf 48 = .ok (.iaload, 1) := by decide +kernel
theorem dX6_weekOf_49 : decode cX6_weekOf 49 = .ok (.ireturn, 1) := by decide +kernel
theorem dX6_weekOf_50 : decode cX6_weekOf 50 = .ok (.aload_n 0, 1) := by decide +kernel
theorem dX6_weekOf_51 : decode cX6_weekOf 51 = .ok (.getfield 10, 3) := by decide +kernel
theorem dX6_weekOf_54 : decode cX6_weekOf 54 = .ok (.getfield 145, 3) := by decide +kernel
theorem dX6_weekOf_57 : decode cX6_weekOf 57 = .ok (.iload_n 1, 1) := by decide +kernel
theorem dX6_weekOf_58 : decode cX6_weekOf 58 = .ok (.baload, 1) := by decide +kernel
theorem dX6_weekOf_59 : decode cX6_weekOf 59 = .ok (.ifCond .eq 7, 3) := by decide +kernel
theorem dX6_weekOf_62 : decode cX6_weekOf 62 = .ok (.iconst 1, 1) := by decide +kernel
theorem dX6_weekOf_63 : decode cX6_weekOf 63 = .ok (.goto 4, 3) := by decide +kernel
theorem dX6_weekOf_66 : decode cX6_weekOf 66 = .ok (.iconst 0, 1) := by decide +kernel
theorem dX6_weekOf_67 : decode cX6_weekOf 67 = .ok (.ireturn, 1) := by decide +kernel
theorem dX6_weekOf_68 : decode cX6_weekOf 68 = .ok (.aload_n 0, 1) := by decide +kernel
theorem dX6_weekOf_69 : decode cX6_weekOf 69 = .ok (.getfield 10, 3) := by decide +kernel
theorem dX6_weekOf_72 : decode cX6_weekOf 72 = .ok (.getfield 148, 3) := by decide +kernel
theorem dX6_weekOf_75 : decode cX6_weekOf 75 = .ok (.iload_n 1, 1) := by decide +kernel
theorem dX6_weekOf_76 : decode cX6_weekOf 76 = .ok (.iaload, 1) := by decide +kernel
theorem dX6_weekOf_77 : decode cX6_weekOf 77 = .ok (.ireturn, 1) := by decide +kernel
theorem dX6_weekOf_78 : decode cX6_weekOf 78 = .ok (.aload_n 0, 1) := by decide +kernel
theorem dX6_weekOf_79 : decode cX6_weekOf 79 = .ok (.getfield 10, 3) := by decide +kernel
theorem dX6_weekOf_82 : decode cX6_weekOf 82 = .ok (.iload_n 1, 1) := by decide +kernel
theorem dX6_weekOf_83 : decode cX6_weekOf 83 = .ok (.invokevirtual 151, 3) := by decide +kernel
theorem dX6_weekOf_86 : decode cX6_weekOf 86 = .ok (.ireturn, 1) := by decide +kernel
theorem dX6_weekOf_87 : decode cX6_weekOf 87 = .ok (.aload_n 0, 1) := by decide +kernel
theorem dX6_weekOf_88 : decode cX6_weekOf 88 = .ok (.getfield 10, 3) := by decide +kernel
theorem dX6_weekOf_91 : decode cX6_weekOf 91 = .ok (.iload_n 1, 1) := by decide +kernel
theorem dX6_weekOf_92 : decode cX6_weekOf 92 = .ok (.invokevirtual 154, 3) := by decide +kernel
theorem dX6_weekOf_95 : decode cX6_weekOf 95 = .ok (.ireturn, 1) := by decide +kernel
theorem dX6_weekOf_96 : decode cX6_weekOf 96 = .ok (.new 110, 3) := by decide +kernel
theorem dX6_weekOf_99 : decode cX6_weekOf 99 = .ok (.dup, 1) := by decide +kernel
theorem dX6_weekOf_100 : decode cX6_weekOf 100 = .ok (.ldc 157, 2) := by decide +kernel
theorem dX6_weekOf_102 : decode cX6_weekOf 102 = .ok (.invokespecial 114, 3) := by decide +kernel
theorem dX6_weekOf_105 : decode cX6_weekOf 105 = .ok (.athrow, 1) := by decide +kernel
theorem dX6_bidOf_0 : decode cX6_bidOf 0 = .ok (.aload_n 0, 1) := by decide +kernel
theorem dX6_bidOf_1 : decode cX6_bidOf 1 = .ok (.iload_n 1, 1) := by decide +kernel
theorem dX6_bidOf_2 : decode cX6_bidOf 2 = .ok (.invokevirtual 115, 3) := by decide +kernel
theorem dX6_bidOf_5 : decode cX6_bidOf 5 = .ok (.aload_n 0, 1) := by decide +kernel
theorem dX6_bidOf_6 : decode cX6_bidOf 6 = .ok (.iload_n 2, 1) := by decide +kernel
theorem dX6_bidOf_7 : decode cX6_bidOf 7 = .ok (.invokevirtual 139, 3) := by decide +kernel
theorem dX6_bidOf_10 : decode cX6_bidOf 10 = .ok (.aload_n 0, 1) := by decide +kernel
theorem dX6_bidOf_11 : decode cX6_bidOf 11 = .ok (.getfield 10, 3) := by decide +kernel
theorem dX6_bidOf_14 : decode cX6_bidOf 14 = .ok (.iload_n 1, 1) := by decide +kernel
theorem dX6_bidOf_15 : decode cX6_bidOf 15 = .ok (.iload_n 2, 1) := by decide +kernel
theorem dX6_bidOf_16 : decode cX6_bidOf 16 = .ok (.invokevirtual 159, 3) := by decide +kernel
theorem dX6_bidOf_19 : decode cX6_bidOf 19 = .ok (.ireturn, 1) := by decide +kernel
theorem dX6_offerOf_0 : decode cX6_offerOf 0 = .ok (.aload_n 0, 1) := by decide +kernel
theorem dX6_offerOf_1 : decode cX6_offerOf 1 = .ok (.iload_n 1, 1) := by decide +kernel
theorem dX6_offerOf_2 : decode cX6_offerOf 2 = .ok (.invokevirtual 163, 3) := by decide +kernel
theorem dX6_offerOf_5 : decode cX6_offerOf 5 = .ok (.iload_n 2, 1) := by decide +kernel
theorem dX6_offerOf_6 : decode cX6_offerOf 6 = .ok (.tableswitch 103 0 3 #[30, 40, 50, 60], 30) := by decide +kernel
theorem dX6_offerOf_36 : decode cX6_offerOf 36 = .ok (.aload_n 0, 1) := by decide +kernel
theorem dX6_offerOf_37 : decode cX6_offerOf 37 = .ok (.getfield 10, 3) := by decide +kernel
theorem dX6_offerOf_40 : decode cX6_offerOf 40 = .ok (.getfield 166, 3) := by decide +kernel
theorem dX6_offerOf_43 : decode cX6_offerOf 43 = .ok (.iload_n 1, 1) := by decide +kernel
theorem dX6_offerOf_44 : decode cX6_offerOf 44 = .ok (.iaload, 1) := by decide +kernel
theorem dX6_offerOf_45 : decode cX6_offerOf 45 = .ok (.ireturn, 1) := by decide +kernel
theorem dX6_offerOf_46 : decode cX6_offerOf 46 = .ok (.aload_n 0, 1) := by decide +kernel
theorem dX6_offerOf_47 : decode cX6_offerOf 47 = .ok (.getfield 10, 3) := by decide +kernel
theorem dX6_offerOf_50 : decode cX6_offerOf 50 = .ok (.getfield 169, 3) := by decide +kernel
theorem dX6_offerOf_53 : decode cX6_offerOf 53 = .ok (.iload_n 1, 1) := by decide +kernel
theorem dX6_offerOf_54 : decode cX6_offerOf 54 = .ok (.iaload, 1) := by decide +kernel
theorem dX6_offerOf_55 : decode cX6_offerOf 55 = .ok (.ireturn, 1) := by decide +kernel
theorem dX6_offerOf_56 : decode cX6_offerOf 56 = .ok (.aload_n 0, 1) := by decide +kernel
theorem dX6_offerOf_57 : decode cX6_offerOf 57 = .ok (.getfield 10, 3) := by decide +kernel
theorem dX6_offerOf_60 : decode cX6_offerOf 60 = .ok (.getfield 172, 3) := by decide +kernel
theorem dX6_offerOf_63 : decode cX6_offerOf 63 = .ok (.iload_n 1, 1) := by decide +kernel
theorem dX6_offerOf_64 : decode cX6_offerOf 64 = .ok (.iaload, 1) := by decide +kernel
theorem dX6_offerOf_65 : decode cX6_offerOf 65 = .ok (.ireturn, 1) := by decide +kernel
theorem dX6_offerOf_66 : decode cX6_offerOf 66 = .ok (.aload_n 0, 1) := by decide +kernel
theorem dX6_offerOf_67 : decode cX6_offerOf 67 = .ok (.getfield 10, 3) := by decide +kernel
theorem dX6_offerOf_70 : decode cX6_offerOf 70 = .ok (.aload_n 0, 1) := by decide +kernel
theorem dX6_offerOf_71 : decode cX6_offerOf 71 = .ok (.getfield 10, 3) := by decide +kernel
theorem dX6_offerOf_74 : decode cX6_offerOf 74 = .ok (.getfield 166, 3) := by decide +kernel
theorem dX6_offerOf_77 : decode cX6_offerOf 77 = .ok (.iload_n 1, 1) := by decide +kernel
theorem dX6_offerOf_78 : decode cX6_offerOf 78 = .ok (.iaload, 1) := by decide +kernel
theorem dX6_offerOf_79 : decode cX6_offerOf 79 = .ok (.aload_n 0, 1) := by decide +kernel
theorem dX6_offerOf_80 : decode cX6_offerOf 80 = .ok (.getfield 10, 3) := by decide +kernel
theorem dX6_offerOf_83 : decode cX6_offerOf 83 = .ok (.getfield 169, 3) := by decide +kernel
theorem dX6_offerOf_86 : decode cX6_offerOf 86 = .ok (.iload_n 1, 1) := by decide +kernel
theorem dX6_offerOf_87 : decode cX6_offerOf 87 = .ok (.iaload, 1) := by decide +kernel
theorem dX6_offerOf_88 : decode cX6_offerOf 88 = .ok (.aload_n 0, 1) := by decide +kernel
theorem dX6_offerOf_89 : decode cX6_offerOf 89 = .ok (.getfield 10, 3) := by decide +kernel
theorem dX6_offerOf_92 : decode cX6_offerOf 92 = .ok (.getfield 172, 3) := by decide +kernel
theorem dX6_offerOf_95 : decode cX6_offerOf 95 = .ok (.iload_n 1, 1) := by decide +kernel
theorem dX6_offerOf_96 : decode cX6_offerOf 96 = .ok (.iaload, 1) := by decide +kernel
theorem dX6_offerOf_97 : decode cX6_offerOf 97 = .ok (.invokevirtual 175, 3) := by decide +kernel
theorem dX6_offerOf_100 : decode cX6_offerOf 100 = .ok (.ifCond .eq 7, 3) := by decide +kernel
theorem dX6_offerOf_103 : decode cX6_offerOf 103 = .ok (.iconst 0, 1) := by decide +kernel
theorem dX6_offerOf_104 : decode cX6_offerOf 104 = .ok (.goto 4, 3) := by decide +kernel
theorem dX6_offerOf_107 : decode cX6_offerOf 107 = .ok (.iconst 1, 1) := by decide +kernel
theorem dX6_offerOf_108 : decode cX6_offerOf 108 = .ok (.ireturn, 1) := by decide +kernel
theorem dX6_offerOf_109 : decode cX6_offerOf 109 = .ok (.new 110, 3) := by decide +kernel
theorem dX6_offerOf_112 : decode cX6_offerOf 112 = .ok (.dup, 1) := by decide +kernel
theorem dX6_offerOf_113 : decode cX6_offerOf 113 = .ok (.ldc 179, 2) := by decide +kernel
theorem dX6_offerOf_115 : decode cX6_offerOf 115 = .ok (.invokespecial 114, 3) := by decide +kernel
theorem dX6_offerOf_118 : decode cX6_offerOf 118 = .ok (.athrow, 1) := by decide +kernel
theorem dX6_owner_0 : decode cX6_owner 0 = .ok (.aload_n 0, 1) := by decide +kernel
theorem dX6_owner_1 : decode cX6_owner 1 = .ok (.iload_n 1, 1) := by decide +kernel
theorem dX6_owner_2 : decode cX6_owner 2 = .ok (.iconst 1, 1) := by decide +kernel
theorem dX6_owner_3 : decode cX6_owner 3 = .ok (.bipush 9, 2) := by decide +kernel
theorem dX6_owner_5 : decode cX6_owner 5 = .ok (.invokevirtual 48, 3) := by decide +kernel
theorem dX6_owner_8 : decode cX6_owner 8 = .ok (.aload_n 0, 1) := by decide +kernel
theorem dX6_owner_9 : decode cX6_owner 9 = .ok (.getfield 10, 3) := by decide +kernel
theorem dX6_owner_12 : decode cX6_owner 12 = .ok (.getfield 86, 3) := by decide +kernel
theorem dX6_owner_15 : decode cX6_owner 15 = .ok (.bipush 6, 2) := by decide +kernel
theorem dX6_owner_17 : decode cX6_owner 17 = .ok (.if_icmp .lt 13, 3) := by decide +kernel
theorem dX6_owner_20 : decode cX6_owner 20 = .ok (.new 56, 3) := by decide +kernel
theorem dX6_owner_23 : decode cX6_owner 23 = .ok (.dup, 1) := by decide +kernel
theorem dX6_owner_24 : decode cX6_owner 24 = .ok (.ldc 181, 2) := by decide +kernel
theorem dX6_owner_26 : decode cX6_owner 26 = .ok (.invokespecial 60, 3) := by decide +kernel
theorem dX6_owner_29 : decode cX6_owner 29 = .ok (.athrow, 1) := by decide +kernel
theorem dX6_owner_30 : decode cX6_owner 30 = .ok (.aload_n 0, 1) := by decide +kernel
theorem dX6_owner_31 : decode cX6_owner 31 = .ok (.getfield 22, 3) := by decide +kernel
theorem dX6_owner_34 : decode cX6_owner 34 = .ok (.aload_n 0, 1) := by decide +kernel
theorem dX6_owner_35 : decode cX6_owner 35 = .ok (.getfield 10, 3) := by decide +kernel
theorem dX6_owner_38 : decode cX6_owner 38 = .ok (.invokevirtual 183, 3) := by decide +kernel
theorem dX6_owner_41 : decode cX6_owner 41 = .ok (.aload_n 0, 1) := by decide +kernel
theorem dX6_owner_42 : decode cX6_owner 42 = .ok (.getfield 10, 3) := by decide +kernel
theorem dX6_owner_45 : decode cX6_owner 45 = .ok (.iload_n 1, 1) := by decide +kernel
theorem dX6_owner_46 : decode cX6_owner 46 = .ok (.invokevirtual 187, 3) := by decide +kernel
theorem dX6_owner_49 : decode cX6_owner 49 = .ok (.ireturn, 1) := by decide +kernel
theorem dX6_cost_0 : decode cX6_cost 0 = .ok (.aload_n 0, 1) := by decide +kernel
theorem dX6_cost_1 : decode cX6_cost 1 = .ok (.iload_n 1, 1) := by decide +kernel
theorem dX6_cost_2 : decode cX6_cost 2 = .ok (.invokevirtual 139, 3) := by decide +kernel
theorem dX6_cost_5 : decode cX6_cost 5 = .ok (.aload_n 0, 1) := by decide +kernel
theorem dX6_cost_6 : decode cX6_cost 6 = .ok (.iload_n 2, 1) := by decide +kernel
theorem dX6_cost_7 : decode cX6_cost 7 = .ok (.iconst 1, 1) := by decide +kernel
theorem dX6_cost_8 : decode cX6_cost 8 = .ok (.bipush 9, 2) := by decide +kernel
theorem dX6_cost_10 : decode cX6_cost 10 = .ok (.invokevirtual 48, 3) := by decide +kernel
theorem dX6_cost_13 : decode cX6_cost 13 = .ok (.aload_n 0, 1) := by decide +kernel
theorem dX6_cost_14 : decode cX6_cost 14 = .ok (.getfield 22, 3) := by decide +kernel
theorem dX6_cost_17 : decode cX6_cost 17 = .ok (.aload_n 0, 1) := by decide +kernel
theorem dX6_cost_18 : decode cX6_cost 18 = .ok (.getfield 10, 3) := by decide +kernel
theorem dX6_cost_21 : decode cX6_cost 21 = .ok (.invokevirtual 183, 3) := by decide +kernel
theorem dX6_cost_24 : decode cX6_cost 24 = .ok (.aload_n 0, 1) := by decide +kernel
theorem dX6_cost_25 : decode cX6_cost 25 = .ok (.getfield 10, 3) := by decide +kernel
theorem dX6_cost_28 : decode cX6_cost 28 = .ok (.iload_n 1, 1) := by decide +kernel
theorem dX6_cost_29 : decode cX6_cost 29 = .ok (.iload_n 2, 1) := by decide +kernel
theorem dX6_cost_30 : decode cX6_cost 30 = .ok (.invokevirtual 190, 3) := by decide +kernel
theorem dX6_cost_33 : decode cX6_cost 33 = .ok (.ireturn, 1) := by decide +kernel
theorem dX6_school_0 : decode cX6_school 0 = .ok (.aload_n 0, 1) := by decide +kernel
theorem dX6_school_1 : decode cX6_school 1 = .ok (.iload_n 1, 1) := by decide +kernel
theorem dX6_school_2 : decode cX6_school 2 = .ok (.invokevirtual 139, 3) := by decide +kernel
theorem dX6_school_5 : decode cX6_school 5 = .ok (.aload_n 0, 1) := by decide +kernel
theorem dX6_school_6 : decode cX6_school 6 = .ok (.getfield 22, 3) := by decide +kernel
theorem dX6_school_9 : decode cX6_school 9 = .ok (.aload_n 0, 1) := by decide +kernel
theorem dX6_school_10 : decode cX6_school 10 = .ok (.getfield 10, 3) := by decide +kernel
theorem dX6_school_13 : decode cX6_school 13 = .ok (.invokevirtual 183, 3) := by decide +kernel
theorem dX6_school_16 : decode cX6_school 16 = .ok (.aload_n 0, 1) := by decide +kernel
theorem dX6_school_17 : decode cX6_school 17 = .ok (.getfield 10, 3) := by decide +kernel
theorem dX6_school_20 : decode cX6_school 20 = .ok (.iload_n 1, 1) := by decide +kernel
theorem dX6_school_21 : decode cX6_school 21 = .ok (.iload_n 2, 1) := by decide +kernel
theorem dX6_school_22 : decode cX6_school 22 = .ok (.invokevirtual 193, 3) := by decide +kernel
theorem dX6_school_25 : decode cX6_school 25 = .ok (.ireturn, 1) := by decide +kernel
theorem dX6_take_0 : decode cX6_take 0 = .ok (.aload_n 0, 1) := by decide +kernel
theorem dX6_take_1 : decode cX6_take 1 = .ok (.iload_n 1, 1) := by decide +kernel
theorem dX6_take_2 : decode cX6_take 2 = .ok (.invokevirtual 115, 3) := by decide +kernel
theorem dX6_take_5 : decode cX6_take 5 = .ok (.aload_n 0, 1) := by decide +kernel
theorem dX6_take_6 : decode cX6_take 6 = .ok (.iload_n 2, 1) := by decide +kernel
theorem dX6_take_7 : decode cX6_take 7 = .ok (.invokevirtual 139, 3) := by decide +kernel
theorem dX6_take_10 : decode cX6_take 10 = .ok (.aload_n 0, 1) := by decide +kernel
theorem dX6_take_11 : decode cX6_take 11 = .ok (.getfield 22, 3) := by decide +kernel
theorem dX6_take_14 : decode cX6_take 14 = .ok (.aload_n 0, 1) := by decide +kernel
theorem dX6_take_15 : decode cX6_take 15 = .ok (.getfield 10, 3) := by decide +kernel
theorem dX6_take_18 : decode cX6_take 18 = .ok (.invokevirtual 183, 3) := by decide +kernel
theorem dX6_take_21 : decode cX6_take 21 = .ok (.aload_n 0, 1) := by decide +kernel
theorem dX6_take_22 : decode cX6_take 22 = .ok (.getfield 10, 3) := by decide +kernel
theorem dX6_take_25 : decode cX6_take 25 = .ok (.iload_n 1, 1) := by decide +kernel
theorem dX6_take_26 : decode cX6_take 26 = .ok (.iload_n 2, 1) := by decide +kernel
theorem dX6_take_27 : decode cX6_take 27 = .ok (.invokevirtual 197, 3) := by decide +kernel
theorem dX6_take_30 : decode cX6_take 30 = .ok (.ireturn, 1) := by decide +kernel
theorem dX6_release_0 : decode cX6_release 0 = .ok (.aload_n 0, 1) := by decide +kernel
theorem dX6_release_1 : decode cX6_release 1 = .ok (.iload_n 1, 1) := by decide +kernel
theorem dX6_release_2 : decode cX6_release 2 = .ok (.invokevirtual 115, 3) := by decide +kernel
theorem dX6_release_5 : decode cX6_release 5 = .ok (.aload_n 0, 1) := by decide +kernel
theorem dX6_release_6 : decode cX6_release 6 = .ok (.iload_n 2, 1) := by decide +kernel
theorem dX6_release_7 : decode cX6_release 7 = .ok (.invokevirtual 139, 3) := by decide +kernel
theorem dX6_release_10 : decode cX6_release 10 = .ok (.aload_n 0, 1) := by decide +kernel
theorem dX6_release_11 : decode cX6_release 11 = .ok (.getfield 10, 3) := by decide +kernel
theorem dX6_release_14 : decode cX6_release 14 = .ok (.iload_n 1, 1) := by decide +kernel
theorem dX6_release_15 : decode cX6_release 15 = .ok (.iload_n 2, 1) := by decide +kernel
theorem dX6_release_16 : decode cX6_release 16 = .ok (.invokevirtual 200, 3) := by decide +kernel
theorem dX6_release_19 : decode cX6_release 19 = .ok (.ifCond .ne 13, 3) := by decide +kernel
theorem dX6_release_22 : decode cX6_release 22 = .ok (.new 56, 3) := by decide +kernel
theorem dX6_release_25 : decode cX6_release 25 = .ok (.dup, 1) := by decide +kernel
theorem dX6_release_26 : decode cX6_release 26 = .ok (.ldc 204, 2) := by decide +kernel
theorem dX6_release_28 : decode cX6_release 28 = .ok (.invokespecial 60, 3) := by decide +kernel
theorem dX6_release_31 : decode cX6_release 31 = .ok (.athrow, 1) := by decide +kernel
theorem dX6_release_32 : decode cX6_release 32 = .ok (.aload_n 0, 1) := by decide +kernel
theorem dX6_release_33 : decode cX6_release 33 = .ok (.getfield 22, 3) := by decide +kernel
theorem dX6_release_36 : decode cX6_release 36 = .ok (.aload_n 0, 1) := by decide +kernel
theorem dX6_release_37 : decode cX6_release 37 = .ok (.getfield 10, 3) := by decide +kernel
theorem dX6_release_40 : decode cX6_release 40 = .ok (.invokevirtual 183, 3) := by decide +kernel
theorem dX6_release_43 : decode cX6_release 43 = .ok (.aload_n 0, 1) := by decide +kernel
theorem dX6_release_44 : decode cX6_release 44 = .ok (.getfield 10, 3) := by decide +kernel
theorem dX6_release_47 : decode cX6_release 47 = .ok (.iload_n 1, 1) := by decide +kernel
theorem dX6_release_48 : decode cX6_release 48 = .ok (.iload_n 2, 1) := by decide +kernel
theorem dX6_release_49 : decode cX6_release 49 = .ok (.invokevirtual 206, 3) := by decide +kernel
theorem dX6_release_52 : decode cX6_release 52 = .ok (.ireturn, 1) := by decide +kernel
theorem dX6_bid_0 : decode cX6_bid 0 = .ok (.aload_n 0, 1) := by decide +kernel
theorem dX6_bid_1 : decode cX6_bid 1 = .ok (.iload_n 1, 1) := by decide +kernel
theorem dX6_bid_2 : decode cX6_bid 2 = .ok (.invokevirtual 115, 3) := by decide +kernel
theorem dX6_bid_5 : decode cX6_bid 5 = .ok (.aload_n 0, 1) := by decide +kernel
theorem dX6_bid_6 : decode cX6_bid 6 = .ok (.iload_n 2, 1) := by decide +kernel
theorem dX6_bid_7 : decode cX6_bid 7 = .ok (.invokevirtual 139, 3) := by decide +kernel
theorem dX6_bid_10 : decode cX6_bid 10 = .ok (.aload_n 0, 1) := by decide +kernel
theorem dX6_bid_11 : decode cX6_bid 11 = .ok (.iload_n 3, 1) := by decide +kernel
theorem dX6_bid_12 : decode cX6_bid 12 = .ok (.iconst 0, 1) := by decide +kernel
theorem dX6_bid_13 : decode cX6_bid 13 = .ok (.bipush 20, 2) := by decide +kernel
theorem dX6_bid_15 : decode cX6_bid 15 = .ok (.invokevirtual 48, 3) := by decide +kernel
theorem dX6_bid_18 : decode cX6_bid 18 = .ok (.aload_n 0, 1) := by decide +kernel
theorem dX6_bid_19 : decode cX6_bid 19 = .ok (.getfield 10, 3) := by decide +kernel
theorem dX6_bid_22 : decode cX6_bid 22 = .ok (.iload_n 2, 1) := by decide +kernel
theorem dX6_bid_23 : decode cX6_bid 23 = .ok (.invokevirtual 209, 3) := by decide +kernel
theorem dX6_bid_26 : decode cX6_bid 26 = .ok (.ifCond .ne 13, 3) := by decide +kernel
theorem dX6_bid_29 : decode cX6_bid 29 = .ok (.new 56, 3) := by decide +kernel
theorem dX6_bid_32 : decode cX6_bid 32 = .ok (.dup, 1) := by decide +kernel
theorem dX6_bid_33 : decode cX6_bid 33 = .ok (.ldc 213, 2) := by decide +kernel
theorem dX6_bid_35 : decode cX6_bid 35 = .ok (.invokespecial 60, 3) := by decide +kernel
theorem dX6_bid_38 : decode cX6_bid 38 = .ok (.athrow, 1) := by decide +kernel
theorem dX6_bid_39 : decode cX6_bid 39 = .ok (.aload_n 0, 1) := by decide +kernel
theorem dX6_bid_40 : decode cX6_bid 40 = .ok (.getfield 22, 3) := by decide +kernel
theorem dX6_bid_43 : decode cX6_bid 43 = .ok (.aload_n 0, 1) := by decide +kernel
theorem dX6_bid_44 : decode cX6_bid 44 = .ok (.getfield 10, 3) := by decide +kernel
theorem dX6_bid_47 : decode cX6_bid 47 = .ok (.invokevirtual 183, 3) := by decide +kernel
theorem dX6_bid_50 : decode cX6_bid 50 = .ok (.aload_n 0, 1) := by decide +kernel
theorem dX6_bid_51 : decode cX6_bid 51 = .ok (.getfield 10, 3) := by decide +kernel
theorem dX6_bid_54 : decode cX6_bid 54 = .ok (.iload_n 1, 1) := by decide +kernel
theorem dX6_bid_55 : decode cX6_bid 55 = .ok (.iload_n 2, 1) := by decide +kernel
theorem dX6_bid_56 : decode cX6_bid 56 = .ok (.iload_n 3, 1) := by decide +kernel
theorem dX6_bid_57 : decode cX6_bid 57 = .ok (.invokevirtual 215, 3) := by decide +kernel
theorem dX6_bid_60 : decode cX6_bid 60 = .ok (.ireturn, 1) := by decide +kernel
theorem dX6_settle_0 : decode cX6_settle 0 = .ok (.aload_n 0, 1) := by decide +kernel
theorem dX6_settle_1 : decode cX6_settle 1 = .ok (.getfield 22, 3) := by decide +kernel
theorem dX6_settle_4 : decode cX6_settle 4 = .ok (.aload_n 0, 1) := by decide +kernel
theorem dX6_settle_5 : decode cX6_settle 5 = .ok (.getfield 10, 3) := by decide +kernel
theorem dX6_settle_8 : decode cX6_settle 8 = .ok (.invokevirtual 183, 3) := by decide +kernel
theorem dX6_settle_11 : decode cX6_settle 11 = .ok (.aload_n 0, 1) := by decide +kernel
theorem dX6_settle_12 : decode cX6_settle 12 = .ok (.getfield 10, 3) := by decide +kernel
theorem dX6_settle_15 : decode cX6_settle 15 = .ok (.invokevirtual 219, 3) := by decide +kernel
theorem dX6_settle_18 : decode cX6_settle 18 = .ok (.ireturn, 1) := by decide +kernel
theorem dX6_offer_0 : decode cX6_offer 0 = .ok (.aload_n 0, 1) := by decide +kernel
theorem dX6_offer_1 : decode cX6_offer 1 = .ok (.iload_n 1, 1) := by decide +kernel
theorem dX6_offer_2 : decode cX6_offer 2 = .ok (.invokevirtual 115, 3) := by decide +kernel
theorem dX6_offer_5 : decode cX6_offer 5 = .ok (.aload_n 0, 1) := by decide +kernel
theorem dX6_offer_6 : decode cX6_offer 6 = .ok (.iload_n 2, 1) := by decide +kernel
theorem dX6_offer_7 : decode cX6_offer 7 = .ok (.invokevirtual 139, 3) := by decide +kernel
theorem dX6_offer_10 : decode cX6_offer 10 = .ok (.aload_n 0, 1) := by decide +kernel
theorem dX6_offer_11 : decode cX6_offer 11 = .ok (.iload_n 3, 1) := by decide +kernel
theorem dX6_offer_12 : decode cX6_offer 12 = .ok (.invokevirtual 139, 3) := by decide +kernel
theorem dX6_offer_15 : decode cX6_offer 15 = .ok (.aload_n 0, 1) := by decide +kernel
theorem dX6_offer_16 : decode cX6_offer 16 = .ok (.getfield 10, 3) := by decide +kernel
theorem dX6_offer_19 : decode cX6_offer 19 = .ok (.iload_n 1, 1) := by decide +kernel
theorem dX6_offer_20 : decode cX6_offer 20 = .ok (.iload_n 2, 1) := by decide +kernel
theorem dX6_offer_21 : decode cX6_offer 21 = .ok (.iload_n 3, 1) := by decide +kernel
theorem dX6_offer_22 : decode cX6_offer 22 = .ok (.invokevirtual 222, 3) := by decide +kernel
theorem dX6_offer_25 : decode cX6_offer 25 = .ok (.ifCond .ne 13, 3) := by decide +kernel
theorem dX6_offer_28 : decode cX6_offer 28 = .ok (.new 56, 3) := by decide +kernel
theorem dX6_offer_31 : decode cX6_offer 31 = .ok (.dup, 1) := by decide +kernel
theorem dX6_offer_32 : decode cX6_offer 32 = .ok (.ldc 225, 2) := by decide +kernel
theorem dX6_offer_34 : decode cX6_offer 34 = .ok (.invokespecial 60, 3) := by decide +kernel
theorem dX6_offer_37 : decode cX6_offer 37 = .ok (.athrow, 1) := by decide +kernel
theorem dX6_offer_38 : decode cX6_offer 38 = .ok (.aload_n 0, 1) := by decide +kernel
theorem dX6_offer_39 : decode cX6_offer 39 = .ok (.getfield 22, 3) := by decide +kernel
theorem dX6_offer_42 : decode cX6_offer 42 = .ok (.aload_n 0, 1) := by decide +kernel
theorem dX6_offer_43 : decode cX6_offer 43 = .ok (.getfield 10, 3) := by decide +kernel
theorem dX6_offer_46 : decode cX6_offer 46 = .ok (.invokevirtual 183, 3) := by decide +kernel
theorem dX6_offer_49 : decode cX6_offer 49 = .ok (.aload_n 0, 1) := by decide +kernel
theorem dX6_offer_50 : decode cX6_offer 50 = .ok (.getfield 10, 3) := by decide +kernel
theorem dX6_offer_53 : decode cX6_offer 53 = .ok (.iload_n 1, 1) := by decide +kernel
theorem dX6_offer_54 : decode cX6_offer 54 = .ok (.iload_n 2, 1) := by decide +kernel
theorem dX6_offer_55 : decode cX6_offer 55 = .ok (.iload_n 3, 1) := by decide +kernel
theorem dX6_offer_56 : decode cX6_offer 56 = .ok (.invokevirtual 227, 3) := by decide +kernel
theorem dX6_offer_59 : decode cX6_offer 59 = .ok (.ireturn, 1) := by decide +kernel
theorem dX6_accept_0 : decode cX6_accept 0 = .ok (.aload_n 0, 1) := by decide +kernel
theorem dX6_accept_1 : decode cX6_accept 1 = .ok (.iload_n 1, 1) := by decide +kernel
theorem dX6_accept_2 : decode cX6_accept 2 = .ok (.invokevirtual 163, 3) := by decide +kernel
theorem dX6_accept_5 : decode cX6_accept 5 = .ok (.aload_n 0, 1) := by decide +kernel
theorem dX6_accept_6 : decode cX6_accept 6 = .ok (.getfield 22, 3) := by decide +kernel
theorem dX6_accept_9 : decode cX6_accept 9 = .ok (.aload_n 0, 1) := by decide +kernel
theorem dX6_accept_10 : decode cX6_accept 10 = .ok (.getfield 10, 3) := by decide +kernel
theorem dX6_accept_13 : decode cX6_accept 13 = .ok (.invokevirtual 183, 3) := by decide +kernel
theorem dX6_accept_16 : decode cX6_accept 16 = .ok (.aload_n 0, 1) := by decide +kernel
theorem dX6_accept_17 : decode cX6_accept 17 = .ok (.getfield 10, 3) := by decide +kernel
theorem dX6_accept_20 : decode cX6_accept 20 = .ok (.iload_n 1, 1) := by decide +kernel
theorem dX6_accept_21 : decode cX6_accept 21 = .ok (.invokevirtual 230, 3) := by decide +kernel
theorem dX6_accept_24 : decode cX6_accept 24 = .ok (.ireturn, 1) := by decide +kernel
theorem dX6_upkeep_0 : decode cX6_upkeep 0 = .ok (.aload_n 0, 1) := by decide +kernel
theorem dX6_upkeep_1 : decode cX6_upkeep 1 = .ok (.iload_n 1, 1) := by decide +kernel
theorem dX6_upkeep_2 : decode cX6_upkeep 2 = .ok (.iconst 1, 1) := by decide +kernel
theorem dX6_upkeep_3 : decode cX6_upkeep 3 = .ok (.sipush 999, 3) := by decide +kernel
theorem dX6_upkeep_6 : decode cX6_upkeep 6 = .ok (.invokevirtual 48, 3) := by decide +kernel
theorem dX6_upkeep_9 : decode cX6_upkeep 9 = .ok (.aload_n 0, 1) := by decide +kernel
theorem dX6_upkeep_10 : decode cX6_upkeep 10 = .ok (.getfield 10, 3) := by decide +kernel
theorem dX6_upkeep_13 : decode cX6_upkeep 13 = .ok (.getfield 86, 3) := by decide +kernel
theorem dX6_upkeep_16 : decode cX6_upkeep 16 = .ok (.ifCond .ne 13, 3) := by decide +kernel
theorem dX6_upkeep_19 : decode cX6_upkeep 19 = .ok (.new 56, 3) := by decide +kernel
theorem dX6_upkeep_22 : decode cX6_upkeep 22 = .ok (.dup, 1) := by decide +kernel
theorem dX6_upkeep_23 : decode cX6_upkeep 23 = .ok (.ldc 233, 2) := by decide +kernel
theorem dX6_upkeep_25 : decode cX6_upkeep 25 = .ok (.invokespecial 60, 3) := by decide +kernel
theorem dX6_upkeep_28 : decode cX6_upkeep 28 = .ok (.athrow, 1) := by decide +kernel
theorem dX6_upkeep_29 : decode cX6_upkeep 29 = .ok (.aload_n 0, 1) := by decide +kernel
theorem dX6_upkeep_30 : decode cX6_upkeep 30 = .ok (.getfield 22, 3) := by decide +kernel
theorem dX6_upkeep_33 : decode cX6_upkeep 33 = .ok (.aload_n 0, 1) := by decide +kernel
theorem dX6_upkeep_34 : decode cX6_upkeep 34 = .ok (.getfield 10, 3) := by decide +kernel
theorem dX6_upkeep_37 : decode cX6_upkeep 37 = .ok (.invokevirtual 183, 3) := by decide +kernel
theorem dX6_upkeep_40 : decode cX6_upkeep 40 = .ok (.aload_n 0, 1) := by decide +kernel
theorem dX6_upkeep_41 : decode cX6_upkeep 41 = .ok (.getfield 10, 3) := by decide +kernel
theorem dX6_upkeep_44 : decode cX6_upkeep 44 = .ok (.iload_n 1, 1) := by decide +kernel
theorem dX6_upkeep_45 : decode cX6_upkeep 45 = .ok (.invokevirtual 235, 3) := by decide +kernel
theorem dX6_upkeep_48 : decode cX6_upkeep 48 = .ok (.ireturn, 1) := by decide +kernel
theorem dX6_year_0 : decode cX6_year 0 = .ok (.aload_n 0, 1) := by decide +kernel
theorem dX6_year_1 : decode cX6_year 1 = .ok (.getfield 22, 3) := by decide +kernel
theorem dX6_year_4 : decode cX6_year 4 = .ok (.aload_n 0, 1) := by decide +kernel
theorem dX6_year_5 : decode cX6_year 5 = .ok (.getfield 10, 3) := by decide +kernel
theorem dX6_year_8 : decode cX6_year 8 = .ok (.invokevirtual 183, 3) := by decide +kernel
theorem dX6_year_11 : decode cX6_year 11 = .ok (.aload_n 0, 1) := by decide +kernel
theorem dX6_year_12 : decode cX6_year 12 = .ok (.getfield 10, 3) := by decide +kernel
theorem dX6_year_15 : decode cX6_year 15 = .ok (.invokevirtual 238, 3) := by decide +kernel
theorem dX6_year_18 : decode cX6_year 18 = .ok (.ireturn, 1) := by decide +kernel
theorem dX6_set_0 : decode cX6_set 0 = .ok (.iload_n 1, 1) := by decide +kernel
theorem dX6_set_1 : decode cX6_set 1 = .ok (.ifCond .lt 8, 3) := by decide +kernel
theorem dX6_set_4 : decode cX6_set 4 = .ok (.iload_n 1, 1) := by decide +kernel
theorem dX6_set_5 : decode cX6_set 5 = .ok (.iconst 3, 1) := by decide +kernel
theorem dX6_set_6 : decode cX6_set 6 = .ok (.if_icmp .lt 13, 3) := by decide +kernel
theorem dX6_set_9 : decode cX6_set 9 = .ok (.new 110, 3) := by decide +kernel
theorem dX6_set_12 : decode cX6_set 12 = .ok (.dup, 1) := by decide +kernel
theorem dX6_set_13 : decode cX6_set 13 = .ok (.ldc 241, 2) := by decide +kernel
theorem dX6_set_15 : decode cX6_set 15 = .ok (.invokespecial 114, 3) := by decide +kernel
theorem dX6_set_18 : decode cX6_set 18 = .ok (.athrow, 1) := by decide +kernel
theorem dX6_set_19 : decode cX6_set 19 = .ok (.aload_n 0, 1) := by decide +kernel
theorem dX6_set_20 : decode cX6_set 20 = .ok (.iload_n 2, 1) := by decide +kernel
theorem dX6_set_21 : decode cX6_set 21 = .ok (.getstatic 243, 3) := by decide +kernel
theorem dX6_set_24 : decode cX6_set 24 = .ok (.iload_n 1, 1) := by decide +kernel
theorem dX6_set_25 : decode cX6_set 25 = .ok (.iaload, 1) := by decide +kernel
theorem dX6_set_26 : decode cX6_set 26 = .ok (.getstatic 246, 3) := by decide +kernel
theorem dX6_set_29 : decode cX6_set 29 = .ok (.iload_n 1, 1) := by decide +kernel
theorem dX6_set_30 : decode cX6_set 30 = .ok (.iaload, 1) := by decide +kernel
theorem dX6_set_31 : decode cX6_set 31 = .ok (.invokevirtual 48, 3) := by decide +kernel
theorem dX6_set_34 : decode cX6_set 34 = .ok (.aload_n 0, 1) := by decide +kernel
theorem dX6_set_35 : decode cX6_set 35 = .ok (.getfield 22, 3) := by decide +kernel
theorem dX6_set_38 : decode cX6_set 38 = .ok (.aload_n 0, 1) := by decide +kernel
theorem dX6_set_39 : decode cX6_set 39 = .ok (.getfield 10, 3) := by decide +kernel
theorem dX6_set_42 : decode cX6_set 42 = .ok (.invokevirtual 183, 3) := by decide +kernel
theorem dX6_set_45 : decode cX6_set 45 = .ok (.aload_n 0, 1) := by decide +kernel
theorem dX6_set_46 : decode cX6_set 46 = .ok (.getfield 10, 3) := by decide +kernel
theorem dX6_set_49 : decode cX6_set 49 = .ok (.getfield 249, 3) := by decide +kernel
theorem dX6_set_52 : decode cX6_set 52 = .ok (.iload_n 1, 1) := by decide +kernel
theorem dX6_set_53 : decode cX6_set 53 = .ok (.iaload, 1) := by decide +kernel
theorem dX6_set_54 : decode cX6_set 54 = .ok (.istore_n 3, 1) := by decide +kernel
theorem dX6_set_55 : decode cX6_set 55 = .ok (.aload_n 0, 1) := by decide +kernel
theorem dX6_set_56 : decode cX6_set 56 = .ok (.getfield 10, 3) := by decide +kernel
theorem dX6_set_59 : decode cX6_set 59 = .ok (.getfield 249, 3) := by decide +kernel
theorem dX6_set_62 : decode cX6_set 62 = .ok (.iload_n 1, 1) := by decide +kernel
theorem dX6_set_63 : decode cX6_set 63 = .ok (.iload_n 2, 1) := by decide +kernel
theorem dX6_set_64 : decode cX6_set 64 = .ok (.iastore, 1) := by decide +kernel
theorem dX6_set_65 : decode cX6_set 65 = .ok (.iload_n 3, 1) := by decide +kernel
theorem dX6_set_66 : decode cX6_set 66 = .ok (.ireturn, 1) := by decide +kernel
theorem dX6_undo_0 : decode cX6_undo 0 = .ok (.aload_n 0, 1) := by decide +kernel
theorem dX6_undo_1 : decode cX6_undo 1 = .ok (.getfield 22, 3) := by decide +kernel
theorem dX6_undo_4 : decode cX6_undo 4 = .ok (.invokevirtual 252, 3) := by decide +kernel
theorem dX6_undo_7 : decode cX6_undo 7 = .ok (.ifCond .eq 13, 3) := by decide +kernel
theorem dX6_undo_10 : decode cX6_undo 10 = .ok (.new 56, 3) := by decide +kernel
theorem dX6_undo_13 : decode cX6_undo 13 = .ok (.dup, 1) := by decide +kernel
theorem dX6_undo_14 : decode cX6_undo 14 = .ok (.ldc 255, 2) := by decide +kernel
theorem dX6_undo_16 : decode cX6_undo 16 = .ok (.invokespecial 60, 3) := by decide +kernel
theorem dX6_undo_19 : decode cX6_undo 19 = .ok (.athrow, 1) := by decide +kernel
theorem dX6_undo_20 : decode cX6_undo 20 = .ok (.aload_n 0, 1) := by decide +kernel
theorem dX6_undo_21 : decode cX6_undo 21 = .ok (.getfield 22, 3) := by decide +kernel
theorem dX6_undo_24 : decode cX6_undo 24 = .ok (.aload_n 0, 1) := by decide +kernel
theorem dX6_undo_25 : decode cX6_undo 25 = .ok (.getfield 10, 3) := by decide +kernel
theorem dX6_undo_28 : decode cX6_undo 28 = .ok (.invokevirtual 257, 3) := by decide +kernel
theorem dX6_undo_31 : decode cX6_undo 31 = .ok (.ireturn, 1) := by decide +kernel
theorem dX6_why_0 : decode cX6_why 0 = .ok (.aload_n 0, 1) := by decide +kernel
theorem dX6_why_1 : decode cX6_why 1 = .ok (.iload_n 1, 1) := by decide +kernel
theorem dX6_why_2 : decode cX6_why 2 = .ok (.invokevirtual 115, 3) := by decide +kernel
theorem dX6_why_5 : decode cX6_why 5 = .ok (.aload_n 0, 1) := by decide +kernel
theorem dX6_why_6 : decode cX6_why 6 = .ok (.iload_n 2, 1) := by decide +kernel
theorem dX6_why_7 : decode cX6_why 7 = .ok (.invokevirtual 139, 3) := by decide +kernel
theorem dX6_why_10 : decode cX6_why 10 = .ok (.aload_n 0, 1) := by decide +kernel
theorem dX6_why_11 : decode cX6_why 11 = .ok (.getfield 10, 3) := by decide +kernel
theorem dX6_why_14 : decode cX6_why 14 = .ok (.iload_n 1, 1) := by decide +kernel
theorem dX6_why_15 : decode cX6_why 15 = .ok (.iload_n 2, 1) := by decide +kernel
theorem dX6_why_16 : decode cX6_why 16 = .ok (.invokevirtual 260, 3) := by decide +kernel
theorem dX6_why_19 : decode cX6_why 19 = .ok (.ireturn, 1) := by decide +kernel
theorem dX6_could_0 : decode cX6_could 0 = .ok (.iload_n 1, 1) := by decide +kernel
theorem dX6_could_1 : decode cX6_could 1 = .ok (.lookupswitch 51 #[(0, 27), (1, 39)], 27) := by decide +kernel
theorem dX6_could_28 : decode cX6_could 28 = .ok (.aload_n 0, 1) := by decide +kernel
theorem dX6_could_29 : decode cX6_could 29 = .ok (.getfield 44, 3) := by decide +kernel
theorem dX6_could_32 : decode cX6_could 32 = .ok (.aload_n 0, 1) := by decide +kernel
theorem dX6_could_33 : decode cX6_could 33 = .ok (.getfield 10, 3) := by decide +kernel
theorem dX6_could_36 : decode cX6_could 36 = .ok (.invokevirtual 263, 3) := by decide +kernel
theorem dX6_could_39 : decode cX6_could 39 = .ok (.ireturn, 1) := by decide +kernel
theorem dX6_could_40 : decode cX6_could 40 = .ok (.aload_n 0, 1) := by decide +kernel
theorem dX6_could_41 : decode cX6_could 41 = .ok (.getfield 44, 3) := by decide +kernel
theorem dX6_could_44 : decode cX6_could 44 = .ok (.aload_n 0, 1) := by decide +kernel
theorem dX6_could_45 : decode cX6_could 45 = .ok (.getfield 10, 3) := by decide +kernel
theorem dX6_could_48 : decode cX6_could 48 = .ok (.invokevirtual 266, 3) := by decide +kernel
theorem dX6_could_51 : decode cX6_could 51 = .ok (.ireturn, 1) := by decide +kernel
theorem dX6_could_52 : decode cX6_could 52 = .ok (.new 110, 3) := by decide +kernel
theorem dX6_could_55 : decode cX6_could 55 = .ok (.dup, 1) := by decide +kernel
theorem dX6_could_56 : decode cX6_could 56 = .ok (.ldc_w 269, 3) := by decide +kernel
theorem dX6_could_59 : decode cX6_could 59 = .ok (.invokespecial 114, 3) := by decide +kernel
theorem dX6_could_62 : decode cX6_could 62 = .ok (.athrow, 1) := by decide +kernel
theorem dX6_winner_0 : decode cX6_winner 0 = .ok (.aload_n 0, 1) := by decide +kernel
theorem dX6_winner_1 : decode cX6_winner 1 = .ok (.iload_n 1, 1) := by decide +kernel
theorem dX6_winner_2 : decode cX6_winner 2 = .ok (.invokevirtual 139, 3) := by decide +kernel
theorem dX6_winner_5 : decode cX6_winner 5 = .ok (.aload_n 0, 1) := by decide +kernel
theorem dX6_winner_6 : decode cX6_winner 6 = .ok (.iload_n 1, 1) := by decide +kernel
theorem dX6_winner_7 : decode cX6_winner 7 = .ok (.invokevirtual 271, 3) := by decide +kernel
theorem dX6_winner_10 : decode cX6_winner 10 = .ok (.aload_n 0, 1) := by decide +kernel
theorem dX6_winner_11 : decode cX6_winner 11 = .ok (.getfield 16, 3) := by decide +kernel
theorem dX6_winner_14 : decode cX6_winner 14 = .ok (.iload_n 1, 1) := by decide +kernel
theorem dX6_winner_15 : decode cX6_winner 15 = .ok (.invokevirtual 274, 3) := by decide +kernel
theorem dX6_winner_18 : decode cX6_winner 18 = .ok (.ireturn, 1) := by decide +kernel
theorem dX6_leastBid_0 : decode cX6_leastBid 0 = .ok (.aload_n 0, 1) := by decide +kernel
theorem dX6_leastBid_1 : decode cX6_leastBid 1 = .ok (.iload_n 1, 1) := by decide +kernel
theorem dX6_leastBid_2 : decode cX6_leastBid 2 = .ok (.invokevirtual 115, 3) := by decide +kernel
theorem dX6_leastBid_5 : decode cX6_leastBid 5 = .ok (.aload_n 0, 1) := by decide +kernel
theorem dX6_leastBid_6 : decode cX6_leastBid 6 = .ok (.iload_n 2, 1) := by decide +kernel
theorem dX6_leastBid_7 : decode cX6_leastBid 7 = .ok (.invokevirtual 139, 3) := by decide +kernel
theorem dX6_leastBid_10 : decode cX6_leastBid 10 = .ok (.aload_n 0, 1) := by decide +kernel
theorem dX6_leastBid_11 : decode cX6_leastBid 11 = .ok (.iload_n 2, 1) := by decide +kernel
theorem dX6_leastBid_12 : decode cX6_leastBid 12 = .ok (.invokevirtual 271, 3) := by decide +kernel
theorem dX6_leastBid_15 : decode cX6_leastBid 15 = .ok (.iconst 0, 1) := by decide +kernel
theorem dX6_leastBid_16 : decode cX6_leastBid 16 = .ok (.istore_n 3, 1) := by decide +kernel
theorem dX6_leastBid_17 : decode cX6_leastBid 17 = .ok (.iload_n 3, 1) := by decide +kernel
theorem dX6_leastBid_18 : decode cX6_leastBid 18 = .ok (.bipush 20, 2) := by decide +kernel
theorem dX6_leastBid_20 : decode cX6_leastBid 20 = .ok (.if_icmp .gt 38, 3) := by decide +kernel
theorem dX6_leastBid_23 : decode cX6_leastBid 23 = .ok (.aload_n 0, 1) := by decide +kernel
theorem dX6_leastBid_24 : decode cX6_leastBid 24 = .ok (.getfield 16, 3) := by decide +kernel
theorem dX6_leastBid_27 : decode cX6_leastBid 27 = .ok (.iload_n 1, 1) := by decide +kernel
theorem dX6_leastBid_28 : decode cX6_leastBid 28 = .ok (.iload_n 2, 1) := by decide +kernel
theorem dX6_leastBid_29 : decode cX6_leastBid 29 = .ok (.iload_n 3, 1) := by decide +kernel
theorem dX6_leastBid_30 : decode cX6_leastBid 30 = .ok (.invokevirtual 215, 3) := by decide +kernel
theorem dX6_leastBid_33 : decode cX6_leastBid 33 = .ok (.bipush (-2), 2) := by decide +kernel
theorem dX6_leastBid_35 : decode cX6_leastBid 35 = .ok (.if_icmp .eq 17, 3) := by decide +kernel
theorem dX6_leastBid_38 : decode cX6_leastBid 38 = .ok (.aload_n 0, 1) := by decide +kernel
theorem dX6_leastBid_39 : decode cX6_leastBid 39 = .ok (.getfield 16, 3) := by decide +kernel
theorem dX6_leastBid_42 : decode cX6_leastBid 42 = .ok (.iload_n 2, 1) := by decide +kernel
theorem dX6_leastBid_43 : decode cX6_leastBid 43 = .ok (.invokevirtual 274, 3) := by decide +kernel
theorem dX6_leastBid_46 : decode cX6_leastBid 46 = .ok (.iload_n 1, 1) := by decide +kernel
theorem dX6_leastBid_47 : decode cX6_leastBid 47 = .ok (.if_icmp .ne 5, 3) := by decide +kernel
theorem dX6_leastBid_50 : decode cX6_leastBid 50 = .ok (.iload_n 3, 1) := by decide +kernel
theorem dX6_leastBid_51 : decode cX6_leastBid 51 = .ok (.ireturn, 1) := by decide +kernel
theorem dX6_leastBid_52 : decode cX6_leastBid 52 = .ok (.iinc 3 1, 3) := by decide +kernel
theorem dX6_leastBid_55 : decode cX6_leastBid 55 = .ok (.goto (-38), 3) := by decide +kernel
theorem dX6_leastBid_58 : decode cX6_leastBid 58 = .ok (.iconst (-1), 1) := by decide +kernel
theorem dX6_leastBid_59 : decode cX6_leastBid 59 = .ok (.ireturn, 1) := by decide +kernel
theorem dX6_ifUpkeep_0 : decode cX6_ifUpkeep 0 = .ok (.aload_n 0, 1) := by decide +kernel
theorem dX6_ifUpkeep_1 : decode cX6_ifUpkeep 1 = .ok (.iload_n 1, 1) := by decide +kernel
theorem dX6_ifUpkeep_2 : decode cX6_ifUpkeep 2 = .ok (.invokevirtual 115, 3) := by decide +kernel
theorem dX6_ifUpkeep_5 : decode cX6_ifUpkeep 5 = .ok (.aload_n 0, 1) := by decide +kernel
theorem dX6_ifUpkeep_6 : decode cX6_ifUpkeep 6 = .ok (.iload_n 2, 1) := by decide +kernel
theorem dX6_ifUpkeep_7 : decode cX6_ifUpkeep 7 = .ok (.iconst 1, 1) := by decide +kernel
theorem dX6_ifUpkeep_8 : decode cX6_ifUpkeep 8 = .ok (.sipush 999, 3) := by decide +kernel
theorem dX6_ifUpkeep_11 : decode cX6_ifUpkeep 11 = .ok (.invokevirtual 48, 3) := by decide +kernel
theorem dX6_ifUpkeep_14 : decode cX6_ifUpkeep 14 = .ok (.aload_n 0, 1) := by decide +kernel
theorem dX6_ifUpkeep_15 : decode cX6_ifUpkeep 15 = .ok (.getfield 10, 3) := by decide +kernel
theorem dX6_ifUpkeep_18 : decode cX6_ifUpkeep 18 = .ok (.iload_n 1, 1) := by decide +kernel
theorem dX6_ifUpkeep_19 : decode cX6_ifUpkeep 19 = .ok (.iload_n 2, 1) := by decide +kernel
theorem dX6_ifUpkeep_20 : decode cX6_ifUpkeep 20 = .ok (.invokevirtual 277, 3) := by decide +kernel
theorem dX6_ifUpkeep_23 : decode cX6_ifUpkeep 23 = .ok (.ireturn, 1) := by decide +kernel
theorem dX6_runScript_0 : decode cX6_runScript 0 = .ok (.aload_n 0, 1) := by decide +kernel
theorem dX6_runScript_1 : decode cX6_runScript 1 = .ok (.iload_n 1, 1) := by decide +kernel
theorem dX6_runScript_2 : decode cX6_runScript 2 = .ok (.iconst 1, 1) := by decide +kernel
theorem dX6_runScript_3 : decode cX6_runScript 3 = .ok (.iconst 3, 1) := by decide +kernel
theorem dX6_runScript_4 : decode cX6_runScript 4 = .ok (.invokevirtual 48, 3) := by decide +kernel
theorem dX6_runScript_7 : decode cX6_runScript 7 = .ok (.lconst 1, 1) := by decide +kernel
theorem dX6_runScript_8 : decode cX6_runScript 8 = .ok (.lstore 4, 2) := by decide +kernel
theorem dX6_runScript_10 : decode cX6_runScript 10 = .ok (.iconst 0, 1) := by decide +kernel
theorem dX6_runScript_11 : decode cX6_runScript 11 = .ok (.istore 6, 2) := by decide +kernel
theorem dX6_runScript_13 : decode cX6_runScript 13 = .ok (.iload 6, 2) := by decide +kernel
theorem dX6_runScript_15 : decode cX6_runScript 15 = .ok (.iload_n 1, 1) := by decide +kernel
theorem dX6_runScript_16 : decode cX6_runScript 16 = .ok (.if_icmp .ge 17, 3) := by decide +kernel
theorem dX6_runScript_19 : decode cX6_runScript 19 = .ok (.lload 4, 2) := by decide +kernel
theorem dX6_runScript_21 : decode cX6_runScript 21 = .ok (.ldc2_w 280, 3) := by decide +kernel
theorem dX6_runScript_24 : decode cX6_runScript 24 = .ok (.lmul, 1) := by decide +kernel
theorem dX6_runScript_25 : decode cX6_runScript 25 = .ok (.lstore 4, 2) := by decide +kernel
theorem dX6_runScript_27 : decode cX6_runScript 27 = .ok (.iinc 6 1, 3) := by decide +kernel
theorem dX6_runScript_30 : decode cX6_runScript 30 = .ok (.goto (-17), 3) := by decide +kernel
theorem dX6_runScript_33 : decode cX6_runScript 33 = .ok (.lload_n 2, 1) := by decide +kernel
theorem dX6_runScript_34 : decode cX6_runScript 34 = .ok (.lconst 0, 1) := by decide +kernel
theorem dX6_runScript_35 : decode cX6_runScript 35 = .ok (.lcmp, 1) := by decide +kernel
theorem dX6_runScript_36 : decode cX6_runScript 36 = .ok (.ifCond .lt 10, 3) := by decide +kernel
theorem dX6_runScript_39 : decode cX6_runScript 39 = .ok (.lload_n 2, 1) := by decide +kernel
theorem dX6_runScript_40 : decode cX6_runScript 40 = .ok (.lload 4, 2) := by decide +kernel
theorem dX6_runScript_42 : decode cX6_runScript 42 = .ok (.lcmp, 1) := by decide +kernel
theorem dX6_runScript_43 : decode cX6_runScript 43 = .ok (.ifCond .lt 14, 3) := by decide +kernel
theorem dX6_runScript_46 : decode cX6_runScript 46 = .ok (.new 110, 3) := by decide +kernel
theorem dX6_runScript_49 : decode cX6_runScript 49 = .ok (.dup, 1) := by decide +kernel
theorem dX6_runScript_50 : decode cX6_runScript 50 = .ok (.ldc_w 282, 3) := by decide +kernel
theorem dX6_runScript_53 : decode cX6_runScript 53 = .ok (.invokespecial 114, 3) := by decide +kernel
theorem dX6_runScript_56 : decode cX6_runScript 56 = .ok (.athrow, 1) := by decide +kernel
theorem dX6_runScript_57 : decode cX6_runScript 57 = .ok (.aload_n 0, 1) := by decide +kernel
theorem dX6_runScript_58 : decode cX6_runScript 58 = .ok (.getfield 16, 3) := by decide +kernel
theorem dX6_runScript_61 : decode cX6_runScript 61 = .ok (.aload_n 0, 1) := by decide +kernel
theorem dX6_runScript_62 : decode cX6_runScript 62 = .ok (.getfield 10, 3) := by decide +kernel
theorem dX6_runScript_65 : decode cX6_runScript 65 = .ok (.invokevirtual 284, 3) := by decide +kernel
theorem dX6_runScript_68 : decode cX6_runScript 68 = .ok (.iconst 0, 1) := by decide +kernel
theorem dX6_runScript_69 : decode cX6_runScript 69 = .ok (.istore 6, 2) := by decide +kernel
theorem dX6_runScript_71 : decode cX6_runScript 71 = .ok (.iload 6, 2) := by decide +kernel
theorem dX6_runScript_73 : decode cX6_runScript 73 = .ok (.iload_n 1, 1) := by decide +kernel
theorem dX6_runScript_74 : decode cX6_runScript 74 = .ok (.if_icmp .ge 46, 3) := by decide +kernel
theorem dX6_runScript_77 : decode cX6_runScript 77 = .ok (.lload 4, 2) := by decide +kernel
theorem dX6_runScript_79 : decode cX6_runScript 79 = .ok (.ldc2_w 280, 3) := by decide +kernel
theorem dX6_runScript_82 : decode cX6_runScript 82 = .ok (.ldiv, 1) := by decide +kernel
theorem dX6_runScript_83 : decode cX6_runScript 83 = .ok (.lstore 4, 2) := by decide +kernel
theorem dX6_runScript_85 : decode cX6_runScript 85 = .ok (.lload 4, 2) := by decide +kernel
theorem dX6_runScript_87 : decode cX6_runScript 87 = .ok (.lconst 1, 1) := by decide +kernel
theorem dX6_runScript_88 : decode cX6_runScript 88 = .ok (.lcmp, 1) := by decide +kernel
theorem dX6_runScript_89 : decode cX6_runScript 89 = .ok (.ifCond .lt 22, 3) := by decide +kernel
theorem dX6_runScript_92 : decode cX6_runScript 92 = .ok (.aload_n 0, 1) := by decide +kernel
theorem dX6_runScript_93 : decode cX6_runScript 93 = .ok (.getfield 16, 3) := by decide +kernel
theorem dX6_runScript_96 : decode cX6_runScript 96 = .ok (.lload_n 2, 1) := by decide +kernel
theorem dX6_runScript_97 : decode cX6_runScript 97 = .ok (.lload 4, 2) := by decide +kernel
theorem dX6_runScript_99 : decode cX6_runScript 99 = .ok (.ldiv, 1) := by decide +kernel
theorem dX6_runScript_100 : decode cX6_runScript 100 = .ok (.ldc2_w 280, 3) := by decide +kernel
theorem dX6_runScript_103 : decode cX6_runScript 103 = .ok (.lrem, 1) := by decide +kernel
theorem dX6_runScript_104 : decode cX6_runScript 104 = .ok (.l2i, 1) := by decide +kernel
theorem dX6_runScript_105 : decode cX6_runScript 105 = .ok (.invokestatic 287, 3) := by decide +kernel
theorem dX6_runScript_108 : decode cX6_runScript 108 = .ok (.ifCond .ne 6, 3) := by decide +kernel
theorem dX6_runScript_111 : decode cX6_runScript 111 = .ok (.iload 6, 2) := by decide +kernel
theorem dX6_runScript_113 : decode cX6_runScript 113 = .ok (.ireturn, 1) := by decide +kernel
theorem dX6_runScript_114 : decode cX6_runScript 114 = .ok (.iinc 6 1, 3) := by decide +kernel
theorem dX6_runScript_117 : decode cX6_runScript 117 = .ok (.goto (-46), 3) := by decide +kernel
theorem dX6_runScript_120 : decode cX6_runScript 120 = .ok (.iconst (-1), 1) := by decide +kernel
theorem dX6_runScript_121 : decode cX6_runScript 121 = .ok (.ireturn, 1) := by decide +kernel
theorem dX6_simulate_0 : decode cX6_simulate 0 = .ok (.aload_n 0, 1) := by decide +kernel
theorem dX6_simulate_1 : decode cX6_simulate 1 = .ok (.iload_n 3, 1) := by decide +kernel
theorem dX6_simulate_2 : decode cX6_simulate 2 = .ok (.iconst 1, 1) := by decide +kernel
theorem dX6_simulate_3 : decode cX6_simulate 3 = .ok (.bipush 60, 2) := by decide +kernel
theorem dX6_simulate_5 : decode cX6_simulate 5 = .ok (.invokevirtual 48, 3) := by decide +kernel
theorem dX6_simulate_8 : decode cX6_simulate 8 = .ok (.aload_n 0, 1) := by decide +kernel
theorem dX6_simulate_9 : decode cX6_simulate 9 = .ok (.getfield 16, 3) := by decide +kernel
theorem dX6_simulate_12 : decode cX6_simulate 12 = .ok (.aload_n 0, 1) := by decide +kernel
theorem dX6_simulate_13 : decode cX6_simulate 13 = .ok (.getfield 10, 3) := by decide +kernel
theorem dX6_simulate_16 : decode cX6_simulate 16 = .ok (.invokevirtual 284, 3) := by decide +kernel
theorem dX6_simulate_19 : decode cX6_simulate 19 = .ok (.lload_n 1, 1) := by decide +kernel
theorem dX6_simulate_20 : decode cX6_simulate 20 = .ok (.lstore 4, 2) := by decide +kernel
theorem dX6_simulate_22 : decode cX6_simulate 22 = .ok (.iconst 0, 1) := by decide +kernel
theorem dX6_simulate_23 : decode cX6_simulate 23 = .ok (.istore 6, 2) := by decide +kernel
theorem dX6_simulate_25 : decode cX6_simulate 25 = .ok (.iload 6, 2) := by decide +kernel
theorem dX6_simulate_27 : decode cX6_simulate 27 = .ok (.iload_n 3, 1) := by decide +kernel
theorem dX6_simulate_28 : decode cX6_simulate 28 = .ok (.if_icmp .ge 34, 3) := by decide +kernel
theorem dX6_simulate_31 : decode cX6_simulate 31 = .ok (.lload 4, 2) := by decide +kernel
theorem dX6_simulate_33 : decode cX6_simulate 33 = .ok (.ldc2_w 293, 3) := by decide +kernel
theorem dX6_simulate_36 : decode cX6_simulate 36 = .ok (.lmul, 1) := by decide +kernel
theorem dX6_simulate_37 : decode cX6_simulate 37 = .ok (.ldc2_w 295, 3) := by decide +kernel
theorem dX6_simulate_40 : decode cX6_simulate 40 = .ok (.ladd, 1) := by decide +kernel
theorem dX6_simulate_41 : decode cX6_simulate 41 = .ok (.lstore 4, 2) := by decide +kernel
theorem dX6_simulate_43 : decode cX6_simulate 43 = .ok (.aload_n 0, 1) := by decide +kernel
theorem dX6_simulate_44 : decode cX6_simulate 44 = .ok (.getfield 16, 3) := by decide +kernel
theorem dX6_simulate_47 : decode cX6_simulate 47 = .ok (.lload 4, 2) := by decide +kernel
theorem dX6_simulate_49 : decode cX6_simulate 49 = .ok (.bipush 33, 2) := by decide +kernel
theorem dX6_simulate_51 : decode cX6_simulate 51 = .ok (.lushr, 1) := by decide +kernel
theorem dX6_simulate_52 : decode cX6_simulate 52 = .ok (.l2i, 1) := by decide +kernel
theorem dX6_simulate_53 : decode cX6_simulate 53 = .ok (.invokestatic 297, 3) := by decide +kernel
theorem dX6_simulate_56 : decode cX6_simulate 56 = .ok (.iinc 6 1, 3) := by decide +kernel
theorem dX6_simulate_59 : decode cX6_simulate 59 = .ok (.goto (-34), 3) := by decide +kernel
theorem dX6_simulate_62 : decode cX6_simulate 62 = .ok (.sipush 10000, 3) := by decide +kernel
theorem dX6_simulate_65 : decode cX6_simulate 65 = .ok (.aload_n 0, 1) := by decide +kernel
theorem dX6_simulate_66 : decode cX6_simulate 66 = .ok (.getfield 16, 3) := by decide +kernel
theorem dX6_simulate_69 : decode cX6_simulate 69 = .ok (.iconst (-1), 1) := by decide +kernel
theorem dX6_simulate_70 : decode cX6_simulate 70 = .ok (.invokevirtual 93, 3) := by decide +kernel
theorem dX6_simulate_73 : decode cX6_simulate 73 = .ok (.imul, 1) := by decide +kernel
theorem dX6_simulate_74 : decode cX6_simulate 74 = .ok (.aload_n 0, 1) := by decide +kernel
theorem dX6_simulate_75 : decode cX6_simulate 75 = .ok (.getfield 16, 3) := by decide +kernel
theorem dX6_simulate_78 : decode cX6_simulate 78 = .ok (.invokevirtual 101, 3) := by decide +kernel
theorem dX6_simulate_81 : decode cX6_simulate 81 = .ok (.iadd, 1) := by decide +kernel
theorem dX6_simulate_82 : decode cX6_simulate 82 = .ok (.ireturn, 1) := by decide +kernel
theorem dX6_save_0 : decode cX6_save 0 = .ok (.aload_n 0, 1) := by decide +kernel
theorem dX6_save_1 : decode cX6_save 1 = .ok (.iload_n 1, 1) := by decide +kernel
theorem dX6_save_2 : decode cX6_save 2 = .ok (.invokevirtual 303, 3) := by decide +kernel
theorem dX6_save_5 : decode cX6_save 5 = .ok (.aload_n 0, 1) := by decide +kernel
theorem dX6_save_6 : decode cX6_save 6 = .ok (.getfield 26, 3) := by decide +kernel
theorem dX6_save_9 : decode cX6_save 9 = .ok (.iload_n 1, 1) := by decide +kernel
theorem dX6_save_10 : decode cX6_save 10 = .ok (.aaload, 1) := by decide +kernel
theorem dX6_save_11 : decode cX6_save 11 = .ok (.aload_n 0, 1) := by decide +kernel
theorem dX6_save_12 : decode cX6_save 12 = .ok (.getfield 10, 3) := by decide +kernel
theorem dX6_save_15 : decode cX6_save 15 = .ok (.invokevirtual 284, 3) := by decide +kernel
theorem dX6_save_18 : decode cX6_save 18 = .ok (.aload_n 0, 1) := by decide +kernel
theorem dX6_save_19 : decode cX6_save 19 = .ok (.getfield 30, 3) := by decide +kernel
theorem dX6_save_22 : decode cX6_save 22 = .ok (.iload_n 1, 1) := by decide +kernel
theorem dX6_save_23 : decode cX6_save 23 = .ok (.iconst 1, 1) := by decide +kernel
theorem dX6_save_24 : decode cX6_save 24 = .ok (.bastore, 1) := by decide +kernel
theorem dX6_save_25 : decode cX6_save 25 = .ok (.aload_n 0, 1) := by decide +kernel
theorem dX6_save_26 : decode cX6_save 26 = .ok (.getfield 10, 3) := by decide +kernel
theorem dX6_save_29 : decode cX6_save 29 = .ok (.getfield 90, 3) := by decide +kernel
theorem dX6_save_32 : decode cX6_save 32 = .ok (.ireturn, 1) := by decide +kernel
theorem dX6_restore_0 : decode cX6_restore 0 = .ok (.aload_n 0, 1) := by decide +kernel
theorem dX6_restore_1 : decode cX6_restore 1 = .ok (.iload_n 1, 1) := by decide +kernel
theorem dX6_restore_2 : decode cX6_restore 2 = .ok (.invokevirtual 303, 3) := by decide +kernel
theorem dX6_restore_5 : decode cX6_restore 5 = .ok (.aload_n 0, 1) := by decide +kernel
theorem dX6_restore_6 : decode cX6_restore 6 = .ok (.getfield 30, 3) := by decide +kernel
theorem dX6_restore_9 : decode cX6_restore 9 = .ok (.iload_n 1, 1) := by decide +kernel
theorem dX6_restore_10 : decode cX6_restore 10 = .ok (.baload, 1) := by decide +kernel
theorem dX6_restore_11 : decode cX6_restore 11 = .ok (.ifCond .ne 14, 3) := by decide +kernel
theorem dX6_restore_14 : decode cX6_restore 14 = .ok (.new 56, 3) := by decide +kernel
theorem dX6_restore_17 : decode cX6_restore 17 = .ok (.dup, 1) := by decide +kernel
theorem dX6_restore_18 : decode cX6_restore 18 = .ok (.ldc_w 306, 3) := by decide +kernel
theorem dX6_restore_21 : decode cX6_restore 21 = .ok (.invokespecial 60, 3) := by decide +kernel
theorem dX6_restore_24 : decode cX6_restore 24 = .ok (.athrow, 1) := by decide +kernel
theorem dX6_restore_25 : decode cX6_restore 25 = .ok (.aload_n 0, 1) := by decide +kernel
theorem dX6_restore_26 : decode cX6_restore 26 = .ok (.getfield 10, 3) := by decide +kernel
theorem dX6_restore_29 : decode cX6_restore 29 = .ok (.aload_n 0, 1) := by decide +kernel
theorem dX6_restore_30 : decode cX6_restore 30 = .ok (.getfield 26, 3) := by decide +kernel
theorem dX6_restore_33 : decode cX6_restore 33 = .ok (.iload_n 1, 1) := by decide +kernel
theorem dX6_restore_34 : decode cX6_restore 34 = .ok (.aaload, 1) := by decide +kernel
theorem dX6_restore_35 : decode cX6_restore 35 = .ok (.invokevirtual 284, 3) := by decide +kernel
theorem dX6_restore_38 : decode cX6_restore 38 = .ok (.aload_n 0, 1) := by decide +kernel
theorem dX6_restore_39 : decode cX6_restore 39 = .ok (.getfield 22, 3) := by decide +kernel
theorem dX6_restore_42 : decode cX6_restore 42 = .ok (.invokevirtual 79, 3) := by decide +kernel
theorem dX6_restore_45 : decode cX6_restore 45 = .ok (.aload_n 0, 1) := by decide +kernel
theorem dX6_restore_46 : decode cX6_restore 46 = .ok (.getfield 10, 3) := by decide +kernel
theorem dX6_restore_49 : decode cX6_restore 49 = .ok (.getfield 90, 3) := by decide +kernel
theorem dX6_restore_52 : decode cX6_restore 52 = .ok (.ireturn, 1) := by decide +kernel
theorem dX6_needOwner_0 : decode cX6_needOwner 0 = .ok (.aload_n 0, 1) := by decide +kernel
theorem dX6_needOwner_1 : decode cX6_needOwner 1 = .ok (.getfield 10, 3) := by decide +kernel
theorem dX6_needOwner_4 : decode cX6_needOwner 4 = .ok (.iload_n 1, 1) := by decide +kernel
theorem dX6_needOwner_5 : decode cX6_needOwner 5 = .ok (.invokevirtual 308, 3) := by decide +kernel
theorem dX6_needOwner_8 : decode cX6_needOwner 8 = .ok (.ifCond .ne 14, 3) := by decide +kernel
theorem dX6_needOwner_11 : decode cX6_needOwner 11 = .ok (.new 311, 3) := by decide +kernel
theorem dX6_needOwner_14 : decode cX6_needOwner 14 = .ok (.dup, 1) := by decide +kernel
theorem dX6_needOwner_15 : decode cX6_needOwner 15 = .ok (.ldc_w 313, 3) := by decide +kernel
theorem dX6_needOwner_18 : decode cX6_needOwner 18 = .ok (.invokespecial 315, 3) := by decide +kernel
theorem dX6_needOwner_21 : decode cX6_needOwner 21 = .ok (.athrow, 1) := by decide +kernel
theorem dX6_needOwner_22 : decode cX6_needOwner 22 = .ok (.return_, 1) := by decide +kernel
theorem dX6_needWeek_0 : decode cX6_needWeek 0 = .ok (.aload_n 0, 1) := by decide +kernel
theorem dX6_needWeek_1 : decode cX6_needWeek 1 = .ok (.getfield 10, 3) := by decide +kernel
theorem dX6_needWeek_4 : decode cX6_needWeek 4 = .ok (.iload_n 1, 1) := by decide +kernel
theorem dX6_needWeek_5 : decode cX6_needWeek 5 = .ok (.invokevirtual 316, 3) := by decide +kernel
theorem dX6_needWeek_8 : decode cX6_needWeek 8 = .ok (.ifCond .ne 14, 3) := by decide +kernel
theorem dX6_needWeek_11 : decode cX6_needWeek 11 = .ok (.new 311, 3) := by decide +kernel
theorem dX6_needWeek_14 : decode cX6_needWeek 14 = .ok (.dup, 1) := by decide +kernel
theorem dX6_needWeek_15 : decode cX6_needWeek 15 = .ok (.ldc_w 319, 3) := by decide +kernel
theorem dX6_needWeek_18 : decode cX6_needWeek 18 = .ok (.invokespecial 315, 3) := by decide +kernel
theorem dX6_needWeek_21 : decode cX6_needWeek 21 = .ok (.athrow, 1) := by decide +kernel
theorem dX6_needWeek_22 : decode cX6_needWeek 22 = .ok (.return_, 1) := by decide +kernel
theorem dX6_needOffer_0 : decode cX6_needOffer 0 = .ok (.aload_n 0, 1) := by decide +kernel
theorem dX6_needOffer_1 : decode cX6_needOffer 1 = .ok (.getfield 10, 3) := by decide +kernel
theorem dX6_needOffer_4 : decode cX6_needOffer 4 = .ok (.iload_n 1, 1) := by decide +kernel
theorem dX6_needOffer_5 : decode cX6_needOffer 5 = .ok (.invokevirtual 321, 3) := by decide +kernel
theorem dX6_needOffer_8 : decode cX6_needOffer 8 = .ok (.ifCond .ne 14, 3) := by decide +kernel
theorem dX6_needOffer_11 : decode cX6_needOffer 11 = .ok (.new 311, 3) := by decide +kernel
theorem dX6_needOffer_14 : decode cX6_needOffer 14 = .ok (.dup, 1) := by decide +kernel
theorem dX6_needOffer_15 : decode cX6_needOffer 15 = .ok (.ldc_w 324, 3) := by decide +kernel
theorem dX6_needOffer_18 : decode cX6_needOffer 18 = .ok (.invokespecial 315, 3) := by decide +kernel
theorem dX6_needOffer_21 : decode cX6_needOffer 21 = .ok (.athrow, 1) := by decide +kernel
theorem dX6_needOffer_22 : decode cX6_needOffer 22 = .ok (.return_, 1) := by decide +kernel
theorem dX6_needSlot_0 : decode cX6_needSlot 0 = .ok (.iload_n 1, 1) := by decide +kernel
theorem dX6_needSlot_1 : decode cX6_needSlot 1 = .ok (.ifCond .lt 8, 3) := by decide +kernel
theorem dX6_needSlot_4 : decode cX6_needSlot 4 = .ok (.iload_n 1, 1) := by decide +kernel
theorem dX6_needSlot_5 : decode cX6_needSlot 5 = .ok (.iconst 2, 1) := by decide +kernel
theorem dX6_needSlot_6 : decode cX6_needSlot 6 = .ok (.if_icmp .lt 14, 3) := by decide +kernel
theorem dX6_needSlot_9 : decode cX6_needSlot 9 = .ok (.new 311, 3) := by decide +kernel
theorem dX6_needSlot_12 : decode cX6_needSlot 12 = .ok (.dup, 1) := by decide +kernel
theorem dX6_needSlot_13 : decode cX6_needSlot 13 = .ok (.ldc_w 326, 3) := by decide +kernel
theorem dX6_needSlot_16 : decode cX6_needSlot 16 = .ok (.invokespecial 315, 3) := by decide +kernel
theorem dX6_needSlot_19 : decode cX6_needSlot 19 = .ok (.athrow, 1) := by decide +kernel
theorem dX6_needSlot_20 : decode cX6_needSlot 20 = .ok (.return_, 1) := by decide +kernel
theorem dX6_needRange_0 : decode cX6_needRange 0 = .ok (.iload_n 1, 1) := by decide +kernel
theorem dX6_needRange_1 : decode cX6_needRange 1 = .ok (.iload_n 2, 1) := by decide +kernel
theorem dX6_needRange_2 : decode cX6_needRange 2 = .ok (.if_icmp .lt 8, 3) := by decide +kernel
theorem dX6_needRange_5 : decode cX6_needRange 5 = .ok (.iload_n 1, 1) := by decide +kernel
theorem dX6_needRange_6 : decode cX6_needRange 6 = .ok (.iload_n 3, 1) := by decide +kernel
theorem dX6_needRange_7 : decode cX6_needRange 7 = .ok (.if_icmp .le 14, 3) := by decide +kernel
theorem dX6_needRange_10 : decode cX6_needRange 10 = .ok (.new 110, 3) := by decide +kernel
theorem dX6_needRange_13 : decode cX6_needRange 13 = .ok (.dup, 1) := by decide +kernel
theorem dX6_needRange_14 : decode cX6_needRange 14 = .ok (.ldc_w 328, 3) := by decide +kernel
theorem dX6_needRange_17 : decode cX6_needRange 17 = .ok (.invokespecial 114, 3) := by decide +kernel
theorem dX6_needRange_20 : decode cX6_needRange 20 = .ok (.athrow, 1) := by decide +kernel
theorem dX6_needRange_21 : decode cX6_needRange 21 = .ok (.return_, 1) := by decide +kernel
theorem dX6_settleCopyBefore_0 : decode cX6_settleCopyBefore 0 = .ok (.aload_n 0, 1) := by decide +kernel
theorem dX6_settleCopyBefore_1 : decode cX6_settleCopyBefore 1 = .ok (.getfield 16, 3) := by decide +kernel
theorem dX6_settleCopyBefore_4 : decode cX6_settleCopyBefore 4 = .ok (.aload_n 0, 1) := by decide +kernel
theorem dX6_settleCopyBefore_5 : decode cX6_settleCopyBefore 5 = .ok (.getfield 10, 3) := by decide +kernel
theorem dX6_settleCopyBefore_8 : decode cX6_settleCopyBefore 8 = .ok (.invokevirtual 284, 3) := by decide +kernel
theorem dX6_settleCopyBefore_11 : decode cX6_settleCopyBefore 11 = .ok (.iconst 0, 1) := by decide +kernel
theorem dX6_settleCopyBefore_12 : decode cX6_settleCopyBefore 12 = .ok (.istore_n 2, 1) := by decide +kernel
theorem dX6_settleCopyBefore_13 : decode cX6_settleCopyBefore 13 = .ok (.iload_n 2, 1) := by decide +kernel
theorem dX6_settleCopyBefore_14 : decode cX6_settleCopyBefore 14 = .ok (.iload_n 1, 1) := by decide +kernel
theorem dX6_settleCopyBefore_15 : decode cX6_settleCopyBefore 15 = .ok (.if_icmp .ge 18, 3) := by decide +kernel
theorem dX6_settleCopyBefore_18 : decode cX6_settleCopyBefore 18 = .ok (.aload_n 0, 1) := by decide +kernel
theorem dX6_settleCopyBefore_19 : decode cX6_settleCopyBefore 19 = .ok (.getfield 16, 3) := by decide +kernel
theorem dX6_settleCopyBefore_22 : decode cX6_settleCopyBefore 22 = .ok (.iload_n 2, 1) := by decide +kernel
theorem dX6_settleCopyBefore_23 : decode cX6_settleCopyBefore 23 = .ok (.invokevirtual 330, 3) := by decide +kernel
theorem dX6_settleCopyBefore_26 : decode cX6_settleCopyBefore 26 = .ok (.pop, 1) := by decide +kernel
theorem dX6_settleCopyBefore_27 : decode cX6_settleCopyBefore 27 = .ok (.iinc 2 1, 3) := by decide +kernel
theorem dX6_settleCopyBefore_30 : decode cX6_settleCopyBefore 30 = .ok (.goto (-17), 3) := by decide +kernel
theorem dX6_settleCopyBefore_33 : decode cX6_settleCopyBefore 33 = .ok (.return_, 1) := by decide +kernel
theorem dX7_init_0 : decode cX7_init 0 = .ok (.aload_n 0, 1) := by decide +kernel
theorem dX7_init_1 : decode cX7_init 1 = .ok (.invokespecial 1, 3) := by decide +kernel
theorem dX7_init_4 : decode cX7_init 4 = .ok (.aload_n 0, 1) := by decide +kernel
theorem dX7_init_5 : decode cX7_init 5 = .ok (.sipush 242, 3) := by decide +kernel
theorem dX7_init_8 : decode cX7_init 8 = .ok (.newarray .int, 2) := by decide +kernel
theorem dX7_init_10 : decode cX7_init 10 = .ok (.putfield 7, 3) := by decide +kernel
theorem dX7_init_13 : decode cX7_init 13 = .ok (.aload_n 0, 1) := by decide +kernel
theorem dX7_init_14 : decode cX7_init 14 = .ok (.sipush 242, 3) := by decide +kernel
theorem dX7_init_17 : decode cX7_init 17 = .ok (.newarray .int, 2) := by decide +kernel
theorem dX7_init_19 : decode cX7_init 19 = .ok (.putfield 13, 3) := by decide +kernel
theorem dX7_init_22 : decode cX7_init 22 = .ok (.aload_n 0, 1) := by decide +kernel
theorem dX7_init_23 : decode cX7_init 23 = .ok (.sipush 3388, 3) := by decide +kernel
theorem dX7_init_26 : decode cX7_init 26 = .ok (.newarray .int, 2) := by decide +kernel
theorem dX7_init_28 : decode cX7_init 28 = .ok (.putfield 16, 3) := by decide +kernel
theorem dX7_init_31 : decode cX7_init 31 = .ok (.aload_n 0, 1) := by decide +kernel
theorem dX7_init_32 : decode cX7_init 32 = .ok (.sipush 484, 3) := by decide +kernel
theorem dX7_init_35 : decode cX7_init 35 = .ok (.newarray .int, 2) := by decide +kernel
theorem dX7_init_37 : decode cX7_init 37 = .ok (.putfield 19, 3) := by decide +kernel
theorem dX7_init_40 : decode cX7_init 40 = .ok (.aload_n 0, 1) := by decide +kernel
theorem dX7_init_41 : decode cX7_init 41 = .ok (.bipush 120, 2) := by decide +kernel
theorem dX7_init_43 : decode cX7_init 43 = .ok (.newarray .int, 2) := by decide +kernel
theorem dX7_init_45 : decode cX7_init 45 = .ok (.putfield 22, 3) := by decide +kernel
theorem dX7_init_48 : decode cX7_init 48 = .ok (.aload_n 0, 1) := by decide +kernel
theorem dX7_init_49 : decode cX7_init 49 = .ok (.bipush 64, 2) := by decide +kernel
theorem dX7_init_51 : decode cX7_init 51 = .ok (.newarray .boolean, 2) := by decide +kernel
theorem dX7_init_53 : decode cX7_init 53 = .ok (.putfield 25, 3) := by decide +kernel
theorem dX7_init_56 : decode cX7_init 56 = .ok (.aload_n 0, 1) := by decide +kernel
theorem dX7_init_57 : decode cX7_init 57 = .ok (.invokevirtual 29, 3) := by decide +kernel
theorem dX7_init_60 : decode cX7_init 60 = .ok (.return_, 1) := by decide +kernel
theorem dX7_thrown_0 : decode cX7_thrown 0 = .ok (.aload_n 0, 1) := by decide +kernel
theorem dX7_thrown_1 : decode cX7_thrown 1 = .ok (.getfield 32, 3) := by decide +kernel
theorem dX7_thrown_4 : decode cX7_thrown 4 = .ok (.ireturn, 1) := by decide +kernel
theorem dX7_in_0 : decode cX7_in 0 = .ok (.iload_n 0, 1) := by decide +kernel
theorem dX7_in_1 : decode cX7_in 1 = .ok (.iload_n 1, 1) := by decide +kernel
theorem dX7_in_2 : decode cX7_in 2 = .ok (.if_icmp .lt 12, 3) := by decide +kernel
theorem dX7_in_5 : decode cX7_in 5 = .ok (.iload_n 0, 1) := by decide +kernel
theorem dX7_in_6 : decode cX7_in 6 = .ok (.iload_n 2, 1) := by decide +kernel
theorem dX7_in_7 : decode cX7_in 7 = .ok (.if_icmp .gt 7, 3) := by decide +kernel
theorem dX7_in_10 : decode cX7_in 10 = .ok (.iconst 1, 1) := by decide +kernel
theorem dX7_in_11 : decode cX7_in 11 = .ok (.goto 4, 3) := by decide +kernel
theorem dX7_in_14 : decode cX7_in 14 = .ok (.iconst 0, 1) := by decide +kernel
theorem dX7_in_15 : decode cX7_in 15 = .ok (.ireturn, 1) := by decide +kernel
theorem dX7_holds_0 : decode cX7_holds 0 = .ok (.aload_n 0, 1) := by decide +kernel
theorem dX7_holds_1 : decode cX7_holds 1 = .ok (.iload_n 1, 1) := by decide +kernel
theorem dX7_holds_2 : decode cX7_holds 2 = .ok (.putfield 32, 3) := by decide +kernel
theorem dX7_holds_5 : decode cX7_holds 5 = .ok (.iload_n 1, 1) := by decide +kernel
theorem dX7_holds_6 : decode cX7_holds 6 = .ok (.ifCond .ne 7, 3) := by decide +kernel
theorem dX7_holds_9 : decode cX7_holds 9 = .ok (.iconst 1, 1) := by decide +kernel
theorem dX7_holds_10 : decode cX7_holds 10 = .ok (.goto 4, 3) := by decide +kernel
theorem dX7_holds_13 : decode cX7_holds 13 = .ok (.iconst 0, 1) := by decide +kernel
theorem dX7_holds_14 : decode cX7_holds 14 = .ok (.ireturn, 1) := by decide +kernel
theorem dX7_begins_0 : decode cX7_begins 0 = .ok (.iconst 0, 1) := by decide +kernel
theorem dX7_begins_1 : decode cX7_begins 1 = .ok (.istore_n 1, 1) := by decide +kernel
theorem dX7_begins_2 : decode cX7_begins 2 = .ok (.iload_n 1, 1) := by decide +kernel
theorem dX7_begins_3 : decode cX7_begins 3 = .ok (.sipush 242, 3) := by decide +kernel
theorem dX7_begins_6 : decode cX7_begins 6 = .ok (.if_icmp .ge 16, 3) := by decide +kernel
theorem dX7_begins_9 : decode cX7_begins 9 = .ok (.aload_n 0, 1) := by decide +kernel
theorem dX7_begins_10 : decode cX7_begins 10 = .ok (.getfield 7, 3) := by decide +kernel
theorem dX7_begins_13 : decode cX7_begins 13 = .ok (.iload_n 1, 1) := by decide +kernel
theorem dX7_begins_14 : decode cX7_begins 14 = .ok (.iconst 0, 1) := by decide +kernel
theorem dX7_begins_15 : decode cX7_begins 15 = .ok (.iastore, 1) := by decide +kernel
theorem dX7_begins_16 : decode cX7_begins 16 = .ok (.iinc 1 1, 3) := by decide +kernel
theorem dX7_begins_19 : decode cX7_begins 19 = .ok (.goto (-17), 3) := by decide +kernel
theorem dX7_begins_22 : decode cX7_begins 22 = .ok (.iconst 0, 1) := by decide +kernel
theorem dX7_begins_23 : decode cX7_begins 23 = .ok (.istore_n 1, 1) := by decide +kernel
theorem dX7_begins_24 : decode cX7_begins 24 = .ok (.iload_n 1, 1) := by decide +kernel
theorem dX7_begins_25 : decode cX7_begins 25 = .ok (.bipush 20, 2) := by decide +kernel
theorem dX7_begins_27 : decode cX7_begins 27 = .ok (.if_icmp .ge 31, 3) := by decide +kernel
theorem dX7_begins_30 : decode cX7_begins 30 = .ok (.aload_n 0, 1) := by decide +kernel
theorem dX7_begins_31 : decode cX7_begins 31 = .ok (.getfield 7, 3) := by decide +kernel
theorem dX7_begins_34 : decode cX7_begins 34 = .ok (.iload_n 1, 1) := by decide +kernel
theorem dX7_begins_35 : decode cX7_begins 35 = .ok (.iconst 0, 1) := by decide +kernel
theorem dX7_begins_36 : decode cX7_begins 36 = .ok (.invokestatic 36, 3) := by decide +kernel
theorem dX7_begins_39 : decode cX7_begins 39 = .ok (.iconst 3, 1) := by decide +kernel
theorem dX7_begins_40 : decode cX7_begins 40 = .ok (.iastore, 1) := by decide +kernel
theorem dX7_begins_41 : decode cX7_begins 41 = .ok (.aload_n 0, 1) := by decide +kernel
theorem dX7_begins_42 : decode cX7_begins 42 = .ok (.getfield 7, 3) := by decide +kernel
theorem dX7_begins_45 : decode cX7_begins 45 = .ok (.iload_n 1, 1) := by decide +kernel
theorem dX7_begins_46 : decode cX7_begins 46 = .ok (.iconst 2, 1) := by decide +kernel
theorem dX7_begins_47 : decode cX7_begins 47 = .ok (.invokestatic 36, 3) := by decide +kernel
theorem dX7_begins_50 : decode cX7_begins 50 = .ok (.iconst (-1), 1) := by decide +kernel
theorem dX7_begins_51 : decode cX7_begins 51 = .ok (.iastore, 1) := by decide +kernel
theorem dX7_begins_52 : decode cX7_begins 52 = .ok (.iinc 1 1, 3) := by decide +kernel
theorem dX7_begins_55 : decode cX7_begins 55 = .ok (.goto (-31), 3) := by decide +kernel
theorem dX7_begins_58 : decode cX7_begins 58 = .ok (.iconst 0, 1) := by decide +kernel
theorem dX7_begins_59 : decode cX7_begins 59 = .ok (.istore_n 1, 1) := by decide +kernel
theorem dX7_begins_60 : decode cX7_begins 60 = .ok (.iload_n 1, 1) := by decide +kernel
theorem dX7_begins_61 : decode cX7_begins 61 = .ok (.bipush 120, 2) := by decide +kernel
theorem dX7_begins_63 : decode cX7_begins 63 = .ok (.if_icmp .ge 19, 3) := by decide +kernel
theorem dX7_begins_66 : decode cX7_begins 66 = .ok (.aload_n 0, 1) := by decide +kernel
theorem dX7_begins_67 : decode cX7_begins 67 = .ok (.getfield 7, 3) := by decide +kernel
theorem dX7_begins_70 : decode cX7_begins 70 = .ok (.bipush 85, 2) := by decide +kernel
theorem dX7_begins_72 : decode cX7_begins 72 = .ok (.iload_n 1, 1) := by decide +kernel
theorem dX7_begins_73 : decode cX7_begins 73 = .ok (.iadd, 1) := by decide +kernel
theorem dX7_begins_74 : decode cX7_begins 74 = .ok (.iconst (-1), 1) := by decide +kernel
theorem dX7_begins_75 : decode cX7_begins 75 = .ok (.iastore, 1) := by decide +kernel
theorem dX7_begins_76 : decode cX7_begins 76 = .ok (.iinc 1 1, 3) := by decide +kernel
theorem dX7_begins_79 : decode cX7_begins 79 = .ok (.goto (-19), 3) := by decide +kernel
theorem dX7_begins_82 : decode cX7_begins 82 = .ok (.aload_n 0, 1) := by decide +kernel
theorem dX7_begins_83 : decode cX7_begins 83 = .ok (.getfield 7, 3) := by decide +kernel
theorem dX7_begins_86 : decode cX7_begins 86 = .ok (.sipush 231, 3) := by decide +kernel
theorem dX7_begins_89 : decode cX7_begins 89 = .ok (.iconst 4, 1) := by decide +kernel
theorem dX7_begins_90 : decode cX7_begins 90 = .ok (.iastore, 1) := by decide +kernel
theorem dX7_begins_91 : decode cX7_begins 91 = .ok (.aload_n 0, 1) := by decide +kernel
theorem dX7_begins_92 : decode cX7_begins 92 = .ok (.getfield 7, 3) := by decide +kernel
theorem dX7_begins_95 : decode cX7_begins 95 = .ok (.sipush 232, 3) := by decide +kernel
theorem dX7_begins_98 : decode cX7_begins 98 = .ok (.iconst 5, 1) := by decide +kernel
theorem dX7_begins_99 : decode cX7_begins 99 = .ok (.iastore, 1) := by decide +kernel
theorem dX7_begins_100 : decode cX7_begins 100 = .ok (.aload_n 0, 1) := by decide +kernel
theorem dX7_begins_101 : decode cX7_begins 101 = .ok (.getfield 7, 3) := by decide +kernel
theorem dX7_begins_104 : decode cX7_begins 104 = .ok (.sipush 233, 3) := by decide +kernel
theorem dX7_begins_107 : decode cX7_begins 107 = .ok (.iconst 3, 1) := by decide +kernel
theorem dX7_begins_108 : decode cX7_begins 108 = .ok (.iastore, 1) := by decide +kernel
theorem dX7_begins_109 : decode cX7_begins 109 = .ok (.return_, 1) := by decide +kernel
theorem dX7_of_0 : decode cX7_of 0 = .ok (.iconst 1, 1) := by decide +kernel
theorem dX7_of_1 : decode cX7_of 1 = .ok (.iconst 4, 1) := by decide +kernel
theorem dX7_of_2 : decode cX7_of 2 = .ok (.iload_n 0, 1) := by decide +kernel
theorem dX7_of_3 : decode cX7_of 3 = .ok (.imul, 1) := by decide +kernel
theorem dX7_of_4 : decode cX7_of 4 = .ok (.iadd, 1) := by decide +kernel
theorem dX7_of_5 : decode cX7_of 5 = .ok (.iload_n 1, 1) := by decide +kernel
theorem dX7_of_6 : decode cX7_of 6 = .ok (.iadd, 1) := by decide +kernel
theorem dX7_of_7 : decode cX7_of 7 = .ok (.ireturn, 1) := by decide +kernel
theorem dX7_ofWeek_0 : decode cX7_ofWeek 0 = .ok (.bipush 25, 2) := by decide +kernel
theorem dX7_ofWeek_2 : decode cX7_ofWeek 2 = .ok (.iconst 3, 1) := by decide +kernel
theorem dX7_ofWeek_3 : decode cX7_ofWeek 3 = .ok (.iload_n 0, 1) := by decide +kernel
theorem dX7_ofWeek_4 : decode cX7_ofWeek 4 = .ok (.imul, 1) := by decide +kernel
theorem dX7_ofWeek_5 : decode cX7_ofWeek 5 = .ok (.iadd, 1) := by decide +kernel
theorem dX7_ofWeek_6 : decode cX7_ofWeek 6 = .ok (.iload_n 1, 1) := by decide +kernel
theorem dX7_ofWeek_7 : decode cX7_ofWeek 7 = .ok (.iadd, 1) := by decide +kernel
theorem dX7_ofWeek_8 : decode cX7_ofWeek 8 = .ok (.ireturn, 1) := by decide +kernel
theorem dX7_ofBid_0 : decode cX7_ofBid 0 = .ok (.bipush 85, 2) := by decide +kernel
theorem dX7_ofBid_2 : decode cX7_ofBid 2 = .ok (.bipush 20, 2) := by decide +kernel
theorem dX7_ofBid_4 : decode cX7_ofBid 4 = .ok (.iload_n 0, 1) := by decide +kernel
theorem dX7_ofBid_5 : decode cX7_ofBid 5 = .ok (.imul, 1) := by decide +kernel
theorem dX7_ofBid_6 : decode cX7_ofBid 6 = .ok (.iadd, 1) := by decide +kernel
theorem dX7_ofBid_7 : decode cX7_ofBid 7 = .ok (.iload_n 1, 1) := by decide +kernel
theorem dX7_ofBid_8 : decode cX7_ofBid 8 = .ok (.iadd, 1) := by decide +kernel
theorem dX7_ofBid_9 : decode cX7_ofBid 9 = .ok (.ireturn, 1) := by decide +kernel
theorem dX7_ofOffer_0 : decode cX7_ofOffer 0 = .ok (.sipush 206, 3) := by decide +kernel
theorem dX7_ofOffer_3 : decode cX7_ofOffer 3 = .ok (.iconst 3, 1) := by decide +kernel
theorem dX7_ofOffer_4 : decode cX7_ofOffer 4 = .ok (.iload_n 0, 1) := by decide +kernel
theorem dX7_ofOffer_5 : decode cX7_ofOffer 5 = .ok (.imul, 1) := by decide +kernel
theorem dX7_ofOffer_6 : decode cX7_ofOffer 6 = .ok (.iadd, 1) := by decide +kernel
theorem dX7_ofOffer_7 : decode cX7_ofOffer 7 = .ok (.iload_n 1, 1) := by decide +kernel
theorem dX7_ofOffer_8 : decode cX7_ofOffer 8 = .ok (.iadd, 1) := by decide +kernel
theorem dX7_ofOffer_9 : decode cX7_ofOffer 9 = .ok (.ireturn, 1) := by decide +kernel
theorem dX7_isOwner_0 : decode cX7_isOwner 0 = .ok (.iload_n 1, 1) := by decide +kernel
theorem dX7_isOwner_1 : decode cX7_isOwner 1 = .ok (.iconst 0, 1) := by decide +kernel
theorem dX7_isOwner_2 : decode cX7_isOwner 2 = .ok (.aload_n 0, 1) := by decide +kernel
theorem dX7_isOwner_3 : decode cX7_isOwner 3 = .ok (.getfield 7, 3) := by decide +kernel
theorem dX7_isOwner_6 : decode cX7_isOwner 6 = .ok (.iconst 0, 1) := by decide +kernel
theorem dX7_isOwner_7 : decode cX7_isOwner 7 = .ok (.iaload, 1) := by decide +kernel
theorem dX7_isOwner_8 : decode cX7_isOwner 8 = .ok (.iconst 1, 1) := by decide +kernel
theorem dX7_isOwner_9 : decode cX7_isOwner 9 = .ok (.isub, 1) := by decide +kernel
theorem dX7_isOwner_10 : decode cX7_isOwner 10 = .ok (.invokestatic 40, 3) := by decide +kernel
theorem dX7_isOwner_13 : decode cX7_isOwner 13 = .ok (.ireturn, 1) := by decide +kernel
theorem dX7_isWeek_0 : decode cX7_isWeek 0 = .ok (.iload_n 0, 1) := by decide +kernel
theorem dX7_isWeek_1 : decode cX7_isWeek 1 = .ok (.iconst 0, 1) := by decide +kernel
theorem dX7_isWeek_2 : decode cX7_isWeek 2 = .ok (.bipush 19, 2) := by decide +kernel
theorem dX7_isWeek_4 : decode cX7_isWeek 4 = .ok (.invokestatic 40, 3) := by decide +kernel
theorem dX7_isWeek_7 : decode cX7_isWeek 7 = .ok (.ireturn, 1) := by decide +kernel
theorem dX7_areThere_0 : decode cX7_areThere 0 = .ok (.aload_n 0, 1) := by decide +kernel
theorem dX7_areThere_1 : decode cX7_areThere 1 = .ok (.iload_n 1, 1) := by decide +kernel
theorem dX7_areThere_2 : decode cX7_areThere 2 = .ok (.invokevirtual 44, 3) := by decide +kernel
theorem dX7_areThere_5 : decode cX7_areThere 5 = .ok (.ifCond .eq 14, 3) := by decide +kernel
theorem dX7_areThere_8 : decode cX7_areThere 8 = .ok (.iload_n 2, 1) := by decide +kernel
theorem dX7_areThere_9 : decode cX7_areThere 9 = .ok (.invokestatic 48, 3) := by decide +kernel
theorem dX7_areThere_12 : decode cX7_areThere 12 = .ok (.ifCond .eq 7, 3) := by decide +kernel
theorem dX7_areThere_15 : decode cX7_areThere 15 = .ok (.iconst 1, 1) := by decide +kernel
theorem dX7_areThere_16 : decode cX7_areThere 16 = .ok (.goto 4, 3) := by decide +kernel
theorem dX7_areThere_19 : decode cX7_areThere 19 = .ok (.iconst 0, 1) := by decide +kernel
theorem dX7_areThere_20 : decode cX7_areThere 20 = .ok (.ireturn, 1) := by decide +kernel
theorem dX7_remember_0 : decode cX7_remember 0 = .ok (.aload_n 0, 1) := by decide +kernel
theorem dX7_remember_1 : decode cX7_remember 1 = .ok (.getfield 51, 3) := by decide +kernel
theorem dX7_remember_4 : decode cX7_remember 4 = .ok (.bipush 14, 2) := by decide +kernel
theorem dX7_remember_6 : decode cX7_remember 6 = .ok (.if_icmp .ne 44, 3) := by decide +kernel
theorem dX7_remember_9 : decode cX7_remember 9 = .ok (.iconst 0, 1) := by decide +kernel
theorem dX7_remember_10 : decode cX7_remember 10 = .ok (.istore_n 1, 1) := by decide +kernel
theorem dX7_remember_11 : decode cX7_remember 11 = .ok (.iload_n 1, 1) := by decide +kernel
theorem dX7_remember_12 : decode cX7_remember 12 = .ok (.sipush 3146, 3) := by decide +kernel
theorem dX7_remember_15 : decode cX7_remember 15 = .ok (.if_icmp .ge 25, 3) := by decide +kernel
theorem dX7_remember_18 : decode cX7_remember 18 = .ok (.aload_n 0, 1) := by decide +kernel
theorem dX7_remember_19 : decode cX7_remember 19 = .ok (.getfield 16, 3) := by decide +kernel
theorem dX7_remember_22 : decode cX7_remember 22 = .ok (.iload_n 1, 1) := by decide +kernel
theorem dX7_remember_23 : decode cX7_remember 23 = .ok (.aload_n 0, 1) := by decide +kernel
theorem dX7_remember_24 : decode cX7_remember 24 = .ok (.getfield 16, 3) := by decide +kernel
theorem dX7_remember_27 : decode cX7_remember 27 = .ok (.iload_n 1, 1) := by decide +kernel
theorem dX7_remember_28 : decode cX7_remember 28 = .ok (.sipush 242, 3) := by decide +kernel
theorem dX7_remember_31 : decode cX7_remember 31 = .ok (.iadd, 1) := by decide +kernel
theorem dX7_remember_32 : decode cX7_remember 32 = .ok (.iaload, 1) := by decide +kernel
theorem dX7_remember_33 : decode cX7_remember 33 = .ok (.iastore, 1) := by decide +kernel
theorem dX7_remember_34 : decode cX7_remember 34 = .ok (.iinc 1 1, 3) := by decide +kernel
theorem dX7_remember_37 : decode cX7_remember 37 = .ok (.goto (-26), 3) := by decide +kernel
theorem dX7_remember_40 : decode cX7_remember 40 = .ok (.aload_n 0, 1) := by decide +kernel
theorem dX7_remember_41 : decode cX7_remember 41 = .ok (.dup, 1) := by decide +kernel
theorem dX7_remember_42 : decode cX7_remember 42 = .ok (.getfield 51, 3) := by decide +kernel
theorem dX7_remember_45 : decode cX7_remember 45 = .ok (.iconst 1, 1) := by decide +kernel
theorem dX7_remember_46 : decode cX7_remember 46 = .ok (.isub, 1) := by decide +kernel
theorem dX7_remember_47 : decode cX7_remember 47 = .ok (.putfield 51, 3) := by decide +kernel
theorem dX7_remember_50 : decode cX7_remember 50 = .ok (.iconst 0, 1) := by decide +kernel
theorem dX7_remember_51 : decode cX7_remember 51 = .ok (.istore_n 1, 1) := by decide +kernel
theorem dX7_remember_52 : decode cX7_remember 52 = .ok (.iload_n 1, 1) := by decide +kernel
theorem dX7_remember_53 : decode cX7_remember 53 = .ok (.sipush 242, 3) := by decide +kernel
theorem dX7_remember_56 : decode cX7_remember 56 = .ok (.if_icmp .ge 30, 3) := by decide +kernel
theorem dX7_remember_59 : decode cX7_remember 59 = .ok (.aload_n 0, 1) := by decide +kernel
theorem dX7_remember_60 : decode cX7_remember 60 = .ok (.getfield 16, 3) := by decide +kernel
theorem dX7_remember_63 : decode cX7_remember 63 = .ok (.sipush 242, 3) := by decide +kernel
theorem dX7_remember_66 : decode cX7_remember 66 = .ok (.aload_n 0, 1) := by decide +kernel
theorem dX7_remember_67 : decode cX7_remember 67 = .ok (.getfield 51, 3) := by decide +kernel
theorem dX7_remember_70 : decode cX7_remember 70 = .ok (.imul, 1) := by decide +kernel
theorem dX7_remember_71 : decode cX7_remember 71 = .ok (.iload_n 1, 1) := by decide +kernel
theorem dX7_remember_72 : decode cX7_remember 72 = .ok (.iadd, 1) := by decide +kernel
theorem dX7_remember_73 : decode cX7_remember 73 = .ok (.aload_n 0, 1) := by decide +kernel
theorem dX7_remember_74 : decode cX7_remember 74 = .ok (.getfield 7, 3) := by decide +kernel
theorem dX7_remember_77 : decode cX7_remember 77 = .ok (.iload_n 1, 1) := by decide +kernel
theorem dX7_remember_78 : decode cX7_remember 78 = .ok (.iaload, 1) := by decide +kernel
theorem dX7_remember_79 : decode cX7_remember 79 = .ok (.iastore, 1) := by decide +kernel
theorem dX7_remember_80 : decode cX7_remember 80 = .ok (.iinc 1 1, 3) := by decide +kernel
theorem dX7_remember_83 : decode cX7_remember 83 = .ok (.goto (-31), 3) := by decide +kernel
theorem dX7_remember_86 : decode cX7_remember 86 = .ok (.aload_n 0, 1) := by decide +kernel
theorem dX7_remember_87 : decode cX7_remember 87 = .ok (.dup, 1) := by decide +kernel
theorem dX7_remember_88 : decode cX7_remember 88 = .ok (.getfield 51, 3) := by decide +kernel
theorem dX7_remember_91 : decode cX7_remember 91 = .ok (.iconst 1, 1) := by decide +kernel
theorem dX7_remember_92 : decode cX7_remember 92 = .ok (.iadd, 1) := by decide +kernel
theorem dX7_remember_93 : decode cX7_remember 93 = .ok (.putfield 51, 3) := by decide +kernel
theorem dX7_remember_96 : decode cX7_remember 96 = .ok (.return_, 1) := by decide +kernel
theorem dX7_putAside_0 : decode cX7_putAside 0 = .ok (.iconst 0, 1) := by decide +kernel
theorem dX7_putAside_1 : decode cX7_putAside 1 = .ok (.istore_n 1, 1) := by decide +kernel
theorem dX7_putAside_2 : decode cX7_putAside 2 = .ok (.iload_n 1, 1) := by decide +kernel
theorem dX7_putAside_3 : decode cX7_putAside 3 = .ok (.sipush 242, 3) := by decide +kernel
theorem dX7_putAside_6 : decode cX7_putAside 6 = .ok (.if_icmp .ge 21, 3) := by decide +kernel
theorem dX7_putAside_9 : decode cX7_putAside 9 = .ok (.aload_n 0, 1) := by decide +kernel
theorem dX7_putAside_10 : decode cX7_putAside 10 = .ok (.getfield 13, 3) := by decide +kernel
theorem dX7_putAside_13 : decode cX7_putAside 13 = .ok (.iload_n 1, 1) := by decide +kernel
theorem dX7_putAside_14 : decode cX7_putAside 14 = .ok (.aload_n 0, 1) := by decide +kernel
theorem dX7_putAside_15 : decode cX7_putAside 15 = .ok (.getfield 7, 3) := by decide +kernel
theorem dX7_putAside_18 : decode cX7_putAside 18 = .ok (.iload_n 1, 1) := by decide +kernel
theorem dX7_putAside_19 : decode cX7_putAside 19 = .ok (.iaload, 1) := by decide +kernel
theorem dX7_putAside_20 : decode cX7_putAside 20 = .ok (.iastore, 1) := by decide +kernel
theorem dX7_putAside_21 : decode cX7_putAside 21 = .ok (.iinc 1 1, 3) := by decide +kernel
theorem dX7_putAside_24 : decode cX7_putAside 24 = .ok (.goto (-22), 3) := by decide +kernel
theorem dX7_putAside_27 : decode cX7_putAside 27 = .ok (.return_, 1) := by decide +kernel
theorem dX7_putBack_0 : decode cX7_putBack 0 = .ok (.iconst 0, 1) := by decide +kernel
theorem dX7_putBack_1 : decode cX7_putBack 1 = .ok (.istore_n 1, 1) := by decide +kernel
theorem dX7_putBack_2 : decode cX7_putBack 2 = .ok (.iload_n 1, 1) := by decide +kernel
theorem dX7_putBack_3 : decode cX7_putBack 3 = .ok (.sipush 242, 3) := by decide +kernel
theorem dX7_putBack_6 : decode cX7_putBack 6 = .ok (.if_icmp .ge 21, 3) := by decide +kernel
theorem dX7_putBack_9 : decode cX7_putBack 9 = .ok (.aload_n 0, 1) := by decide +kernel
theorem dX7_putBack_10 : decode cX7_putBack 10 = .ok (.getfield 7, 3) := by decide +kernel
theorem dX7_putBack_13 : decode cX7_putBack 13 = .ok (.iload_n 1, 1) := by decide +kernel
theorem dX7_putBack_14 : decode cX7_putBack 14 = .ok (.aload_n 0, 1) := by decide +kernel
theorem dX7_putBack_15 : decode cX7_putBack 15 = .ok (.getfield 13, 3) := by decide +kernel
theorem dX7_putBack_18 : decode cX7_putBack 18 = .ok (.iload_n 1, 1) := by decide +kernel
theorem dX7_putBack_19 : decode cX7_putBack 19 = .ok (.iaload, 1) := by decide +kernel
theorem dX7_putBack_20 : decode cX7_putBack 20 = .ok (.iastore, 1) := by decide +kernel
theorem dX7_putBack_21 : decode cX7_putBack 21 = .ok (.iinc 1 1, 3) := by decide +kernel
theorem dX7_putBack_24 : decode cX7_putBack 24 = .ok (.goto (-22), 3) := by decide +kernel
theorem dX7_putBack_27 : decode cX7_putBack 27 = .ok (.return_, 1) := by decide +kernel
theorem dX7_held_0 : decode cX7_held 0 = .ok (.iconst 0, 1) := by decide +kernel
theorem dX7_held_1 : decode cX7_held 1 = .ok (.istore_n 2, 1) := by decide +kernel
theorem dX7_held_2 : decode cX7_held 2 = .ok (.iconst 0, 1) := by decide +kernel
theorem dX7_held_3 : decode cX7_held 3 = .ok (.istore_n 3, 1) := by decide +kernel
theorem dX7_held_4 : decode cX7_held 4 = .ok (.iload_n 3, 1) := by decide +kernel
theorem dX7_held_5 : decode cX7_held 5 = .ok (.bipush 20, 2) := by decide +kernel
theorem dX7_held_7 : decode cX7_held 7 = .ok (.if_icmp .ge 31, 3) := by decide +kernel
theorem dX7_held_10 : decode cX7_held 10 = .ok (.iload_n 2, 1) := by decide +kernel
theorem dX7_held_11 : decode cX7_held 11 = .ok (.aload_n 0, 1) := by decide +kernel
theorem dX7_held_12 : decode cX7_held 12 = .ok (.getfield 7, 3) := by decide +kernel
theorem dX7_held_15 : decode cX7_held 15 = .ok (.iload_n 3, 1) := by decide +kernel
theorem dX7_held_16 : decode cX7_held 16 = .ok (.iconst 2, 1) := by decide +kernel
theorem dX7_held_17 : decode cX7_held 17 = .ok (.invokestatic 36, 3) := by decide +kernel
theorem dX7_held_20 : decode cX7_held 20 = .ok (.iaload, 1) := by decide +kernel
theorem dX7_held_21 : decode cX7_held 21 = .ok (.iload_n 1, 1) := by decide +kernel
theorem dX7_held_22 : decode cX7_held 22 = .ok (.if_icmp .ne 7, 3) := by decide +kernel
theorem dX7_held_25 : decode cX7_held 25 = .ok (.iconst 1, 1) := by decide +kernel
theorem dX7_held_26 : decode cX7_held 26 = .ok (.goto 4, 3) := by decide +kernel
theorem dX7_held_29 : decode cX7_held 29 = .ok (.iconst 0, 1) := by decide +kernel
theorem dX7_held_30 : decode cX7_held 30 = .ok (.iadd, 1) := by decide +kernel
theorem dX7_held_31 : decode cX7_held 31 = .ok (.istore_n 2, 1) := by decide +kernel
theorem dX7_held_32 : decode cX7_held 32 = .ok (.iinc 3 1, 3) := by decide +kernel
theorem dX7_held_35 : decode cX7_held 35 = .ok (.goto (-31), 3) := by decide +kernel
theorem dX7_held_38 : decode cX7_held 38 = .ok (.iload_n 2, 1) := by decide +kernel
theorem dX7_held_39 : decode cX7_held 39 = .ok (.ireturn, 1) := by decide +kernel
theorem dX7_gives_0 : decode cX7_gives 0 = .ok (.aload_n 0, 1) := by decide +kernel
theorem dX7_gives_1 : decode cX7_gives 1 = .ok (.getfield 7, 3) := by decide +kernel
theorem dX7_gives_4 : decode cX7_gives 4 = .ok (.sipush 231, 3) := by decide +kernel
theorem dX7_gives_7 : decode cX7_gives 7 = .ok (.iaload, 1) := by decide +kernel
theorem dX7_gives_8 : decode cX7_gives 8 = .ok (.aload_n 0, 1) := by decide +kernel
theorem dX7_gives_9 : decode cX7_gives 9 = .ok (.getfield 7, 3) := by decide +kernel
theorem dX7_gives_12 : decode cX7_gives 12 = .ok (.iload_n 1, 1) := by decide +kernel
theorem dX7_gives_13 : decode cX7_gives 13 = .ok (.iconst 0, 1) := by decide +kernel
theorem dX7_gives_14 : decode cX7_gives 14 = .ok (.invokestatic 54, 3) := by decide +kernel
theorem dX7_gives_17 : decode cX7_gives 17 = .ok (.iaload, 1) := by decide +kernel
theorem dX7_gives_18 : decode cX7_gives 18 = .ok (.imul, 1) := by decide +kernel
theorem dX7_gives_19 : decode cX7_gives 19 = .ok (.istore_n 2, 1) := by decide +kernel
theorem dX7_gives_20 : decode cX7_gives 20 = .ok (.aload_n 0, 1) := by decide +kernel
theorem dX7_gives_21 : decode cX7_gives 21 = .ok (.getfield 7, 3) := by decide +kernel
theorem dX7_gives_24 : decode cX7_gives 24 = .ok (.iload_n 1, 1) := by decide +kernel
theorem dX7_gives_25 : decode cX7_gives 25 = .ok (.iconst 1, 1) := by decide +kernel
theorem dX7_gives_26 : decode cX7_gives 26 = .ok (.invokestatic 54, 3) := by decide +kernel
theorem dX7_gives_29 : decode cX7_gives 29 = .ok (.dup2, 1) := by decide +kernel
theorem dX7_gives_30 : decode cX7_gives 30 = .ok (.iaload, 1) := by decide +kernel
theorem dX7_gives_31 : decode cX7_gives 31 = .ok (.iload_n 2, 1) := by decide +kernel
theorem dX7_gives_32 : decode cX7_gives 32 = .ok (.iadd, 1) := by decide +kernel
theorem dX7_gives_33 : decode cX7_gives 33 = .ok (.iastore, 1) := by decide +kernel
theorem dX7_gives_34 : decode cX7_gives 34 = .ok (.aload_n 0, 1) := by decide +kernel
theorem dX7_gives_35 : decode cX7_gives 35 = .ok (.getfield 7, 3) := by decide +kernel
theorem dX7_gives_38 : decode cX7_gives 38 = .ok (.sipush 234, 3) := by decide +kernel
theorem dX7_gives_41 : decode cX7_gives 41 = .ok (.dup2, 1) := by decide +kernel
theorem dX7_gives_42 : decode cX7_gives 42 = .ok (.iaload, 1) := by decide +kernel
theorem dX7_gives_43 : decode cX7_gives 43 = .ok (.iload_n 2, 1) := by decide +kernel
theorem dX7_gives_44 : decode cX7_gives 44 = .ok (.iadd, 1) := by decide +kernel
theorem dX7_gives_45 : decode cX7_gives 45 = .ok (.iastore, 1) := by decide +kernel
theorem dX7_gives_46 : decode cX7_gives 46 = .ok (.return_, 1) := by decide +kernel
theorem dX7_spends_0 : decode cX7_spends 0 = .ok (.aload_n 0, 1) := by decide +kernel
theorem dX7_spends_1 : decode cX7_spends 1 = .ok (.getfield 7, 3) := by decide +kernel
theorem dX7_spends_4 : decode cX7_spends 4 = .ok (.iload_n 1, 1) := by decide +kernel
theorem dX7_spends_5 : decode cX7_spends 5 = .ok (.iconst 1, 1) := by decide +kernel
theorem dX7_spends_6 : decode cX7_spends 6 = .ok (.invokestatic 54, 3) := by decide +kernel
theorem dX7_spends_9 : decode cX7_spends 9 = .ok (.dup2, 1) := by decide +kernel
theorem dX7_spends_10 : decode cX7_spends 10 = .ok (.iaload, 1) := by decide +kernel
theorem dX7_spends_11 : decode cX7_spends 11 = .ok (.iload_n 2, 1) := by decide +kernel
theorem dX7_spends_12 : decode cX7_spends 12 = .ok (.isub, 1) := by decide +kernel
theorem dX7_spends_13 : decode cX7_spends 13 = .ok (.iastore, 1) := by decide +kernel
theorem dX7_spends_14 : decode cX7_spends 14 = .ok (.aload_n 0, 1) := by decide +kernel
theorem dX7_spends_15 : decode cX7_spends 15 = .ok (.getfield 7, 3) := by decide +kernel
theorem dX7_spends_18 : decode cX7_spends 18 = .ok (.sipush 235, 3) := by decide +kernel
theorem dX7_spends_21 : decode cX7_spends 21 = .ok (.dup2, 1) := by decide +kernel
theorem dX7_spends_22 : decode cX7_spends 22 = .ok (.iaload, 1) := by decide +kernel
theorem dX7_spends_23 : decode cX7_spends 23 = .ok (.iload_n 2, 1) := by decide +kernel
theorem dX7_spends_24 : decode cX7_spends 24 = .ok (.iadd, 1) := by decide +kernel
theorem dX7_spends_25 : decode cX7_spends 25 = .ok (.iastore, 1) := by decide +kernel
theorem dX7_spends_26 : decode cX7_spends 26 = .ok (.return_, 1) := by decide +kernel
theorem dX7_hindrance_0 : decode cX7_hindrance 0 = .ok (.aload_n 0, 1) := by decide +kernel
theorem dX7_hindrance_1 : decode cX7_hindrance 1 = .ok (.getfield 7, 3) := by decide +kernel
theorem dX7_hindrance_4 : decode cX7_hindrance 4 = .ok (.iload_n 2, 1) := by decide +kernel
theorem dX7_hindrance_5 : decode cX7_hindrance 5 = .ok (.iconst 1, 1) := by decide +kernel
theorem dX7_hindrance_6 : decode cX7_hindrance 6 = .ok (.invokestatic 36, 3) := by decide +kernel
theorem dX7_hindrance_9 : decode cX7_hindrance 9 = .ok (.iaload, 1) := by decide +kernel
theorem dX7_hindrance_10 : decode cX7_hindrance 10 = .ok (.iconst 1, 1) := by decide +kernel
theorem dX7_hindrance_11 : decode cX7_hindrance 11 = .ok (.if_icmp .eq 17, 3) := by decide +kernel
theorem dX7_hindrance_14 : decode cX7_hindrance 14 = .ok (.aload_n 0, 1) := by decide +kernel
theorem dX7_hindrance_15 : decode cX7_hindrance 15 = .ok (.getfield 7, 3) := by decide +kernel
theorem dX7_hindrance_18 : decode cX7_hindrance 18 = .ok (.iload_n 2, 1) := by decide +kernel
theorem dX7_hindrance_19 : decode cX7_hindrance 19 = .ok (.iconst 2, 1) := by decide +kernel
theorem dX7_hindrance_20 : decode cX7_hindrance 20 = .ok (.invokestatic 36, 3) := by decide +kernel
theorem dX7_hindrance_23 : decode cX7_hindrance 23 = .ok (.iaload, 1) := by decide +kernel
theorem dX7_hindrance_24 : decode cX7_hindrance 24 = .ok (.iconst (-1), 1) := by decide +kernel
theorem dX7_hindrance_25 : decode cX7_hindrance 25 = .ok (.if_icmp .eq 23, 3) := by decide +kernel
theorem dX7_hindrance_28 : decode cX7_hindrance 28 = .ok (.aload_n 0, 1) := by decide +kernel
theorem dX7_hindrance_29 : decode cX7_hindrance 29 = .ok (.getfield 7, 3) := by decide +kernel
theorem dX7_hindrance_32 : decode cX7_hindrance 32 = .ok (.iload_n 2, 1) := by decide +kernel
theorem dX7_hindrance_33 : decode cX7_hindrance 33 = .ok (.iconst 1, 1) := by decide +kernel
theorem dX7_hindrance_34 : decode cX7_hindrance 34 = .ok (.invokestatic 36, 3) := by decide +kernel
theorem dX7_hindrance_37 : decode cX7_hindrance 37 = .ok (.iaload, 1) := by decide +kernel
theorem dX7_hindrance_38 : decode cX7_hindrance 38 = .ok (.iconst 1, 1) := by decide +kernel
theorem dX7_hindrance_39 : decode cX7_hindrance 39 = .ok (.if_icmp .ne 7, 3) := by decide +kernel
theorem dX7_hindrance_42 : decode cX7_hindrance 42 = .ok (.iconst 1, 1) := by decide +kernel
theorem dX7_hindrance_43 : decode cX7_hindrance 43 = .ok (.goto 4, 3) := by decide +kernel
theorem dX7_hindrance_46 : decode cX7_hindrance 46 = .ok (.iconst 2, 1) := by decide +kernel
theorem dX7_hindrance_47 : decode cX7_hindrance 47 = .ok (.ireturn, 1) := by decide +kernel
theorem dX7_hindrance_48 : decode cX7_hindrance 48 = .ok (.aload_n 0, 1) := by decide +kernel
theorem dX7_hindrance_49 : decode cX7_hindrance 49 = .ok (.iload_n 1, 1) := by decide +kernel
theorem dX7_hindrance_50 : decode cX7_hindrance 50 = .ok (.invokevirtual 57, 3) := by decide +kernel
theorem dX7_hindrance_53 : decode cX7_hindrance 53 = .ok (.aload_n 0, 1) := by decide +kernel
theorem dX7_hindrance_54 : decode cX7_hindrance 54 = .ok (.getfield 7, 3) := by decide +kernel
theorem dX7_hindrance_57 : decode cX7_hindrance 57 = .ok (.sipush 233, 3) := by decide +kernel
theorem dX7_hindrance_60 : decode cX7_hindrance 60 = .ok (.iaload, 1) := by decide +kernel
theorem dX7_hindrance_61 : decode cX7_hindrance 61 = .ok (.if_icmp .lt 5, 3) := by decide +kernel
theorem dX7_hindrance_64 : decode cX7_hindrance 64 = .ok (.iconst 3, 1) := by decide +kernel
theorem dX7_hindrance_65 : decode cX7_hindrance 65 = .ok (.ireturn, 1) := by decide +kernel
theorem dX7_hindrance_66 : decode cX7_hindrance 66 = .ok (.aload_n 0, 1) := by decide +kernel
theorem dX7_hindrance_67 : decode cX7_hindrance 67 = .ok (.getfield 7, 3) := by decide +kernel
theorem dX7_hindrance_70 : decode cX7_hindrance 70 = .ok (.iload_n 1, 1) := by decide +kernel
theorem dX7_hindrance_71 : decode cX7_hindrance 71 = .ok (.iconst 1, 1) := by decide +kernel
theorem dX7_hindrance_72 : decode cX7_hindrance 72 = .ok (.invokestatic 54, 3) := by decide +kernel
theorem dX7_hindrance_75 : decode cX7_hindrance 75 = .ok (.iaload, 1) := by decide +kernel
theorem dX7_hindrance_76 : decode cX7_hindrance 76 = .ok (.aload_n 0, 1) := by decide +kernel
theorem dX7_hindrance_77 : decode cX7_hindrance 77 = .ok (.getfield 7, 3) := by decide +kernel
theorem dX7_hindrance_80 : decode cX7_hindrance 80 = .ok (.iload_n 2, 1) := by decide +kernel
theorem dX7_hindrance_81 : decode cX7_hindrance 81 = .ok (.iconst 0, 1) := by decide +kernel
theorem dX7_hindrance_82 : decode cX7_hindrance 82 = .ok (.invokestatic 36, 3) := by decide +kernel
theorem dX7_hindrance_85 : decode cX7_hindrance 85 = .ok (.iaload, 1) := by decide +kernel
theorem dX7_hindrance_86 : decode cX7_hindrance 86 = .ok (.if_icmp .ge 7, 3) := by decide +kernel
theorem dX7_hindrance_89 : decode cX7_hindrance 89 = .ok (.iconst 4, 1) := by decide +kernel
theorem dX7_hindrance_90 : decode cX7_hindrance 90 = .ok (.goto 4, 3) := by decide +kernel
theorem dX7_hindrance_93 : decode cX7_hindrance 93 = .ok (.iconst 0, 1) := by decide +kernel
theorem dX7_hindrance_94 : decode cX7_hindrance 94 = .ok (.ireturn, 1) := by decide +kernel
theorem dX7_comes_0 : decode cX7_comes 0 = .ok (.aload_n 0, 1) := by decide +kernel
theorem dX7_comes_1 : decode cX7_comes 1 = .ok (.getfield 7, 3) := by decide +kernel
theorem dX7_comes_4 : decode cX7_comes 4 = .ok (.iconst 0, 1) := by decide +kernel
theorem dX7_comes_5 : decode cX7_comes 5 = .ok (.iaload, 1) := by decide +kernel
theorem dX7_comes_6 : decode cX7_comes 6 = .ok (.istore_n 2, 1) := by decide +kernel
theorem dX7_comes_7 : decode cX7_comes 7 = .ok (.aload_n 0, 1) := by decide +kernel
theorem dX7_comes_8 : decode cX7_comes 8 = .ok (.getfield 7, 3) := by decide +kernel
theorem dX7_comes_11 : decode cX7_comes 11 = .ok (.iconst 0, 1) := by decide +kernel
theorem dX7_comes_12 : decode cX7_comes 12 = .ok (.dup2, 1) := by decide +kernel
theorem dX7_comes_13 : decode cX7_comes 13 = .ok (.iaload, 1) := by decide +kernel
theorem dX7_comes_14 : decode cX7_comes 14 = .ok (.iconst 1, 1) := by decide +kernel
theorem dX7_comes_15 : decode cX7_comes 15 = .ok (.iadd, 1) := by decide +kernel
theorem dX7_comes_16 : decode cX7_comes 16 = .ok (.iastore, 1) := by decide +kernel
theorem dX7_comes_17 : decode cX7_comes 17 = .ok (.aload_n 0, 1) := by decide +kernel
theorem dX7_comes_18 : decode cX7_comes 18 = .ok (.getfield 7, 3) := by decide +kernel
theorem dX7_comes_21 : decode cX7_comes 21 = .ok (.iload_n 2, 1) := by decide +kernel
theorem dX7_comes_22 : decode cX7_comes 22 = .ok (.iconst 0, 1) := by decide +kernel
theorem dX7_comes_23 : decode cX7_comes 23 = .ok (.invokestatic 54, 3) := by decide +kernel
theorem dX7_comes_26 : decode cX7_comes 26 = .ok (.iload_n 1, 1) := by decide +kernel
theorem dX7_comes_27 : decode cX7_comes 27 = .ok (.iastore, 1) := by decide +kernel
theorem dX7_comes_28 : decode cX7_comes 28 = .ok (.aload_n 0, 1) := by decide +kernel
theorem dX7_comes_29 : decode cX7_comes 29 = .ok (.getfield 7, 3) := by decide +kernel
theorem dX7_comes_32 : decode cX7_comes 32 = .ok (.iload_n 2, 1) := by decide +kernel
theorem dX7_comes_33 : decode cX7_comes 33 = .ok (.iconst 1, 1) := by decide +kernel
theorem dX7_comes_34 : decode cX7_comes 34 = .ok (.invokestatic 54, 3) := by decide +kernel
theorem dX7_comes_37 : decode cX7_comes 37 = .ok (.iconst 0, 1) := by decide +kernel
theorem dX7_comes_38 : decode cX7_comes 38 = .ok (.iastore, 1) := by decide +kernel
theorem dX7_comes_39 : decode cX7_comes 39 = .ok (.aload_n 0, 1) := by decide +kernel
theorem dX7_comes_40 : decode cX7_comes 40 = .ok (.getfield 7, 3) := by decide +kernel
theorem dX7_comes_43 : decode cX7_comes 43 = .ok (.iload_n 2, 1) := by decide +kernel
theorem dX7_comes_44 : decode cX7_comes 44 = .ok (.iconst 2, 1) := by decide +kernel
theorem dX7_comes_45 : decode cX7_comes 45 = .ok (.invokestatic 54, 3) := by decide +kernel
theorem dX7_comes_48 : decode cX7_comes 48 = .ok (.iconst 0, 1) := by decide +kernel
theorem dX7_comes_49 : decode cX7_comes 49 = .ok (.iastore, 1) := by decide +kernel
theorem dX7_comes_50 : decode cX7_comes 50 = .ok (.aload_n 0, 1) := by decide +kernel
theorem dX7_comes_51 : decode cX7_comes 51 = .ok (.getfield 7, 3) := by decide +kernel
theorem dX7_comes_54 : decode cX7_comes 54 = .ok (.iload_n 2, 1) := by decide +kernel
theorem dX7_comes_55 : decode cX7_comes 55 = .ok (.iconst 3, 1) := by decide +kernel
theorem dX7_comes_56 : decode cX7_comes 56 = .ok (.invokestatic 54, 3) := by decide +kernel
theorem dX7_comes_59 : decode cX7_comes 59 = .ok (.iconst 0, 1) := by decide +kernel
theorem dX7_comes_60 : decode cX7_comes 60 = .ok (.iastore, 1) := by decide +kernel
theorem dX7_comes_61 : decode cX7_comes 61 = .ok (.aload_n 0, 1) := by decide +kernel
theorem dX7_comes_62 : decode cX7_comes 62 = .ok (.iload_n 2, 1) := by decide +kernel
theorem dX7_comes_63 : decode cX7_comes 63 = .ok (.invokevirtual 61, 3) := by decide +kernel
theorem dX7_comes_66 : decode cX7_comes 66 = .ok (.iload_n 2, 1) := by decide +kernel
theorem dX7_comes_67 : decode cX7_comes 67 = .ok (.ireturn, 1) := by decide +kernel
theorem dX7_becomes_0 : decode cX7_becomes 0 = .ok (.aload_n 0, 1) := by decide +kernel
theorem dX7_becomes_1 : decode cX7_becomes 1 = .ok (.getfield 7, 3) := by decide +kernel
theorem dX7_becomes_4 : decode cX7_becomes 4 = .ok (.iload_n 1, 1) := by decide +kernel
theorem dX7_becomes_5 : decode cX7_becomes 5 = .ok (.iaload, 1) := by decide +kernel
theorem dX7_becomes_6 : decode cX7_becomes 6 = .ok (.istore_n 3, 1) := by decide +kernel
theorem dX7_becomes_7 : decode cX7_becomes 7 = .ok (.aload_n 0, 1) := by decide +kernel
theorem dX7_becomes_8 : decode cX7_becomes 8 = .ok (.getfield 7, 3) := by decide +kernel
theorem dX7_becomes_11 : decode cX7_becomes 11 = .ok (.iload_n 1, 1) := by decide +kernel
theorem dX7_becomes_12 : decode cX7_becomes 12 = .ok (.iload_n 2, 1) := by decide +kernel
theorem dX7_becomes_13 : decode cX7_becomes 13 = .ok (.iastore, 1) := by decide +kernel
theorem dX7_becomes_14 : decode cX7_becomes 14 = .ok (.iload_n 3, 1) := by decide +kernel
theorem dX7_becomes_15 : decode cX7_becomes 15 = .ok (.ireturn, 1) := by decide +kernel
theorem dX7_schools_0 : decode cX7_schools 0 = .ok (.iconst 0, 1) := by decide +kernel
theorem dX7_schools_1 : decode cX7_schools 1 = .ok (.istore_n 1, 1) := by decide +kernel
theorem dX7_schools_2 : decode cX7_schools 2 = .ok (.iconst 0, 1) := by decide +kernel
theorem dX7_schools_3 : decode cX7_schools 3 = .ok (.istore_n 2, 1) := by decide +kernel
theorem dX7_schools_4 : decode cX7_schools 4 = .ok (.iload_n 2, 1) := by decide +kernel
theorem dX7_schools_5 : decode cX7_schools 5 = .ok (.bipush 20, 2) := by decide +kernel
theorem dX7_schools_7 : decode cX7_schools 7 = .ok (.if_icmp .ge 22, 3) := by decide +kernel
theorem dX7_schools_10 : decode cX7_schools 10 = .ok (.iload_n 1, 1) := by decide +kernel
theorem dX7_schools_11 : decode cX7_schools 11 = .ok (.aload_n 0, 1) := by decide +kernel
theorem dX7_schools_12 : decode cX7_schools 12 = .ok (.getfield 7, 3) := by decide +kernel
theorem dX7_schools_15 : decode cX7_schools 15 = .ok (.iload_n 2, 1) := by decide +kernel
theorem dX7_schools_16 : decode cX7_schools 16 = .ok (.iconst 1, 1) := by decide +kernel
theorem dX7_schools_17 : decode cX7_schools 17 = .ok (.invokestatic 36, 3) := by decide +kernel
theorem dX7_schools_20 : decode cX7_schools 20 = .ok (.iaload, 1) := by decide +kernel
theorem dX7_schools_21 : decode cX7_schools 21 = .ok (.iadd, 1) := by decide +kernel
theorem dX7_schools_22 : decode cX7_schools 22 = .ok (.istore_n 1, 1) := by decide +kernel
theorem dX7_schools_23 : decode cX7_schools 23 = .ok (.iinc 2 1, 3) := by decide +kernel
theorem dX7_schools_26 : decode cX7_schools 26 = .ok (.goto (-22), 3) := by decide +kernel
theorem dX7_schools_29 : decode cX7_schools 29 = .ok (.iload_n 1, 1) := by decide +kernel
theorem dX7_schools_30 : decode cX7_schools 30 = .ok (.ireturn, 1) := by decide +kernel
theorem dX7_takes_0 : decode cX7_takes 0 = .ok (.aload_n 0, 1) := by decide +kernel
theorem dX7_takes_1 : decode cX7_takes 1 = .ok (.iload_n 1, 1) := by decide +kernel
theorem dX7_takes_2 : decode cX7_takes 2 = .ok (.iload_n 2, 1) := by decide +kernel
theorem dX7_takes_3 : decode cX7_takes 3 = .ok (.invokevirtual 65, 3) := by decide +kernel
theorem dX7_takes_6 : decode cX7_takes 6 = .ok (.istore_n 3, 1) := by decide +kernel
theorem dX7_takes_7 : decode cX7_takes 7 = .ok (.iload_n 3, 1) := by decide +kernel
theorem dX7_takes_8 : decode cX7_takes 8 = .ok (.ifCond .ne 29, 3) := by decide +kernel
theorem dX7_takes_11 : decode cX7_takes 11 = .ok (.aload_n 0, 1) := by decide +kernel
theorem dX7_takes_12 : decode cX7_takes 12 = .ok (.iload_n 1, 1) := by decide +kernel
theorem dX7_takes_13 : decode cX7_takes 13 = .ok (.aload_n 0, 1) := by decide +kernel
theorem dX7_takes_14 : decode cX7_takes 14 = .ok (.getfield 7, 3) := by decide +kernel
theorem dX7_takes_17 : decode cX7_takes 17 = .ok (.iload_n 2, 1) := by decide +kernel
theorem dX7_takes_18 : decode cX7_takes 18 = .ok (.iconst 0, 1) := by decide +kernel
theorem dX7_takes_19 : decode cX7_takes 19 = .ok (.invokestatic 36, 3) := by decide +kernel
theorem dX7_takes_22 : decode cX7_takes 22 = .ok (.iaload, 1) := by decide +kernel
theorem dX7_takes_23 : decode cX7_takes 23 = .ok (.invokevirtual 68, 3) := by decide +kernel
theorem dX7_takes_26 : decode cX7_takes 26 = .ok (.aload_n 0, 1) := by decide +kernel
theorem dX7_takes_27 : decode cX7_takes 27 = .ok (.getfield 7, 3) := by decide +kernel
theorem dX7_takes_30 : decode cX7_takes 30 = .ok (.iload_n 2, 1) := by decide +kernel
theorem dX7_takes_31 : decode cX7_takes 31 = .ok (.iconst 2, 1) := by decide +kernel
theorem dX7_takes_32 : decode cX7_takes 32 = .ok (.invokestatic 36, 3) := by decide +kernel
theorem dX7_takes_35 : decode cX7_takes 35 = .ok (.iload_n 1, 1) := by decide +kernel
theorem dX7_takes_36 : decode cX7_takes 36 = .ok (.iastore, 1) := by decide +kernel
theorem dX7_takes_37 : decode cX7_takes 37 = .ok (.iload_n 3, 1) := by decide +kernel
theorem dX7_takes_38 : decode cX7_takes 38 = .ok (.ireturn, 1) := by decide +kernel
theorem dX7_releases_0 : decode cX7_releases 0 = .ok (.aload_n 0, 1) := by decide +kernel
theorem dX7_releases_1 : decode cX7_releases 1 = .ok (.getfield 7, 3) := by decide +kernel
theorem dX7_releases_4 : decode cX7_releases 4 = .ok (.iload_n 2, 1) := by decide +kernel
theorem dX7_releases_5 : decode cX7_releases 5 = .ok (.iconst 0, 1) := by decide +kernel
theorem dX7_releases_6 : decode cX7_releases 6 = .ok (.invokestatic 36, 3) := by decide +kernel
theorem dX7_releases_9 : decode cX7_releases 9 = .ok (.iaload, 1) := by decide +kernel
theorem dX7_releases_10 : decode cX7_releases 10 = .ok (.iconst 2, 1) := by decide +kernel
theorem dX7_releases_11 : decode cX7_releases 11 = .ok (.idiv, 1) := by decide +kernel
theorem dX7_releases_12 : decode cX7_releases 12 = .ok (.istore_n 3, 1) := by decide +kernel
theorem dX7_releases_13 : decode cX7_releases 13 = .ok (.aload_n 0, 1) := by decide +kernel
theorem dX7_releases_14 : decode cX7_releases 14 = .ok (.getfield 7, 3) := by decide +kernel
theorem dX7_releases_17 : decode cX7_releases 17 = .ok (.iload_n 1, 1) := by decide +kernel
theorem dX7_releases_18 : decode cX7_releases 18 = .ok (.iconst 1, 1) := by decide +kernel
theorem dX7_releases_19 : decode cX7_releases 19 = .ok (.invokestatic 54, 3) := by decide +kernel
theorem dX7_releases_22 : decode cX7_releases 22 = .ok (.dup2, 1) := by decide +kernel
theorem dX7_releases_23 : decode cX7_releases 23 = .ok (.iaload, 1) := by decide +kernel
theorem dX7_releases_24 : decode cX7_releases 24 = .ok (.iload_n 3, 1) := by decide +kernel
theorem dX7_releases_25 : decode cX7_releases 25 = .ok (.iadd, 1) := by decide +kernel
theorem dX7_releases_26 : decode cX7_releases 26 = .ok (.iastore, 1) := by decide +kernel
theorem dX7_releases_27 : decode cX7_releases 27 = .ok (.aload_n 0, 1) := by decide +kernel
theorem dX7_releases_28 : decode cX7_releases 28 = .ok (.getfield 7, 3) := by decide +kernel
theorem dX7_releases_31 : decode cX7_releases 31 = .ok (.sipush 236, 3) := by decide +kernel
theorem dX7_releases_34 : decode cX7_releases 34 = .ok (.dup2, 1) := by decide +kernel
theorem dX7_releases_35 : decode cX7_releases 35 = .ok (.iaload, 1) := by decide +kernel
theorem dX7_releases_36 : decode cX7_releases 36 = .ok (.iload_n 3, 1) := by decide +kernel
theorem dX7_releases_37 : decode cX7_releases 37 = .ok (.iadd, 1) := by decide +kernel
theorem dX7_releases_38 : decode cX7_releases 38 = .ok (.iastore, 1) := by decide +kernel
theorem dX7_releases_39 : decode cX7_releases 39 = .ok (.aload_n 0, 1) := by decide +kernel
theorem dX7_releases_40 : decode cX7_releases 40 = .ok (.getfield 7, 3) := by decide +kernel
theorem dX7_releases_43 : decode cX7_releases 43 = .ok (.iload_n 2, 1) := by decide +kernel
theorem dX7_releases_44 : decode cX7_releases 44 = .ok (.iconst 2, 1) := by decide +kernel
theorem dX7_releases_45 : decode cX7_releases 45 = .ok (.invokestatic 36, 3) := by decide +kernel
theorem dX7_releases_48 : decode cX7_releases 48 = .ok (.iconst (-1), 1) := by decide +kernel
theorem dX7_releases_49 : decode cX7_releases 49 = .ok (.iastore, 1) := by decide +kernel
theorem dX7_releases_50 : decode cX7_releases 50 = .ok (.iload_n 3, 1) := by decide +kernel
theorem dX7_releases_51 : decode cX7_releases 51 = .ok (.ireturn, 1) := by decide +kernel
theorem dX7_bidsFor_0 : decode cX7_bidsFor 0 = .ok (.iconst 0, 1) := by decide +kernel
theorem dX7_bidsFor_1 : decode cX7_bidsFor 1 = .ok (.istore_n 2, 1) := by decide +kernel
theorem dX7_bidsFor_2 : decode cX7_bidsFor 2 = .ok (.iconst 0, 1) := by decide +kernel
theorem dX7_bidsFor_3 : decode cX7_bidsFor 3 = .ok (.istore_n 3, 1) := by decide +kernel
theorem dX7_bidsFor_4 : decode cX7_bidsFor 4 = .ok (.iload_n 3, 1) := by decide +kernel
theorem dX7_bidsFor_5 : decode cX7_bidsFor 5 = .ok (.aload_n 0, 1) := by decide +kernel
theorem dX7_bidsFor_6 : decode cX7_bidsFor 6 = .ok (.getfield 7, 3) := by decide +kernel
theorem dX7_bidsFor_9 : decode cX7_bidsFor 9 = .ok (.iconst 0, 1) := by decide +kernel
theorem dX7_bidsFor_10 : decode cX7_bidsFor 10 = .ok (.iaload, 1) := by decide +kernel
theorem dX7_bidsFor_11 : decode cX7_bidsFor 11 = .ok (.if_icmp .ge 31, 3) := by decide +kernel
theorem dX7_bidsFor_14 : decode cX7_bidsFor 14 = .ok (.iload_n 2, 1) := by decide +kernel
theorem dX7_bidsFor_15 : decode cX7_bidsFor 15 = .ok (.aload_n 0, 1) := by decide +kernel
theorem dX7_bidsFor_16 : decode cX7_bidsFor 16 = .ok (.getfield 7, 3) := by decide +kernel
theorem dX7_bidsFor_19 : decode cX7_bidsFor 19 = .ok (.iload_n 3, 1) := by decide +kernel
theorem dX7_bidsFor_20 : decode cX7_bidsFor 20 = .ok (.iload_n 1, 1) := by decide +kernel
theorem dX7_bidsFor_21 : decode cX7_bidsFor 21 = .ok (.invokestatic 72, 3) := by decide +kernel
theorem dX7_bidsFor_24 : decode cX7_bidsFor 24 = .ok (.iaload, 1) := by decide +kernel
theorem dX7_bidsFor_25 : decode cX7_bidsFor 25 = .ok (.iconst (-1), 1) := by decide +kernel
theorem dX7_bidsFor_26 : decode cX7_bidsFor 26 = .ok (.if_icmp .ne 7, 3) := by decide +kernel
theorem dX7_bidsFor_29 : decode cX7_bidsFor 29 = .ok (.iconst 0, 1) := by decide +kernel
theorem dX7_bidsFor_30 : decode cX7_bidsFor 30 = .ok (.goto 4, 3) := by decide +kernel
theorem dX7_bidsFor_33 : decode cX7_bidsFor 33 = .ok (.iconst 1, 1) := by decide +kernel
theorem dX7_bidsFor_34 : decode cX7_bidsFor 34 = .ok (.iadd, 1) := by decide +kernel
theorem dX7_bidsFor_35 : decode cX7_bidsFor 35 = .ok (.istore_n 2, 1) := by decide +kernel
theorem dX7_bidsFor_36 : decode cX7_bidsFor 36 = .ok (.iinc 3 1, 3) := by decide +kernel
theorem dX7_bidsFor_39 : decode cX7_bidsFor 39 = .ok (.goto (-35), 3) := by decide +kernel
theorem dX7_bidsFor_42 : decode cX7_bidsFor 42 = .ok (.iload_n 2, 1) := by decide +kernel
theorem dX7_bidsFor_43 : decode cX7_bidsFor 43 = .ok (.ireturn, 1) := by decide +kernel
theorem dX7_bids_0 : decode cX7_bids 0 = .ok (.aload_n 0, 1) := by decide +kernel
theorem dX7_bids_1 : decode cX7_bids 1 = .ok (.getfield 7, 3) := by decide +kernel
theorem dX7_bids_4 : decode cX7_bids 4 = .ok (.iload_n 1, 1) := by decide +kernel
theorem dX7_bids_5 : decode cX7_bids 5 = .ok (.iload_n 2, 1) := by decide +kernel
theorem dX7_bids_6 : decode cX7_bids 6 = .ok (.invokestatic 72, 3) := by decide +kernel
theorem dX7_bids_9 : decode cX7_bids 9 = .ok (.iload_n 3, 1) := by decide +kernel
theorem dX7_bids_10 : decode cX7_bids 10 = .ok (.iastore, 1) := by decide +kernel
theorem dX7_bids_11 : decode cX7_bids 11 = .ok (.aload_n 0, 1) := by decide +kernel
theorem dX7_bids_12 : decode cX7_bids 12 = .ok (.iload_n 2, 1) := by decide +kernel
theorem dX7_bids_13 : decode cX7_bids 13 = .ok (.invokevirtual 75, 3) := by decide +kernel
theorem dX7_bids_16 : decode cX7_bids 16 = .ok (.ireturn, 1) := by decide +kernel
theorem dX7_canWin_0 : decode cX7_canWin 0 = .ok (.aload_n 0, 1) := by decide +kernel
theorem dX7_canWin_1 : decode cX7_canWin 1 = .ok (.getfield 7, 3) := by decide +kernel
theorem dX7_canWin_4 : decode cX7_canWin 4 = .ok (.iload_n 1, 1) := by decide +kernel
theorem dX7_canWin_5 : decode cX7_canWin 5 = .ok (.iload_n 2, 1) := by decide +kernel
theorem dX7_canWin_6 : decode cX7_canWin 6 = .ok (.invokestatic 72, 3) := by decide +kernel
theorem dX7_canWin_9 : decode cX7_canWin 9 = .ok (.iaload, 1) := by decide +kernel
theorem dX7_canWin_10 : decode cX7_canWin 10 = .ok (.istore_n 3, 1) := by decide +kernel
theorem dX7_canWin_11 : decode cX7_canWin 11 = .ok (.iload_n 3, 1) := by decide +kernel
theorem dX7_canWin_12 : decode cX7_canWin 12 = .ok (.iconst (-1), 1) := by decide +kernel
theorem dX7_canWin_13 : decode cX7_canWin 13 = .ok (.if_icmp .eq 48, 3) := by decide +kernel
theorem dX7_canWin_16 : decode cX7_canWin 16 = .ok (.aload_n 0, 1) := by decide +kernel
theorem dX7_canWin_17 : decode cX7_canWin 17 = .ok (.iload_n 1, 1) := by decide +kernel
theorem dX7_canWin_18 : decode cX7_canWin 18 = .ok (.invokevirtual 57, 3) := by decide +kernel
theorem dX7_canWin_21 : decode cX7_canWin 21 = .ok (.aload_n 0, 1) := by decide +kernel
theorem dX7_canWin_22 : decode cX7_canWin 22 = .ok (.getfield 7, 3) := by decide +kernel
theorem dX7_canWin_25 : decode cX7_canWin 25 = .ok (.sipush 233, 3) := by decide +kernel
theorem dX7_canWin_28 : decode cX7_canWin 28 = .ok (.iaload, 1) := by decide +kernel
theorem dX7_canWin_29 : decode cX7_canWin 29 = .ok (.if_icmp .ge 32, 3) := by decide +kernel
theorem dX7_canWin_32 : decode cX7_canWin 32 = .ok (.aload_n 0, 1) := by decide +kernel
theorem dX7_canWin_33 : decode cX7_canWin 33 = .ok (.getfield 7, 3) := by decide +kernel
theorem dX7_canWin_36 : decode cX7_canWin 36 = .ok (.iload_n 1, 1) := by decide +kernel
theorem dX7_canWin_37 : decode cX7_canWin 37 = .ok (.iconst 1, 1) := by decide +kernel
theorem dX7_canWin_38 : decode cX7_canWin 38 = .ok (.invokestatic 54, 3) := by decide +kernel
theorem dX7_canWin_41 : decode cX7_canWin 41 = .ok (.iaload, 1) := by decide +kernel
theorem dX7_canWin_42 : decode cX7_canWin 42 = .ok (.aload_n 0, 1) := by decide +kernel
theorem dX7_canWin_43 : decode cX7_canWin 43 = .ok (.getfield 7, 3) := by decide +kernel
theorem dX7_canWin_46 : decode cX7_canWin 46 = .ok (.iload_n 2, 1) := by decide +kernel
theorem dX7_canWin_47 : decode cX7_canWin 47 = .ok (.iconst 0, 1) := by decide +kernel
theorem dX7_canWin_48 : decode cX7_canWin 48 = .ok (.invokestatic 36, 3) := by decide +kernel
theorem dX7_canWin_51 : decode cX7_canWin 51 = .ok (.iaload, 1) := by decide +kernel
theorem dX7_canWin_52 : decode cX7_canWin 52 = .ok (.iload_n 3, 1) := by decide +kernel
theorem dX7_canWin_53 : decode cX7_canWin 53 = .ok (.iadd, 1) := by decide +kernel
theorem dX7_canWin_54 : decode cX7_canWin 54 = .ok (.if_icmp .lt 7, 3) := by decide +kernel
theorem dX7_canWin_57 : decode cX7_canWin 57 = .ok (.iconst 1, 1) := by decide +kernel
theorem dX7_canWin_58 : decode cX7_canWin 58 = .ok (.goto 4, 3) := by decide +kernel
theorem dX7_canWin_61 : decode cX7_canWin 61 = .ok (.iconst 0, 1) := by decide +kernel
theorem dX7_canWin_62 : decode cX7_canWin 62 = .ok (.ireturn, 1) := by decide +kernel
theorem dX7_isBetter_0 : decode cX7_isBetter 0 = .ok (.aload_n 0, 1) := by decide +kernel
theorem dX7_isBetter_1 : decode cX7_isBetter 1 = .ok (.getfield 7, 3) := by decide +kernel
theorem dX7_isBetter_4 : decode cX7_isBetter 4 = .ok (.iload_n 1, 1) := by decide +kernel
theorem dX7_isBetter_5 : decode cX7_isBetter 5 = .ok (.iload_n 3, 1) := by decide +kernel
theorem dX7_isBetter_6 : decode cX7_isBetter 6 = .ok (.invokestatic 72, 3) := by decide +kernel
theorem dX7_isBetter_9 : decode cX7_isBetter 9 = .ok (.iaload, 1) := by decide +kernel
theorem dX7_isBetter_10 : decode cX7_isBetter 10 = .ok (.aload_n 0, 1) := by decide +kernel
theorem dX7_isBetter_11 : decode cX7_isBetter 11 = .ok (.getfield 7, 3) := by decide +kernel
theorem dX7_isBetter_14 : decode cX7_isBetter 14 = .ok (.iload_n 2, 1) := by decide +kernel
theorem dX7_isBetter_15 : decode cX7_isBetter 15 = .ok (.iload_n 3, 1) := by decide +kernel
theorem dX7_isBetter_16 : decode cX7_isBetter 16 = .ok (.invokestatic 72, 3) := by decide +kernel
theorem dX7_isBetter_19 : decode cX7_isBetter 19 = .ok (.iaload, 1) := by decide +kernel
theorem dX7_isBetter_20 : decode cX7_isBetter 20 = .ok (.isub, 1) := by decide +kernel
theorem dX7_isBetter_21 : decode cX7_isBetter 21 = .ok (.istore 4, 2) := by decide +kernel
theorem dX7_isBetter_23 : decode cX7_isBetter 23 = .ok (.iload 4, 2) := by decide +kernel
theorem dX7_isBetter_25 : decode cX7_isBetter 25 = .ok (.ifCond .ne 27, 3) := by decide +kernel
theorem dX7_isBetter_28 : decode cX7_isBetter 28 = .ok (.aload_n 0, 1) := by decide +kernel
theorem dX7_isBetter_29 : decode cX7_isBetter 29 = .ok (.getfield 7, 3) := by decide +kernel
theorem dX7_isBetter_32 : decode cX7_isBetter 32 = .ok (.iload_n 2, 1) := by decide +kernel
theorem dX7_isBetter_33 : decode cX7_isBetter 33 = .ok (.iconst 2, 1) := by decide +kernel
theorem dX7_isBetter_34 : decode cX7_isBetter 34 = .ok (.invokestatic 54, 3) := by decide +kernel
theorem dX7_isBetter_37 : decode cX7_isBetter 37 = .ok (.iaload, 1) := by decide +kernel
theorem dX7_isBetter_38 : decode cX7_isBetter 38 = .ok (.aload_n 0, 1) := by decide +kernel
theorem dX7_isBetter_39 : decode cX7_isBetter 39 = .ok (.getfield 7, 3) := by decide +kernel
theorem dX7_isBetter_42 : decode cX7_isBetter 42 = .ok (.iload_n 1, 1) := by decide +kernel
theorem dX7_isBetter_43 : decode cX7_isBetter 43 = .ok (.iconst 2, 1) := by decide +kernel
theorem dX7_isBetter_44 : decode cX7_isBetter 44 = .ok (.invokestatic 54, 3) := by decide +kernel
theorem dX7_isBetter_47 : decode cX7_isBetter 47 = .ok (.iaload, 1) := by decide +kernel
theorem dX7_isBetter_48 : decode cX7_isBetter 48 = .ok (.isub, 1) := by decide +kernel
theorem dX7_isBetter_49 : decode cX7_isBetter 49 = .ok (.goto 5, 3) := by decide +kernel
theorem dX7_isBetter_52 : decode cX7_isBetter 52 = .ok (.iload 4, 2) := by decide +kernel
theorem dX7_isBetter_54 : decode cX7_isBetter 54 = .ok (.istore 4, 2) := by decide +kernel
theorem dX7_isBetter_56 : decode cX7_isBetter 56 = .ok (.iload 4, 2) := by decide +kernel
theorem dX7_isBetter_58 : decode cX7_isBetter 58 = .ok (.ifCond .ne 27, 3) := by decide +kernel
theorem dX7_isBetter_61 : decode cX7_isBetter 61 = .ok (.aload_n 0, 1) := by decide +kernel
theorem dX7_isBetter_62 : decode cX7_isBetter 62 = .ok (.getfield 7, 3) := by decide +kernel
theorem dX7_isBetter_65 : decode cX7_isBetter 65 = .ok (.iload_n 1, 1) := by decide +kernel
theorem dX7_isBetter_66 : decode cX7_isBetter 66 = .ok (.iconst 0, 1) := by decide +kernel
theorem dX7_isBetter_67 : decode cX7_isBetter 67 = .ok (.invokestatic 54, 3) := by decide +kernel
theorem dX7_isBetter_70 : decode cX7_isBetter 70 = .ok (.iaload, 1) := by decide +kernel
theorem dX7_isBetter_71 : decode cX7_isBetter 71 = .ok (.aload_n 0, 1) := by decide +kernel
theorem dX7_isBetter_72 : decode cX7_isBetter 72 = .ok (.getfield 7, 3) := by decide +kernel
theorem dX7_isBetter_75 : decode cX7_isBetter 75 = .ok (.iload_n 2, 1) := by decide +kernel
theorem dX7_isBetter_76 : decode cX7_isBetter 76 = .ok (.iconst 0, 1) := by decide +kernel
theorem dX7_isBetter_77 : decode cX7_isBetter 77 = .ok (.invokestatic 54, 3) := by decide +kernel
theorem dX7_isBetter_80 : decode cX7_isBetter 80 = .ok (.iaload, 1) := by decide +kernel
theorem dX7_isBetter_81 : decode cX7_isBetter 81 = .ok (.isub, 1) := by decide +kernel
theorem dX7_isBetter_82 : decode cX7_isBetter 82 = .ok (.goto 5, 3) := by decide +kernel
theorem dX7_isBetter_85 : decode cX7_isBetter 85 = .ok (.iload 4, 2) := by decide +kernel
theorem dX7_isBetter_87 : decode cX7_isBetter 87 = .ok (.istore 4, 2) := by decide +kernel
theorem dX7_isBetter_89 : decode cX7_isBetter 89 = .ok (.iload 4, 2) := by decide +kernel
theorem dX7_isBetter_91 : decode cX7_isBetter 91 = .ok (.ifCond .le 7, 3) := by decide +kernel
theorem dX7_isBetter_94 : decode cX7_isBetter 94 = .ok (.iconst 1, 1) := by decide +kernel
theorem dX7_isBetter_95 : decode cX7_isBetter 95 = .ok (.goto 4, 3) := by decide +kernel
theorem dX7_isBetter_98 : decode cX7_isBetter 98 = .ok (.iconst 0, 1) := by decide +kernel
theorem dX7_isBetter_99 : decode cX7_isBetter 99 = .ok (.ireturn, 1) := by decide +kernel
theorem dX7_settlesOne_0 : decode cX7_settlesOne 0 = .ok (.iconst (-1), 1) := by decide +kernel
theorem dX7_settlesOne_1 : decode cX7_settlesOne 1 = .ok (.istore_n 2, 1) := by decide +kernel
theorem dX7_settlesOne_2 : decode cX7_settlesOne 2 = .ok (.aload_n 0, 1) := by decide +kernel
theorem dX7_settlesOne_3 : decode cX7_settlesOne 3 = .ok (.getfield 7, 3) := by decide +kernel
theorem dX7_settlesOne_6 : decode cX7_settlesOne 6 = .ok (.iload_n 1, 1) := by decide +kernel
theorem dX7_settlesOne_7 : decode cX7_settlesOne 7 = .ok (.iconst 1, 1) := by decide +kernel
theorem dX7_settlesOne_8 : decode cX7_settlesOne 8 = .ok (.invokestatic 36, 3) := by decide +kernel
theorem dX7_settlesOne_11 : decode cX7_settlesOne 11 = .ok (.iaload, 1) := by decide +kernel
theorem dX7_settlesOne_12 : decode cX7_settlesOne 12 = .ok (.iconst 1, 1) := by decide +kernel
theorem dX7_settlesOne_13 : decode cX7_settlesOne 13 = .ok (.if_icmp .ne 21, 3) := by decide +kernel
theorem dX7_settlesOne_16 : decode cX7_settlesOne 16 = .ok (.aload_n 0, 1) := by decide +kernel
theorem dX7_settlesOne_17 : decode cX7_settlesOne 17 = .ok (.getfield 7, 3) := by decide +kernel
theorem dX7_settlesOne_20 : decode cX7_settlesOne 20 = .ok (.iload_n 1, 1) := by decide +kernel
theorem dX7_settlesOne_21 : decode cX7_settlesOne 21 = .ok (.iconst 2, 1) := by decide +kernel
theorem dX7_settlesOne_22 : decode cX7_settlesOne 22 = .ok (.invokestatic 36, 3) := by decide +kernel
theorem dX7_settlesOne_25 : decode cX7_settlesOne 25 = .ok (.iaload, 1) := by decide +kernel
theorem dX7_settlesOne_26 : decode cX7_settlesOne 26 = .ok (.iconst (-1), 1) := by decide +kernel
theorem dX7_settlesOne_27 : decode cX7_settlesOne 27 = .ok (.if_icmp .ne 7, 3) := by decide +kernel
theorem dX7_settlesOne_30 : decode cX7_settlesOne 30 = .ok (.iconst 1, 1) := by decide +kernel
theorem dX7_settlesOne_31 : decode cX7_settlesOne 31 = .ok (.goto 4, 3) := by decide +kernel
theorem dX7_settlesOne_34 : decode cX7_settlesOne 34 = .ok (.iconst 0, 1) := by decide +kernel
theorem dX7_settlesOne_35 : decode cX7_settlesOne 35 = .ok (.istore_n 3, 1) := by decide +kernel
theorem dX7_settlesOne_36 : decode cX7_settlesOne 36 = .ok (.iconst 0, 1) := by decide +kernel
theorem dX7_settlesOne_37 : decode cX7_settlesOne 37 = .ok (.istore 4, 2) := by decide +kernel
theorem dX7_settlesOne_39 : decode cX7_settlesOne 39 = .ok (.iload 4, 2) := by decide +kernel
theorem dX7_settlesOne_41 : decode cX7_settlesOne 41 = .ok (.aload_n 0, 1) := by decide +kernel
theorem dX7_settlesOne_42 : decode cX7_settlesOne 42 = .ok (.getfield 7, 3) := by decide +kernel
theorem dX7_settlesOne_45 : decode cX7_settlesOne 45 = .ok (.iconst 0, 1) := by decide +kernel
theorem dX7_settlesOne_46 : decode cX7_settlesOne 46 = .ok (.iaload, 1) := by decide +kernel
theorem dX7_settlesOne_47 : decode cX7_settlesOne 47 = .ok (.if_icmp .ge 58, 3) := by decide +kernel
theorem dX7_settlesOne_50 : decode cX7_settlesOne 50 = .ok (.iload_n 3, 1) := by decide +kernel
theorem dX7_settlesOne_51 : decode cX7_settlesOne 51 = .ok (.ifCond .eq 54, 3) := by decide +kernel
theorem dX7_settlesOne_54 : decode cX7_settlesOne 54 = .ok (.aload_n 0, 1) := by decide +kernel
theorem dX7_settlesOne_55 : decode cX7_settlesOne 55 = .ok (.iload 4, 2) := by decide +kernel
theorem dX7_settlesOne_57 : decode cX7_settlesOne 57 = .ok (.iload_n 1, 1) := by decide +kernel
theorem dX7_settlesOne_58 : decode cX7_settlesOne 58 = .ok (.invokevirtual 78, 3) := by decide +kernel
theorem dX7_settlesOne_61 : decode cX7_settlesOne 61 = .ok (.ifCond .eq 23, 3) := by decide +kernel
theorem dX7_settlesOne_64 : decode cX7_settlesOne 64 = .ok (.iload_n 2, 1) := by decide +kernel
theorem dX7_settlesOne_65 : decode cX7_settlesOne 65 = .ok (.iconst (-1), 1) := by decide +kernel
theorem dX7_settlesOne_66 : decode cX7_settlesOne 66 = .ok (.if_icmp .eq 14, 3) := by decide +kernel
theorem dX7_settlesOne_69 : decode cX7_settlesOne 69 = .ok (.aload_n 0, 1) := by decide +kernel
theorem dX7_settlesOne_70 : decode cX7_settlesOne 70 = .ok (.iload 4, 2) := by decide +kernel
theorem dX7_settlesOne_72 : decode cX7_settlesOne 72 = .ok (.iload_n 2, 1) := by decide +kernel
theorem dX7_settlesOne_73 : decode cX7_settlesOne 73 = .ok (.iload_n 1, 1) := by decide +kernel
theorem dX7_settlesOne_74 : decode cX7_settlesOne 74 = .ok (.invokevirtual 82, 3) := by decide +kernel
theorem dX7_settlesOne_77 : decode cX7_settlesOne 77 = .ok (.ifCond .eq 7, 3) := by decide +kernel
theorem dX7_settlesOne_80 : decode cX7_settlesOne 80 = .ok (.iconst 1, 1) := by decide +kernel
theorem dX7_settlesOne_81 : decode cX7_settlesOne 81 = .ok (.goto 4, 3) := by decide +kernel
theorem dX7_settlesOne_84 : decode cX7_settlesOne 84 = .ok (.iconst 0, 1) := by decide +kernel
theorem dX7_settlesOne_85 : decode cX7_settlesOne 85 = .ok (.istore 5, 2) := by decide +kernel
theorem dX7_settlesOne_87 : decode cX7_settlesOne 87 = .ok (.iload 5, 2) := by decide +kernel
theorem dX7_settlesOne_89 : decode cX7_settlesOne 89 = .ok (.ifCond .eq 8, 3) := by decide +kernel
theorem dX7_settlesOne_92 : decode cX7_settlesOne 92 = .ok (.iload 4, 2) := by decide +kernel
theorem dX7_settlesOne_94 : decode cX7_settlesOne 94 = .ok (.goto 4, 3) := by decide +kernel
theorem dX7_settlesOne_97 : decode cX7_settlesOne 97 = .ok (.iload_n 2, 1) := by decide +kernel
theorem dX7_settlesOne_98 : decode cX7_settlesOne 98 = .ok (.istore_n 2, 1) := by decide +kernel
theorem dX7_settlesOne_99 : decode cX7_settlesOne 99 = .ok (.iinc 4 1, 3) := by decide +kernel
theorem dX7_settlesOne_102 : decode cX7_settlesOne 102 = .ok (.goto (-63), 3) := by decide +kernel
theorem dX7_settlesOne_105 : decode cX7_settlesOne 105 = .ok (.iload_n 2, 1) := by decide +kernel
theorem dX7_settlesOne_106 : decode cX7_settlesOne 106 = .ok (.iconst (-1), 1) := by decide +kernel
theorem dX7_settlesOne_107 : decode cX7_settlesOne 107 = .ok (.if_icmp .eq 54, 3) := by decide +kernel
theorem dX7_settlesOne_110 : decode cX7_settlesOne 110 = .ok (.aload_n 0, 1) := by decide +kernel
theorem dX7_settlesOne_111 : decode cX7_settlesOne 111 = .ok (.iload_n 2, 1) := by decide +kernel
theorem dX7_settlesOne_112 : decode cX7_settlesOne 112 = .ok (.aload_n 0, 1) := by decide +kernel
theorem dX7_settlesOne_113 : decode cX7_settlesOne 113 = .ok (.getfield 7, 3) := by decide +kernel
theorem dX7_settlesOne_116 : decode cX7_settlesOne 116 = .ok (.iload_n 1, 1) := by decide +kernel
theorem dX7_settlesOne_117 : decode cX7_settlesOne 117 = .ok (.iconst 0, 1) := by decide +kernel
theorem dX7_settlesOne_118 : decode cX7_settlesOne 118 = .ok (.invokestatic 36, 3) := by decide +kernel
theorem dX7_settlesOne_121 : decode cX7_settlesOne 121 = .ok (.iaload, 1) := by decide +kernel
theorem dX7_settlesOne_122 : decode cX7_settlesOne 122 = .ok (.aload_n 0, 1) := by decide +kernel
theorem dX7_settlesOne_123 : decode cX7_settlesOne 123 = .ok (.getfield 7, 3) := by decide +kernel
theorem dX7_settlesOne_126 : decode cX7_settlesOne 126 = .ok (.iload_n 2, 1) := by decide +kernel
theorem dX7_settlesOne_127 : decode cX7_settlesOne 127 = .ok (.iload_n 1, 1) := by decide +kernel
theorem dX7_settlesOne_128 : decode cX7_settlesOne 128 = .ok (.invokestatic 72, 3) := by decide +kernel
theorem dX7_settlesOne_131 : decode cX7_settlesOne 131 = .ok (.iaload, 1) := by decide +kernel
theorem dX7_settlesOne_132 : decode cX7_settlesOne 132 = .ok (.iadd, 1) := by decide +kernel
theorem dX7_settlesOne_133 : decode cX7_settlesOne 133 = .ok (.invokevirtual 68, 3) := by decide +kernel
theorem dX7_settlesOne_136 : decode cX7_settlesOne 136 = .ok (.aload_n 0, 1) := by decide +kernel
theorem dX7_settlesOne_137 : decode cX7_settlesOne 137 = .ok (.getfield 7, 3) := by decide +kernel
theorem dX7_settlesOne_140 : decode cX7_settlesOne 140 = .ok (.iload_n 2, 1) := by decide +kernel
theorem dX7_settlesOne_141 : decode cX7_settlesOne 141 = .ok (.iconst 2, 1) := by decide +kernel
theorem dX7_settlesOne_142 : decode cX7_settlesOne 142 = .ok (.invokestatic 54, 3) := by decide +kernel
theorem dX7_settlesOne_145 : decode cX7_settlesOne 145 = .ok (.dup2, 1) := by decide +kernel
theorem dX7_settlesOne_146 : decode cX7_settlesOne 146 = .ok (.iaload, 1) := by decide +kernel
theorem dX7_settlesOne_147 : decode cX7_settlesOne 147 = .ok (.iconst 1, 1) := by decide +kernel
theorem dX7_settlesOne_148 : decode cX7_settlesOne 148 = .ok (.iadd, 1) := by decide +kernel
theorem dX7_settlesOne_149 : decode cX7_settlesOne 149 = .ok (.iastore, 1) := by decide +kernel
theorem dX7_settlesOne_150 : decode cX7_settlesOne 150 = .ok (.aload_n 0, 1) := by decide +kernel
theorem dX7_settlesOne_151 : decode cX7_settlesOne 151 = .ok (.getfield 7, 3) := by decide +kernel
theorem dX7_settlesOne_154 : decode cX7_settlesOne 154 = .ok (.iload_n 1, 1) := by decide +kernel
theorem dX7_settlesOne_155 : decode cX7_settlesOne 155 = .ok (.iconst 2, 1) := by decide +kernel
theorem dX7_settlesOne_156 : decode cX7_settlesOne 156 = .ok (.invokestatic 36, 3) := by decide +kernel
theorem dX7_settlesOne_159 : decode cX7_settlesOne 159 = .ok (.iload_n 2, 1) := by decide +kernel
theorem dX7_settlesOne_160 : decode cX7_settlesOne 160 = .ok (.iastore, 1) := by decide +kernel
theorem dX7_settlesOne_161 : decode cX7_settlesOne 161 = .ok (.iload_n 2, 1) := by decide +kernel
theorem dX7_settlesOne_162 : decode cX7_settlesOne 162 = .ok (.ireturn, 1) := by decide +kernel
theorem dX7_noBids_0 : decode cX7_noBids 0 = .ok (.iconst 0, 1) := by decide +kernel
theorem dX7_noBids_1 : decode cX7_noBids 1 = .ok (.istore_n 1, 1) := by decide +kernel
theorem dX7_noBids_2 : decode cX7_noBids 2 = .ok (.iload_n 1, 1) := by decide +kernel
theorem dX7_noBids_3 : decode cX7_noBids 3 = .ok (.bipush 120, 2) := by decide +kernel
theorem dX7_noBids_5 : decode cX7_noBids 5 = .ok (.if_icmp .ge 19, 3) := by decide +kernel
theorem dX7_noBids_8 : decode cX7_noBids 8 = .ok (.aload_n 0, 1) := by decide +kernel
theorem dX7_noBids_9 : decode cX7_noBids 9 = .ok (.getfield 7, 3) := by decide +kernel
theorem dX7_noBids_12 : decode cX7_noBids 12 = .ok (.bipush 85, 2) := by decide +kernel
theorem dX7_noBids_14 : decode cX7_noBids 14 = .ok (.iload_n 1, 1) := by decide +kernel
theorem dX7_noBids_15 : decode cX7_noBids 15 = .ok (.iadd, 1) := by decide +kernel
theorem dX7_noBids_16 : decode cX7_noBids 16 = .ok (.iconst (-1), 1) := by decide +kernel
theorem dX7_noBids_17 : decode cX7_noBids 17 = .ok (.iastore, 1) := by decide +kernel
theorem dX7_noBids_18 : decode cX7_noBids 18 = .ok (.iinc 1 1, 3) := by decide +kernel
theorem dX7_noBids_21 : decode cX7_noBids 21 = .ok (.goto (-19), 3) := by decide +kernel
theorem dX7_noBids_24 : decode cX7_noBids 24 = .ok (.return_, 1) := by decide +kernel
theorem dX7_settles_0 : decode cX7_settles 0 = .ok (.iconst 0, 1) := by decide +kernel
theorem dX7_settles_1 : decode cX7_settles 1 = .ok (.istore_n 1, 1) := by decide +kernel
theorem dX7_settles_2 : decode cX7_settles 2 = .ok (.iconst 0, 1) := by decide +kernel
theorem dX7_settles_3 : decode cX7_settles 3 = .ok (.istore_n 2, 1) := by decide +kernel
theorem dX7_settles_4 : decode cX7_settles 4 = .ok (.iload_n 2, 1) := by decide +kernel
theorem dX7_settles_5 : decode cX7_settles 5 = .ok (.bipush 20, 2) := by decide +kernel
theorem dX7_settles_7 : decode cX7_settles 7 = .ok (.if_icmp .ge 26, 3) := by decide +kernel
theorem dX7_settles_10 : decode cX7_settles 10 = .ok (.iload_n 1, 1) := by decide +kernel
theorem dX7_settles_11 : decode cX7_settles 11 = .ok (.aload_n 0, 1) := by decide +kernel
theorem dX7_settles_12 : decode cX7_settles 12 = .ok (.iload_n 2, 1) := by decide +kernel
theorem dX7_settles_13 : decode cX7_settles 13 = .ok (.invokevirtual 85, 3) := by decide +kernel
theorem dX7_settles_16 : decode cX7_settles 16 = .ok (.iconst (-1), 1) := by decide +kernel
theorem dX7_settles_17 : decode cX7_settles 17 = .ok (.if_icmp .ne 7, 3) := by decide +kernel
theorem dX7_settles_20 : decode cX7_settles 20 = .ok (.iconst 0, 1) := by decide +kernel
theorem dX7_settles_21 : decode cX7_settles 21 = .ok (.goto 4, 3) := by decide +kernel
theorem dX7_settles_24 : decode cX7_settles 24 = .ok (.iconst 1, 1) := by decide +kernel
theorem dX7_settles_25 : decode cX7_settles 25 = .ok (.iadd, 1) := by decide +kernel
theorem dX7_settles_26 : decode cX7_settles 26 = .ok (.istore_n 1, 1) := by decide +kernel
theorem dX7_settles_27 : decode cX7_settles 27 = .ok (.iinc 2 1, 3) := by decide +kernel
theorem dX7_settles_30 : decode cX7_settles 30 = .ok (.goto (-26), 3) := by decide +kernel
theorem dX7_settles_33 : decode cX7_settles 33 = .ok (.aload_n 0, 1) := by decide +kernel
theorem dX7_settles_34 : decode cX7_settles 34 = .ok (.invokevirtual 88, 3) := by decide +kernel
theorem dX7_settles_37 : decode cX7_settles 37 = .ok (.iload_n 1, 1) := by decide +kernel
theorem dX7_settles_38 : decode cX7_settles 38 = .ok (.ireturn, 1) := by decide +kernel
theorem dX7_offers_0 : decode cX7_offers 0 = .ok (.aload_n 0, 1) := by decide +kernel
theorem dX7_offers_1 : decode cX7_offers 1 = .ok (.getfield 7, 3) := by decide +kernel
theorem dX7_offers_4 : decode cX7_offers 4 = .ok (.sipush 205, 3) := by decide +kernel
theorem dX7_offers_7 : decode cX7_offers 7 = .ok (.iaload, 1) := by decide +kernel
theorem dX7_offers_8 : decode cX7_offers 8 = .ok (.istore 4, 2) := by decide +kernel
theorem dX7_offers_10 : decode cX7_offers 10 = .ok (.aload_n 0, 1) := by decide +kernel
theorem dX7_offers_11 : decode cX7_offers 11 = .ok (.getfield 7, 3) := by decide +kernel
theorem dX7_offers_14 : decode cX7_offers 14 = .ok (.sipush 205, 3) := by decide +kernel
theorem dX7_offers_17 : decode cX7_offers 17 = .ok (.dup2, 1) := by decide +kernel
theorem dX7_offers_18 : decode cX7_offers 18 = .ok (.iaload, 1) := by decide +kernel
theorem dX7_offers_19 : decode cX7_offers 19 = .ok (.iconst 1, 1) := by decide +kernel
theorem dX7_offers_20 : decode cX7_offers 20 = .ok (.iadd, 1) := by decide +kernel
theorem dX7_offers_21 : decode cX7_offers 21 = .ok (.iastore, 1) := by decide +kernel
theorem dX7_offers_22 : decode cX7_offers 22 = .ok (.aload_n 0, 1) := by decide +kernel
theorem dX7_offers_23 : decode cX7_offers 23 = .ok (.getfield 7, 3) := by decide +kernel
theorem dX7_offers_26 : decode cX7_offers 26 = .ok (.iload 4, 2) := by decide +kernel
theorem dX7_offers_28 : decode cX7_offers 28 = .ok (.iconst 0, 1) := by decide +kernel
theorem dX7_offers_29 : decode cX7_offers 29 = .ok (.invokestatic 91, 3) := by decide +kernel
theorem dX7_offers_32 : decode cX7_offers 32 = .ok (.iload_n 1, 1) := by decide +kernel
theorem dX7_offers_33 : decode cX7_offers 33 = .ok (.iastore, 1) := by decide +kernel
theorem dX7_offers_34 : decode cX7_offers 34 = .ok (.aload_n 0, 1) := by decide +kernel
theorem dX7_offers_35 : decode cX7_offers 35 = .ok (.getfield 7, 3) := by decide +kernel
theorem dX7_offers_38 : decode cX7_offers 38 = .ok (.iload 4, 2) := by decide +kernel
theorem dX7_offers_40 : decode cX7_offers 40 = .ok (.iconst 1, 1) := by decide +kernel
theorem dX7_offers_41 : decode cX7_offers 41 = .ok (.invokestatic 91, 3) := by decide +kernel
theorem dX7_offers_44 : decode cX7_offers 44 = .ok (.iload_n 2, 1) := by decide +kernel
theorem dX7_offers_45 : decode cX7_offers 45 = .ok (.iastore, 1) := by decide +kernel
theorem dX7_offers_46 : decode cX7_offers 46 = .ok (.aload_n 0, 1) := by decide +kernel
theorem dX7_offers_47 : decode cX7_offers 47 = .ok (.getfield 7, 3) := by decide +kernel
theorem dX7_offers_50 : decode cX7_offers 50 = .ok (.iload 4, 2) := by decide +kernel
theorem dX7_offers_52 : decode cX7_offers 52 = .ok (.iconst 2, 1) := by decide +kernel
theorem dX7_offers_53 : decode cX7_offers 53 = .ok (.invokestatic 91, 3) := by decide +kernel
theorem dX7_offers_56 : decode cX7_offers 56 = .ok (.iload_n 3, 1) := by decide +kernel
theorem dX7_offers_57 : decode cX7_offers 57 = .ok (.iastore, 1) := by decide +kernel
theorem dX7_offers_58 : decode cX7_offers 58 = .ok (.iload 4, 2) := by decide +kernel
theorem dX7_offers_60 : decode cX7_offers 60 = .ok (.ireturn, 1) := by decide +kernel
theorem dX7_isVoid_0 : decode cX7_isVoid 0 = .ok (.aload_n 0, 1) := by decide +kernel
theorem dX7_isVoid_1 : decode cX7_isVoid 1 = .ok (.getfield 7, 3) := by decide +kernel
theorem dX7_isVoid_4 : decode cX7_isVoid 4 = .ok (.iload_n 1, 1) := by decide +kernel
theorem dX7_isVoid_5 : decode cX7_isVoid 5 = .ok (.iconst 0, 1) := by decide +kernel
theorem dX7_isVoid_6 : decode cX7_isVoid 6 = .ok (.invokestatic 91, 3) := by decide +kernel
theorem dX7_isVoid_9 : decode cX7_isVoid 9 = .ok (.iaload, 1) := by decide +kernel
theorem dX7_isVoid_10 : decode cX7_isVoid 10 = .ok (.istore_n 2, 1) := by decide +kernel
theorem dX7_isVoid_11 : decode cX7_isVoid 11 = .ok (.aload_n 0, 1) := by decide +kernel
theorem dX7_isVoid_12 : decode cX7_isVoid 12 = .ok (.getfield 7, 3) := by decide +kernel
theorem dX7_isVoid_15 : decode cX7_isVoid 15 = .ok (.aload_n 0, 1) := by decide +kernel
theorem dX7_isVoid_16 : decode cX7_isVoid 16 = .ok (.getfield 7, 3) := by decide +kernel
theorem dX7_isVoid_19 : decode cX7_isVoid 19 = .ok (.iload_n 1, 1) := by decide +kernel
theorem dX7_isVoid_20 : decode cX7_isVoid 20 = .ok (.iconst 2, 1) := by decide +kernel
theorem dX7_isVoid_21 : decode cX7_isVoid 21 = .ok (.invokestatic 91, 3) := by decide +kernel
theorem dX7_isVoid_24 : decode cX7_isVoid 24 = .ok (.iaload, 1) := by decide +kernel
theorem dX7_isVoid_25 : decode cX7_isVoid 25 = .ok (.iconst 2, 1) := by decide +kernel
theorem dX7_isVoid_26 : decode cX7_isVoid 26 = .ok (.invokestatic 36, 3) := by decide +kernel
theorem dX7_isVoid_29 : decode cX7_isVoid 29 = .ok (.iaload, 1) := by decide +kernel
theorem dX7_isVoid_30 : decode cX7_isVoid 30 = .ok (.istore_n 3, 1) := by decide +kernel
theorem dX7_isVoid_31 : decode cX7_isVoid 31 = .ok (.aload_n 0, 1) := by decide +kernel
theorem dX7_isVoid_32 : decode cX7_isVoid 32 = .ok (.getfield 7, 3) := by decide +kernel
theorem dX7_isVoid_35 : decode cX7_isVoid 35 = .ok (.aload_n 0, 1) := by decide +kernel
theorem dX7_isVoid_36 : decode cX7_isVoid 36 = .ok (.getfield 7, 3) := by decide +kernel
theorem dX7_isVoid_39 : decode cX7_isVoid 39 = .ok (.iload_n 1, 1) := by decide +kernel
theorem dX7_isVoid_40 : decode cX7_isVoid 40 = .ok (.iconst 1, 1) := by decide +kernel
theorem dX7_isVoid_41 : decode cX7_isVoid 41 = .ok (.invokestatic 91, 3) := by decide +kernel
theorem dX7_isVoid_44 : decode cX7_isVoid 44 = .ok (.iaload, 1) := by decide +kernel
theorem dX7_isVoid_45 : decode cX7_isVoid 45 = .ok (.iconst 2, 1) := by decide +kernel
theorem dX7_isVoid_46 : decode cX7_isVoid 46 = .ok (.invokestatic 36, 3) := by decide +kernel
theorem dX7_isVoid_49 : decode cX7_isVoid 49 = .ok (.iaload, 1) := by decide +kernel
theorem dX7_isVoid_50 : decode cX7_isVoid 50 = .ok (.iload_n 2, 1) := by decide +kernel
theorem dX7_isVoid_51 : decode cX7_isVoid 51 = .ok (.if_icmp .ne 13, 3) := by decide +kernel
theorem dX7_isVoid_54 : decode cX7_isVoid 54 = .ok (.iload_n 3, 1) := by decide +kernel
theorem dX7_isVoid_55 : decode cX7_isVoid 55 = .ok (.iconst (-1), 1) := by decide +kernel
theorem dX7_isVoid_56 : decode cX7_isVoid 56 = .ok (.if_icmp .eq 8, 3) := by decide +kernel
theorem dX7_isVoid_59 : decode cX7_isVoid 59 = .ok (.iload_n 3, 1) := by decide +kernel
theorem dX7_isVoid_60 : decode cX7_isVoid 60 = .ok (.iload_n 2, 1) := by decide +kernel
theorem dX7_isVoid_61 : decode cX7_isVoid 61 = .ok (.if_icmp .ne 7, 3) := by decide +kernel
theorem dX7_isVoid_64 : decode cX7_isVoid 64 = .ok (.iconst 1, 1) := by decide +kernel
theorem dX7_isVoid_65 : decode cX7_isVoid 65 = .ok (.goto 4, 3) := by decide +kernel
theorem dX7_isVoid_68 : decode cX7_isVoid 68 = .ok (.iconst 0, 1) := by decide +kernel
theorem dX7_isVoid_69 : decode cX7_isVoid 69 = .ok (.ireturn, 1) := by decide +kernel
theorem dX7_accepts_0 : decode cX7_accepts 0 = .ok (.aload_n 0, 1) := by decide +kernel
theorem dX7_accepts_1 : decode cX7_accepts 1 = .ok (.iload_n 1, 1) := by decide +kernel
theorem dX7_accepts_2 : decode cX7_accepts 2 = .ok (.invokevirtual 94, 3) := by decide +kernel
theorem dX7_accepts_5 : decode cX7_accepts 5 = .ok (.istore_n 2, 1) := by decide +kernel
theorem dX7_accepts_6 : decode cX7_accepts 6 = .ok (.aload_n 0, 1) := by decide +kernel
theorem dX7_accepts_7 : decode cX7_accepts 7 = .ok (.getfield 7, 3) := by decide +kernel
theorem dX7_accepts_10 : decode cX7_accepts 10 = .ok (.iload_n 1, 1) := by decide +kernel
theorem dX7_accepts_11 : decode cX7_accepts 11 = .ok (.iconst 1, 1) := by decide +kernel
theorem dX7_accepts_12 : decode cX7_accepts 12 = .ok (.invokestatic 91, 3) := by decide +kernel
theorem dX7_accepts_15 : decode cX7_accepts 15 = .ok (.iaload, 1) := by decide +kernel
theorem dX7_accepts_16 : decode cX7_accepts 16 = .ok (.iconst 2, 1) := by decide +kernel
theorem dX7_accepts_17 : decode cX7_accepts 17 = .ok (.invokestatic 36, 3) := by decide +kernel
theorem dX7_accepts_20 : decode cX7_accepts 20 = .ok (.istore_n 3, 1) := by decide +kernel
theorem dX7_accepts_21 : decode cX7_accepts 21 = .ok (.aload_n 0, 1) := by decide +kernel
theorem dX7_accepts_22 : decode cX7_accepts 22 = .ok (.getfield 7, 3) := by decide +kernel
theorem dX7_accepts_25 : decode cX7_accepts 25 = .ok (.iload_n 1, 1) := by decide +kernel
theorem dX7_accepts_26 : decode cX7_accepts 26 = .ok (.iconst 2, 1) := by decide +kernel
theorem dX7_accepts_27 : decode cX7_accepts 27 = .ok (.invokestatic 91, 3) := by decide +kernel
theorem dX7_accepts_30 : decode cX7_accepts 30 = .ok (.iaload, 1) := by decide +kernel
theorem dX7_accepts_31 : decode cX7_accepts 31 = .ok (.iconst 2, 1) := by decide +kernel
theorem dX7_accepts_32 : decode cX7_accepts 32 = .ok (.invokestatic 36, 3) := by decide +kernel
theorem dX7_accepts_35 : decode cX7_accepts 35 = .ok (.istore 4, 2) := by decide +kernel
theorem dX7_accepts_37 : decode cX7_accepts 37 = .ok (.iload_n 2, 1) := by decide +kernel
theorem dX7_accepts_38 : decode cX7_accepts 38 = .ok (.ifCond .ne 21, 3) := by decide +kernel
theorem dX7_accepts_41 : decode cX7_accepts 41 = .ok (.aload_n 0, 1) := by decide +kernel
theorem dX7_accepts_42 : decode cX7_accepts 42 = .ok (.getfield 7, 3) := by decide +kernel
theorem dX7_accepts_45 : decode cX7_accepts 45 = .ok (.iload_n 3, 1) := by decide +kernel
theorem dX7_accepts_46 : decode cX7_accepts 46 = .ok (.aload_n 0, 1) := by decide +kernel
theorem dX7_accepts_47 : decode cX7_accepts 47 = .ok (.iload 4, 2) := by decide +kernel
theorem dX7_accepts_49 : decode cX7_accepts 49 = .ok (.aload_n 0, 1) := by decide +kernel
theorem dX7_accepts_50 : decode cX7_accepts 50 = .ok (.getfield 7, 3) := by decide +kernel
theorem dX7_accepts_53 : decode cX7_accepts 53 = .ok (.iload_n 3, 1) := by decide +kernel
theorem dX7_accepts_54 : decode cX7_accepts 54 = .ok (.iaload, 1) := by decide +kernel
theorem dX7_accepts_55 : decode cX7_accepts 55 = .ok (.invokevirtual 97, 3) := by decide +kernel
theorem dX7_accepts_58 : decode cX7_accepts 58 = .ok (.iastore, 1) := by decide +kernel
theorem dX7_accepts_59 : decode cX7_accepts 59 = .ok (.aload_n 0, 1) := by decide +kernel
theorem dX7_accepts_60 : decode cX7_accepts 60 = .ok (.getfield 7, 3) := by decide +kernel
theorem dX7_accepts_63 : decode cX7_accepts 63 = .ok (.sipush 238, 3) := by decide +kernel
theorem dX7_accepts_66 : decode cX7_accepts 66 = .ok (.dup2, 1) := by decide +kernel
theorem dX7_accepts_67 : decode cX7_accepts 67 = .ok (.iaload, 1) := by decide +kernel
theorem dX7_accepts_68 : decode cX7_accepts 68 = .ok (.iload_n 2, 1) := by decide +kernel
theorem dX7_accepts_69 : decode cX7_accepts 69 = .ok (.ifCond .eq 7, 3) := by decide +kernel
theorem dX7_accepts_72 : decode cX7_accepts 72 = .ok (.iconst 0, 1) := by decide +kernel
theorem dX7_accepts_73 : decode cX7_accepts 73 = .ok (.goto 4, 3) := by decide +kernel
theorem dX7_accepts_76 : decode cX7_accepts 76 = .ok (.iconst 1, 1) := by decide +kernel
theorem dX7_accepts_77 : decode cX7_accepts 77 = .ok (.iadd, 1) := by decide +kernel
theorem dX7_accepts_78 : decode cX7_accepts 78 = .ok (.iastore, 1) := by decide +kernel
theorem dX7_accepts_79 : decode cX7_accepts 79 = .ok (.aload_n 0, 1) := by decide +kernel
theorem dX7_accepts_80 : decode cX7_accepts 80 = .ok (.getfield 7, 3) := by decide +kernel
theorem dX7_accepts_83 : decode cX7_accepts 83 = .ok (.sipush 239, 3) := by decide +kernel
theorem dX7_accepts_86 : decode cX7_accepts 86 = .ok (.dup2, 1) := by decide +kernel
theorem dX7_accepts_87 : decode cX7_accepts 87 = .ok (.iaload, 1) := by decide +kernel
theorem dX7_accepts_88 : decode cX7_accepts 88 = .ok (.iload_n 2, 1) := by decide +kernel
theorem dX7_accepts_89 : decode cX7_accepts 89 = .ok (.ifCond .eq 7, 3) := by decide +kernel
theorem dX7_accepts_92 : decode cX7_accepts 92 = .ok (.iconst 1, 1) := by decide +kernel
theorem dX7_accepts_93 : decode cX7_accepts 93 = .ok (.goto 4, 3) := by decide +kernel
theorem dX7_accepts_96 : decode cX7_accepts 96 = .ok (.iconst 0, 1) := by decide +kernel
theorem dX7_accepts_97 : decode cX7_accepts 97 = .ok (.iadd, 1) := by decide +kernel
theorem dX7_accepts_98 : decode cX7_accepts 98 = .ok (.iastore, 1) := by decide +kernel
theorem dX7_accepts_99 : decode cX7_accepts 99 = .ok (.iload_n 1, 1) := by decide +kernel
theorem dX7_accepts_100 : decode cX7_accepts 100 = .ok (.iconst 0, 1) := by decide +kernel
theorem dX7_accepts_101 : decode cX7_accepts 101 = .ok (.invokestatic 91, 3) := by decide +kernel
theorem dX7_accepts_104 : decode cX7_accepts 104 = .ok (.istore 5, 2) := by decide +kernel
theorem dX7_accepts_106 : decode cX7_accepts 106 = .ok (.iload 5, 2) := by decide +kernel
theorem dX7_accepts_108 : decode cX7_accepts 108 = .ok (.bipush 7, 2) := by decide +kernel
theorem dX7_accepts_110 : decode cX7_accepts 110 = .ok (.iconst 0, 1) := by decide +kernel
theorem dX7_accepts_111 : decode cX7_accepts 111 = .ok (.invokestatic 91, 3) := by decide +kernel
theorem dX7_accepts_114 : decode cX7_accepts 114 = .ok (.if_icmp .ge 25, 3) := by decide +kernel
theorem dX7_accepts_117 : decode cX7_accepts 117 = .ok (.aload_n 0, 1) := by decide +kernel
theorem dX7_accepts_118 : decode cX7_accepts 118 = .ok (.getfield 7, 3) := by decide +kernel
theorem dX7_accepts_121 : decode cX7_accepts 121 = .ok (.iload 5, 2) := by decide +kernel
theorem dX7_accepts_123 : decode cX7_accepts 123 = .ok (.aload_n 0, 1) := by decide +kernel
theorem dX7_accepts_124 : decode cX7_accepts 124 = .ok (.getfield 7, 3) := by decide +kernel
theorem dX7_accepts_127 : decode cX7_accepts 127 = .ok (.iload 5, 2) := by decide +kernel
theorem dX7_accepts_129 : decode cX7_accepts 129 = .ok (.iconst 3, 1) := by decide +kernel
theorem dX7_accepts_130 : decode cX7_accepts 130 = .ok (.iadd, 1) := by decide +kernel
theorem dX7_accepts_131 : decode cX7_accepts 131 = .ok (.iaload, 1) := by decide +kernel
theorem dX7_accepts_132 : decode cX7_accepts 132 = .ok (.iastore, 1) := by decide +kernel
theorem dX7_accepts_133 : decode cX7_accepts 133 = .ok (.iinc 5 1, 3) := by decide +kernel
theorem dX7_accepts_136 : decode cX7_accepts 136 = .ok (.goto (-30), 3) := by decide +kernel
theorem dX7_accepts_139 : decode cX7_accepts 139 = .ok (.aload_n 0, 1) := by decide +kernel
theorem dX7_accepts_140 : decode cX7_accepts 140 = .ok (.getfield 7, 3) := by decide +kernel
theorem dX7_accepts_143 : decode cX7_accepts 143 = .ok (.sipush 205, 3) := by decide +kernel
theorem dX7_accepts_146 : decode cX7_accepts 146 = .ok (.dup2, 1) := by decide +kernel
theorem dX7_accepts_147 : decode cX7_accepts 147 = .ok (.iaload, 1) := by decide +kernel
theorem dX7_accepts_148 : decode cX7_accepts 148 = .ok (.iconst 1, 1) := by decide +kernel
theorem dX7_accepts_149 : decode cX7_accepts 149 = .ok (.isub, 1) := by decide +kernel
theorem dX7_accepts_150 : decode cX7_accepts 150 = .ok (.iastore, 1) := by decide +kernel
theorem dX7_accepts_151 : decode cX7_accepts 151 = .ok (.iload_n 2, 1) := by decide +kernel
theorem dX7_accepts_152 : decode cX7_accepts 152 = .ok (.ifCond .eq 7, 3) := by decide +kernel
theorem dX7_accepts_155 : decode cX7_accepts 155 = .ok (.iconst 0, 1) := by decide +kernel
theorem dX7_accepts_156 : decode cX7_accepts 156 = .ok (.goto 4, 3) := by decide +kernel
theorem dX7_accepts_159 : decode cX7_accepts 159 = .ok (.iconst 1, 1) := by decide +kernel
theorem dX7_accepts_160 : decode cX7_accepts 160 = .ok (.ireturn, 1) := by decide +kernel
theorem dX7_shares_0 : decode cX7_shares 0 = .ok (.iconst 0, 1) := by decide +kernel
theorem dX7_shares_1 : decode cX7_shares 1 = .ok (.istore_n 1, 1) := by decide +kernel
theorem dX7_shares_2 : decode cX7_shares 2 = .ok (.iconst 0, 1) := by decide +kernel
theorem dX7_shares_3 : decode cX7_shares 3 = .ok (.istore_n 2, 1) := by decide +kernel
theorem dX7_shares_4 : decode cX7_shares 4 = .ok (.iload_n 2, 1) := by decide +kernel
theorem dX7_shares_5 : decode cX7_shares 5 = .ok (.aload_n 0, 1) := by decide +kernel
theorem dX7_shares_6 : decode cX7_shares 6 = .ok (.getfield 7, 3) := by decide +kernel
theorem dX7_shares_9 : decode cX7_shares 9 = .ok (.iconst 0, 1) := by decide +kernel
theorem dX7_shares_10 : decode cX7_shares 10 = .ok (.iaload, 1) := by decide +kernel
theorem dX7_shares_11 : decode cX7_shares 11 = .ok (.if_icmp .ge 22, 3) := by decide +kernel
theorem dX7_shares_14 : decode cX7_shares 14 = .ok (.iload_n 1, 1) := by decide +kernel
theorem dX7_shares_15 : decode cX7_shares 15 = .ok (.aload_n 0, 1) := by decide +kernel
theorem dX7_shares_16 : decode cX7_shares 16 = .ok (.getfield 7, 3) := by decide +kernel
theorem dX7_shares_19 : decode cX7_shares 19 = .ok (.iload_n 2, 1) := by decide +kernel
theorem dX7_shares_20 : decode cX7_shares 20 = .ok (.iconst 0, 1) := by decide +kernel
theorem dX7_shares_21 : decode cX7_shares 21 = .ok (.invokestatic 54, 3) := by decide +kernel
theorem dX7_shares_24 : decode cX7_shares 24 = .ok (.iaload, 1) := by decide +kernel
theorem dX7_shares_25 : decode cX7_shares 25 = .ok (.iadd, 1) := by decide +kernel
theorem dX7_shares_26 : decode cX7_shares 26 = .ok (.istore_n 1, 1) := by decide +kernel
theorem dX7_shares_27 : decode cX7_shares 27 = .ok (.iinc 2 1, 3) := by decide +kernel
theorem dX7_shares_30 : decode cX7_shares 30 = .ok (.goto (-26), 3) := by decide +kernel
theorem dX7_shares_33 : decode cX7_shares 33 = .ok (.iload_n 1, 1) := by decide +kernel
theorem dX7_shares_34 : decode cX7_shares 34 = .ok (.ireturn, 1) := by decide +kernel
theorem dX7_partOf_0 : decode cX7_partOf 0 = .ok (.aload_n 0, 1) := by decide +kernel
theorem dX7_partOf_1 : decode cX7_partOf 1 = .ok (.invokevirtual 100, 3) := by decide +kernel
theorem dX7_partOf_4 : decode cX7_partOf 4 = .ok (.istore_n 3, 1) := by decide +kernel
theorem dX7_partOf_5 : decode cX7_partOf 5 = .ok (.iload_n 2, 1) := by decide +kernel
theorem dX7_partOf_6 : decode cX7_partOf 6 = .ok (.istore 4, 2) := by decide +kernel
theorem dX7_partOf_8 : decode cX7_partOf 8 = .ok (.iconst 0, 1) := by decide +kernel
theorem dX7_partOf_9 : decode cX7_partOf 9 = .ok (.istore 5, 2) := by decide +kernel
theorem dX7_partOf_11 : decode cX7_partOf 11 = .ok (.iload_n 2, 1) := by decide +kernel
theorem dX7_partOf_12 : decode cX7_partOf 12 = .ok (.aload_n 0, 1) := by decide +kernel
theorem dX7_partOf_13 : decode cX7_partOf 13 = .ok (.getfield 7, 3) := by decide +kernel
theorem dX7_partOf_16 : decode cX7_partOf 16 = .ok (.iload_n 1, 1) := by decide +kernel
theorem dX7_partOf_17 : decode cX7_partOf 17 = .ok (.iconst 0, 1) := by decide +kernel
theorem dX7_partOf_18 : decode cX7_partOf 18 = .ok (.invokestatic 54, 3) := by decide +kernel
theorem dX7_partOf_21 : decode cX7_partOf 21 = .ok (.iaload, 1) := by decide +kernel
theorem dX7_partOf_22 : decode cX7_partOf 22 = .ok (.imul, 1) := by decide +kernel
theorem dX7_partOf_23 : decode cX7_partOf 23 = .ok (.iload_n 3, 1) := by decide +kernel
theorem dX7_partOf_24 : decode cX7_partOf 24 = .ok (.irem, 1) := by decide +kernel
theorem dX7_partOf_25 : decode cX7_partOf 25 = .ok (.istore 6, 2) := by decide +kernel
theorem dX7_partOf_27 : decode cX7_partOf 27 = .ok (.iconst 0, 1) := by decide +kernel
theorem dX7_partOf_28 : decode cX7_partOf 28 = .ok (.istore 7, 2) := by decide +kernel
theorem dX7_partOf_30 : decode cX7_partOf 30 = .ok (.iload 7, 2) := by decide +kernel
theorem dX7_partOf_32 : decode cX7_partOf 32 = .ok (.aload_n 0, 1) := by decide +kernel
theorem dX7_partOf_33 : decode cX7_partOf 33 = .ok (.getfield 7, 3) := by decide +kernel
theorem dX7_partOf_36 : decode cX7_partOf 36 = .ok (.iconst 0, 1) := by decide +kernel
theorem dX7_partOf_37 : decode cX7_partOf 37 = .ok (.iaload, 1) := by decide +kernel
theorem dX7_partOf_38 : decode cX7_partOf 38 = .ok (.if_icmp .ge 76, 3) := by decide +kernel
theorem dX7_partOf_41 : decode cX7_partOf 41 = .ok (.iload_n 2, 1) := by decide +kernel
theorem dX7_partOf_42 : decode cX7_partOf 42 = .ok (.aload_n 0, 1) := by decide +kernel
theorem dX7_partOf_43 : decode cX7_partOf 43 = .ok (.getfield 7, 3) := by decide +kernel
theorem dX7_partOf_46 : decode cX7_partOf 46 = .ok (.iload 7, 2) := by decide +kernel
theorem dX7_partOf_48 : decode cX7_partOf 48 = .ok (.iconst 0, 1) := by decide +kernel
theorem dX7_partOf_49 : decode cX7_partOf 49 = .ok (.invokestatic 54, 3) := by decide +kernel
theorem dX7_partOf_52 : decode cX7_partOf 52 = .ok (.iaload, 1) := by decide +kernel
theorem dX7_partOf_53 : decode cX7_partOf 53 = .ok (.imul, 1) := by decide +kernel
theorem dX7_partOf_54 : decode cX7_partOf 54 = .ok (.iload_n 3, 1) := by decide +kernel
theorem dX7_partOf_55 : decode cX7_partOf 55 = .ok (.irem, 1) := by decide +kernel
theorem dX7_partOf_56 : decode cX7_partOf 56 = .ok (.istore 8, 2) := by decide +kernel
theorem dX7_partOf_58 : decode cX7_partOf 58 = .ok (.iload 4, 2) := by decide +kernel
theorem dX7_partOf_60 : decode cX7_partOf 60 = .ok (.iload_n 2, 1) := by decide +kernel
theorem dX7_partOf_61 : decode cX7_partOf 61 = .ok (.aload_n 0, 1) := by decide +kernel
theorem dX7_partOf_62 : decode cX7_partOf 62 = .ok (.getfield 7, 3) := by decide +kernel
theorem dX7_partOf_65 : decode cX7_partOf 65 = .ok (.iload 7, 2) := by decide +kernel
theorem dX7_partOf_67 : decode cX7_partOf 67 = .ok (.iconst 0, 1) := by decide +kernel
theorem dX7_partOf_68 : decode cX7_partOf 68 = .ok (.invokestatic 54, 3) := by decide +kernel
theorem dX7_partOf_71 : decode cX7_partOf 71 = .ok (.iaload, 1) := by decide +kernel
theorem dX7_partOf_72 : decode cX7_partOf 72 = .ok (.imul, 1) := by decide +kernel
theorem dX7_partOf_73 : decode cX7_partOf 73 = .ok (.iload_n 3, 1) := by decide +kernel
theorem dX7_partOf_74 : decode cX7_partOf 74 = .ok (.idiv, 1) := by decide +kernel
theorem dX7_partOf_75 : decode cX7_partOf 75 = .ok (.isub, 1) := by decide +kernel
theorem dX7_partOf_76 : decode cX7_partOf 76 = .ok (.istore 4, 2) := by decide +kernel
theorem dX7_partOf_78 : decode cX7_partOf 78 = .ok (.iload 5, 2) := by decide +kernel
theorem dX7_partOf_80 : decode cX7_partOf 80 = .ok (.iload 8, 2) := by decide +kernel
theorem dX7_partOf_82 : decode cX7_partOf 82 = .ok (.iload 6, 2) := by decide +kernel
theorem dX7_partOf_84 : decode cX7_partOf 84 = .ok (.if_icmp .gt 16, 3) := by decide +kernel
theorem dX7_partOf_87 : decode cX7_partOf 87 = .ok (.iload 8, 2) := by decide +kernel
theorem dX7_partOf_89 : decode cX7_partOf 89 = .ok (.iload 6, 2) := by decide +kernel
theorem dX7_partOf_91 : decode cX7_partOf 91 = .ok (.if_icmp .ne 13, 3) := by decide +kernel
theorem dX7_partOf_94 : decode cX7_partOf 94 = .ok (.iload 7, 2) := by decide +kernel
theorem dX7_partOf_96 : decode cX7_partOf 96 = .ok (.iload_n 1, 1) := by decide +kernel
theorem dX7_partOf_97 : decode cX7_partOf 97 = .ok (.if_icmp .ge 7, 3) := by decide +kernel
theorem dX7_partOf_100 : decode cX7_partOf 100 = .ok (.iconst 1, 1) := by decide +kernel
theorem dX7_partOf_101 : decode cX7_partOf 101 = .ok (.goto 4, 3) := by decide +kernel
theorem dX7_partOf_104 : decode cX7_partOf 104 = .ok (.iconst 0, 1) := by decide +kernel
theorem dX7_partOf_105 : decode cX7_partOf 105 = .ok (.iadd, 1) := by decide +kernel
theorem dX7_partOf_106 : decode cX7_partOf 106 = .ok (.istore 5, 2) := by decide +kernel
theorem dX7_partOf_108 : decode cX7_partOf 108 = .ok (.iinc 7 1, 3) := by decide +kernel
theorem dX7_partOf_111 : decode cX7_partOf 111 = .ok (.goto (-81), 3) := by decide +kernel
theorem dX7_partOf_114 : decode cX7_partOf 114 = .ok (.iload_n 2, 1) := by decide +kernel
theorem dX7_partOf_115 : decode cX7_partOf 115 = .ok (.aload_n 0, 1) := by decide +kernel
theorem dX7_partOf_116 : decode cX7_partOf 116 = .ok (.getfield 7, 3) := by decide +kernel
theorem dX7_partOf_119 : decode cX7_partOf 119 = .ok (.iload_n 1, 1) := by decide +kernel
theorem dX7_partOf_120 : decode cX7_partOf 120 = .ok (.iconst 0, 1) := by decide +kernel
theorem dX7_partOf_121 : decode cX7_partOf 121 = .ok (.invokestatic 54, 3) := by decide +kernel
theorem dX7_partOf_124 : decode cX7_partOf 124 = .ok (.iaload, 1) := by decide +kernel
theorem dX7_partOf_125 : decode cX7_partOf 125 = .ok (.imul, 1) := by decide +kernel
theorem dX7_partOf_126 : decode cX7_partOf 126 = .ok (.iload_n 3, 1) := by decide +kernel
theorem dX7_partOf_127 : decode cX7_partOf 127 = .ok (.idiv, 1) := by decide +kernel
theorem dX7_partOf_128 : decode cX7_partOf 128 = .ok (.iload 5, 2) := by decide +kernel
theorem dX7_partOf_130 : decode cX7_partOf 130 = .ok (.iload 4, 2) := by decide +kernel
theorem dX7_partOf_132 : decode cX7_partOf 132 = .ok (.if_icmp .ge 7, 3) := by decide +kernel
theorem dX7_partOf_135 : decode cX7_partOf 135 = .ok (.iconst 1, 1) := by decide +kernel
theorem dX7_partOf_136 : decode cX7_partOf 136 = .ok (.goto 4, 3) := by decide +kernel
theorem dX7_partOf_139 : decode cX7_partOf 139 = .ok (.iconst 0, 1) := by decide +kernel
theorem dX7_partOf_140 : decode cX7_partOf 140 = .ok (.iadd, 1) := by decide +kernel
theorem dX7_partOf_141 : decode cX7_partOf 141 = .ok (.ireturn, 1) := by decide +kernel
theorem dX7_parts_0 : decode cX7_parts 0 = .ok (.iconst 0, 1) := by decide +kernel
theorem dX7_parts_1 : decode cX7_parts 1 = .ok (.istore_n 2, 1) := by decide +kernel
theorem dX7_parts_2 : decode cX7_parts 2 = .ok (.iconst 0, 1) := by decide +kernel
theorem dX7_parts_3 : decode cX7_parts 3 = .ok (.istore_n 3, 1) := by decide +kernel
theorem dX7_parts_4 : decode cX7_parts 4 = .ok (.iload_n 3, 1) := by decide +kernel
theorem dX7_parts_5 : decode cX7_parts 5 = .ok (.aload_n 0, 1) := by decide +kernel
theorem dX7_parts_6 : decode cX7_parts 6 = .ok (.getfield 7, 3) := by decide +kernel
theorem dX7_parts_9 : decode cX7_parts 9 = .ok (.iconst 0, 1) := by decide +kernel
theorem dX7_parts_10 : decode cX7_parts 10 = .ok (.iaload, 1) := by decide +kernel
theorem dX7_parts_11 : decode cX7_parts 11 = .ok (.if_icmp .ge 45, 3) := by decide +kernel
theorem dX7_parts_14 : decode cX7_parts 14 = .ok (.aload_n 0, 1) := by decide +kernel
theorem dX7_parts_15 : decode cX7_parts 15 = .ok (.iload_n 3, 1) := by decide +kernel
theorem dX7_parts_16 : decode cX7_parts 16 = .ok (.iload_n 1, 1) := by decide +kernel
theorem dX7_parts_17 : decode cX7_parts 17 = .ok (.invokevirtual 104, 3) := by decide +kernel
theorem dX7_parts_20 : decode cX7_parts 20 = .ok (.istore 4, 2) := by decide +kernel
theorem dX7_parts_22 : decode cX7_parts 22 = .ok (.aload_n 0, 1) := by decide +kernel
theorem dX7_parts_23 : decode cX7_parts 23 = .ok (.getfield 7, 3) := by decide +kernel
theorem dX7_parts_26 : decode cX7_parts 26 = .ok (.iload_n 3, 1) := by decide +kernel
theorem dX7_parts_27 : decode cX7_parts 27 = .ok (.iconst 3, 1) := by decide +kernel
theorem dX7_parts_28 : decode cX7_parts 28 = .ok (.invokestatic 54, 3) := by decide +kernel
theorem dX7_parts_31 : decode cX7_parts 31 = .ok (.dup2, 1) := by decide +kernel
theorem dX7_parts_32 : decode cX7_parts 32 = .ok (.iaload, 1) := by decide +kernel
theorem dX7_parts_33 : decode cX7_parts 33 = .ok (.iload 4, 2) := by decide +kernel
theorem dX7_parts_35 : decode cX7_parts 35 = .ok (.iadd, 1) := by decide +kernel
theorem dX7_parts_36 : decode cX7_parts 36 = .ok (.iastore, 1) := by decide +kernel
theorem dX7_parts_37 : decode cX7_parts 37 = .ok (.iload 4, 2) := by decide +kernel
theorem dX7_parts_39 : decode cX7_parts 39 = .ok (.iload_n 2, 1) := by decide +kernel
theorem dX7_parts_40 : decode cX7_parts 40 = .ok (.if_icmp .le 8, 3) := by decide +kernel
theorem dX7_parts_43 : decode cX7_parts 43 = .ok (.iload 4, 2) := by decide +kernel
theorem dX7_parts_45 : decode cX7_parts 45 = .ok (.goto 4, 3) := by decide +kernel
theorem dX7_parts_48 : decode cX7_parts 48 = .ok (.iload_n 2, 1) := by decide +kernel
theorem dX7_parts_49 : decode cX7_parts 49 = .ok (.istore_n 2, 1) := by decide +kernel
theorem dX7_parts_50 : decode cX7_parts 50 = .ok (.iinc 3 1, 3) := by decide +kernel
theorem dX7_parts_53 : decode cX7_parts 53 = .ok (.goto (-49), 3) := by decide +kernel
theorem dX7_parts_56 : decode cX7_parts 56 = .ok (.aload_n 0, 1) := by decide +kernel
theorem dX7_parts_57 : decode cX7_parts 57 = .ok (.getfield 7, 3) := by decide +kernel
theorem dX7_parts_60 : decode cX7_parts 60 = .ok (.sipush 241, 3) := by decide +kernel
theorem dX7_parts_63 : decode cX7_parts 63 = .ok (.dup2, 1) := by decide +kernel
theorem dX7_parts_64 : decode cX7_parts 64 = .ok (.iaload, 1) := by decide +kernel
theorem dX7_parts_65 : decode cX7_parts 65 = .ok (.iload_n 1, 1) := by decide +kernel
theorem dX7_parts_66 : decode cX7_parts 66 = .ok (.iadd, 1) := by decide +kernel
theorem dX7_parts_67 : decode cX7_parts 67 = .ok (.iastore, 1) := by decide +kernel
theorem dX7_parts_68 : decode cX7_parts 68 = .ok (.iload_n 2, 1) := by decide +kernel
theorem dX7_parts_69 : decode cX7_parts 69 = .ok (.ireturn, 1) := by decide +kernel
theorem dX7_goesOn_0 : decode cX7_goesOn 0 = .ok (.iconst 0, 1) := by decide +kernel
theorem dX7_goesOn_1 : decode cX7_goesOn 1 = .ok (.istore_n 1, 1) := by decide +kernel
theorem dX7_goesOn_2 : decode cX7_goesOn 2 = .ok (.iconst 0, 1) := by decide +kernel
theorem dX7_goesOn_3 : decode cX7_goesOn 3 = .ok (.istore_n 2, 1) := by decide +kernel
theorem dX7_goesOn_4 : decode cX7_goesOn 4 = .ok (.iload_n 2, 1) := by decide +kernel
theorem dX7_goesOn_5 : decode cX7_goesOn 5 = .ok (.aload_n 0, 1) := by decide +kernel
theorem dX7_goesOn_6 : decode cX7_goesOn 6 = .ok (.getfield 7, 3) := by decide +kernel
theorem dX7_goesOn_9 : decode cX7_goesOn 9 = .ok (.iconst 0, 1) := by decide +kernel
theorem dX7_goesOn_10 : decode cX7_goesOn 10 = .ok (.iaload, 1) := by decide +kernel
theorem dX7_goesOn_11 : decode cX7_goesOn 11 = .ok (.if_icmp .ge 68, 3) := by decide +kernel
theorem dX7_goesOn_14 : decode cX7_goesOn 14 = .ok (.aload_n 0, 1) := by decide +kernel
theorem dX7_goesOn_15 : decode cX7_goesOn 15 = .ok (.getfield 7, 3) := by decide +kernel
theorem dX7_goesOn_18 : decode cX7_goesOn 18 = .ok (.iload_n 2, 1) := by decide +kernel
theorem dX7_goesOn_19 : decode cX7_goesOn 19 = .ok (.iconst 1, 1) := by decide +kernel
theorem dX7_goesOn_20 : decode cX7_goesOn 20 = .ok (.invokestatic 54, 3) := by decide +kernel
theorem dX7_goesOn_23 : decode cX7_goesOn 23 = .ok (.iaload, 1) := by decide +kernel
theorem dX7_goesOn_24 : decode cX7_goesOn 24 = .ok (.aload_n 0, 1) := by decide +kernel
theorem dX7_goesOn_25 : decode cX7_goesOn 25 = .ok (.getfield 7, 3) := by decide +kernel
theorem dX7_goesOn_28 : decode cX7_goesOn 28 = .ok (.sipush 232, 3) := by decide +kernel
theorem dX7_goesOn_31 : decode cX7_goesOn 31 = .ok (.iaload, 1) := by decide +kernel
theorem dX7_goesOn_32 : decode cX7_goesOn 32 = .ok (.isub, 1) := by decide +kernel
theorem dX7_goesOn_33 : decode cX7_goesOn 33 = .ok (.istore_n 3, 1) := by decide +kernel
theorem dX7_goesOn_34 : decode cX7_goesOn 34 = .ok (.iload_n 1, 1) := by decide +kernel
theorem dX7_goesOn_35 : decode cX7_goesOn 35 = .ok (.iload_n 3, 1) := by decide +kernel
theorem dX7_goesOn_36 : decode cX7_goesOn 36 = .ok (.ifCond .le 7, 3) := by decide +kernel
theorem dX7_goesOn_39 : decode cX7_goesOn 39 = .ok (.iload_n 3, 1) := by decide +kernel
theorem dX7_goesOn_40 : decode cX7_goesOn 40 = .ok (.goto 4, 3) := by decide +kernel
theorem dX7_goesOn_43 : decode cX7_goesOn 43 = .ok (.iconst 0, 1) := by decide +kernel
theorem dX7_goesOn_44 : decode cX7_goesOn 44 = .ok (.iadd, 1) := by decide +kernel
theorem dX7_goesOn_45 : decode cX7_goesOn 45 = .ok (.istore_n 1, 1) := by decide +kernel
theorem dX7_goesOn_46 : decode cX7_goesOn 46 = .ok (.aload_n 0, 1) := by decide +kernel
theorem dX7_goesOn_47 : decode cX7_goesOn 47 = .ok (.getfield 7, 3) := by decide +kernel
theorem dX7_goesOn_50 : decode cX7_goesOn 50 = .ok (.iload_n 2, 1) := by decide +kernel
theorem dX7_goesOn_51 : decode cX7_goesOn 51 = .ok (.iconst 1, 1) := by decide +kernel
theorem dX7_goesOn_52 : decode cX7_goesOn 52 = .ok (.invokestatic 54, 3) := by decide +kernel
theorem dX7_goesOn_55 : decode cX7_goesOn 55 = .ok (.dup2, 1) := by decide +kernel
theorem dX7_goesOn_56 : decode cX7_goesOn 56 = .ok (.iaload, 1) := by decide +kernel
theorem dX7_goesOn_57 : decode cX7_goesOn 57 = .ok (.iload_n 3, 1) := by decide +kernel
theorem dX7_goesOn_58 : decode cX7_goesOn 58 = .ok (.ifCond .le 7, 3) := by decide +kernel
theorem dX7_goesOn_61 : decode cX7_goesOn 61 = .ok (.iload_n 3, 1) := by decide +kernel
theorem dX7_goesOn_62 : decode cX7_goesOn 62 = .ok (.goto 4, 3) := by decide +kernel
theorem dX7_goesOn_65 : decode cX7_goesOn 65 = .ok (.iconst 0, 1) := by decide +kernel
theorem dX7_goesOn_66 : decode cX7_goesOn 66 = .ok (.isub, 1) := by decide +kernel
theorem dX7_goesOn_67 : decode cX7_goesOn 67 = .ok (.iastore, 1) := by decide +kernel
theorem dX7_goesOn_68 : decode cX7_goesOn 68 = .ok (.aload_n 0, 1) := by decide +kernel
theorem dX7_goesOn_69 : decode cX7_goesOn 69 = .ok (.iload_n 2, 1) := by decide +kernel
theorem dX7_goesOn_70 : decode cX7_goesOn 70 = .ok (.invokevirtual 61, 3) := by decide +kernel
theorem dX7_goesOn_73 : decode cX7_goesOn 73 = .ok (.iinc 2 1, 3) := by decide +kernel
theorem dX7_goesOn_76 : decode cX7_goesOn 76 = .ok (.goto (-72), 3) := by decide +kernel
theorem dX7_goesOn_79 : decode cX7_goesOn 79 = .ok (.iconst 0, 1) := by decide +kernel
theorem dX7_goesOn_80 : decode cX7_goesOn 80 = .ok (.istore_n 2, 1) := by decide +kernel
theorem dX7_goesOn_81 : decode cX7_goesOn 81 = .ok (.iload_n 2, 1) := by decide +kernel
theorem dX7_goesOn_82 : decode cX7_goesOn 82 = .ok (.bipush 20, 2) := by decide +kernel
theorem dX7_goesOn_84 : decode cX7_goesOn 84 = .ok (.if_icmp .ge 20, 3) := by decide +kernel
theorem dX7_goesOn_87 : decode cX7_goesOn 87 = .ok (.aload_n 0, 1) := by decide +kernel
theorem dX7_goesOn_88 : decode cX7_goesOn 88 = .ok (.getfield 7, 3) := by decide +kernel
theorem dX7_goesOn_91 : decode cX7_goesOn 91 = .ok (.iload_n 2, 1) := by decide +kernel
theorem dX7_goesOn_92 : decode cX7_goesOn 92 = .ok (.iconst 2, 1) := by decide +kernel
theorem dX7_goesOn_93 : decode cX7_goesOn 93 = .ok (.invokestatic 36, 3) := by decide +kernel
theorem dX7_goesOn_96 : decode cX7_goesOn 96 = .ok (.iconst (-1), 1) := by decide +kernel
theorem dX7_goesOn_97 : decode cX7_goesOn 97 = .ok (.iastore, 1) := by decide +kernel
theorem dX7_goesOn_98 : decode cX7_goesOn 98 = .ok (.iinc 2 1, 3) := by decide +kernel
theorem dX7_goesOn_101 : decode cX7_goesOn 101 = .ok (.goto (-20), 3) := by decide +kernel
theorem dX7_goesOn_104 : decode cX7_goesOn 104 = .ok (.aload_n 0, 1) := by decide +kernel
theorem dX7_goesOn_105 : decode cX7_goesOn 105 = .ok (.invokevirtual 88, 3) := by decide +kernel
theorem dX7_goesOn_108 : decode cX7_goesOn 108 = .ok (.aload_n 0, 1) := by decide +kernel
theorem dX7_goesOn_109 : decode cX7_goesOn 109 = .ok (.getfield 7, 3) := by decide +kernel
theorem dX7_goesOn_112 : decode cX7_goesOn 112 = .ok (.sipush 205, 3) := by decide +kernel
theorem dX7_goesOn_115 : decode cX7_goesOn 115 = .ok (.iconst 0, 1) := by decide +kernel
theorem dX7_goesOn_116 : decode cX7_goesOn 116 = .ok (.iastore, 1) := by decide +kernel
theorem dX7_goesOn_117 : decode cX7_goesOn 117 = .ok (.aload_n 0, 1) := by decide +kernel
theorem dX7_goesOn_118 : decode cX7_goesOn 118 = .ok (.getfield 7, 3) := by decide +kernel
theorem dX7_goesOn_121 : decode cX7_goesOn 121 = .ok (.sipush 237, 3) := by decide +kernel
theorem dX7_goesOn_124 : decode cX7_goesOn 124 = .ok (.dup2, 1) := by decide +kernel
theorem dX7_goesOn_125 : decode cX7_goesOn 125 = .ok (.iaload, 1) := by decide +kernel
theorem dX7_goesOn_126 : decode cX7_goesOn 126 = .ok (.iload_n 1, 1) := by decide +kernel
theorem dX7_goesOn_127 : decode cX7_goesOn 127 = .ok (.iadd, 1) := by decide +kernel
theorem dX7_goesOn_128 : decode cX7_goesOn 128 = .ok (.iastore, 1) := by decide +kernel
theorem dX7_goesOn_129 : decode cX7_goesOn 129 = .ok (.aload_n 0, 1) := by decide +kernel
theorem dX7_goesOn_130 : decode cX7_goesOn 130 = .ok (.getfield 7, 3) := by decide +kernel
theorem dX7_goesOn_133 : decode cX7_goesOn 133 = .ok (.sipush 230, 3) := by decide +kernel
theorem dX7_goesOn_136 : decode cX7_goesOn 136 = .ok (.dup2, 1) := by decide +kernel
theorem dX7_goesOn_137 : decode cX7_goesOn 137 = .ok (.iaload, 1) := by decide +kernel
theorem dX7_goesOn_138 : decode cX7_goesOn 138 = .ok (.iconst 1, 1) := by decide +kernel
theorem dX7_goesOn_139 : decode cX7_goesOn 139 = .ok (.iadd, 1) := by decide +kernel
theorem dX7_goesOn_140 : decode cX7_goesOn 140 = .ok (.iastore, 1) := by decide +kernel
theorem dX7_goesOn_141 : decode cX7_goesOn 141 = .ok (.iload_n 1, 1) := by decide +kernel
theorem dX7_goesOn_142 : decode cX7_goesOn 142 = .ok (.ireturn, 1) := by decide +kernel
theorem dX7_errorOfOwner_0 : decode cX7_errorOfOwner 0 = .ok (.iload_n 1, 1) := by decide +kernel
theorem dX7_errorOfOwner_1 : decode cX7_errorOfOwner 1 = .ok (.iconst 1, 1) := by decide +kernel
theorem dX7_errorOfOwner_2 : decode cX7_errorOfOwner 2 = .ok (.bipush 9, 2) := by decide +kernel
theorem dX7_errorOfOwner_4 : decode cX7_errorOfOwner 4 = .ok (.invokestatic 40, 3) := by decide +kernel
theorem dX7_errorOfOwner_7 : decode cX7_errorOfOwner 7 = .ok (.ifCond .ne 7, 3) := by decide +kernel
theorem dX7_errorOfOwner_10 : decode cX7_errorOfOwner 10 = .ok (.iconst 1, 1) := by decide +kernel
theorem dX7_errorOfOwner_11 : decode cX7_errorOfOwner 11 = .ok (.goto 19, 3) := by decide +kernel
theorem dX7_errorOfOwner_14 : decode cX7_errorOfOwner 14 = .ok (.aload_n 0, 1) := by decide +kernel
theorem dX7_errorOfOwner_15 : decode cX7_errorOfOwner 15 = .ok (.getfield 7, 3) := by decide +kernel
theorem dX7_errorOfOwner_18 : decode cX7_errorOfOwner 18 = .ok (.iconst 0, 1) := by decide +kernel
theorem dX7_errorOfOwner_19 : decode cX7_errorOfOwner 19 = .ok (.iaload, 1) := by decide +kernel
theorem dX7_errorOfOwner_20 : decode cX7_errorOfOwner 20 = .ok (.bipush 6, 2) := by decide +kernel
theorem dX7_errorOfOwner_22 : decode cX7_errorOfOwner 22 = .ok (.if_icmp .ne 7, 3) := by decide +kernel
theorem dX7_errorOfOwner_25 : decode cX7_errorOfOwner 25 = .ok (.iconst 2, 1) := by decide +kernel
theorem dX7_errorOfOwner_26 : decode cX7_errorOfOwner 26 = .ok (.goto 4, 3) := by decide +kernel
theorem dX7_errorOfOwner_29 : decode cX7_errorOfOwner 29 = .ok (.iconst 0, 1) := by decide +kernel
theorem dX7_errorOfOwner_30 : decode cX7_errorOfOwner 30 = .ok (.ireturn, 1) := by decide +kernel
theorem dX7_errorOfCost_0 : decode cX7_errorOfCost 0 = .ok (.iload_n 1, 1) := by decide +kernel
theorem dX7_errorOfCost_1 : decode cX7_errorOfCost 1 = .ok (.invokestatic 48, 3) := by decide +kernel
theorem dX7_errorOfCost_4 : decode cX7_errorOfCost 4 = .ok (.ifCond .ne 7, 3) := by decide +kernel
theorem dX7_errorOfCost_7 : decode cX7_errorOfCost 7 = .ok (.iconst 1, 1) := by decide +kernel
theorem dX7_errorOfCost_8 : decode cX7_errorOfCost 8 = .ok (.goto 18, 3) := by decide +kernel
theorem dX7_errorOfCost_11 : decode cX7_errorOfCost 11 = .ok (.iload_n 2, 1) := by decide +kernel
theorem dX7_errorOfCost_12 : decode cX7_errorOfCost 12 = .ok (.iconst 1, 1) := by decide +kernel
theorem dX7_errorOfCost_13 : decode cX7_errorOfCost 13 = .ok (.bipush 9, 2) := by decide +kernel
theorem dX7_errorOfCost_15 : decode cX7_errorOfCost 15 = .ok (.invokestatic 40, 3) := by decide +kernel
theorem dX7_errorOfCost_18 : decode cX7_errorOfCost 18 = .ok (.ifCond .eq 7, 3) := by decide +kernel
theorem dX7_errorOfCost_21 : decode cX7_errorOfCost 21 = .ok (.iconst 0, 1) := by decide +kernel
theorem dX7_errorOfCost_22 : decode cX7_errorOfCost 22 = .ok (.goto 4, 3) := by decide +kernel
theorem dX7_errorOfCost_25 : decode cX7_errorOfCost 25 = .ok (.iconst 2, 1) := by decide +kernel
theorem dX7_errorOfCost_26 : decode cX7_errorOfCost 26 = .ok (.ireturn, 1) := by decide +kernel
theorem dX7_errorOfRelease_0 : decode cX7_errorOfRelease 0 = .ok (.aload_n 0, 1) := by decide +kernel
theorem dX7_errorOfRelease_1 : decode cX7_errorOfRelease 1 = .ok (.iload_n 1, 1) := by decide +kernel
theorem dX7_errorOfRelease_2 : decode cX7_errorOfRelease 2 = .ok (.iload_n 2, 1) := by decide +kernel
theorem dX7_errorOfRelease_3 : decode cX7_errorOfRelease 3 = .ok (.invokevirtual 107, 3) := by decide +kernel
theorem dX7_errorOfRelease_6 : decode cX7_errorOfRelease 6 = .ok (.ifCond .ne 7, 3) := by decide +kernel
theorem dX7_errorOfRelease_9 : decode cX7_errorOfRelease 9 = .ok (.iconst 1, 1) := by decide +kernel
theorem dX7_errorOfRelease_10 : decode cX7_errorOfRelease 10 = .ok (.goto 22, 3) := by decide +kernel
theorem dX7_errorOfRelease_13 : decode cX7_errorOfRelease 13 = .ok (.aload_n 0, 1) := by decide +kernel
theorem dX7_errorOfRelease_14 : decode cX7_errorOfRelease 14 = .ok (.getfield 7, 3) := by decide +kernel
theorem dX7_errorOfRelease_17 : decode cX7_errorOfRelease 17 = .ok (.iload_n 2, 1) := by decide +kernel
theorem dX7_errorOfRelease_18 : decode cX7_errorOfRelease 18 = .ok (.iconst 2, 1) := by decide +kernel
theorem dX7_errorOfRelease_19 : decode cX7_errorOfRelease 19 = .ok (.invokestatic 36, 3) := by decide +kernel
theorem dX7_errorOfRelease_22 : decode cX7_errorOfRelease 22 = .ok (.iaload, 1) := by decide +kernel
theorem dX7_errorOfRelease_23 : decode cX7_errorOfRelease 23 = .ok (.iload_n 1, 1) := by decide +kernel
theorem dX7_errorOfRelease_24 : decode cX7_errorOfRelease 24 = .ok (.if_icmp .ne 7, 3) := by decide +kernel
theorem dX7_errorOfRelease_27 : decode cX7_errorOfRelease 27 = .ok (.iconst 0, 1) := by decide +kernel
theorem dX7_errorOfRelease_28 : decode cX7_errorOfRelease 28 = .ok (.goto 4, 3) := by decide +kernel
theorem dX7_errorOfRelease_31 : decode cX7_errorOfRelease 31 = .ok (.iconst 2, 1) := by decide +kernel
theorem dX7_errorOfRelease_32 : decode cX7_errorOfRelease 32 = .ok (.ireturn, 1) := by decide +kernel
theorem dX7_errorOfBid_0 : decode cX7_errorOfBid 0 = .ok (.aload_n 0, 1) := by decide +kernel
theorem dX7_errorOfBid_1 : decode cX7_errorOfBid 1 = .ok (.iload_n 1, 1) := by decide +kernel
theorem dX7_errorOfBid_2 : decode cX7_errorOfBid 2 = .ok (.iload_n 2, 1) := by decide +kernel
theorem dX7_errorOfBid_3 : decode cX7_errorOfBid 3 = .ok (.invokevirtual 107, 3) := by decide +kernel
theorem dX7_errorOfBid_6 : decode cX7_errorOfBid 6 = .ok (.ifCond .eq 13, 3) := by decide +kernel
theorem dX7_errorOfBid_9 : decode cX7_errorOfBid 9 = .ok (.iload_n 3, 1) := by decide +kernel
theorem dX7_errorOfBid_10 : decode cX7_errorOfBid 10 = .ok (.iconst 0, 1) := by decide +kernel
theorem dX7_errorOfBid_11 : decode cX7_errorOfBid 11 = .ok (.bipush 20, 2) := by decide +kernel
theorem dX7_errorOfBid_13 : decode cX7_errorOfBid 13 = .ok (.invokestatic 40, 3) := by decide +kernel
theorem dX7_errorOfBid_16 : decode cX7_errorOfBid 16 = .ok (.ifCond .ne 18, 3) := by decide +kernel
theorem dX7_errorOfBid_19 : decode cX7_errorOfBid 19 = .ok (.aload_n 0, 1) := by decide +kernel
theorem dX7_errorOfBid_20 : decode cX7_errorOfBid 20 = .ok (.iload_n 1, 1) := by decide +kernel
theorem dX7_errorOfBid_21 : decode cX7_errorOfBid 21 = .ok (.iload_n 2, 1) := by decide +kernel
theorem dX7_errorOfBid_22 : decode cX7_errorOfBid 22 = .ok (.invokevirtual 107, 3) := by decide +kernel
theorem dX7_errorOfBid_25 : decode cX7_errorOfBid 25 = .ok (.ifCond .eq 7, 3) := by decide +kernel
theorem dX7_errorOfBid_28 : decode cX7_errorOfBid 28 = .ok (.iconst 2, 1) := by decide +kernel
theorem dX7_errorOfBid_29 : decode cX7_errorOfBid 29 = .ok (.goto 4, 3) := by decide +kernel
theorem dX7_errorOfBid_32 : decode cX7_errorOfBid 32 = .ok (.iconst 1, 1) := by decide +kernel
theorem dX7_errorOfBid_33 : decode cX7_errorOfBid 33 = .ok (.ireturn, 1) := by decide +kernel
theorem dX7_errorOfBid_34 : decode cX7_errorOfBid 34 = .ok (.aload_n 0, 1) := by decide +kernel
theorem dX7_errorOfBid_35 : decode cX7_errorOfBid 35 = .ok (.getfield 7, 3) := by decide +kernel
theorem dX7_errorOfBid_38 : decode cX7_errorOfBid 38 = .ok (.iload_n 2, 1) := by decide +kernel
theorem dX7_errorOfBid_39 : decode cX7_errorOfBid 39 = .ok (.iconst 1, 1) := by decide +kernel
theorem dX7_errorOfBid_40 : decode cX7_errorOfBid 40 = .ok (.invokestatic 36, 3) := by decide +kernel
theorem dX7_errorOfBid_43 : decode cX7_errorOfBid 43 = .ok (.iaload, 1) := by decide +kernel
theorem dX7_errorOfBid_44 : decode cX7_errorOfBid 44 = .ok (.iconst 1, 1) := by decide +kernel
theorem dX7_errorOfBid_45 : decode cX7_errorOfBid 45 = .ok (.if_icmp .ne 21, 3) := by decide +kernel
theorem dX7_errorOfBid_48 : decode cX7_errorOfBid 48 = .ok (.aload_n 0, 1) := by decide +kernel
theorem dX7_errorOfBid_49 : decode cX7_errorOfBid 49 = .ok (.getfield 7, 3) := by decide +kernel
theorem dX7_errorOfBid_52 : decode cX7_errorOfBid 52 = .ok (.iload_n 2, 1) := by decide +kernel
theorem dX7_errorOfBid_53 : decode cX7_errorOfBid 53 = .ok (.iconst 2, 1) := by decide +kernel
theorem dX7_errorOfBid_54 : decode cX7_errorOfBid 54 = .ok (.invokestatic 36, 3) := by decide +kernel
theorem dX7_errorOfBid_57 : decode cX7_errorOfBid 57 = .ok (.iaload, 1) := by decide +kernel
theorem dX7_errorOfBid_58 : decode cX7_errorOfBid 58 = .ok (.iconst (-1), 1) := by decide +kernel
theorem dX7_errorOfBid_59 : decode cX7_errorOfBid 59 = .ok (.if_icmp .ne 7, 3) := by decide +kernel
theorem dX7_errorOfBid_62 : decode cX7_errorOfBid 62 = .ok (.iconst 0, 1) := by decide +kernel
theorem dX7_errorOfBid_63 : decode cX7_errorOfBid 63 = .ok (.goto 4, 3) := by decide +kernel
theorem dX7_errorOfBid_66 : decode cX7_errorOfBid 66 = .ok (.iconst 3, 1) := by decide +kernel
theorem dX7_errorOfBid_67 : decode cX7_errorOfBid 67 = .ok (.ireturn, 1) := by decide +kernel
theorem dX7_errorOfOffer_0 : decode cX7_errorOfOffer 0 = .ok (.aload_n 0, 1) := by decide +kernel
theorem dX7_errorOfOffer_1 : decode cX7_errorOfOffer 1 = .ok (.iload_n 1, 1) := by decide +kernel
theorem dX7_errorOfOffer_2 : decode cX7_errorOfOffer 2 = .ok (.iload_n 2, 1) := by decide +kernel
theorem dX7_errorOfOffer_3 : decode cX7_errorOfOffer 3 = .ok (.invokevirtual 107, 3) := by decide +kernel
theorem dX7_errorOfOffer_6 : decode cX7_errorOfOffer 6 = .ok (.ifCond .eq 10, 3) := by decide +kernel
theorem dX7_errorOfOffer_9 : decode cX7_errorOfOffer 9 = .ok (.iload_n 3, 1) := by decide +kernel
theorem dX7_errorOfOffer_10 : decode cX7_errorOfOffer 10 = .ok (.invokestatic 48, 3) := by decide +kernel
theorem dX7_errorOfOffer_13 : decode cX7_errorOfOffer 13 = .ok (.ifCond .ne 5, 3) := by decide +kernel
theorem dX7_errorOfOffer_16 : decode cX7_errorOfOffer 16 = .ok (.iconst 1, 1) := by decide +kernel
theorem dX7_errorOfOffer_17 : decode cX7_errorOfOffer 17 = .ok (.ireturn, 1) := by decide +kernel
theorem dX7_errorOfOffer_18 : decode cX7_errorOfOffer 18 = .ok (.aload_n 0, 1) := by decide +kernel
theorem dX7_errorOfOffer_19 : decode cX7_errorOfOffer 19 = .ok (.getfield 7, 3) := by decide +kernel
theorem dX7_errorOfOffer_22 : decode cX7_errorOfOffer 22 = .ok (.iload_n 3, 1) := by decide +kernel
theorem dX7_errorOfOffer_23 : decode cX7_errorOfOffer 23 = .ok (.iconst 2, 1) := by decide +kernel
theorem dX7_errorOfOffer_24 : decode cX7_errorOfOffer 24 = .ok (.invokestatic 36, 3) := by decide +kernel
theorem dX7_errorOfOffer_27 : decode cX7_errorOfOffer 27 = .ok (.iaload, 1) := by decide +kernel
theorem dX7_errorOfOffer_28 : decode cX7_errorOfOffer 28 = .ok (.istore 4, 2) := by decide +kernel
theorem dX7_errorOfOffer_30 : decode cX7_errorOfOffer 30 = .ok (.aload_n 0, 1) := by decide +kernel
theorem dX7_errorOfOffer_31 : decode cX7_errorOfOffer 31 = .ok (.getfield 7, 3) := by decide +kernel
theorem dX7_errorOfOffer_34 : decode cX7_errorOfOffer 34 = .ok (.iload_n 2, 1) := by decide +kernel
theorem dX7_errorOfOffer_35 : decode cX7_errorOfOffer 35 = .ok (.iconst 2, 1) := by decide +kernel
theorem dX7_errorOfOffer_36 : decode cX7_errorOfOffer 36 = .ok (.invokestatic 36, 3) := by decide +kernel
theorem dX7_errorOfOffer_39 : decode cX7_errorOfOffer 39 = .ok (.iaload, 1) := by decide +kernel
theorem dX7_errorOfOffer_40 : decode cX7_errorOfOffer 40 = .ok (.iload_n 1, 1) := by decide +kernel
theorem dX7_errorOfOffer_41 : decode cX7_errorOfOffer 41 = .ok (.if_icmp .ne 28, 3) := by decide +kernel
theorem dX7_errorOfOffer_44 : decode cX7_errorOfOffer 44 = .ok (.iload 4, 2) := by decide +kernel
theorem dX7_errorOfOffer_46 : decode cX7_errorOfOffer 46 = .ok (.iconst (-1), 1) := by decide +kernel
theorem dX7_errorOfOffer_47 : decode cX7_errorOfOffer 47 = .ok (.if_icmp .eq 22, 3) := by decide +kernel
theorem dX7_errorOfOffer_50 : decode cX7_errorOfOffer 50 = .ok (.iload 4, 2) := by decide +kernel
theorem dX7_errorOfOffer_52 : decode cX7_errorOfOffer 52 = .ok (.iload_n 1, 1) := by decide +kernel
theorem dX7_errorOfOffer_53 : decode cX7_errorOfOffer 53 = .ok (.if_icmp .eq 16, 3) := by decide +kernel
theorem dX7_errorOfOffer_56 : decode cX7_errorOfOffer 56 = .ok (.aload_n 0, 1) := by decide +kernel
theorem dX7_errorOfOffer_57 : decode cX7_errorOfOffer 57 = .ok (.getfield 7, 3) := by decide +kernel
theorem dX7_errorOfOffer_60 : decode cX7_errorOfOffer 60 = .ok (.sipush 205, 3) := by decide +kernel
theorem dX7_errorOfOffer_63 : decode cX7_errorOfOffer 63 = .ok (.iaload, 1) := by decide +kernel
theorem dX7_errorOfOffer_64 : decode cX7_errorOfOffer 64 = .ok (.bipush 8, 2) := by decide +kernel
theorem dX7_errorOfOffer_66 : decode cX7_errorOfOffer 66 = .ok (.if_icmp .ne 7, 3) := by decide +kernel
theorem dX7_errorOfOffer_69 : decode cX7_errorOfOffer 69 = .ok (.iconst 2, 1) := by decide +kernel
theorem dX7_errorOfOffer_70 : decode cX7_errorOfOffer 70 = .ok (.goto 4, 3) := by decide +kernel
theorem dX7_errorOfOffer_73 : decode cX7_errorOfOffer 73 = .ok (.iconst 0, 1) := by decide +kernel
theorem dX7_errorOfOffer_74 : decode cX7_errorOfOffer 74 = .ok (.ireturn, 1) := by decide +kernel
theorem dX7_errorOfUpkeep_0 : decode cX7_errorOfUpkeep 0 = .ok (.iload_n 1, 1) := by decide +kernel
theorem dX7_errorOfUpkeep_1 : decode cX7_errorOfUpkeep 1 = .ok (.iconst 1, 1) := by decide +kernel
theorem dX7_errorOfUpkeep_2 : decode cX7_errorOfUpkeep 2 = .ok (.sipush 999, 3) := by decide +kernel
theorem dX7_errorOfUpkeep_5 : decode cX7_errorOfUpkeep 5 = .ok (.invokestatic 40, 3) := by decide +kernel
theorem dX7_errorOfUpkeep_8 : decode cX7_errorOfUpkeep 8 = .ok (.ifCond .ne 7, 3) := by decide +kernel
theorem dX7_errorOfUpkeep_11 : decode cX7_errorOfUpkeep 11 = .ok (.iconst 1, 1) := by decide +kernel
theorem dX7_errorOfUpkeep_12 : decode cX7_errorOfUpkeep 12 = .ok (.goto 17, 3) := by decide +kernel
theorem dX7_errorOfUpkeep_15 : decode cX7_errorOfUpkeep 15 = .ok (.aload_n 0, 1) := by decide +kernel
theorem dX7_errorOfUpkeep_16 : decode cX7_errorOfUpkeep 16 = .ok (.getfield 7, 3) := by decide +kernel
theorem dX7_errorOfUpkeep_19 : decode cX7_errorOfUpkeep 19 = .ok (.iconst 0, 1) := by decide +kernel
theorem dX7_errorOfUpkeep_20 : decode cX7_errorOfUpkeep 20 = .ok (.iaload, 1) := by decide +kernel
theorem dX7_errorOfUpkeep_21 : decode cX7_errorOfUpkeep 21 = .ok (.ifCond .ne 7, 3) := by decide +kernel
theorem dX7_errorOfUpkeep_24 : decode cX7_errorOfUpkeep 24 = .ok (.iconst 2, 1) := by decide +kernel
theorem dX7_errorOfUpkeep_25 : decode cX7_errorOfUpkeep 25 = .ok (.goto 4, 3) := by decide +kernel
theorem dX7_errorOfUpkeep_28 : decode cX7_errorOfUpkeep 28 = .ok (.iconst 0, 1) := by decide +kernel
theorem dX7_errorOfUpkeep_29 : decode cX7_errorOfUpkeep 29 = .ok (.ireturn, 1) := by decide +kernel
theorem dX7_isOffer_0 : decode cX7_isOffer 0 = .ok (.iload_n 1, 1) := by decide +kernel
theorem dX7_isOffer_1 : decode cX7_isOffer 1 = .ok (.iconst 0, 1) := by decide +kernel
theorem dX7_isOffer_2 : decode cX7_isOffer 2 = .ok (.aload_n 0, 1) := by decide +kernel
theorem dX7_isOffer_3 : decode cX7_isOffer 3 = .ok (.getfield 7, 3) := by decide +kernel
theorem dX7_isOffer_6 : decode cX7_isOffer 6 = .ok (.sipush 205, 3) := by decide +kernel
theorem dX7_isOffer_9 : decode cX7_isOffer 9 = .ok (.iaload, 1) := by decide +kernel
theorem dX7_isOffer_10 : decode cX7_isOffer 10 = .ok (.iconst 1, 1) := by decide +kernel
theorem dX7_isOffer_11 : decode cX7_isOffer 11 = .ok (.isub, 1) := by decide +kernel
theorem dX7_isOffer_12 : decode cX7_isOffer 12 = .ok (.invokestatic 40, 3) := by decide +kernel
theorem dX7_isOffer_15 : decode cX7_isOffer 15 = .ok (.ireturn, 1) := by decide +kernel
theorem dX7_does_0 : decode cX7_does 0 = .ok (.aload_n 0, 1) := by decide +kernel
theorem dX7_does_1 : decode cX7_does 1 = .ok (.getfield 110, 3) := by decide +kernel
theorem dX7_does_4 : decode cX7_does 4 = .ok (.tableswitch 382 97 117 #[332, 212, 382, 382, 253, 291, 382, 382, 382, 382, 125, 382, 382, 382, 100, 382, 382, 258, 162, 179, 357], 100) := by decide +kernel
theorem dX7_does_104 : decode cX7_does 104 = .ok (.aload_n 0, 1) := by decide +kernel
theorem dX7_does_105 : decode cX7_does 105 = .ok (.aload_n 0, 1) := by decide +kernel
theorem dX7_does_106 : decode cX7_does 106 = .ok (.getfield 113, 3) := by decide +kernel
theorem dX7_does_109 : decode cX7_does 109 = .ok (.invokevirtual 116, 3) := by decide +kernel
theorem dX7_does_112 : decode cX7_does 112 = .ok (.ifCond .ne 14, 3) := by decide +kernel
theorem dX7_does_115 : decode cX7_does 115 = .ok (.aload_n 0, 1) := by decide +kernel
theorem dX7_does_116 : decode cX7_does 116 = .ok (.aload_n 0, 1) := by decide +kernel
theorem dX7_does_117 : decode cX7_does 117 = .ok (.getfield 113, 3) := by decide +kernel
theorem dX7_does_120 : decode cX7_does 120 = .ok (.invokevirtual 119, 3) := by decide +kernel
theorem dX7_does_123 : decode cX7_does 123 = .ok (.goto 5, 3) := by decide +kernel
theorem dX7_does_126 : decode cX7_does 126 = .ok (.bipush (-9), 2) := by decide +kernel
theorem dX7_does_128 : decode cX7_does 128 = .ok (.ireturn, 1) := by decide +kernel
theorem dX7_does_129 : decode cX7_does 129 = .ok (.aload_n 0, 1) := by decide +kernel
theorem dX7_does_130 : decode cX7_does 130 = .ok (.aload_n 0, 1) := by decide +kernel
theorem dX7_does_131 : decode cX7_does 131 = .ok (.getfield 113, 3) := by decide +kernel
theorem dX7_does_134 : decode cX7_does 134 = .ok (.aload_n 0, 1) := by decide +kernel
theorem dX7_does_135 : decode cX7_does 135 = .ok (.getfield 122, 3) := by decide +kernel
theorem dX7_does_138 : decode cX7_does 138 = .ok (.invokevirtual 125, 3) := by decide +kernel
theorem dX7_does_141 : decode cX7_does 141 = .ok (.ifCond .ne 22, 3) := by decide +kernel
theorem dX7_does_144 : decode cX7_does 144 = .ok (.aload_n 0, 1) := by decide +kernel
theorem dX7_does_145 : decode cX7_does 145 = .ok (.aload_n 0, 1) := by decide +kernel
theorem dX7_does_146 : decode cX7_does 146 = .ok (.getfield 113, 3) := by decide +kernel
theorem dX7_does_149 : decode cX7_does 149 = .ok (.iconst 0, 1) := by decide +kernel
theorem dX7_does_150 : decode cX7_does 150 = .ok (.invokestatic 36, 3) := by decide +kernel
theorem dX7_does_153 : decode cX7_does 153 = .ok (.aload_n 0, 1) := by decide +kernel
theorem dX7_does_154 : decode cX7_does 154 = .ok (.getfield 122, 3) := by decide +kernel
theorem dX7_does_157 : decode cX7_does 157 = .ok (.invokevirtual 97, 3) := by decide +kernel
theorem dX7_does_160 : decode cX7_does 160 = .ok (.goto 5, 3) := by decide +kernel
theorem dX7_does_163 : decode cX7_does 163 = .ok (.bipush (-9), 2) := by decide +kernel
theorem dX7_does_165 : decode cX7_does 165 = .ok (.ireturn, 1) := by decide +kernel
theorem dX7_does_166 : decode cX7_does 166 = .ok (.aload_n 0, 1) := by decide +kernel
theorem dX7_does_167 : decode cX7_does 167 = .ok (.aload_n 0, 1) := by decide +kernel
theorem dX7_does_168 : decode cX7_does 168 = .ok (.getfield 113, 3) := by decide +kernel
theorem dX7_does_171 : decode cX7_does 171 = .ok (.iconst 1, 1) := by decide +kernel
theorem dX7_does_172 : decode cX7_does 172 = .ok (.invokestatic 36, 3) := by decide +kernel
theorem dX7_does_175 : decode cX7_does 175 = .ok (.aload_n 0, 1) := by decide +kernel
theorem dX7_does_176 : decode cX7_does 176 = .ok (.getfield 122, 3) := by decide +kernel
theorem dX7_does_179 : decode cX7_does 179 = .ok (.invokevirtual 97, 3) := by decide +kernel
theorem dX7_does_182 : decode cX7_does 182 = .ok (.ireturn, 1) := by decide +kernel
theorem dX7_does_183 : decode cX7_does 183 = .ok (.aload_n 0, 1) := by decide +kernel
theorem dX7_does_184 : decode cX7_does 184 = .ok (.aload_n 0, 1) := by decide +kernel
theorem dX7_does_185 : decode cX7_does 185 = .ok (.getfield 113, 3) := by decide +kernel
theorem dX7_does_188 : decode cX7_does 188 = .ok (.aload_n 0, 1) := by decide +kernel
theorem dX7_does_189 : decode cX7_does 189 = .ok (.getfield 122, 3) := by decide +kernel
theorem dX7_does_192 : decode cX7_does 192 = .ok (.invokevirtual 107, 3) := by decide +kernel
theorem dX7_does_195 : decode cX7_does 195 = .ok (.ifCond .eq 18, 3) := by decide +kernel
theorem dX7_does_198 : decode cX7_does 198 = .ok (.aload_n 0, 1) := by decide +kernel
theorem dX7_does_199 : decode cX7_does 199 = .ok (.aload_n 0, 1) := by decide +kernel
theorem dX7_does_200 : decode cX7_does 200 = .ok (.getfield 113, 3) := by decide +kernel
theorem dX7_does_203 : decode cX7_does 203 = .ok (.aload_n 0, 1) := by decide +kernel
theorem dX7_does_204 : decode cX7_does 204 = .ok (.getfield 122, 3) := by decide +kernel
theorem dX7_does_207 : decode cX7_does 207 = .ok (.invokevirtual 128, 3) := by decide +kernel
theorem dX7_does_210 : decode cX7_does 210 = .ok (.goto 5, 3) := by decide +kernel
theorem dX7_does_213 : decode cX7_does 213 = .ok (.bipush (-9), 2) := by decide +kernel
theorem dX7_does_215 : decode cX7_does 215 = .ok (.ireturn, 1) := by decide +kernel
theorem dX7_does_216 : decode cX7_does 216 = .ok (.aload_n 0, 1) := by decide +kernel
theorem dX7_does_217 : decode cX7_does 217 = .ok (.aload_n 0, 1) := by decide +kernel
theorem dX7_does_218 : decode cX7_does 218 = .ok (.getfield 113, 3) := by decide +kernel
theorem dX7_does_221 : decode cX7_does 221 = .ok (.aload_n 0, 1) := by decide +kernel
theorem dX7_does_222 : decode cX7_does 222 = .ok (.getfield 122, 3) := by decide +kernel
theorem dX7_does_225 : decode cX7_does 225 = .ok (.aload_n 0, 1) := by decide +kernel
theorem dX7_does_226 : decode cX7_does 226 = .ok (.getfield 131, 3) := by decide +kernel
theorem dX7_does_229 : decode cX7_does 229 = .ok (.invokevirtual 134, 3) := by decide +kernel
theorem dX7_does_232 : decode cX7_does 232 = .ok (.ifCond .ne 22, 3) := by decide +kernel
theorem dX7_does_235 : decode cX7_does 235 = .ok (.aload_n 0, 1) := by decide +kernel
theorem dX7_does_236 : decode cX7_does 236 = .ok (.aload_n 0, 1) := by decide +kernel
theorem dX7_does_237 : decode cX7_does 237 = .ok (.getfield 113, 3) := by decide +kernel
theorem dX7_does_240 : decode cX7_does 240 = .ok (.aload_n 0, 1) := by decide +kernel
theorem dX7_does_241 : decode cX7_does 241 = .ok (.getfield 122, 3) := by decide +kernel
theorem dX7_does_244 : decode cX7_does 244 = .ok (.aload_n 0, 1) := by decide +kernel
theorem dX7_does_245 : decode cX7_does 245 = .ok (.getfield 131, 3) := by decide +kernel
theorem dX7_does_248 : decode cX7_does 248 = .ok (.invokevirtual 138, 3) := by decide +kernel
theorem dX7_does_251 : decode cX7_does 251 = .ok (.goto 5, 3) := by decide +kernel
theorem dX7_does_254 : decode cX7_does 254 = .ok (.bipush (-9), 2) := by decide +kernel
theorem dX7_does_256 : decode cX7_does 256 = .ok (.ireturn, 1) := by decide +kernel
theorem dX7_does_257 : decode cX7_does 257 = .ok (.aload_n 0, 1) := by decide +kernel
theorem dX7_does_258 : decode cX7_does 258 = .ok (.invokevirtual 141, 3) := by decide +kernel
theorem dX7_does_261 : decode cX7_does 261 = .ok (.ireturn, 1) := by decide +kernel
theorem dX7_does_262 : decode cX7_does 262 = .ok (.aload_n 0, 1) := by decide +kernel
theorem dX7_does_263 : decode cX7_does 263 = .ok (.aload_n 0, 1) := by decide +kernel
theorem dX7_does_264 : decode cX7_does 264 = .ok (.getfield 113, 3) := by decide +kernel
theorem dX7_does_267 : decode cX7_does 267 = .ok (.aload_n 0, 1) := by decide +kernel
theorem dX7_does_268 : decode cX7_does 268 = .ok (.getfield 122, 3) := by decide +kernel
theorem dX7_does_271 : decode cX7_does 271 = .ok (.invokevirtual 144, 3) := by decide +kernel
theorem dX7_does_274 : decode cX7_does 274 = .ok (.ifCond .ne 18, 3) := by decide +kernel
theorem dX7_does_277 : decode cX7_does 277 = .ok (.aload_n 0, 1) := by decide +kernel
theorem dX7_does_278 : decode cX7_does 278 = .ok (.aload_n 0, 1) := by decide +kernel
theorem dX7_does_279 : decode cX7_does 279 = .ok (.getfield 113, 3) := by decide +kernel
theorem dX7_does_282 : decode cX7_does 282 = .ok (.aload_n 0, 1) := by decide +kernel
theorem dX7_does_283 : decode cX7_does 283 = .ok (.getfield 122, 3) := by decide +kernel
theorem dX7_does_286 : decode cX7_does 286 = .ok (.invokevirtual 147, 3) := by decide +kernel
theorem dX7_does_289 : decode cX7_does 289 = .ok (.goto 5, 3) := by decide +kernel
theorem dX7_does_292 : decode cX7_does 292 = .ok (.bipush (-9), 2) := by decide +kernel
theorem dX7_does_294 : decode cX7_does 294 = .ok (.ireturn, 1) := by decide +kernel
theorem dX7_does_295 : decode cX7_does 295 = .ok (.aload_n 0, 1) := by decide +kernel
theorem dX7_does_296 : decode cX7_does 296 = .ok (.aload_n 0, 1) := by decide +kernel
theorem dX7_does_297 : decode cX7_does 297 = .ok (.getfield 113, 3) := by decide +kernel
theorem dX7_does_300 : decode cX7_does 300 = .ok (.aload_n 0, 1) := by decide +kernel
theorem dX7_does_301 : decode cX7_does 301 = .ok (.getfield 122, 3) := by decide +kernel
theorem dX7_does_304 : decode cX7_does 304 = .ok (.aload_n 0, 1) := by decide +kernel
theorem dX7_does_305 : decode cX7_does 305 = .ok (.getfield 131, 3) := by decide +kernel
theorem dX7_does_308 : decode cX7_does 308 = .ok (.invokevirtual 150, 3) := by decide +kernel
theorem dX7_does_311 : decode cX7_does 311 = .ok (.ifCond .ne 22, 3) := by decide +kernel
theorem dX7_does_314 : decode cX7_does 314 = .ok (.aload_n 0, 1) := by decide +kernel
theorem dX7_does_315 : decode cX7_does 315 = .ok (.aload_n 0, 1) := by decide +kernel
theorem dX7_does_316 : decode cX7_does 316 = .ok (.getfield 113, 3) := by decide +kernel
theorem dX7_does_319 : decode cX7_does 319 = .ok (.aload_n 0, 1) := by decide +kernel
theorem dX7_does_320 : decode cX7_does 320 = .ok (.getfield 122, 3) := by decide +kernel
theorem dX7_does_323 : decode cX7_does 323 = .ok (.aload_n 0, 1) := by decide +kernel
theorem dX7_does_324 : decode cX7_does 324 = .ok (.getfield 131, 3) := by decide +kernel
theorem dX7_does_327 : decode cX7_does 327 = .ok (.invokevirtual 153, 3) := by decide +kernel
theorem dX7_does_330 : decode cX7_does 330 = .ok (.goto 5, 3) := by decide +kernel
theorem dX7_does_333 : decode cX7_does 333 = .ok (.bipush (-9), 2) := by decide +kernel
theorem dX7_does_335 : decode cX7_does 335 = .ok (.ireturn, 1) := by decide +kernel
theorem dX7_does_336 : decode cX7_does 336 = .ok (.aload_n 0, 1) := by decide +kernel
theorem dX7_does_337 : decode cX7_does 337 = .ok (.aload_n 0, 1) := by decide +kernel
theorem dX7_does_338 : decode cX7_does 338 = .ok (.getfield 113, 3) := by decide +kernel
theorem dX7_does_341 : decode cX7_does 341 = .ok (.invokevirtual 156, 3) := by decide +kernel
theorem dX7_does_344 : decode cX7_does 344 = .ok (.ifCond .eq 14, 3) := by decide +kernel
theorem dX7_does_347 : decode cX7_does 347 = .ok (.aload_n 0, 1) := by decide +kernel
theorem dX7_does_348 : decode cX7_does 348 = .ok (.aload_n 0, 1) := by decide +kernel
theorem dX7_does_349 : decode cX7_does 349 = .ok (.getfield 113, 3) := by decide +kernel
theorem dX7_does_352 : decode cX7_does 352 = .ok (.invokevirtual 159, 3) := by decide +kernel
theorem dX7_does_355 : decode cX7_does 355 = .ok (.goto 5, 3) := by decide +kernel
theorem dX7_does_358 : decode cX7_does 358 = .ok (.bipush (-9), 2) := by decide +kernel
theorem dX7_does_360 : decode cX7_does 360 = .ok (.ireturn, 1) := by decide +kernel
theorem dX7_does_361 : decode cX7_does 361 = .ok (.aload_n 0, 1) := by decide +kernel
theorem dX7_does_362 : decode cX7_does 362 = .ok (.aload_n 0, 1) := by decide +kernel
theorem dX7_does_363 : decode cX7_does 363 = .ok (.getfield 113, 3) := by decide +kernel
theorem dX7_does_366 : decode cX7_does 366 = .ok (.invokevirtual 162, 3) := by decide +kernel
theorem dX7_does_369 : decode cX7_does 369 = .ok (.ifCond .ne 14, 3) := by decide +kernel
theorem dX7_does_372 : decode cX7_does 372 = .ok (.aload_n 0, 1) := by decide +kernel
theorem dX7_does_373 : decode cX7_does 373 = .ok (.aload_n 0, 1) := by decide +kernel
theorem dX7_does_374 : decode cX7_does 374 = .ok (.getfield 113, 3) := by decide +kernel
theorem dX7_does_377 : decode cX7_does 377 = .ok (.invokevirtual 165, 3) := by decide +kernel
theorem dX7_does_380 : decode cX7_does 380 = .ok (.goto 5, 3) := by decide +kernel
theorem dX7_does_383 : decode cX7_does 383 = .ok (.bipush (-9), 2) := by decide +kernel
theorem dX7_does_385 : decode cX7_does 385 = .ok (.ireturn, 1) := by decide +kernel
theorem dX7_does_386 : decode cX7_does 386 = .ok (.aload_n 0, 1) := by decide +kernel
theorem dX7_does_387 : decode cX7_does 387 = .ok (.invokevirtual 168, 3) := by decide +kernel
theorem dX7_does_390 : decode cX7_does 390 = .ok (.ireturn, 1) := by decide +kernel
theorem dX7_append_0 : decode cX7_append 0 = .ok (.aload_n 0, 1) := by decide +kernel
theorem dX7_append_1 : decode cX7_append 1 = .ok (.iload_n 1, 1) := by decide +kernel
theorem dX7_append_2 : decode cX7_append 2 = .ok (.iconst 0, 1) := by decide +kernel
theorem dX7_append_3 : decode cX7_append 3 = .ok (.sipush 255, 3) := by decide +kernel
theorem dX7_append_6 : decode cX7_append 6 = .ok (.invokestatic 40, 3) := by decide +kernel
theorem dX7_append_9 : decode cX7_append 9 = .ok (.ifCond .ne 7, 3) := by decide +kernel
theorem dX7_append_12 : decode cX7_append 12 = .ok (.iconst 1, 1) := by decide +kernel
theorem dX7_append_13 : decode cX7_append 13 = .ok (.goto 17, 3) := by decide +kernel
theorem dX7_append_16 : decode cX7_append 16 = .ok (.aload_n 0, 1) := by decide +kernel
theorem dX7_append_17 : decode cX7_append 17 = .ok (.getfield 171, 3) := by decide +kernel
theorem dX7_append_20 : decode cX7_append 20 = .ok (.bipush 120, 2) := by decide +kernel
theorem dX7_append_22 : decode cX7_append 22 = .ok (.if_icmp .ne 7, 3) := by decide +kernel
theorem dX7_append_25 : decode cX7_append 25 = .ok (.iconst 2, 1) := by decide +kernel
theorem dX7_append_26 : decode cX7_append 26 = .ok (.goto 4, 3) := by decide +kernel
theorem dX7_append_29 : decode cX7_append 29 = .ok (.iconst 0, 1) := by decide +kernel
theorem dX7_append_30 : decode cX7_append 30 = .ok (.invokevirtual 174, 3) := by decide +kernel
theorem dX7_append_33 : decode cX7_append 33 = .ok (.ifCond .ne 5, 3) := by decide +kernel
theorem dX7_append_36 : decode cX7_append 36 = .ok (.iconst 0, 1) := by decide +kernel
theorem dX7_append_37 : decode cX7_append 37 = .ok (.ireturn, 1) := by decide +kernel
theorem dX7_append_38 : decode cX7_append 38 = .ok (.aload_n 0, 1) := by decide +kernel
theorem dX7_append_39 : decode cX7_append 39 = .ok (.getfield 22, 3) := by decide +kernel
theorem dX7_append_42 : decode cX7_append 42 = .ok (.aload_n 0, 1) := by decide +kernel
theorem dX7_append_43 : decode cX7_append 43 = .ok (.getfield 171, 3) := by decide +kernel
theorem dX7_append_46 : decode cX7_append 46 = .ok (.iload_n 1, 1) := by decide +kernel
theorem dX7_append_47 : decode cX7_append 47 = .ok (.iastore, 1) := by decide +kernel
theorem dX7_append_48 : decode cX7_append 48 = .ok (.aload_n 0, 1) := by decide +kernel
theorem dX7_append_49 : decode cX7_append 49 = .ok (.dup, 1) := by decide +kernel
theorem dX7_append_50 : decode cX7_append 50 = .ok (.getfield 171, 3) := by decide +kernel
theorem dX7_append_53 : decode cX7_append 53 = .ok (.iconst 1, 1) := by decide +kernel
theorem dX7_append_54 : decode cX7_append 54 = .ok (.iadd, 1) := by decide +kernel
theorem dX7_append_55 : decode cX7_append 55 = .ok (.putfield 171, 3) := by decide +kernel
theorem dX7_append_58 : decode cX7_append 58 = .ok (.aload_n 0, 1) := by decide +kernel
theorem dX7_append_59 : decode cX7_append 59 = .ok (.getfield 171, 3) := by decide +kernel
theorem dX7_append_62 : decode cX7_append 62 = .ok (.ireturn, 1) := by decide +kernel
theorem dX7_clearText_0 : decode cX7_clearText 0 = .ok (.aload_n 0, 1) := by decide +kernel
theorem dX7_clearText_1 : decode cX7_clearText 1 = .ok (.iconst 0, 1) := by decide +kernel
theorem dX7_clearText_2 : decode cX7_clearText 2 = .ok (.putfield 32, 3) := by decide +kernel
theorem dX7_clearText_5 : decode cX7_clearText 5 = .ok (.aload_n 0, 1) := by decide +kernel
theorem dX7_clearText_6 : decode cX7_clearText 6 = .ok (.getfield 171, 3) := by decide +kernel
theorem dX7_clearText_9 : decode cX7_clearText 9 = .ok (.istore_n 1, 1) := by decide +kernel
theorem dX7_clearText_10 : decode cX7_clearText 10 = .ok (.aload_n 0, 1) := by decide +kernel
theorem dX7_clearText_11 : decode cX7_clearText 11 = .ok (.iconst 0, 1) := by decide +kernel
theorem dX7_clearText_12 : decode cX7_clearText 12 = .ok (.putfield 171, 3) := by decide +kernel
theorem dX7_clearText_15 : decode cX7_clearText 15 = .ok (.iload_n 1, 1) := by decide +kernel
theorem dX7_clearText_16 : decode cX7_clearText 16 = .ok (.ireturn, 1) := by decide +kernel
theorem dX7_takesOne_0 : decode cX7_takesOne 0 = .ok (.aload_n 0, 1) := by decide +kernel
theorem dX7_takesOne_1 : decode cX7_takesOne 1 = .ok (.getfield 177, 3) := by decide +kernel
theorem dX7_takesOne_4 : decode cX7_takesOne 4 = .ok (.ifCond .ne 35, 3) := by decide +kernel
theorem dX7_takesOne_7 : decode cX7_takesOne 7 = .ok (.aload_n 0, 1) := by decide +kernel
theorem dX7_takesOne_8 : decode cX7_takesOne 8 = .ok (.getfield 181, 3) := by decide +kernel
theorem dX7_takesOne_11 : decode cX7_takesOne 11 = .ok (.aload_n 0, 1) := by decide +kernel
theorem dX7_takesOne_12 : decode cX7_takesOne 12 = .ok (.getfield 171, 3) := by decide +kernel
theorem dX7_takesOne_15 : decode cX7_takesOne 15 = .ok (.if_icmp .ge 24, 3) := by decide +kernel
theorem dX7_takesOne_18 : decode cX7_takesOne 18 = .ok (.aload_n 0, 1) := by decide +kernel
theorem dX7_takesOne_19 : decode cX7_takesOne 19 = .ok (.getfield 22, 3) := by decide +kernel
theorem dX7_takesOne_22 : decode cX7_takesOne 22 = .ok (.aload_n 0, 1) := by decide +kernel
theorem dX7_takesOne_23 : decode cX7_takesOne 23 = .ok (.getfield 181, 3) := by decide +kernel
theorem dX7_takesOne_26 : decode cX7_takesOne 26 = .ok (.iaload, 1) := by decide +kernel
theorem dX7_takesOne_27 : decode cX7_takesOne 27 = .ok (.iload_n 1, 1) := by decide +kernel
theorem dX7_takesOne_28 : decode cX7_takesOne 28 = .ok (.iload_n 2, 1) := by decide +kernel
theorem dX7_takesOne_29 : decode cX7_takesOne 29 = .ok (.invokestatic 40, 3) := by decide +kernel
theorem dX7_takesOne_32 : decode cX7_takesOne 32 = .ok (.ifCond .eq 7, 3) := by decide +kernel
theorem dX7_takesOne_35 : decode cX7_takesOne 35 = .ok (.iconst 1, 1) := by decide +kernel
theorem dX7_takesOne_36 : decode cX7_takesOne 36 = .ok (.goto 4, 3) := by decide +kernel
theorem dX7_takesOne_39 : decode cX7_takesOne 39 = .ok (.iconst 0, 1) := by decide +kernel
theorem dX7_takesOne_40 : decode cX7_takesOne 40 = .ok (.istore_n 3, 1) := by decide +kernel
theorem dX7_takesOne_41 : decode cX7_takesOne 41 = .ok (.iload_n 3, 1) := by decide +kernel
theorem dX7_takesOne_42 : decode cX7_takesOne 42 = .ok (.ifCond .eq 17, 3) := by decide +kernel
theorem dX7_takesOne_45 : decode cX7_takesOne 45 = .ok (.aload_n 0, 1) := by decide +kernel
theorem dX7_takesOne_46 : decode cX7_takesOne 46 = .ok (.getfield 22, 3) := by decide +kernel
theorem dX7_takesOne_49 : decode cX7_takesOne 49 = .ok (.aload_n 0, 1) := by decide +kernel
theorem dX7_takesOne_50 : decode cX7_takesOne 50 = .ok (.getfield 181, 3) := by decide +kernel
theorem dX7_takesOne_53 : decode cX7_takesOne 53 = .ok (.iaload, 1) := by decide +kernel
theorem dX7_takesOne_54 : decode cX7_takesOne 54 = .ok (.iload_n 1, 1) := by decide +kernel
theorem dX7_takesOne_55 : decode cX7_takesOne 55 = .ok (.isub, 1) := by decide +kernel
theorem dX7_takesOne_56 : decode cX7_takesOne 56 = .ok (.goto 4, 3) := by decide +kernel
theorem dX7_takesOne_59 : decode cX7_takesOne 59 = .ok (.iconst 0, 1) := by decide +kernel
theorem dX7_takesOne_60 : decode cX7_takesOne 60 = .ok (.istore 4, 2) := by decide +kernel
theorem dX7_takesOne_62 : decode cX7_takesOne 62 = .ok (.aload_n 0, 1) := by decide +kernel
theorem dX7_takesOne_63 : decode cX7_takesOne 63 = .ok (.dup, 1) := by decide +kernel
theorem dX7_takesOne_64 : decode cX7_takesOne 64 = .ok (.getfield 181, 3) := by decide +kernel
theorem dX7_takesOne_67 : decode cX7_takesOne 67 = .ok (.iload_n 3, 1) := by decide +kernel
theorem dX7_takesOne_68 : decode cX7_takesOne 68 = .ok (.ifCond .eq 7, 3) := by decide +kernel
theorem dX7_takesOne_71 : decode cX7_takesOne 71 = .ok (.iconst 1, 1) := by decide +kernel
theorem dX7_takesOne_72 : decode cX7_takesOne 72 = .ok (.goto 4, 3) := by decide +kernel
theorem dX7_takesOne_75 : decode cX7_takesOne 75 = .ok (.iconst 0, 1) := by decide +kernel
theorem dX7_takesOne_76 : decode cX7_takesOne 76 = .ok (.iadd, 1) := by decide +kernel
theorem dX7_takesOne_77 : decode cX7_takesOne 77 = .ok (.putfield 181, 3) := by decide +kernel
theorem dX7_takesOne_80 : decode cX7_takesOne 80 = .ok (.aload_n 0, 1) := by decide +kernel
theorem dX7_takesOne_81 : decode cX7_takesOne 81 = .ok (.aload_n 0, 1) := by decide +kernel
theorem dX7_takesOne_82 : decode cX7_takesOne 82 = .ok (.getfield 177, 3) := by decide +kernel
theorem dX7_takesOne_85 : decode cX7_takesOne 85 = .ok (.ifCond .ne 7, 3) := by decide +kernel
theorem dX7_takesOne_88 : decode cX7_takesOne 88 = .ok (.iload_n 3, 1) := by decide +kernel
theorem dX7_takesOne_89 : decode cX7_takesOne 89 = .ok (.ifCond .ne 7, 3) := by decide +kernel
theorem dX7_takesOne_92 : decode cX7_takesOne 92 = .ok (.iconst 1, 1) := by decide +kernel
theorem dX7_takesOne_93 : decode cX7_takesOne 93 = .ok (.goto 4, 3) := by decide +kernel
theorem dX7_takesOne_96 : decode cX7_takesOne 96 = .ok (.iconst 0, 1) := by decide +kernel
theorem dX7_takesOne_97 : decode cX7_takesOne 97 = .ok (.putfield 177, 3) := by decide +kernel
theorem dX7_takesOne_100 : decode cX7_takesOne 100 = .ok (.iload 4, 2) := by decide +kernel
theorem dX7_takesOne_102 : decode cX7_takesOne 102 = .ok (.ireturn, 1) := by decide +kernel
theorem dX7_readWeek_0 : decode cX7_readWeek 0 = .ok (.aload_n 0, 1) := by decide +kernel
theorem dX7_readWeek_1 : decode cX7_readWeek 1 = .ok (.bipush 48, 2) := by decide +kernel
theorem dX7_readWeek_3 : decode cX7_readWeek 3 = .ok (.bipush 49, 2) := by decide +kernel
theorem dX7_readWeek_5 : decode cX7_readWeek 5 = .ok (.invokevirtual 184, 3) := by decide +kernel
theorem dX7_readWeek_8 : decode cX7_readWeek 8 = .ok (.istore_n 1, 1) := by decide +kernel
theorem dX7_readWeek_9 : decode cX7_readWeek 9 = .ok (.bipush 10, 2) := by decide +kernel
theorem dX7_readWeek_11 : decode cX7_readWeek 11 = .ok (.iload_n 1, 1) := by decide +kernel
theorem dX7_readWeek_12 : decode cX7_readWeek 12 = .ok (.imul, 1) := by decide +kernel
theorem dX7_readWeek_13 : decode cX7_readWeek 13 = .ok (.aload_n 0, 1) := by decide +kernel
theorem dX7_readWeek_14 : decode cX7_readWeek 14 = .ok (.bipush 48, 2) := by decide +kernel
theorem dX7_readWeek_16 : decode cX7_readWeek 16 = .ok (.bipush 57, 2) := by decide +kernel
theorem dX7_readWeek_18 : decode cX7_readWeek 18 = .ok (.invokevirtual 184, 3) := by decide +kernel
theorem dX7_readWeek_21 : decode cX7_readWeek 21 = .ok (.iadd, 1) := by decide +kernel
theorem dX7_readWeek_22 : decode cX7_readWeek 22 = .ok (.ireturn, 1) := by decide +kernel
theorem dX7_readExtra_0 : decode cX7_readExtra 0 = .ok (.aload_n 0, 1) := by decide +kernel
theorem dX7_readExtra_1 : decode cX7_readExtra 1 = .ok (.bipush 48, 2) := by decide +kernel
theorem dX7_readExtra_3 : decode cX7_readExtra 3 = .ok (.bipush 50, 2) := by decide +kernel
theorem dX7_readExtra_5 : decode cX7_readExtra 5 = .ok (.invokevirtual 184, 3) := by decide +kernel
theorem dX7_readExtra_8 : decode cX7_readExtra 8 = .ok (.istore_n 1, 1) := by decide +kernel
theorem dX7_readExtra_9 : decode cX7_readExtra 9 = .ok (.bipush 10, 2) := by decide +kernel
theorem dX7_readExtra_11 : decode cX7_readExtra 11 = .ok (.iload_n 1, 1) := by decide +kernel
theorem dX7_readExtra_12 : decode cX7_readExtra 12 = .ok (.imul, 1) := by decide +kernel
theorem dX7_readExtra_13 : decode cX7_readExtra 13 = .ok (.aload_n 0, 1) := by decide +kernel
theorem dX7_readExtra_14 : decode cX7_readExtra 14 = .ok (.bipush 48, 2) := by decide +kernel
theorem dX7_readExtra_16 : decode cX7_readExtra 16 = .ok (.iload_n 1, 1) := by decide +kernel
theorem dX7_readExtra_17 : decode cX7_readExtra 17 = .ok (.iconst 2, 1) := by decide +kernel
theorem dX7_readExtra_18 : decode cX7_readExtra 18 = .ok (.if_icmp .ne 8, 3) := by decide +kernel
theorem dX7_readExtra_21 : decode cX7_readExtra 21 = .ok (.bipush 48, 2) := by decide +kernel
theorem dX7_readExtra_23 : decode cX7_readExtra 23 = .ok (.goto 5, 3) := by decide +kernel
theorem dX7_readExtra_26 : decode cX7_readExtra 26 = .ok (.bipush 57, 2) := by decide +kernel
theorem dX7_readExtra_28 : decode cX7_readExtra 28 = .ok (.invokevirtual 184, 3) := by decide +kernel
theorem dX7_readExtra_31 : decode cX7_readExtra 31 = .ok (.iadd, 1) := by decide +kernel
theorem dX7_readExtra_32 : decode cX7_readExtra 32 = .ok (.ireturn, 1) := by decide +kernel
theorem dX7_readCoins_0 : decode cX7_readCoins 0 = .ok (.aload_n 0, 1) := by decide +kernel
theorem dX7_readCoins_1 : decode cX7_readCoins 1 = .ok (.bipush 48, 2) := by decide +kernel
theorem dX7_readCoins_3 : decode cX7_readCoins 3 = .ok (.bipush 57, 2) := by decide +kernel
theorem dX7_readCoins_5 : decode cX7_readCoins 5 = .ok (.invokevirtual 184, 3) := by decide +kernel
theorem dX7_readCoins_8 : decode cX7_readCoins 8 = .ok (.istore_n 1, 1) := by decide +kernel
theorem dX7_readCoins_9 : decode cX7_readCoins 9 = .ok (.aload_n 0, 1) := by decide +kernel
theorem dX7_readCoins_10 : decode cX7_readCoins 10 = .ok (.bipush 48, 2) := by decide +kernel
theorem dX7_readCoins_12 : decode cX7_readCoins 12 = .ok (.bipush 57, 2) := by decide +kernel
theorem dX7_readCoins_14 : decode cX7_readCoins 14 = .ok (.invokevirtual 184, 3) := by decide +kernel
theorem dX7_readCoins_17 : decode cX7_readCoins 17 = .ok (.istore_n 2, 1) := by decide +kernel
theorem dX7_readCoins_18 : decode cX7_readCoins 18 = .ok (.iload_n 1, 1) := by decide +kernel
theorem dX7_readCoins_19 : decode cX7_readCoins 19 = .ok (.iload_n 2, 1) := by decide +kernel
theorem dX7_readCoins_20 : decode cX7_readCoins 20 = .ok (.iadd, 1) := by decide +kernel
theorem dX7_readCoins_21 : decode cX7_readCoins 21 = .ok (.ifCond .ne 16, 3) := by decide +kernel
theorem dX7_readCoins_24 : decode cX7_readCoins 24 = .ok (.iconst 1, 1) := by decide +kernel
theorem dX7_readCoins_25 : decode cX7_readCoins 25 = .ok (.aload_n 0, 1) := by decide +kernel
theorem dX7_readCoins_26 : decode cX7_readCoins 26 = .ok (.bipush 49, 2) := by decide +kernel
theorem dX7_readCoins_28 : decode cX7_readCoins 28 = .ok (.bipush 57, 2) := by decide +kernel
theorem dX7_readCoins_30 : decode cX7_readCoins 30 = .ok (.invokevirtual 184, 3) := by decide +kernel
theorem dX7_readCoins_33 : decode cX7_readCoins 33 = .ok (.iadd, 1) := by decide +kernel
theorem dX7_readCoins_34 : decode cX7_readCoins 34 = .ok (.goto 21, 3) := by decide +kernel
theorem dX7_readCoins_37 : decode cX7_readCoins 37 = .ok (.bipush 100, 2) := by decide +kernel
theorem dX7_readCoins_39 : decode cX7_readCoins 39 = .ok (.iload_n 1, 1) := by decide +kernel
theorem dX7_readCoins_40 : decode cX7_readCoins 40 = .ok (.imul, 1) := by decide +kernel
theorem dX7_readCoins_41 : decode cX7_readCoins 41 = .ok (.bipush 10, 2) := by decide +kernel
theorem dX7_readCoins_43 : decode cX7_readCoins 43 = .ok (.iload_n 2, 1) := by decide +kernel
theorem dX7_readCoins_44 : decode cX7_readCoins 44 = .ok (.imul, 1) := by decide +kernel
theorem dX7_readCoins_45 : decode cX7_readCoins 45 = .ok (.iadd, 1) := by decide +kernel
theorem dX7_readCoins_46 : decode cX7_readCoins 46 = .ok (.aload_n 0, 1) := by decide +kernel
theorem dX7_readCoins_47 : decode cX7_readCoins 47 = .ok (.bipush 48, 2) := by decide +kernel
theorem dX7_readCoins_49 : decode cX7_readCoins 49 = .ok (.bipush 57, 2) := by decide +kernel
theorem dX7_readCoins_51 : decode cX7_readCoins 51 = .ok (.invokevirtual 184, 3) := by decide +kernel
theorem dX7_readCoins_54 : decode cX7_readCoins 54 = .ok (.iadd, 1) := by decide +kernel
theorem dX7_readCoins_55 : decode cX7_readCoins 55 = .ok (.ireturn, 1) := by decide +kernel
theorem dX7_isLetter_0 : decode cX7_isLetter 0 = .ok (.iload_n 0, 1) := by decide +kernel
theorem dX7_isLetter_1 : decode cX7_isLetter 1 = .ok (.bipush 111, 2) := by decide +kernel
theorem dX7_isLetter_3 : decode cX7_isLetter 3 = .ok (.if_icmp .eq 63, 3) := by decide +kernel
theorem dX7_isLetter_6 : decode cX7_isLetter 6 = .ok (.iload_n 0, 1) := by decide +kernel
theorem dX7_isLetter_7 : decode cX7_isLetter 7 = .ok (.bipush 107, 2) := by decide +kernel
theorem dX7_isLetter_9 : decode cX7_isLetter 9 = .ok (.if_icmp .eq 57, 3) := by decide +kernel
theorem dX7_isLetter_12 : decode cX7_isLetter 12 = .ok (.iload_n 0, 1) := by decide +kernel
theorem dX7_isLetter_13 : decode cX7_isLetter 13 = .ok (.bipush 115, 2) := by decide +kernel
theorem dX7_isLetter_15 : decode cX7_isLetter 15 = .ok (.if_icmp .eq 51, 3) := by decide +kernel
theorem dX7_isLetter_18 : decode cX7_isLetter 18 = .ok (.iload_n 0, 1) := by decide +kernel
theorem dX7_isLetter_19 : decode cX7_isLetter 19 = .ok (.bipush 116, 2) := by decide +kernel
theorem dX7_isLetter_21 : decode cX7_isLetter 21 = .ok (.if_icmp .eq 45, 3) := by decide +kernel
theorem dX7_isLetter_24 : decode cX7_isLetter 24 = .ok (.iload_n 0, 1) := by decide +kernel
theorem dX7_isLetter_25 : decode cX7_isLetter 25 = .ok (.bipush 98, 2) := by decide +kernel
theorem dX7_isLetter_27 : decode cX7_isLetter 27 = .ok (.if_icmp .eq 39, 3) := by decide +kernel
theorem dX7_isLetter_30 : decode cX7_isLetter 30 = .ok (.iload_n 0, 1) := by decide +kernel
theorem dX7_isLetter_31 : decode cX7_isLetter 31 = .ok (.bipush 101, 2) := by decide +kernel
theorem dX7_isLetter_33 : decode cX7_isLetter 33 = .ok (.if_icmp .eq 33, 3) := by decide +kernel
theorem dX7_isLetter_36 : decode cX7_isLetter 36 = .ok (.iload_n 0, 1) := by decide +kernel
theorem dX7_isLetter_37 : decode cX7_isLetter 37 = .ok (.bipush 114, 2) := by decide +kernel
theorem dX7_isLetter_39 : decode cX7_isLetter 39 = .ok (.if_icmp .eq 27, 3) := by decide +kernel
theorem dX7_isLetter_42 : decode cX7_isLetter 42 = .ok (.iload_n 0, 1) := by decide +kernel
theorem dX7_isLetter_43 : decode cX7_isLetter 43 = .ok (.bipush 102, 2) := by decide +kernel
theorem dX7_isLetter_45 : decode cX7_isLetter 45 = .ok (.if_icmp .eq 21, 3) := by decide +kernel
theorem dX7_isLetter_48 : decode cX7_isLetter 48 = .ok (.iload_n 0, 1) := by decide +kernel
theorem dX7_isLetter_49 : decode cX7_isLetter 49 = .ok (.bipush 97, 2) := by decide +kernel
theorem dX7_isLetter_51 : decode cX7_isLetter 51 = .ok (.if_icmp .eq 15, 3) := by decide +kernel
theorem dX7_isLetter_54 : decode cX7_isLetter 54 = .ok (.iload_n 0, 1) := by decide +kernel
theorem dX7_isLetter_55 : decode cX7_isLetter 55 = .ok (.bipush 117, 2) := by decide +kernel
theorem dX7_isLetter_57 : decode cX7_isLetter 57 = .ok (.if_icmp .eq 9, 3) := by decide +kernel
theorem dX7_isLetter_60 : decode cX7_isLetter 60 = .ok (.iload_n 0, 1) := by decide +kernel
theorem dX7_isLetter_61 : decode cX7_isLetter 61 = .ok (.bipush 121, 2) := by decide +kernel
theorem dX7_isLetter_63 : decode cX7_isLetter 63 = .ok (.if_icmp .ne 7, 3) := by decide +kernel
theorem dX7_isLetter_66 : decode cX7_isLetter 66 = .ok (.iconst 1, 1) := by decide +kernel
theorem dX7_isLetter_67 : decode cX7_isLetter 67 = .ok (.goto 4, 3) := by decide +kernel
theorem dX7_isLetter_70 : decode cX7_isLetter 70 = .ok (.iconst 0, 1) := by decide +kernel
theorem dX7_isLetter_71 : decode cX7_isLetter 71 = .ok (.ireturn, 1) := by decide +kernel
theorem dX7_readCommand_0 : decode cX7_readCommand 0 = .ok (.aload_n 0, 1) := by decide +kernel
theorem dX7_readCommand_1 : decode cX7_readCommand 1 = .ok (.aload_n 0, 1) := by decide +kernel
theorem dX7_readCommand_2 : decode cX7_readCommand 2 = .ok (.getfield 22, 3) := by decide +kernel
theorem dX7_readCommand_5 : decode cX7_readCommand 5 = .ok (.aload_n 0, 1) := by decide +kernel
theorem dX7_readCommand_6 : decode cX7_readCommand 6 = .ok (.getfield 181, 3) := by decide +kernel
theorem dX7_readCommand_9 : decode cX7_readCommand 9 = .ok (.iaload, 1) := by decide +kernel
theorem dX7_readCommand_10 : decode cX7_readCommand 10 = .ok (.putfield 110, 3) := by decide +kernel
theorem dX7_readCommand_13 : decode cX7_readCommand 13 = .ok (.aload_n 0, 1) := by decide +kernel
theorem dX7_readCommand_14 : decode cX7_readCommand 14 = .ok (.aload_n 0, 1) := by decide +kernel
theorem dX7_readCommand_15 : decode cX7_readCommand 15 = .ok (.getfield 110, 3) := by decide +kernel
theorem dX7_readCommand_18 : decode cX7_readCommand 18 = .ok (.invokestatic 187, 3) := by decide +kernel
theorem dX7_readCommand_21 : decode cX7_readCommand 21 = .ok (.ifCond .ne 7, 3) := by decide +kernel
theorem dX7_readCommand_24 : decode cX7_readCommand 24 = .ok (.iconst 1, 1) := by decide +kernel
theorem dX7_readCommand_25 : decode cX7_readCommand 25 = .ok (.goto 4, 3) := by decide +kernel
theorem dX7_readCommand_28 : decode cX7_readCommand 28 = .ok (.iconst 0, 1) := by decide +kernel
theorem dX7_readCommand_29 : decode cX7_readCommand 29 = .ok (.putfield 177, 3) := by decide +kernel
theorem dX7_readCommand_32 : decode cX7_readCommand 32 = .ok (.aload_n 0, 1) := by decide +kernel
theorem dX7_readCommand_33 : decode cX7_readCommand 33 = .ok (.dup, 1) := by decide +kernel
theorem dX7_readCommand_34 : decode cX7_readCommand 34 = .ok (.getfield 181, 3) := by decide +kernel
theorem dX7_readCommand_37 : decode cX7_readCommand 37 = .ok (.aload_n 0, 1) := by decide +kernel
theorem dX7_readCommand_38 : decode cX7_readCommand 38 = .ok (.getfield 177, 3) := by decide +kernel
theorem dX7_readCommand_41 : decode cX7_readCommand 41 = .ok (.ifCond .eq 7, 3) := by decide +kernel
theorem dX7_readCommand_44 : decode cX7_readCommand 44 = .ok (.iconst 0, 1) := by decide +kernel
theorem dX7_readCommand_45 : decode cX7_readCommand 45 = .ok (.goto 4, 3) := by decide +kernel
theorem dX7_readCommand_48 : decode cX7_readCommand 48 = .ok (.iconst 1, 1) := by decide +kernel
theorem dX7_readCommand_49 : decode cX7_readCommand 49 = .ok (.iadd, 1) := by decide +kernel
theorem dX7_readCommand_50 : decode cX7_readCommand 50 = .ok (.putfield 181, 3) := by decide +kernel
theorem dX7_readCommand_53 : decode cX7_readCommand 53 = .ok (.aload_n 0, 1) := by decide +kernel
theorem dX7_readCommand_54 : decode cX7_readCommand 54 = .ok (.getfield 110, 3) := by decide +kernel
theorem dX7_readCommand_57 : decode cX7_readCommand 57 = .ok (.tableswitch 300 97 117 #[274, 214, 300, 300, 300, 214, 300, 300, 300, 300, 116, 300, 300, 300, 99, 300, 300, 214, 141, 214, 289], 99) := by decide +kernel
theorem dX7_readCommand_156 : decode cX7_readCommand 156 = .ok (.aload_n 0, 1) := by decide +kernel
theorem dX7_readCommand_157 : decode cX7_readCommand 157 = .ok (.iconst 1, 1) := by decide +kernel
theorem dX7_readCommand_158 : decode cX7_readCommand 158 = .ok (.aload_n 0, 1) := by decide +kernel
theorem dX7_readCommand_159 : decode cX7_readCommand 159 = .ok (.bipush 49, 2) := by decide +kernel
theorem dX7_readCommand_161 : decode cX7_readCommand 161 = .ok (.bipush 57, 2) := by decide +kernel
theorem dX7_readCommand_163 : decode cX7_readCommand 163 = .ok (.invokevirtual 184, 3) := by decide +kernel
theorem dX7_readCommand_166 : decode cX7_readCommand 166 = .ok (.iadd, 1) := by decide +kernel
theorem dX7_readCommand_167 : decode cX7_readCommand 167 = .ok (.putfield 113, 3) := by decide +kernel
theorem dX7_readCommand_170 : decode cX7_readCommand 170 = .ok (.goto 192, 3) := by decide +kernel
theorem dX7_readCommand_173 : decode cX7_readCommand 173 = .ok (.aload_n 0, 1) := by decide +kernel
theorem dX7_readCommand_174 : decode cX7_readCommand 174 = .ok (.aload_n 0, 1) := by decide +kernel
theorem dX7_readCommand_175 : decode cX7_readCommand 175 = .ok (.invokevirtual 190, 3) := by decide +kernel
theorem dX7_readCommand_178 : decode cX7_readCommand 178 = .ok (.putfield 113, 3) := by decide +kernel
theorem dX7_readCommand_181 : decode cX7_readCommand 181 = .ok (.aload_n 0, 1) := by decide +kernel
theorem dX7_readCommand_182 : decode cX7_readCommand 182 = .ok (.iconst 1, 1) := by decide +kernel
theorem dX7_readCommand_183 : decode cX7_readCommand 183 = .ok (.aload_n 0, 1) := by decide +kernel
theorem dX7_readCommand_184 : decode cX7_readCommand 184 = .ok (.bipush 49, 2) := by decide +kernel
theorem dX7_readCommand_186 : decode cX7_readCommand 186 = .ok (.bipush 57, 2) := by decide +kernel
theorem dX7_readCommand_188 : decode cX7_readCommand 188 = .ok (.invokevirtual 184, 3) := by decide +kernel
theorem dX7_readCommand_191 : decode cX7_readCommand 191 = .ok (.iadd, 1) := by decide +kernel
theorem dX7_readCommand_192 : decode cX7_readCommand 192 = .ok (.putfield 122, 3) := by decide +kernel
theorem dX7_readCommand_195 : decode cX7_readCommand 195 = .ok (.goto 167, 3) := by decide +kernel
theorem dX7_readCommand_198 : decode cX7_readCommand 198 = .ok (.aload_n 0, 1) := by decide +kernel
theorem dX7_readCommand_199 : decode cX7_readCommand 199 = .ok (.aload_n 0, 1) := by decide +kernel
theorem dX7_readCommand_200 : decode cX7_readCommand 200 = .ok (.invokevirtual 190, 3) := by decide +kernel
theorem dX7_readCommand_203 : decode cX7_readCommand 203 = .ok (.putfield 113, 3) := by decide +kernel
theorem dX7_readCommand_206 : decode cX7_readCommand 206 = .ok (.aload_n 0, 1) := by decide +kernel
theorem dX7_readCommand_207 : decode cX7_readCommand 207 = .ok (.aload_n 0, 1) := by decide +kernel
theorem dX7_readCommand_208 : decode cX7_readCommand 208 = .ok (.getfield 181, 3) := by decide +kernel
theorem dX7_readCommand_211 : decode cX7_readCommand 211 = .ok (.aload_n 0, 1) := by decide +kernel
theorem dX7_readCommand_212 : decode cX7_readCommand 212 = .ok (.getfield 171, 3) := by decide +kernel
theorem dX7_readCommand_215 : decode cX7_readCommand 215 = .ok (.if_icmp .ge 21, 3) := by decide +kernel
theorem dX7_readCommand_218 : decode cX7_readCommand 218 = .ok (.aload_n 0, 1) := by decide +kernel
theorem dX7_readCommand_219 : decode cX7_readCommand 219 = .ok (.getfield 22, 3) := by decide +kernel
theorem dX7_readCommand_222 : decode cX7_readCommand 222 = .ok (.aload_n 0, 1) := by decide +kernel
theorem dX7_readCommand_223 : decode cX7_readCommand 223 = .ok (.getfield 181, 3) := by decide +kernel
theorem dX7_readCommand_226 : decode cX7_readCommand 226 = .ok (.iaload, 1) := by decide +kernel
theorem dX7_readCommand_227 : decode cX7_readCommand 227 = .ok (.bipush 43, 2) := by decide +kernel
theorem dX7_readCommand_229 : decode cX7_readCommand 229 = .ok (.if_icmp .ne 7, 3) := by decide +kernel
theorem dX7_readCommand_232 : decode cX7_readCommand 232 = .ok (.iconst 1, 1) := by decide +kernel
theorem dX7_readCommand_233 : decode cX7_readCommand 233 = .ok (.goto 4, 3) := by decide +kernel
theorem dX7_readCommand_236 : decode cX7_readCommand 236 = .ok (.iconst 0, 1) := by decide +kernel
theorem dX7_readCommand_237 : decode cX7_readCommand 237 = .ok (.putfield 122, 3) := by decide +kernel
theorem dX7_readCommand_240 : decode cX7_readCommand 240 = .ok (.aload_n 0, 1) := by decide +kernel
theorem dX7_readCommand_241 : decode cX7_readCommand 241 = .ok (.getfield 122, 3) := by decide +kernel
theorem dX7_readCommand_244 : decode cX7_readCommand 244 = .ok (.iconst 1, 1) := by decide +kernel
theorem dX7_readCommand_245 : decode cX7_readCommand 245 = .ok (.if_icmp .ne 14, 3) := by decide +kernel
theorem dX7_readCommand_248 : decode cX7_readCommand 248 = .ok (.aload_n 0, 1) := by decide +kernel
theorem dX7_readCommand_249 : decode cX7_readCommand 249 = .ok (.bipush 43, 2) := by decide +kernel
theorem dX7_readCommand_251 : decode cX7_readCommand 251 = .ok (.bipush 43, 2) := by decide +kernel
theorem dX7_readCommand_253 : decode cX7_readCommand 253 = .ok (.invokevirtual 184, 3) := by decide +kernel
theorem dX7_readCommand_256 : decode cX7_readCommand 256 = .ok (.goto 11, 3) := by decide +kernel
theorem dX7_readCommand_259 : decode cX7_readCommand 259 = .ok (.aload_n 0, 1) := by decide +kernel
theorem dX7_readCommand_260 : decode cX7_readCommand 260 = .ok (.bipush 45, 2) := by decide +kernel
theorem dX7_readCommand_262 : decode cX7_readCommand 262 = .ok (.bipush 45, 2) := by decide +kernel
theorem dX7_readCommand_264 : decode cX7_readCommand 264 = .ok (.invokevirtual 184, 3) := by decide +kernel
theorem dX7_readCommand_267 : decode cX7_readCommand 267 = .ok (.istore_n 1, 1) := by decide +kernel
theorem dX7_readCommand_268 : decode cX7_readCommand 268 = .ok (.goto 94, 3) := by decide +kernel
theorem dX7_readCommand_271 : decode cX7_readCommand 271 = .ok (.aload_n 0, 1) := by decide +kernel
theorem dX7_readCommand_272 : decode cX7_readCommand 272 = .ok (.aload_n 0, 1) := by decide +kernel
theorem dX7_readCommand_273 : decode cX7_readCommand 273 = .ok (.bipush 48, 2) := by decide +kernel
theorem dX7_readCommand_275 : decode cX7_readCommand 275 = .ok (.bipush 53, 2) := by decide +kernel
theorem dX7_readCommand_277 : decode cX7_readCommand 277 = .ok (.invokevirtual 184, 3) := by decide +kernel
theorem dX7_readCommand_280 : decode cX7_readCommand 280 = .ok (.putfield 113, 3) := by decide +kernel
theorem dX7_readCommand_283 : decode cX7_readCommand 283 = .ok (.aload_n 0, 1) := by decide +kernel
theorem dX7_readCommand_284 : decode cX7_readCommand 284 = .ok (.aload_n 0, 1) := by decide +kernel
theorem dX7_readCommand_285 : decode cX7_readCommand 285 = .ok (.invokevirtual 190, 3) := by decide +kernel
theorem dX7_readCommand_288 : decode cX7_readCommand 288 = .ok (.putfield 122, 3) := by decide +kernel
theorem dX7_readCommand_291 : decode cX7_readCommand 291 = .ok (.aload_n 0, 1) := by decide +kernel
theorem dX7_readCommand_292 : decode cX7_readCommand 292 = .ok (.aload_n 0, 1) := by decide +kernel
theorem dX7_readCommand_293 : decode cX7_readCommand 293 = .ok (.getfield 110, 3) := by decide +kernel
theorem dX7_readCommand_296 : decode cX7_readCommand 296 = .ok (.bipush 98, 2) := by decide +kernel
theorem dX7_readCommand_298 : decode cX7_readCommand 298 = .ok (.if_icmp .ne 10, 3) := by decide +kernel
theorem dX7_readCommand_301 : decode cX7_readCommand 301 = .ok (.aload_n 0, 1) := by decide +kernel
theorem dX7_readCommand_302 : decode cX7_readCommand 302 = .ok (.invokevirtual 193, 3) := by decide +kernel
theorem dX7_readCommand_305 : decode cX7_readCommand 305 = .ok (.goto 20, 3) := by decide +kernel
theorem dX7_readCommand_308 : decode cX7_readCommand 308 = .ok (.aload_n 0, 1) := by decide +kernel
theorem dX7_readCommand_309 : decode cX7_readCommand 309 = .ok (.getfield 110, 3) := by decide +kernel
theorem dX7_readCommand_312 : decode cX7_readCommand 312 = .ok (.bipush 102, 2) := by decide +kernel
theorem dX7_readCommand_314 : decode cX7_readCommand 314 = .ok (.if_icmp .ne 10, 3) := by decide +kernel
theorem dX7_readCommand_317 : decode cX7_readCommand 317 = .ok (.aload_n 0, 1) := by decide +kernel
theorem dX7_readCommand_318 : decode cX7_readCommand 318 = .ok (.invokevirtual 190, 3) := by decide +kernel
theorem dX7_readCommand_321 : decode cX7_readCommand 321 = .ok (.goto 4, 3) := by decide +kernel
theorem dX7_readCommand_324 : decode cX7_readCommand 324 = .ok (.iconst 0, 1) := by decide +kernel
theorem dX7_readCommand_325 : decode cX7_readCommand 325 = .ok (.putfield 131, 3) := by decide +kernel
theorem dX7_readCommand_328 : decode cX7_readCommand 328 = .ok (.goto 34, 3) := by decide +kernel
theorem dX7_readCommand_331 : decode cX7_readCommand 331 = .ok (.aload_n 0, 1) := by decide +kernel
theorem dX7_readCommand_332 : decode cX7_readCommand 332 = .ok (.aload_n 0, 1) := by decide +kernel
theorem dX7_readCommand_333 : decode cX7_readCommand 333 = .ok (.bipush 48, 2) := by decide +kernel
theorem dX7_readCommand_335 : decode cX7_readCommand 335 = .ok (.bipush 55, 2) := by decide +kernel
theorem dX7_readCommand_337 : decode cX7_readCommand 337 = .ok (.invokevirtual 184, 3) := by decide +kernel
theorem dX7_readCommand_340 : decode cX7_readCommand 340 = .ok (.putfield 113, 3) := by decide +kernel
theorem dX7_readCommand_343 : decode cX7_readCommand 343 = .ok (.goto 19, 3) := by decide +kernel
theorem dX7_readCommand_346 : decode cX7_readCommand 346 = .ok (.aload_n 0, 1) := by decide +kernel
theorem dX7_readCommand_347 : decode cX7_readCommand 347 = .ok (.aload_n 0, 1) := by decide +kernel
theorem dX7_readCommand_348 : decode cX7_readCommand 348 = .ok (.invokevirtual 196, 3) := by decide +kernel
theorem dX7_readCommand_351 : decode cX7_readCommand 351 = .ok (.putfield 113, 3) := by decide +kernel
theorem dX7_readCommand_354 : decode cX7_readCommand 354 = .ok (.goto 8, 3) := by decide +kernel
theorem dX7_readCommand_357 : decode cX7_readCommand 357 = .ok (.aload_n 0, 1) := by decide +kernel
theorem dX7_readCommand_358 : decode cX7_readCommand 358 = .ok (.iconst 0, 1) := by decide +kernel
theorem dX7_readCommand_359 : decode cX7_readCommand 359 = .ok (.putfield 113, 3) := by decide +kernel
theorem dX7_readCommand_362 : decode cX7_readCommand 362 = .ok (.return_, 1) := by decide +kernel
theorem dX7_goesThrough_0 : decode cX7_goesThrough 0 = .ok (.aload_n 0, 1) := by decide +kernel
theorem dX7_goesThrough_1 : decode cX7_goesThrough 1 = .ok (.iconst 0, 1) := by decide +kernel
theorem dX7_goesThrough_2 : decode cX7_goesThrough 2 = .ok (.putfield 181, 3) := by decide +kernel
theorem dX7_goesThrough_5 : decode cX7_goesThrough 5 = .ok (.aload_n 0, 1) := by decide +kernel
theorem dX7_goesThrough_6 : decode cX7_goesThrough 6 = .ok (.iconst 0, 1) := by decide +kernel
theorem dX7_goesThrough_7 : decode cX7_goesThrough 7 = .ok (.putfield 177, 3) := by decide +kernel
theorem dX7_goesThrough_10 : decode cX7_goesThrough 10 = .ok (.aload_n 0, 1) := by decide +kernel
theorem dX7_goesThrough_11 : decode cX7_goesThrough 11 = .ok (.bipush 67, 2) := by decide +kernel
theorem dX7_goesThrough_13 : decode cX7_goesThrough 13 = .ok (.bipush 67, 2) := by decide +kernel
theorem dX7_goesThrough_15 : decode cX7_goesThrough 15 = .ok (.invokevirtual 184, 3) := by decide +kernel
theorem dX7_goesThrough_18 : decode cX7_goesThrough 18 = .ok (.istore_n 2, 1) := by decide +kernel
theorem dX7_goesThrough_19 : decode cX7_goesThrough 19 = .ok (.iconst 0, 1) := by decide +kernel
theorem dX7_goesThrough_20 : decode cX7_goesThrough 20 = .ok (.istore_n 3, 1) := by decide +kernel
theorem dX7_goesThrough_21 : decode cX7_goesThrough 21 = .ok (.aload_n 0, 1) := by decide +kernel
theorem dX7_goesThrough_22 : decode cX7_goesThrough 22 = .ok (.getfield 177, 3) := by decide +kernel
theorem dX7_goesThrough_25 : decode cX7_goesThrough 25 = .ok (.ifCond .ne 68, 3) := by decide +kernel
theorem dX7_goesThrough_28 : decode cX7_goesThrough 28 = .ok (.aload_n 0, 1) := by decide +kernel
theorem dX7_goesThrough_29 : decode cX7_goesThrough 29 = .ok (.getfield 181, 3) := by decide +kernel
theorem dX7_goesThrough_32 : decode cX7_goesThrough 32 = .ok (.aload_n 0, 1) := by decide +kernel
theorem dX7_goesThrough_33 : decode cX7_goesThrough 33 = .ok (.getfield 171, 3) := by decide +kernel
theorem dX7_goesThrough_36 : decode cX7_goesThrough 36 = .ok (.if_icmp .ge 57, 3) := by decide +kernel
theorem dX7_goesThrough_39 : decode cX7_goesThrough 39 = .ok (.aload_n 0, 1) := by decide +kernel
theorem dX7_goesThrough_40 : decode cX7_goesThrough 40 = .ok (.invokevirtual 199, 3) := by decide +kernel
theorem dX7_goesThrough_43 : decode cX7_goesThrough 43 = .ok (.iload_n 1, 1) := by decide +kernel
theorem dX7_goesThrough_44 : decode cX7_goesThrough 44 = .ok (.ifCond .eq 10, 3) := by decide +kernel
theorem dX7_goesThrough_47 : decode cX7_goesThrough 47 = .ok (.aload_n 0, 1) := by decide +kernel
theorem dX7_goesThrough_48 : decode cX7_goesThrough 48 = .ok (.invokevirtual 202, 3) := by decide +kernel
theorem dX7_goesThrough_51 : decode cX7_goesThrough 51 = .ok (.goto 4, 3) := by decide +kernel
theorem dX7_goesThrough_54 : decode cX7_goesThrough 54 = .ok (.iconst 0, 1) := by decide +kernel
theorem dX7_goesThrough_55 : decode cX7_goesThrough 55 = .ok (.istore 4, 2) := by decide +kernel
theorem dX7_goesThrough_57 : decode cX7_goesThrough 57 = .ok (.iload_n 3, 1) := by decide +kernel
theorem dX7_goesThrough_58 : decode cX7_goesThrough 58 = .ok (.iload 4, 2) := by decide +kernel
theorem dX7_goesThrough_60 : decode cX7_goesThrough 60 = .ok (.bipush (-9), 2) := by decide +kernel
theorem dX7_goesThrough_62 : decode cX7_goesThrough 62 = .ok (.if_icmp .eq 21, 3) := by decide +kernel
theorem dX7_goesThrough_65 : decode cX7_goesThrough 65 = .ok (.iload_n 1, 1) := by decide +kernel
theorem dX7_goesThrough_66 : decode cX7_goesThrough 66 = .ok (.ifCond .eq 21, 3) := by decide +kernel
theorem dX7_goesThrough_69 : decode cX7_goesThrough 69 = .ok (.aload_n 0, 1) := by decide +kernel
theorem dX7_goesThrough_70 : decode cX7_goesThrough 70 = .ok (.getfield 110, 3) := by decide +kernel
theorem dX7_goesThrough_73 : decode cX7_goesThrough 73 = .ok (.bipush 116, 2) := by decide +kernel
theorem dX7_goesThrough_75 : decode cX7_goesThrough 75 = .ok (.if_icmp .ne 12, 3) := by decide +kernel
theorem dX7_goesThrough_78 : decode cX7_goesThrough 78 = .ok (.iload 4, 2) := by decide +kernel
theorem dX7_goesThrough_80 : decode cX7_goesThrough 80 = .ok (.ifCond .le 7, 3) := by decide +kernel
theorem dX7_goesThrough_83 : decode cX7_goesThrough 83 = .ok (.iconst 1, 1) := by decide +kernel
theorem dX7_goesThrough_84 : decode cX7_goesThrough 84 = .ok (.goto 4, 3) := by decide +kernel
theorem dX7_goesThrough_87 : decode cX7_goesThrough 87 = .ok (.iconst 0, 1) := by decide +kernel
theorem dX7_goesThrough_88 : decode cX7_goesThrough 88 = .ok (.iadd, 1) := by decide +kernel
theorem dX7_goesThrough_89 : decode cX7_goesThrough 89 = .ok (.istore_n 3, 1) := by decide +kernel
theorem dX7_goesThrough_90 : decode cX7_goesThrough 90 = .ok (.goto (-69), 3) := by decide +kernel
theorem dX7_goesThrough_93 : decode cX7_goesThrough 93 = .ok (.iload_n 3, 1) := by decide +kernel
theorem dX7_goesThrough_94 : decode cX7_goesThrough 94 = .ok (.ireturn, 1) := by decide +kernel
theorem dX7_errorPosition_0 : decode cX7_errorPosition 0 = .ok (.aload_n 0, 1) := by decide +kernel
theorem dX7_errorPosition_1 : decode cX7_errorPosition 1 = .ok (.iconst 0, 1) := by decide +kernel
theorem dX7_errorPosition_2 : decode cX7_errorPosition 2 = .ok (.putfield 32, 3) := by decide +kernel
theorem dX7_errorPosition_5 : decode cX7_errorPosition 5 = .ok (.aload_n 0, 1) := by decide +kernel
theorem dX7_errorPosition_6 : decode cX7_errorPosition 6 = .ok (.iconst 0, 1) := by decide +kernel
theorem dX7_errorPosition_7 : decode cX7_errorPosition 7 = .ok (.invokevirtual 205, 3) := by decide +kernel
theorem dX7_errorPosition_10 : decode cX7_errorPosition 10 = .ok (.istore_n 1, 1) := by decide +kernel
theorem dX7_errorPosition_11 : decode cX7_errorPosition 11 = .ok (.aload_n 0, 1) := by decide +kernel
theorem dX7_errorPosition_12 : decode cX7_errorPosition 12 = .ok (.getfield 177, 3) := by decide +kernel
theorem dX7_errorPosition_15 : decode cX7_errorPosition 15 = .ok (.ifCond .eq 10, 3) := by decide +kernel
theorem dX7_errorPosition_18 : decode cX7_errorPosition 18 = .ok (.aload_n 0, 1) := by decide +kernel
theorem dX7_errorPosition_19 : decode cX7_errorPosition 19 = .ok (.getfield 181, 3) := by decide +kernel
theorem dX7_errorPosition_22 : decode cX7_errorPosition 22 = .ok (.goto 4, 3) := by decide +kernel
theorem dX7_errorPosition_25 : decode cX7_errorPosition 25 = .ok (.iconst (-1), 1) := by decide +kernel
theorem dX7_errorPosition_26 : decode cX7_errorPosition 26 = .ok (.ireturn, 1) := by decide +kernel
theorem dX7_load_0 : decode cX7_load 0 = .ok (.aload_n 0, 1) := by decide +kernel
theorem dX7_load_1 : decode cX7_load 1 = .ok (.iconst 0, 1) := by decide +kernel
theorem dX7_load_2 : decode cX7_load 2 = .ok (.invokevirtual 205, 3) := by decide +kernel
theorem dX7_load_5 : decode cX7_load 5 = .ok (.istore_n 1, 1) := by decide +kernel
theorem dX7_load_6 : decode cX7_load 6 = .ok (.aload_n 0, 1) := by decide +kernel
theorem dX7_load_7 : decode cX7_load 7 = .ok (.aload_n 0, 1) := by decide +kernel
theorem dX7_load_8 : decode cX7_load 8 = .ok (.getfield 177, 3) := by decide +kernel
theorem dX7_load_11 : decode cX7_load 11 = .ok (.ifCond .eq 7, 3) := by decide +kernel
theorem dX7_load_14 : decode cX7_load 14 = .ok (.iconst 1, 1) := by decide +kernel
theorem dX7_load_15 : decode cX7_load 15 = .ok (.goto 4, 3) := by decide +kernel
theorem dX7_load_18 : decode cX7_load 18 = .ok (.iconst 0, 1) := by decide +kernel
theorem dX7_load_19 : decode cX7_load 19 = .ok (.invokevirtual 174, 3) := by decide +kernel
theorem dX7_load_22 : decode cX7_load 22 = .ok (.ifCond .ne 5, 3) := by decide +kernel
theorem dX7_load_25 : decode cX7_load 25 = .ok (.iconst 0, 1) := by decide +kernel
theorem dX7_load_26 : decode cX7_load 26 = .ok (.ireturn, 1) := by decide +kernel
theorem dX7_load_27 : decode cX7_load 27 = .ok (.aload_n 0, 1) := by decide +kernel
theorem dX7_load_28 : decode cX7_load 28 = .ok (.invokevirtual 29, 3) := by decide +kernel
theorem dX7_load_31 : decode cX7_load 31 = .ok (.aload_n 0, 1) := by decide +kernel
theorem dX7_load_32 : decode cX7_load 32 = .ok (.iconst 1, 1) := by decide +kernel
theorem dX7_load_33 : decode cX7_load 33 = .ok (.invokevirtual 205, 3) := by decide +kernel
theorem dX7_load_36 : decode cX7_load 36 = .ok (.istore_n 1, 1) := by decide +kernel
theorem dX7_load_37 : decode cX7_load 37 = .ok (.aload_n 0, 1) := by decide +kernel
theorem dX7_load_38 : decode cX7_load 38 = .ok (.iconst 0, 1) := by decide +kernel
theorem dX7_load_39 : decode cX7_load 39 = .ok (.putfield 51, 3) := by decide +kernel
theorem dX7_load_42 : decode cX7_load 42 = .ok (.aload_n 0, 1) := by decide +kernel
theorem dX7_load_43 : decode cX7_load 43 = .ok (.iconst 0, 1) := by decide +kernel
theorem dX7_load_44 : decode cX7_load 44 = .ok (.putfield 209, 3) := by decide +kernel
theorem dX7_load_47 : decode cX7_load 47 = .ok (.iload_n 1, 1) := by decide +kernel
theorem dX7_load_48 : decode cX7_load 48 = .ok (.ireturn, 1) := by decide +kernel
theorem dX7_points_0 : decode cX7_points 0 = .ok (.iconst 0, 1) := by decide +kernel
theorem dX7_points_1 : decode cX7_points 1 = .ok (.istore_n 1, 1) := by decide +kernel
theorem dX7_points_2 : decode cX7_points 2 = .ok (.iconst 0, 1) := by decide +kernel
theorem dX7_points_3 : decode cX7_points 3 = .ok (.istore_n 2, 1) := by decide +kernel
theorem dX7_points_4 : decode cX7_points 4 = .ok (.iload_n 2, 1) := by decide +kernel
theorem dX7_points_5 : decode cX7_points 5 = .ok (.aload_n 0, 1) := by decide +kernel
theorem dX7_points_6 : decode cX7_points 6 = .ok (.getfield 7, 3) := by decide +kernel
theorem dX7_points_9 : decode cX7_points 9 = .ok (.iconst 0, 1) := by decide +kernel
theorem dX7_points_10 : decode cX7_points 10 = .ok (.iaload, 1) := by decide +kernel
theorem dX7_points_11 : decode cX7_points 11 = .ok (.if_icmp .ge 22, 3) := by decide +kernel
theorem dX7_points_14 : decode cX7_points 14 = .ok (.iload_n 1, 1) := by decide +kernel
theorem dX7_points_15 : decode cX7_points 15 = .ok (.aload_n 0, 1) := by decide +kernel
theorem dX7_points_16 : decode cX7_points 16 = .ok (.getfield 7, 3) := by decide +kernel
theorem dX7_points_19 : decode cX7_points 19 = .ok (.iload_n 2, 1) := by decide +kernel
theorem dX7_points_20 : decode cX7_points 20 = .ok (.iconst 1, 1) := by decide +kernel
theorem dX7_points_21 : decode cX7_points 21 = .ok (.invokestatic 54, 3) := by decide +kernel
theorem dX7_points_24 : decode cX7_points 24 = .ok (.iaload, 1) := by decide +kernel
theorem dX7_points_25 : decode cX7_points 25 = .ok (.iadd, 1) := by decide +kernel
theorem dX7_points_26 : decode cX7_points 26 = .ok (.istore_n 1, 1) := by decide +kernel
theorem dX7_points_27 : decode cX7_points 27 = .ok (.iinc 2 1, 3) := by decide +kernel
theorem dX7_points_30 : decode cX7_points 30 = .ok (.goto (-26), 3) := by decide +kernel
theorem dX7_points_33 : decode cX7_points 33 = .ok (.iload_n 1, 1) := by decide +kernel
theorem dX7_points_34 : decode cX7_points 34 = .ok (.ireturn, 1) := by decide +kernel
theorem dX7_allBids_0 : decode cX7_allBids 0 = .ok (.iconst 0, 1) := by decide +kernel
theorem dX7_allBids_1 : decode cX7_allBids 1 = .ok (.istore_n 1, 1) := by decide +kernel
theorem dX7_allBids_2 : decode cX7_allBids 2 = .ok (.iconst 0, 1) := by decide +kernel
theorem dX7_allBids_3 : decode cX7_allBids 3 = .ok (.istore_n 2, 1) := by decide +kernel
theorem dX7_allBids_4 : decode cX7_allBids 4 = .ok (.iload_n 2, 1) := by decide +kernel
theorem dX7_allBids_5 : decode cX7_allBids 5 = .ok (.bipush 20, 2) := by decide +kernel
theorem dX7_allBids_7 : decode cX7_allBids 7 = .ok (.if_icmp .ge 17, 3) := by decide +kernel
theorem dX7_allBids_10 : decode cX7_allBids 10 = .ok (.iload_n 1, 1) := by decide +kernel
theorem dX7_allBids_11 : decode cX7_allBids 11 = .ok (.aload_n 0, 1) := by decide +kernel
theorem dX7_allBids_12 : decode cX7_allBids 12 = .ok (.iload_n 2, 1) := by decide +kernel
theorem dX7_allBids_13 : decode cX7_allBids 13 = .ok (.invokevirtual 75, 3) := by decide +kernel
theorem dX7_allBids_16 : decode cX7_allBids 16 = .ok (.iadd, 1) := by decide +kernel
theorem dX7_allBids_17 : decode cX7_allBids 17 = .ok (.istore_n 1, 1) := by decide +kernel
theorem dX7_allBids_18 : decode cX7_allBids 18 = .ok (.iinc 2 1, 3) := by decide +kernel
theorem dX7_allBids_21 : decode cX7_allBids 21 = .ok (.goto (-17), 3) := by decide +kernel
theorem dX7_allBids_24 : decode cX7_allBids 24 = .ok (.iload_n 1, 1) := by decide +kernel
theorem dX7_allBids_25 : decode cX7_allBids 25 = .ok (.ireturn, 1) := by decide +kernel
theorem dX7_told_0 : decode cX7_told 0 = .ok (.iload_n 1, 1) := by decide +kernel
theorem dX7_told_1 : decode cX7_told 1 = .ok (.tableswitch 96 0 9 #[55, 62, 71, 96, 96, 96, 96, 77, 82, 87], 55) := by decide +kernel
theorem dX7_told_56 : decode cX7_told 56 = .ok (.aload_n 0, 1) := by decide +kernel
theorem dX7_told_57 : decode cX7_told 57 = .ok (.getfield 7, 3) := by decide +kernel
theorem dX7_told_60 : decode cX7_told 60 = .ok (.iconst 0, 1) := by decide +kernel
theorem dX7_told_61 : decode cX7_told 61 = .ok (.iaload, 1) := by decide +kernel
theorem dX7_told_62 : decode cX7_told 62 = .ok (.ireturn, 1) := by decide +kernel
theorem dX7_told_63 : decode cX7_told 63 = .ok (.aload_n 0, 1) := by decide +kernel
theorem dX7_told_64 : decode cX7_told 64 = .ok (.getfield 7, 3) := by decide +kernel
theorem dX7_told_67 : decode cX7_told 67 = .ok (.sipush 230, 3) := by decide +kernel
theorem dX7_told_70 : decode cX7_told 70 = .ok (.iaload, 1) := by decide +kernel
theorem dX7_told_71 : decode cX7_told 71 = .ok (.ireturn, 1) := by decide +kernel
theorem dX7_told_72 : decode cX7_told 72 = .ok (.aload_n 0, 1) := by decide +kernel
theorem dX7_told_73 : decode cX7_told 73 = .ok (.iconst (-1), 1) := by decide +kernel
theorem dX7_told_74 : decode cX7_told 74 = .ok (.invokevirtual 57, 3) := by decide +kernel
theorem dX7_told_77 : decode cX7_told 77 = .ok (.ireturn, 1) := by decide +kernel
theorem dX7_told_78 : decode cX7_told 78 = .ok (.aload_n 0, 1) := by decide +kernel
theorem dX7_told_79 : decode cX7_told 79 = .ok (.invokevirtual 212, 3) := by decide +kernel
theorem dX7_told_82 : decode cX7_told 82 = .ok (.ireturn, 1) := by decide +kernel
theorem dX7_told_83 : decode cX7_told 83 = .ok (.aload_n 0, 1) := by decide +kernel
theorem dX7_told_84 : decode cX7_told 84 = .ok (.invokevirtual 215, 3) := by decide +kernel
theorem dX7_told_87 : decode cX7_told 87 = .ok (.ireturn, 1) := by decide +kernel
theorem dX7_told_88 : decode cX7_told 88 = .ok (.aload_n 0, 1) := by decide +kernel
theorem dX7_told_89 : decode cX7_told 89 = .ok (.getfield 7, 3) := by decide +kernel
theorem dX7_told_92 : decode cX7_told 92 = .ok (.sipush 205, 3) := by decide +kernel
theorem dX7_told_95 : decode cX7_told 95 = .ok (.iaload, 1) := by decide +kernel
theorem dX7_told_96 : decode cX7_told 96 = .ok (.ireturn, 1) := by decide +kernel
theorem dX7_told_97 : decode cX7_told 97 = .ok (.iload_n 1, 1) := by decide +kernel
theorem dX7_told_98 : decode cX7_told 98 = .ok (.bipush 7, 2) := by decide +kernel
theorem dX7_told_100 : decode cX7_told 100 = .ok (.if_icmp .ge 18, 3) := by decide +kernel
theorem dX7_told_103 : decode cX7_told 103 = .ok (.aload_n 0, 1) := by decide +kernel
theorem dX7_told_104 : decode cX7_told 104 = .ok (.getfield 7, 3) := by decide +kernel
theorem dX7_told_107 : decode cX7_told 107 = .ok (.sipush 234, 3) := by decide +kernel
theorem dX7_told_110 : decode cX7_told 110 = .ok (.iload_n 1, 1) := by decide +kernel
theorem dX7_told_111 : decode cX7_told 111 = .ok (.iadd, 1) := by decide +kernel
theorem dX7_told_112 : decode cX7_told 112 = .ok (.iconst 3, 1) := by decide +kernel
theorem dX7_told_113 : decode cX7_told 113 = .ok (.isub, 1) := by decide +kernel
theorem dX7_told_114 : decode cX7_told 114 = .ok (.iaload, 1) := by decide +kernel
theorem dX7_told_115 : decode cX7_told 115 = .ok (.goto 16, 3) := by decide +kernel
theorem dX7_told_118 : decode cX7_told 118 = .ok (.aload_n 0, 1) := by decide +kernel
theorem dX7_told_119 : decode cX7_told 119 = .ok (.getfield 7, 3) := by decide +kernel
theorem dX7_told_122 : decode cX7_told 122 = .ok (.sipush 238, 3) := by decide +kernel
theorem dX7_told_125 : decode cX7_told 125 = .ok (.iload_n 1, 1) := by decide +kernel
theorem dX7_told_126 : decode cX7_told 126 = .ok (.iadd, 1) := by decide +kernel
theorem dX7_told_127 : decode cX7_told 127 = .ok (.bipush 10, 2) := by decide +kernel
theorem dX7_told_129 : decode cX7_told 129 = .ok (.isub, 1) := by decide +kernel
theorem dX7_told_130 : decode cX7_told 130 = .ok (.iaload, 1) := by decide +kernel
theorem dX7_told_131 : decode cX7_told 131 = .ok (.ireturn, 1) := by decide +kernel
theorem dX7_about_0 : decode cX7_about 0 = .ok (.aload_n 0, 1) := by decide +kernel
theorem dX7_about_1 : decode cX7_about 1 = .ok (.iload_n 1, 1) := by decide +kernel
theorem dX7_about_2 : decode cX7_about 2 = .ok (.iconst 0, 1) := by decide +kernel
theorem dX7_about_3 : decode cX7_about 3 = .ok (.bipush 13, 2) := by decide +kernel
theorem dX7_about_5 : decode cX7_about 5 = .ok (.invokestatic 40, 3) := by decide +kernel
theorem dX7_about_8 : decode cX7_about 8 = .ok (.ifCond .eq 7, 3) := by decide +kernel
theorem dX7_about_11 : decode cX7_about 11 = .ok (.iconst 0, 1) := by decide +kernel
theorem dX7_about_12 : decode cX7_about 12 = .ok (.goto 4, 3) := by decide +kernel
theorem dX7_about_15 : decode cX7_about 15 = .ok (.iconst 1, 1) := by decide +kernel
theorem dX7_about_16 : decode cX7_about 16 = .ok (.invokevirtual 174, 3) := by decide +kernel
theorem dX7_about_19 : decode cX7_about 19 = .ok (.ifCond .eq 11, 3) := by decide +kernel
theorem dX7_about_22 : decode cX7_about 22 = .ok (.aload_n 0, 1) := by decide +kernel
theorem dX7_about_23 : decode cX7_about 23 = .ok (.iload_n 1, 1) := by decide +kernel
theorem dX7_about_24 : decode cX7_about 24 = .ok (.invokevirtual 218, 3) := by decide +kernel
theorem dX7_about_27 : decode cX7_about 27 = .ok (.goto 4, 3) := by decide +kernel
theorem dX7_about_30 : decode cX7_about 30 = .ok (.iconst 0, 1) := by decide +kernel
theorem dX7_about_31 : decode cX7_about 31 = .ok (.ireturn, 1) := by decide +kernel
theorem dX7_lowestOf_0 : decode cX7_lowestOf 0 = .ok (.iconst (-1), 1) := by decide +kernel
theorem dX7_lowestOf_1 : decode cX7_lowestOf 1 = .ok (.istore_n 2, 1) := by decide +kernel
theorem dX7_lowestOf_2 : decode cX7_lowestOf 2 = .ok (.bipush 19, 2) := by decide +kernel
theorem dX7_lowestOf_4 : decode cX7_lowestOf 4 = .ok (.istore_n 3, 1) := by decide +kernel
theorem dX7_lowestOf_5 : decode cX7_lowestOf 5 = .ok (.iload_n 3, 1) := by decide +kernel
theorem dX7_lowestOf_6 : decode cX7_lowestOf 6 = .ok (.ifCond .lt 29, 3) := by decide +kernel
theorem dX7_lowestOf_9 : decode cX7_lowestOf 9 = .ok (.aload_n 0, 1) := by decide +kernel
theorem dX7_lowestOf_10 : decode cX7_lowestOf 10 = .ok (.getfield 7, 3) := by decide +kernel
theorem dX7_lowestOf_13 : decode cX7_lowestOf 13 = .ok (.iload_n 3, 1) := by decide +kernel
theorem dX7_lowestOf_14 : decode cX7_lowestOf 14 = .ok (.iconst 2, 1) := by decide +kernel
theorem dX7_lowestOf_15 : decode cX7_lowestOf 15 = .ok (.invokestatic 36, 3) := by decide +kernel
theorem dX7_lowestOf_18 : decode cX7_lowestOf 18 = .ok (.iaload, 1) := by decide +kernel
theorem dX7_lowestOf_19 : decode cX7_lowestOf 19 = .ok (.iload_n 1, 1) := by decide +kernel
theorem dX7_lowestOf_20 : decode cX7_lowestOf 20 = .ok (.if_icmp .ne 7, 3) := by decide +kernel
theorem dX7_lowestOf_23 : decode cX7_lowestOf 23 = .ok (.iload_n 3, 1) := by decide +kernel
theorem dX7_lowestOf_24 : decode cX7_lowestOf 24 = .ok (.goto 4, 3) := by decide +kernel
theorem dX7_lowestOf_27 : decode cX7_lowestOf 27 = .ok (.iload_n 2, 1) := by decide +kernel
theorem dX7_lowestOf_28 : decode cX7_lowestOf 28 = .ok (.istore_n 2, 1) := by decide +kernel
theorem dX7_lowestOf_29 : decode cX7_lowestOf 29 = .ok (.iinc 3 (-1), 3) := by decide +kernel
theorem dX7_lowestOf_32 : decode cX7_lowestOf 32 = .ok (.goto (-27), 3) := by decide +kernel
theorem dX7_lowestOf_35 : decode cX7_lowestOf 35 = .ok (.iload_n 2, 1) := by decide +kernel
theorem dX7_lowestOf_36 : decode cX7_lowestOf 36 = .ok (.ireturn, 1) := by decide +kernel
theorem dX7_bidsOf_0 : decode cX7_bidsOf 0 = .ok (.iconst 0, 1) := by decide +kernel
theorem dX7_bidsOf_1 : decode cX7_bidsOf 1 = .ok (.istore_n 2, 1) := by decide +kernel
theorem dX7_bidsOf_2 : decode cX7_bidsOf 2 = .ok (.iconst 0, 1) := by decide +kernel
theorem dX7_bidsOf_3 : decode cX7_bidsOf 3 = .ok (.istore_n 3, 1) := by decide +kernel
theorem dX7_bidsOf_4 : decode cX7_bidsOf 4 = .ok (.iload_n 3, 1) := by decide +kernel
theorem dX7_bidsOf_5 : decode cX7_bidsOf 5 = .ok (.bipush 20, 2) := by decide +kernel
theorem dX7_bidsOf_7 : decode cX7_bidsOf 7 = .ok (.if_icmp .ge 31, 3) := by decide +kernel
theorem dX7_bidsOf_10 : decode cX7_bidsOf 10 = .ok (.iload_n 2, 1) := by decide +kernel
theorem dX7_bidsOf_11 : decode cX7_bidsOf 11 = .ok (.aload_n 0, 1) := by decide +kernel
theorem dX7_bidsOf_12 : decode cX7_bidsOf 12 = .ok (.getfield 7, 3) := by decide +kernel
theorem dX7_bidsOf_15 : decode cX7_bidsOf 15 = .ok (.iload_n 1, 1) := by decide +kernel
theorem dX7_bidsOf_16 : decode cX7_bidsOf 16 = .ok (.iload_n 3, 1) := by decide +kernel
theorem dX7_bidsOf_17 : decode cX7_bidsOf 17 = .ok (.invokestatic 72, 3) := by decide +kernel
theorem dX7_bidsOf_20 : decode cX7_bidsOf 20 = .ok (.iaload, 1) := by decide +kernel
theorem dX7_bidsOf_21 : decode cX7_bidsOf 21 = .ok (.iconst (-1), 1) := by decide +kernel
theorem dX7_bidsOf_22 : decode cX7_bidsOf 22 = .ok (.if_icmp .ne 7, 3) := by decide +kernel
theorem dX7_bidsOf_25 : decode cX7_bidsOf 25 = .ok (.iconst 0, 1) := by decide +kernel
theorem dX7_bidsOf_26 : decode cX7_bidsOf 26 = .ok (.goto 4, 3) := by decide +kernel
theorem dX7_bidsOf_29 : decode cX7_bidsOf 29 = .ok (.iconst 1, 1) := by decide +kernel
theorem dX7_bidsOf_30 : decode cX7_bidsOf 30 = .ok (.iadd, 1) := by decide +kernel
theorem dX7_bidsOf_31 : decode cX7_bidsOf 31 = .ok (.istore_n 2, 1) := by decide +kernel
theorem dX7_bidsOf_32 : decode cX7_bidsOf 32 = .ok (.iinc 3 1, 3) := by decide +kernel
theorem dX7_bidsOf_35 : decode cX7_bidsOf 35 = .ok (.goto (-31), 3) := by decide +kernel
theorem dX7_bidsOf_38 : decode cX7_bidsOf 38 = .ok (.iload_n 2, 1) := by decide +kernel
theorem dX7_bidsOf_39 : decode cX7_bidsOf 39 = .ok (.ireturn, 1) := by decide +kernel
theorem dX7_ofOwner_0 : decode cX7_ofOwner 0 = .ok (.iload_n 2, 1) := by decide +kernel
theorem dX7_ofOwner_1 : decode cX7_ofOwner 1 = .ok (.tableswitch 66 2 6 #[35, 41, 41, 54, 60], 35) := by decide +kernel
theorem dX7_ofOwner_36 : decode cX7_ofOwner 36 = .ok (.aload_n 0, 1) := by decide +kernel
theorem dX7_ofOwner_37 : decode cX7_ofOwner 37 = .ok (.iload_n 1, 1) := by decide +kernel
theorem dX7_ofOwner_38 : decode cX7_ofOwner 38 = .ok (.invokevirtual 57, 3) := by decide +kernel
theorem dX7_ofOwner_41 : decode cX7_ofOwner 41 = .ok (.ireturn, 1) := by decide +kernel
theorem dX7_ofOwner_42 : decode cX7_ofOwner 42 = .ok (.aload_n 0, 1) := by decide +kernel
theorem dX7_ofOwner_43 : decode cX7_ofOwner 43 = .ok (.getfield 7, 3) := by decide +kernel
theorem dX7_ofOwner_46 : decode cX7_ofOwner 46 = .ok (.iload_n 1, 1) := by decide +kernel
theorem dX7_ofOwner_47 : decode cX7_ofOwner 47 = .ok (.iload_n 2, 1) := by decide +kernel
theorem dX7_ofOwner_48 : decode cX7_ofOwner 48 = .ok (.iconst 1, 1) := by decide +kernel
theorem dX7_ofOwner_49 : decode cX7_ofOwner 49 = .ok (.isub, 1) := by decide +kernel
theorem dX7_ofOwner_50 : decode cX7_ofOwner 50 = .ok (.invokestatic 54, 3) := by decide +kernel
theorem dX7_ofOwner_53 : decode cX7_ofOwner 53 = .ok (.iaload, 1) := by decide +kernel
theorem dX7_ofOwner_54 : decode cX7_ofOwner 54 = .ok (.ireturn, 1) := by decide +kernel
theorem dX7_ofOwner_55 : decode cX7_ofOwner 55 = .ok (.aload_n 0, 1) := by decide +kernel
theorem dX7_ofOwner_56 : decode cX7_ofOwner 56 = .ok (.iload_n 1, 1) := by decide +kernel
theorem dX7_ofOwner_57 : decode cX7_ofOwner 57 = .ok (.invokevirtual 221, 3) := by decide +kernel
theorem dX7_ofOwner_60 : decode cX7_ofOwner 60 = .ok (.ireturn, 1) := by decide +kernel
theorem dX7_ofOwner_61 : decode cX7_ofOwner 61 = .ok (.aload_n 0, 1) := by decide +kernel
theorem dX7_ofOwner_62 : decode cX7_ofOwner 62 = .ok (.iload_n 1, 1) := by decide +kernel
theorem dX7_ofOwner_63 : decode cX7_ofOwner 63 = .ok (.invokevirtual 224, 3) := by decide +kernel
theorem dX7_ofOwner_66 : decode cX7_ofOwner 66 = .ok (.ireturn, 1) := by decide +kernel
theorem dX7_ofOwner_67 : decode cX7_ofOwner 67 = .ok (.aload_n 0, 1) := by decide +kernel
theorem dX7_ofOwner_68 : decode cX7_ofOwner 68 = .ok (.getfield 7, 3) := by decide +kernel
theorem dX7_ofOwner_71 : decode cX7_ofOwner 71 = .ok (.iload_n 1, 1) := by decide +kernel
theorem dX7_ofOwner_72 : decode cX7_ofOwner 72 = .ok (.iload_n 2, 1) := by decide +kernel
theorem dX7_ofOwner_73 : decode cX7_ofOwner 73 = .ok (.invokestatic 54, 3) := by decide +kernel
theorem dX7_ofOwner_76 : decode cX7_ofOwner 76 = .ok (.iaload, 1) := by decide +kernel
theorem dX7_ofOwner_77 : decode cX7_ofOwner 77 = .ok (.ireturn, 1) := by decide +kernel
theorem dX7_ownerOf_0 : decode cX7_ownerOf 0 = .ok (.aload_n 0, 1) := by decide +kernel
theorem dX7_ownerOf_1 : decode cX7_ownerOf 1 = .ok (.aload_n 0, 1) := by decide +kernel
theorem dX7_ownerOf_2 : decode cX7_ownerOf 2 = .ok (.iload_n 1, 1) := by decide +kernel
theorem dX7_ownerOf_3 : decode cX7_ownerOf 3 = .ok (.invokevirtual 44, 3) := by decide +kernel
theorem dX7_ownerOf_6 : decode cX7_ownerOf 6 = .ok (.ifCond .ne 7, 3) := by decide +kernel
theorem dX7_ownerOf_9 : decode cX7_ownerOf 9 = .ok (.iconst 1, 1) := by decide +kernel
theorem dX7_ownerOf_10 : decode cX7_ownerOf 10 = .ok (.goto 18, 3) := by decide +kernel
theorem dX7_ownerOf_13 : decode cX7_ownerOf 13 = .ok (.iload_n 2, 1) := by decide +kernel
theorem dX7_ownerOf_14 : decode cX7_ownerOf 14 = .ok (.iconst 0, 1) := by decide +kernel
theorem dX7_ownerOf_15 : decode cX7_ownerOf 15 = .ok (.bipush 6, 2) := by decide +kernel
theorem dX7_ownerOf_17 : decode cX7_ownerOf 17 = .ok (.invokestatic 40, 3) := by decide +kernel
theorem dX7_ownerOf_20 : decode cX7_ownerOf 20 = .ok (.ifCond .eq 7, 3) := by decide +kernel
theorem dX7_ownerOf_23 : decode cX7_ownerOf 23 = .ok (.iconst 0, 1) := by decide +kernel
theorem dX7_ownerOf_24 : decode cX7_ownerOf 24 = .ok (.goto 4, 3) := by decide +kernel
theorem dX7_ownerOf_27 : decode cX7_ownerOf 27 = .ok (.iconst 2, 1) := by decide +kernel
theorem dX7_ownerOf_28 : decode cX7_ownerOf 28 = .ok (.invokevirtual 174, 3) := by decide +kernel
theorem dX7_ownerOf_31 : decode cX7_ownerOf 31 = .ok (.ifCond .eq 12, 3) := by decide +kernel
theorem dX7_ownerOf_34 : decode cX7_ownerOf 34 = .ok (.aload_n 0, 1) := by decide +kernel
theorem dX7_ownerOf_35 : decode cX7_ownerOf 35 = .ok (.iload_n 1, 1) := by decide +kernel
theorem dX7_ownerOf_36 : decode cX7_ownerOf 36 = .ok (.iload_n 2, 1) := by decide +kernel
theorem dX7_ownerOf_37 : decode cX7_ownerOf 37 = .ok (.invokevirtual 227, 3) := by decide +kernel
theorem dX7_ownerOf_40 : decode cX7_ownerOf 40 = .ok (.goto 4, 3) := by decide +kernel
theorem dX7_ownerOf_43 : decode cX7_ownerOf 43 = .ok (.iconst 0, 1) := by decide +kernel
theorem dX7_ownerOf_44 : decode cX7_ownerOf 44 = .ok (.ireturn, 1) := by decide +kernel
theorem dX7_greatestFor_0 : decode cX7_greatestFor 0 = .ok (.iconst (-1), 1) := by decide +kernel
theorem dX7_greatestFor_1 : decode cX7_greatestFor 1 = .ok (.istore_n 2, 1) := by decide +kernel
theorem dX7_greatestFor_2 : decode cX7_greatestFor 2 = .ok (.iconst 0, 1) := by decide +kernel
theorem dX7_greatestFor_3 : decode cX7_greatestFor 3 = .ok (.istore_n 3, 1) := by decide +kernel
theorem dX7_greatestFor_4 : decode cX7_greatestFor 4 = .ok (.iload_n 3, 1) := by decide +kernel
theorem dX7_greatestFor_5 : decode cX7_greatestFor 5 = .ok (.aload_n 0, 1) := by decide +kernel
theorem dX7_greatestFor_6 : decode cX7_greatestFor 6 = .ok (.getfield 7, 3) := by decide +kernel
theorem dX7_greatestFor_9 : decode cX7_greatestFor 9 = .ok (.iconst 0, 1) := by decide +kernel
theorem dX7_greatestFor_10 : decode cX7_greatestFor 10 = .ok (.iaload, 1) := by decide +kernel
theorem dX7_greatestFor_11 : decode cX7_greatestFor 11 = .ok (.if_icmp .ge 38, 3) := by decide +kernel
theorem dX7_greatestFor_14 : decode cX7_greatestFor 14 = .ok (.aload_n 0, 1) := by decide +kernel
theorem dX7_greatestFor_15 : decode cX7_greatestFor 15 = .ok (.getfield 7, 3) := by decide +kernel
theorem dX7_greatestFor_18 : decode cX7_greatestFor 18 = .ok (.iload_n 3, 1) := by decide +kernel
theorem dX7_greatestFor_19 : decode cX7_greatestFor 19 = .ok (.iload_n 1, 1) := by decide +kernel
theorem dX7_greatestFor_20 : decode cX7_greatestFor 20 = .ok (.invokestatic 72, 3) := by decide +kernel
theorem dX7_greatestFor_23 : decode cX7_greatestFor 23 = .ok (.iaload, 1) := by decide +kernel
theorem dX7_greatestFor_24 : decode cX7_greatestFor 24 = .ok (.iload_n 2, 1) := by decide +kernel
theorem dX7_greatestFor_25 : decode cX7_greatestFor 25 = .ok (.if_icmp .le 16, 3) := by decide +kernel
theorem dX7_greatestFor_28 : decode cX7_greatestFor 28 = .ok (.aload_n 0, 1) := by decide +kernel
theorem dX7_greatestFor_29 : decode cX7_greatestFor 29 = .ok (.getfield 7, 3) := by decide +kernel
theorem dX7_greatestFor_32 : decode cX7_greatestFor 32 = .ok (.iload_n 3, 1) := by decide +kernel
theorem dX7_greatestFor_33 : decode cX7_greatestFor 33 = .ok (.iload_n 1, 1) := by decide +kernel
theorem dX7_greatestFor_34 : decode cX7_greatestFor 34 = .ok (.invokestatic 72, 3) := by decide +kernel
theorem dX7_greatestFor_37 : decode cX7_greatestFor 37 = .ok (.iaload, 1) := by decide +kernel
theorem dX7_greatestFor_38 : decode cX7_greatestFor 38 = .ok (.goto 4, 3) := by decide +kernel
theorem dX7_greatestFor_41 : decode cX7_greatestFor 41 = .ok (.iload_n 2, 1) := by decide +kernel
theorem dX7_greatestFor_42 : decode cX7_greatestFor 42 = .ok (.istore_n 2, 1) := by decide +kernel
theorem dX7_greatestFor_43 : decode cX7_greatestFor 43 = .ok (.iinc 3 1, 3) := by decide +kernel
theorem dX7_greatestFor_46 : decode cX7_greatestFor 46 = .ok (.goto (-42), 3) := by decide +kernel
theorem dX7_greatestFor_49 : decode cX7_greatestFor 49 = .ok (.iload_n 2, 1) := by decide +kernel
theorem dX7_greatestFor_50 : decode cX7_greatestFor 50 = .ok (.ireturn, 1) := by decide +kernel
theorem dX7_weekOf_0 : decode cX7_weekOf 0 = .ok (.aload_n 0, 1) := by decide +kernel
theorem dX7_weekOf_1 : decode cX7_weekOf 1 = .ok (.iload_n 1, 1) := by decide +kernel
theorem dX7_weekOf_2 : decode cX7_weekOf 2 = .ok (.invokestatic 48, 3) := by decide +kernel
theorem dX7_weekOf_5 : decode cX7_weekOf 5 = .ok (.ifCond .ne 7, 3) := by decide +kernel
theorem dX7_weekOf_8 : decode cX7_weekOf 8 = .ok (.iconst 1, 1) := by decide +kernel
theorem dX7_weekOf_9 : decode cX7_weekOf 9 = .ok (.goto 17, 3) := by decide +kernel
theorem dX7_weekOf_12 : decode cX7_weekOf 12 = .ok (.iload_n 2, 1) := by decide +kernel
theorem dX7_weekOf_13 : decode cX7_weekOf 13 = .ok (.iconst 0, 1) := by decide +kernel
theorem dX7_weekOf_14 : decode cX7_weekOf 14 = .ok (.iconst 4, 1) := by decide +kernel
theorem dX7_weekOf_15 : decode cX7_weekOf 15 = .ok (.invokestatic 40, 3) := by decide +kernel
theorem dX7_weekOf_18 : decode cX7_weekOf 18 = .ok (.ifCond .eq 7, 3) := by decide +kernel
theorem dX7_weekOf_21 : decode cX7_weekOf 21 = .ok (.iconst 0, 1) := by decide +kernel
theorem dX7_weekOf_22 : decode cX7_weekOf 22 = .ok (.goto 4, 3) := by decide +kernel
theorem dX7_weekOf_25 : decode cX7_weekOf 25 = .ok (.iconst 2, 1) := by decide +kernel
theorem dX7_weekOf_26 : decode cX7_weekOf 26 = .ok (.invokevirtual 174, 3) := by decide +kernel
theorem dX7_weekOf_29 : decode cX7_weekOf 29 = .ok (.ifCond .ne 5, 3) := by decide +kernel
theorem dX7_weekOf_32 : decode cX7_weekOf 32 = .ok (.iconst 0, 1) := by decide +kernel
theorem dX7_weekOf_33 : decode cX7_weekOf 33 = .ok (.ireturn, 1) := by decide +kernel
theorem dX7_weekOf_34 : decode cX7_weekOf 34 = .ok (.iload_n 2, 1) := by decide +kernel
theorem dX7_weekOf_35 : decode cX7_weekOf 35 = .ok (.iconst 3, 1) := by decide +kernel
theorem dX7_weekOf_36 : decode cX7_weekOf 36 = .ok (.if_icmp .ge 16, 3) := by decide +kernel
theorem dX7_weekOf_39 : decode cX7_weekOf 39 = .ok (.aload_n 0, 1) := by decide +kernel
theorem dX7_weekOf_40 : decode cX7_weekOf 40 = .ok (.getfield 7, 3) := by decide +kernel
theorem dX7_weekOf_43 : decode cX7_weekOf 43 = .ok (.iload_n 1, 1) := by decide +kernel
theorem dX7_weekOf_44 : decode cX7_weekOf 44 = .ok (.iload_n 2, 1) := by decide +kernel
theorem dX7_weekOf_45 : decode cX7_weekOf 45 = .ok (.invokestatic 36, 3) := by decide +kernel
theorem dX7_weekOf_48 : decode cX7_weekOf 48 = .ok (.iaload, 1) := by decide +kernel
theorem dX7_weekOf_49 : decode cX7_weekOf 49 = .ok (.goto 21, 3) := by decide +kernel
theorem dX7_weekOf_52 : decode cX7_weekOf 52 = .ok (.iload_n 2, 1) := by decide +kernel
theorem dX7_weekOf_53 : decode cX7_weekOf 53 = .ok (.iconst 3, 1) := by decide +kernel
theorem dX7_weekOf_54 : decode cX7_weekOf 54 = .ok (.if_icmp .ne 11, 3) := by decide +kernel
theorem dX7_weekOf_57 : decode cX7_weekOf 57 = .ok (.aload_n 0, 1) := by decide +kernel
theorem dX7_weekOf_58 : decode cX7_weekOf 58 = .ok (.iload_n 1, 1) := by decide +kernel
theorem dX7_weekOf_59 : decode cX7_weekOf 59 = .ok (.invokevirtual 75, 3) := by decide +kernel
theorem dX7_weekOf_62 : decode cX7_weekOf 62 = .ok (.goto 8, 3) := by decide +kernel
theorem dX7_weekOf_65 : decode cX7_weekOf 65 = .ok (.aload_n 0, 1) := by decide +kernel
theorem dX7_weekOf_66 : decode cX7_weekOf 66 = .ok (.iload_n 1, 1) := by decide +kernel
theorem dX7_weekOf_67 : decode cX7_weekOf 67 = .ok (.invokevirtual 230, 3) := by decide +kernel
theorem dX7_weekOf_70 : decode cX7_weekOf 70 = .ok (.ireturn, 1) := by decide +kernel
theorem dX7_bidOf_0 : decode cX7_bidOf 0 = .ok (.aload_n 0, 1) := by decide +kernel
theorem dX7_bidOf_1 : decode cX7_bidOf 1 = .ok (.aload_n 0, 1) := by decide +kernel
theorem dX7_bidOf_2 : decode cX7_bidOf 2 = .ok (.iload_n 1, 1) := by decide +kernel
theorem dX7_bidOf_3 : decode cX7_bidOf 3 = .ok (.iload_n 2, 1) := by decide +kernel
theorem dX7_bidOf_4 : decode cX7_bidOf 4 = .ok (.invokevirtual 107, 3) := by decide +kernel
theorem dX7_bidOf_7 : decode cX7_bidOf 7 = .ok (.ifCond .eq 7, 3) := by decide +kernel
theorem dX7_bidOf_10 : decode cX7_bidOf 10 = .ok (.iconst 0, 1) := by decide +kernel
theorem dX7_bidOf_11 : decode cX7_bidOf 11 = .ok (.goto 4, 3) := by decide +kernel
theorem dX7_bidOf_14 : decode cX7_bidOf 14 = .ok (.iconst 1, 1) := by decide +kernel
theorem dX7_bidOf_15 : decode cX7_bidOf 15 = .ok (.invokevirtual 174, 3) := by decide +kernel
theorem dX7_bidOf_18 : decode cX7_bidOf 18 = .ok (.ifCond .eq 16, 3) := by decide +kernel
theorem dX7_bidOf_21 : decode cX7_bidOf 21 = .ok (.aload_n 0, 1) := by decide +kernel
theorem dX7_bidOf_22 : decode cX7_bidOf 22 = .ok (.getfield 7, 3) := by decide +kernel
theorem dX7_bidOf_25 : decode cX7_bidOf 25 = .ok (.iload_n 1, 1) := by decide +kernel
theorem dX7_bidOf_26 : decode cX7_bidOf 26 = .ok (.iload_n 2, 1) := by decide +kernel
theorem dX7_bidOf_27 : decode cX7_bidOf 27 = .ok (.invokestatic 72, 3) := by decide +kernel
theorem dX7_bidOf_30 : decode cX7_bidOf 30 = .ok (.iaload, 1) := by decide +kernel
theorem dX7_bidOf_31 : decode cX7_bidOf 31 = .ok (.goto 4, 3) := by decide +kernel
theorem dX7_bidOf_34 : decode cX7_bidOf 34 = .ok (.iconst 0, 1) := by decide +kernel
theorem dX7_bidOf_35 : decode cX7_bidOf 35 = .ok (.ireturn, 1) := by decide +kernel
theorem dX7_offerOf_0 : decode cX7_offerOf 0 = .ok (.aload_n 0, 1) := by decide +kernel
theorem dX7_offerOf_1 : decode cX7_offerOf 1 = .ok (.aload_n 0, 1) := by decide +kernel
theorem dX7_offerOf_2 : decode cX7_offerOf 2 = .ok (.iload_n 1, 1) := by decide +kernel
theorem dX7_offerOf_3 : decode cX7_offerOf 3 = .ok (.invokevirtual 156, 3) := by decide +kernel
theorem dX7_offerOf_6 : decode cX7_offerOf 6 = .ok (.ifCond .ne 7, 3) := by decide +kernel
theorem dX7_offerOf_9 : decode cX7_offerOf 9 = .ok (.iconst 1, 1) := by decide +kernel
theorem dX7_offerOf_10 : decode cX7_offerOf 10 = .ok (.goto 17, 3) := by decide +kernel
theorem dX7_offerOf_13 : decode cX7_offerOf 13 = .ok (.iload_n 2, 1) := by decide +kernel
theorem dX7_offerOf_14 : decode cX7_offerOf 14 = .ok (.iconst 0, 1) := by decide +kernel
theorem dX7_offerOf_15 : decode cX7_offerOf 15 = .ok (.iconst 3, 1) := by decide +kernel
theorem dX7_offerOf_16 : decode cX7_offerOf 16 = .ok (.invokestatic 40, 3) := by decide +kernel
theorem dX7_offerOf_19 : decode cX7_offerOf 19 = .ok (.ifCond .eq 7, 3) := by decide +kernel
theorem dX7_offerOf_22 : decode cX7_offerOf 22 = .ok (.iconst 0, 1) := by decide +kernel
theorem dX7_offerOf_23 : decode cX7_offerOf 23 = .ok (.goto 4, 3) := by decide +kernel
theorem dX7_offerOf_26 : decode cX7_offerOf 26 = .ok (.iconst 2, 1) := by decide +kernel
theorem dX7_offerOf_27 : decode cX7_offerOf 27 = .ok (.invokevirtual 174, 3) := by decide +kernel
theorem dX7_offerOf_30 : decode cX7_offerOf 30 = .ok (.ifCond .ne 5, 3) := by decide +kernel
theorem dX7_offerOf_33 : decode cX7_offerOf 33 = .ok (.iconst 0, 1) := by decide +kernel
theorem dX7_offerOf_34 : decode cX7_offerOf 34 = .ok (.ireturn, 1) := by decide +kernel
theorem dX7_offerOf_35 : decode cX7_offerOf 35 = .ok (.iload_n 2, 1) := by decide +kernel
theorem dX7_offerOf_36 : decode cX7_offerOf 36 = .ok (.iconst 3, 1) := by decide +kernel
theorem dX7_offerOf_37 : decode cX7_offerOf 37 = .ok (.if_icmp .ge 16, 3) := by decide +kernel
theorem dX7_offerOf_40 : decode cX7_offerOf 40 = .ok (.aload_n 0, 1) := by decide +kernel
theorem dX7_offerOf_41 : decode cX7_offerOf 41 = .ok (.getfield 7, 3) := by decide +kernel
theorem dX7_offerOf_44 : decode cX7_offerOf 44 = .ok (.iload_n 1, 1) := by decide +kernel
theorem dX7_offerOf_45 : decode cX7_offerOf 45 = .ok (.iload_n 2, 1) := by decide +kernel
theorem dX7_offerOf_46 : decode cX7_offerOf 46 = .ok (.invokestatic 91, 3) := by decide +kernel
theorem dX7_offerOf_49 : decode cX7_offerOf 49 = .ok (.iaload, 1) := by decide +kernel
theorem dX7_offerOf_50 : decode cX7_offerOf 50 = .ok (.goto 16, 3) := by decide +kernel
theorem dX7_offerOf_53 : decode cX7_offerOf 53 = .ok (.aload_n 0, 1) := by decide +kernel
theorem dX7_offerOf_54 : decode cX7_offerOf 54 = .ok (.iload_n 1, 1) := by decide +kernel
theorem dX7_offerOf_55 : decode cX7_offerOf 55 = .ok (.invokevirtual 94, 3) := by decide +kernel
theorem dX7_offerOf_58 : decode cX7_offerOf 58 = .ok (.ifCond .eq 7, 3) := by decide +kernel
theorem dX7_offerOf_61 : decode cX7_offerOf 61 = .ok (.iconst 1, 1) := by decide +kernel
theorem dX7_offerOf_62 : decode cX7_offerOf 62 = .ok (.goto 4, 3) := by decide +kernel
theorem dX7_offerOf_65 : decode cX7_offerOf 65 = .ok (.iconst 0, 1) := by decide +kernel
theorem dX7_offerOf_66 : decode cX7_offerOf 66 = .ok (.ireturn, 1) := by decide +kernel
theorem dX7_acts_0 : decode cX7_acts 0 = .ok (.aload_n 0, 1) := by decide +kernel
theorem dX7_acts_1 : decode cX7_acts 1 = .ok (.invokevirtual 233, 3) := by decide +kernel
theorem dX7_acts_4 : decode cX7_acts 4 = .ok (.aload_n 0, 1) := by decide +kernel
theorem dX7_acts_5 : decode cX7_acts 5 = .ok (.iload_n 1, 1) := by decide +kernel
theorem dX7_acts_6 : decode cX7_acts 6 = .ok (.putfield 110, 3) := by decide +kernel
theorem dX7_acts_9 : decode cX7_acts 9 = .ok (.aload_n 0, 1) := by decide +kernel
theorem dX7_acts_10 : decode cX7_acts 10 = .ok (.iload_n 2, 1) := by decide +kernel
theorem dX7_acts_11 : decode cX7_acts 11 = .ok (.putfield 113, 3) := by decide +kernel
theorem dX7_acts_14 : decode cX7_acts 14 = .ok (.aload_n 0, 1) := by decide +kernel
theorem dX7_acts_15 : decode cX7_acts 15 = .ok (.iload_n 3, 1) := by decide +kernel
theorem dX7_acts_16 : decode cX7_acts 16 = .ok (.putfield 122, 3) := by decide +kernel
theorem dX7_acts_19 : decode cX7_acts 19 = .ok (.aload_n 0, 1) := by decide +kernel
theorem dX7_acts_20 : decode cX7_acts 20 = .ok (.iload 4, 2) := by decide +kernel
theorem dX7_acts_22 : decode cX7_acts 22 = .ok (.putfield 131, 3) := by decide +kernel
theorem dX7_acts_25 : decode cX7_acts 25 = .ok (.aload_n 0, 1) := by decide +kernel
theorem dX7_acts_26 : decode cX7_acts 26 = .ok (.invokevirtual 202, 3) := by decide +kernel
theorem dX7_acts_29 : decode cX7_acts 29 = .ok (.ireturn, 1) := by decide +kernel
theorem dX7_owner_0 : decode cX7_owner 0 = .ok (.aload_n 0, 1) := by decide +kernel
theorem dX7_owner_1 : decode cX7_owner 1 = .ok (.aload_n 0, 1) := by decide +kernel
theorem dX7_owner_2 : decode cX7_owner 2 = .ok (.iload_n 1, 1) := by decide +kernel
theorem dX7_owner_3 : decode cX7_owner 3 = .ok (.invokevirtual 116, 3) := by decide +kernel
theorem dX7_owner_6 : decode cX7_owner 6 = .ok (.invokevirtual 174, 3) := by decide +kernel
theorem dX7_owner_9 : decode cX7_owner 9 = .ok (.ifCond .eq 15, 3) := by decide +kernel
theorem dX7_owner_12 : decode cX7_owner 12 = .ok (.aload_n 0, 1) := by decide +kernel
theorem dX7_owner_13 : decode cX7_owner 13 = .ok (.bipush 111, 2) := by decide +kernel
theorem dX7_owner_15 : decode cX7_owner 15 = .ok (.iload_n 1, 1) := by decide +kernel
theorem dX7_owner_16 : decode cX7_owner 16 = .ok (.iconst 0, 1) := by decide +kernel
theorem dX7_owner_17 : decode cX7_owner 17 = .ok (.iconst 0, 1) := by decide +kernel
theorem dX7_owner_18 : decode cX7_owner 18 = .ok (.invokevirtual 236, 3) := by decide +kernel
theorem dX7_owner_21 : decode cX7_owner 21 = .ok (.goto 4, 3) := by decide +kernel
theorem dX7_owner_24 : decode cX7_owner 24 = .ok (.iconst 0, 1) := by decide +kernel
theorem dX7_owner_25 : decode cX7_owner 25 = .ok (.ireturn, 1) := by decide +kernel
theorem dX7_cost_0 : decode cX7_cost 0 = .ok (.aload_n 0, 1) := by decide +kernel
theorem dX7_cost_1 : decode cX7_cost 1 = .ok (.aload_n 0, 1) := by decide +kernel
theorem dX7_cost_2 : decode cX7_cost 2 = .ok (.iload_n 1, 1) := by decide +kernel
theorem dX7_cost_3 : decode cX7_cost 3 = .ok (.iload_n 2, 1) := by decide +kernel
theorem dX7_cost_4 : decode cX7_cost 4 = .ok (.invokevirtual 125, 3) := by decide +kernel
theorem dX7_cost_7 : decode cX7_cost 7 = .ok (.invokevirtual 174, 3) := by decide +kernel
theorem dX7_cost_10 : decode cX7_cost 10 = .ok (.ifCond .eq 15, 3) := by decide +kernel
theorem dX7_cost_13 : decode cX7_cost 13 = .ok (.aload_n 0, 1) := by decide +kernel
theorem dX7_cost_14 : decode cX7_cost 14 = .ok (.bipush 107, 2) := by decide +kernel
theorem dX7_cost_16 : decode cX7_cost 16 = .ok (.iload_n 1, 1) := by decide +kernel
theorem dX7_cost_17 : decode cX7_cost 17 = .ok (.iload_n 2, 1) := by decide +kernel
theorem dX7_cost_18 : decode cX7_cost 18 = .ok (.iconst 0, 1) := by decide +kernel
theorem dX7_cost_19 : decode cX7_cost 19 = .ok (.invokevirtual 236, 3) := by decide +kernel
theorem dX7_cost_22 : decode cX7_cost 22 = .ok (.goto 4, 3) := by decide +kernel
theorem dX7_cost_25 : decode cX7_cost 25 = .ok (.iconst 0, 1) := by decide +kernel
theorem dX7_cost_26 : decode cX7_cost 26 = .ok (.ireturn, 1) := by decide +kernel
theorem dX7_school_0 : decode cX7_school 0 = .ok (.aload_n 0, 1) := by decide +kernel
theorem dX7_school_1 : decode cX7_school 1 = .ok (.iload_n 1, 1) := by decide +kernel
theorem dX7_school_2 : decode cX7_school 2 = .ok (.invokestatic 48, 3) := by decide +kernel
theorem dX7_school_5 : decode cX7_school 5 = .ok (.ifCond .eq 7, 3) := by decide +kernel
theorem dX7_school_8 : decode cX7_school 8 = .ok (.iconst 0, 1) := by decide +kernel
theorem dX7_school_9 : decode cX7_school 9 = .ok (.goto 4, 3) := by decide +kernel
theorem dX7_school_12 : decode cX7_school 12 = .ok (.iconst 1, 1) := by decide +kernel
theorem dX7_school_13 : decode cX7_school 13 = .ok (.invokevirtual 174, 3) := by decide +kernel
theorem dX7_school_16 : decode cX7_school 16 = .ok (.ifCond .ne 5, 3) := by decide +kernel
theorem dX7_school_19 : decode cX7_school 19 = .ok (.iconst 0, 1) := by decide +kernel
theorem dX7_school_20 : decode cX7_school 20 = .ok (.ireturn, 1) := by decide +kernel
theorem dX7_school_21 : decode cX7_school 21 = .ok (.aload_n 0, 1) := by decide +kernel
theorem dX7_school_22 : decode cX7_school 22 = .ok (.bipush 115, 2) := by decide +kernel
theorem dX7_school_24 : decode cX7_school 24 = .ok (.iload_n 1, 1) := by decide +kernel
theorem dX7_school_25 : decode cX7_school 25 = .ok (.iload_n 2, 1) := by decide +kernel
theorem dX7_school_26 : decode cX7_school 26 = .ok (.ifCond .eq 7, 3) := by decide +kernel
theorem dX7_school_29 : decode cX7_school 29 = .ok (.iconst 1, 1) := by decide +kernel
theorem dX7_school_30 : decode cX7_school 30 = .ok (.goto 4, 3) := by decide +kernel
theorem dX7_school_33 : decode cX7_school 33 = .ok (.iconst 0, 1) := by decide +kernel
theorem dX7_school_34 : decode cX7_school 34 = .ok (.iconst 0, 1) := by decide +kernel
theorem dX7_school_35 : decode cX7_school 35 = .ok (.invokevirtual 236, 3) := by decide +kernel
theorem dX7_school_38 : decode cX7_school 38 = .ok (.istore_n 3, 1) := by decide +kernel
theorem dX7_school_39 : decode cX7_school 39 = .ok (.aload_n 0, 1) := by decide +kernel
theorem dX7_school_40 : decode cX7_school 40 = .ok (.invokevirtual 240, 3) := by decide +kernel
theorem dX7_school_43 : decode cX7_school 43 = .ok (.ireturn, 1) := by decide +kernel
theorem dX7_take_0 : decode cX7_take 0 = .ok (.aload_n 0, 1) := by decide +kernel
theorem dX7_take_1 : decode cX7_take 1 = .ok (.aload_n 0, 1) := by decide +kernel
theorem dX7_take_2 : decode cX7_take 2 = .ok (.iload_n 1, 1) := by decide +kernel
theorem dX7_take_3 : decode cX7_take 3 = .ok (.iload_n 2, 1) := by decide +kernel
theorem dX7_take_4 : decode cX7_take 4 = .ok (.invokevirtual 107, 3) := by decide +kernel
theorem dX7_take_7 : decode cX7_take 7 = .ok (.ifCond .eq 7, 3) := by decide +kernel
theorem dX7_take_10 : decode cX7_take 10 = .ok (.iconst 0, 1) := by decide +kernel
theorem dX7_take_11 : decode cX7_take 11 = .ok (.goto 4, 3) := by decide +kernel
theorem dX7_take_14 : decode cX7_take 14 = .ok (.iconst 1, 1) := by decide +kernel
theorem dX7_take_15 : decode cX7_take 15 = .ok (.invokevirtual 174, 3) := by decide +kernel
theorem dX7_take_18 : decode cX7_take 18 = .ok (.ifCond .ne 5, 3) := by decide +kernel
theorem dX7_take_21 : decode cX7_take 21 = .ok (.iconst 0, 1) := by decide +kernel
theorem dX7_take_22 : decode cX7_take 22 = .ok (.ireturn, 1) := by decide +kernel
theorem dX7_take_23 : decode cX7_take 23 = .ok (.aload_n 0, 1) := by decide +kernel
theorem dX7_take_24 : decode cX7_take 24 = .ok (.bipush 116, 2) := by decide +kernel
theorem dX7_take_26 : decode cX7_take 26 = .ok (.iload_n 1, 1) := by decide +kernel
theorem dX7_take_27 : decode cX7_take 27 = .ok (.iload_n 2, 1) := by decide +kernel
theorem dX7_take_28 : decode cX7_take 28 = .ok (.iconst 0, 1) := by decide +kernel
theorem dX7_take_29 : decode cX7_take 29 = .ok (.invokevirtual 236, 3) := by decide +kernel
theorem dX7_take_32 : decode cX7_take 32 = .ok (.istore_n 3, 1) := by decide +kernel
theorem dX7_take_33 : decode cX7_take 33 = .ok (.aload_n 0, 1) := by decide +kernel
theorem dX7_take_34 : decode cX7_take 34 = .ok (.getfield 7, 3) := by decide +kernel
theorem dX7_take_37 : decode cX7_take 37 = .ok (.sipush 240, 3) := by decide +kernel
theorem dX7_take_40 : decode cX7_take 40 = .ok (.dup2, 1) := by decide +kernel
theorem dX7_take_41 : decode cX7_take 41 = .ok (.iaload, 1) := by decide +kernel
theorem dX7_take_42 : decode cX7_take 42 = .ok (.iload_n 3, 1) := by decide +kernel
theorem dX7_take_43 : decode cX7_take 43 = .ok (.ifCond .le 7, 3) := by decide +kernel
theorem dX7_take_46 : decode cX7_take 46 = .ok (.iconst 1, 1) := by decide +kernel
theorem dX7_take_47 : decode cX7_take 47 = .ok (.goto 4, 3) := by decide +kernel
theorem dX7_take_50 : decode cX7_take 50 = .ok (.iconst 0, 1) := by decide +kernel
theorem dX7_take_51 : decode cX7_take 51 = .ok (.iadd, 1) := by decide +kernel
theorem dX7_take_52 : decode cX7_take 52 = .ok (.iastore, 1) := by decide +kernel
theorem dX7_take_53 : decode cX7_take 53 = .ok (.iload_n 3, 1) := by decide +kernel
theorem dX7_take_54 : decode cX7_take 54 = .ok (.ireturn, 1) := by decide +kernel
theorem dX7_release_0 : decode cX7_release 0 = .ok (.aload_n 0, 1) := by decide +kernel
theorem dX7_release_1 : decode cX7_release 1 = .ok (.aload_n 0, 1) := by decide +kernel
theorem dX7_release_2 : decode cX7_release 2 = .ok (.iload_n 1, 1) := by decide +kernel
theorem dX7_release_3 : decode cX7_release 3 = .ok (.iload_n 2, 1) := by decide +kernel
theorem dX7_release_4 : decode cX7_release 4 = .ok (.invokevirtual 144, 3) := by decide +kernel
theorem dX7_release_7 : decode cX7_release 7 = .ok (.invokevirtual 174, 3) := by decide +kernel
theorem dX7_release_10 : decode cX7_release 10 = .ok (.ifCond .eq 15, 3) := by decide +kernel
theorem dX7_release_13 : decode cX7_release 13 = .ok (.aload_n 0, 1) := by decide +kernel
theorem dX7_release_14 : decode cX7_release 14 = .ok (.bipush 114, 2) := by decide +kernel
theorem dX7_release_16 : decode cX7_release 16 = .ok (.iload_n 1, 1) := by decide +kernel
theorem dX7_release_17 : decode cX7_release 17 = .ok (.iload_n 2, 1) := by decide +kernel
theorem dX7_release_18 : decode cX7_release 18 = .ok (.iconst 0, 1) := by decide +kernel
theorem dX7_release_19 : decode cX7_release 19 = .ok (.invokevirtual 236, 3) := by decide +kernel
theorem dX7_release_22 : decode cX7_release 22 = .ok (.goto 4, 3) := by decide +kernel
theorem dX7_release_25 : decode cX7_release 25 = .ok (.iconst 0, 1) := by decide +kernel
theorem dX7_release_26 : decode cX7_release 26 = .ok (.ireturn, 1) := by decide +kernel
theorem dX7_bid_0 : decode cX7_bid 0 = .ok (.aload_n 0, 1) := by decide +kernel
theorem dX7_bid_1 : decode cX7_bid 1 = .ok (.aload_n 0, 1) := by decide +kernel
theorem dX7_bid_2 : decode cX7_bid 2 = .ok (.iload_n 1, 1) := by decide +kernel
theorem dX7_bid_3 : decode cX7_bid 3 = .ok (.iload_n 2, 1) := by decide +kernel
theorem dX7_bid_4 : decode cX7_bid 4 = .ok (.iload_n 3, 1) := by decide +kernel
theorem dX7_bid_5 : decode cX7_bid 5 = .ok (.invokevirtual 134, 3) := by decide +kernel
theorem dX7_bid_8 : decode cX7_bid 8 = .ok (.invokevirtual 174, 3) := by decide +kernel
theorem dX7_bid_11 : decode cX7_bid 11 = .ok (.ifCond .eq 15, 3) := by decide +kernel
theorem dX7_bid_14 : decode cX7_bid 14 = .ok (.aload_n 0, 1) := by decide +kernel
theorem dX7_bid_15 : decode cX7_bid 15 = .ok (.bipush 98, 2) := by decide +kernel
theorem dX7_bid_17 : decode cX7_bid 17 = .ok (.iload_n 1, 1) := by decide +kernel
theorem dX7_bid_18 : decode cX7_bid 18 = .ok (.iload_n 2, 1) := by decide +kernel
theorem dX7_bid_19 : decode cX7_bid 19 = .ok (.iload_n 3, 1) := by decide +kernel
theorem dX7_bid_20 : decode cX7_bid 20 = .ok (.invokevirtual 236, 3) := by decide +kernel
theorem dX7_bid_23 : decode cX7_bid 23 = .ok (.goto 4, 3) := by decide +kernel
theorem dX7_bid_26 : decode cX7_bid 26 = .ok (.iconst 0, 1) := by decide +kernel
theorem dX7_bid_27 : decode cX7_bid 27 = .ok (.ireturn, 1) := by decide +kernel
theorem dX7_settle_0 : decode cX7_settle 0 = .ok (.aload_n 0, 1) := by decide +kernel
theorem dX7_settle_1 : decode cX7_settle 1 = .ok (.iconst 0, 1) := by decide +kernel
theorem dX7_settle_2 : decode cX7_settle 2 = .ok (.putfield 32, 3) := by decide +kernel
theorem dX7_settle_5 : decode cX7_settle 5 = .ok (.aload_n 0, 1) := by decide +kernel
theorem dX7_settle_6 : decode cX7_settle 6 = .ok (.bipush 101, 2) := by decide +kernel
theorem dX7_settle_8 : decode cX7_settle 8 = .ok (.iconst 0, 1) := by decide +kernel
theorem dX7_settle_9 : decode cX7_settle 9 = .ok (.iconst 0, 1) := by decide +kernel
theorem dX7_settle_10 : decode cX7_settle 10 = .ok (.iconst 0, 1) := by decide +kernel
theorem dX7_settle_11 : decode cX7_settle 11 = .ok (.invokevirtual 236, 3) := by decide +kernel
theorem dX7_settle_14 : decode cX7_settle 14 = .ok (.ireturn, 1) := by decide +kernel
theorem dX7_offer_0 : decode cX7_offer 0 = .ok (.aload_n 0, 1) := by decide +kernel
theorem dX7_offer_1 : decode cX7_offer 1 = .ok (.aload_n 0, 1) := by decide +kernel
theorem dX7_offer_2 : decode cX7_offer 2 = .ok (.iload_n 1, 1) := by decide +kernel
theorem dX7_offer_3 : decode cX7_offer 3 = .ok (.iload_n 2, 1) := by decide +kernel
theorem dX7_offer_4 : decode cX7_offer 4 = .ok (.iload_n 3, 1) := by decide +kernel
theorem dX7_offer_5 : decode cX7_offer 5 = .ok (.invokevirtual 150, 3) := by decide +kernel
theorem dX7_offer_8 : decode cX7_offer 8 = .ok (.invokevirtual 174, 3) := by decide +kernel
theorem dX7_offer_11 : decode cX7_offer 11 = .ok (.ifCond .eq 15, 3) := by decide +kernel
theorem dX7_offer_14 : decode cX7_offer 14 = .ok (.aload_n 0, 1) := by decide +kernel
theorem dX7_offer_15 : decode cX7_offer 15 = .ok (.bipush 102, 2) := by decide +kernel
theorem dX7_offer_17 : decode cX7_offer 17 = .ok (.iload_n 1, 1) := by decide +kernel
theorem dX7_offer_18 : decode cX7_offer 18 = .ok (.iload_n 2, 1) := by decide +kernel
theorem dX7_offer_19 : decode cX7_offer 19 = .ok (.iload_n 3, 1) := by decide +kernel
theorem dX7_offer_20 : decode cX7_offer 20 = .ok (.invokevirtual 236, 3) := by decide +kernel
theorem dX7_offer_23 : decode cX7_offer 23 = .ok (.goto 4, 3) := by decide +kernel
theorem dX7_offer_26 : decode cX7_offer 26 = .ok (.iconst 0, 1) := by decide +kernel
theorem dX7_offer_27 : decode cX7_offer 27 = .ok (.ireturn, 1) := by decide +kernel
theorem dX7_accept_0 : decode cX7_accept 0 = .ok (.aload_n 0, 1) := by decide +kernel
theorem dX7_accept_1 : decode cX7_accept 1 = .ok (.aload_n 0, 1) := by decide +kernel
theorem dX7_accept_2 : decode cX7_accept 2 = .ok (.iload_n 1, 1) := by decide +kernel
theorem dX7_accept_3 : decode cX7_accept 3 = .ok (.invokevirtual 156, 3) := by decide +kernel
theorem dX7_accept_6 : decode cX7_accept 6 = .ok (.ifCond .eq 7, 3) := by decide +kernel
theorem dX7_accept_9 : decode cX7_accept 9 = .ok (.iconst 0, 1) := by decide +kernel
theorem dX7_accept_10 : decode cX7_accept 10 = .ok (.goto 4, 3) := by decide +kernel
theorem dX7_accept_13 : decode cX7_accept 13 = .ok (.iconst 1, 1) := by decide +kernel
theorem dX7_accept_14 : decode cX7_accept 14 = .ok (.invokevirtual 174, 3) := by decide +kernel
theorem dX7_accept_17 : decode cX7_accept 17 = .ok (.ifCond .eq 15, 3) := by decide +kernel
theorem dX7_accept_20 : decode cX7_accept 20 = .ok (.aload_n 0, 1) := by decide +kernel
theorem dX7_accept_21 : decode cX7_accept 21 = .ok (.bipush 97, 2) := by decide +kernel
theorem dX7_accept_23 : decode cX7_accept 23 = .ok (.iload_n 1, 1) := by decide +kernel
theorem dX7_accept_24 : decode cX7_accept 24 = .ok (.iconst 0, 1) := by decide +kernel
theorem dX7_accept_25 : decode cX7_accept 25 = .ok (.iconst 0, 1) := by decide +kernel
theorem dX7_accept_26 : decode cX7_accept 26 = .ok (.invokevirtual 236, 3) := by decide +kernel
theorem dX7_accept_29 : decode cX7_accept 29 = .ok (.goto 4, 3) := by decide +kernel
theorem dX7_accept_32 : decode cX7_accept 32 = .ok (.iconst 0, 1) := by decide +kernel
theorem dX7_accept_33 : decode cX7_accept 33 = .ok (.ireturn, 1) := by decide +kernel
theorem dX7_upkeep_0 : decode cX7_upkeep 0 = .ok (.aload_n 0, 1) := by decide +kernel
theorem dX7_upkeep_1 : decode cX7_upkeep 1 = .ok (.aload_n 0, 1) := by decide +kernel
theorem dX7_upkeep_2 : decode cX7_upkeep 2 = .ok (.iload_n 1, 1) := by decide +kernel
theorem dX7_upkeep_3 : decode cX7_upkeep 3 = .ok (.invokevirtual 162, 3) := by decide +kernel
theorem dX7_upkeep_6 : decode cX7_upkeep 6 = .ok (.invokevirtual 174, 3) := by decide +kernel
theorem dX7_upkeep_9 : decode cX7_upkeep 9 = .ok (.ifCond .eq 15, 3) := by decide +kernel
theorem dX7_upkeep_12 : decode cX7_upkeep 12 = .ok (.aload_n 0, 1) := by decide +kernel
theorem dX7_upkeep_13 : decode cX7_upkeep 13 = .ok (.bipush 117, 2) := by decide +kernel
theorem dX7_upkeep_15 : decode cX7_upkeep 15 = .ok (.iload_n 1, 1) := by decide +kernel
theorem dX7_upkeep_16 : decode cX7_upkeep 16 = .ok (.iconst 0, 1) := by decide +kernel
theorem dX7_upkeep_17 : decode cX7_upkeep 17 = .ok (.iconst 0, 1) := by decide +kernel
theorem dX7_upkeep_18 : decode cX7_upkeep 18 = .ok (.invokevirtual 236, 3) := by decide +kernel
theorem dX7_upkeep_21 : decode cX7_upkeep 21 = .ok (.goto 4, 3) := by decide +kernel
theorem dX7_upkeep_24 : decode cX7_upkeep 24 = .ok (.iconst 0, 1) := by decide +kernel
theorem dX7_upkeep_25 : decode cX7_upkeep 25 = .ok (.ireturn, 1) := by decide +kernel
theorem dX7_year_0 : decode cX7_year 0 = .ok (.aload_n 0, 1) := by decide +kernel
theorem dX7_year_1 : decode cX7_year 1 = .ok (.iconst 0, 1) := by decide +kernel
theorem dX7_year_2 : decode cX7_year 2 = .ok (.putfield 32, 3) := by decide +kernel
theorem dX7_year_5 : decode cX7_year 5 = .ok (.aload_n 0, 1) := by decide +kernel
theorem dX7_year_6 : decode cX7_year 6 = .ok (.bipush 121, 2) := by decide +kernel
theorem dX7_year_8 : decode cX7_year 8 = .ok (.iconst 0, 1) := by decide +kernel
theorem dX7_year_9 : decode cX7_year 9 = .ok (.iconst 0, 1) := by decide +kernel
theorem dX7_year_10 : decode cX7_year 10 = .ok (.iconst 0, 1) := by decide +kernel
theorem dX7_year_11 : decode cX7_year 11 = .ok (.invokevirtual 236, 3) := by decide +kernel
theorem dX7_year_14 : decode cX7_year 14 = .ok (.ireturn, 1) := by decide +kernel
theorem dX7_isSetting_0 : decode cX7_isSetting 0 = .ok (.iload_n 0, 1) := by decide +kernel
theorem dX7_isSetting_1 : decode cX7_isSetting 1 = .ok (.ifCond .ne 13, 3) := by decide +kernel
theorem dX7_isSetting_4 : decode cX7_isSetting 4 = .ok (.iload_n 1, 1) := by decide +kernel
theorem dX7_isSetting_5 : decode cX7_isSetting 5 = .ok (.iconst 1, 1) := by decide +kernel
theorem dX7_isSetting_6 : decode cX7_isSetting 6 = .ok (.bipush 20, 2) := by decide +kernel
theorem dX7_isSetting_8 : decode cX7_isSetting 8 = .ok (.invokestatic 40, 3) := by decide +kernel
theorem dX7_isSetting_11 : decode cX7_isSetting 11 = .ok (.goto 38, 3) := by decide +kernel
theorem dX7_isSetting_14 : decode cX7_isSetting 14 = .ok (.iload_n 0, 1) := by decide +kernel
theorem dX7_isSetting_15 : decode cX7_isSetting 15 = .ok (.iconst 1, 1) := by decide +kernel
theorem dX7_isSetting_16 : decode cX7_isSetting 16 = .ok (.if_icmp .ne 13, 3) := by decide +kernel
theorem dX7_isSetting_19 : decode cX7_isSetting 19 = .ok (.iload_n 1, 1) := by decide +kernel
theorem dX7_isSetting_20 : decode cX7_isSetting 20 = .ok (.iconst 0, 1) := by decide +kernel
theorem dX7_isSetting_21 : decode cX7_isSetting 21 = .ok (.bipush 20, 2) := by decide +kernel
theorem dX7_isSetting_23 : decode cX7_isSetting 23 = .ok (.invokestatic 40, 3) := by decide +kernel
theorem dX7_isSetting_26 : decode cX7_isSetting 26 = .ok (.goto 23, 3) := by decide +kernel
theorem dX7_isSetting_29 : decode cX7_isSetting 29 = .ok (.iload_n 0, 1) := by decide +kernel
theorem dX7_isSetting_30 : decode cX7_isSetting 30 = .ok (.iconst 2, 1) := by decide +kernel
theorem dX7_isSetting_31 : decode cX7_isSetting 31 = .ok (.if_icmp .ne 17, 3) := by decide +kernel
theorem dX7_isSetting_34 : decode cX7_isSetting 34 = .ok (.iload_n 1, 1) := by decide +kernel
theorem dX7_isSetting_35 : decode cX7_isSetting 35 = .ok (.iconst 1, 1) := by decide +kernel
theorem dX7_isSetting_36 : decode cX7_isSetting 36 = .ok (.bipush 10, 2) := by decide +kernel
theorem dX7_isSetting_38 : decode cX7_isSetting 38 = .ok (.invokestatic 40, 3) := by decide +kernel
theorem dX7_isSetting_41 : decode cX7_isSetting 41 = .ok (.ifCond .eq 7, 3) := by decide +kernel
theorem dX7_isSetting_44 : decode cX7_isSetting 44 = .ok (.iconst 1, 1) := by decide +kernel
theorem dX7_isSetting_45 : decode cX7_isSetting 45 = .ok (.goto 4, 3) := by decide +kernel
theorem dX7_isSetting_48 : decode cX7_isSetting 48 = .ok (.iconst 0, 1) := by decide +kernel
theorem dX7_isSetting_49 : decode cX7_isSetting 49 = .ok (.ireturn, 1) := by decide +kernel
theorem dX7_set_0 : decode cX7_set 0 = .ok (.aload_n 0, 1) := by decide +kernel
theorem dX7_set_1 : decode cX7_set 1 = .ok (.iload_n 1, 1) := by decide +kernel
theorem dX7_set_2 : decode cX7_set 2 = .ok (.iload_n 2, 1) := by decide +kernel
theorem dX7_set_3 : decode cX7_set 3 = .ok (.invokestatic 243, 3) := by decide +kernel
theorem dX7_set_6 : decode cX7_set 6 = .ok (.ifCond .eq 7, 3) := by decide +kernel
theorem dX7_set_9 : decode cX7_set 9 = .ok (.iconst 0, 1) := by decide +kernel
theorem dX7_set_10 : decode cX7_set 10 = .ok (.goto 4, 3) := by decide +kernel
theorem dX7_set_13 : decode cX7_set 13 = .ok (.iconst 1, 1) := by decide +kernel
theorem dX7_set_14 : decode cX7_set 14 = .ok (.invokevirtual 174, 3) := by decide +kernel
theorem dX7_set_17 : decode cX7_set 17 = .ok (.ifCond .ne 5, 3) := by decide +kernel
theorem dX7_set_20 : decode cX7_set 20 = .ok (.iconst 0, 1) := by decide +kernel
theorem dX7_set_21 : decode cX7_set 21 = .ok (.ireturn, 1) := by decide +kernel
theorem dX7_set_22 : decode cX7_set 22 = .ok (.aload_n 0, 1) := by decide +kernel
theorem dX7_set_23 : decode cX7_set 23 = .ok (.invokevirtual 233, 3) := by decide +kernel
theorem dX7_set_26 : decode cX7_set 26 = .ok (.aload_n 0, 1) := by decide +kernel
theorem dX7_set_27 : decode cX7_set 27 = .ok (.sipush 231, 3) := by decide +kernel
theorem dX7_set_30 : decode cX7_set 30 = .ok (.iload_n 1, 1) := by decide +kernel
theorem dX7_set_31 : decode cX7_set 31 = .ok (.iadd, 1) := by decide +kernel
theorem dX7_set_32 : decode cX7_set 32 = .ok (.iload_n 2, 1) := by decide +kernel
theorem dX7_set_33 : decode cX7_set 33 = .ok (.invokevirtual 97, 3) := by decide +kernel
theorem dX7_set_36 : decode cX7_set 36 = .ok (.ireturn, 1) := by decide +kernel
theorem dX7_undo_0 : decode cX7_undo 0 = .ok (.aload_n 0, 1) := by decide +kernel
theorem dX7_undo_1 : decode cX7_undo 1 = .ok (.aload_n 0, 1) := by decide +kernel
theorem dX7_undo_2 : decode cX7_undo 2 = .ok (.getfield 51, 3) := by decide +kernel
theorem dX7_undo_5 : decode cX7_undo 5 = .ok (.ifCond .le 7, 3) := by decide +kernel
theorem dX7_undo_8 : decode cX7_undo 8 = .ok (.iconst 0, 1) := by decide +kernel
theorem dX7_undo_9 : decode cX7_undo 9 = .ok (.goto 4, 3) := by decide +kernel
theorem dX7_undo_12 : decode cX7_undo 12 = .ok (.iconst 1, 1) := by decide +kernel
theorem dX7_undo_13 : decode cX7_undo 13 = .ok (.invokevirtual 174, 3) := by decide +kernel
theorem dX7_undo_16 : decode cX7_undo 16 = .ok (.ifCond .ne 5, 3) := by decide +kernel
theorem dX7_undo_19 : decode cX7_undo 19 = .ok (.iconst 0, 1) := by decide +kernel
theorem dX7_undo_20 : decode cX7_undo 20 = .ok (.ireturn, 1) := by decide +kernel
theorem dX7_undo_21 : decode cX7_undo 21 = .ok (.aload_n 0, 1) := by decide +kernel
theorem dX7_undo_22 : decode cX7_undo 22 = .ok (.dup, 1) := by decide +kernel
theorem dX7_undo_23 : decode cX7_undo 23 = .ok (.getfield 51, 3) := by decide +kernel
theorem dX7_undo_26 : decode cX7_undo 26 = .ok (.iconst 1, 1) := by decide +kernel
theorem dX7_undo_27 : decode cX7_undo 27 = .ok (.isub, 1) := by decide +kernel
theorem dX7_undo_28 : decode cX7_undo 28 = .ok (.putfield 51, 3) := by decide +kernel
theorem dX7_undo_31 : decode cX7_undo 31 = .ok (.iconst 0, 1) := by decide +kernel
theorem dX7_undo_32 : decode cX7_undo 32 = .ok (.istore_n 1, 1) := by decide +kernel
theorem dX7_undo_33 : decode cX7_undo 33 = .ok (.iload_n 1, 1) := by decide +kernel
theorem dX7_undo_34 : decode cX7_undo 34 = .ok (.sipush 242, 3) := by decide +kernel
theorem dX7_undo_37 : decode cX7_undo 37 = .ok (.if_icmp .ge 30, 3) := by decide +kernel
theorem dX7_undo_40 : decode cX7_undo 40 = .ok (.aload_n 0, 1) := by decide +kernel
theorem dX7_undo_41 : decode cX7_undo 41 = .ok (.getfield 7, 3) := by decide +kernel
theorem dX7_undo_44 : decode cX7_undo 44 = .ok (.iload_n 1, 1) := by decide +kernel
theorem dX7_undo_45 : decode cX7_undo 45 = .ok (.aload_n 0, 1) := by decide +kernel
theorem dX7_undo_46 : decode cX7_undo 46 = .ok (.getfield 16, 3) := by decide +kernel
theorem dX7_undo_49 : decode cX7_undo 49 = .ok (.sipush 242, 3) := by decide +kernel
theorem dX7_undo_52 : decode cX7_undo 52 = .ok (.aload_n 0, 1) := by decide +kernel
theorem dX7_undo_53 : decode cX7_undo 53 = .ok (.getfield 51, 3) := by decide +kernel
theorem dX7_undo_56 : decode cX7_undo 56 = .ok (.imul, 1) := by decide +kernel
theorem dX7_undo_57 : decode cX7_undo 57 = .ok (.iload_n 1, 1) := by decide +kernel
theorem dX7_undo_58 : decode cX7_undo 58 = .ok (.iadd, 1) := by decide +kernel
theorem dX7_undo_59 : decode cX7_undo 59 = .ok (.iaload, 1) := by decide +kernel
theorem dX7_undo_60 : decode cX7_undo 60 = .ok (.iastore, 1) := by decide +kernel
theorem dX7_undo_61 : decode cX7_undo 61 = .ok (.iinc 1 1, 3) := by decide +kernel
theorem dX7_undo_64 : decode cX7_undo 64 = .ok (.goto (-31), 3) := by decide +kernel
theorem dX7_undo_67 : decode cX7_undo 67 = .ok (.aload_n 0, 1) := by decide +kernel
theorem dX7_undo_68 : decode cX7_undo 68 = .ok (.getfield 51, 3) := by decide +kernel
theorem dX7_undo_71 : decode cX7_undo 71 = .ok (.ireturn, 1) := by decide +kernel
theorem dX7_why_0 : decode cX7_why 0 = .ok (.aload_n 0, 1) := by decide +kernel
theorem dX7_why_1 : decode cX7_why 1 = .ok (.aload_n 0, 1) := by decide +kernel
theorem dX7_why_2 : decode cX7_why 2 = .ok (.iload_n 1, 1) := by decide +kernel
theorem dX7_why_3 : decode cX7_why 3 = .ok (.iload_n 2, 1) := by decide +kernel
theorem dX7_why_4 : decode cX7_why 4 = .ok (.invokevirtual 107, 3) := by decide +kernel
theorem dX7_why_7 : decode cX7_why 7 = .ok (.ifCond .eq 7, 3) := by decide +kernel
theorem dX7_why_10 : decode cX7_why 10 = .ok (.iconst 0, 1) := by decide +kernel
theorem dX7_why_11 : decode cX7_why 11 = .ok (.goto 4, 3) := by decide +kernel
theorem dX7_why_14 : decode cX7_why 14 = .ok (.iconst 1, 1) := by decide +kernel
theorem dX7_why_15 : decode cX7_why 15 = .ok (.invokevirtual 174, 3) := by decide +kernel
theorem dX7_why_18 : decode cX7_why 18 = .ok (.ifCond .eq 12, 3) := by decide +kernel
theorem dX7_why_21 : decode cX7_why 21 = .ok (.aload_n 0, 1) := by decide +kernel
theorem dX7_why_22 : decode cX7_why 22 = .ok (.iload_n 1, 1) := by decide +kernel
theorem dX7_why_23 : decode cX7_why 23 = .ok (.iload_n 2, 1) := by decide +kernel
theorem dX7_why_24 : decode cX7_why 24 = .ok (.invokevirtual 65, 3) := by decide +kernel
theorem dX7_why_27 : decode cX7_why 27 = .ok (.goto 4, 3) := by decide +kernel
theorem dX7_why_30 : decode cX7_why 30 = .ok (.iconst 0, 1) := by decide +kernel
theorem dX7_why_31 : decode cX7_why 31 = .ok (.ireturn, 1) := by decide +kernel
theorem dX7_mostAtOnce_0 : decode cX7_mostAtOnce 0 = .ok (.iconst 0, 1) := by decide +kernel
theorem dX7_mostAtOnce_1 : decode cX7_mostAtOnce 1 = .ok (.istore_n 1, 1) := by decide +kernel
theorem dX7_mostAtOnce_2 : decode cX7_mostAtOnce 2 = .ok (.iload_n 1, 1) := by decide +kernel
theorem dX7_mostAtOnce_3 : decode cX7_mostAtOnce 3 = .ok (.bipush 64, 2) := by decide +kernel
theorem dX7_mostAtOnce_5 : decode cX7_mostAtOnce 5 = .ok (.if_icmp .ge 24, 3) := by decide +kernel
theorem dX7_mostAtOnce_8 : decode cX7_mostAtOnce 8 = .ok (.aload_n 0, 1) := by decide +kernel
theorem dX7_mostAtOnce_9 : decode cX7_mostAtOnce 9 = .ok (.getfield 25, 3) := by decide +kernel
theorem dX7_mostAtOnce_12 : decode cX7_mostAtOnce 12 = .ok (.iload_n 1, 1) := by decide +kernel
theorem dX7_mostAtOnce_13 : decode cX7_mostAtOnce 13 = .ok (.iload_n 1, 1) := by decide +kernel
theorem dX7_mostAtOnce_14 : decode cX7_mostAtOnce 14 = .ok (.ifCond .ne 7, 3) := by decide +kernel
theorem dX7_mostAtOnce_17 : decode cX7_mostAtOnce 17 = .ok (.iconst 1, 1) := by decide +kernel
theorem dX7_mostAtOnce_18 : decode cX7_mostAtOnce 18 = .ok (.goto 4, 3) := by decide +kernel
theorem dX7_mostAtOnce_21 : decode cX7_mostAtOnce 21 = .ok (.iconst 0, 1) := by decide +kernel
theorem dX7_mostAtOnce_22 : decode cX7_mostAtOnce 22 = .ok (.bastore, 1) := by decide +kernel
theorem dX7_mostAtOnce_23 : decode cX7_mostAtOnce 23 = .ok (.iinc 1 1, 3) := by decide +kernel
theorem dX7_mostAtOnce_26 : decode cX7_mostAtOnce 26 = .ok (.goto (-24), 3) := by decide +kernel
theorem dX7_mostAtOnce_29 : decode cX7_mostAtOnce 29 = .ok (.iconst 0, 1) := by decide +kernel
theorem dX7_mostAtOnce_30 : decode cX7_mostAtOnce 30 = .ok (.istore_n 1, 1) := by decide +kernel
theorem dX7_mostAtOnce_31 : decode cX7_mostAtOnce 31 = .ok (.iload_n 1, 1) := by decide +kernel
theorem dX7_mostAtOnce_32 : decode cX7_mostAtOnce 32 = .ok (.bipush 20, 2) := by decide +kernel
theorem dX7_mostAtOnce_34 : decode cX7_mostAtOnce 34 = .ok (.if_icmp .ge 93, 3) := by decide +kernel
theorem dX7_mostAtOnce_37 : decode cX7_mostAtOnce 37 = .ok (.bipush 63, 2) := by decide +kernel
theorem dX7_mostAtOnce_39 : decode cX7_mostAtOnce 39 = .ok (.istore_n 2, 1) := by decide +kernel
theorem dX7_mostAtOnce_40 : decode cX7_mostAtOnce 40 = .ok (.iload_n 2, 1) := by decide +kernel
theorem dX7_mostAtOnce_41 : decode cX7_mostAtOnce 41 = .ok (.ifCond .lt 80, 3) := by decide +kernel
theorem dX7_mostAtOnce_44 : decode cX7_mostAtOnce 44 = .ok (.iconst 0, 1) := by decide +kernel
theorem dX7_mostAtOnce_45 : decode cX7_mostAtOnce 45 = .ok (.istore_n 3, 1) := by decide +kernel
theorem dX7_mostAtOnce_46 : decode cX7_mostAtOnce 46 = .ok (.iload_n 3, 1) := by decide +kernel
theorem dX7_mostAtOnce_47 : decode cX7_mostAtOnce 47 = .ok (.aload_n 0, 1) := by decide +kernel
theorem dX7_mostAtOnce_48 : decode cX7_mostAtOnce 48 = .ok (.getfield 7, 3) := by decide +kernel
theorem dX7_mostAtOnce_51 : decode cX7_mostAtOnce 51 = .ok (.iconst 0, 1) := by decide +kernel
theorem dX7_mostAtOnce_52 : decode cX7_mostAtOnce 52 = .ok (.iaload, 1) := by decide +kernel
theorem dX7_mostAtOnce_53 : decode cX7_mostAtOnce 53 = .ok (.if_icmp .ge 62, 3) := by decide +kernel
theorem dX7_mostAtOnce_56 : decode cX7_mostAtOnce 56 = .ok (.aload_n 0, 1) := by decide +kernel
theorem dX7_mostAtOnce_57 : decode cX7_mostAtOnce 57 = .ok (.getfield 25, 3) := by decide +kernel
theorem dX7_mostAtOnce_60 : decode cX7_mostAtOnce 60 = .ok (.iload_n 2, 1) := by decide +kernel
theorem dX7_mostAtOnce_61 : decode cX7_mostAtOnce 61 = .ok (.baload, 1) := by decide +kernel
theorem dX7_mostAtOnce_62 : decode cX7_mostAtOnce 62 = .ok (.ifCond .eq 53, 3) := by decide +kernel
theorem dX7_mostAtOnce_65 : decode cX7_mostAtOnce 65 = .ok (.iload_n 2, 1) := by decide +kernel
theorem dX7_mostAtOnce_66 : decode cX7_mostAtOnce 66 = .ok (.iload_n 3, 1) := by decide +kernel
theorem dX7_mostAtOnce_67 : decode cX7_mostAtOnce 67 = .ok (.ishr, 1) := by decide +kernel
theorem dX7_mostAtOnce_68 : decode cX7_mostAtOnce 68 = .ok (.iconst 1, 1) := by decide +kernel
theorem dX7_mostAtOnce_69 : decode cX7_mostAtOnce 69 = .ok (.iand, 1) := by decide +kernel
theorem dX7_mostAtOnce_70 : decode cX7_mostAtOnce 70 = .ok (.ifCond .ne 16, 3) := by decide +kernel
theorem dX7_mostAtOnce_73 : decode cX7_mostAtOnce 73 = .ok (.aload_n 0, 1) := by decide +kernel
theorem dX7_mostAtOnce_74 : decode cX7_mostAtOnce 74 = .ok (.iload_n 3, 1) := by decide +kernel
theorem dX7_mostAtOnce_75 : decode cX7_mostAtOnce 75 = .ok (.iload_n 1, 1) := by decide +kernel
theorem dX7_mostAtOnce_76 : decode cX7_mostAtOnce 76 = .ok (.invokevirtual 65, 3) := by decide +kernel
theorem dX7_mostAtOnce_79 : decode cX7_mostAtOnce 79 = .ok (.ifCond .ne 7, 3) := by decide +kernel
theorem dX7_mostAtOnce_82 : decode cX7_mostAtOnce 82 = .ok (.iconst 1, 1) := by decide +kernel
theorem dX7_mostAtOnce_83 : decode cX7_mostAtOnce 83 = .ok (.goto 4, 3) := by decide +kernel
theorem dX7_mostAtOnce_86 : decode cX7_mostAtOnce 86 = .ok (.iconst 0, 1) := by decide +kernel
theorem dX7_mostAtOnce_87 : decode cX7_mostAtOnce 87 = .ok (.istore 4, 2) := by decide +kernel
theorem dX7_mostAtOnce_89 : decode cX7_mostAtOnce 89 = .ok (.aload_n 0, 1) := by decide +kernel
theorem dX7_mostAtOnce_90 : decode cX7_mostAtOnce 90 = .ok (.getfield 25, 3) := by decide +kernel
theorem dX7_mostAtOnce_93 : decode cX7_mostAtOnce 93 = .ok (.iload_n 2, 1) := by decide +kernel
theorem dX7_mostAtOnce_94 : decode cX7_mostAtOnce 94 = .ok (.iload 4, 2) := by decide +kernel
theorem dX7_mostAtOnce_96 : decode cX7_mostAtOnce 96 = .ok (.ifCond .eq 9, 3) := by decide +kernel
theorem dX7_mostAtOnce_99 : decode cX7_mostAtOnce 99 = .ok (.iconst 1, 1) := by decide +kernel
theorem dX7_mostAtOnce_100 : decode cX7_mostAtOnce 100 = .ok (.iload_n 3, 1) := by decide +kernel
theorem dX7_mostAtOnce_101 : decode cX7_mostAtOnce 101 = .ok (.ishl, 1) := by decide +kernel
theorem dX7_mostAtOnce_102 : decode cX7_mostAtOnce 102 = .ok (.goto 4, 3) := by decide +kernel
theorem dX7_mostAtOnce_105 : decode cX7_mostAtOnce 105 = .ok (.iconst 0, 1) := by decide +kernel
theorem dX7_mostAtOnce_106 : decode cX7_mostAtOnce 106 = .ok (.ior, 1) := by decide +kernel
theorem dX7_mostAtOnce_107 : decode cX7_mostAtOnce 107 = .ok (.iconst 1, 1) := by decide +kernel
theorem dX7_mostAtOnce_108 : decode cX7_mostAtOnce 108 = .ok (.bastore, 1) := by decide +kernel
theorem dX7_mostAtOnce_109 : decode cX7_mostAtOnce 109 = .ok (.iinc 3 1, 3) := by decide +kernel
theorem dX7_mostAtOnce_112 : decode cX7_mostAtOnce 112 = .ok (.goto (-66), 3) := by decide +kernel
theorem dX7_mostAtOnce_115 : decode cX7_mostAtOnce 115 = .ok (.iinc 2 (-1), 3) := by decide +kernel
theorem dX7_mostAtOnce_118 : decode cX7_mostAtOnce 118 = .ok (.goto (-78), 3) := by decide +kernel
theorem dX7_mostAtOnce_121 : decode cX7_mostAtOnce 121 = .ok (.iinc 1 1, 3) := by decide +kernel
theorem dX7_mostAtOnce_124 : decode cX7_mostAtOnce 124 = .ok (.goto (-93), 3) := by decide +kernel
theorem dX7_mostAtOnce_127 : decode cX7_mostAtOnce 127 = .ok (.iconst 0, 1) := by decide +kernel
theorem dX7_mostAtOnce_128 : decode cX7_mostAtOnce 128 = .ok (.istore_n 1, 1) := by decide +kernel
theorem dX7_mostAtOnce_129 : decode cX7_mostAtOnce 129 = .ok (.iconst 0, 1) := by decide +kernel
theorem dX7_mostAtOnce_130 : decode cX7_mostAtOnce 130 = .ok (.istore_n 2, 1) := by decide +kernel
theorem dX7_mostAtOnce_131 : decode cX7_mostAtOnce 131 = .ok (.iload_n 2, 1) := by decide +kernel
theorem dX7_mostAtOnce_132 : decode cX7_mostAtOnce 132 = .ok (.bipush 64, 2) := by decide +kernel
theorem dX7_mostAtOnce_134 : decode cX7_mostAtOnce 134 = .ok (.if_icmp .ge 63, 3) := by decide +kernel
theorem dX7_mostAtOnce_137 : decode cX7_mostAtOnce 137 = .ok (.iload_n 2, 1) := by decide +kernel
theorem dX7_mostAtOnce_138 : decode cX7_mostAtOnce 138 = .ok (.iconst 1, 1) := by decide +kernel
theorem dX7_mostAtOnce_139 : decode cX7_mostAtOnce 139 = .ok (.iand, 1) := by decide +kernel
theorem dX7_mostAtOnce_140 : decode cX7_mostAtOnce 140 = .ok (.iload_n 2, 1) := by decide +kernel
theorem dX7_mostAtOnce_141 : decode cX7_mostAtOnce 141 = .ok (.iconst 1, 1) := by decide +kernel
theorem dX7_mostAtOnce_142 : decode cX7_mostAtOnce 142 = .ok (.ishr, 1) := by decide +kernel
theorem dX7_mostAtOnce_143 : decode cX7_mostAtOnce 143 = .ok (.iconst 1, 1) := by decide +kernel
theorem dX7_mostAtOnce_144 : decode cX7_mostAtOnce 144 = .ok (.iand, 1) := by decide +kernel
theorem dX7_mostAtOnce_145 : decode cX7_mostAtOnce 145 = .ok (.iadd, 1) := by decide +kernel
theorem dX7_mostAtOnce_146 : decode cX7_mostAtOnce 146 = .ok (.iload_n 2, 1) := by decide +kernel
theorem dX7_mostAtOnce_147 : decode cX7_mostAtOnce 147 = .ok (.iconst 2, 1) := by decide +kernel
theorem dX7_mostAtOnce_148 : decode cX7_mostAtOnce 148 = .ok (.ishr, 1) := by decide +kernel
theorem dX7_mostAtOnce_149 : decode cX7_mostAtOnce 149 = .ok (.iconst 1, 1) := by decide +kernel
theorem dX7_mostAtOnce_150 : decode cX7_mostAtOnce 150 = .ok (.iand, 1) := by decide +kernel
theorem dX7_mostAtOnce_151 : decode cX7_mostAtOnce 151 = .ok (.iadd, 1) := by decide +kernel
theorem dX7_mostAtOnce_152 : decode cX7_mostAtOnce 152 = .ok (.iload_n 2, 1) := by decide +kernel
theorem dX7_mostAtOnce_153 : decode cX7_mostAtOnce 153 = .ok (.iconst 3, 1) := by decide +kernel
theorem dX7_mostAtOnce_154 : decode cX7_mostAtOnce 154 = .ok (.ishr, 1) := by decide +kernel
theorem dX7_mostAtOnce_155 : decode cX7_mostAtOnce 155 = .ok (.iconst 1, 1) := by decide +kernel
theorem dX7_mostAtOnce_156 : decode cX7_mostAtOnce 156 = .ok (.iand, 1) := by decide +kernel
theorem dX7_mostAtOnce_157 : decode cX7_mostAtOnce 157 = .ok (.iadd, 1) := by decide +kernel
theorem dX7_mostAtOnce_158 : decode cX7_mostAtOnce 158 = .ok (.iload_n 2, 1) := by decide +kernel
theorem dX7_mostAtOnce_159 : decode cX7_mostAtOnce 159 = .ok (.iconst 4, 1) := by decide +kernel
theorem dX7_mostAtOnce_160 : decode cX7_mostAtOnce 160 = .ok (.ishr, 1) := by decide +kernel
theorem dX7_mostAtOnce_161 : decode cX7_mostAtOnce 161 = .ok (.iconst 1, 1) := by decide +kernel
theorem dX7_mostAtOnce_162 : decode cX7_mostAtOnce 162 = .ok (.iand, 1) := by decide +kernel
theorem dX7_mostAtOnce_163 : decode cX7_mostAtOnce 163 = .ok (.iadd, 1) := by decide +kernel
theorem dX7_mostAtOnce_164 : decode cX7_mostAtOnce 164 = .ok (.iload_n 2, 1) := by decide +kernel
theorem dX7_mostAtOnce_165 : decode cX7_mostAtOnce 165 = .ok (.iconst 5, 1) := by decide +kernel
theorem dX7_mostAtOnce_166 : decode cX7_mostAtOnce 166 = .ok (.ishr, 1) := by decide +kernel
theorem dX7_mostAtOnce_167 : decode cX7_mostAtOnce 167 = .ok (.iconst 1, 1) := by decide +kernel
theorem dX7_mostAtOnce_168 : decode cX7_mostAtOnce 168 = .ok (.iand, 1) := by decide +kernel
theorem dX7_mostAtOnce_169 : decode cX7_mostAtOnce 169 = .ok (.iadd, 1) := by decide +kernel
theorem dX7_mostAtOnce_170 : decode cX7_mostAtOnce 170 = .ok (.istore_n 3, 1) := by decide +kernel
theorem dX7_mostAtOnce_171 : decode cX7_mostAtOnce 171 = .ok (.aload_n 0, 1) := by decide +kernel
theorem dX7_mostAtOnce_172 : decode cX7_mostAtOnce 172 = .ok (.getfield 25, 3) := by decide +kernel
theorem dX7_mostAtOnce_175 : decode cX7_mostAtOnce 175 = .ok (.iload_n 2, 1) := by decide +kernel
theorem dX7_mostAtOnce_176 : decode cX7_mostAtOnce 176 = .ok (.baload, 1) := by decide +kernel
theorem dX7_mostAtOnce_177 : decode cX7_mostAtOnce 177 = .ok (.ifCond .eq 12, 3) := by decide +kernel
theorem dX7_mostAtOnce_180 : decode cX7_mostAtOnce 180 = .ok (.iload_n 3, 1) := by decide +kernel
theorem dX7_mostAtOnce_181 : decode cX7_mostAtOnce 181 = .ok (.iload_n 1, 1) := by decide +kernel
theorem dX7_mostAtOnce_182 : decode cX7_mostAtOnce 182 = .ok (.if_icmp .le 7, 3) := by decide +kernel
theorem dX7_mostAtOnce_185 : decode cX7_mostAtOnce 185 = .ok (.iload_n 3, 1) := by decide +kernel
theorem dX7_mostAtOnce_186 : decode cX7_mostAtOnce 186 = .ok (.goto 4, 3) := by decide +kernel
theorem dX7_mostAtOnce_189 : decode cX7_mostAtOnce 189 = .ok (.iload_n 1, 1) := by decide +kernel
theorem dX7_mostAtOnce_190 : decode cX7_mostAtOnce 190 = .ok (.istore_n 1, 1) := by decide +kernel
theorem dX7_mostAtOnce_191 : decode cX7_mostAtOnce 191 = .ok (.iinc 2 1, 3) := by decide +kernel
theorem dX7_mostAtOnce_194 : decode cX7_mostAtOnce 194 = .ok (.goto (-63), 3) := by decide +kernel
theorem dX7_mostAtOnce_197 : decode cX7_mostAtOnce 197 = .ok (.iload_n 1, 1) := by decide +kernel
theorem dX7_mostAtOnce_198 : decode cX7_mostAtOnce 198 = .ok (.ireturn, 1) := by decide +kernel
theorem dX7_could_0 : decode cX7_could 0 = .ok (.aload_n 0, 1) := by decide +kernel
theorem dX7_could_1 : decode cX7_could 1 = .ok (.iload_n 1, 1) := by decide +kernel
theorem dX7_could_2 : decode cX7_could 2 = .ok (.iconst 0, 1) := by decide +kernel
theorem dX7_could_3 : decode cX7_could 3 = .ok (.iconst 1, 1) := by decide +kernel
theorem dX7_could_4 : decode cX7_could 4 = .ok (.invokestatic 40, 3) := by decide +kernel
theorem dX7_could_7 : decode cX7_could 7 = .ok (.ifCond .eq 7, 3) := by decide +kernel
theorem dX7_could_10 : decode cX7_could 10 = .ok (.iconst 0, 1) := by decide +kernel
theorem dX7_could_11 : decode cX7_could 11 = .ok (.goto 4, 3) := by decide +kernel
theorem dX7_could_14 : decode cX7_could 14 = .ok (.iconst 1, 1) := by decide +kernel
theorem dX7_could_15 : decode cX7_could 15 = .ok (.invokevirtual 174, 3) := by decide +kernel
theorem dX7_could_18 : decode cX7_could 18 = .ok (.ifCond .eq 10, 3) := by decide +kernel
theorem dX7_could_21 : decode cX7_could 21 = .ok (.aload_n 0, 1) := by decide +kernel
theorem dX7_could_22 : decode cX7_could 22 = .ok (.invokevirtual 246, 3) := by decide +kernel
theorem dX7_could_25 : decode cX7_could 25 = .ok (.goto 4, 3) := by decide +kernel
theorem dX7_could_28 : decode cX7_could 28 = .ok (.iconst 0, 1) := by decide +kernel
theorem dX7_could_29 : decode cX7_could 29 = .ok (.ireturn, 1) := by decide +kernel
theorem dX7_wouldWin_0 : decode cX7_wouldWin 0 = .ok (.aload_n 0, 1) := by decide +kernel
theorem dX7_wouldWin_1 : decode cX7_wouldWin 1 = .ok (.invokevirtual 249, 3) := by decide +kernel
theorem dX7_wouldWin_4 : decode cX7_wouldWin 4 = .ok (.iconst (-1), 1) := by decide +kernel
theorem dX7_wouldWin_5 : decode cX7_wouldWin 5 = .ok (.istore_n 2, 1) := by decide +kernel
theorem dX7_wouldWin_6 : decode cX7_wouldWin 6 = .ok (.iconst 0, 1) := by decide +kernel
theorem dX7_wouldWin_7 : decode cX7_wouldWin 7 = .ok (.istore_n 3, 1) := by decide +kernel
theorem dX7_wouldWin_8 : decode cX7_wouldWin 8 = .ok (.iload_n 3, 1) := by decide +kernel
theorem dX7_wouldWin_9 : decode cX7_wouldWin 9 = .ok (.iload_n 1, 1) := by decide +kernel
theorem dX7_wouldWin_10 : decode cX7_wouldWin 10 = .ok (.if_icmp .gt 15, 3) := by decide +kernel
theorem dX7_wouldWin_13 : decode cX7_wouldWin 13 = .ok (.aload_n 0, 1) := by decide +kernel
theorem dX7_wouldWin_14 : decode cX7_wouldWin 14 = .ok (.iload_n 3, 1) := by decide +kernel
theorem dX7_wouldWin_15 : decode cX7_wouldWin 15 = .ok (.invokevirtual 85, 3) := by decide +kernel
theorem dX7_wouldWin_18 : decode cX7_wouldWin 18 = .ok (.istore_n 2, 1) := by decide +kernel
theorem dX7_wouldWin_19 : decode cX7_wouldWin 19 = .ok (.iinc 3 1, 3) := by decide +kernel
theorem dX7_wouldWin_22 : decode cX7_wouldWin 22 = .ok (.goto (-14), 3) := by decide +kernel
theorem dX7_wouldWin_25 : decode cX7_wouldWin 25 = .ok (.aload_n 0, 1) := by decide +kernel
theorem dX7_wouldWin_26 : decode cX7_wouldWin 26 = .ok (.invokevirtual 252, 3) := by decide +kernel
theorem dX7_wouldWin_29 : decode cX7_wouldWin 29 = .ok (.iload_n 2, 1) := by decide +kernel
theorem dX7_wouldWin_30 : decode cX7_wouldWin 30 = .ok (.ireturn, 1) := by decide +kernel
theorem dX7_winner_0 : decode cX7_winner 0 = .ok (.aload_n 0, 1) := by decide +kernel
theorem dX7_winner_1 : decode cX7_winner 1 = .ok (.iload_n 1, 1) := by decide +kernel
theorem dX7_winner_2 : decode cX7_winner 2 = .ok (.invokestatic 48, 3) := by decide +kernel
theorem dX7_winner_5 : decode cX7_winner 5 = .ok (.ifCond .eq 7, 3) := by decide +kernel
theorem dX7_winner_8 : decode cX7_winner 8 = .ok (.iconst 0, 1) := by decide +kernel
theorem dX7_winner_9 : decode cX7_winner 9 = .ok (.goto 4, 3) := by decide +kernel
theorem dX7_winner_12 : decode cX7_winner 12 = .ok (.iconst 1, 1) := by decide +kernel
theorem dX7_winner_13 : decode cX7_winner 13 = .ok (.invokevirtual 174, 3) := by decide +kernel
theorem dX7_winner_16 : decode cX7_winner 16 = .ok (.ifCond .eq 11, 3) := by decide +kernel
theorem dX7_winner_19 : decode cX7_winner 19 = .ok (.aload_n 0, 1) := by decide +kernel
theorem dX7_winner_20 : decode cX7_winner 20 = .ok (.iload_n 1, 1) := by decide +kernel
theorem dX7_winner_21 : decode cX7_winner 21 = .ok (.invokevirtual 255, 3) := by decide +kernel
theorem dX7_winner_24 : decode cX7_winner 24 = .ok (.goto 4, 3) := by decide +kernel
theorem dX7_winner_27 : decode cX7_winner 27 = .ok (.iconst 0, 1) := by decide +kernel
theorem dX7_winner_28 : decode cX7_winner 28 = .ok (.ireturn, 1) := by decide +kernel
theorem dX7_leastFor_0 : decode cX7_leastFor 0 = .ok (.aload_n 0, 1) := by decide +kernel
theorem dX7_leastFor_1 : decode cX7_leastFor 1 = .ok (.getfield 7, 3) := by decide +kernel
theorem dX7_leastFor_4 : decode cX7_leastFor 4 = .ok (.iload_n 1, 1) := by decide +kernel
theorem dX7_leastFor_5 : decode cX7_leastFor 5 = .ok (.iload_n 2, 1) := by decide +kernel
theorem dX7_leastFor_6 : decode cX7_leastFor 6 = .ok (.invokestatic 72, 3) := by decide +kernel
theorem dX7_leastFor_9 : decode cX7_leastFor 9 = .ok (.iaload, 1) := by decide +kernel
theorem dX7_leastFor_10 : decode cX7_leastFor 10 = .ok (.istore_n 3, 1) := by decide +kernel
theorem dX7_leastFor_11 : decode cX7_leastFor 11 = .ok (.iconst (-1), 1) := by decide +kernel
theorem dX7_leastFor_12 : decode cX7_leastFor 12 = .ok (.istore 4, 2) := by decide +kernel
theorem dX7_leastFor_14 : decode cX7_leastFor 14 = .ok (.bipush 20, 2) := by decide +kernel
theorem dX7_leastFor_16 : decode cX7_leastFor 16 = .ok (.istore 5, 2) := by decide +kernel
theorem dX7_leastFor_18 : decode cX7_leastFor 18 = .ok (.iload 5, 2) := by decide +kernel
theorem dX7_leastFor_20 : decode cX7_leastFor 20 = .ok (.ifCond .lt 61, 3) := by decide +kernel
theorem dX7_leastFor_23 : decode cX7_leastFor 23 = .ok (.aload_n 0, 1) := by decide +kernel
theorem dX7_leastFor_24 : decode cX7_leastFor 24 = .ok (.iload_n 1, 1) := by decide +kernel
theorem dX7_leastFor_25 : decode cX7_leastFor 25 = .ok (.iload_n 2, 1) := by decide +kernel
theorem dX7_leastFor_26 : decode cX7_leastFor 26 = .ok (.iload 5, 2) := by decide +kernel
theorem dX7_leastFor_28 : decode cX7_leastFor 28 = .ok (.invokevirtual 134, 3) := by decide +kernel
theorem dX7_leastFor_31 : decode cX7_leastFor 31 = .ok (.ifCond .ne 50, 3) := by decide +kernel
theorem dX7_leastFor_34 : decode cX7_leastFor 34 = .ok (.aload_n 0, 1) := by decide +kernel
theorem dX7_leastFor_35 : decode cX7_leastFor 35 = .ok (.getfield 7, 3) := by decide +kernel
theorem dX7_leastFor_38 : decode cX7_leastFor 38 = .ok (.iload_n 1, 1) := by decide +kernel
theorem dX7_leastFor_39 : decode cX7_leastFor 39 = .ok (.iload_n 2, 1) := by decide +kernel
theorem dX7_leastFor_40 : decode cX7_leastFor 40 = .ok (.invokestatic 72, 3) := by decide +kernel
theorem dX7_leastFor_43 : decode cX7_leastFor 43 = .ok (.iload 5, 2) := by decide +kernel
theorem dX7_leastFor_45 : decode cX7_leastFor 45 = .ok (.iastore, 1) := by decide +kernel
theorem dX7_leastFor_46 : decode cX7_leastFor 46 = .ok (.aload_n 0, 1) := by decide +kernel
theorem dX7_leastFor_47 : decode cX7_leastFor 47 = .ok (.iload_n 2, 1) := by decide +kernel
theorem dX7_leastFor_48 : decode cX7_leastFor 48 = .ok (.invokevirtual 255, 3) := by decide +kernel
theorem dX7_leastFor_51 : decode cX7_leastFor 51 = .ok (.iload_n 1, 1) := by decide +kernel
theorem dX7_leastFor_52 : decode cX7_leastFor 52 = .ok (.if_icmp .ne 8, 3) := by decide +kernel
theorem dX7_leastFor_55 : decode cX7_leastFor 55 = .ok (.iload 5, 2) := by decide +kernel
theorem dX7_leastFor_57 : decode cX7_leastFor 57 = .ok (.goto 5, 3) := by decide +kernel
theorem dX7_leastFor_60 : decode cX7_leastFor 60 = .ok (.iload 4, 2) := by decide +kernel
theorem dX7_leastFor_62 : decode cX7_leastFor 62 = .ok (.istore 4, 2) := by decide +kernel
theorem dX7_leastFor_64 : decode cX7_leastFor 64 = .ok (.aload_n 0, 1) := by decide +kernel
theorem dX7_leastFor_65 : decode cX7_leastFor 65 = .ok (.getfield 7, 3) := by decide +kernel
theorem dX7_leastFor_68 : decode cX7_leastFor 68 = .ok (.iload_n 1, 1) := by decide +kernel
theorem dX7_leastFor_69 : decode cX7_leastFor 69 = .ok (.iload_n 2, 1) := by decide +kernel
theorem dX7_leastFor_70 : decode cX7_leastFor 70 = .ok (.invokestatic 72, 3) := by decide +kernel
theorem dX7_leastFor_73 : decode cX7_leastFor 73 = .ok (.iload_n 3, 1) := by decide +kernel
theorem dX7_leastFor_74 : decode cX7_leastFor 74 = .ok (.iastore, 1) := by decide +kernel
theorem dX7_leastFor_75 : decode cX7_leastFor 75 = .ok (.iinc 5 (-1), 3) := by decide +kernel
theorem dX7_leastFor_78 : decode cX7_leastFor 78 = .ok (.goto (-60), 3) := by decide +kernel
theorem dX7_leastFor_81 : decode cX7_leastFor 81 = .ok (.iload 4, 2) := by decide +kernel
theorem dX7_leastFor_83 : decode cX7_leastFor 83 = .ok (.ireturn, 1) := by decide +kernel
theorem dX7_leastBid_0 : decode cX7_leastBid 0 = .ok (.aload_n 0, 1) := by decide +kernel
theorem dX7_leastBid_1 : decode cX7_leastBid 1 = .ok (.aload_n 0, 1) := by decide +kernel
theorem dX7_leastBid_2 : decode cX7_leastBid 2 = .ok (.iload_n 1, 1) := by decide +kernel
theorem dX7_leastBid_3 : decode cX7_leastBid 3 = .ok (.iload_n 2, 1) := by decide +kernel
theorem dX7_leastBid_4 : decode cX7_leastBid 4 = .ok (.invokevirtual 107, 3) := by decide +kernel
theorem dX7_leastBid_7 : decode cX7_leastBid 7 = .ok (.ifCond .eq 7, 3) := by decide +kernel
theorem dX7_leastBid_10 : decode cX7_leastBid 10 = .ok (.iconst 0, 1) := by decide +kernel
theorem dX7_leastBid_11 : decode cX7_leastBid 11 = .ok (.goto 4, 3) := by decide +kernel
theorem dX7_leastBid_14 : decode cX7_leastBid 14 = .ok (.iconst 1, 1) := by decide +kernel
theorem dX7_leastBid_15 : decode cX7_leastBid 15 = .ok (.invokevirtual 174, 3) := by decide +kernel
theorem dX7_leastBid_18 : decode cX7_leastBid 18 = .ok (.ifCond .eq 12, 3) := by decide +kernel
theorem dX7_leastBid_21 : decode cX7_leastBid 21 = .ok (.aload_n 0, 1) := by decide +kernel
theorem dX7_leastBid_22 : decode cX7_leastBid 22 = .ok (.iload_n 1, 1) := by decide +kernel
theorem dX7_leastBid_23 : decode cX7_leastBid 23 = .ok (.iload_n 2, 1) := by decide +kernel
theorem dX7_leastBid_24 : decode cX7_leastBid 24 = .ok (.invokevirtual 258, 3) := by decide +kernel
theorem dX7_leastBid_27 : decode cX7_leastBid 27 = .ok (.goto 4, 3) := by decide +kernel
theorem dX7_leastBid_30 : decode cX7_leastBid 30 = .ok (.iconst 0, 1) := by decide +kernel
theorem dX7_leastBid_31 : decode cX7_leastBid 31 = .ok (.ireturn, 1) := by decide +kernel
theorem dX7_ifUpkeep_0 : decode cX7_ifUpkeep 0 = .ok (.aload_n 0, 1) := by decide +kernel
theorem dX7_ifUpkeep_1 : decode cX7_ifUpkeep 1 = .ok (.aload_n 0, 1) := by decide +kernel
theorem dX7_ifUpkeep_2 : decode cX7_ifUpkeep 2 = .ok (.iload_n 1, 1) := by decide +kernel
theorem dX7_ifUpkeep_3 : decode cX7_ifUpkeep 3 = .ok (.invokevirtual 44, 3) := by decide +kernel
theorem dX7_ifUpkeep_6 : decode cX7_ifUpkeep 6 = .ok (.ifCond .ne 7, 3) := by decide +kernel
theorem dX7_ifUpkeep_9 : decode cX7_ifUpkeep 9 = .ok (.iconst 1, 1) := by decide +kernel
theorem dX7_ifUpkeep_10 : decode cX7_ifUpkeep 10 = .ok (.goto 19, 3) := by decide +kernel
theorem dX7_ifUpkeep_13 : decode cX7_ifUpkeep 13 = .ok (.iload_n 2, 1) := by decide +kernel
theorem dX7_ifUpkeep_14 : decode cX7_ifUpkeep 14 = .ok (.iconst 1, 1) := by decide +kernel
theorem dX7_ifUpkeep_15 : decode cX7_ifUpkeep 15 = .ok (.sipush 999, 3) := by decide +kernel
theorem dX7_ifUpkeep_18 : decode cX7_ifUpkeep 18 = .ok (.invokestatic 40, 3) := by decide +kernel
theorem dX7_ifUpkeep_21 : decode cX7_ifUpkeep 21 = .ok (.ifCond .eq 7, 3) := by decide +kernel
theorem dX7_ifUpkeep_24 : decode cX7_ifUpkeep 24 = .ok (.iconst 0, 1) := by decide +kernel
theorem dX7_ifUpkeep_25 : decode cX7_ifUpkeep 25 = .ok (.goto 4, 3) := by decide +kernel
theorem dX7_ifUpkeep_28 : decode cX7_ifUpkeep 28 = .ok (.iconst 2, 1) := by decide +kernel
theorem dX7_ifUpkeep_29 : decode cX7_ifUpkeep 29 = .ok (.invokevirtual 174, 3) := by decide +kernel
theorem dX7_ifUpkeep_32 : decode cX7_ifUpkeep 32 = .ok (.ifCond .eq 12, 3) := by decide +kernel
theorem dX7_ifUpkeep_35 : decode cX7_ifUpkeep 35 = .ok (.aload_n 0, 1) := by decide +kernel
theorem dX7_ifUpkeep_36 : decode cX7_ifUpkeep 36 = .ok (.iload_n 1, 1) := by decide +kernel
theorem dX7_ifUpkeep_37 : decode cX7_ifUpkeep 37 = .ok (.iload_n 2, 1) := by decide +kernel
theorem dX7_ifUpkeep_38 : decode cX7_ifUpkeep 38 = .ok (.invokevirtual 104, 3) := by decide +kernel
theorem dX7_ifUpkeep_41 : decode cX7_ifUpkeep 41 = .ok (.goto 4, 3) := by decide +kernel
theorem dX7_ifUpkeep_44 : decode cX7_ifUpkeep 44 = .ok (.iconst 0, 1) := by decide +kernel
theorem dX7_ifUpkeep_45 : decode cX7_ifUpkeep 45 = .ok (.ireturn, 1) := by decide +kernel
theorem dX7_digits_0 : decode cX7_digits 0 = .ok (.iload_n 0, 1) := by decide +kernel
theorem dX7_digits_1 : decode cX7_digits 1 = .ok (.iload_n 1, 1) := by decide +kernel
theorem dX7_digits_2 : decode cX7_digits 2 = .ok (.idiv, 1) := by decide +kernel
theorem dX7_digits_3 : decode cX7_digits 3 = .ok (.iload_n 2, 1) := by decide +kernel
theorem dX7_digits_4 : decode cX7_digits 4 = .ok (.irem, 1) := by decide +kernel
theorem dX7_digits_5 : decode cX7_digits 5 = .ok (.ireturn, 1) := by decide +kernel
theorem dX7_succeeds_0 : decode cX7_succeeds 0 = .ok (.aload_n 0, 1) := by decide +kernel
theorem dX7_succeeds_1 : decode cX7_succeeds 1 = .ok (.iload_n 1, 1) := by decide +kernel
theorem dX7_succeeds_2 : decode cX7_succeeds 2 = .ok (.sipush 10000, 3) := by decide +kernel
theorem dX7_succeeds_5 : decode cX7_succeeds 5 = .ok (.bipush 10, 2) := by decide +kernel
theorem dX7_succeeds_7 : decode cX7_succeeds 7 = .ok (.invokestatic 261, 3) := by decide +kernel
theorem dX7_succeeds_10 : decode cX7_succeeds 10 = .ok (.putfield 113, 3) := by decide +kernel
theorem dX7_succeeds_13 : decode cX7_succeeds 13 = .ok (.aload_n 0, 1) := by decide +kernel
theorem dX7_succeeds_14 : decode cX7_succeeds 14 = .ok (.iload_n 1, 1) := by decide +kernel
theorem dX7_succeeds_15 : decode cX7_succeeds 15 = .ok (.bipush 100, 2) := by decide +kernel
theorem dX7_succeeds_17 : decode cX7_succeeds 17 = .ok (.bipush 100, 2) := by decide +kernel
theorem dX7_succeeds_19 : decode cX7_succeeds 19 = .ok (.invokestatic 261, 3) := by decide +kernel
theorem dX7_succeeds_22 : decode cX7_succeeds 22 = .ok (.putfield 122, 3) := by decide +kernel
theorem dX7_succeeds_25 : decode cX7_succeeds 25 = .ok (.aload_n 0, 1) := by decide +kernel
theorem dX7_succeeds_26 : decode cX7_succeeds 26 = .ok (.iload_n 1, 1) := by decide +kernel
theorem dX7_succeeds_27 : decode cX7_succeeds 27 = .ok (.iconst 1, 1) := by decide +kernel
theorem dX7_succeeds_28 : decode cX7_succeeds 28 = .ok (.bipush 100, 2) := by decide +kernel
theorem dX7_succeeds_30 : decode cX7_succeeds 30 = .ok (.invokestatic 261, 3) := by decide +kernel
theorem dX7_succeeds_33 : decode cX7_succeeds 33 = .ok (.putfield 131, 3) := by decide +kernel
theorem dX7_succeeds_36 : decode cX7_succeeds 36 = .ok (.iload_n 1, 1) := by decide +kernel
theorem dX7_succeeds_37 : decode cX7_succeeds 37 = .ok (.ldc_w 264, 3) := by decide +kernel
theorem dX7_succeeds_40 : decode cX7_succeeds 40 = .ok (.idiv, 1) := by decide +kernel
theorem dX7_succeeds_41 : decode cX7_succeeds 41 = .ok (.tableswitch 341 1 9 #[51, 77, 98, 138, 166, 187, 221, 249, 293], 51) := by decide +kernel
theorem dX7_succeeds_92 : decode cX7_succeeds 92 = .ok (.aload_n 0, 1) := by decide +kernel
theorem dX7_succeeds_93 : decode cX7_succeeds 93 = .ok (.bipush 116, 2) := by decide +kernel
theorem dX7_succeeds_95 : decode cX7_succeeds 95 = .ok (.putfield 110, 3) := by decide +kernel
theorem dX7_succeeds_98 : decode cX7_succeeds 98 = .ok (.aload_n 0, 1) := by decide +kernel
theorem dX7_succeeds_99 : decode cX7_succeeds 99 = .ok (.getfield 131, 3) := by decide +kernel
theorem dX7_succeeds_102 : decode cX7_succeeds 102 = .ok (.ifCond .ne 14, 3) := by decide +kernel
theorem dX7_succeeds_105 : decode cX7_succeeds 105 = .ok (.aload_n 0, 1) := by decide +kernel
theorem dX7_succeeds_106 : decode cX7_succeeds 106 = .ok (.invokevirtual 202, 3) := by decide +kernel
theorem dX7_succeeds_109 : decode cX7_succeeds 109 = .ok (.ifCond .ne 7, 3) := by decide +kernel
theorem dX7_succeeds_112 : decode cX7_succeeds 112 = .ok (.iconst 1, 1) := by decide +kernel
theorem dX7_succeeds_113 : decode cX7_succeeds 113 = .ok (.goto 4, 3) := by decide +kernel
theorem dX7_succeeds_116 : decode cX7_succeeds 116 = .ok (.iconst 0, 1) := by decide +kernel
theorem dX7_succeeds_117 : decode cX7_succeeds 117 = .ok (.ireturn, 1) := by decide +kernel
theorem dX7_succeeds_118 : decode cX7_succeeds 118 = .ok (.aload_n 0, 1) := by decide +kernel
theorem dX7_succeeds_119 : decode cX7_succeeds 119 = .ok (.bipush 98, 2) := by decide +kernel
theorem dX7_succeeds_121 : decode cX7_succeeds 121 = .ok (.putfield 110, 3) := by decide +kernel
theorem dX7_succeeds_124 : decode cX7_succeeds 124 = .ok (.aload_n 0, 1) := by decide +kernel
theorem dX7_succeeds_125 : decode cX7_succeeds 125 = .ok (.invokevirtual 202, 3) := by decide +kernel
theorem dX7_succeeds_128 : decode cX7_succeeds 128 = .ok (.bipush (-9), 2) := by decide +kernel
theorem dX7_succeeds_130 : decode cX7_succeeds 130 = .ok (.if_icmp .eq 7, 3) := by decide +kernel
theorem dX7_succeeds_133 : decode cX7_succeeds 133 = .ok (.iconst 1, 1) := by decide +kernel
theorem dX7_succeeds_134 : decode cX7_succeeds 134 = .ok (.goto 4, 3) := by decide +kernel
theorem dX7_succeeds_137 : decode cX7_succeeds 137 = .ok (.iconst 0, 1) := by decide +kernel
theorem dX7_succeeds_138 : decode cX7_succeeds 138 = .ok (.ireturn, 1) := by decide +kernel
theorem dX7_succeeds_139 : decode cX7_succeeds 139 = .ok (.aload_n 0, 1) := by decide +kernel
theorem dX7_succeeds_140 : decode cX7_succeeds 140 = .ok (.getfield 113, 3) := by decide +kernel
theorem dX7_succeeds_143 : decode cX7_succeeds 143 = .ok (.ifCond .ne 34, 3) := by decide +kernel
theorem dX7_succeeds_146 : decode cX7_succeeds 146 = .ok (.aload_n 0, 1) := by decide +kernel
theorem dX7_succeeds_147 : decode cX7_succeeds 147 = .ok (.getfield 122, 3) := by decide +kernel
theorem dX7_succeeds_150 : decode cX7_succeeds 150 = .ok (.ifCond .ne 27, 3) := by decide +kernel
theorem dX7_succeeds_153 : decode cX7_succeeds 153 = .ok (.aload_n 0, 1) := by decide +kernel
theorem dX7_succeeds_154 : decode cX7_succeeds 154 = .ok (.getfield 131, 3) := by decide +kernel
theorem dX7_succeeds_157 : decode cX7_succeeds 157 = .ok (.bipush 10, 2) := by decide +kernel
theorem dX7_succeeds_159 : decode cX7_succeeds 159 = .ok (.if_icmp .ge 18, 3) := by decide +kernel
theorem dX7_succeeds_162 : decode cX7_succeeds 162 = .ok (.aload_n 0, 1) := by decide +kernel
theorem dX7_succeeds_163 : decode cX7_succeeds 163 = .ok (.invokevirtual 141, 3) := by decide +kernel
theorem dX7_succeeds_166 : decode cX7_succeeds 166 = .ok (.aload_n 0, 1) := by decide +kernel
theorem dX7_succeeds_167 : decode cX7_succeeds 167 = .ok (.getfield 131, 3) := by decide +kernel
theorem dX7_succeeds_170 : decode cX7_succeeds 170 = .ok (.if_icmp .lt 7, 3) := by decide +kernel
theorem dX7_succeeds_173 : decode cX7_succeeds 173 = .ok (.iconst 1, 1) := by decide +kernel
theorem dX7_succeeds_174 : decode cX7_succeeds 174 = .ok (.goto 4, 3) := by decide +kernel
theorem dX7_succeeds_177 : decode cX7_succeeds 177 = .ok (.iconst 0, 1) := by decide +kernel
theorem dX7_succeeds_178 : decode cX7_succeeds 178 = .ok (.ireturn, 1) := by decide +kernel
theorem dX7_succeeds_179 : decode cX7_succeeds 179 = .ok (.aload_n 0, 1) := by decide +kernel
theorem dX7_succeeds_180 : decode cX7_succeeds 180 = .ok (.bipush 114, 2) := by decide +kernel
theorem dX7_succeeds_182 : decode cX7_succeeds 182 = .ok (.putfield 110, 3) := by decide +kernel
theorem dX7_succeeds_185 : decode cX7_succeeds 185 = .ok (.aload_n 0, 1) := by decide +kernel
theorem dX7_succeeds_186 : decode cX7_succeeds 186 = .ok (.getfield 131, 3) := by decide +kernel
theorem dX7_succeeds_189 : decode cX7_succeeds 189 = .ok (.ifCond .ne 16, 3) := by decide +kernel
theorem dX7_succeeds_192 : decode cX7_succeeds 192 = .ok (.aload_n 0, 1) := by decide +kernel
theorem dX7_succeeds_193 : decode cX7_succeeds 193 = .ok (.invokevirtual 202, 3) := by decide +kernel
theorem dX7_succeeds_196 : decode cX7_succeeds 196 = .ok (.bipush (-9), 2) := by decide +kernel
theorem dX7_succeeds_198 : decode cX7_succeeds 198 = .ok (.if_icmp .eq 7, 3) := by decide +kernel
theorem dX7_succeeds_201 : decode cX7_succeeds 201 = .ok (.iconst 1, 1) := by decide +kernel
theorem dX7_succeeds_202 : decode cX7_succeeds 202 = .ok (.goto 4, 3) := by decide +kernel
theorem dX7_succeeds_205 : decode cX7_succeeds 205 = .ok (.iconst 0, 1) := by decide +kernel
theorem dX7_succeeds_206 : decode cX7_succeeds 206 = .ok (.ireturn, 1) := by decide +kernel
theorem dX7_succeeds_207 : decode cX7_succeeds 207 = .ok (.aload_n 0, 1) := by decide +kernel
theorem dX7_succeeds_208 : decode cX7_succeeds 208 = .ok (.bipush 102, 2) := by decide +kernel
theorem dX7_succeeds_210 : decode cX7_succeeds 210 = .ok (.putfield 110, 3) := by decide +kernel
theorem dX7_succeeds_213 : decode cX7_succeeds 213 = .ok (.aload_n 0, 1) := by decide +kernel
theorem dX7_succeeds_214 : decode cX7_succeeds 214 = .ok (.invokevirtual 202, 3) := by decide +kernel
theorem dX7_succeeds_217 : decode cX7_succeeds 217 = .ok (.bipush (-9), 2) := by decide +kernel
theorem dX7_succeeds_219 : decode cX7_succeeds 219 = .ok (.if_icmp .eq 7, 3) := by decide +kernel
theorem dX7_succeeds_222 : decode cX7_succeeds 222 = .ok (.iconst 1, 1) := by decide +kernel
theorem dX7_succeeds_223 : decode cX7_succeeds 223 = .ok (.goto 4, 3) := by decide +kernel
theorem dX7_succeeds_226 : decode cX7_succeeds 226 = .ok (.iconst 0, 1) := by decide +kernel
theorem dX7_succeeds_227 : decode cX7_succeeds 227 = .ok (.ireturn, 1) := by decide +kernel
theorem dX7_succeeds_228 : decode cX7_succeeds 228 = .ok (.aload_n 0, 1) := by decide +kernel
theorem dX7_succeeds_229 : decode cX7_succeeds 229 = .ok (.bipush 97, 2) := by decide +kernel
theorem dX7_succeeds_231 : decode cX7_succeeds 231 = .ok (.putfield 110, 3) := by decide +kernel
theorem dX7_succeeds_234 : decode cX7_succeeds 234 = .ok (.aload_n 0, 1) := by decide +kernel
theorem dX7_succeeds_235 : decode cX7_succeeds 235 = .ok (.getfield 122, 3) := by decide +kernel
theorem dX7_succeeds_238 : decode cX7_succeeds 238 = .ok (.ifCond .ne 22, 3) := by decide +kernel
theorem dX7_succeeds_241 : decode cX7_succeeds 241 = .ok (.aload_n 0, 1) := by decide +kernel
theorem dX7_succeeds_242 : decode cX7_succeeds 242 = .ok (.getfield 131, 3) := by decide +kernel
theorem dX7_succeeds_245 : decode cX7_succeeds 245 = .ok (.ifCond .ne 15, 3) := by decide +kernel
theorem dX7_succeeds_248 : decode cX7_succeeds 248 = .ok (.aload_n 0, 1) := by decide +kernel
theorem dX7_succeeds_249 : decode cX7_succeeds 249 = .ok (.invokevirtual 202, 3) := by decide +kernel
theorem dX7_succeeds_252 : decode cX7_succeeds 252 = .ok (.iconst 1, 1) := by decide +kernel
theorem dX7_succeeds_253 : decode cX7_succeeds 253 = .ok (.if_icmp .ne 7, 3) := by decide +kernel
theorem dX7_succeeds_256 : decode cX7_succeeds 256 = .ok (.iconst 1, 1) := by decide +kernel
theorem dX7_succeeds_257 : decode cX7_succeeds 257 = .ok (.goto 4, 3) := by decide +kernel
theorem dX7_succeeds_260 : decode cX7_succeeds 260 = .ok (.iconst 0, 1) := by decide +kernel
theorem dX7_succeeds_261 : decode cX7_succeeds 261 = .ok (.ireturn, 1) := by decide +kernel
theorem dX7_succeeds_262 : decode cX7_succeeds 262 = .ok (.aload_n 0, 1) := by decide +kernel
theorem dX7_succeeds_263 : decode cX7_succeeds 263 = .ok (.bipush 121, 2) := by decide +kernel
theorem dX7_succeeds_265 : decode cX7_succeeds 265 = .ok (.putfield 110, 3) := by decide +kernel
theorem dX7_succeeds_268 : decode cX7_succeeds 268 = .ok (.iload_n 1, 1) := by decide +kernel
theorem dX7_succeeds_269 : decode cX7_succeeds 269 = .ok (.ldc_w 265, 3) := by decide +kernel
theorem dX7_succeeds_272 : decode cX7_succeeds 272 = .ok (.if_icmp .ne 16, 3) := by decide +kernel
theorem dX7_succeeds_275 : decode cX7_succeeds 275 = .ok (.aload_n 0, 1) := by decide +kernel
theorem dX7_succeeds_276 : decode cX7_succeeds 276 = .ok (.invokevirtual 202, 3) := by decide +kernel
theorem dX7_succeeds_279 : decode cX7_succeeds 279 = .ok (.bipush (-9), 2) := by decide +kernel
theorem dX7_succeeds_281 : decode cX7_succeeds 281 = .ok (.if_icmp .eq 7, 3) := by decide +kernel
theorem dX7_succeeds_284 : decode cX7_succeeds 284 = .ok (.iconst 1, 1) := by decide +kernel
theorem dX7_succeeds_285 : decode cX7_succeeds 285 = .ok (.goto 4, 3) := by decide +kernel
theorem dX7_succeeds_288 : decode cX7_succeeds 288 = .ok (.iconst 0, 1) := by decide +kernel
theorem dX7_succeeds_289 : decode cX7_succeeds 289 = .ok (.ireturn, 1) := by decide +kernel
theorem dX7_succeeds_290 : decode cX7_succeeds 290 = .ok (.aload_n 0, 1) := by decide +kernel
theorem dX7_succeeds_291 : decode cX7_succeeds 291 = .ok (.getfield 122, 3) := by decide +kernel
theorem dX7_succeeds_294 : decode cX7_succeeds 294 = .ok (.ifCond .ne 38, 3) := by decide +kernel
theorem dX7_succeeds_297 : decode cX7_succeeds 297 = .ok (.aload_n 0, 1) := by decide +kernel
theorem dX7_succeeds_298 : decode cX7_succeeds 298 = .ok (.aload_n 0, 1) := by decide +kernel
theorem dX7_succeeds_299 : decode cX7_succeeds 299 = .ok (.getfield 113, 3) := by decide +kernel
theorem dX7_succeeds_302 : decode cX7_succeeds 302 = .ok (.invokevirtual 44, 3) := by decide +kernel
theorem dX7_succeeds_305 : decode cX7_succeeds 305 = .ok (.ifCond .eq 27, 3) := by decide +kernel
theorem dX7_succeeds_308 : decode cX7_succeeds 308 = .ok (.aload_n 0, 1) := by decide +kernel
theorem dX7_succeeds_309 : decode cX7_succeeds 309 = .ok (.getfield 7, 3) := by decide +kernel
theorem dX7_succeeds_312 : decode cX7_succeeds 312 = .ok (.aload_n 0, 1) := by decide +kernel
theorem dX7_succeeds_313 : decode cX7_succeeds 313 = .ok (.getfield 113, 3) := by decide +kernel
theorem dX7_succeeds_316 : decode cX7_succeeds 316 = .ok (.iconst 1, 1) := by decide +kernel
theorem dX7_succeeds_317 : decode cX7_succeeds 317 = .ok (.invokestatic 54, 3) := by decide +kernel
theorem dX7_succeeds_320 : decode cX7_succeeds 320 = .ok (.iaload, 1) := by decide +kernel
theorem dX7_succeeds_321 : decode cX7_succeeds 321 = .ok (.aload_n 0, 1) := by decide +kernel
theorem dX7_succeeds_322 : decode cX7_succeeds 322 = .ok (.getfield 131, 3) := by decide +kernel
theorem dX7_succeeds_325 : decode cX7_succeeds 325 = .ok (.if_icmp .lt 7, 3) := by decide +kernel
theorem dX7_succeeds_328 : decode cX7_succeeds 328 = .ok (.iconst 1, 1) := by decide +kernel
theorem dX7_succeeds_329 : decode cX7_succeeds 329 = .ok (.goto 4, 3) := by decide +kernel
theorem dX7_succeeds_332 : decode cX7_succeeds 332 = .ok (.iconst 0, 1) := by decide +kernel
theorem dX7_succeeds_333 : decode cX7_succeeds 333 = .ok (.ireturn, 1) := by decide +kernel
theorem dX7_succeeds_334 : decode cX7_succeeds 334 = .ok (.aload_n 0, 1) := by decide +kernel
theorem dX7_succeeds_335 : decode cX7_succeeds 335 = .ok (.getfield 131, 3) := by decide +kernel
theorem dX7_succeeds_338 : decode cX7_succeeds 338 = .ok (.ifCond .ne 42, 3) := by decide +kernel
theorem dX7_succeeds_341 : decode cX7_succeeds 341 = .ok (.aload_n 0, 1) := by decide +kernel
theorem dX7_succeeds_342 : decode cX7_succeeds 342 = .ok (.aload_n 0, 1) := by decide +kernel
theorem dX7_succeeds_343 : decode cX7_succeeds 343 = .ok (.getfield 113, 3) := by decide +kernel
theorem dX7_succeeds_346 : decode cX7_succeeds 346 = .ok (.aload_n 0, 1) := by decide +kernel
theorem dX7_succeeds_347 : decode cX7_succeeds 347 = .ok (.getfield 122, 3) := by decide +kernel
theorem dX7_succeeds_350 : decode cX7_succeeds 350 = .ok (.invokevirtual 107, 3) := by decide +kernel
theorem dX7_succeeds_353 : decode cX7_succeeds 353 = .ok (.ifCond .eq 27, 3) := by decide +kernel
theorem dX7_succeeds_356 : decode cX7_succeeds 356 = .ok (.aload_n 0, 1) := by decide +kernel
theorem dX7_succeeds_357 : decode cX7_succeeds 357 = .ok (.getfield 7, 3) := by decide +kernel
theorem dX7_succeeds_360 : decode cX7_succeeds 360 = .ok (.aload_n 0, 1) := by decide +kernel
theorem dX7_succeeds_361 : decode cX7_succeeds 361 = .ok (.getfield 122, 3) := by decide +kernel
theorem dX7_succeeds_364 : decode cX7_succeeds 364 = .ok (.iconst 2, 1) := by decide +kernel
theorem dX7_succeeds_365 : decode cX7_succeeds 365 = .ok (.invokestatic 36, 3) := by decide +kernel
theorem dX7_succeeds_368 : decode cX7_succeeds 368 = .ok (.iaload, 1) := by decide +kernel
theorem dX7_succeeds_369 : decode cX7_succeeds 369 = .ok (.aload_n 0, 1) := by decide +kernel
theorem dX7_succeeds_370 : decode cX7_succeeds 370 = .ok (.getfield 113, 3) := by decide +kernel
theorem dX7_succeeds_373 : decode cX7_succeeds 373 = .ok (.if_icmp .ne 7, 3) := by decide +kernel
theorem dX7_succeeds_376 : decode cX7_succeeds 376 = .ok (.iconst 1, 1) := by decide +kernel
theorem dX7_succeeds_377 : decode cX7_succeeds 377 = .ok (.goto 4, 3) := by decide +kernel
theorem dX7_succeeds_380 : decode cX7_succeeds 380 = .ok (.iconst 0, 1) := by decide +kernel
theorem dX7_succeeds_381 : decode cX7_succeeds 381 = .ok (.ireturn, 1) := by decide +kernel
theorem dX7_succeeds_382 : decode cX7_succeeds 382 = .ok (.iconst 0, 1) := by decide +kernel
theorem dX7_succeeds_383 : decode cX7_succeeds 383 = .ok (.ireturn, 1) := by decide +kernel
theorem dX7_runs_0 : decode cX7_runs 0 = .ok (.aload_n 0, 1) := by decide +kernel
theorem dX7_runs_1 : decode cX7_runs 1 = .ok (.invokevirtual 249, 3) := by decide +kernel
theorem dX7_runs_4 : decode cX7_runs 4 = .ok (.iconst (-1), 1) := by decide +kernel
theorem dX7_runs_5 : decode cX7_runs 5 = .ok (.istore 4, 2) := by decide +kernel
theorem dX7_runs_7 : decode cX7_runs 7 = .ok (.iconst 0, 1) := by decide +kernel
theorem dX7_runs_8 : decode cX7_runs 8 = .ok (.istore 5, 2) := by decide +kernel
theorem dX7_runs_10 : decode cX7_runs 10 = .ok (.iload 5, 2) := by decide +kernel
theorem dX7_runs_12 : decode cX7_runs 12 = .ok (.iload_n 1, 1) := by decide +kernel
theorem dX7_runs_13 : decode cX7_runs 13 = .ok (.if_icmp .ge 66, 3) := by decide +kernel
theorem dX7_runs_16 : decode cX7_runs 16 = .ok (.iload 4, 2) := by decide +kernel
theorem dX7_runs_18 : decode cX7_runs 18 = .ok (.iconst (-1), 1) := by decide +kernel
theorem dX7_runs_19 : decode cX7_runs 19 = .ok (.if_icmp .ne 60, 3) := by decide +kernel
theorem dX7_runs_22 : decode cX7_runs 22 = .ok (.lload_n 2, 1) := by decide +kernel
theorem dX7_runs_23 : decode cX7_runs 23 = .ok (.lstore 6, 2) := by decide +kernel
theorem dX7_runs_25 : decode cX7_runs 25 = .ok (.iload 5, 2) := by decide +kernel
theorem dX7_runs_27 : decode cX7_runs 27 = .ok (.iconst 1, 1) := by decide +kernel
theorem dX7_runs_28 : decode cX7_runs 28 = .ok (.iadd, 1) := by decide +kernel
theorem dX7_runs_29 : decode cX7_runs 29 = .ok (.istore 8, 2) := by decide +kernel
theorem dX7_runs_31 : decode cX7_runs 31 = .ok (.iload 8, 2) := by decide +kernel
theorem dX7_runs_33 : decode cX7_runs 33 = .ok (.iload_n 1, 1) := by decide +kernel
theorem dX7_runs_34 : decode cX7_runs 34 = .ok (.if_icmp .ge 17, 3) := by decide +kernel
theorem dX7_runs_37 : decode cX7_runs 37 = .ok (.lload 6, 2) := by decide +kernel
theorem dX7_runs_39 : decode cX7_runs 39 = .ok (.ldc2_w 266, 3) := by decide +kernel
theorem dX7_runs_42 : decode cX7_runs 42 = .ok (.ldiv, 1) := by decide +kernel
theorem dX7_runs_43 : decode cX7_runs 43 = .ok (.lstore 6, 2) := by decide +kernel
theorem dX7_runs_45 : decode cX7_runs 45 = .ok (.iinc 8 1, 3) := by decide +kernel
theorem dX7_runs_48 : decode cX7_runs 48 = .ok (.goto (-17), 3) := by decide +kernel
theorem dX7_runs_51 : decode cX7_runs 51 = .ok (.aload_n 0, 1) := by decide +kernel
theorem dX7_runs_52 : decode cX7_runs 52 = .ok (.lload 6, 2) := by decide +kernel
theorem dX7_runs_54 : decode cX7_runs 54 = .ok (.ldc2_w 266, 3) := by decide +kernel
theorem dX7_runs_57 : decode cX7_runs 57 = .ok (.lrem, 1) := by decide +kernel
theorem dX7_runs_58 : decode cX7_runs 58 = .ok (.l2i, 1) := by decide +kernel
theorem dX7_runs_59 : decode cX7_runs 59 = .ok (.invokevirtual 268, 3) := by decide +kernel
theorem dX7_runs_62 : decode cX7_runs 62 = .ok (.ifCond .eq 7, 3) := by decide +kernel
theorem dX7_runs_65 : decode cX7_runs 65 = .ok (.iconst (-1), 1) := by decide +kernel
theorem dX7_runs_66 : decode cX7_runs 66 = .ok (.goto 5, 3) := by decide +kernel
theorem dX7_runs_69 : decode cX7_runs 69 = .ok (.iload 5, 2) := by decide +kernel
theorem dX7_runs_71 : decode cX7_runs 71 = .ok (.istore 4, 2) := by decide +kernel
theorem dX7_runs_73 : decode cX7_runs 73 = .ok (.iinc 5 1, 3) := by decide +kernel
theorem dX7_runs_76 : decode cX7_runs 76 = .ok (.goto (-66), 3) := by decide +kernel
theorem dX7_runs_79 : decode cX7_runs 79 = .ok (.aload_n 0, 1) := by decide +kernel
theorem dX7_runs_80 : decode cX7_runs 80 = .ok (.invokevirtual 252, 3) := by decide +kernel
theorem dX7_runs_83 : decode cX7_runs 83 = .ok (.iload 4, 2) := by decide +kernel
theorem dX7_runs_85 : decode cX7_runs 85 = .ok (.ireturn, 1) := by decide +kernel
theorem dX7_runScript_0 : decode cX7_runScript 0 = .ok (.iload_n 1, 1) := by decide +kernel
theorem dX7_runScript_1 : decode cX7_runScript 1 = .ok (.iconst 1, 1) := by decide +kernel
theorem dX7_runScript_2 : decode cX7_runScript 2 = .ok (.if_icmp .ne 9, 3) := by decide +kernel
theorem dX7_runScript_5 : decode cX7_runScript 5 = .ok (.ldc2_w 266, 3) := by decide +kernel
theorem dX7_runScript_8 : decode cX7_runScript 8 = .ok (.goto 17, 3) := by decide +kernel
theorem dX7_runScript_11 : decode cX7_runScript 11 = .ok (.iload_n 1, 1) := by decide +kernel
theorem dX7_runScript_12 : decode cX7_runScript 12 = .ok (.iconst 2, 1) := by decide +kernel
theorem dX7_runScript_13 : decode cX7_runScript 13 = .ok (.if_icmp .ne 9, 3) := by decide +kernel
theorem dX7_runScript_16 : decode cX7_runScript 16 = .ok (.ldc2_w 271, 3) := by decide +kernel
theorem dX7_runScript_19 : decode cX7_runScript 19 = .ok (.goto 6, 3) := by decide +kernel
theorem dX7_runScript_22 : decode cX7_runScript 22 = .ok (.ldc2_w 273, 3) := by decide +kernel
theorem dX7_runScript_25 : decode cX7_runScript 25 = .ok (.lstore 4, 2) := by decide +kernel
theorem dX7_runScript_27 : decode cX7_runScript 27 = .ok (.aload_n 0, 1) := by decide +kernel
theorem dX7_runScript_28 : decode cX7_runScript 28 = .ok (.iload_n 1, 1) := by decide +kernel
theorem dX7_runScript_29 : decode cX7_runScript 29 = .ok (.iconst 1, 1) := by decide +kernel
theorem dX7_runScript_30 : decode cX7_runScript 30 = .ok (.iconst 3, 1) := by decide +kernel
theorem dX7_runScript_31 : decode cX7_runScript 31 = .ok (.invokestatic 40, 3) := by decide +kernel
theorem dX7_runScript_34 : decode cX7_runScript 34 = .ok (.ifCond .eq 20, 3) := by decide +kernel
theorem dX7_runScript_37 : decode cX7_runScript 37 = .ok (.lload_n 2, 1) := by decide +kernel
theorem dX7_runScript_38 : decode cX7_runScript 38 = .ok (.lconst 0, 1) := by decide +kernel
theorem dX7_runScript_39 : decode cX7_runScript 39 = .ok (.lcmp, 1) := by decide +kernel
theorem dX7_runScript_40 : decode cX7_runScript 40 = .ok (.ifCond .lt 14, 3) := by decide +kernel
theorem dX7_runScript_43 : decode cX7_runScript 43 = .ok (.lload_n 2, 1) := by decide +kernel
theorem dX7_runScript_44 : decode cX7_runScript 44 = .ok (.lload 4, 2) := by decide +kernel
theorem dX7_runScript_46 : decode cX7_runScript 46 = .ok (.lcmp, 1) := by decide +kernel
theorem dX7_runScript_47 : decode cX7_runScript 47 = .ok (.ifCond .ge 7, 3) := by decide +kernel
theorem dX7_runScript_50 : decode cX7_runScript 50 = .ok (.iconst 0, 1) := by decide +kernel
theorem dX7_runScript_51 : decode cX7_runScript 51 = .ok (.goto 4, 3) := by decide +kernel
theorem dX7_runScript_54 : decode cX7_runScript 54 = .ok (.iconst 1, 1) := by decide +kernel
theorem dX7_runScript_55 : decode cX7_runScript 55 = .ok (.invokevirtual 174, 3) := by decide +kernel
theorem dX7_runScript_58 : decode cX7_runScript 58 = .ok (.ifCond .eq 12, 3) := by decide +kernel
theorem dX7_runScript_61 : decode cX7_runScript 61 = .ok (.aload_n 0, 1) := by decide +kernel
theorem dX7_runScript_62 : decode cX7_runScript 62 = .ok (.iload_n 1, 1) := by decide +kernel
theorem dX7_runScript_63 : decode cX7_runScript 63 = .ok (.lload_n 2, 1) := by decide +kernel
theorem dX7_runScript_64 : decode cX7_runScript 64 = .ok (.invokevirtual 275, 3) := by decide +kernel
theorem dX7_runScript_67 : decode cX7_runScript 67 = .ok (.goto 4, 3) := by decide +kernel
theorem dX7_runScript_70 : decode cX7_runScript 70 = .ok (.iconst 0, 1) := by decide +kernel
theorem dX7_runScript_71 : decode cX7_runScript 71 = .ok (.ireturn, 1) := by decide +kernel
theorem dX7_turns_0 : decode cX7_turns 0 = .ok (.iload_n 1, 1) := by decide +kernel
theorem dX7_turns_1 : decode cX7_turns 1 = .ok (.bipush 16, 2) := by decide +kernel
theorem dX7_turns_3 : decode cX7_turns 3 = .ok (.idiv, 1) := by decide +kernel
theorem dX7_turns_4 : decode cX7_turns 4 = .ok (.istore_n 2, 1) := by decide +kernel
theorem dX7_turns_5 : decode cX7_turns 5 = .ok (.aload_n 0, 1) := by decide +kernel
theorem dX7_turns_6 : decode cX7_turns 6 = .ok (.iload_n 2, 1) := by decide +kernel
theorem dX7_turns_7 : decode cX7_turns 7 = .ok (.bipush 6, 2) := by decide +kernel
theorem dX7_turns_9 : decode cX7_turns 9 = .ok (.irem, 1) := by decide +kernel
theorem dX7_turns_10 : decode cX7_turns 10 = .ok (.putfield 113, 3) := by decide +kernel
theorem dX7_turns_13 : decode cX7_turns 13 = .ok (.aload_n 0, 1) := by decide +kernel
theorem dX7_turns_14 : decode cX7_turns 14 = .ok (.iload_n 2, 1) := by decide +kernel
theorem dX7_turns_15 : decode cX7_turns 15 = .ok (.bipush 8, 2) := by decide +kernel
theorem dX7_turns_17 : decode cX7_turns 17 = .ok (.idiv, 1) := by decide +kernel
theorem dX7_turns_18 : decode cX7_turns 18 = .ok (.bipush 20, 2) := by decide +kernel
theorem dX7_turns_20 : decode cX7_turns 20 = .ok (.irem, 1) := by decide +kernel
theorem dX7_turns_21 : decode cX7_turns 21 = .ok (.putfield 122, 3) := by decide +kernel
theorem dX7_turns_24 : decode cX7_turns 24 = .ok (.aload_n 0, 1) := by decide +kernel
theorem dX7_turns_25 : decode cX7_turns 25 = .ok (.iload_n 2, 1) := by decide +kernel
theorem dX7_turns_26 : decode cX7_turns 26 = .ok (.sipush 256, 3) := by decide +kernel
theorem dX7_turns_29 : decode cX7_turns 29 = .ok (.idiv, 1) := by decide +kernel
theorem dX7_turns_30 : decode cX7_turns 30 = .ok (.bipush 20, 2) := by decide +kernel
theorem dX7_turns_32 : decode cX7_turns 32 = .ok (.irem, 1) := by decide +kernel
theorem dX7_turns_33 : decode cX7_turns 33 = .ok (.putfield 131, 3) := by decide +kernel
theorem dX7_turns_36 : decode cX7_turns 36 = .ok (.iload_n 1, 1) := by decide +kernel
theorem dX7_turns_37 : decode cX7_turns 37 = .ok (.bipush 16, 2) := by decide +kernel
theorem dX7_turns_39 : decode cX7_turns 39 = .ok (.irem, 1) := by decide +kernel
theorem dX7_turns_40 : decode cX7_turns 40 = .ok (.tableswitch 246 0 14 #[76, 95, 125, 152, 152, 152, 152, 161, 161, 182, 191, 200, 200, 209, 226], 76) := by decide +kernel
theorem dX7_turns_116 : decode cX7_turns 116 = .ok (.aload_n 0, 1) := by decide +kernel
theorem dX7_turns_117 : decode cX7_turns 117 = .ok (.bipush 111, 2) := by decide +kernel
theorem dX7_turns_119 : decode cX7_turns 119 = .ok (.putfield 110, 3) := by decide +kernel
theorem dX7_turns_122 : decode cX7_turns 122 = .ok (.aload_n 0, 1) := by decide +kernel
theorem dX7_turns_123 : decode cX7_turns 123 = .ok (.iconst 1, 1) := by decide +kernel
theorem dX7_turns_124 : decode cX7_turns 124 = .ok (.iload_n 2, 1) := by decide +kernel
theorem dX7_turns_125 : decode cX7_turns 125 = .ok (.bipush 9, 2) := by decide +kernel
theorem dX7_turns_127 : decode cX7_turns 127 = .ok (.irem, 1) := by decide +kernel
theorem dX7_turns_128 : decode cX7_turns 128 = .ok (.iadd, 1) := by decide +kernel
theorem dX7_turns_129 : decode cX7_turns 129 = .ok (.putfield 113, 3) := by decide +kernel
theorem dX7_turns_132 : decode cX7_turns 132 = .ok (.goto 160, 3) := by decide +kernel
theorem dX7_turns_135 : decode cX7_turns 135 = .ok (.aload_n 0, 1) := by decide +kernel
theorem dX7_turns_136 : decode cX7_turns 136 = .ok (.bipush 107, 2) := by decide +kernel
theorem dX7_turns_138 : decode cX7_turns 138 = .ok (.putfield 110, 3) := by decide +kernel
theorem dX7_turns_141 : decode cX7_turns 141 = .ok (.aload_n 0, 1) := by decide +kernel
theorem dX7_turns_142 : decode cX7_turns 142 = .ok (.iload_n 2, 1) := by decide +kernel
theorem dX7_turns_143 : decode cX7_turns 143 = .ok (.bipush 20, 2) := by decide +kernel
theorem dX7_turns_145 : decode cX7_turns 145 = .ok (.irem, 1) := by decide +kernel
theorem dX7_turns_146 : decode cX7_turns 146 = .ok (.putfield 113, 3) := by decide +kernel
theorem dX7_turns_149 : decode cX7_turns 149 = .ok (.aload_n 0, 1) := by decide +kernel
theorem dX7_turns_150 : decode cX7_turns 150 = .ok (.iconst 1, 1) := by decide +kernel
theorem dX7_turns_151 : decode cX7_turns 151 = .ok (.iload_n 2, 1) := by decide +kernel
theorem dX7_turns_152 : decode cX7_turns 152 = .ok (.bipush 32, 2) := by decide +kernel
theorem dX7_turns_154 : decode cX7_turns 154 = .ok (.idiv, 1) := by decide +kernel
theorem dX7_turns_155 : decode cX7_turns 155 = .ok (.bipush 9, 2) := by decide +kernel
theorem dX7_turns_157 : decode cX7_turns 157 = .ok (.irem, 1) := by decide +kernel
theorem dX7_turns_158 : decode cX7_turns 158 = .ok (.iadd, 1) := by decide +kernel
theorem dX7_turns_159 : decode cX7_turns 159 = .ok (.putfield 122, 3) := by decide +kernel
theorem dX7_turns_162 : decode cX7_turns 162 = .ok (.goto 130, 3) := by decide +kernel
theorem dX7_turns_165 : decode cX7_turns 165 = .ok (.aload_n 0, 1) := by decide +kernel
theorem dX7_turns_166 : decode cX7_turns 166 = .ok (.bipush 115, 2) := by decide +kernel
theorem dX7_turns_168 : decode cX7_turns 168 = .ok (.putfield 110, 3) := by decide +kernel
theorem dX7_turns_171 : decode cX7_turns 171 = .ok (.aload_n 0, 1) := by decide +kernel
theorem dX7_turns_172 : decode cX7_turns 172 = .ok (.iload_n 2, 1) := by decide +kernel
theorem dX7_turns_173 : decode cX7_turns 173 = .ok (.bipush 20, 2) := by decide +kernel
theorem dX7_turns_175 : decode cX7_turns 175 = .ok (.irem, 1) := by decide +kernel
theorem dX7_turns_176 : decode cX7_turns 176 = .ok (.putfield 113, 3) := by decide +kernel
theorem dX7_turns_179 : decode cX7_turns 179 = .ok (.aload_n 0, 1) := by decide +kernel
theorem dX7_turns_180 : decode cX7_turns 180 = .ok (.iload_n 2, 1) := by decide +kernel
theorem dX7_turns_181 : decode cX7_turns 181 = .ok (.bipush 32, 2) := by decide +kernel
theorem dX7_turns_183 : decode cX7_turns 183 = .ok (.idiv, 1) := by decide +kernel
theorem dX7_turns_184 : decode cX7_turns 184 = .ok (.iconst 2, 1) := by decide +kernel
theorem dX7_turns_185 : decode cX7_turns 185 = .ok (.irem, 1) := by decide +kernel
theorem dX7_turns_186 : decode cX7_turns 186 = .ok (.putfield 122, 3) := by decide +kernel
theorem dX7_turns_189 : decode cX7_turns 189 = .ok (.goto 103, 3) := by decide +kernel
theorem dX7_turns_192 : decode cX7_turns 192 = .ok (.aload_n 0, 1) := by decide +kernel
theorem dX7_turns_193 : decode cX7_turns 193 = .ok (.bipush 116, 2) := by decide +kernel
theorem dX7_turns_195 : decode cX7_turns 195 = .ok (.putfield 110, 3) := by decide +kernel
theorem dX7_turns_198 : decode cX7_turns 198 = .ok (.goto 94, 3) := by decide +kernel
theorem dX7_turns_201 : decode cX7_turns 201 = .ok (.aload_n 0, 1) := by decide +kernel
theorem dX7_turns_202 : decode cX7_turns 202 = .ok (.bipush 98, 2) := by decide +kernel
theorem dX7_turns_204 : decode cX7_turns 204 = .ok (.putfield 110, 3) := by decide +kernel
theorem dX7_turns_207 : decode cX7_turns 207 = .ok (.aload_n 0, 1) := by decide +kernel
theorem dX7_turns_208 : decode cX7_turns 208 = .ok (.iload_n 2, 1) := by decide +kernel
theorem dX7_turns_209 : decode cX7_turns 209 = .ok (.sipush 256, 3) := by decide +kernel
theorem dX7_turns_212 : decode cX7_turns 212 = .ok (.idiv, 1) := by decide +kernel
theorem dX7_turns_213 : decode cX7_turns 213 = .ok (.bipush 21, 2) := by decide +kernel
theorem dX7_turns_215 : decode cX7_turns 215 = .ok (.irem, 1) := by decide +kernel
theorem dX7_turns_216 : decode cX7_turns 216 = .ok (.putfield 131, 3) := by decide +kernel
theorem dX7_turns_219 : decode cX7_turns 219 = .ok (.goto 73, 3) := by decide +kernel
theorem dX7_turns_222 : decode cX7_turns 222 = .ok (.aload_n 0, 1) := by decide +kernel
theorem dX7_turns_223 : decode cX7_turns 223 = .ok (.bipush 101, 2) := by decide +kernel
theorem dX7_turns_225 : decode cX7_turns 225 = .ok (.putfield 110, 3) := by decide +kernel
theorem dX7_turns_228 : decode cX7_turns 228 = .ok (.goto 64, 3) := by decide +kernel
theorem dX7_turns_231 : decode cX7_turns 231 = .ok (.aload_n 0, 1) := by decide +kernel
theorem dX7_turns_232 : decode cX7_turns 232 = .ok (.bipush 114, 2) := by decide +kernel
theorem dX7_turns_234 : decode cX7_turns 234 = .ok (.putfield 110, 3) := by decide +kernel
theorem dX7_turns_237 : decode cX7_turns 237 = .ok (.goto 55, 3) := by decide +kernel
theorem dX7_turns_240 : decode cX7_turns 240 = .ok (.aload_n 0, 1) := by decide +kernel
theorem dX7_turns_241 : decode cX7_turns 241 = .ok (.bipush 102, 2) := by decide +kernel
theorem dX7_turns_243 : decode cX7_turns 243 = .ok (.putfield 110, 3) := by decide +kernel
theorem dX7_turns_246 : decode cX7_turns 246 = .ok (.goto 46, 3) := by decide +kernel
theorem dX7_turns_249 : decode cX7_turns 249 = .ok (.aload_n 0, 1) := by decide +kernel
theorem dX7_turns_250 : decode cX7_turns 250 = .ok (.bipush 97, 2) := by decide +kernel
theorem dX7_turns_252 : decode cX7_turns 252 = .ok (.putfield 110, 3) := by decide +kernel
theorem dX7_turns_255 : decode cX7_turns 255 = .ok (.aload_n 0, 1) := by decide +kernel
theorem dX7_turns_256 : decode cX7_turns 256 = .ok (.iload_n 2, 1) := by decide +kernel
theorem dX7_turns_257 : decode cX7_turns 257 = .ok (.bipush 8, 2) := by decide +kernel
theorem dX7_turns_259 : decode cX7_turns 259 = .ok (.irem, 1) := by decide +kernel
theorem dX7_turns_260 : decode cX7_turns 260 = .ok (.putfield 113, 3) := by decide +kernel
theorem dX7_turns_263 : decode cX7_turns 263 = .ok (.goto 29, 3) := by decide +kernel
theorem dX7_turns_266 : decode cX7_turns 266 = .ok (.aload_n 0, 1) := by decide +kernel
theorem dX7_turns_267 : decode cX7_turns 267 = .ok (.bipush 117, 2) := by decide +kernel
theorem dX7_turns_269 : decode cX7_turns 269 = .ok (.putfield 110, 3) := by decide +kernel
theorem dX7_turns_272 : decode cX7_turns 272 = .ok (.aload_n 0, 1) := by decide +kernel
theorem dX7_turns_273 : decode cX7_turns 273 = .ok (.iconst 1, 1) := by decide +kernel
theorem dX7_turns_274 : decode cX7_turns 274 = .ok (.iload_n 2, 1) := by decide +kernel
theorem dX7_turns_275 : decode cX7_turns 275 = .ok (.sipush 999, 3) := by decide +kernel
theorem dX7_turns_278 : decode cX7_turns 278 = .ok (.irem, 1) := by decide +kernel
theorem dX7_turns_279 : decode cX7_turns 279 = .ok (.iadd, 1) := by decide +kernel
theorem dX7_turns_280 : decode cX7_turns 280 = .ok (.putfield 113, 3) := by decide +kernel
theorem dX7_turns_283 : decode cX7_turns 283 = .ok (.goto 9, 3) := by decide +kernel
theorem dX7_turns_286 : decode cX7_turns 286 = .ok (.aload_n 0, 1) := by decide +kernel
theorem dX7_turns_287 : decode cX7_turns 287 = .ok (.bipush 121, 2) := by decide +kernel
theorem dX7_turns_289 : decode cX7_turns 289 = .ok (.putfield 110, 3) := by decide +kernel
theorem dX7_turns_292 : decode cX7_turns 292 = .ok (.aload_n 0, 1) := by decide +kernel
theorem dX7_turns_293 : decode cX7_turns 293 = .ok (.invokevirtual 202, 3) := by decide +kernel
theorem dX7_turns_296 : decode cX7_turns 296 = .ok (.ireturn, 1) := by decide +kernel
theorem dX7_simulates_0 : decode cX7_simulates 0 = .ok (.aload_n 0, 1) := by decide +kernel
theorem dX7_simulates_1 : decode cX7_simulates 1 = .ok (.invokevirtual 249, 3) := by decide +kernel
theorem dX7_simulates_4 : decode cX7_simulates 4 = .ok (.lload_n 1, 1) := by decide +kernel
theorem dX7_simulates_5 : decode cX7_simulates 5 = .ok (.lstore 4, 2) := by decide +kernel
theorem dX7_simulates_7 : decode cX7_simulates 7 = .ok (.iconst 0, 1) := by decide +kernel
theorem dX7_simulates_8 : decode cX7_simulates 8 = .ok (.istore 6, 2) := by decide +kernel
theorem dX7_simulates_10 : decode cX7_simulates 10 = .ok (.iconst 0, 1) := by decide +kernel
theorem dX7_simulates_11 : decode cX7_simulates 11 = .ok (.istore 7, 2) := by decide +kernel
theorem dX7_simulates_13 : decode cX7_simulates 13 = .ok (.iload 7, 2) := by decide +kernel
theorem dX7_simulates_15 : decode cX7_simulates 15 = .ok (.iload_n 3, 1) := by decide +kernel
theorem dX7_simulates_16 : decode cX7_simulates 16 = .ok (.if_icmp .ge 33, 3) := by decide +kernel
theorem dX7_simulates_19 : decode cX7_simulates 19 = .ok (.lload 4, 2) := by decide +kernel
theorem dX7_simulates_21 : decode cX7_simulates 21 = .ok (.ldc2_w 279, 3) := by decide +kernel
theorem dX7_simulates_24 : decode cX7_simulates 24 = .ok (.lmul, 1) := by decide +kernel
theorem dX7_simulates_25 : decode cX7_simulates 25 = .ok (.ldc2_w 281, 3) := by decide +kernel
theorem dX7_simulates_28 : decode cX7_simulates 28 = .ok (.ladd, 1) := by decide +kernel
theorem dX7_simulates_29 : decode cX7_simulates 29 = .ok (.lstore 4, 2) := by decide +kernel
theorem dX7_simulates_31 : decode cX7_simulates 31 = .ok (.aload_n 0, 1) := by decide +kernel
theorem dX7_simulates_32 : decode cX7_simulates 32 = .ok (.lload 4, 2) := by decide +kernel
theorem dX7_simulates_34 : decode cX7_simulates 34 = .ok (.bipush 33, 2) := by decide +kernel
theorem dX7_simulates_36 : decode cX7_simulates 36 = .ok (.lushr, 1) := by decide +kernel
theorem dX7_simulates_37 : decode cX7_simulates 37 = .ok (.l2i, 1) := by decide +kernel
theorem dX7_simulates_38 : decode cX7_simulates 38 = .ok (.invokevirtual 283, 3) := by decide +kernel
theorem dX7_simulates_41 : decode cX7_simulates 41 = .ok (.istore 6, 2) := by decide +kernel
theorem dX7_simulates_43 : decode cX7_simulates 43 = .ok (.iinc 7 1, 3) := by decide +kernel
theorem dX7_simulates_46 : decode cX7_simulates 46 = .ok (.goto (-33), 3) := by decide +kernel
theorem dX7_simulates_49 : decode cX7_simulates 49 = .ok (.sipush 10000, 3) := by decide +kernel
theorem dX7_simulates_52 : decode cX7_simulates 52 = .ok (.aload_n 0, 1) := by decide +kernel
theorem dX7_simulates_53 : decode cX7_simulates 53 = .ok (.iconst (-1), 1) := by decide +kernel
theorem dX7_simulates_54 : decode cX7_simulates 54 = .ok (.invokevirtual 57, 3) := by decide +kernel
theorem dX7_simulates_57 : decode cX7_simulates 57 = .ok (.imul, 1) := by decide +kernel
theorem dX7_simulates_58 : decode cX7_simulates 58 = .ok (.aload_n 0, 1) := by decide +kernel
theorem dX7_simulates_59 : decode cX7_simulates 59 = .ok (.invokevirtual 212, 3) := by decide +kernel
theorem dX7_simulates_62 : decode cX7_simulates 62 = .ok (.iadd, 1) := by decide +kernel
theorem dX7_simulates_63 : decode cX7_simulates 63 = .ok (.istore 7, 2) := by decide +kernel
theorem dX7_simulates_65 : decode cX7_simulates 65 = .ok (.aload_n 0, 1) := by decide +kernel
theorem dX7_simulates_66 : decode cX7_simulates 66 = .ok (.invokevirtual 252, 3) := by decide +kernel
theorem dX7_simulates_69 : decode cX7_simulates 69 = .ok (.iload 7, 2) := by decide +kernel
theorem dX7_simulates_71 : decode cX7_simulates 71 = .ok (.ireturn, 1) := by decide +kernel
theorem dX7_simulate_0 : decode cX7_simulate 0 = .ok (.aload_n 0, 1) := by decide +kernel
theorem dX7_simulate_1 : decode cX7_simulate 1 = .ok (.iload_n 3, 1) := by decide +kernel
theorem dX7_simulate_2 : decode cX7_simulate 2 = .ok (.iconst 1, 1) := by decide +kernel
theorem dX7_simulate_3 : decode cX7_simulate 3 = .ok (.bipush 60, 2) := by decide +kernel
theorem dX7_simulate_5 : decode cX7_simulate 5 = .ok (.invokestatic 40, 3) := by decide +kernel
theorem dX7_simulate_8 : decode cX7_simulate 8 = .ok (.ifCond .eq 7, 3) := by decide +kernel
theorem dX7_simulate_11 : decode cX7_simulate 11 = .ok (.iconst 0, 1) := by decide +kernel
theorem dX7_simulate_12 : decode cX7_simulate 12 = .ok (.goto 4, 3) := by decide +kernel
theorem dX7_simulate_15 : decode cX7_simulate 15 = .ok (.iconst 1, 1) := by decide +kernel
theorem dX7_simulate_16 : decode cX7_simulate 16 = .ok (.invokevirtual 174, 3) := by decide +kernel
theorem dX7_simulate_19 : decode cX7_simulate 19 = .ok (.ifCond .eq 12, 3) := by decide +kernel
theorem dX7_simulate_22 : decode cX7_simulate 22 = .ok (.aload_n 0, 1) := by decide +kernel
theorem dX7_simulate_23 : decode cX7_simulate 23 = .ok (.lload_n 1, 1) := by decide +kernel
theorem dX7_simulate_24 : decode cX7_simulate 24 = .ok (.iload_n 3, 1) := by decide +kernel
theorem dX7_simulate_25 : decode cX7_simulate 25 = .ok (.invokevirtual 286, 3) := by decide +kernel
theorem dX7_simulate_28 : decode cX7_simulate 28 = .ok (.goto 4, 3) := by decide +kernel
theorem dX7_simulate_31 : decode cX7_simulate 31 = .ok (.iconst 0, 1) := by decide +kernel
theorem dX7_simulate_32 : decode cX7_simulate 32 = .ok (.ireturn, 1) := by decide +kernel
theorem dX7_save_0 : decode cX7_save 0 = .ok (.aload_n 0, 1) := by decide +kernel
theorem dX7_save_1 : decode cX7_save 1 = .ok (.iload_n 1, 1) := by decide +kernel
theorem dX7_save_2 : decode cX7_save 2 = .ok (.iconst 0, 1) := by decide +kernel
theorem dX7_save_3 : decode cX7_save 3 = .ok (.iconst 1, 1) := by decide +kernel
theorem dX7_save_4 : decode cX7_save 4 = .ok (.invokestatic 40, 3) := by decide +kernel
theorem dX7_save_7 : decode cX7_save 7 = .ok (.ifCond .eq 7, 3) := by decide +kernel
theorem dX7_save_10 : decode cX7_save 10 = .ok (.iconst 0, 1) := by decide +kernel
theorem dX7_save_11 : decode cX7_save 11 = .ok (.goto 4, 3) := by decide +kernel
theorem dX7_save_14 : decode cX7_save 14 = .ok (.iconst 1, 1) := by decide +kernel
theorem dX7_save_15 : decode cX7_save 15 = .ok (.invokevirtual 174, 3) := by decide +kernel
theorem dX7_save_18 : decode cX7_save 18 = .ok (.ifCond .ne 5, 3) := by decide +kernel
theorem dX7_save_21 : decode cX7_save 21 = .ok (.iconst 0, 1) := by decide +kernel
theorem dX7_save_22 : decode cX7_save 22 = .ok (.ireturn, 1) := by decide +kernel
theorem dX7_save_23 : decode cX7_save 23 = .ok (.iconst 0, 1) := by decide +kernel
theorem dX7_save_24 : decode cX7_save 24 = .ok (.istore_n 2, 1) := by decide +kernel
theorem dX7_save_25 : decode cX7_save 25 = .ok (.iload_n 2, 1) := by decide +kernel
theorem dX7_save_26 : decode cX7_save 26 = .ok (.sipush 242, 3) := by decide +kernel
theorem dX7_save_29 : decode cX7_save 29 = .ok (.if_icmp .ge 27, 3) := by decide +kernel
theorem dX7_save_32 : decode cX7_save 32 = .ok (.aload_n 0, 1) := by decide +kernel
theorem dX7_save_33 : decode cX7_save 33 = .ok (.getfield 19, 3) := by decide +kernel
theorem dX7_save_36 : decode cX7_save 36 = .ok (.sipush 242, 3) := by decide +kernel
theorem dX7_save_39 : decode cX7_save 39 = .ok (.iload_n 1, 1) := by decide +kernel
theorem dX7_save_40 : decode cX7_save 40 = .ok (.imul, 1) := by decide +kernel
theorem dX7_save_41 : decode cX7_save 41 = .ok (.iload_n 2, 1) := by decide +kernel
theorem dX7_save_42 : decode cX7_save 42 = .ok (.iadd, 1) := by decide +kernel
theorem dX7_save_43 : decode cX7_save 43 = .ok (.aload_n 0, 1) := by decide +kernel
theorem dX7_save_44 : decode cX7_save 44 = .ok (.getfield 7, 3) := by decide +kernel
theorem dX7_save_47 : decode cX7_save 47 = .ok (.iload_n 2, 1) := by decide +kernel
theorem dX7_save_48 : decode cX7_save 48 = .ok (.iaload, 1) := by decide +kernel
theorem dX7_save_49 : decode cX7_save 49 = .ok (.iastore, 1) := by decide +kernel
theorem dX7_save_50 : decode cX7_save 50 = .ok (.iinc 2 1, 3) := by decide +kernel
theorem dX7_save_53 : decode cX7_save 53 = .ok (.goto (-28), 3) := by decide +kernel
theorem dX7_save_56 : decode cX7_save 56 = .ok (.aload_n 0, 1) := by decide +kernel
theorem dX7_save_57 : decode cX7_save 57 = .ok (.dup, 1) := by decide +kernel
theorem dX7_save_58 : decode cX7_save 58 = .ok (.getfield 209, 3) := by decide +kernel
theorem dX7_save_61 : decode cX7_save 61 = .ok (.iconst 1, 1) := by decide +kernel
theorem dX7_save_62 : decode cX7_save 62 = .ok (.iload_n 1, 1) := by decide +kernel
theorem dX7_save_63 : decode cX7_save 63 = .ok (.ishl, 1) := by decide +kernel
theorem dX7_save_64 : decode cX7_save 64 = .ok (.ior, 1) := by decide +kernel
theorem dX7_save_65 : decode cX7_save 65 = .ok (.putfield 209, 3) := by decide +kernel
theorem dX7_save_68 : decode cX7_save 68 = .ok (.aload_n 0, 1) := by decide +kernel
theorem dX7_save_69 : decode cX7_save 69 = .ok (.getfield 7, 3) := by decide +kernel
theorem dX7_save_72 : decode cX7_save 72 = .ok (.sipush 230, 3) := by decide +kernel
theorem dX7_save_75 : decode cX7_save 75 = .ok (.iaload, 1) := by decide +kernel
theorem dX7_save_76 : decode cX7_save 76 = .ok (.ireturn, 1) := by decide +kernel
theorem dX7_restore_0 : decode cX7_restore 0 = .ok (.aload_n 0, 1) := by decide +kernel
theorem dX7_restore_1 : decode cX7_restore 1 = .ok (.iload_n 1, 1) := by decide +kernel
theorem dX7_restore_2 : decode cX7_restore 2 = .ok (.iconst 0, 1) := by decide +kernel
theorem dX7_restore_3 : decode cX7_restore 3 = .ok (.iconst 1, 1) := by decide +kernel
theorem dX7_restore_4 : decode cX7_restore 4 = .ok (.invokestatic 40, 3) := by decide +kernel
theorem dX7_restore_7 : decode cX7_restore 7 = .ok (.ifCond .ne 7, 3) := by decide +kernel
theorem dX7_restore_10 : decode cX7_restore 10 = .ok (.iconst 1, 1) := by decide +kernel
theorem dX7_restore_11 : decode cX7_restore 11 = .ok (.goto 19, 3) := by decide +kernel
theorem dX7_restore_14 : decode cX7_restore 14 = .ok (.aload_n 0, 1) := by decide +kernel
theorem dX7_restore_15 : decode cX7_restore 15 = .ok (.getfield 209, 3) := by decide +kernel
theorem dX7_restore_18 : decode cX7_restore 18 = .ok (.iload_n 1, 1) := by decide +kernel
theorem dX7_restore_19 : decode cX7_restore 19 = .ok (.ishr, 1) := by decide +kernel
theorem dX7_restore_20 : decode cX7_restore 20 = .ok (.iconst 1, 1) := by decide +kernel
theorem dX7_restore_21 : decode cX7_restore 21 = .ok (.iand, 1) := by decide +kernel
theorem dX7_restore_22 : decode cX7_restore 22 = .ok (.ifCond .ne 7, 3) := by decide +kernel
theorem dX7_restore_25 : decode cX7_restore 25 = .ok (.iconst 2, 1) := by decide +kernel
theorem dX7_restore_26 : decode cX7_restore 26 = .ok (.goto 4, 3) := by decide +kernel
theorem dX7_restore_29 : decode cX7_restore 29 = .ok (.iconst 0, 1) := by decide +kernel
theorem dX7_restore_30 : decode cX7_restore 30 = .ok (.invokevirtual 174, 3) := by decide +kernel
theorem dX7_restore_33 : decode cX7_restore 33 = .ok (.ifCond .ne 5, 3) := by decide +kernel
theorem dX7_restore_36 : decode cX7_restore 36 = .ok (.iconst 0, 1) := by decide +kernel
theorem dX7_restore_37 : decode cX7_restore 37 = .ok (.ireturn, 1) := by decide +kernel
theorem dX7_restore_38 : decode cX7_restore 38 = .ok (.iconst 0, 1) := by decide +kernel
theorem dX7_restore_39 : decode cX7_restore 39 = .ok (.istore_n 2, 1) := by decide +kernel
theorem dX7_restore_40 : decode cX7_restore 40 = .ok (.iload_n 2, 1) := by decide +kernel
theorem dX7_restore_41 : decode cX7_restore 41 = .ok (.sipush 242, 3) := by decide +kernel
theorem dX7_restore_44 : decode cX7_restore 44 = .ok (.if_icmp .ge 27, 3) := by decide +kernel
theorem dX7_restore_47 : decode cX7_restore 47 = .ok (.aload_n 0, 1) := by decide +kernel
theorem dX7_restore_48 : decode cX7_restore 48 = .ok (.getfield 7, 3) := by decide +kernel
theorem dX7_restore_51 : decode cX7_restore 51 = .ok (.iload_n 2, 1) := by decide +kernel
theorem dX7_restore_52 : decode cX7_restore 52 = .ok (.aload_n 0, 1) := by decide +kernel
theorem dX7_restore_53 : decode cX7_restore 53 = .ok (.getfield 19, 3) := by decide +kernel
theorem dX7_restore_56 : decode cX7_restore 56 = .ok (.sipush 242, 3) := by decide +kernel
theorem dX7_restore_59 : decode cX7_restore 59 = .ok (.iload_n 1, 1) := by decide +kernel
theorem dX7_restore_60 : decode cX7_restore 60 = .ok (.imul, 1) := by decide +kernel
theorem dX7_restore_61 : decode cX7_restore 61 = .ok (.iload_n 2, 1) := by decide +kernel
theorem dX7_restore_62 : decode cX7_restore 62 = .ok (.iadd, 1) := by decide +kernel
theorem dX7_restore_63 : decode cX7_restore 63 = .ok (.iaload, 1) := by decide +kernel
theorem dX7_restore_64 : decode cX7_restore 64 = .ok (.iastore, 1) := by decide +kernel
theorem dX7_restore_65 : decode cX7_restore 65 = .ok (.iinc 2 1, 3) := by decide +kernel
theorem dX7_restore_68 : decode cX7_restore 68 = .ok (.goto (-28), 3) := by decide +kernel
theorem dX7_restore_71 : decode cX7_restore 71 = .ok (.aload_n 0, 1) := by decide +kernel
theorem dX7_restore_72 : decode cX7_restore 72 = .ok (.iconst 0, 1) := by decide +kernel
theorem dX7_restore_73 : decode cX7_restore 73 = .ok (.putfield 51, 3) := by decide +kernel
theorem dX7_restore_76 : decode cX7_restore 76 = .ok (.aload_n 0, 1) := by decide +kernel
theorem dX7_restore_77 : decode cX7_restore 77 = .ok (.getfield 7, 3) := by decide +kernel
theorem dX7_restore_80 : decode cX7_restore 80 = .ok (.sipush 230, 3) := by decide +kernel
theorem dX7_restore_83 : decode cX7_restore 83 = .ok (.iaload, 1) := by decide +kernel
theorem dX7_restore_84 : decode cX7_restore 84 = .ok (.ireturn, 1) := by decide +kernel
theorem dJ11_isValidCodePoint_9a6ad_0 : decode cJ11_isValidCodePoint_9a6ad 0 = .ok (.iload_n 0, 1) := by decide +kernel
theorem dJ11_isValidCodePoint_9a6ad_1 : decode cJ11_isValidCodePoint_9a6ad 1 = .ok (.bipush 16, 2) := by decide +kernel
theorem dJ11_isValidCodePoint_9a6ad_3 : decode cJ11_isValidCodePoint_9a6ad 3 = .ok (.iushr, 1) := by decide +kernel
theorem dJ11_isValidCodePoint_9a6ad_4 : decode cJ11_isValidCodePoint_9a6ad 4 = .ok (.istore_n 1, 1) := by decide +kernel
theorem dJ11_isValidCodePoint_9a6ad_5 : decode cJ11_isValidCodePoint_9a6ad 5 = .ok (.iload_n 1, 1) := by decide +kernel
theorem dJ11_isValidCodePoint_9a6ad_6 : decode cJ11_isValidCodePoint_9a6ad 6 = .ok (.bipush 17, 2) := by decide +kernel
theorem dJ11_isValidCodePoint_9a6ad_8 : decode cJ11_isValidCodePoint_9a6ad 8 = .ok (.if_icmp .ge 7, 3) := by decide +kernel
theorem dJ11_isValidCodePoint_9a6ad_11 : decode cJ11_isValidCodePoint_9a6ad 11 = .ok (.iconst 1, 1) := by decide +kernel
theorem dJ11_isValidCodePoint_9a6ad_12 : decode cJ11_isValidCodePoint_9a6ad 12 = .ok (.goto 4, 3) := by decide +kernel
theorem dJ11_isValidCodePoint_9a6ad_15 : decode cJ11_isValidCodePoint_9a6ad 15 = .ok (.iconst 0, 1) := by decide +kernel
theorem dJ11_isValidCodePoint_9a6ad_16 : decode cJ11_isValidCodePoint_9a6ad 16 = .ok (.ireturn, 1) := by decide +kernel
theorem dJ11_highSurrogate_5068e_0 : decode cJ11_highSurrogate_5068e 0 = .ok (.iload_n 0, 1) := by decide +kernel
theorem dJ11_highSurrogate_5068e_1 : decode cJ11_highSurrogate_5068e 1 = .ok (.bipush 10, 2) := by decide +kernel
theorem dJ11_highSurrogate_5068e_3 : decode cJ11_highSurrogate_5068e 3 = .ok (.iushr, 1) := by decide +kernel
theorem dJ11_highSurrogate_5068e_4 : decode cJ11_highSurrogate_5068e 4 = .ok (.ldc 110, 2) := by decide +kernel
theorem dJ11_highSurrogate_5068e_6 : decode cJ11_highSurrogate_5068e 6 = .ok (.iadd, 1) := by decide +kernel
theorem dJ11_highSurrogate_5068e_7 : decode cJ11_highSurrogate_5068e 7 = .ok (.i2c, 1) := by decide +kernel
theorem dJ11_highSurrogate_5068e_8 : decode cJ11_highSurrogate_5068e 8 = .ok (.ireturn, 1) := by decide +kernel
theorem dJ11_lowSurrogate_5068e_0 : decode cJ11_lowSurrogate_5068e 0 = .ok (.iload_n 0, 1) := by decide +kernel
theorem dJ11_lowSurrogate_5068e_1 : decode cJ11_lowSurrogate_5068e 1 = .ok (.sipush 1023, 3) := by decide +kernel
theorem dJ11_lowSurrogate_5068e_4 : decode cJ11_lowSurrogate_5068e 4 = .ok (.iand, 1) := by decide +kernel
theorem dJ11_lowSurrogate_5068e_5 : decode cJ11_lowSurrogate_5068e 5 = .ok (.ldc 76, 2) := by decide +kernel
theorem dJ11_lowSurrogate_5068e_7 : decode cJ11_lowSurrogate_5068e 7 = .ok (.iadd, 1) := by decide +kernel
theorem dJ11_lowSurrogate_5068e_8 : decode cJ11_lowSurrogate_5068e 8 = .ok (.i2c, 1) := by decide +kernel
theorem dJ11_lowSurrogate_5068e_9 : decode cJ11_lowSurrogate_5068e 9 = .ok (.ireturn, 1) := by decide +kernel
theorem dJ6_bitCount_0f7a4_0 : decode cJ6_bitCount_0f7a4 0 = .ok (.iload_n 0, 1) := by decide +kernel
theorem dJ6_bitCount_0f7a4_1 : decode cJ6_bitCount_0f7a4 1 = .ok (.iload_n 0, 1) := by decide +kernel
theorem dJ6_bitCount_0f7a4_2 : decode cJ6_bitCount_0f7a4 2 = .ok (.iconst 1, 1) := by decide +kernel
theorem dJ6_bitCount_0f7a4_3 : decode cJ6_bitCount_0f7a4 3 = .ok (.iushr, 1) := by decide +kernel
theorem dJ6_bitCount_0f7a4_4 : decode cJ6_bitCount_0f7a4 4 = .ok (.ldc_w 265, 3) := by decide +kernel
theorem dJ6_bitCount_0f7a4_7 : decode cJ6_bitCount_0f7a4 7 = .ok (.iand, 1) := by decide +kernel
theorem dJ6_bitCount_0f7a4_8 : decode cJ6_bitCount_0f7a4 8 = .ok (.isub, 1) := by decide +kernel
theorem dJ6_bitCount_0f7a4_9 : decode cJ6_bitCount_0f7a4 9 = .ok (.istore_n 0, 1) := by decide +kernel
theorem dJ6_bitCount_0f7a4_10 : decode cJ6_bitCount_0f7a4 10 = .ok (.iload_n 0, 1) := by decide +kernel
theorem dJ6_bitCount_0f7a4_11 : decode cJ6_bitCount_0f7a4 11 = .ok (.ldc_w 266, 3) := by decide +kernel
theorem dJ6_bitCount_0f7a4_14 : decode cJ6_bitCount_0f7a4 14 = .ok (.iand, 1) := by decide +kernel
theorem dJ6_bitCount_0f7a4_15 : decode cJ6_bitCount_0f7a4 15 = .ok (.iload_n 0, 1) := by decide +kernel
theorem dJ6_bitCount_0f7a4_16 : decode cJ6_bitCount_0f7a4 16 = .ok (.iconst 2, 1) := by decide +kernel
theorem dJ6_bitCount_0f7a4_17 : decode cJ6_bitCount_0f7a4 17 = .ok (.iushr, 1) := by decide +kernel
theorem dJ6_bitCount_0f7a4_18 : decode cJ6_bitCount_0f7a4 18 = .ok (.ldc_w 266, 3) := by decide +kernel
theorem dJ6_bitCount_0f7a4_21 : decode cJ6_bitCount_0f7a4 21 = .ok (.iand, 1) := by decide +kernel
theorem dJ6_bitCount_0f7a4_22 : decode cJ6_bitCount_0f7a4 22 = .ok (.iadd, 1) := by decide +kernel
theorem dJ6_bitCount_0f7a4_23 : decode cJ6_bitCount_0f7a4 23 = .ok (.istore_n 0, 1) := by decide +kernel
theorem dJ6_bitCount_0f7a4_24 : decode cJ6_bitCount_0f7a4 24 = .ok (.iload_n 0, 1) := by decide +kernel
theorem dJ6_bitCount_0f7a4_25 : decode cJ6_bitCount_0f7a4 25 = .ok (.iload_n 0, 1) := by decide +kernel
theorem dJ6_bitCount_0f7a4_26 : decode cJ6_bitCount_0f7a4 26 = .ok (.iconst 4, 1) := by decide +kernel
theorem dJ6_bitCount_0f7a4_27 : decode cJ6_bitCount_0f7a4 27 = .ok (.iushr, 1) := by decide +kernel
theorem dJ6_bitCount_0f7a4_28 : decode cJ6_bitCount_0f7a4 28 = .ok (.iadd, 1) := by decide +kernel
theorem dJ6_bitCount_0f7a4_29 : decode cJ6_bitCount_0f7a4 29 = .ok (.ldc_w 267, 3) := by decide +kernel
theorem dJ6_bitCount_0f7a4_32 : decode cJ6_bitCount_0f7a4 32 = .ok (.iand, 1) := by decide +kernel
theorem dJ6_bitCount_0f7a4_33 : decode cJ6_bitCount_0f7a4 33 = .ok (.istore_n 0, 1) := by decide +kernel
theorem dJ6_bitCount_0f7a4_34 : decode cJ6_bitCount_0f7a4 34 = .ok (.iload_n 0, 1) := by decide +kernel
theorem dJ6_bitCount_0f7a4_35 : decode cJ6_bitCount_0f7a4 35 = .ok (.iload_n 0, 1) := by decide +kernel
theorem dJ6_bitCount_0f7a4_36 : decode cJ6_bitCount_0f7a4 36 = .ok (.bipush 8, 2) := by decide +kernel
theorem dJ6_bitCount_0f7a4_38 : decode cJ6_bitCount_0f7a4 38 = .ok (.iushr, 1) := by decide +kernel
theorem dJ6_bitCount_0f7a4_39 : decode cJ6_bitCount_0f7a4 39 = .ok (.iadd, 1) := by decide +kernel
theorem dJ6_bitCount_0f7a4_40 : decode cJ6_bitCount_0f7a4 40 = .ok (.istore_n 0, 1) := by decide +kernel
theorem dJ6_bitCount_0f7a4_41 : decode cJ6_bitCount_0f7a4 41 = .ok (.iload_n 0, 1) := by decide +kernel
theorem dJ6_bitCount_0f7a4_42 : decode cJ6_bitCount_0f7a4 42 = .ok (.iload_n 0, 1) := by decide +kernel
theorem dJ6_bitCount_0f7a4_43 : decode cJ6_bitCount_0f7a4 43 = .ok (.bipush 16, 2) := by decide +kernel
theorem dJ6_bitCount_0f7a4_45 : decode cJ6_bitCount_0f7a4 45 = .ok (.iushr, 1) := by decide +kernel
theorem dJ6_bitCount_0f7a4_46 : decode cJ6_bitCount_0f7a4 46 = .ok (.iadd, 1) := by decide +kernel
theorem dJ6_bitCount_0f7a4_47 : decode cJ6_bitCount_0f7a4 47 = .ok (.istore_n 0, 1) := by decide +kernel
theorem dJ6_bitCount_0f7a4_48 : decode cJ6_bitCount_0f7a4 48 = .ok (.iload_n 0, 1) := by decide +kernel
theorem dJ6_bitCount_0f7a4_49 : decode cJ6_bitCount_0f7a4 49 = .ok (.bipush 63, 2) := by decide +kernel
theorem dJ6_bitCount_0f7a4_51 : decode cJ6_bitCount_0f7a4 51 = .ok (.iand, 1) := by decide +kernel
theorem dJ6_bitCount_0f7a4_52 : decode cJ6_bitCount_0f7a4 52 = .ok (.ireturn, 1) := by decide +kernel
theorem dJ9_max_7cf53_0 : decode cJ9_max_7cf53 0 = .ok (.iload_n 0, 1) := by decide +kernel
theorem dJ9_max_7cf53_1 : decode cJ9_max_7cf53 1 = .ok (.iload_n 1, 1) := by decide +kernel
theorem dJ9_max_7cf53_2 : decode cJ9_max_7cf53 2 = .ok (.if_icmp .lt 7, 3) := by decide +kernel
theorem dJ9_max_7cf53_5 : decode cJ9_max_7cf53 5 = .ok (.iload_n 0, 1) := by decide +kernel
theorem dJ9_max_7cf53_6 : decode cJ9_max_7cf53 6 = .ok (.goto 4, 3) := by decide +kernel
theorem dJ9_max_7cf53_9 : decode cJ9_max_7cf53 9 = .ok (.iload_n 1, 1) := by decide +kernel
theorem dJ9_max_7cf53_10 : decode cJ9_max_7cf53 10 = .ok (.ireturn, 1) := by decide +kernel
theorem dJ9_min_7cf53_0 : decode cJ9_min_7cf53 0 = .ok (.iload_n 0, 1) := by decide +kernel
theorem dJ9_min_7cf53_1 : decode cJ9_min_7cf53 1 = .ok (.iload_n 1, 1) := by decide +kernel
theorem dJ9_min_7cf53_2 : decode cJ9_min_7cf53 2 = .ok (.if_icmp .gt 7, 3) := by decide +kernel
theorem dJ9_min_7cf53_5 : decode cJ9_min_7cf53 5 = .ok (.iload_n 0, 1) := by decide +kernel
theorem dJ9_min_7cf53_6 : decode cJ9_min_7cf53 6 = .ok (.goto 4, 3) := by decide +kernel
theorem dJ9_min_7cf53_9 : decode cJ9_min_7cf53 9 = .ok (.iload_n 1, 1) := by decide +kernel
theorem dJ9_min_7cf53_10 : decode cJ9_min_7cf53 10 = .ok (.ireturn, 1) := by decide +kernel
theorem dJ0_length_8abf5_0 : decode cJ0_length_8abf5 0 = .ok (.aload_n 0, 1) := by decide +kernel
theorem dJ0_length_8abf5_1 : decode cJ0_length_8abf5 1 = .ok (.getfield 9, 3) := by decide +kernel
theorem dJ0_length_8abf5_4 : decode cJ0_length_8abf5 4 = .ok (.arraylength, 1) := by decide +kernel
theorem dJ0_length_8abf5_5 : decode cJ0_length_8abf5 5 = .ok (.aload_n 0, 1) := by decide +kernel
theorem dJ0_length_8abf5_6 : decode cJ0_length_8abf5 6 = .ok (.invokevirtual 335, 3) := by decide +kernel
theorem dJ0_length_8abf5_9 : decode cJ0_length_8abf5 9 = .ok (.ishr, 1) := by decide +kernel
theorem dJ0_length_8abf5_10 : decode cJ0_length_8abf5 10 = .ok (.ireturn, 1) := by decide +kernel
theorem dJ0_indexOf_0f7a4_0 : decode cJ0_indexOf_0f7a4 0 = .ok (.aload_n 0, 1) := by decide +kernel
theorem dJ0_indexOf_0f7a4_1 : decode cJ0_indexOf_0f7a4 1 = .ok (.iload_n 1, 1) := by decide +kernel
theorem dJ0_indexOf_0f7a4_2 : decode cJ0_indexOf_0f7a4 2 = .ok (.iconst 0, 1) := by decide +kernel
theorem dJ0_indexOf_0f7a4_3 : decode cJ0_indexOf_0f7a4 3 = .ok (.invokevirtual 633, 3) := by decide +kernel
theorem dJ0_indexOf_0f7a4_6 : decode cJ0_indexOf_0f7a4 6 = .ok (.ireturn, 1) := by decide +kernel
theorem dJ0_indexOf_7cf53_0 : decode cJ0_indexOf_7cf53 0 = .ok (.aload_n 0, 1) := by decide +kernel
theorem dJ0_indexOf_7cf53_1 : decode cJ0_indexOf_7cf53 1 = .ok (.invokevirtual 492, 3) := by decide +kernel
theorem dJ0_indexOf_7cf53_4 : decode cJ0_indexOf_7cf53 4 = .ok (.ifCond .eq 19, 3) := by decide +kernel
theorem dJ0_indexOf_7cf53_7 : decode cJ0_indexOf_7cf53 7 = .ok (.aload_n 0, 1) := by decide +kernel
theorem dJ0_indexOf_7cf53_8 : decode cJ0_indexOf_7cf53 8 = .ok (.getfield 9, 3) := by decide +kernel
theorem dJ0_indexOf_7cf53_11 : decode cJ0_indexOf_7cf53 11 = .ok (.iload_n 1, 1) := by decide +kernel
theorem dJ0_indexOf_7cf53_12 : decode cJ0_indexOf_7cf53 12 = .ok (.iload_n 2, 1) := by decide +kernel
theorem dJ0_indexOf_7cf53_13 : decode cJ0_indexOf_7cf53 13 = .ok (.aload_n 0, 1) := by decide +kernel
theorem dJ0_indexOf_7cf53_14 : decode cJ0_indexOf_7cf53 14 = .ok (.invokevirtual 505, 3) := by decide +kernel
theorem dJ0_indexOf_7cf53_17 : decode cJ0_indexOf_7cf53 17 = .ok (.invokestatic 637, 3) := by decide +kernel
theorem dJ0_indexOf_7cf53_20 : decode cJ0_indexOf_7cf53 20 = .ok (.goto 16, 3) := by decide +kernel
theorem dJ0_indexOf_7cf53_23 : decode cJ0_indexOf_7cf53 23 = .ok (.aload_n 0, 1) := by decide +kernel
theorem dJ0_indexOf_7cf53_24 : decode cJ0_indexOf_7cf53 24 = .ok (.getfield 9, 3) := by decide +kernel
theorem dJ0_indexOf_7cf53_27 : decode cJ0_indexOf_7cf53 27 = .ok (.iload_n 1, 1) := by decide +kernel
theorem dJ0_indexOf_7cf53_28 : decode cJ0_indexOf_7cf53 28 = .ok (.iload_n 2, 1) := by decide +kernel
theorem dJ0_indexOf_7cf53_29 : decode cJ0_indexOf_7cf53 29 = .ok (.aload_n 0, 1) := by decide +kernel
theorem dJ0_indexOf_7cf53_30 : decode cJ0_indexOf_7cf53 30 = .ok (.invokevirtual 505, 3) := by decide +kernel
theorem dJ0_indexOf_7cf53_33 : decode cJ0_indexOf_7cf53 33 = .ok (.invokestatic 640, 3) := by decide +kernel
theorem dJ0_indexOf_7cf53_36 : decode cJ0_indexOf_7cf53 36 = .ok (.ireturn, 1) := by decide +kernel
theorem dJ0_coder_7d493_0 : decode cJ0_coder_7d493 0 = .ok (.getstatic 38, 3) := by decide +kernel
theorem dJ0_coder_7d493_3 : decode cJ0_coder_7d493 3 = .ok (.ifCond .eq 10, 3) := by decide +kernel
theorem dJ0_coder_7d493_6 : decode cJ0_coder_7d493 6 = .ok (.aload_n 0, 1) := by decide +kernel
theorem dJ0_coder_7d493_7 : decode cJ0_coder_7d493 7 = .ok (.getfield 15, 3) := by decide +kernel
theorem dJ0_coder_7d493_10 : decode cJ0_coder_7d493 10 = .ok (.goto 4, 3) := by decide +kernel
theorem dJ0_coder_7d493_13 : decode cJ0_coder_7d493 13 = .ok (.iconst 1, 1) := by decide +kernel
theorem dJ0_coder_7d493_14 : decode cJ0_coder_7d493 14 = .ok (.ireturn, 1) := by decide +kernel
theorem dJ0_isLatin1_aae02_0 : decode cJ0_isLatin1_aae02 0 = .ok (.getstatic 38, 3) := by decide +kernel
theorem dJ0_isLatin1_aae02_3 : decode cJ0_isLatin1_aae02 3 = .ok (.ifCond .eq 14, 3) := by decide +kernel
theorem dJ0_isLatin1_aae02_6 : decode cJ0_isLatin1_aae02 6 = .ok (.aload_n 0, 1) := by decide +kernel
theorem dJ0_isLatin1_aae02_7 : decode cJ0_isLatin1_aae02 7 = .ok (.getfield 15, 3) := by decide +kernel
theorem dJ0_isLatin1_aae02_10 : decode cJ0_isLatin1_aae02 10 = .ok (.ifCond .ne 7, 3) := by decide +kernel
theorem dJ0_isLatin1_aae02_13 : decode cJ0_isLatin1_aae02 13 = .ok (.iconst 1, 1) := by decide +kernel
theorem dJ0_isLatin1_aae02_14 : decode cJ0_isLatin1_aae02 14 = .ok (.goto 4, 3) := by decide +kernel
theorem dJ0_isLatin1_aae02_17 : decode cJ0_isLatin1_aae02 17 = .ok (.iconst 0, 1) := by decide +kernel
theorem dJ0_isLatin1_aae02_18 : decode cJ0_isLatin1_aae02 18 = .ok (.ireturn, 1) := by decide +kernel
theorem dJ0_checkBoundsBeginEnd_23922_0 : decode cJ0_checkBoundsBeginEnd_23922 0 = .ok (.iload_n 0, 1) := by decide +kernel
theorem dJ0_checkBoundsBeginEnd_23922_1 : decode cJ0_checkBoundsBeginEnd_23922 1 = .ok (.iload_n 1, 1) := by decide +kernel
theorem dJ0_checkBoundsBeginEnd_23922_2 : decode cJ0_checkBoundsBeginEnd_23922 2 = .ok (.iload_n 2, 1) := by decide +kernel
theorem dJ0_checkBoundsBeginEnd_23922_3 : decode cJ0_checkBoundsBeginEnd_23922 3 = .ok (.getstatic 1053, 3) := by decide +kernel
theorem dJ0_checkBoundsBeginEnd_23922_6 : decode cJ0_checkBoundsBeginEnd_23922 6 = .ok (.invokestatic 1062, 3) := by decide +kernel
theorem dJ0_checkBoundsBeginEnd_23922_9 : decode cJ0_checkBoundsBeginEnd_23922 9 = .ok (.pop, 1) := by decide +kernel
theorem dJ0_checkBoundsBeginEnd_23922_10 : decode cJ0_checkBoundsBeginEnd_23922 10 = .ok (.return_, 1) := by decide +kernel
theorem dJ1_canEncode_9a6ad_0 : decode cJ1_canEncode_9a6ad 0 = .ok (.iload_n 0, 1) := by decide +kernel
theorem dJ1_canEncode_9a6ad_1 : decode cJ1_canEncode_9a6ad 1 = .ok (.ifCond .lt 14, 3) := by decide +kernel
theorem dJ1_canEncode_9a6ad_4 : decode cJ1_canEncode_9a6ad 4 = .ok (.iload_n 0, 1) := by decide +kernel
theorem dJ1_canEncode_9a6ad_5 : decode cJ1_canEncode_9a6ad 5 = .ok (.sipush 255, 3) := by decide +kernel
theorem dJ1_canEncode_9a6ad_8 : decode cJ1_canEncode_9a6ad 8 = .ok (.if_icmp .gt 7, 3) := by decide +kernel
theorem dJ1_canEncode_9a6ad_11 : decode cJ1_canEncode_9a6ad 11 = .ok (.iconst 1, 1) := by decide +kernel
theorem dJ1_canEncode_9a6ad_12 : decode cJ1_canEncode_9a6ad 12 = .ok (.goto 4, 3) := by decide +kernel
theorem dJ1_canEncode_9a6ad_15 : decode cJ1_canEncode_9a6ad 15 = .ok (.iconst 0, 1) := by decide +kernel
theorem dJ1_canEncode_9a6ad_16 : decode cJ1_canEncode_9a6ad 16 = .ok (.ireturn, 1) := by decide +kernel
theorem dJ1_indexOf_4cfef_0 : decode cJ1_indexOf_4cfef 0 = .ok (.iload_n 1, 1) := by decide +kernel
theorem dJ1_indexOf_4cfef_1 : decode cJ1_indexOf_4cfef 1 = .ok (.invokestatic 88, 3) := by decide +kernel
theorem dJ1_indexOf_4cfef_4 : decode cJ1_indexOf_4cfef 4 = .ok (.ifCond .ne 5, 3) := by decide +kernel
theorem dJ1_indexOf_4cfef_7 : decode cJ1_indexOf_4cfef 7 = .ok (.iconst (-1), 1) := by decide +kernel
theorem dJ1_indexOf_4cfef_8 : decode cJ1_indexOf_4cfef 8 = .ok (.ireturn, 1) := by decide +kernel
theorem dJ1_indexOf_4cfef_9 : decode cJ1_indexOf_4cfef 9 = .ok (.iload_n 2, 1) := by decide +kernel
theorem dJ1_indexOf_4cfef_10 : decode cJ1_indexOf_4cfef 10 = .ok (.iconst 0, 1) := by decide +kernel
theorem dJ1_indexOf_4cfef_11 : decode cJ1_indexOf_4cfef 11 = .ok (.invokestatic 92, 3) := by decide +kernel
theorem dJ1_indexOf_4cfef_14 : decode cJ1_indexOf_4cfef 14 = .ok (.istore_n 2, 1) := by decide +kernel
theorem dJ1_indexOf_4cfef_15 : decode cJ1_indexOf_4cfef 15 = .ok (.iload_n 3, 1) := by decide +kernel
theorem dJ1_indexOf_4cfef_16 : decode cJ1_indexOf_4cfef 16 = .ok (.aload_n 0, 1) := by decide +kernel
theorem dJ1_indexOf_4cfef_17 : decode cJ1_indexOf_4cfef 17 = .ok (.arraylength, 1) := by decide +kernel
theorem dJ1_indexOf_4cfef_18 : decode cJ1_indexOf_4cfef 18 = .ok (.invokestatic 38, 3) := by decide +kernel
theorem dJ1_indexOf_4cfef_21 : decode cJ1_indexOf_4cfef 21 = .ok (.istore_n 3, 1) := by decide +kernel
theorem dJ1_indexOf_4cfef_22 : decode cJ1_indexOf_4cfef 22 = .ok (.iload_n 2, 1) := by decide +kernel
theorem dJ1_indexOf_4cfef_23 : decode cJ1_indexOf_4cfef 23 = .ok (.iload_n 3, 1) := by decide +kernel
theorem dJ1_indexOf_4cfef_24 : decode cJ1_indexOf_4cfef 24 = .ok (.if_icmp .lt 5, 3) := by decide +kernel
theorem dJ1_indexOf_4cfef_27 : decode cJ1_indexOf_4cfef 27 = .ok (.iconst (-1), 1) := by decide +kernel
theorem dJ1_indexOf_4cfef_28 : decode cJ1_indexOf_4cfef 28 = .ok (.ireturn, 1) := by decide +kernel
theorem dJ1_indexOf_4cfef_29 : decode cJ1_indexOf_4cfef 29 = .ok (.aload_n 0, 1) := by decide +kernel
theorem dJ1_indexOf_4cfef_30 : decode cJ1_indexOf_4cfef 30 = .ok (.iload_n 1, 1) := by decide +kernel
theorem dJ1_indexOf_4cfef_31 : decode cJ1_indexOf_4cfef 31 = .ok (.iload_n 2, 1) := by decide +kernel
theorem dJ1_indexOf_4cfef_32 : decode cJ1_indexOf_4cfef 32 = .ok (.iload_n 3, 1) := by decide +kernel
theorem dJ1_indexOf_4cfef_33 : decode cJ1_indexOf_4cfef 33 = .ok (.invokestatic 95, 3) := by decide +kernel
theorem dJ1_indexOf_4cfef_36 : decode cJ1_indexOf_4cfef 36 = .ok (.ireturn, 1) := by decide +kernel
theorem dJ1_indexOfChar_4cfef_0 : decode cJ1_indexOfChar_4cfef 0 = .ok (.iload_n 1, 1) := by decide +kernel
theorem dJ1_indexOfChar_4cfef_1 : decode cJ1_indexOfChar_4cfef 1 = .ok (.i2b, 1) := by decide +kernel
theorem dJ1_indexOfChar_4cfef_2 : decode cJ1_indexOfChar_4cfef 2 = .ok (.istore 4, 2) := by decide +kernel
theorem dJ1_indexOfChar_4cfef_4 : decode cJ1_indexOfChar_4cfef 4 = .ok (.iload_n 2, 1) := by decide +kernel
theorem dJ1_indexOfChar_4cfef_5 : decode cJ1_indexOfChar_4cfef 5 = .ok (.istore 5, 2) := by decide +kernel
theorem dJ1_indexOfChar_4cfef_7 : decode cJ1_indexOfChar_4cfef 7 = .ok (.iload 5, 2) := by decide +kernel
theorem dJ1_indexOfChar_4cfef_9 : decode cJ1_indexOfChar_4cfef 9 = .ok (.iload_n 3, 1) := by decide +kernel
theorem dJ1_indexOfChar_4cfef_10 : decode cJ1_indexOfChar_4cfef 10 = .ok (.if_icmp .ge 21, 3) := by decide +kernel
theorem dJ1_indexOfChar_4cfef_13 : decode cJ1_indexOfChar_4cfef 13 = .ok (.aload_n 0, 1) := by decide +kernel
theorem dJ1_indexOfChar_4cfef_14 : decode cJ1_indexOfChar_4cfef 14 = .ok (.iload 5, 2) := by decide +kernel
theorem dJ1_indexOfChar_4cfef_16 : decode cJ1_indexOfChar_4cfef 16 = .ok (.baload, 1) := by decide +kernel
theorem dJ1_indexOfChar_4cfef_17 : decode cJ1_indexOfChar_4cfef 17 = .ok (.iload 4, 2) := by decide +kernel
theorem dJ1_indexOfChar_4cfef_19 : decode cJ1_indexOfChar_4cfef 19 = .ok (.if_icmp .ne 6, 3) := by decide +kernel
theorem dJ1_indexOfChar_4cfef_22 : decode cJ1_indexOfChar_4cfef 22 = .ok (.iload 5, 2) := by decide +kernel
theorem dJ1_indexOfChar_4cfef_24 : decode cJ1_indexOfChar_4cfef 24 = .ok (.ireturn, 1) := by decide +kernel
theorem dJ1_indexOfChar_4cfef_25 : decode cJ1_indexOfChar_4cfef 25 = .ok (.iinc 5 1, 3) := by decide +kernel
theorem dJ1_indexOfChar_4cfef_28 : decode cJ1_indexOfChar_4cfef 28 = .ok (.goto (-21), 3) := by decide +kernel
theorem dJ1_indexOfChar_4cfef_31 : decode cJ1_indexOfChar_4cfef 31 = .ok (.iconst (-1), 1) := by decide +kernel
theorem dJ1_indexOfChar_4cfef_32 : decode cJ1_indexOfChar_4cfef 32 = .ok (.ireturn, 1) := by decide +kernel
theorem dJ2_getChar_3b067_0 : decode cJ2_getChar_3b067 0 = .ok (.getstatic 44, 3) := by decide +kernel
theorem dJ2_getChar_3b067_3 : decode cJ2_getChar_3b067 3 = .ok (.ifCond .ne 25, 3) := by decide +kernel
theorem dJ2_getChar_3b067_6 : decode cJ2_getChar_3b067 6 = .ok (.iload_n 1, 1) := by decide +kernel
theorem dJ2_getChar_3b067_7 : decode cJ2_getChar_3b067 7 = .ok (.ifCond .lt 11, 3) := by decide +kernel
theorem dJ2_getChar_3b067_10 : decode cJ2_getChar_3b067 10 = .ok (.iload_n 1, 1) := by decide +kernel
theorem dJ2_getChar_3b067_11 : decode cJ2_getChar_3b067 11 = .ok (.aload_n 0, 1) := by decide +kernel
theorem dJ2_getChar_3b067_12 : decode cJ2_getChar_3b067 12 = .ok (.invokestatic 48, 3) := by decide +kernel
theorem dJ2_getChar_3b067_15 : decode cJ2_getChar_3b067 15 = .ok (.if_icmp .lt 13, 3) := by decide +kernel
theorem dJ2_getChar_3b067_18 : decode cJ2_getChar_3b067 18 = .ok (.new 52, 3) := by decide +kernel
theorem dJ2_getChar_3b067_21 : decode cJ2_getChar_3b067 21 = .ok (.dup, 1) := by decide +kernel
theorem dJ2_getChar_3b067_22 : decode cJ2_getChar_3b067 22 = .ok (.ldc 54, 2) := by decide +kernel
theorem dJ2_getChar_3b067_24 : decode cJ2_getChar_3b067 24 = .ok (.invokespecial 56, 3) := by decide +kernel
theorem dJ2_getChar_3b067_27 : decode cJ2_getChar_3b067 27 = .ok (.athrow, 1) := by decide +kernel
theorem dJ2_getChar_3b067_28 : decode cJ2_getChar_3b067 28 = .ok (.iload_n 1, 1) := by decide +kernel
theorem dJ2_getChar_3b067_29 : decode cJ2_getChar_3b067 29 = .ok (.iconst 1, 1) := by decide +kernel
theorem dJ2_getChar_3b067_30 : decode cJ2_getChar_3b067 30 = .ok (.ishl, 1) := by decide +kernel
theorem dJ2_getChar_3b067_31 : decode cJ2_getChar_3b067 31 = .ok (.istore_n 1, 1) := by decide +kernel
theorem dJ2_getChar_3b067_32 : decode cJ2_getChar_3b067 32 = .ok (.aload_n 0, 1) := by decide +kernel
theorem dJ2_getChar_3b067_33 : decode cJ2_getChar_3b067 33 = .ok (.iload_n 1, 1) := by decide +kernel
theorem dJ2_getChar_3b067_34 : decode cJ2_getChar_3b067 34 = .ok (.iinc 1 1, 3) := by decide +kernel
theorem dJ2_getChar_3b067_37 : decode cJ2_getChar_3b067 37 = .ok (.baload, 1) := by decide +kernel
theorem dJ2_getChar_3b067_38 : decode cJ2_getChar_3b067 38 = .ok (.sipush 255, 3) := by decide +kernel
theorem dJ2_getChar_3b067_41 : decode cJ2_getChar_3b067 41 = .ok (.iand, 1) := by decide +kernel
theorem dJ2_getChar_3b067_42 : decode cJ2_getChar_3b067 42 = .ok (.getstatic 59, 3) := by decide +kernel
theorem dJ2_getChar_3b067_45 : decode cJ2_getChar_3b067 45 = .ok (.ishl, 1) := by decide +kernel
theorem dJ2_getChar_3b067_46 : decode cJ2_getChar_3b067 46 = .ok (.aload_n 0, 1) := by decide +kernel
theorem dJ2_getChar_3b067_47 : decode cJ2_getChar_3b067 47 = .ok (.iload_n 1, 1) := by decide +kernel
theorem dJ2_getChar_3b067_48 : decode cJ2_getChar_3b067 48 = .ok (.baload, 1) := by decide +kernel
theorem dJ2_getChar_3b067_49 : decode cJ2_getChar_3b067 49 = .ok (.sipush 255, 3) := by decide +kernel
theorem dJ2_getChar_3b067_52 : decode cJ2_getChar_3b067 52 = .ok (.iand, 1) := by decide +kernel
theorem dJ2_getChar_3b067_53 : decode cJ2_getChar_3b067 53 = .ok (.getstatic 63, 3) := by decide +kernel
theorem dJ2_getChar_3b067_56 : decode cJ2_getChar_3b067 56 = .ok (.ishl, 1) := by decide +kernel
theorem dJ2_getChar_3b067_57 : decode cJ2_getChar_3b067 57 = .ok (.ior, 1) := by decide +kernel
theorem dJ2_getChar_3b067_58 : decode cJ2_getChar_3b067 58 = .ok (.i2c, 1) := by decide +kernel
theorem dJ2_getChar_3b067_59 : decode cJ2_getChar_3b067 59 = .ok (.ireturn, 1) := by decide +kernel
theorem dJ2_length_9d52b_0 : decode cJ2_length_9d52b 0 = .ok (.aload_n 0, 1) := by decide +kernel
theorem dJ2_length_9d52b_1 : decode cJ2_length_9d52b 1 = .ok (.arraylength, 1) := by decide +kernel
theorem dJ2_length_9d52b_2 : decode cJ2_length_9d52b 2 = .ok (.iconst 1, 1) := by decide +kernel
theorem dJ2_length_9d52b_3 : decode cJ2_length_9d52b 3 = .ok (.ishr, 1) := by decide +kernel
theorem dJ2_length_9d52b_4 : decode cJ2_length_9d52b 4 = .ok (.ireturn, 1) := by decide +kernel
theorem dJ2_indexOf_4cfef_0 : decode cJ2_indexOf_4cfef 0 = .ok (.iload_n 2, 1) := by decide +kernel
theorem dJ2_indexOf_4cfef_1 : decode cJ2_indexOf_4cfef 1 = .ok (.iconst 0, 1) := by decide +kernel
theorem dJ2_indexOf_4cfef_2 : decode cJ2_indexOf_4cfef 2 = .ok (.invokestatic 224, 3) := by decide +kernel
theorem dJ2_indexOf_4cfef_5 : decode cJ2_indexOf_4cfef 5 = .ok (.istore_n 2, 1) := by decide +kernel
theorem dJ2_indexOf_4cfef_6 : decode cJ2_indexOf_4cfef 6 = .ok (.iload_n 3, 1) := by decide +kernel
theorem dJ2_indexOf_4cfef_7 : decode cJ2_indexOf_4cfef 7 = .ok (.aload_n 0, 1) := by decide +kernel
theorem dJ2_indexOf_4cfef_8 : decode cJ2_indexOf_4cfef 8 = .ok (.arraylength, 1) := by decide +kernel
theorem dJ2_indexOf_4cfef_9 : decode cJ2_indexOf_4cfef 9 = .ok (.iconst 1, 1) := by decide +kernel
theorem dJ2_indexOf_4cfef_10 : decode cJ2_indexOf_4cfef 10 = .ok (.ishr, 1) := by decide +kernel
theorem dJ2_indexOf_4cfef_11 : decode cJ2_indexOf_4cfef 11 = .ok (.invokestatic 183, 3) := by decide +kernel
theorem dJ2_indexOf_4cfef_14 : decode cJ2_indexOf_4cfef 14 = .ok (.istore_n 3, 1) := by decide +kernel
theorem dJ2_indexOf_4cfef_15 : decode cJ2_indexOf_4cfef 15 = .ok (.iload_n 2, 1) := by decide +kernel
theorem dJ2_indexOf_4cfef_16 : decode cJ2_indexOf_4cfef 16 = .ok (.iload_n 3, 1) := by decide +kernel
theorem dJ2_indexOf_4cfef_17 : decode cJ2_indexOf_4cfef 17 = .ok (.if_icmp .lt 5, 3) := by decide +kernel
theorem dJ2_indexOf_4cfef_20 : decode cJ2_indexOf_4cfef 20 = .ok (.iconst (-1), 1) := by decide +kernel
theorem dJ2_indexOf_4cfef_21 : decode cJ2_indexOf_4cfef 21 = .ok (.ireturn, 1) := by decide +kernel
theorem dJ2_indexOf_4cfef_22 : decode cJ2_indexOf_4cfef 22 = .ok (.iload_n 1, 1) := by decide +kernel
theorem dJ2_indexOf_4cfef_23 : decode cJ2_indexOf_4cfef 23 = .ok (.ldc 227, 2) := by decide +kernel
theorem dJ2_indexOf_4cfef_25 : decode cJ2_indexOf_4cfef 25 = .ok (.if_icmp .ge 11, 3) := by decide +kernel
theorem dJ2_indexOf_4cfef_28 : decode cJ2_indexOf_4cfef 28 = .ok (.aload_n 0, 1) := by decide +kernel
theorem dJ2_indexOf_4cfef_29 : decode cJ2_indexOf_4cfef 29 = .ok (.iload_n 1, 1) := by decide +kernel
theorem dJ2_indexOf_4cfef_30 : decode cJ2_indexOf_4cfef 30 = .ok (.iload_n 2, 1) := by decide +kernel
theorem dJ2_indexOf_4cfef_31 : decode cJ2_indexOf_4cfef 31 = .ok (.iload_n 3, 1) := by decide +kernel
theorem dJ2_indexOf_4cfef_32 : decode cJ2_indexOf_4cfef 32 = .ok (.invokestatic 228, 3) := by decide +kernel
theorem dJ2_indexOf_4cfef_35 : decode cJ2_indexOf_4cfef 35 = .ok (.ireturn, 1) := by decide +kernel
theorem dJ2_indexOf_4cfef_36 : decode cJ2_indexOf_4cfef 36 = .ok (.aload_n 0, 1) := by decide +kernel
theorem dJ2_indexOf_4cfef_37 : decode cJ2_indexOf_4cfef 37 = .ok (.iload_n 1, 1) := by decide +kernel
theorem dJ2_indexOf_4cfef_38 : decode cJ2_indexOf_4cfef 38 = .ok (.iload_n 2, 1) := by decide +kernel
theorem dJ2_indexOf_4cfef_39 : decode cJ2_indexOf_4cfef 39 = .ok (.iload_n 3, 1) := by decide +kernel
theorem dJ2_indexOf_4cfef_40 : decode cJ2_indexOf_4cfef 40 = .ok (.invokestatic 232, 3) := by decide +kernel
theorem dJ2_indexOf_4cfef_43 : decode cJ2_indexOf_4cfef 43 = .ok (.ireturn, 1) := by decide +kernel
theorem dJ2_indexOfChar_4cfef_0 : decode cJ2_indexOfChar_4cfef 0 = .ok (.iload_n 2, 1) := by decide +kernel
theorem dJ2_indexOfChar_4cfef_1 : decode cJ2_indexOfChar_4cfef 1 = .ok (.iload_n 3, 1) := by decide +kernel
theorem dJ2_indexOfChar_4cfef_2 : decode cJ2_indexOfChar_4cfef 2 = .ok (.aload_n 0, 1) := by decide +kernel
theorem dJ2_indexOfChar_4cfef_3 : decode cJ2_indexOfChar_4cfef 3 = .ok (.invokestatic 96, 3) := by decide +kernel
theorem dJ2_indexOfChar_4cfef_6 : decode cJ2_indexOfChar_4cfef 6 = .ok (.aload_n 0, 1) := by decide +kernel
theorem dJ2_indexOfChar_4cfef_7 : decode cJ2_indexOfChar_4cfef 7 = .ok (.iload_n 1, 1) := by decide +kernel
theorem dJ2_indexOfChar_4cfef_8 : decode cJ2_indexOfChar_4cfef 8 = .ok (.iload_n 2, 1) := by decide +kernel
theorem dJ2_indexOfChar_4cfef_9 : decode cJ2_indexOfChar_4cfef 9 = .ok (.iload_n 3, 1) := by decide +kernel
theorem dJ2_indexOfChar_4cfef_10 : decode cJ2_indexOfChar_4cfef 10 = .ok (.invokestatic 244, 3) := by decide +kernel
theorem dJ2_indexOfChar_4cfef_13 : decode cJ2_indexOfChar_4cfef 13 = .ok (.ireturn, 1) := by decide +kernel
theorem dJ2_indexOfCharUnsafe_4cfef_0 : decode cJ2_indexOfCharUnsafe_4cfef 0 = .ok (.iload_n 2, 1) := by decide +kernel
theorem dJ2_indexOfCharUnsafe_4cfef_1 : decode cJ2_indexOfCharUnsafe_4cfef 1 = .ok (.istore 4, 2) := by decide +kernel
theorem dJ2_indexOfCharUnsafe_4cfef_3 : decode cJ2_indexOfCharUnsafe_4cfef 3 = .ok (.iload 4, 2) := by decide +kernel
theorem dJ2_indexOfCharUnsafe_4cfef_5 : decode cJ2_indexOfCharUnsafe_4cfef 5 = .ok (.iload_n 3, 1) := by decide +kernel
theorem dJ2_indexOfCharUnsafe_4cfef_6 : decode cJ2_indexOfCharUnsafe_4cfef 6 = .ok (.if_icmp .ge 22, 3) := by decide +kernel
theorem dJ2_indexOfCharUnsafe_4cfef_9 : decode cJ2_indexOfCharUnsafe_4cfef 9 = .ok (.aload_n 0, 1) := by decide +kernel
theorem dJ2_indexOfCharUnsafe_4cfef_10 : decode cJ2_indexOfCharUnsafe_4cfef 10 = .ok (.iload 4, 2) := by decide +kernel
theorem dJ2_indexOfCharUnsafe_4cfef_12 : decode cJ2_indexOfCharUnsafe_4cfef 12 = .ok (.invokestatic 71, 3) := by decide +kernel
theorem dJ2_indexOfCharUnsafe_4cfef_15 : decode cJ2_indexOfCharUnsafe_4cfef 15 = .ok (.iload_n 1, 1) := by decide +kernel
theorem dJ2_indexOfCharUnsafe_4cfef_16 : decode cJ2_indexOfCharUnsafe_4cfef 16 = .ok (.if_icmp .ne 6, 3) := by decide +kernel
theorem dJ2_indexOfCharUnsafe_4cfef_19 : decode cJ2_indexOfCharUnsafe_4cfef 19 = .ok (.iload 4, 2) := by decide +kernel
theorem dJ2_indexOfCharUnsafe_4cfef_21 : decode cJ2_indexOfCharUnsafe_4cfef 21 = .ok (.ireturn, 1) := by decide +kernel
theorem dJ2_indexOfCharUnsafe_4cfef_22 : decode cJ2_indexOfCharUnsafe_4cfef 22 = .ok (.iinc 4 1, 3) := by decide +kernel
theorem dJ2_indexOfCharUnsafe_4cfef_25 : decode cJ2_indexOfCharUnsafe_4cfef 25 = .ok (.goto (-22), 3) := by decide +kernel
theorem dJ2_indexOfCharUnsafe_4cfef_28 : decode cJ2_indexOfCharUnsafe_4cfef 28 = .ok (.iconst (-1), 1) := by decide +kernel
theorem dJ2_indexOfCharUnsafe_4cfef_29 : decode cJ2_indexOfCharUnsafe_4cfef 29 = .ok (.ireturn, 1) := by decide +kernel
theorem dJ2_indexOfSupplementary_4cfef_0 : decode cJ2_indexOfSupplementary_4cfef 0 = .ok (.iload_n 1, 1) := by decide +kernel
theorem dJ2_indexOfSupplementary_4cfef_1 : decode cJ2_indexOfSupplementary_4cfef 1 = .ok (.invokestatic 164, 3) := by decide +kernel
theorem dJ2_indexOfSupplementary_4cfef_4 : decode cJ2_indexOfSupplementary_4cfef 4 = .ok (.ifCond .eq 65, 3) := by decide +kernel
theorem dJ2_indexOfSupplementary_4cfef_7 : decode cJ2_indexOfSupplementary_4cfef 7 = .ok (.iload_n 1, 1) := by decide +kernel
theorem dJ2_indexOfSupplementary_4cfef_8 : decode cJ2_indexOfSupplementary_4cfef 8 = .ok (.invokestatic 157, 3) := by decide +kernel
theorem dJ2_indexOfSupplementary_4cfef_11 : decode cJ2_indexOfSupplementary_4cfef 11 = .ok (.istore 4, 2) := by decide +kernel
theorem dJ2_indexOfSupplementary_4cfef_13 : decode cJ2_indexOfSupplementary_4cfef 13 = .ok (.iload_n 1, 1) := by decide +kernel
theorem dJ2_indexOfSupplementary_4cfef_14 : decode cJ2_indexOfSupplementary_4cfef 14 = .ok (.invokestatic 161, 3) := by decide +kernel
theorem dJ2_indexOfSupplementary_4cfef_17 : decode cJ2_indexOfSupplementary_4cfef 17 = .ok (.istore 5, 2) := by decide +kernel
theorem dJ2_indexOfSupplementary_4cfef_19 : decode cJ2_indexOfSupplementary_4cfef 19 = .ok (.iload_n 2, 1) := by decide +kernel
theorem dJ2_indexOfSupplementary_4cfef_20 : decode cJ2_indexOfSupplementary_4cfef 20 = .ok (.iload_n 3, 1) := by decide +kernel
theorem dJ2_indexOfSupplementary_4cfef_21 : decode cJ2_indexOfSupplementary_4cfef 21 = .ok (.aload_n 0, 1) := by decide +kernel
theorem dJ2_indexOfSupplementary_4cfef_22 : decode cJ2_indexOfSupplementary_4cfef 22 = .ok (.invokestatic 96, 3) := by decide +kernel
theorem dJ2_indexOfSupplementary_4cfef_25 : decode cJ2_indexOfSupplementary_4cfef 25 = .ok (.iload_n 2, 1) := by decide +kernel
theorem dJ2_indexOfSupplementary_4cfef_26 : decode cJ2_indexOfSupplementary_4cfef 26 = .ok (.istore 6, 2) := by decide +kernel
theorem dJ2_indexOfSupplementary_4cfef_28 : decode cJ2_indexOfSupplementary_4cfef 28 = .ok (.iload 6, 2) := by decide +kernel
theorem dJ2_indexOfSupplementary_4cfef_30 : decode cJ2_indexOfSupplementary_4cfef 30 = .ok (.iload_n 3, 1) := by decide +kernel
theorem dJ2_indexOfSupplementary_4cfef_31 : decode cJ2_indexOfSupplementary_4cfef 31 = .ok (.iconst 1, 1) := by decide +kernel
theorem dJ2_indexOfSupplementary_4cfef_32 : decode cJ2_indexOfSupplementary_4cfef 32 = .ok (.isub, 1) := by decide +kernel
theorem dJ2_indexOfSupplementary_4cfef_33 : decode cJ2_indexOfSupplementary_4cfef 33 = .ok (.if_icmp .ge 36, 3) := by decide +kernel
theorem dJ2_indexOfSupplementary_4cfef_36 : decode cJ2_indexOfSupplementary_4cfef 36 = .ok (.aload_n 0, 1) := by decide +kernel
theorem dJ2_indexOfSupplementary_4cfef_37 : decode cJ2_indexOfSupplementary_4cfef 37 = .ok (.iload 6, 2) := by decide +kernel
theorem dJ2_indexOfSupplementary_4cfef_39 : decode cJ2_indexOfSupplementary_4cfef 39 = .ok (.invokestatic 71, 3) := by decide +kernel
theorem dJ2_indexOfSupplementary_4cfef_42 : decode cJ2_indexOfSupplementary_4cfef 42 = .ok (.iload 4, 2) := by decide +kernel
theorem dJ2_indexOfSupplementary_4cfef_44 : decode cJ2_indexOfSupplementary_4cfef 44 = .ok (.if_icmp .ne 19, 3) := by decide +kernel
theorem dJ2_indexOfSupplementary_4cfef_47 : decode cJ2_indexOfSupplementary_4cfef 47 = .ok (.aload_n 0, 1) := by decide +kernel
theorem dJ2_indexOfSupplementary_4cfef_48 : decode cJ2_indexOfSupplementary_4cfef 48 = .ok (.iload 6, 2) := by decide +kernel
theorem dJ2_indexOfSupplementary_4cfef_50 : decode cJ2_indexOfSupplementary_4cfef 50 = .ok (.iconst 1, 1) := by decide +kernel
theorem dJ2_indexOfSupplementary_4cfef_51 : decode cJ2_indexOfSupplementary_4cfef 51 = .ok (.iadd, 1) := by decide +kernel
theorem dJ2_indexOfSupplementary_4cfef_52 : decode cJ2_indexOfSupplementary_4cfef 52 = .ok (.invokestatic 71, 3) := by decide +kernel
theorem dJ2_indexOfSupplementary_4cfef_55 : decode cJ2_indexOfSupplementary_4cfef 55 = .ok (.iload 5, 2) := by decide +kernel
theorem dJ2_indexOfSupplementary_4cfef_57 : decode cJ2_indexOfSupplementary_4cfef 57 = .ok (.if_icmp .ne 6, 3) := by decide +kernel
theorem dJ2_indexOfSupplementary_4cfef_60 : decode cJ2_indexOfSupplementary_4cfef 60 = .ok (.iload 6, 2) := by decide +kernel
theorem dJ2_indexOfSupplementary_4cfef_62 : decode cJ2_indexOfSupplementary_4cfef 62 = .ok (.ireturn, 1) := by decide +kernel
theorem dJ2_indexOfSupplementary_4cfef_63 : decode cJ2_indexOfSupplementary_4cfef 63 = .ok (.iinc 6 1, 3) := by decide +kernel
theorem dJ2_indexOfSupplementary_4cfef_66 : decode cJ2_indexOfSupplementary_4cfef 66 = .ok (.goto (-38), 3) := by decide +kernel
theorem dJ2_indexOfSupplementary_4cfef_69 : decode cJ2_indexOfSupplementary_4cfef 69 = .ok (.iconst (-1), 1) := by decide +kernel
theorem dJ2_indexOfSupplementary_4cfef_70 : decode cJ2_indexOfSupplementary_4cfef 70 = .ok (.ireturn, 1) := by decide +kernel
theorem dJ2_checkBoundsBeginEnd_d044e_0 : decode cJ2_checkBoundsBeginEnd_d044e 0 = .ok (.iload_n 0, 1) := by decide +kernel
theorem dJ2_checkBoundsBeginEnd_d044e_1 : decode cJ2_checkBoundsBeginEnd_d044e 1 = .ok (.iload_n 1, 1) := by decide +kernel
theorem dJ2_checkBoundsBeginEnd_d044e_2 : decode cJ2_checkBoundsBeginEnd_d044e 2 = .ok (.aload_n 2, 1) := by decide +kernel
theorem dJ2_checkBoundsBeginEnd_d044e_3 : decode cJ2_checkBoundsBeginEnd_d044e 3 = .ok (.invokestatic 48, 3) := by decide +kernel
theorem dJ2_checkBoundsBeginEnd_d044e_6 : decode cJ2_checkBoundsBeginEnd_d044e 6 = .ok (.invokestatic 241, 3) := by decide +kernel
theorem dJ2_checkBoundsBeginEnd_d044e_9 : decode cJ2_checkBoundsBeginEnd_d044e 9 = .ok (.return_, 1) := by decide +kernel
theorem dJ7_fill_53178_0 : decode cJ7_fill_53178 0 = .ok (.iconst 0, 1) := by decide +kernel
theorem dJ7_fill_53178_1 : decode cJ7_fill_53178 1 = .ok (.istore_n 2, 1) := by decide +kernel
theorem dJ7_fill_53178_2 : decode cJ7_fill_53178 2 = .ok (.aload_n 0, 1) := by decide +kernel
theorem dJ7_fill_53178_3 : decode cJ7_fill_53178 3 = .ok (.arraylength, 1) := by decide +kernel
theorem dJ7_fill_53178_4 : decode cJ7_fill_53178 4 = .ok (.istore_n 3, 1) := by decide +kernel
theorem dJ7_fill_53178_5 : decode cJ7_fill_53178 5 = .ok (.iload_n 2, 1) := by decide +kernel
theorem dJ7_fill_53178_6 : decode cJ7_fill_53178 6 = .ok (.iload_n 3, 1) := by decide +kernel
theorem dJ7_fill_53178_7 : decode cJ7_fill_53178 7 = .ok (.if_icmp .ge 13, 3) := by decide +kernel
theorem dJ7_fill_53178_10 : decode cJ7_fill_53178 10 = .ok (.aload_n 0, 1) := by decide +kernel
theorem dJ7_fill_53178_11 : decode cJ7_fill_53178 11 = .ok (.iload_n 2, 1) := by decide +kernel
theorem dJ7_fill_53178_12 : decode cJ7_fill_53178 12 = .ok (.iload_n 1, 1) := by decide +kernel
theorem dJ7_fill_53178_13 : decode cJ7_fill_53178 13 = .ok (.iastore, 1) := by decide +kernel
theorem dJ7_fill_53178_14 : decode cJ7_fill_53178 14 = .ok (.iinc 2 1, 3) := by decide +kernel
theorem dJ7_fill_53178_17 : decode cJ7_fill_53178 17 = .ok (.goto (-12), 3) := by decide +kernel
theorem dJ7_fill_53178_20 : decode cJ7_fill_53178 20 = .ok (.return_, 1) := by decide +kernel
theorem dJ3_checkFromToIndex_8c36e_0 : decode cJ3_checkFromToIndex_8c36e 0 = .ok (.iload_n 0, 1) := by decide +kernel
theorem dJ3_checkFromToIndex_8c36e_1 : decode cJ3_checkFromToIndex_8c36e 1 = .ok (.ifCond .lt 13, 3) := by decide +kernel
theorem dJ3_checkFromToIndex_8c36e_4 : decode cJ3_checkFromToIndex_8c36e 4 = .ok (.iload_n 0, 1) := by decide +kernel
theorem dJ3_checkFromToIndex_8c36e_5 : decode cJ3_checkFromToIndex_8c36e 5 = .ok (.iload_n 1, 1) := by decide +kernel
theorem dJ3_checkFromToIndex_8c36e_6 : decode cJ3_checkFromToIndex_8c36e 6 = .ok (.if_icmp .gt 8, 3) := by decide +kernel
theorem dJ3_checkFromToIndex_8c36e_9 : decode cJ3_checkFromToIndex_8c36e 9 = .ok (.iload_n 1, 1) := by decide +kernel
theorem dJ3_checkFromToIndex_8c36e_10 : decode cJ3_checkFromToIndex_8c36e 10 = .ok (.iload_n 2, 1) := by decide +kernel
theorem dJ3_checkFromToIndex_8c36e_11 : decode cJ3_checkFromToIndex_8c36e 11 = .ok (.if_icmp .le 11, 3) := by decide +kernel
theorem dJ3_checkFromToIndex_8c36e_14 : decode cJ3_checkFromToIndex_8c36e 14 = .ok (.aload_n 3, 1) := by decide +kernel
theorem dJ3_checkFromToIndex_8c36e_15 : decode cJ3_checkFromToIndex_8c36e 15 = .ok (.iload_n 0, 1) := by decide +kernel
theorem dJ3_checkFromToIndex_8c36e_16 : decode cJ3_checkFromToIndex_8c36e 16 = .ok (.iload_n 1, 1) := by decide +kernel
theorem dJ3_checkFromToIndex_8c36e_17 : decode cJ3_checkFromToIndex_8c36e 17 = .ok (.iload_n 2, 1) := by decide +kernel
theorem dJ3_checkFromToIndex_8c36e_18 : decode cJ3_checkFromToIndex_8c36e 18 = .ok (.invokestatic 99, 3) := by decide +kernel
theorem dJ3_checkFromToIndex_8c36e_21 : decode cJ3_checkFromToIndex_8c36e 21 = .ok (.athrow, 1) := by decide +kernel
theorem dJ3_checkFromToIndex_8c36e_22 : decode cJ3_checkFromToIndex_8c36e 22 = .ok (.iload_n 0, 1) := by decide +kernel
theorem dJ3_checkFromToIndex_8c36e_23 : decode cJ3_checkFromToIndex_8c36e 23 = .ok (.ireturn, 1) := by decide +kernel
theorem dL_append_0 : decode cL_append 0 = .ok (.aload_n 2, 1) := by decide +kernel
theorem dL_append_1 : decode cL_append 1 = .ok (.iconst 0, 1) := by decide +kernel
theorem dL_append_2 : decode cL_append 2 = .ok (.aload_n 0, 1) := by decide +kernel
theorem dL_append_3 : decode cL_append 3 = .ok (.iload_n 1, 1) := by decide +kernel
theorem dL_append_4 : decode cL_append 4 = .ok (.invokevirtual 7, 3) := by decide +kernel
theorem dL_append_7 : decode cL_append 7 = .ok (.i2l, 1) := by decide +kernel
theorem dL_append_8 : decode cL_append 8 = .ok (.lastore, 1) := by decide +kernel
theorem dL_append_9 : decode cL_append 9 = .ok (.goto 9, 3) := by decide +kernel
theorem dL_append_12 : decode cL_append 12 = .ok (.astore_n 3, 1) := by decide +kernel
theorem dL_append_13 : decode cL_append 13 = .ok (.iconst 1, 1) := by decide +kernel
theorem dL_append_14 : decode cL_append 14 = .ok (.ireturn, 1) := by decide +kernel
theorem dL_append_15 : decode cL_append 15 = .ok (.astore_n 3, 1) := by decide +kernel
theorem dL_append_16 : decode cL_append 16 = .ok (.iconst 2, 1) := by decide +kernel
theorem dL_append_17 : decode cL_append 17 = .ok (.ireturn, 1) := by decide +kernel
theorem dL_append_18 : decode cL_append 18 = .ok (.iconst 0, 1) := by decide +kernel
theorem dL_append_19 : decode cL_append 19 = .ok (.ireturn, 1) := by decide +kernel
theorem dL_load_0 : decode cL_load 0 = .ok (.aload_n 1, 1) := by decide +kernel
theorem dL_load_1 : decode cL_load 1 = .ok (.iconst 0, 1) := by decide +kernel
theorem dL_load_2 : decode cL_load 2 = .ok (.aload_n 0, 1) := by decide +kernel
theorem dL_load_3 : decode cL_load 3 = .ok (.invokevirtual 17, 3) := by decide +kernel
theorem dL_load_6 : decode cL_load 6 = .ok (.i2l, 1) := by decide +kernel
theorem dL_load_7 : decode cL_load 7 = .ok (.lastore, 1) := by decide +kernel
theorem dL_load_8 : decode cL_load 8 = .ok (.goto 6, 3) := by decide +kernel
theorem dL_load_11 : decode cL_load 11 = .ok (.astore_n 2, 1) := by decide +kernel
theorem dL_load_12 : decode cL_load 12 = .ok (.iconst 1, 1) := by decide +kernel
theorem dL_load_13 : decode cL_load 13 = .ok (.ireturn, 1) := by decide +kernel
theorem dL_load_14 : decode cL_load 14 = .ok (.iconst 0, 1) := by decide +kernel
theorem dL_load_15 : decode cL_load 15 = .ok (.ireturn, 1) := by decide +kernel
theorem dL_about_0 : decode cL_about 0 = .ok (.aload_n 2, 1) := by decide +kernel
theorem dL_about_1 : decode cL_about 1 = .ok (.iconst 0, 1) := by decide +kernel
theorem dL_about_2 : decode cL_about 2 = .ok (.aload_n 0, 1) := by decide +kernel
theorem dL_about_3 : decode cL_about 3 = .ok (.iload_n 1, 1) := by decide +kernel
theorem dL_about_4 : decode cL_about 4 = .ok (.invokevirtual 21, 3) := by decide +kernel
theorem dL_about_7 : decode cL_about 7 = .ok (.i2l, 1) := by decide +kernel
theorem dL_about_8 : decode cL_about 8 = .ok (.lastore, 1) := by decide +kernel
theorem dL_about_9 : decode cL_about 9 = .ok (.goto 6, 3) := by decide +kernel
theorem dL_about_12 : decode cL_about 12 = .ok (.astore_n 3, 1) := by decide +kernel
theorem dL_about_13 : decode cL_about 13 = .ok (.iconst 1, 1) := by decide +kernel
theorem dL_about_14 : decode cL_about 14 = .ok (.ireturn, 1) := by decide +kernel
theorem dL_about_15 : decode cL_about 15 = .ok (.iconst 0, 1) := by decide +kernel
theorem dL_about_16 : decode cL_about 16 = .ok (.ireturn, 1) := by decide +kernel
theorem dL_ownerOf_0 : decode cL_ownerOf 0 = .ok (.aload_n 3, 1) := by decide +kernel
theorem dL_ownerOf_1 : decode cL_ownerOf 1 = .ok (.iconst 0, 1) := by decide +kernel
theorem dL_ownerOf_2 : decode cL_ownerOf 2 = .ok (.aload_n 0, 1) := by decide +kernel
theorem dL_ownerOf_3 : decode cL_ownerOf 3 = .ok (.iload_n 1, 1) := by decide +kernel
theorem dL_ownerOf_4 : decode cL_ownerOf 4 = .ok (.iload_n 2, 1) := by decide +kernel
theorem dL_ownerOf_5 : decode cL_ownerOf 5 = .ok (.invokevirtual 24, 3) := by decide +kernel
theorem dL_ownerOf_8 : decode cL_ownerOf 8 = .ok (.i2l, 1) := by decide +kernel
theorem dL_ownerOf_9 : decode cL_ownerOf 9 = .ok (.lastore, 1) := by decide +kernel
theorem dL_ownerOf_10 : decode cL_ownerOf 10 = .ok (.goto 11, 3) := by decide +kernel
theorem dL_ownerOf_13 : decode cL_ownerOf 13 = .ok (.astore 4, 2) := by decide +kernel
theorem dL_ownerOf_15 : decode cL_ownerOf 15 = .ok (.iconst 1, 1) := by decide +kernel
theorem dL_ownerOf_16 : decode cL_ownerOf 16 = .ok (.ireturn, 1) := by decide +kernel
theorem dL_ownerOf_17 : decode cL_ownerOf 17 = .ok (.astore 4, 2) := by decide +kernel
theorem dL_ownerOf_19 : decode cL_ownerOf 19 = .ok (.iconst 2, 1) := by decide +kernel
theorem dL_ownerOf_20 : decode cL_ownerOf 20 = .ok (.ireturn, 1) := by decide +kernel
theorem dL_ownerOf_21 : decode cL_ownerOf 21 = .ok (.iconst 0, 1) := by decide +kernel
theorem dL_ownerOf_22 : decode cL_ownerOf 22 = .ok (.ireturn, 1) := by decide +kernel
theorem dL_weekOf_0 : decode cL_weekOf 0 = .ok (.aload_n 3, 1) := by decide +kernel
theorem dL_weekOf_1 : decode cL_weekOf 1 = .ok (.iconst 0, 1) := by decide +kernel
theorem dL_weekOf_2 : decode cL_weekOf 2 = .ok (.aload_n 0, 1) := by decide +kernel
theorem dL_weekOf_3 : decode cL_weekOf 3 = .ok (.iload_n 1, 1) := by decide +kernel
theorem dL_weekOf_4 : decode cL_weekOf 4 = .ok (.iload_n 2, 1) := by decide +kernel
theorem dL_weekOf_5 : decode cL_weekOf 5 = .ok (.invokevirtual 30, 3) := by decide +kernel
theorem dL_weekOf_8 : decode cL_weekOf 8 = .ok (.i2l, 1) := by decide +kernel
theorem dL_weekOf_9 : decode cL_weekOf 9 = .ok (.lastore, 1) := by decide +kernel
theorem dL_weekOf_10 : decode cL_weekOf 10 = .ok (.goto 11, 3) := by decide +kernel
theorem dL_weekOf_13 : decode cL_weekOf 13 = .ok (.astore 4, 2) := by decide +kernel
theorem dL_weekOf_15 : decode cL_weekOf 15 = .ok (.iconst 1, 1) := by decide +kernel
theorem dL_weekOf_16 : decode cL_weekOf 16 = .ok (.ireturn, 1) := by decide +kernel
theorem dL_weekOf_17 : decode cL_weekOf 17 = .ok (.astore 4, 2) := by decide +kernel
theorem dL_weekOf_19 : decode cL_weekOf 19 = .ok (.iconst 2, 1) := by decide +kernel
theorem dL_weekOf_20 : decode cL_weekOf 20 = .ok (.ireturn, 1) := by decide +kernel
theorem dL_weekOf_21 : decode cL_weekOf 21 = .ok (.iconst 0, 1) := by decide +kernel
theorem dL_weekOf_22 : decode cL_weekOf 22 = .ok (.ireturn, 1) := by decide +kernel
theorem dL_bidOf_0 : decode cL_bidOf 0 = .ok (.aload_n 3, 1) := by decide +kernel
theorem dL_bidOf_1 : decode cL_bidOf 1 = .ok (.iconst 0, 1) := by decide +kernel
theorem dL_bidOf_2 : decode cL_bidOf 2 = .ok (.aload_n 0, 1) := by decide +kernel
theorem dL_bidOf_3 : decode cL_bidOf 3 = .ok (.iload_n 1, 1) := by decide +kernel
theorem dL_bidOf_4 : decode cL_bidOf 4 = .ok (.iload_n 2, 1) := by decide +kernel
theorem dL_bidOf_5 : decode cL_bidOf 5 = .ok (.invokevirtual 33, 3) := by decide +kernel
theorem dL_bidOf_8 : decode cL_bidOf 8 = .ok (.i2l, 1) := by decide +kernel
theorem dL_bidOf_9 : decode cL_bidOf 9 = .ok (.lastore, 1) := by decide +kernel
theorem dL_bidOf_10 : decode cL_bidOf 10 = .ok (.goto 7, 3) := by decide +kernel
theorem dL_bidOf_13 : decode cL_bidOf 13 = .ok (.astore 4, 2) := by decide +kernel
theorem dL_bidOf_15 : decode cL_bidOf 15 = .ok (.iconst 1, 1) := by decide +kernel
theorem dL_bidOf_16 : decode cL_bidOf 16 = .ok (.ireturn, 1) := by decide +kernel
theorem dL_bidOf_17 : decode cL_bidOf 17 = .ok (.iconst 0, 1) := by decide +kernel
theorem dL_bidOf_18 : decode cL_bidOf 18 = .ok (.ireturn, 1) := by decide +kernel
theorem dL_offerOf_0 : decode cL_offerOf 0 = .ok (.aload_n 3, 1) := by decide +kernel
theorem dL_offerOf_1 : decode cL_offerOf 1 = .ok (.iconst 0, 1) := by decide +kernel
theorem dL_offerOf_2 : decode cL_offerOf 2 = .ok (.aload_n 0, 1) := by decide +kernel
theorem dL_offerOf_3 : decode cL_offerOf 3 = .ok (.iload_n 1, 1) := by decide +kernel
theorem dL_offerOf_4 : decode cL_offerOf 4 = .ok (.iload_n 2, 1) := by decide +kernel
theorem dL_offerOf_5 : decode cL_offerOf 5 = .ok (.invokevirtual 36, 3) := by decide +kernel
theorem dL_offerOf_8 : decode cL_offerOf 8 = .ok (.i2l, 1) := by decide +kernel
theorem dL_offerOf_9 : decode cL_offerOf 9 = .ok (.lastore, 1) := by decide +kernel
theorem dL_offerOf_10 : decode cL_offerOf 10 = .ok (.goto 11, 3) := by decide +kernel
theorem dL_offerOf_13 : decode cL_offerOf 13 = .ok (.astore 4, 2) := by decide +kernel
theorem dL_offerOf_15 : decode cL_offerOf 15 = .ok (.iconst 1, 1) := by decide +kernel
theorem dL_offerOf_16 : decode cL_offerOf 16 = .ok (.ireturn, 1) := by decide +kernel
theorem dL_offerOf_17 : decode cL_offerOf 17 = .ok (.astore 4, 2) := by decide +kernel
theorem dL_offerOf_19 : decode cL_offerOf 19 = .ok (.iconst 2, 1) := by decide +kernel
theorem dL_offerOf_20 : decode cL_offerOf 20 = .ok (.ireturn, 1) := by decide +kernel
theorem dL_offerOf_21 : decode cL_offerOf 21 = .ok (.iconst 0, 1) := by decide +kernel
theorem dL_offerOf_22 : decode cL_offerOf 22 = .ok (.ireturn, 1) := by decide +kernel
theorem dL_owner_0 : decode cL_owner 0 = .ok (.aload_n 2, 1) := by decide +kernel
theorem dL_owner_1 : decode cL_owner 1 = .ok (.iconst 0, 1) := by decide +kernel
theorem dL_owner_2 : decode cL_owner 2 = .ok (.aload_n 0, 1) := by decide +kernel
theorem dL_owner_3 : decode cL_owner 3 = .ok (.iload_n 1, 1) := by decide +kernel
theorem dL_owner_4 : decode cL_owner 4 = .ok (.invokevirtual 39, 3) := by decide +kernel
theorem dL_owner_7 : decode cL_owner 7 = .ok (.i2l, 1) := by decide +kernel
theorem dL_owner_8 : decode cL_owner 8 = .ok (.lastore, 1) := by decide +kernel
theorem dL_owner_9 : decode cL_owner 9 = .ok (.goto 9, 3) := by decide +kernel
theorem dL_owner_12 : decode cL_owner 12 = .ok (.astore_n 3, 1) := by decide +kernel
theorem dL_owner_13 : decode cL_owner 13 = .ok (.iconst 1, 1) := by decide +kernel
theorem dL_owner_14 : decode cL_owner 14 = .ok (.ireturn, 1) := by decide +kernel
theorem dL_owner_15 : decode cL_owner 15 = .ok (.astore_n 3, 1) := by decide +kernel
theorem dL_owner_16 : decode cL_owner 16 = .ok (.iconst 2, 1) := by decide +kernel
theorem dL_owner_17 : decode cL_owner 17 = .ok (.ireturn, 1) := by decide +kernel
theorem dL_owner_18 : decode cL_owner 18 = .ok (.iconst 0, 1) := by decide +kernel
theorem dL_owner_19 : decode cL_owner 19 = .ok (.ireturn, 1) := by decide +kernel
theorem dL_cost_0 : decode cL_cost 0 = .ok (.aload_n 3, 1) := by decide +kernel
theorem dL_cost_1 : decode cL_cost 1 = .ok (.iconst 0, 1) := by decide +kernel
theorem dL_cost_2 : decode cL_cost 2 = .ok (.aload_n 0, 1) := by decide +kernel
theorem dL_cost_3 : decode cL_cost 3 = .ok (.iload_n 1, 1) := by decide +kernel
theorem dL_cost_4 : decode cL_cost 4 = .ok (.iload_n 2, 1) := by decide +kernel
theorem dL_cost_5 : decode cL_cost 5 = .ok (.invokevirtual 42, 3) := by decide +kernel
theorem dL_cost_8 : decode cL_cost 8 = .ok (.i2l, 1) := by decide +kernel
theorem dL_cost_9 : decode cL_cost 9 = .ok (.lastore, 1) := by decide +kernel
theorem dL_cost_10 : decode cL_cost 10 = .ok (.goto 11, 3) := by decide +kernel
theorem dL_cost_13 : decode cL_cost 13 = .ok (.astore 4, 2) := by decide +kernel
theorem dL_cost_15 : decode cL_cost 15 = .ok (.iconst 1, 1) := by decide +kernel
theorem dL_cost_16 : decode cL_cost 16 = .ok (.ireturn, 1) := by decide +kernel
theorem dL_cost_17 : decode cL_cost 17 = .ok (.astore 4, 2) := by decide +kernel
theorem dL_cost_19 : decode cL_cost 19 = .ok (.iconst 2, 1) := by decide +kernel
theorem dL_cost_20 : decode cL_cost 20 = .ok (.ireturn, 1) := by decide +kernel
theorem dL_cost_21 : decode cL_cost 21 = .ok (.iconst 0, 1) := by decide +kernel
theorem dL_cost_22 : decode cL_cost 22 = .ok (.ireturn, 1) := by decide +kernel
theorem dL_school_0 : decode cL_school 0 = .ok (.aload_n 3, 1) := by decide +kernel
theorem dL_school_1 : decode cL_school 1 = .ok (.iconst 0, 1) := by decide +kernel
theorem dL_school_2 : decode cL_school 2 = .ok (.aload_n 0, 1) := by decide +kernel
theorem dL_school_3 : decode cL_school 3 = .ok (.iload_n 1, 1) := by decide +kernel
theorem dL_school_4 : decode cL_school 4 = .ok (.iload_n 2, 1) := by decide +kernel
theorem dL_school_5 : decode cL_school 5 = .ok (.invokevirtual 45, 3) := by decide +kernel
theorem dL_school_8 : decode cL_school 8 = .ok (.i2l, 1) := by decide +kernel
theorem dL_school_9 : decode cL_school 9 = .ok (.lastore, 1) := by decide +kernel
theorem dL_school_10 : decode cL_school 10 = .ok (.goto 7, 3) := by decide +kernel
theorem dL_school_13 : decode cL_school 13 = .ok (.astore 4, 2) := by decide +kernel
theorem dL_school_15 : decode cL_school 15 = .ok (.iconst 1, 1) := by decide +kernel
theorem dL_school_16 : decode cL_school 16 = .ok (.ireturn, 1) := by decide +kernel
theorem dL_school_17 : decode cL_school 17 = .ok (.iconst 0, 1) := by decide +kernel
theorem dL_school_18 : decode cL_school 18 = .ok (.ireturn, 1) := by decide +kernel
theorem dL_take_0 : decode cL_take 0 = .ok (.aload_n 3, 1) := by decide +kernel
theorem dL_take_1 : decode cL_take 1 = .ok (.iconst 0, 1) := by decide +kernel
theorem dL_take_2 : decode cL_take 2 = .ok (.aload_n 0, 1) := by decide +kernel
theorem dL_take_3 : decode cL_take 3 = .ok (.iload_n 1, 1) := by decide +kernel
theorem dL_take_4 : decode cL_take 4 = .ok (.iload_n 2, 1) := by decide +kernel
theorem dL_take_5 : decode cL_take 5 = .ok (.invokevirtual 49, 3) := by decide +kernel
theorem dL_take_8 : decode cL_take 8 = .ok (.i2l, 1) := by decide +kernel
theorem dL_take_9 : decode cL_take 9 = .ok (.lastore, 1) := by decide +kernel
theorem dL_take_10 : decode cL_take 10 = .ok (.goto 7, 3) := by decide +kernel
theorem dL_take_13 : decode cL_take 13 = .ok (.astore 4, 2) := by decide +kernel
theorem dL_take_15 : decode cL_take 15 = .ok (.iconst 1, 1) := by decide +kernel
theorem dL_take_16 : decode cL_take 16 = .ok (.ireturn, 1) := by decide +kernel
theorem dL_take_17 : decode cL_take 17 = .ok (.iconst 0, 1) := by decide +kernel
theorem dL_take_18 : decode cL_take 18 = .ok (.ireturn, 1) := by decide +kernel
theorem dL_release_0 : decode cL_release 0 = .ok (.aload_n 3, 1) := by decide +kernel
theorem dL_release_1 : decode cL_release 1 = .ok (.iconst 0, 1) := by decide +kernel
theorem dL_release_2 : decode cL_release 2 = .ok (.aload_n 0, 1) := by decide +kernel
theorem dL_release_3 : decode cL_release 3 = .ok (.iload_n 1, 1) := by decide +kernel
theorem dL_release_4 : decode cL_release 4 = .ok (.iload_n 2, 1) := by decide +kernel
theorem dL_release_5 : decode cL_release 5 = .ok (.invokevirtual 52, 3) := by decide +kernel
theorem dL_release_8 : decode cL_release 8 = .ok (.i2l, 1) := by decide +kernel
theorem dL_release_9 : decode cL_release 9 = .ok (.lastore, 1) := by decide +kernel
theorem dL_release_10 : decode cL_release 10 = .ok (.goto 11, 3) := by decide +kernel
theorem dL_release_13 : decode cL_release 13 = .ok (.astore 4, 2) := by decide +kernel
theorem dL_release_15 : decode cL_release 15 = .ok (.iconst 1, 1) := by decide +kernel
theorem dL_release_16 : decode cL_release 16 = .ok (.ireturn, 1) := by decide +kernel
theorem dL_release_17 : decode cL_release 17 = .ok (.astore 4, 2) := by decide +kernel
theorem dL_release_19 : decode cL_release 19 = .ok (.iconst 2, 1) := by decide +kernel
theorem dL_release_20 : decode cL_release 20 = .ok (.ireturn, 1) := by decide +kernel
theorem dL_release_21 : decode cL_release 21 = .ok (.iconst 0, 1) := by decide +kernel
theorem dL_release_22 : decode cL_release 22 = .ok (.ireturn, 1) := by decide +kernel
theorem dL_bid_0 : decode cL_bid 0 = .ok (.aload 4, 2) := by decide +kernel
theorem dL_bid_2 : decode cL_bid 2 = .ok (.iconst 0, 1) := by decide +kernel
theorem dL_bid_3 : decode cL_bid 3 = .ok (.aload_n 0, 1) := by decide +kernel
theorem dL_bid_4 : decode cL_bid 4 = .ok (.iload_n 1, 1) := by decide +kernel
theorem dL_bid_5 : decode cL_bid 5 = .ok (.iload_n 2, 1) := by decide +kernel
theorem dL_bid_6 : decode cL_bid 6 = .ok (.iload_n 3, 1) := by decide +kernel
theorem dL_bid_7 : decode cL_bid 7 = .ok (.invokevirtual 55, 3) := by decide +kernel
theorem dL_bid_10 : decode cL_bid 10 = .ok (.i2l, 1) := by decide +kernel
theorem dL_bid_11 : decode cL_bid 11 = .ok (.lastore, 1) := by decide +kernel
theorem dL_bid_12 : decode cL_bid 12 = .ok (.goto 15, 3) := by decide +kernel
theorem dL_bid_15 : decode cL_bid 15 = .ok (.astore 5, 2) := by decide +kernel
theorem dL_bid_17 : decode cL_bid 17 = .ok (.iconst 1, 1) := by decide +kernel
theorem dL_bid_18 : decode cL_bid 18 = .ok (.ireturn, 1) := by decide +kernel
theorem dL_bid_19 : decode cL_bid 19 = .ok (.astore 5, 2) := by decide +kernel
theorem dL_bid_21 : decode cL_bid 21 = .ok (.iconst 2, 1) := by decide +kernel
theorem dL_bid_22 : decode cL_bid 22 = .ok (.ireturn, 1) := by decide +kernel
theorem dL_bid_23 : decode cL_bid 23 = .ok (.astore 5, 2) := by decide +kernel
theorem dL_bid_25 : decode cL_bid 25 = .ok (.iconst 3, 1) := by decide +kernel
theorem dL_bid_26 : decode cL_bid 26 = .ok (.ireturn, 1) := by decide +kernel
theorem dL_bid_27 : decode cL_bid 27 = .ok (.iconst 0, 1) := by decide +kernel
theorem dL_bid_28 : decode cL_bid 28 = .ok (.ireturn, 1) := by decide +kernel
theorem dL_offer_0 : decode cL_offer 0 = .ok (.aload 4, 2) := by decide +kernel
theorem dL_offer_2 : decode cL_offer 2 = .ok (.iconst 0, 1) := by decide +kernel
theorem dL_offer_3 : decode cL_offer 3 = .ok (.aload_n 0, 1) := by decide +kernel
theorem dL_offer_4 : decode cL_offer 4 = .ok (.iload_n 1, 1) := by decide +kernel
theorem dL_offer_5 : decode cL_offer 5 = .ok (.iload_n 2, 1) := by decide +kernel
theorem dL_offer_6 : decode cL_offer 6 = .ok (.iload_n 3, 1) := by decide +kernel
theorem dL_offer_7 : decode cL_offer 7 = .ok (.invokevirtual 59, 3) := by decide +kernel
theorem dL_offer_10 : decode cL_offer 10 = .ok (.i2l, 1) := by decide +kernel
theorem dL_offer_11 : decode cL_offer 11 = .ok (.lastore, 1) := by decide +kernel
theorem dL_offer_12 : decode cL_offer 12 = .ok (.goto 11, 3) := by decide +kernel
theorem dL_offer_15 : decode cL_offer 15 = .ok (.astore 5, 2) := by decide +kernel
theorem dL_offer_17 : decode cL_offer 17 = .ok (.iconst 1, 1) := by decide +kernel
theorem dL_offer_18 : decode cL_offer 18 = .ok (.ireturn, 1) := by decide +kernel
theorem dL_offer_19 : decode cL_offer 19 = .ok (.astore 5, 2) := by decide +kernel
theorem dL_offer_21 : decode cL_offer 21 = .ok (.iconst 2, 1) := by decide +kernel
theorem dL_offer_22 : decode cL_offer 22 = .ok (.ireturn, 1) := by decide +kernel
theorem dL_offer_23 : decode cL_offer 23 = .ok (.iconst 0, 1) := by decide +kernel
theorem dL_offer_24 : decode cL_offer 24 = .ok (.ireturn, 1) := by decide +kernel
theorem dL_accept_0 : decode cL_accept 0 = .ok (.aload_n 2, 1) := by decide +kernel
theorem dL_accept_1 : decode cL_accept 1 = .ok (.iconst 0, 1) := by decide +kernel
theorem dL_accept_2 : decode cL_accept 2 = .ok (.aload_n 0, 1) := by decide +kernel
theorem dL_accept_3 : decode cL_accept 3 = .ok (.iload_n 1, 1) := by decide +kernel
theorem dL_accept_4 : decode cL_accept 4 = .ok (.invokevirtual 62, 3) := by decide +kernel
theorem dL_accept_7 : decode cL_accept 7 = .ok (.i2l, 1) := by decide +kernel
theorem dL_accept_8 : decode cL_accept 8 = .ok (.lastore, 1) := by decide +kernel
theorem dL_accept_9 : decode cL_accept 9 = .ok (.goto 6, 3) := by decide +kernel
theorem dL_accept_12 : decode cL_accept 12 = .ok (.astore_n 3, 1) := by decide +kernel
theorem dL_accept_13 : decode cL_accept 13 = .ok (.iconst 1, 1) := by decide +kernel
theorem dL_accept_14 : decode cL_accept 14 = .ok (.ireturn, 1) := by decide +kernel
theorem dL_accept_15 : decode cL_accept 15 = .ok (.iconst 0, 1) := by decide +kernel
theorem dL_accept_16 : decode cL_accept 16 = .ok (.ireturn, 1) := by decide +kernel
theorem dL_upkeep_0 : decode cL_upkeep 0 = .ok (.aload_n 2, 1) := by decide +kernel
theorem dL_upkeep_1 : decode cL_upkeep 1 = .ok (.iconst 0, 1) := by decide +kernel
theorem dL_upkeep_2 : decode cL_upkeep 2 = .ok (.aload_n 0, 1) := by decide +kernel
theorem dL_upkeep_3 : decode cL_upkeep 3 = .ok (.iload_n 1, 1) := by decide +kernel
theorem dL_upkeep_4 : decode cL_upkeep 4 = .ok (.invokevirtual 65, 3) := by decide +kernel
theorem dL_upkeep_7 : decode cL_upkeep 7 = .ok (.i2l, 1) := by decide +kernel
theorem dL_upkeep_8 : decode cL_upkeep 8 = .ok (.lastore, 1) := by decide +kernel
theorem dL_upkeep_9 : decode cL_upkeep 9 = .ok (.goto 9, 3) := by decide +kernel
theorem dL_upkeep_12 : decode cL_upkeep 12 = .ok (.astore_n 3, 1) := by decide +kernel
theorem dL_upkeep_13 : decode cL_upkeep 13 = .ok (.iconst 1, 1) := by decide +kernel
theorem dL_upkeep_14 : decode cL_upkeep 14 = .ok (.ireturn, 1) := by decide +kernel
theorem dL_upkeep_15 : decode cL_upkeep 15 = .ok (.astore_n 3, 1) := by decide +kernel
theorem dL_upkeep_16 : decode cL_upkeep 16 = .ok (.iconst 2, 1) := by decide +kernel
theorem dL_upkeep_17 : decode cL_upkeep 17 = .ok (.ireturn, 1) := by decide +kernel
theorem dL_upkeep_18 : decode cL_upkeep 18 = .ok (.iconst 0, 1) := by decide +kernel
theorem dL_upkeep_19 : decode cL_upkeep 19 = .ok (.ireturn, 1) := by decide +kernel
theorem dL_set_0 : decode cL_set 0 = .ok (.aload_n 3, 1) := by decide +kernel
theorem dL_set_1 : decode cL_set 1 = .ok (.iconst 0, 1) := by decide +kernel
theorem dL_set_2 : decode cL_set 2 = .ok (.aload_n 0, 1) := by decide +kernel
theorem dL_set_3 : decode cL_set 3 = .ok (.iload_n 1, 1) := by decide +kernel
theorem dL_set_4 : decode cL_set 4 = .ok (.iload_n 2, 1) := by decide +kernel
theorem dL_set_5 : decode cL_set 5 = .ok (.invokevirtual 68, 3) := by decide +kernel
theorem dL_set_8 : decode cL_set 8 = .ok (.i2l, 1) := by decide +kernel
theorem dL_set_9 : decode cL_set 9 = .ok (.lastore, 1) := by decide +kernel
theorem dL_set_10 : decode cL_set 10 = .ok (.goto 7, 3) := by decide +kernel
theorem dL_set_13 : decode cL_set 13 = .ok (.astore 4, 2) := by decide +kernel
theorem dL_set_15 : decode cL_set 15 = .ok (.iconst 1, 1) := by decide +kernel
theorem dL_set_16 : decode cL_set 16 = .ok (.ireturn, 1) := by decide +kernel
theorem dL_set_17 : decode cL_set 17 = .ok (.iconst 0, 1) := by decide +kernel
theorem dL_set_18 : decode cL_set 18 = .ok (.ireturn, 1) := by decide +kernel
theorem dL_undo_0 : decode cL_undo 0 = .ok (.aload_n 1, 1) := by decide +kernel
theorem dL_undo_1 : decode cL_undo 1 = .ok (.iconst 0, 1) := by decide +kernel
theorem dL_undo_2 : decode cL_undo 2 = .ok (.aload_n 0, 1) := by decide +kernel
theorem dL_undo_3 : decode cL_undo 3 = .ok (.invokevirtual 71, 3) := by decide +kernel
theorem dL_undo_6 : decode cL_undo 6 = .ok (.i2l, 1) := by decide +kernel
theorem dL_undo_7 : decode cL_undo 7 = .ok (.lastore, 1) := by decide +kernel
theorem dL_undo_8 : decode cL_undo 8 = .ok (.goto 6, 3) := by decide +kernel
theorem dL_undo_11 : decode cL_undo 11 = .ok (.astore_n 2, 1) := by decide +kernel
theorem dL_undo_12 : decode cL_undo 12 = .ok (.iconst 1, 1) := by decide +kernel
theorem dL_undo_13 : decode cL_undo 13 = .ok (.ireturn, 1) := by decide +kernel
theorem dL_undo_14 : decode cL_undo 14 = .ok (.iconst 0, 1) := by decide +kernel
theorem dL_undo_15 : decode cL_undo 15 = .ok (.ireturn, 1) := by decide +kernel
theorem dL_why_0 : decode cL_why 0 = .ok (.aload_n 3, 1) := by decide +kernel
theorem dL_why_1 : decode cL_why 1 = .ok (.iconst 0, 1) := by decide +kernel
theorem dL_why_2 : decode cL_why 2 = .ok (.aload_n 0, 1) := by decide +kernel
theorem dL_why_3 : decode cL_why 3 = .ok (.iload_n 1, 1) := by decide +kernel
theorem dL_why_4 : decode cL_why 4 = .ok (.iload_n 2, 1) := by decide +kernel
theorem dL_why_5 : decode cL_why 5 = .ok (.invokevirtual 74, 3) := by decide +kernel
theorem dL_why_8 : decode cL_why 8 = .ok (.i2l, 1) := by decide +kernel
theorem dL_why_9 : decode cL_why 9 = .ok (.lastore, 1) := by decide +kernel
theorem dL_why_10 : decode cL_why 10 = .ok (.goto 7, 3) := by decide +kernel
theorem dL_why_13 : decode cL_why 13 = .ok (.astore 4, 2) := by decide +kernel
theorem dL_why_15 : decode cL_why 15 = .ok (.iconst 1, 1) := by decide +kernel
theorem dL_why_16 : decode cL_why 16 = .ok (.ireturn, 1) := by decide +kernel
theorem dL_why_17 : decode cL_why 17 = .ok (.iconst 0, 1) := by decide +kernel
theorem dL_why_18 : decode cL_why 18 = .ok (.ireturn, 1) := by decide +kernel
theorem dL_could_0 : decode cL_could 0 = .ok (.aload_n 2, 1) := by decide +kernel
theorem dL_could_1 : decode cL_could 1 = .ok (.iconst 0, 1) := by decide +kernel
theorem dL_could_2 : decode cL_could 2 = .ok (.aload_n 0, 1) := by decide +kernel
theorem dL_could_3 : decode cL_could 3 = .ok (.iload_n 1, 1) := by decide +kernel
theorem dL_could_4 : decode cL_could 4 = .ok (.invokevirtual 77, 3) := by decide +kernel
theorem dL_could_7 : decode cL_could 7 = .ok (.i2l, 1) := by decide +kernel
theorem dL_could_8 : decode cL_could 8 = .ok (.lastore, 1) := by decide +kernel
theorem dL_could_9 : decode cL_could 9 = .ok (.goto 6, 3) := by decide +kernel
theorem dL_could_12 : decode cL_could 12 = .ok (.astore_n 3, 1) := by decide +kernel
theorem dL_could_13 : decode cL_could 13 = .ok (.iconst 1, 1) := by decide +kernel
theorem dL_could_14 : decode cL_could 14 = .ok (.ireturn, 1) := by decide +kernel
theorem dL_could_15 : decode cL_could 15 = .ok (.iconst 0, 1) := by decide +kernel
theorem dL_could_16 : decode cL_could 16 = .ok (.ireturn, 1) := by decide +kernel
theorem dL_winner_0 : decode cL_winner 0 = .ok (.aload_n 2, 1) := by decide +kernel
theorem dL_winner_1 : decode cL_winner 1 = .ok (.iconst 0, 1) := by decide +kernel
theorem dL_winner_2 : decode cL_winner 2 = .ok (.aload_n 0, 1) := by decide +kernel
theorem dL_winner_3 : decode cL_winner 3 = .ok (.iload_n 1, 1) := by decide +kernel
theorem dL_winner_4 : decode cL_winner 4 = .ok (.invokevirtual 80, 3) := by decide +kernel
theorem dL_winner_7 : decode cL_winner 7 = .ok (.i2l, 1) := by decide +kernel
theorem dL_winner_8 : decode cL_winner 8 = .ok (.lastore, 1) := by decide +kernel
theorem dL_winner_9 : decode cL_winner 9 = .ok (.goto 6, 3) := by decide +kernel
theorem dL_winner_12 : decode cL_winner 12 = .ok (.astore_n 3, 1) := by decide +kernel
theorem dL_winner_13 : decode cL_winner 13 = .ok (.iconst 1, 1) := by decide +kernel
theorem dL_winner_14 : decode cL_winner 14 = .ok (.ireturn, 1) := by decide +kernel
theorem dL_winner_15 : decode cL_winner 15 = .ok (.iconst 0, 1) := by decide +kernel
theorem dL_winner_16 : decode cL_winner 16 = .ok (.ireturn, 1) := by decide +kernel
theorem dL_leastBid_0 : decode cL_leastBid 0 = .ok (.aload_n 3, 1) := by decide +kernel
theorem dL_leastBid_1 : decode cL_leastBid 1 = .ok (.iconst 0, 1) := by decide +kernel
theorem dL_leastBid_2 : decode cL_leastBid 2 = .ok (.aload_n 0, 1) := by decide +kernel
theorem dL_leastBid_3 : decode cL_leastBid 3 = .ok (.iload_n 1, 1) := by decide +kernel
theorem dL_leastBid_4 : decode cL_leastBid 4 = .ok (.iload_n 2, 1) := by decide +kernel
theorem dL_leastBid_5 : decode cL_leastBid 5 = .ok (.invokevirtual 83, 3) := by decide +kernel
theorem dL_leastBid_8 : decode cL_leastBid 8 = .ok (.i2l, 1) := by decide +kernel
theorem dL_leastBid_9 : decode cL_leastBid 9 = .ok (.lastore, 1) := by decide +kernel
theorem dL_leastBid_10 : decode cL_leastBid 10 = .ok (.goto 7, 3) := by decide +kernel
theorem dL_leastBid_13 : decode cL_leastBid 13 = .ok (.astore 4, 2) := by decide +kernel
theorem dL_leastBid_15 : decode cL_leastBid 15 = .ok (.iconst 1, 1) := by decide +kernel
theorem dL_leastBid_16 : decode cL_leastBid 16 = .ok (.ireturn, 1) := by decide +kernel
theorem dL_leastBid_17 : decode cL_leastBid 17 = .ok (.iconst 0, 1) := by decide +kernel
theorem dL_leastBid_18 : decode cL_leastBid 18 = .ok (.ireturn, 1) := by decide +kernel
theorem dL_ifUpkeep_0 : decode cL_ifUpkeep 0 = .ok (.aload_n 3, 1) := by decide +kernel
theorem dL_ifUpkeep_1 : decode cL_ifUpkeep 1 = .ok (.iconst 0, 1) := by decide +kernel
theorem dL_ifUpkeep_2 : decode cL_ifUpkeep 2 = .ok (.aload_n 0, 1) := by decide +kernel
theorem dL_ifUpkeep_3 : decode cL_ifUpkeep 3 = .ok (.iload_n 1, 1) := by decide +kernel
theorem dL_ifUpkeep_4 : decode cL_ifUpkeep 4 = .ok (.iload_n 2, 1) := by decide +kernel
theorem dL_ifUpkeep_5 : decode cL_ifUpkeep 5 = .ok (.invokevirtual 86, 3) := by decide +kernel
theorem dL_ifUpkeep_8 : decode cL_ifUpkeep 8 = .ok (.i2l, 1) := by decide +kernel
theorem dL_ifUpkeep_9 : decode cL_ifUpkeep 9 = .ok (.lastore, 1) := by decide +kernel
theorem dL_ifUpkeep_10 : decode cL_ifUpkeep 10 = .ok (.goto 11, 3) := by decide +kernel
theorem dL_ifUpkeep_13 : decode cL_ifUpkeep 13 = .ok (.astore 4, 2) := by decide +kernel
theorem dL_ifUpkeep_15 : decode cL_ifUpkeep 15 = .ok (.iconst 1, 1) := by decide +kernel
theorem dL_ifUpkeep_16 : decode cL_ifUpkeep 16 = .ok (.ireturn, 1) := by decide +kernel
theorem dL_ifUpkeep_17 : decode cL_ifUpkeep 17 = .ok (.astore 4, 2) := by decide +kernel
theorem dL_ifUpkeep_19 : decode cL_ifUpkeep 19 = .ok (.iconst 2, 1) := by decide +kernel
theorem dL_ifUpkeep_20 : decode cL_ifUpkeep 20 = .ok (.ireturn, 1) := by decide +kernel
theorem dL_ifUpkeep_21 : decode cL_ifUpkeep 21 = .ok (.iconst 0, 1) := by decide +kernel
theorem dL_ifUpkeep_22 : decode cL_ifUpkeep 22 = .ok (.ireturn, 1) := by decide +kernel
theorem dL_runScript_0 : decode cL_runScript 0 = .ok (.aload 4, 2) := by decide +kernel
theorem dL_runScript_2 : decode cL_runScript 2 = .ok (.iconst 0, 1) := by decide +kernel
theorem dL_runScript_3 : decode cL_runScript 3 = .ok (.aload_n 0, 1) := by decide +kernel
theorem dL_runScript_4 : decode cL_runScript 4 = .ok (.iload_n 1, 1) := by decide +kernel
theorem dL_runScript_5 : decode cL_runScript 5 = .ok (.lload_n 2, 1) := by decide +kernel
theorem dL_runScript_6 : decode cL_runScript 6 = .ok (.invokevirtual 89, 3) := by decide +kernel
theorem dL_runScript_9 : decode cL_runScript 9 = .ok (.i2l, 1) := by decide +kernel
theorem dL_runScript_10 : decode cL_runScript 10 = .ok (.lastore, 1) := by decide +kernel
theorem dL_runScript_11 : decode cL_runScript 11 = .ok (.goto 7, 3) := by decide +kernel
theorem dL_runScript_14 : decode cL_runScript 14 = .ok (.astore 5, 2) := by decide +kernel
theorem dL_runScript_16 : decode cL_runScript 16 = .ok (.iconst 1, 1) := by decide +kernel
theorem dL_runScript_17 : decode cL_runScript 17 = .ok (.ireturn, 1) := by decide +kernel
theorem dL_runScript_18 : decode cL_runScript 18 = .ok (.iconst 0, 1) := by decide +kernel
theorem dL_runScript_19 : decode cL_runScript 19 = .ok (.ireturn, 1) := by decide +kernel
theorem dL_simulate_0 : decode cL_simulate 0 = .ok (.aload 4, 2) := by decide +kernel
theorem dL_simulate_2 : decode cL_simulate 2 = .ok (.iconst 0, 1) := by decide +kernel
theorem dL_simulate_3 : decode cL_simulate 3 = .ok (.aload_n 0, 1) := by decide +kernel
theorem dL_simulate_4 : decode cL_simulate 4 = .ok (.lload_n 1, 1) := by decide +kernel
theorem dL_simulate_5 : decode cL_simulate 5 = .ok (.iload_n 3, 1) := by decide +kernel
theorem dL_simulate_6 : decode cL_simulate 6 = .ok (.invokevirtual 93, 3) := by decide +kernel
theorem dL_simulate_9 : decode cL_simulate 9 = .ok (.i2l, 1) := by decide +kernel
theorem dL_simulate_10 : decode cL_simulate 10 = .ok (.lastore, 1) := by decide +kernel
theorem dL_simulate_11 : decode cL_simulate 11 = .ok (.goto 7, 3) := by decide +kernel
theorem dL_simulate_14 : decode cL_simulate 14 = .ok (.astore 5, 2) := by decide +kernel
theorem dL_simulate_16 : decode cL_simulate 16 = .ok (.iconst 1, 1) := by decide +kernel
theorem dL_simulate_17 : decode cL_simulate 17 = .ok (.ireturn, 1) := by decide +kernel
theorem dL_simulate_18 : decode cL_simulate 18 = .ok (.iconst 0, 1) := by decide +kernel
theorem dL_simulate_19 : decode cL_simulate 19 = .ok (.ireturn, 1) := by decide +kernel
theorem dL_save_0 : decode cL_save 0 = .ok (.aload_n 2, 1) := by decide +kernel
theorem dL_save_1 : decode cL_save 1 = .ok (.iconst 0, 1) := by decide +kernel
theorem dL_save_2 : decode cL_save 2 = .ok (.aload_n 0, 1) := by decide +kernel
theorem dL_save_3 : decode cL_save 3 = .ok (.iload_n 1, 1) := by decide +kernel
theorem dL_save_4 : decode cL_save 4 = .ok (.invokevirtual 97, 3) := by decide +kernel
theorem dL_save_7 : decode cL_save 7 = .ok (.i2l, 1) := by decide +kernel
theorem dL_save_8 : decode cL_save 8 = .ok (.lastore, 1) := by decide +kernel
theorem dL_save_9 : decode cL_save 9 = .ok (.goto 6, 3) := by decide +kernel
theorem dL_save_12 : decode cL_save 12 = .ok (.astore_n 3, 1) := by decide +kernel
theorem dL_save_13 : decode cL_save 13 = .ok (.iconst 1, 1) := by decide +kernel
theorem dL_save_14 : decode cL_save 14 = .ok (.ireturn, 1) := by decide +kernel
theorem dL_save_15 : decode cL_save 15 = .ok (.iconst 0, 1) := by decide +kernel
theorem dL_save_16 : decode cL_save 16 = .ok (.ireturn, 1) := by decide +kernel
theorem dL_restore_0 : decode cL_restore 0 = .ok (.aload_n 2, 1) := by decide +kernel
theorem dL_restore_1 : decode cL_restore 1 = .ok (.iconst 0, 1) := by decide +kernel
theorem dL_restore_2 : decode cL_restore 2 = .ok (.aload_n 0, 1) := by decide +kernel
theorem dL_restore_3 : decode cL_restore 3 = .ok (.iload_n 1, 1) := by decide +kernel
theorem dL_restore_4 : decode cL_restore 4 = .ok (.invokevirtual 100, 3) := by decide +kernel
theorem dL_restore_7 : decode cL_restore 7 = .ok (.i2l, 1) := by decide +kernel
theorem dL_restore_8 : decode cL_restore 8 = .ok (.lastore, 1) := by decide +kernel
theorem dL_restore_9 : decode cL_restore 9 = .ok (.goto 9, 3) := by decide +kernel
theorem dL_restore_12 : decode cL_restore 12 = .ok (.astore_n 3, 1) := by decide +kernel
theorem dL_restore_13 : decode cL_restore 13 = .ok (.iconst 1, 1) := by decide +kernel
theorem dL_restore_14 : decode cL_restore 14 = .ok (.ireturn, 1) := by decide +kernel
theorem dL_restore_15 : decode cL_restore 15 = .ok (.astore_n 3, 1) := by decide +kernel
theorem dL_restore_16 : decode cL_restore 16 = .ok (.iconst 2, 1) := by decide +kernel
theorem dL_restore_17 : decode cL_restore 17 = .ok (.ireturn, 1) := by decide +kernel
theorem dL_restore_18 : decode cL_restore 18 = .ok (.iconst 0, 1) := by decide +kernel
theorem dL_restore_19 : decode cL_restore 19 = .ok (.ireturn, 1) := by decide +kernel
theorem dL_law_0 : decode cL_law 0 = .ok (.new 8, 3) := by decide +kernel
theorem dL_law_3 : decode cL_law 3 = .ok (.dup, 1) := by decide +kernel
theorem dL_law_4 : decode cL_law 4 = .ok (.invokespecial 103, 3) := by decide +kernel
theorem dL_law_7 : decode cL_law 7 = .ok (.astore_n 1, 1) := by decide +kernel
theorem dL_law_8 : decode cL_law 8 = .ok (.new 104, 3) := by decide +kernel
theorem dL_law_11 : decode cL_law 11 = .ok (.dup, 1) := by decide +kernel
theorem dL_law_12 : decode cL_law 12 = .ok (.invokespecial 106, 3) := by decide +kernel
theorem dL_law_15 : decode cL_law 15 = .ok (.astore_n 2, 1) := by decide +kernel
theorem dL_law_16 : decode cL_law 16 = .ok (.iconst 1, 1) := by decide +kernel
theorem dL_law_17 : decode cL_law 17 = .ok (.newarray .long, 2) := by decide +kernel
theorem dL_law_19 : decode cL_law 19 = .ok (.astore_n 3, 1) := by decide +kernel
theorem dL_law_20 : decode cL_law 20 = .ok (.iconst 0, 1) := by decide +kernel
theorem dL_law_21 : decode cL_law 21 = .ok (.istore 4, 2) := by decide +kernel
theorem dL_law_23 : decode cL_law 23 = .ok (.iload 4, 2) := by decide +kernel
theorem dL_law_25 : decode cL_law 25 = .ok (.aload_n 0, 1) := by decide +kernel
theorem dL_law_26 : decode cL_law 26 = .ok (.arraylength, 1) := by decide +kernel
theorem dL_law_27 : decode cL_law 27 = .ok (.iconst 4, 1) := by decide +kernel
theorem dL_law_28 : decode cL_law 28 = .ok (.isub, 1) := by decide +kernel
theorem dL_law_29 : decode cL_law 29 = .ok (.if_icmp .gt 1989, 3) := by decide +kernel
theorem dL_law_32 : decode cL_law 32 = .ok (.aload_n 0, 1) := by decide +kernel
theorem dL_law_33 : decode cL_law 33 = .ok (.iload 4, 2) := by decide +kernel
theorem dL_law_35 : decode cL_law 35 = .ok (.iaload, 1) := by decide +kernel
theorem dL_law_36 : decode cL_law 36 = .ok (.bipush 31, 2) := by decide +kernel
theorem dL_law_38 : decode cL_law 38 = .ok (.iand, 1) := by decide +kernel
theorem dL_law_39 : decode cL_law 39 = .ok (.tableswitch 1973 0 30 #[137, 193, 206, 219, 263, 319, 387, 455, 523, 591, 647, 715, 799, 867, 935, 1015, 1028, 1108, 1164, 1220, 1233, 1301, 1345, 1413, 1469, 1525, 1593, 1661, 1761, 1861, 1917], 137) := by decide +kernel
theorem dL_law_176 : decode cL_law 176 = .ok (.aload_n 1, 1) := by decide +kernel
theorem dL_law_177 : decode cL_law 177 = .ok (.aload_n 0, 1) := by decide +kernel
theorem dL_law_178 : decode cL_law 178 = .ok (.iload 4, 2) := by decide +kernel
theorem dL_law_180 : decode cL_law 180 = .ok (.iconst 1, 1) := by decide +kernel
theorem dL_law_181 : decode cL_law 181 = .ok (.iadd, 1) := by decide +kernel
theorem dL_law_182 : decode cL_law 182 = .ok (.iaload, 1) := by decide +kernel
theorem dL_law_183 : decode cL_law 183 = .ok (.aload_n 3, 1) := by decide +kernel
theorem dL_law_184 : decode cL_law 184 = .ok (.invokestatic 107, 3) := by decide +kernel
theorem dL_law_187 : decode cL_law 187 = .ok (.istore 5, 2) := by decide +kernel
theorem dL_law_189 : decode cL_law 189 = .ok (.aload_n 2, 1) := by decide +kernel
theorem dL_law_190 : decode cL_law 190 = .ok (.aload_n 0, 1) := by decide +kernel
theorem dL_law_191 : decode cL_law 191 = .ok (.iload 4, 2) := by decide +kernel
theorem dL_law_193 : decode cL_law 193 = .ok (.iconst 1, 1) := by decide +kernel
theorem dL_law_194 : decode cL_law 194 = .ok (.iadd, 1) := by decide +kernel
theorem dL_law_195 : decode cL_law 195 = .ok (.iaload, 1) := by decide +kernel
theorem dL_law_196 : decode cL_law 196 = .ok (.invokevirtual 112, 3) := by decide +kernel
theorem dL_law_199 : decode cL_law 199 = .ok (.istore 6, 2) := by decide +kernel
theorem dL_law_201 : decode cL_law 201 = .ok (.aload_n 2, 1) := by decide +kernel
theorem dL_law_202 : decode cL_law 202 = .ok (.invokevirtual 113, 3) := by decide +kernel
theorem dL_law_205 : decode cL_law 205 = .ok (.iload 5, 2) := by decide +kernel
theorem dL_law_207 : decode cL_law 207 = .ok (.if_icmp .eq 5, 3) := by decide +kernel
theorem dL_law_210 : decode cL_law 210 = .ok (.iconst 0, 1) := by decide +kernel
theorem dL_law_211 : decode cL_law 211 = .ok (.ireturn, 1) := by decide +kernel
theorem dL_law_212 : decode cL_law 212 = .ok (.iload 5, 2) := by decide +kernel
theorem dL_law_214 : decode cL_law 214 = .ok (.ifCond .ne 15, 3) := by decide +kernel
theorem dL_law_217 : decode cL_law 217 = .ok (.aload_n 3, 1) := by decide +kernel
theorem dL_law_218 : decode cL_law 218 = .ok (.iconst 0, 1) := by decide +kernel
theorem dL_law_219 : decode cL_law 219 = .ok (.laload, 1) := by decide +kernel
theorem dL_law_220 : decode cL_law 220 = .ok (.iload 6, 2) := by decide +kernel
theorem dL_law_222 : decode cL_law 222 = .ok (.i2l, 1) := by decide +kernel
theorem dL_law_223 : decode cL_law 223 = .ok (.lcmp, 1) := by decide +kernel
theorem dL_law_224 : decode cL_law 224 = .ok (.ifCond .eq 5, 3) := by decide +kernel
theorem dL_law_227 : decode cL_law 227 = .ok (.iconst 0, 1) := by decide +kernel
theorem dL_law_228 : decode cL_law 228 = .ok (.ireturn, 1) := by decide +kernel
theorem dL_law_229 : decode cL_law 229 = .ok (.goto 1783, 3) := by decide +kernel
theorem dL_law_232 : decode cL_law 232 = .ok (.aload_n 1, 1) := by decide +kernel
theorem dL_law_233 : decode cL_law 233 = .ok (.invokevirtual 116, 3) := by decide +kernel
theorem dL_law_236 : decode cL_law 236 = .ok (.aload_n 2, 1) := by decide +kernel
theorem dL_law_237 : decode cL_law 237 = .ok (.invokevirtual 119, 3) := by decide +kernel
theorem dL_law_240 : decode cL_law 240 = .ok (.if_icmp .eq 1772, 3) := by decide +kernel
theorem dL_law_243 : decode cL_law 243 = .ok (.iconst 0, 1) := by decide +kernel
theorem dL_law_244 : decode cL_law 244 = .ok (.ireturn, 1) := by decide +kernel
theorem dL_law_245 : decode cL_law 245 = .ok (.aload_n 1, 1) := by decide +kernel
theorem dL_law_246 : decode cL_law 246 = .ok (.invokevirtual 120, 3) := by decide +kernel
theorem dL_law_249 : decode cL_law 249 = .ok (.aload_n 2, 1) := by decide +kernel
theorem dL_law_250 : decode cL_law 250 = .ok (.invokevirtual 123, 3) := by decide +kernel
theorem dL_law_253 : decode cL_law 253 = .ok (.if_icmp .eq 1759, 3) := by decide +kernel
theorem dL_law_256 : decode cL_law 256 = .ok (.iconst 0, 1) := by decide +kernel
theorem dL_law_257 : decode cL_law 257 = .ok (.ireturn, 1) := by decide +kernel
theorem dL_law_258 : decode cL_law 258 = .ok (.aload_n 1, 1) := by decide +kernel
theorem dL_law_259 : decode cL_law 259 = .ok (.aload_n 3, 1) := by decide +kernel
theorem dL_law_260 : decode cL_law 260 = .ok (.invokestatic 124, 3) := by decide +kernel
theorem dL_law_263 : decode cL_law 263 = .ok (.istore 5, 2) := by decide +kernel
theorem dL_law_265 : decode cL_law 265 = .ok (.aload_n 2, 1) := by decide +kernel
theorem dL_law_266 : decode cL_law 266 = .ok (.invokevirtual 127, 3) := by decide +kernel
theorem dL_law_269 : decode cL_law 269 = .ok (.istore 6, 2) := by decide +kernel
theorem dL_law_271 : decode cL_law 271 = .ok (.aload_n 2, 1) := by decide +kernel
theorem dL_law_272 : decode cL_law 272 = .ok (.invokevirtual 113, 3) := by decide +kernel
theorem dL_law_275 : decode cL_law 275 = .ok (.iload 5, 2) := by decide +kernel
theorem dL_law_277 : decode cL_law 277 = .ok (.if_icmp .eq 5, 3) := by decide +kernel
theorem dL_law_280 : decode cL_law 280 = .ok (.iconst 0, 1) := by decide +kernel
theorem dL_law_281 : decode cL_law 281 = .ok (.ireturn, 1) := by decide +kernel
theorem dL_law_282 : decode cL_law 282 = .ok (.iload 5, 2) := by decide +kernel
theorem dL_law_284 : decode cL_law 284 = .ok (.ifCond .ne 15, 3) := by decide +kernel
theorem dL_law_287 : decode cL_law 287 = .ok (.aload_n 3, 1) := by decide +kernel
theorem dL_law_288 : decode cL_law 288 = .ok (.iconst 0, 1) := by decide +kernel
theorem dL_law_289 : decode cL_law 289 = .ok (.laload, 1) := by decide +kernel
theorem dL_law_290 : decode cL_law 290 = .ok (.iload 6, 2) := by decide +kernel
theorem dL_law_292 : decode cL_law 292 = .ok (.i2l, 1) := by decide +kernel
theorem dL_law_293 : decode cL_law 293 = .ok (.lcmp, 1) := by decide +kernel
theorem dL_law_294 : decode cL_law 294 = .ok (.ifCond .eq 5, 3) := by decide +kernel
theorem dL_law_297 : decode cL_law 297 = .ok (.iconst 0, 1) := by decide +kernel
theorem dL_law_298 : decode cL_law 298 = .ok (.ireturn, 1) := by decide +kernel
theorem dL_law_299 : decode cL_law 299 = .ok (.goto 1713, 3) := by decide +kernel
theorem dL_law_302 : decode cL_law 302 = .ok (.aload_n 1, 1) := by decide +kernel
theorem dL_law_303 : decode cL_law 303 = .ok (.aload_n 0, 1) := by decide +kernel
theorem dL_law_304 : decode cL_law 304 = .ok (.iload 4, 2) := by decide +kernel
theorem dL_law_306 : decode cL_law 306 = .ok (.iconst 1, 1) := by decide +kernel
theorem dL_law_307 : decode cL_law 307 = .ok (.iadd, 1) := by decide +kernel
theorem dL_law_308 : decode cL_law 308 = .ok (.iaload, 1) := by decide +kernel
theorem dL_law_309 : decode cL_law 309 = .ok (.aload_n 3, 1) := by decide +kernel
theorem dL_law_310 : decode cL_law 310 = .ok (.invokestatic 128, 3) := by decide +kernel
theorem dL_law_313 : decode cL_law 313 = .ok (.istore 5, 2) := by decide +kernel
theorem dL_law_315 : decode cL_law 315 = .ok (.aload_n 2, 1) := by decide +kernel
theorem dL_law_316 : decode cL_law 316 = .ok (.aload_n 0, 1) := by decide +kernel
theorem dL_law_317 : decode cL_law 317 = .ok (.iload 4, 2) := by decide +kernel
theorem dL_law_319 : decode cL_law 319 = .ok (.iconst 1, 1) := by decide +kernel
theorem dL_law_320 : decode cL_law 320 = .ok (.iadd, 1) := by decide +kernel
theorem dL_law_321 : decode cL_law 321 = .ok (.iaload, 1) := by decide +kernel
theorem dL_law_322 : decode cL_law 322 = .ok (.invokevirtual 130, 3) := by decide +kernel
theorem dL_law_325 : decode cL_law 325 = .ok (.istore 6, 2) := by decide +kernel
theorem dL_law_327 : decode cL_law 327 = .ok (.aload_n 2, 1) := by decide +kernel
theorem dL_law_328 : decode cL_law 328 = .ok (.invokevirtual 113, 3) := by decide +kernel
theorem dL_law_331 : decode cL_law 331 = .ok (.iload 5, 2) := by decide +kernel
theorem dL_law_333 : decode cL_law 333 = .ok (.if_icmp .eq 5, 3) := by decide +kernel
theorem dL_law_336 : decode cL_law 336 = .ok (.iconst 0, 1) := by decide +kernel
theorem dL_law_337 : decode cL_law 337 = .ok (.ireturn, 1) := by decide +kernel
theorem dL_law_338 : decode cL_law 338 = .ok (.iload 5, 2) := by decide +kernel
theorem dL_law_340 : decode cL_law 340 = .ok (.ifCond .ne 15, 3) := by decide +kernel
theorem dL_law_343 : decode cL_law 343 = .ok (.aload_n 3, 1) := by decide +kernel
theorem dL_law_344 : decode cL_law 344 = .ok (.iconst 0, 1) := by decide +kernel
theorem dL_law_345 : decode cL_law 345 = .ok (.laload, 1) := by decide +kernel
theorem dL_law_346 : decode cL_law 346 = .ok (.iload 6, 2) := by decide +kernel
theorem dL_law_348 : decode cL_law 348 = .ok (.i2l, 1) := by decide +kernel
theorem dL_law_349 : decode cL_law 349 = .ok (.lcmp, 1) := by decide +kernel
theorem dL_law_350 : decode cL_law 350 = .ok (.ifCond .eq 5, 3) := by decide +kernel
theorem dL_law_353 : decode cL_law 353 = .ok (.iconst 0, 1) := by decide +kernel
theorem dL_law_354 : decode cL_law 354 = .ok (.ireturn, 1) := by decide +kernel
theorem dL_law_355 : decode cL_law 355 = .ok (.goto 1657, 3) := by decide +kernel
theorem dL_law_358 : decode cL_law 358 = .ok (.aload_n 1, 1) := by decide +kernel
theorem dL_law_359 : decode cL_law 359 = .ok (.aload_n 0, 1) := by decide +kernel
theorem dL_law_360 : decode cL_law 360 = .ok (.iload 4, 2) := by decide +kernel
theorem dL_law_362 : decode cL_law 362 = .ok (.iconst 1, 1) := by decide +kernel
theorem dL_law_363 : decode cL_law 363 = .ok (.iadd, 1) := by decide +kernel
theorem dL_law_364 : decode cL_law 364 = .ok (.iaload, 1) := by decide +kernel
theorem dL_law_365 : decode cL_law 365 = .ok (.aload_n 0, 1) := by decide +kernel
theorem dL_law_366 : decode cL_law 366 = .ok (.iload 4, 2) := by decide +kernel
theorem dL_law_368 : decode cL_law 368 = .ok (.iconst 2, 1) := by decide +kernel
theorem dL_law_369 : decode cL_law 369 = .ok (.iadd, 1) := by decide +kernel
theorem dL_law_370 : decode cL_law 370 = .ok (.iaload, 1) := by decide +kernel
theorem dL_law_371 : decode cL_law 371 = .ok (.aload_n 3, 1) := by decide +kernel
theorem dL_law_372 : decode cL_law 372 = .ok (.invokestatic 131, 3) := by decide +kernel
theorem dL_law_375 : decode cL_law 375 = .ok (.istore 5, 2) := by decide +kernel
theorem dL_law_377 : decode cL_law 377 = .ok (.aload_n 2, 1) := by decide +kernel
theorem dL_law_378 : decode cL_law 378 = .ok (.aload_n 0, 1) := by decide +kernel
theorem dL_law_379 : decode cL_law 379 = .ok (.iload 4, 2) := by decide +kernel
theorem dL_law_381 : decode cL_law 381 = .ok (.iconst 1, 1) := by decide +kernel
theorem dL_law_382 : decode cL_law 382 = .ok (.iadd, 1) := by decide +kernel
theorem dL_law_383 : decode cL_law 383 = .ok (.iaload, 1) := by decide +kernel
theorem dL_law_384 : decode cL_law 384 = .ok (.aload_n 0, 1) := by decide +kernel
theorem dL_law_385 : decode cL_law 385 = .ok (.iload 4, 2) := by decide +kernel
theorem dL_law_387 : decode cL_law 387 = .ok (.iconst 2, 1) := by decide +kernel
theorem dL_law_388 : decode cL_law 388 = .ok (.iadd, 1) := by decide +kernel
theorem dL_law_389 : decode cL_law 389 = .ok (.iaload, 1) := by decide +kernel
theorem dL_law_390 : decode cL_law 390 = .ok (.invokevirtual 134, 3) := by decide +kernel
theorem dL_law_393 : decode cL_law 393 = .ok (.istore 6, 2) := by decide +kernel
theorem dL_law_395 : decode cL_law 395 = .ok (.aload_n 2, 1) := by decide +kernel
theorem dL_law_396 : decode cL_law 396 = .ok (.invokevirtual 113, 3) := by decide +kernel
theorem dL_law_399 : decode cL_law 399 = .ok (.iload 5, 2) := by decide +kernel
theorem dL_law_401 : decode cL_law 401 = .ok (.if_icmp .eq 5, 3) := by decide +kernel
theorem dL_law_404 : decode cL_law 404 = .ok (.iconst 0, 1) := by decide +kernel
theorem dL_law_405 : decode cL_law 405 = .ok (.ireturn, 1) := by decide +kernel
theorem dL_law_406 : decode cL_law 406 = .ok (.iload 5, 2) := by decide +kernel
theorem dL_law_408 : decode cL_law 408 = .ok (.ifCond .ne 15, 3) := by decide +kernel
theorem dL_law_411 : decode cL_law 411 = .ok (.aload_n 3, 1) := by decide +kernel
theorem dL_law_412 : decode cL_law 412 = .ok (.iconst 0, 1) := by decide +kernel
theorem dL_law_413 : decode cL_law 413 = .ok (.laload, 1) := by decide +kernel
theorem dL_law_414 : decode cL_law 414 = .ok (.iload 6, 2) := by decide +kernel
theorem dL_law_416 : decode cL_law 416 = .ok (.i2l, 1) := by decide +kernel
theorem dL_law_417 : decode cL_law 417 = .ok (.lcmp, 1) := by decide +kernel
theorem dL_law_418 : decode cL_law 418 = .ok (.ifCond .eq 5, 3) := by decide +kernel
theorem dL_law_421 : decode cL_law 421 = .ok (.iconst 0, 1) := by decide +kernel
theorem dL_law_422 : decode cL_law 422 = .ok (.ireturn, 1) := by decide +kernel
theorem dL_law_423 : decode cL_law 423 = .ok (.goto 1589, 3) := by decide +kernel
theorem dL_law_426 : decode cL_law 426 = .ok (.aload_n 1, 1) := by decide +kernel
theorem dL_law_427 : decode cL_law 427 = .ok (.aload_n 0, 1) := by decide +kernel
theorem dL_law_428 : decode cL_law 428 = .ok (.iload 4, 2) := by decide +kernel
theorem dL_law_430 : decode cL_law 430 = .ok (.iconst 1, 1) := by decide +kernel
theorem dL_law_431 : decode cL_law 431 = .ok (.iadd, 1) := by decide +kernel
theorem dL_law_432 : decode cL_law 432 = .ok (.iaload, 1) := by decide +kernel
theorem dL_law_433 : decode cL_law 433 = .ok (.aload_n 0, 1) := by decide +kernel
theorem dL_law_434 : decode cL_law 434 = .ok (.iload 4, 2) := by decide +kernel
theorem dL_law_436 : decode cL_law 436 = .ok (.iconst 2, 1) := by decide +kernel
theorem dL_law_437 : decode cL_law 437 = .ok (.iadd, 1) := by decide +kernel
theorem dL_law_438 : decode cL_law 438 = .ok (.iaload, 1) := by decide +kernel
theorem dL_law_439 : decode cL_law 439 = .ok (.aload_n 3, 1) := by decide +kernel
theorem dL_law_440 : decode cL_law 440 = .ok (.invokestatic 135, 3) := by decide +kernel
theorem dL_law_443 : decode cL_law 443 = .ok (.istore 5, 2) := by decide +kernel
theorem dL_law_445 : decode cL_law 445 = .ok (.aload_n 2, 1) := by decide +kernel
theorem dL_law_446 : decode cL_law 446 = .ok (.aload_n 0, 1) := by decide +kernel
theorem dL_law_447 : decode cL_law 447 = .ok (.iload 4, 2) := by decide +kernel
theorem dL_law_449 : decode cL_law 449 = .ok (.iconst 1, 1) := by decide +kernel
theorem dL_law_450 : decode cL_law 450 = .ok (.iadd, 1) := by decide +kernel
theorem dL_law_451 : decode cL_law 451 = .ok (.iaload, 1) := by decide +kernel
theorem dL_law_452 : decode cL_law 452 = .ok (.aload_n 0, 1) := by decide +kernel
theorem dL_law_453 : decode cL_law 453 = .ok (.iload 4, 2) := by decide +kernel
theorem dL_law_455 : decode cL_law 455 = .ok (.iconst 2, 1) := by decide +kernel
theorem dL_law_456 : decode cL_law 456 = .ok (.iadd, 1) := by decide +kernel
theorem dL_law_457 : decode cL_law 457 = .ok (.iaload, 1) := by decide +kernel
theorem dL_law_458 : decode cL_law 458 = .ok (.invokevirtual 137, 3) := by decide +kernel
theorem dL_law_461 : decode cL_law 461 = .ok (.istore 6, 2) := by decide +kernel
theorem dL_law_463 : decode cL_law 463 = .ok (.aload_n 2, 1) := by decide +kernel
theorem dL_law_464 : decode cL_law 464 = .ok (.invokevirtual 113, 3) := by decide +kernel
theorem dL_law_467 : decode cL_law 467 = .ok (.iload 5, 2) := by decide +kernel
theorem dL_law_469 : decode cL_law 469 = .ok (.if_icmp .eq 5, 3) := by decide +kernel
theorem dL_law_472 : decode cL_law 472 = .ok (.iconst 0, 1) := by decide +kernel
theorem dL_law_473 : decode cL_law 473 = .ok (.ireturn, 1) := by decide +kernel
theorem dL_law_474 : decode cL_law 474 = .ok (.iload 5, 2) := by decide +kernel
theorem dL_law_476 : decode cL_law 476 = .ok (.ifCond .ne 15, 3) := by decide +kernel
theorem dL_law_479 : decode cL_law 479 = .ok (.aload_n 3, 1) := by decide +kernel
theorem dL_law_480 : decode cL_law 480 = .ok (.iconst 0, 1) := by decide +kernel
theorem dL_law_481 : decode cL_law 481 = .ok (.laload, 1) := by decide +kernel
theorem dL_law_482 : decode cL_law 482 = .ok (.iload 6, 2) := by decide +kernel
theorem dL_law_484 : decode cL_law 484 = .ok (.i2l, 1) := by decide +kernel
theorem dL_law_485 : decode cL_law 485 = .ok (.lcmp, 1) := by decide +kernel
theorem dL_law_486 : decode cL_law 486 = .ok (.ifCond .eq 5, 3) := by decide +kernel
theorem dL_law_489 : decode cL_law 489 = .ok (.iconst 0, 1) := by decide +kernel
theorem dL_law_490 : decode cL_law 490 = .ok (.ireturn, 1) := by decide +kernel
theorem dL_law_491 : decode cL_law 491 = .ok (.goto 1521, 3) := by decide +kernel
theorem dL_law_494 : decode cL_law 494 = .ok (.aload_n 1, 1) := by decide +kernel
theorem dL_law_495 : decode cL_law 495 = .ok (.aload_n 0, 1) := by decide +kernel
theorem dL_law_496 : decode cL_law 496 = .ok (.iload 4, 2) := by decide +kernel
theorem dL_law_498 : decode cL_law 498 = .ok (.iconst 1, 1) := by decide +kernel
theorem dL_law_499 : decode cL_law 499 = .ok (.iadd, 1) := by decide +kernel
theorem dL_law_500 : decode cL_law 500 = .ok (.iaload, 1) := by decide +kernel
theorem dL_law_501 : decode cL_law 501 = .ok (.aload_n 0, 1) := by decide +kernel
theorem dL_law_502 : decode cL_law 502 = .ok (.iload 4, 2) := by decide +kernel
theorem dL_law_504 : decode cL_law 504 = .ok (.iconst 2, 1) := by decide +kernel
theorem dL_law_505 : decode cL_law 505 = .ok (.iadd, 1) := by decide +kernel
theorem dL_law_506 : decode cL_law 506 = .ok (.iaload, 1) := by decide +kernel
theorem dL_law_507 : decode cL_law 507 = .ok (.aload_n 3, 1) := by decide +kernel
theorem dL_law_508 : decode cL_law 508 = .ok (.invokestatic 138, 3) := by decide +kernel
theorem dL_law_511 : decode cL_law 511 = .ok (.istore 5, 2) := by decide +kernel
theorem dL_law_513 : decode cL_law 513 = .ok (.aload_n 2, 1) := by decide +kernel
theorem dL_law_514 : decode cL_law 514 = .ok (.aload_n 0, 1) := by decide +kernel
theorem dL_law_515 : decode cL_law 515 = .ok (.iload 4, 2) := by decide +kernel
theorem dL_law_517 : decode cL_law 517 = .ok (.iconst 1, 1) := by decide +kernel
theorem dL_law_518 : decode cL_law 518 = .ok (.iadd, 1) := by decide +kernel
theorem dL_law_519 : decode cL_law 519 = .ok (.iaload, 1) := by decide +kernel
theorem dL_law_520 : decode cL_law 520 = .ok (.aload_n 0, 1) := by decide +kernel
theorem dL_law_521 : decode cL_law 521 = .ok (.iload 4, 2) := by decide +kernel
theorem dL_law_523 : decode cL_law 523 = .ok (.iconst 2, 1) := by decide +kernel
theorem dL_law_524 : decode cL_law 524 = .ok (.iadd, 1) := by decide +kernel
theorem dL_law_525 : decode cL_law 525 = .ok (.iaload, 1) := by decide +kernel
theorem dL_law_526 : decode cL_law 526 = .ok (.invokevirtual 140, 3) := by decide +kernel
theorem dL_law_529 : decode cL_law 529 = .ok (.istore 6, 2) := by decide +kernel
theorem dL_law_531 : decode cL_law 531 = .ok (.aload_n 2, 1) := by decide +kernel
theorem dL_law_532 : decode cL_law 532 = .ok (.invokevirtual 113, 3) := by decide +kernel
theorem dL_law_535 : decode cL_law 535 = .ok (.iload 5, 2) := by decide +kernel
theorem dL_law_537 : decode cL_law 537 = .ok (.if_icmp .eq 5, 3) := by decide +kernel
theorem dL_law_540 : decode cL_law 540 = .ok (.iconst 0, 1) := by decide +kernel
theorem dL_law_541 : decode cL_law 541 = .ok (.ireturn, 1) := by decide +kernel
theorem dL_law_542 : decode cL_law 542 = .ok (.iload 5, 2) := by decide +kernel
theorem dL_law_544 : decode cL_law 544 = .ok (.ifCond .ne 15, 3) := by decide +kernel
theorem dL_law_547 : decode cL_law 547 = .ok (.aload_n 3, 1) := by decide +kernel
theorem dL_law_548 : decode cL_law 548 = .ok (.iconst 0, 1) := by decide +kernel
theorem dL_law_549 : decode cL_law 549 = .ok (.laload, 1) := by decide +kernel
theorem dL_law_550 : decode cL_law 550 = .ok (.iload 6, 2) := by decide +kernel
theorem dL_law_552 : decode cL_law 552 = .ok (.i2l, 1) := by decide +kernel
theorem dL_law_553 : decode cL_law 553 = .ok (.lcmp, 1) := by decide +kernel
theorem dL_law_554 : decode cL_law 554 = .ok (.ifCond .eq 5, 3) := by decide +kernel
theorem dL_law_557 : decode cL_law 557 = .ok (.iconst 0, 1) := by decide +kernel
theorem dL_law_558 : decode cL_law 558 = .ok (.ireturn, 1) := by decide +kernel
theorem dL_law_559 : decode cL_law 559 = .ok (.goto 1453, 3) := by decide +kernel
theorem dL_law_562 : decode cL_law 562 = .ok (.aload_n 1, 1) := by decide +kernel
theorem dL_law_563 : decode cL_law 563 = .ok (.aload_n 0, 1) := by decide +kernel
theorem dL_law_564 : decode cL_law 564 = .ok (.iload 4, 2) := by decide +kernel
theorem dL_law_566 : decode cL_law 566 = .ok (.iconst 1, 1) := by decide +kernel
theorem dL_law_567 : decode cL_law 567 = .ok (.iadd, 1) := by decide +kernel
theorem dL_law_568 : decode cL_law 568 = .ok (.iaload, 1) := by decide +kernel
theorem dL_law_569 : decode cL_law 569 = .ok (.aload_n 0, 1) := by decide +kernel
theorem dL_law_570 : decode cL_law 570 = .ok (.iload 4, 2) := by decide +kernel
theorem dL_law_572 : decode cL_law 572 = .ok (.iconst 2, 1) := by decide +kernel
theorem dL_law_573 : decode cL_law 573 = .ok (.iadd, 1) := by decide +kernel
theorem dL_law_574 : decode cL_law 574 = .ok (.iaload, 1) := by decide +kernel
theorem dL_law_575 : decode cL_law 575 = .ok (.aload_n 3, 1) := by decide +kernel
theorem dL_law_576 : decode cL_law 576 = .ok (.invokestatic 141, 3) := by decide +kernel
theorem dL_law_579 : decode cL_law 579 = .ok (.istore 5, 2) := by decide +kernel
theorem dL_law_581 : decode cL_law 581 = .ok (.aload_n 2, 1) := by decide +kernel
theorem dL_law_582 : decode cL_law 582 = .ok (.aload_n 0, 1) := by decide +kernel
theorem dL_law_583 : decode cL_law 583 = .ok (.iload 4, 2) := by decide +kernel
theorem dL_law_585 : decode cL_law 585 = .ok (.iconst 1, 1) := by decide +kernel
theorem dL_law_586 : decode cL_law 586 = .ok (.iadd, 1) := by decide +kernel
theorem dL_law_587 : decode cL_law 587 = .ok (.iaload, 1) := by decide +kernel
theorem dL_law_588 : decode cL_law 588 = .ok (.aload_n 0, 1) := by decide +kernel
theorem dL_law_589 : decode cL_law 589 = .ok (.iload 4, 2) := by decide +kernel
theorem dL_law_591 : decode cL_law 591 = .ok (.iconst 2, 1) := by decide +kernel
theorem dL_law_592 : decode cL_law 592 = .ok (.iadd, 1) := by decide +kernel
theorem dL_law_593 : decode cL_law 593 = .ok (.iaload, 1) := by decide +kernel
theorem dL_law_594 : decode cL_law 594 = .ok (.invokevirtual 143, 3) := by decide +kernel
theorem dL_law_597 : decode cL_law 597 = .ok (.istore 6, 2) := by decide +kernel
theorem dL_law_599 : decode cL_law 599 = .ok (.aload_n 2, 1) := by decide +kernel
theorem dL_law_600 : decode cL_law 600 = .ok (.invokevirtual 113, 3) := by decide +kernel
theorem dL_law_603 : decode cL_law 603 = .ok (.iload 5, 2) := by decide +kernel
theorem dL_law_605 : decode cL_law 605 = .ok (.if_icmp .eq 5, 3) := by decide +kernel
theorem dL_law_608 : decode cL_law 608 = .ok (.iconst 0, 1) := by decide +kernel
theorem dL_law_609 : decode cL_law 609 = .ok (.ireturn, 1) := by decide +kernel
theorem dL_law_610 : decode cL_law 610 = .ok (.iload 5, 2) := by decide +kernel
theorem dL_law_612 : decode cL_law 612 = .ok (.ifCond .ne 15, 3) := by decide +kernel
theorem dL_law_615 : decode cL_law 615 = .ok (.aload_n 3, 1) := by decide +kernel
theorem dL_law_616 : decode cL_law 616 = .ok (.iconst 0, 1) := by decide +kernel
theorem dL_law_617 : decode cL_law 617 = .ok (.laload, 1) := by decide +kernel
theorem dL_law_618 : decode cL_law 618 = .ok (.iload 6, 2) := by decide +kernel
theorem dL_law_620 : decode cL_law 620 = .ok (.i2l, 1) := by decide +kernel
theorem dL_law_621 : decode cL_law 621 = .ok (.lcmp, 1) := by decide +kernel
theorem dL_law_622 : decode cL_law 622 = .ok (.ifCond .eq 5, 3) := by decide +kernel
theorem dL_law_625 : decode cL_law 625 = .ok (.iconst 0, 1) := by decide +kernel
theorem dL_law_626 : decode cL_law 626 = .ok (.ireturn, 1) := by decide +kernel
theorem dL_law_627 : decode cL_law 627 = .ok (.goto 1385, 3) := by decide +kernel
theorem dL_law_630 : decode cL_law 630 = .ok (.aload_n 1, 1) := by decide +kernel
theorem dL_law_631 : decode cL_law 631 = .ok (.aload_n 0, 1) := by decide +kernel
theorem dL_law_632 : decode cL_law 632 = .ok (.iload 4, 2) := by decide +kernel
theorem dL_law_634 : decode cL_law 634 = .ok (.iconst 1, 1) := by decide +kernel
theorem dL_law_635 : decode cL_law 635 = .ok (.iadd, 1) := by decide +kernel
theorem dL_law_636 : decode cL_law 636 = .ok (.iaload, 1) := by decide +kernel
theorem dL_law_637 : decode cL_law 637 = .ok (.aload_n 3, 1) := by decide +kernel
theorem dL_law_638 : decode cL_law 638 = .ok (.invokestatic 144, 3) := by decide +kernel
theorem dL_law_641 : decode cL_law 641 = .ok (.istore 5, 2) := by decide +kernel
theorem dL_law_643 : decode cL_law 643 = .ok (.aload_n 2, 1) := by decide +kernel
theorem dL_law_644 : decode cL_law 644 = .ok (.aload_n 0, 1) := by decide +kernel
theorem dL_law_645 : decode cL_law 645 = .ok (.iload 4, 2) := by decide +kernel
theorem dL_law_647 : decode cL_law 647 = .ok (.iconst 1, 1) := by decide +kernel
theorem dL_law_648 : decode cL_law 648 = .ok (.iadd, 1) := by decide +kernel
theorem dL_law_649 : decode cL_law 649 = .ok (.iaload, 1) := by decide +kernel
theorem dL_law_650 : decode cL_law 650 = .ok (.invokevirtual 146, 3) := by decide +kernel
theorem dL_law_653 : decode cL_law 653 = .ok (.istore 6, 2) := by decide +kernel
theorem dL_law_655 : decode cL_law 655 = .ok (.aload_n 2, 1) := by decide +kernel
theorem dL_law_656 : decode cL_law 656 = .ok (.invokevirtual 113, 3) := by decide +kernel
theorem dL_law_659 : decode cL_law 659 = .ok (.iload 5, 2) := by decide +kernel
theorem dL_law_661 : decode cL_law 661 = .ok (.if_icmp .eq 5, 3) := by decide +kernel
theorem dL_law_664 : decode cL_law 664 = .ok (.iconst 0, 1) := by decide +kernel
theorem dL_law_665 : decode cL_law 665 = .ok (.ireturn, 1) := by decide +kernel
theorem dL_law_666 : decode cL_law 666 = .ok (.iload 5, 2) := by decide +kernel
theorem dL_law_668 : decode cL_law 668 = .ok (.ifCond .ne 15, 3) := by decide +kernel
theorem dL_law_671 : decode cL_law 671 = .ok (.aload_n 3, 1) := by decide +kernel
theorem dL_law_672 : decode cL_law 672 = .ok (.iconst 0, 1) := by decide +kernel
theorem dL_law_673 : decode cL_law 673 = .ok (.laload, 1) := by decide +kernel
theorem dL_law_674 : decode cL_law 674 = .ok (.iload 6, 2) := by decide +kernel
theorem dL_law_676 : decode cL_law 676 = .ok (.i2l, 1) := by decide +kernel
theorem dL_law_677 : decode cL_law 677 = .ok (.lcmp, 1) := by decide +kernel
theorem dL_law_678 : decode cL_law 678 = .ok (.ifCond .eq 5, 3) := by decide +kernel
theorem dL_law_681 : decode cL_law 681 = .ok (.iconst 0, 1) := by decide +kernel
theorem dL_law_682 : decode cL_law 682 = .ok (.ireturn, 1) := by decide +kernel
theorem dL_law_683 : decode cL_law 683 = .ok (.goto 1329, 3) := by decide +kernel
theorem dL_law_686 : decode cL_law 686 = .ok (.aload_n 1, 1) := by decide +kernel
theorem dL_law_687 : decode cL_law 687 = .ok (.aload_n 0, 1) := by decide +kernel
theorem dL_law_688 : decode cL_law 688 = .ok (.iload 4, 2) := by decide +kernel
theorem dL_law_690 : decode cL_law 690 = .ok (.iconst 1, 1) := by decide +kernel
theorem dL_law_691 : decode cL_law 691 = .ok (.iadd, 1) := by decide +kernel
theorem dL_law_692 : decode cL_law 692 = .ok (.iaload, 1) := by decide +kernel
theorem dL_law_693 : decode cL_law 693 = .ok (.aload_n 0, 1) := by decide +kernel
theorem dL_law_694 : decode cL_law 694 = .ok (.iload 4, 2) := by decide +kernel
theorem dL_law_696 : decode cL_law 696 = .ok (.iconst 2, 1) := by decide +kernel
theorem dL_law_697 : decode cL_law 697 = .ok (.iadd, 1) := by decide +kernel
theorem dL_law_698 : decode cL_law 698 = .ok (.iaload, 1) := by decide +kernel
theorem dL_law_699 : decode cL_law 699 = .ok (.aload_n 3, 1) := by decide +kernel
theorem dL_law_700 : decode cL_law 700 = .ok (.invokestatic 147, 3) := by decide +kernel
theorem dL_law_703 : decode cL_law 703 = .ok (.istore 5, 2) := by decide +kernel
theorem dL_law_705 : decode cL_law 705 = .ok (.aload_n 2, 1) := by decide +kernel
theorem dL_law_706 : decode cL_law 706 = .ok (.aload_n 0, 1) := by decide +kernel
theorem dL_law_707 : decode cL_law 707 = .ok (.iload 4, 2) := by decide +kernel
theorem dL_law_709 : decode cL_law 709 = .ok (.iconst 1, 1) := by decide +kernel
theorem dL_law_710 : decode cL_law 710 = .ok (.iadd, 1) := by decide +kernel
theorem dL_law_711 : decode cL_law 711 = .ok (.iaload, 1) := by decide +kernel
theorem dL_law_712 : decode cL_law 712 = .ok (.aload_n 0, 1) := by decide +kernel
theorem dL_law_713 : decode cL_law 713 = .ok (.iload 4, 2) := by decide +kernel
theorem dL_law_715 : decode cL_law 715 = .ok (.iconst 2, 1) := by decide +kernel
theorem dL_law_716 : decode cL_law 716 = .ok (.iadd, 1) := by decide +kernel
theorem dL_law_717 : decode cL_law 717 = .ok (.iaload, 1) := by decide +kernel
theorem dL_law_718 : decode cL_law 718 = .ok (.invokevirtual 149, 3) := by decide +kernel
theorem dL_law_721 : decode cL_law 721 = .ok (.istore 6, 2) := by decide +kernel
theorem dL_law_723 : decode cL_law 723 = .ok (.aload_n 2, 1) := by decide +kernel
theorem dL_law_724 : decode cL_law 724 = .ok (.invokevirtual 113, 3) := by decide +kernel
theorem dL_law_727 : decode cL_law 727 = .ok (.iload 5, 2) := by decide +kernel
theorem dL_law_729 : decode cL_law 729 = .ok (.if_icmp .eq 5, 3) := by decide +kernel
theorem dL_law_732 : decode cL_law 732 = .ok (.iconst 0, 1) := by decide +kernel
theorem dL_law_733 : decode cL_law 733 = .ok (.ireturn, 1) := by decide +kernel
theorem dL_law_734 : decode cL_law 734 = .ok (.iload 5, 2) := by decide +kernel
theorem dL_law_736 : decode cL_law 736 = .ok (.ifCond .ne 15, 3) := by decide +kernel
theorem dL_law_739 : decode cL_law 739 = .ok (.aload_n 3, 1) := by decide +kernel
theorem dL_law_740 : decode cL_law 740 = .ok (.iconst 0, 1) := by decide +kernel
theorem dL_law_741 : decode cL_law 741 = .ok (.laload, 1) := by decide +kernel
theorem dL_law_742 : decode cL_law 742 = .ok (.iload 6, 2) := by decide +kernel
theorem dL_law_744 : decode cL_law 744 = .ok (.i2l, 1) := by decide +kernel
theorem dL_law_745 : decode cL_law 745 = .ok (.lcmp, 1) := by decide +kernel
theorem dL_law_746 : decode cL_law 746 = .ok (.ifCond .eq 5, 3) := by decide +kernel
theorem dL_law_749 : decode cL_law 749 = .ok (.iconst 0, 1) := by decide +kernel
theorem dL_law_750 : decode cL_law 750 = .ok (.ireturn, 1) := by decide +kernel
theorem dL_law_751 : decode cL_law 751 = .ok (.goto 1261, 3) := by decide +kernel
theorem dL_law_754 : decode cL_law 754 = .ok (.aload_n 1, 1) := by decide +kernel
theorem dL_law_755 : decode cL_law 755 = .ok (.aload_n 0, 1) := by decide +kernel
theorem dL_law_756 : decode cL_law 756 = .ok (.iload 4, 2) := by decide +kernel
theorem dL_law_758 : decode cL_law 758 = .ok (.iconst 1, 1) := by decide +kernel
theorem dL_law_759 : decode cL_law 759 = .ok (.iadd, 1) := by decide +kernel
theorem dL_law_760 : decode cL_law 760 = .ok (.iaload, 1) := by decide +kernel
theorem dL_law_761 : decode cL_law 761 = .ok (.aload_n 0, 1) := by decide +kernel
theorem dL_law_762 : decode cL_law 762 = .ok (.iload 4, 2) := by decide +kernel
theorem dL_law_764 : decode cL_law 764 = .ok (.iconst 2, 1) := by decide +kernel
theorem dL_law_765 : decode cL_law 765 = .ok (.iadd, 1) := by decide +kernel
theorem dL_law_766 : decode cL_law 766 = .ok (.iaload, 1) := by decide +kernel
theorem dL_law_767 : decode cL_law 767 = .ok (.ifCond .eq 7, 3) := by decide +kernel
theorem dL_law_770 : decode cL_law 770 = .ok (.iconst 1, 1) := by decide +kernel
theorem dL_law_771 : decode cL_law 771 = .ok (.goto 4, 3) := by decide +kernel
theorem dL_law_774 : decode cL_law 774 = .ok (.iconst 0, 1) := by decide +kernel
theorem dL_law_775 : decode cL_law 775 = .ok (.aload_n 3, 1) := by decide +kernel
theorem dL_law_776 : decode cL_law 776 = .ok (.invokestatic 150, 3) := by decide +kernel
theorem dL_law_779 : decode cL_law 779 = .ok (.istore 5, 2) := by decide +kernel
theorem dL_law_781 : decode cL_law 781 = .ok (.aload_n 2, 1) := by decide +kernel
theorem dL_law_782 : decode cL_law 782 = .ok (.aload_n 0, 1) := by decide +kernel
theorem dL_law_783 : decode cL_law 783 = .ok (.iload 4, 2) := by decide +kernel
theorem dL_law_785 : decode cL_law 785 = .ok (.iconst 1, 1) := by decide +kernel
theorem dL_law_786 : decode cL_law 786 = .ok (.iadd, 1) := by decide +kernel
theorem dL_law_787 : decode cL_law 787 = .ok (.iaload, 1) := by decide +kernel
theorem dL_law_788 : decode cL_law 788 = .ok (.aload_n 0, 1) := by decide +kernel
theorem dL_law_789 : decode cL_law 789 = .ok (.iload 4, 2) := by decide +kernel
theorem dL_law_791 : decode cL_law 791 = .ok (.iconst 2, 1) := by decide +kernel
theorem dL_law_792 : decode cL_law 792 = .ok (.iadd, 1) := by decide +kernel
theorem dL_law_793 : decode cL_law 793 = .ok (.iaload, 1) := by decide +kernel
theorem dL_law_794 : decode cL_law 794 = .ok (.ifCond .eq 7, 3) := by decide +kernel
theorem dL_law_797 : decode cL_law 797 = .ok (.iconst 1, 1) := by decide +kernel
theorem dL_law_798 : decode cL_law 798 = .ok (.goto 4, 3) := by decide +kernel
theorem dL_law_801 : decode cL_law 801 = .ok (.iconst 0, 1) := by decide +kernel
theorem dL_law_802 : decode cL_law 802 = .ok (.invokevirtual 153, 3) := by decide +kernel
theorem dL_law_805 : decode cL_law 805 = .ok (.istore 6, 2) := by decide +kernel
theorem dL_law_807 : decode cL_law 807 = .ok (.aload_n 2, 1) := by decide +kernel
theorem dL_law_808 : decode cL_law 808 = .ok (.invokevirtual 113, 3) := by decide +kernel
theorem dL_law_811 : decode cL_law 811 = .ok (.iload 5, 2) := by decide +kernel
theorem dL_law_813 : decode cL_law 813 = .ok (.if_icmp .eq 5, 3) := by decide +kernel
theorem dL_law_816 : decode cL_law 816 = .ok (.iconst 0, 1) := by decide +kernel
theorem dL_law_817 : decode cL_law 817 = .ok (.ireturn, 1) := by decide +kernel
theorem dL_law_818 : decode cL_law 818 = .ok (.iload 5, 2) := by decide +kernel
theorem dL_law_820 : decode cL_law 820 = .ok (.ifCond .ne 15, 3) := by decide +kernel
theorem dL_law_823 : decode cL_law 823 = .ok (.aload_n 3, 1) := by decide +kernel
theorem dL_law_824 : decode cL_law 824 = .ok (.iconst 0, 1) := by decide +kernel
theorem dL_law_825 : decode cL_law 825 = .ok (.laload, 1) := by decide +kernel
theorem dL_law_826 : decode cL_law 826 = .ok (.iload 6, 2) := by decide +kernel
theorem dL_law_828 : decode cL_law 828 = .ok (.i2l, 1) := by decide +kernel
theorem dL_law_829 : decode cL_law 829 = .ok (.lcmp, 1) := by decide +kernel
theorem dL_law_830 : decode cL_law 830 = .ok (.ifCond .eq 5, 3) := by decide +kernel
theorem dL_law_833 : decode cL_law 833 = .ok (.iconst 0, 1) := by decide +kernel
theorem dL_law_834 : decode cL_law 834 = .ok (.ireturn, 1) := by decide +kernel
theorem dL_law_835 : decode cL_law 835 = .ok (.goto 1177, 3) := by decide +kernel
theorem dL_law_838 : decode cL_law 838 = .ok (.aload_n 1, 1) := by decide +kernel
theorem dL_law_839 : decode cL_law 839 = .ok (.aload_n 0, 1) := by decide +kernel
theorem dL_law_840 : decode cL_law 840 = .ok (.iload 4, 2) := by decide +kernel
theorem dL_law_842 : decode cL_law 842 = .ok (.iconst 1, 1) := by decide +kernel
theorem dL_law_843 : decode cL_law 843 = .ok (.iadd, 1) := by decide +kernel
theorem dL_law_844 : decode cL_law 844 = .ok (.iaload, 1) := by decide +kernel
theorem dL_law_845 : decode cL_law 845 = .ok (.aload_n 0, 1) := by decide +kernel
theorem dL_law_846 : decode cL_law 846 = .ok (.iload 4, 2) := by decide +kernel
theorem dL_law_848 : decode cL_law 848 = .ok (.iconst 2, 1) := by decide +kernel
theorem dL_law_849 : decode cL_law 849 = .ok (.iadd, 1) := by decide +kernel
theorem dL_law_850 : decode cL_law 850 = .ok (.iaload, 1) := by decide +kernel
theorem dL_law_851 : decode cL_law 851 = .ok (.aload_n 3, 1) := by decide +kernel
theorem dL_law_852 : decode cL_law 852 = .ok (.invokestatic 154, 3) := by decide +kernel
theorem dL_law_855 : decode cL_law 855 = .ok (.istore 5, 2) := by decide +kernel
theorem dL_law_857 : decode cL_law 857 = .ok (.aload_n 2, 1) := by decide +kernel
theorem dL_law_858 : decode cL_law 858 = .ok (.aload_n 0, 1) := by decide +kernel
theorem dL_law_859 : decode cL_law 859 = .ok (.iload 4, 2) := by decide +kernel
theorem dL_law_861 : decode cL_law 861 = .ok (.iconst 1, 1) := by decide +kernel
theorem dL_law_862 : decode cL_law 862 = .ok (.iadd, 1) := by decide +kernel
theorem dL_law_863 : decode cL_law 863 = .ok (.iaload, 1) := by decide +kernel
theorem dL_law_864 : decode cL_law 864 = .ok (.aload_n 0, 1) := by decide +kernel
theorem dL_law_865 : decode cL_law 865 = .ok (.iload 4, 2) := by decide +kernel
theorem dL_law_867 : decode cL_law 867 = .ok (.iconst 2, 1) := by decide +kernel
theorem dL_law_868 : decode cL_law 868 = .ok (.iadd, 1) := by decide +kernel
theorem dL_law_869 : decode cL_law 869 = .ok (.iaload, 1) := by decide +kernel
theorem dL_law_870 : decode cL_law 870 = .ok (.invokevirtual 156, 3) := by decide +kernel
theorem dL_law_873 : decode cL_law 873 = .ok (.istore 6, 2) := by decide +kernel
theorem dL_law_875 : decode cL_law 875 = .ok (.aload_n 2, 1) := by decide +kernel
theorem dL_law_876 : decode cL_law 876 = .ok (.invokevirtual 113, 3) := by decide +kernel
theorem dL_law_879 : decode cL_law 879 = .ok (.iload 5, 2) := by decide +kernel
theorem dL_law_881 : decode cL_law 881 = .ok (.if_icmp .eq 5, 3) := by decide +kernel
theorem dL_law_884 : decode cL_law 884 = .ok (.iconst 0, 1) := by decide +kernel
theorem dL_law_885 : decode cL_law 885 = .ok (.ireturn, 1) := by decide +kernel
theorem dL_law_886 : decode cL_law 886 = .ok (.iload 5, 2) := by decide +kernel
theorem dL_law_888 : decode cL_law 888 = .ok (.ifCond .ne 15, 3) := by decide +kernel
theorem dL_law_891 : decode cL_law 891 = .ok (.aload_n 3, 1) := by decide +kernel
theorem dL_law_892 : decode cL_law 892 = .ok (.iconst 0, 1) := by decide +kernel
theorem dL_law_893 : decode cL_law 893 = .ok (.laload, 1) := by decide +kernel
theorem dL_law_894 : decode cL_law 894 = .ok (.iload 6, 2) := by decide +kernel
theorem dL_law_896 : decode cL_law 896 = .ok (.i2l, 1) := by decide +kernel
theorem dL_law_897 : decode cL_law 897 = .ok (.lcmp, 1) := by decide +kernel
theorem dL_law_898 : decode cL_law 898 = .ok (.ifCond .eq 5, 3) := by decide +kernel
theorem dL_law_901 : decode cL_law 901 = .ok (.iconst 0, 1) := by decide +kernel
theorem dL_law_902 : decode cL_law 902 = .ok (.ireturn, 1) := by decide +kernel
theorem dL_law_903 : decode cL_law 903 = .ok (.goto 1109, 3) := by decide +kernel
theorem dL_law_906 : decode cL_law 906 = .ok (.aload_n 1, 1) := by decide +kernel
theorem dL_law_907 : decode cL_law 907 = .ok (.aload_n 0, 1) := by decide +kernel
theorem dL_law_908 : decode cL_law 908 = .ok (.iload 4, 2) := by decide +kernel
theorem dL_law_910 : decode cL_law 910 = .ok (.iconst 1, 1) := by decide +kernel
theorem dL_law_911 : decode cL_law 911 = .ok (.iadd, 1) := by decide +kernel
theorem dL_law_912 : decode cL_law 912 = .ok (.iaload, 1) := by decide +kernel
theorem dL_law_913 : decode cL_law 913 = .ok (.aload_n 0, 1) := by decide +kernel
theorem dL_law_914 : decode cL_law 914 = .ok (.iload 4, 2) := by decide +kernel
theorem dL_law_916 : decode cL_law 916 = .ok (.iconst 2, 1) := by decide +kernel
theorem dL_law_917 : decode cL_law 917 = .ok (.iadd, 1) := by decide +kernel
theorem dL_law_918 : decode cL_law 918 = .ok (.iaload, 1) := by decide +kernel
theorem dL_law_919 : decode cL_law 919 = .ok (.aload_n 3, 1) := by decide +kernel
theorem dL_law_920 : decode cL_law 920 = .ok (.invokestatic 157, 3) := by decide +kernel
theorem dL_law_923 : decode cL_law 923 = .ok (.istore 5, 2) := by decide +kernel
theorem dL_law_925 : decode cL_law 925 = .ok (.aload_n 2, 1) := by decide +kernel
theorem dL_law_926 : decode cL_law 926 = .ok (.aload_n 0, 1) := by decide +kernel
theorem dL_law_927 : decode cL_law 927 = .ok (.iload 4, 2) := by decide +kernel
theorem dL_law_929 : decode cL_law 929 = .ok (.iconst 1, 1) := by decide +kernel
theorem dL_law_930 : decode cL_law 930 = .ok (.iadd, 1) := by decide +kernel
theorem dL_law_931 : decode cL_law 931 = .ok (.iaload, 1) := by decide +kernel
theorem dL_law_932 : decode cL_law 932 = .ok (.aload_n 0, 1) := by decide +kernel
theorem dL_law_933 : decode cL_law 933 = .ok (.iload 4, 2) := by decide +kernel
theorem dL_law_935 : decode cL_law 935 = .ok (.iconst 2, 1) := by decide +kernel
theorem dL_law_936 : decode cL_law 936 = .ok (.iadd, 1) := by decide +kernel
theorem dL_law_937 : decode cL_law 937 = .ok (.iaload, 1) := by decide +kernel
theorem dL_law_938 : decode cL_law 938 = .ok (.invokevirtual 159, 3) := by decide +kernel
theorem dL_law_941 : decode cL_law 941 = .ok (.istore 6, 2) := by decide +kernel
theorem dL_law_943 : decode cL_law 943 = .ok (.aload_n 2, 1) := by decide +kernel
theorem dL_law_944 : decode cL_law 944 = .ok (.invokevirtual 113, 3) := by decide +kernel
theorem dL_law_947 : decode cL_law 947 = .ok (.iload 5, 2) := by decide +kernel
theorem dL_law_949 : decode cL_law 949 = .ok (.if_icmp .eq 5, 3) := by decide +kernel
theorem dL_law_952 : decode cL_law 952 = .ok (.iconst 0, 1) := by decide +kernel
theorem dL_law_953 : decode cL_law 953 = .ok (.ireturn, 1) := by decide +kernel
theorem dL_law_954 : decode cL_law 954 = .ok (.iload 5, 2) := by decide +kernel
theorem dL_law_956 : decode cL_law 956 = .ok (.ifCond .ne 15, 3) := by decide +kernel
theorem dL_law_959 : decode cL_law 959 = .ok (.aload_n 3, 1) := by decide +kernel
theorem dL_law_960 : decode cL_law 960 = .ok (.iconst 0, 1) := by decide +kernel
theorem dL_law_961 : decode cL_law 961 = .ok (.laload, 1) := by decide +kernel
theorem dL_law_962 : decode cL_law 962 = .ok (.iload 6, 2) := by decide +kernel
theorem dL_law_964 : decode cL_law 964 = .ok (.i2l, 1) := by decide +kernel
theorem dL_law_965 : decode cL_law 965 = .ok (.lcmp, 1) := by decide +kernel
theorem dL_law_966 : decode cL_law 966 = .ok (.ifCond .eq 5, 3) := by decide +kernel
theorem dL_law_969 : decode cL_law 969 = .ok (.iconst 0, 1) := by decide +kernel
theorem dL_law_970 : decode cL_law 970 = .ok (.ireturn, 1) := by decide +kernel
theorem dL_law_971 : decode cL_law 971 = .ok (.goto 1041, 3) := by decide +kernel
theorem dL_law_974 : decode cL_law 974 = .ok (.aload_n 1, 1) := by decide +kernel
theorem dL_law_975 : decode cL_law 975 = .ok (.aload_n 0, 1) := by decide +kernel
theorem dL_law_976 : decode cL_law 976 = .ok (.iload 4, 2) := by decide +kernel
theorem dL_law_978 : decode cL_law 978 = .ok (.iconst 1, 1) := by decide +kernel
theorem dL_law_979 : decode cL_law 979 = .ok (.iadd, 1) := by decide +kernel
theorem dL_law_980 : decode cL_law 980 = .ok (.iaload, 1) := by decide +kernel
theorem dL_law_981 : decode cL_law 981 = .ok (.aload_n 0, 1) := by decide +kernel
theorem dL_law_982 : decode cL_law 982 = .ok (.iload 4, 2) := by decide +kernel
theorem dL_law_984 : decode cL_law 984 = .ok (.iconst 2, 1) := by decide +kernel
theorem dL_law_985 : decode cL_law 985 = .ok (.iadd, 1) := by decide +kernel
theorem dL_law_986 : decode cL_law 986 = .ok (.iaload, 1) := by decide +kernel
theorem dL_law_987 : decode cL_law 987 = .ok (.aload_n 0, 1) := by decide +kernel
theorem dL_law_988 : decode cL_law 988 = .ok (.iload 4, 2) := by decide +kernel
theorem dL_law_990 : decode cL_law 990 = .ok (.iconst 3, 1) := by decide +kernel
theorem dL_law_991 : decode cL_law 991 = .ok (.iadd, 1) := by decide +kernel
theorem dL_law_992 : decode cL_law 992 = .ok (.iaload, 1) := by decide +kernel
theorem dL_law_993 : decode cL_law 993 = .ok (.aload_n 3, 1) := by decide +kernel
theorem dL_law_994 : decode cL_law 994 = .ok (.invokestatic 160, 3) := by decide +kernel
theorem dL_law_997 : decode cL_law 997 = .ok (.istore 5, 2) := by decide +kernel
theorem dL_law_999 : decode cL_law 999 = .ok (.aload_n 2, 1) := by decide +kernel
theorem dL_law_1000 : decode cL_law 1000 = .ok (.aload_n 0, 1) := by decide +kernel
theorem dL_law_1001 : decode cL_law 1001 = .ok (.iload 4, 2) := by decide +kernel
theorem dL_law_1003 : decode cL_law 1003 = .ok (.iconst 1, 1) := by decide +kernel
theorem dL_law_1004 : decode cL_law 1004 = .ok (.iadd, 1) := by decide +kernel
theorem dL_law_1005 : decode cL_law 1005 = .ok (.iaload, 1) := by decide +kernel
theorem dL_law_1006 : decode cL_law 1006 = .ok (.aload_n 0, 1) := by decide +kernel
theorem dL_law_1007 : decode cL_law 1007 = .ok (.iload 4, 2) := by decide +kernel
theorem dL_law_1009 : decode cL_law 1009 = .ok (.iconst 2, 1) := by decide +kernel
theorem dL_law_1010 : decode cL_law 1010 = .ok (.iadd, 1) := by decide +kernel
theorem dL_law_1011 : decode cL_law 1011 = .ok (.iaload, 1) := by decide +kernel
theorem dL_law_1012 : decode cL_law 1012 = .ok (.aload_n 0, 1) := by decide +kernel
theorem dL_law_1013 : decode cL_law 1013 = .ok (.iload 4, 2) := by decide +kernel
theorem dL_law_1015 : decode cL_law 1015 = .ok (.iconst 3, 1) := by decide +kernel
theorem dL_law_1016 : decode cL_law 1016 = .ok (.iadd, 1) := by decide +kernel
theorem dL_law_1017 : decode cL_law 1017 = .ok (.iaload, 1) := by decide +kernel
theorem dL_law_1018 : decode cL_law 1018 = .ok (.invokevirtual 163, 3) := by decide +kernel
theorem dL_law_1021 : decode cL_law 1021 = .ok (.istore 6, 2) := by decide +kernel
theorem dL_law_1023 : decode cL_law 1023 = .ok (.aload_n 2, 1) := by decide +kernel
theorem dL_law_1024 : decode cL_law 1024 = .ok (.invokevirtual 113, 3) := by decide +kernel
theorem dL_law_1027 : decode cL_law 1027 = .ok (.iload 5, 2) := by decide +kernel
theorem dL_law_1029 : decode cL_law 1029 = .ok (.if_icmp .eq 5, 3) := by decide +kernel
theorem dL_law_1032 : decode cL_law 1032 = .ok (.iconst 0, 1) := by decide +kernel
theorem dL_law_1033 : decode cL_law 1033 = .ok (.ireturn, 1) := by decide +kernel
theorem dL_law_1034 : decode cL_law 1034 = .ok (.iload 5, 2) := by decide +kernel
theorem dL_law_1036 : decode cL_law 1036 = .ok (.ifCond .ne 15, 3) := by decide +kernel
theorem dL_law_1039 : decode cL_law 1039 = .ok (.aload_n 3, 1) := by decide +kernel
theorem dL_law_1040 : decode cL_law 1040 = .ok (.iconst 0, 1) := by decide +kernel
theorem dL_law_1041 : decode cL_law 1041 = .ok (.laload, 1) := by decide +kernel
theorem dL_law_1042 : decode cL_law 1042 = .ok (.iload 6, 2) := by decide +kernel
theorem dL_law_1044 : decode cL_law 1044 = .ok (.i2l, 1) := by decide +kernel
theorem dL_law_1045 : decode cL_law 1045 = .ok (.lcmp, 1) := by decide +kernel
theorem dL_law_1046 : decode cL_law 1046 = .ok (.ifCond .eq 5, 3) := by decide +kernel
theorem dL_law_1049 : decode cL_law 1049 = .ok (.iconst 0, 1) := by decide +kernel
theorem dL_law_1050 : decode cL_law 1050 = .ok (.ireturn, 1) := by decide +kernel
theorem dL_law_1051 : decode cL_law 1051 = .ok (.goto 961, 3) := by decide +kernel
theorem dL_law_1054 : decode cL_law 1054 = .ok (.aload_n 1, 1) := by decide +kernel
theorem dL_law_1055 : decode cL_law 1055 = .ok (.invokevirtual 164, 3) := by decide +kernel
theorem dL_law_1058 : decode cL_law 1058 = .ok (.aload_n 2, 1) := by decide +kernel
theorem dL_law_1059 : decode cL_law 1059 = .ok (.invokevirtual 167, 3) := by decide +kernel
theorem dL_law_1062 : decode cL_law 1062 = .ok (.if_icmp .eq 950, 3) := by decide +kernel
theorem dL_law_1065 : decode cL_law 1065 = .ok (.iconst 0, 1) := by decide +kernel
theorem dL_law_1066 : decode cL_law 1066 = .ok (.ireturn, 1) := by decide +kernel
theorem dL_law_1067 : decode cL_law 1067 = .ok (.aload_n 1, 1) := by decide +kernel
theorem dL_law_1068 : decode cL_law 1068 = .ok (.aload_n 0, 1) := by decide +kernel
theorem dL_law_1069 : decode cL_law 1069 = .ok (.iload 4, 2) := by decide +kernel
theorem dL_law_1071 : decode cL_law 1071 = .ok (.iconst 1, 1) := by decide +kernel
theorem dL_law_1072 : decode cL_law 1072 = .ok (.iadd, 1) := by decide +kernel
theorem dL_law_1073 : decode cL_law 1073 = .ok (.iaload, 1) := by decide +kernel
theorem dL_law_1074 : decode cL_law 1074 = .ok (.aload_n 0, 1) := by decide +kernel
theorem dL_law_1075 : decode cL_law 1075 = .ok (.iload 4, 2) := by decide +kernel
theorem dL_law_1077 : decode cL_law 1077 = .ok (.iconst 2, 1) := by decide +kernel
theorem dL_law_1078 : decode cL_law 1078 = .ok (.iadd, 1) := by decide +kernel
theorem dL_law_1079 : decode cL_law 1079 = .ok (.iaload, 1) := by decide +kernel
theorem dL_law_1080 : decode cL_law 1080 = .ok (.aload_n 0, 1) := by decide +kernel
theorem dL_law_1081 : decode cL_law 1081 = .ok (.iload 4, 2) := by decide +kernel
theorem dL_law_1083 : decode cL_law 1083 = .ok (.iconst 3, 1) := by decide +kernel
theorem dL_law_1084 : decode cL_law 1084 = .ok (.iadd, 1) := by decide +kernel
theorem dL_law_1085 : decode cL_law 1085 = .ok (.iaload, 1) := by decide +kernel
theorem dL_law_1086 : decode cL_law 1086 = .ok (.aload_n 3, 1) := by decide +kernel
theorem dL_law_1087 : decode cL_law 1087 = .ok (.invokestatic 168, 3) := by decide +kernel
theorem dL_law_1090 : decode cL_law 1090 = .ok (.istore 5, 2) := by decide +kernel
theorem dL_law_1092 : decode cL_law 1092 = .ok (.aload_n 2, 1) := by decide +kernel
theorem dL_law_1093 : decode cL_law 1093 = .ok (.aload_n 0, 1) := by decide +kernel
theorem dL_law_1094 : decode cL_law 1094 = .ok (.iload 4, 2) := by decide +kernel
theorem dL_law_1096 : decode cL_law 1096 = .ok (.iconst 1, 1) := by decide +kernel
theorem dL_law_1097 : decode cL_law 1097 = .ok (.iadd, 1) := by decide +kernel
theorem dL_law_1098 : decode cL_law 1098 = .ok (.iaload, 1) := by decide +kernel
theorem dL_law_1099 : decode cL_law 1099 = .ok (.aload_n 0, 1) := by decide +kernel
theorem dL_law_1100 : decode cL_law 1100 = .ok (.iload 4, 2) := by decide +kernel
theorem dL_law_1102 : decode cL_law 1102 = .ok (.iconst 2, 1) := by decide +kernel
theorem dL_law_1103 : decode cL_law 1103 = .ok (.iadd, 1) := by decide +kernel
theorem dL_law_1104 : decode cL_law 1104 = .ok (.iaload, 1) := by decide +kernel
theorem dL_law_1105 : decode cL_law 1105 = .ok (.aload_n 0, 1) := by decide +kernel
theorem dL_law_1106 : decode cL_law 1106 = .ok (.iload 4, 2) := by decide +kernel
theorem dL_law_1108 : decode cL_law 1108 = .ok (.iconst 3, 1) := by decide +kernel
theorem dL_law_1109 : decode cL_law 1109 = .ok (.iadd, 1) := by decide +kernel
theorem dL_law_1110 : decode cL_law 1110 = .ok (.iaload, 1) := by decide +kernel
theorem dL_law_1111 : decode cL_law 1111 = .ok (.invokevirtual 170, 3) := by decide +kernel
theorem dL_law_1114 : decode cL_law 1114 = .ok (.istore 6, 2) := by decide +kernel
theorem dL_law_1116 : decode cL_law 1116 = .ok (.aload_n 2, 1) := by decide +kernel
theorem dL_law_1117 : decode cL_law 1117 = .ok (.invokevirtual 113, 3) := by decide +kernel
theorem dL_law_1120 : decode cL_law 1120 = .ok (.iload 5, 2) := by decide +kernel
theorem dL_law_1122 : decode cL_law 1122 = .ok (.if_icmp .eq 5, 3) := by decide +kernel
theorem dL_law_1125 : decode cL_law 1125 = .ok (.iconst 0, 1) := by decide +kernel
theorem dL_law_1126 : decode cL_law 1126 = .ok (.ireturn, 1) := by decide +kernel
theorem dL_law_1127 : decode cL_law 1127 = .ok (.iload 5, 2) := by decide +kernel
theorem dL_law_1129 : decode cL_law 1129 = .ok (.ifCond .ne 15, 3) := by decide +kernel
theorem dL_law_1132 : decode cL_law 1132 = .ok (.aload_n 3, 1) := by decide +kernel
theorem dL_law_1133 : decode cL_law 1133 = .ok (.iconst 0, 1) := by decide +kernel
theorem dL_law_1134 : decode cL_law 1134 = .ok (.laload, 1) := by decide +kernel
theorem dL_law_1135 : decode cL_law 1135 = .ok (.iload 6, 2) := by decide +kernel
theorem dL_law_1137 : decode cL_law 1137 = .ok (.i2l, 1) := by decide +kernel
theorem dL_law_1138 : decode cL_law 1138 = .ok (.lcmp, 1) := by decide +kernel
theorem dL_law_1139 : decode cL_law 1139 = .ok (.ifCond .eq 5, 3) := by decide +kernel
theorem dL_law_1142 : decode cL_law 1142 = .ok (.iconst 0, 1) := by decide +kernel
theorem dL_law_1143 : decode cL_law 1143 = .ok (.ireturn, 1) := by decide +kernel
theorem dL_law_1144 : decode cL_law 1144 = .ok (.goto 868, 3) := by decide +kernel
theorem dL_law_1147 : decode cL_law 1147 = .ok (.aload_n 1, 1) := by decide +kernel
theorem dL_law_1148 : decode cL_law 1148 = .ok (.aload_n 0, 1) := by decide +kernel
theorem dL_law_1149 : decode cL_law 1149 = .ok (.iload 4, 2) := by decide +kernel
theorem dL_law_1151 : decode cL_law 1151 = .ok (.iconst 1, 1) := by decide +kernel
theorem dL_law_1152 : decode cL_law 1152 = .ok (.iadd, 1) := by decide +kernel
theorem dL_law_1153 : decode cL_law 1153 = .ok (.iaload, 1) := by decide +kernel
theorem dL_law_1154 : decode cL_law 1154 = .ok (.aload_n 3, 1) := by decide +kernel
theorem dL_law_1155 : decode cL_law 1155 = .ok (.invokestatic 171, 3) := by decide +kernel
theorem dL_law_1158 : decode cL_law 1158 = .ok (.istore 5, 2) := by decide +kernel
theorem dL_law_1160 : decode cL_law 1160 = .ok (.aload_n 2, 1) := by decide +kernel
theorem dL_law_1161 : decode cL_law 1161 = .ok (.aload_n 0, 1) := by decide +kernel
theorem dL_law_1162 : decode cL_law 1162 = .ok (.iload 4, 2) := by decide +kernel
theorem dL_law_1164 : decode cL_law 1164 = .ok (.iconst 1, 1) := by decide +kernel
theorem dL_law_1165 : decode cL_law 1165 = .ok (.iadd, 1) := by decide +kernel
theorem dL_law_1166 : decode cL_law 1166 = .ok (.iaload, 1) := by decide +kernel
theorem dL_law_1167 : decode cL_law 1167 = .ok (.invokevirtual 173, 3) := by decide +kernel
theorem dL_law_1170 : decode cL_law 1170 = .ok (.istore 6, 2) := by decide +kernel
theorem dL_law_1172 : decode cL_law 1172 = .ok (.aload_n 2, 1) := by decide +kernel
theorem dL_law_1173 : decode cL_law 1173 = .ok (.invokevirtual 113, 3) := by decide +kernel
theorem dL_law_1176 : decode cL_law 1176 = .ok (.iload 5, 2) := by decide +kernel
theorem dL_law_1178 : decode cL_law 1178 = .ok (.if_icmp .eq 5, 3) := by decide +kernel
theorem dL_law_1181 : decode cL_law 1181 = .ok (.iconst 0, 1) := by decide +kernel
theorem dL_law_1182 : decode cL_law 1182 = .ok (.ireturn, 1) := by decide +kernel
theorem dL_law_1183 : decode cL_law 1183 = .ok (.iload 5, 2) := by decide +kernel
theorem dL_law_1185 : decode cL_law 1185 = .ok (.ifCond .ne 15, 3) := by decide +kernel
theorem dL_law_1188 : decode cL_law 1188 = .ok (.aload_n 3, 1) := by decide +kernel
theorem dL_law_1189 : decode cL_law 1189 = .ok (.iconst 0, 1) := by decide +kernel
theorem dL_law_1190 : decode cL_law 1190 = .ok (.laload, 1) := by decide +kernel
theorem dL_law_1191 : decode cL_law 1191 = .ok (.iload 6, 2) := by decide +kernel
theorem dL_law_1193 : decode cL_law 1193 = .ok (.i2l, 1) := by decide +kernel
theorem dL_law_1194 : decode cL_law 1194 = .ok (.lcmp, 1) := by decide +kernel
theorem dL_law_1195 : decode cL_law 1195 = .ok (.ifCond .eq 5, 3) := by decide +kernel
theorem dL_law_1198 : decode cL_law 1198 = .ok (.iconst 0, 1) := by decide +kernel
theorem dL_law_1199 : decode cL_law 1199 = .ok (.ireturn, 1) := by decide +kernel
theorem dL_law_1200 : decode cL_law 1200 = .ok (.goto 812, 3) := by decide +kernel
theorem dL_law_1203 : decode cL_law 1203 = .ok (.aload_n 1, 1) := by decide +kernel
theorem dL_law_1204 : decode cL_law 1204 = .ok (.aload_n 0, 1) := by decide +kernel
theorem dL_law_1205 : decode cL_law 1205 = .ok (.iload 4, 2) := by decide +kernel
theorem dL_law_1207 : decode cL_law 1207 = .ok (.iconst 1, 1) := by decide +kernel
theorem dL_law_1208 : decode cL_law 1208 = .ok (.iadd, 1) := by decide +kernel
theorem dL_law_1209 : decode cL_law 1209 = .ok (.iaload, 1) := by decide +kernel
theorem dL_law_1210 : decode cL_law 1210 = .ok (.aload_n 3, 1) := by decide +kernel
theorem dL_law_1211 : decode cL_law 1211 = .ok (.invokestatic 174, 3) := by decide +kernel
theorem dL_law_1214 : decode cL_law 1214 = .ok (.istore 5, 2) := by decide +kernel
theorem dL_law_1216 : decode cL_law 1216 = .ok (.aload_n 2, 1) := by decide +kernel
theorem dL_law_1217 : decode cL_law 1217 = .ok (.aload_n 0, 1) := by decide +kernel
theorem dL_law_1218 : decode cL_law 1218 = .ok (.iload 4, 2) := by decide +kernel
theorem dL_law_1220 : decode cL_law 1220 = .ok (.iconst 1, 1) := by decide +kernel
theorem dL_law_1221 : decode cL_law 1221 = .ok (.iadd, 1) := by decide +kernel
theorem dL_law_1222 : decode cL_law 1222 = .ok (.iaload, 1) := by decide +kernel
theorem dL_law_1223 : decode cL_law 1223 = .ok (.invokevirtual 176, 3) := by decide +kernel
theorem dL_law_1226 : decode cL_law 1226 = .ok (.istore 6, 2) := by decide +kernel
theorem dL_law_1228 : decode cL_law 1228 = .ok (.aload_n 2, 1) := by decide +kernel
theorem dL_law_1229 : decode cL_law 1229 = .ok (.invokevirtual 113, 3) := by decide +kernel
theorem dL_law_1232 : decode cL_law 1232 = .ok (.iload 5, 2) := by decide +kernel
theorem dL_law_1234 : decode cL_law 1234 = .ok (.if_icmp .eq 5, 3) := by decide +kernel
theorem dL_law_1237 : decode cL_law 1237 = .ok (.iconst 0, 1) := by decide +kernel
theorem dL_law_1238 : decode cL_law 1238 = .ok (.ireturn, 1) := by decide +kernel
theorem dL_law_1239 : decode cL_law 1239 = .ok (.iload 5, 2) := by decide +kernel
theorem dL_law_1241 : decode cL_law 1241 = .ok (.ifCond .ne 15, 3) := by decide +kernel
theorem dL_law_1244 : decode cL_law 1244 = .ok (.aload_n 3, 1) := by decide +kernel
theorem dL_law_1245 : decode cL_law 1245 = .ok (.iconst 0, 1) := by decide +kernel
theorem dL_law_1246 : decode cL_law 1246 = .ok (.laload, 1) := by decide +kernel
theorem dL_law_1247 : decode cL_law 1247 = .ok (.iload 6, 2) := by decide +kernel
theorem dL_law_1249 : decode cL_law 1249 = .ok (.i2l, 1) := by decide +kernel
theorem dL_law_1250 : decode cL_law 1250 = .ok (.lcmp, 1) := by decide +kernel
theorem dL_law_1251 : decode cL_law 1251 = .ok (.ifCond .eq 5, 3) := by decide +kernel
theorem dL_law_1254 : decode cL_law 1254 = .ok (.iconst 0, 1) := by decide +kernel
theorem dL_law_1255 : decode cL_law 1255 = .ok (.ireturn, 1) := by decide +kernel
theorem dL_law_1256 : decode cL_law 1256 = .ok (.goto 756, 3) := by decide +kernel
theorem dL_law_1259 : decode cL_law 1259 = .ok (.aload_n 1, 1) := by decide +kernel
theorem dL_law_1260 : decode cL_law 1260 = .ok (.invokevirtual 177, 3) := by decide +kernel
theorem dL_law_1263 : decode cL_law 1263 = .ok (.aload_n 2, 1) := by decide +kernel
theorem dL_law_1264 : decode cL_law 1264 = .ok (.invokevirtual 180, 3) := by decide +kernel
theorem dL_law_1267 : decode cL_law 1267 = .ok (.if_icmp .eq 745, 3) := by decide +kernel
theorem dL_law_1270 : decode cL_law 1270 = .ok (.iconst 0, 1) := by decide +kernel
theorem dL_law_1271 : decode cL_law 1271 = .ok (.ireturn, 1) := by decide +kernel
theorem dL_law_1272 : decode cL_law 1272 = .ok (.aload_n 1, 1) := by decide +kernel
theorem dL_law_1273 : decode cL_law 1273 = .ok (.aload_n 0, 1) := by decide +kernel
theorem dL_law_1274 : decode cL_law 1274 = .ok (.iload 4, 2) := by decide +kernel
theorem dL_law_1276 : decode cL_law 1276 = .ok (.iconst 1, 1) := by decide +kernel
theorem dL_law_1277 : decode cL_law 1277 = .ok (.iadd, 1) := by decide +kernel
theorem dL_law_1278 : decode cL_law 1278 = .ok (.iaload, 1) := by decide +kernel
theorem dL_law_1279 : decode cL_law 1279 = .ok (.aload_n 0, 1) := by decide +kernel
theorem dL_law_1280 : decode cL_law 1280 = .ok (.iload 4, 2) := by decide +kernel
theorem dL_law_1282 : decode cL_law 1282 = .ok (.iconst 2, 1) := by decide +kernel
theorem dL_law_1283 : decode cL_law 1283 = .ok (.iadd, 1) := by decide +kernel
theorem dL_law_1284 : decode cL_law 1284 = .ok (.iaload, 1) := by decide +kernel
theorem dL_law_1285 : decode cL_law 1285 = .ok (.aload_n 3, 1) := by decide +kernel
theorem dL_law_1286 : decode cL_law 1286 = .ok (.invokestatic 181, 3) := by decide +kernel
theorem dL_law_1289 : decode cL_law 1289 = .ok (.istore 5, 2) := by decide +kernel
theorem dL_law_1291 : decode cL_law 1291 = .ok (.aload_n 2, 1) := by decide +kernel
theorem dL_law_1292 : decode cL_law 1292 = .ok (.aload_n 0, 1) := by decide +kernel
theorem dL_law_1293 : decode cL_law 1293 = .ok (.iload 4, 2) := by decide +kernel
theorem dL_law_1295 : decode cL_law 1295 = .ok (.iconst 1, 1) := by decide +kernel
theorem dL_law_1296 : decode cL_law 1296 = .ok (.iadd, 1) := by decide +kernel
theorem dL_law_1297 : decode cL_law 1297 = .ok (.iaload, 1) := by decide +kernel
theorem dL_law_1298 : decode cL_law 1298 = .ok (.aload_n 0, 1) := by decide +kernel
theorem dL_law_1299 : decode cL_law 1299 = .ok (.iload 4, 2) := by decide +kernel
theorem dL_law_1301 : decode cL_law 1301 = .ok (.iconst 2, 1) := by decide +kernel
theorem dL_law_1302 : decode cL_law 1302 = .ok (.iadd, 1) := by decide +kernel
theorem dL_law_1303 : decode cL_law 1303 = .ok (.iaload, 1) := by decide +kernel
theorem dL_law_1304 : decode cL_law 1304 = .ok (.invokevirtual 183, 3) := by decide +kernel
theorem dL_law_1307 : decode cL_law 1307 = .ok (.istore 6, 2) := by decide +kernel
theorem dL_law_1309 : decode cL_law 1309 = .ok (.aload_n 2, 1) := by decide +kernel
theorem dL_law_1310 : decode cL_law 1310 = .ok (.invokevirtual 113, 3) := by decide +kernel
theorem dL_law_1313 : decode cL_law 1313 = .ok (.iload 5, 2) := by decide +kernel
theorem dL_law_1315 : decode cL_law 1315 = .ok (.if_icmp .eq 5, 3) := by decide +kernel
theorem dL_law_1318 : decode cL_law 1318 = .ok (.iconst 0, 1) := by decide +kernel
theorem dL_law_1319 : decode cL_law 1319 = .ok (.ireturn, 1) := by decide +kernel
theorem dL_law_1320 : decode cL_law 1320 = .ok (.iload 5, 2) := by decide +kernel
theorem dL_law_1322 : decode cL_law 1322 = .ok (.ifCond .ne 15, 3) := by decide +kernel
theorem dL_law_1325 : decode cL_law 1325 = .ok (.aload_n 3, 1) := by decide +kernel
theorem dL_law_1326 : decode cL_law 1326 = .ok (.iconst 0, 1) := by decide +kernel
theorem dL_law_1327 : decode cL_law 1327 = .ok (.laload, 1) := by decide +kernel
theorem dL_law_1328 : decode cL_law 1328 = .ok (.iload 6, 2) := by decide +kernel
theorem dL_law_1330 : decode cL_law 1330 = .ok (.i2l, 1) := by decide +kernel
theorem dL_law_1331 : decode cL_law 1331 = .ok (.lcmp, 1) := by decide +kernel
theorem dL_law_1332 : decode cL_law 1332 = .ok (.ifCond .eq 5, 3) := by decide +kernel
theorem dL_law_1335 : decode cL_law 1335 = .ok (.iconst 0, 1) := by decide +kernel
theorem dL_law_1336 : decode cL_law 1336 = .ok (.ireturn, 1) := by decide +kernel
theorem dL_law_1337 : decode cL_law 1337 = .ok (.goto 675, 3) := by decide +kernel
theorem dL_law_1340 : decode cL_law 1340 = .ok (.aload_n 1, 1) := by decide +kernel
theorem dL_law_1341 : decode cL_law 1341 = .ok (.aload_n 3, 1) := by decide +kernel
theorem dL_law_1342 : decode cL_law 1342 = .ok (.invokestatic 184, 3) := by decide +kernel
theorem dL_law_1345 : decode cL_law 1345 = .ok (.istore 5, 2) := by decide +kernel
theorem dL_law_1347 : decode cL_law 1347 = .ok (.aload_n 2, 1) := by decide +kernel
theorem dL_law_1348 : decode cL_law 1348 = .ok (.invokevirtual 186, 3) := by decide +kernel
theorem dL_law_1351 : decode cL_law 1351 = .ok (.istore 6, 2) := by decide +kernel
theorem dL_law_1353 : decode cL_law 1353 = .ok (.aload_n 2, 1) := by decide +kernel
theorem dL_law_1354 : decode cL_law 1354 = .ok (.invokevirtual 113, 3) := by decide +kernel
theorem dL_law_1357 : decode cL_law 1357 = .ok (.iload 5, 2) := by decide +kernel
theorem dL_law_1359 : decode cL_law 1359 = .ok (.if_icmp .eq 5, 3) := by decide +kernel
theorem dL_law_1362 : decode cL_law 1362 = .ok (.iconst 0, 1) := by decide +kernel
theorem dL_law_1363 : decode cL_law 1363 = .ok (.ireturn, 1) := by decide +kernel
theorem dL_law_1364 : decode cL_law 1364 = .ok (.iload 5, 2) := by decide +kernel
theorem dL_law_1366 : decode cL_law 1366 = .ok (.ifCond .ne 15, 3) := by decide +kernel
theorem dL_law_1369 : decode cL_law 1369 = .ok (.aload_n 3, 1) := by decide +kernel
theorem dL_law_1370 : decode cL_law 1370 = .ok (.iconst 0, 1) := by decide +kernel
theorem dL_law_1371 : decode cL_law 1371 = .ok (.laload, 1) := by decide +kernel
theorem dL_law_1372 : decode cL_law 1372 = .ok (.iload 6, 2) := by decide +kernel
theorem dL_law_1374 : decode cL_law 1374 = .ok (.i2l, 1) := by decide +kernel
theorem dL_law_1375 : decode cL_law 1375 = .ok (.lcmp, 1) := by decide +kernel
theorem dL_law_1376 : decode cL_law 1376 = .ok (.ifCond .eq 5, 3) := by decide +kernel
theorem dL_law_1379 : decode cL_law 1379 = .ok (.iconst 0, 1) := by decide +kernel
theorem dL_law_1380 : decode cL_law 1380 = .ok (.ireturn, 1) := by decide +kernel
theorem dL_law_1381 : decode cL_law 1381 = .ok (.goto 631, 3) := by decide +kernel
theorem dL_law_1384 : decode cL_law 1384 = .ok (.aload_n 1, 1) := by decide +kernel
theorem dL_law_1385 : decode cL_law 1385 = .ok (.aload_n 0, 1) := by decide +kernel
theorem dL_law_1386 : decode cL_law 1386 = .ok (.iload 4, 2) := by decide +kernel
theorem dL_law_1388 : decode cL_law 1388 = .ok (.iconst 1, 1) := by decide +kernel
theorem dL_law_1389 : decode cL_law 1389 = .ok (.iadd, 1) := by decide +kernel
theorem dL_law_1390 : decode cL_law 1390 = .ok (.iaload, 1) := by decide +kernel
theorem dL_law_1391 : decode cL_law 1391 = .ok (.aload_n 0, 1) := by decide +kernel
theorem dL_law_1392 : decode cL_law 1392 = .ok (.iload 4, 2) := by decide +kernel
theorem dL_law_1394 : decode cL_law 1394 = .ok (.iconst 2, 1) := by decide +kernel
theorem dL_law_1395 : decode cL_law 1395 = .ok (.iadd, 1) := by decide +kernel
theorem dL_law_1396 : decode cL_law 1396 = .ok (.iaload, 1) := by decide +kernel
theorem dL_law_1397 : decode cL_law 1397 = .ok (.aload_n 3, 1) := by decide +kernel
theorem dL_law_1398 : decode cL_law 1398 = .ok (.invokestatic 187, 3) := by decide +kernel
theorem dL_law_1401 : decode cL_law 1401 = .ok (.istore 5, 2) := by decide +kernel
theorem dL_law_1403 : decode cL_law 1403 = .ok (.aload_n 2, 1) := by decide +kernel
theorem dL_law_1404 : decode cL_law 1404 = .ok (.aload_n 0, 1) := by decide +kernel
theorem dL_law_1405 : decode cL_law 1405 = .ok (.iload 4, 2) := by decide +kernel
theorem dL_law_1407 : decode cL_law 1407 = .ok (.iconst 1, 1) := by decide +kernel
theorem dL_law_1408 : decode cL_law 1408 = .ok (.iadd, 1) := by decide +kernel
theorem dL_law_1409 : decode cL_law 1409 = .ok (.iaload, 1) := by decide +kernel
theorem dL_law_1410 : decode cL_law 1410 = .ok (.aload_n 0, 1) := by decide +kernel
theorem dL_law_1411 : decode cL_law 1411 = .ok (.iload 4, 2) := by decide +kernel
theorem dL_law_1413 : decode cL_law 1413 = .ok (.iconst 2, 1) := by decide +kernel
theorem dL_law_1414 : decode cL_law 1414 = .ok (.iadd, 1) := by decide +kernel
theorem dL_law_1415 : decode cL_law 1415 = .ok (.iaload, 1) := by decide +kernel
theorem dL_law_1416 : decode cL_law 1416 = .ok (.invokevirtual 189, 3) := by decide +kernel
theorem dL_law_1419 : decode cL_law 1419 = .ok (.istore 6, 2) := by decide +kernel
theorem dL_law_1421 : decode cL_law 1421 = .ok (.aload_n 2, 1) := by decide +kernel
theorem dL_law_1422 : decode cL_law 1422 = .ok (.invokevirtual 113, 3) := by decide +kernel
theorem dL_law_1425 : decode cL_law 1425 = .ok (.iload 5, 2) := by decide +kernel
theorem dL_law_1427 : decode cL_law 1427 = .ok (.if_icmp .eq 5, 3) := by decide +kernel
theorem dL_law_1430 : decode cL_law 1430 = .ok (.iconst 0, 1) := by decide +kernel
theorem dL_law_1431 : decode cL_law 1431 = .ok (.ireturn, 1) := by decide +kernel
theorem dL_law_1432 : decode cL_law 1432 = .ok (.iload 5, 2) := by decide +kernel
theorem dL_law_1434 : decode cL_law 1434 = .ok (.ifCond .ne 15, 3) := by decide +kernel
theorem dL_law_1437 : decode cL_law 1437 = .ok (.aload_n 3, 1) := by decide +kernel
theorem dL_law_1438 : decode cL_law 1438 = .ok (.iconst 0, 1) := by decide +kernel
theorem dL_law_1439 : decode cL_law 1439 = .ok (.laload, 1) := by decide +kernel
theorem dL_law_1440 : decode cL_law 1440 = .ok (.iload 6, 2) := by decide +kernel
theorem dL_law_1442 : decode cL_law 1442 = .ok (.i2l, 1) := by decide +kernel
theorem dL_law_1443 : decode cL_law 1443 = .ok (.lcmp, 1) := by decide +kernel
theorem dL_law_1444 : decode cL_law 1444 = .ok (.ifCond .eq 5, 3) := by decide +kernel
theorem dL_law_1447 : decode cL_law 1447 = .ok (.iconst 0, 1) := by decide +kernel
theorem dL_law_1448 : decode cL_law 1448 = .ok (.ireturn, 1) := by decide +kernel
theorem dL_law_1449 : decode cL_law 1449 = .ok (.goto 563, 3) := by decide +kernel
theorem dL_law_1452 : decode cL_law 1452 = .ok (.aload_n 1, 1) := by decide +kernel
theorem dL_law_1453 : decode cL_law 1453 = .ok (.aload_n 0, 1) := by decide +kernel
theorem dL_law_1454 : decode cL_law 1454 = .ok (.iload 4, 2) := by decide +kernel
theorem dL_law_1456 : decode cL_law 1456 = .ok (.iconst 1, 1) := by decide +kernel
theorem dL_law_1457 : decode cL_law 1457 = .ok (.iadd, 1) := by decide +kernel
theorem dL_law_1458 : decode cL_law 1458 = .ok (.iaload, 1) := by decide +kernel
theorem dL_law_1459 : decode cL_law 1459 = .ok (.aload_n 3, 1) := by decide +kernel
theorem dL_law_1460 : decode cL_law 1460 = .ok (.invokestatic 190, 3) := by decide +kernel
theorem dL_law_1463 : decode cL_law 1463 = .ok (.istore 5, 2) := by decide +kernel
theorem dL_law_1465 : decode cL_law 1465 = .ok (.aload_n 2, 1) := by decide +kernel
theorem dL_law_1466 : decode cL_law 1466 = .ok (.aload_n 0, 1) := by decide +kernel
theorem dL_law_1467 : decode cL_law 1467 = .ok (.iload 4, 2) := by decide +kernel
theorem dL_law_1469 : decode cL_law 1469 = .ok (.iconst 1, 1) := by decide +kernel
theorem dL_law_1470 : decode cL_law 1470 = .ok (.iadd, 1) := by decide +kernel
theorem dL_law_1471 : decode cL_law 1471 = .ok (.iaload, 1) := by decide +kernel
theorem dL_law_1472 : decode cL_law 1472 = .ok (.invokevirtual 192, 3) := by decide +kernel
theorem dL_law_1475 : decode cL_law 1475 = .ok (.istore 6, 2) := by decide +kernel
theorem dL_law_1477 : decode cL_law 1477 = .ok (.aload_n 2, 1) := by decide +kernel
theorem dL_law_1478 : decode cL_law 1478 = .ok (.invokevirtual 113, 3) := by decide +kernel
theorem dL_law_1481 : decode cL_law 1481 = .ok (.iload 5, 2) := by decide +kernel
theorem dL_law_1483 : decode cL_law 1483 = .ok (.if_icmp .eq 5, 3) := by decide +kernel
theorem dL_law_1486 : decode cL_law 1486 = .ok (.iconst 0, 1) := by decide +kernel
theorem dL_law_1487 : decode cL_law 1487 = .ok (.ireturn, 1) := by decide +kernel
theorem dL_law_1488 : decode cL_law 1488 = .ok (.iload 5, 2) := by decide +kernel
theorem dL_law_1490 : decode cL_law 1490 = .ok (.ifCond .ne 15, 3) := by decide +kernel
theorem dL_law_1493 : decode cL_law 1493 = .ok (.aload_n 3, 1) := by decide +kernel
theorem dL_law_1494 : decode cL_law 1494 = .ok (.iconst 0, 1) := by decide +kernel
theorem dL_law_1495 : decode cL_law 1495 = .ok (.laload, 1) := by decide +kernel
theorem dL_law_1496 : decode cL_law 1496 = .ok (.iload 6, 2) := by decide +kernel
theorem dL_law_1498 : decode cL_law 1498 = .ok (.i2l, 1) := by decide +kernel
theorem dL_law_1499 : decode cL_law 1499 = .ok (.lcmp, 1) := by decide +kernel
theorem dL_law_1500 : decode cL_law 1500 = .ok (.ifCond .eq 5, 3) := by decide +kernel
theorem dL_law_1503 : decode cL_law 1503 = .ok (.iconst 0, 1) := by decide +kernel
theorem dL_law_1504 : decode cL_law 1504 = .ok (.ireturn, 1) := by decide +kernel
theorem dL_law_1505 : decode cL_law 1505 = .ok (.goto 507, 3) := by decide +kernel
theorem dL_law_1508 : decode cL_law 1508 = .ok (.aload_n 1, 1) := by decide +kernel
theorem dL_law_1509 : decode cL_law 1509 = .ok (.aload_n 0, 1) := by decide +kernel
theorem dL_law_1510 : decode cL_law 1510 = .ok (.iload 4, 2) := by decide +kernel
theorem dL_law_1512 : decode cL_law 1512 = .ok (.iconst 1, 1) := by decide +kernel
theorem dL_law_1513 : decode cL_law 1513 = .ok (.iadd, 1) := by decide +kernel
theorem dL_law_1514 : decode cL_law 1514 = .ok (.iaload, 1) := by decide +kernel
theorem dL_law_1515 : decode cL_law 1515 = .ok (.aload_n 3, 1) := by decide +kernel
theorem dL_law_1516 : decode cL_law 1516 = .ok (.invokestatic 193, 3) := by decide +kernel
theorem dL_law_1519 : decode cL_law 1519 = .ok (.istore 5, 2) := by decide +kernel
theorem dL_law_1521 : decode cL_law 1521 = .ok (.aload_n 2, 1) := by decide +kernel
theorem dL_law_1522 : decode cL_law 1522 = .ok (.aload_n 0, 1) := by decide +kernel
theorem dL_law_1523 : decode cL_law 1523 = .ok (.iload 4, 2) := by decide +kernel
theorem dL_law_1525 : decode cL_law 1525 = .ok (.iconst 1, 1) := by decide +kernel
theorem dL_law_1526 : decode cL_law 1526 = .ok (.iadd, 1) := by decide +kernel
theorem dL_law_1527 : decode cL_law 1527 = .ok (.iaload, 1) := by decide +kernel
theorem dL_law_1528 : decode cL_law 1528 = .ok (.invokevirtual 195, 3) := by decide +kernel
theorem dL_law_1531 : decode cL_law 1531 = .ok (.istore 6, 2) := by decide +kernel
theorem dL_law_1533 : decode cL_law 1533 = .ok (.aload_n 2, 1) := by decide +kernel
theorem dL_law_1534 : decode cL_law 1534 = .ok (.invokevirtual 113, 3) := by decide +kernel
theorem dL_law_1537 : decode cL_law 1537 = .ok (.iload 5, 2) := by decide +kernel
theorem dL_law_1539 : decode cL_law 1539 = .ok (.if_icmp .eq 5, 3) := by decide +kernel
theorem dL_law_1542 : decode cL_law 1542 = .ok (.iconst 0, 1) := by decide +kernel
theorem dL_law_1543 : decode cL_law 1543 = .ok (.ireturn, 1) := by decide +kernel
theorem dL_law_1544 : decode cL_law 1544 = .ok (.iload 5, 2) := by decide +kernel
theorem dL_law_1546 : decode cL_law 1546 = .ok (.ifCond .ne 15, 3) := by decide +kernel
theorem dL_law_1549 : decode cL_law 1549 = .ok (.aload_n 3, 1) := by decide +kernel
theorem dL_law_1550 : decode cL_law 1550 = .ok (.iconst 0, 1) := by decide +kernel
theorem dL_law_1551 : decode cL_law 1551 = .ok (.laload, 1) := by decide +kernel
theorem dL_law_1552 : decode cL_law 1552 = .ok (.iload 6, 2) := by decide +kernel
theorem dL_law_1554 : decode cL_law 1554 = .ok (.i2l, 1) := by decide +kernel
theorem dL_law_1555 : decode cL_law 1555 = .ok (.lcmp, 1) := by decide +kernel
theorem dL_law_1556 : decode cL_law 1556 = .ok (.ifCond .eq 5, 3) := by decide +kernel
theorem dL_law_1559 : decode cL_law 1559 = .ok (.iconst 0, 1) := by decide +kernel
theorem dL_law_1560 : decode cL_law 1560 = .ok (.ireturn, 1) := by decide +kernel
theorem dL_law_1561 : decode cL_law 1561 = .ok (.goto 451, 3) := by decide +kernel
theorem dL_law_1564 : decode cL_law 1564 = .ok (.aload_n 1, 1) := by decide +kernel
theorem dL_law_1565 : decode cL_law 1565 = .ok (.aload_n 0, 1) := by decide +kernel
theorem dL_law_1566 : decode cL_law 1566 = .ok (.iload 4, 2) := by decide +kernel
theorem dL_law_1568 : decode cL_law 1568 = .ok (.iconst 1, 1) := by decide +kernel
theorem dL_law_1569 : decode cL_law 1569 = .ok (.iadd, 1) := by decide +kernel
theorem dL_law_1570 : decode cL_law 1570 = .ok (.iaload, 1) := by decide +kernel
theorem dL_law_1571 : decode cL_law 1571 = .ok (.aload_n 0, 1) := by decide +kernel
theorem dL_law_1572 : decode cL_law 1572 = .ok (.iload 4, 2) := by decide +kernel
theorem dL_law_1574 : decode cL_law 1574 = .ok (.iconst 2, 1) := by decide +kernel
theorem dL_law_1575 : decode cL_law 1575 = .ok (.iadd, 1) := by decide +kernel
theorem dL_law_1576 : decode cL_law 1576 = .ok (.iaload, 1) := by decide +kernel
theorem dL_law_1577 : decode cL_law 1577 = .ok (.aload_n 3, 1) := by decide +kernel
theorem dL_law_1578 : decode cL_law 1578 = .ok (.invokestatic 196, 3) := by decide +kernel
theorem dL_law_1581 : decode cL_law 1581 = .ok (.istore 5, 2) := by decide +kernel
theorem dL_law_1583 : decode cL_law 1583 = .ok (.aload_n 2, 1) := by decide +kernel
theorem dL_law_1584 : decode cL_law 1584 = .ok (.aload_n 0, 1) := by decide +kernel
theorem dL_law_1585 : decode cL_law 1585 = .ok (.iload 4, 2) := by decide +kernel
theorem dL_law_1587 : decode cL_law 1587 = .ok (.iconst 1, 1) := by decide +kernel
theorem dL_law_1588 : decode cL_law 1588 = .ok (.iadd, 1) := by decide +kernel
theorem dL_law_1589 : decode cL_law 1589 = .ok (.iaload, 1) := by decide +kernel
theorem dL_law_1590 : decode cL_law 1590 = .ok (.aload_n 0, 1) := by decide +kernel
theorem dL_law_1591 : decode cL_law 1591 = .ok (.iload 4, 2) := by decide +kernel
theorem dL_law_1593 : decode cL_law 1593 = .ok (.iconst 2, 1) := by decide +kernel
theorem dL_law_1594 : decode cL_law 1594 = .ok (.iadd, 1) := by decide +kernel
theorem dL_law_1595 : decode cL_law 1595 = .ok (.iaload, 1) := by decide +kernel
theorem dL_law_1596 : decode cL_law 1596 = .ok (.invokevirtual 198, 3) := by decide +kernel
theorem dL_law_1599 : decode cL_law 1599 = .ok (.istore 6, 2) := by decide +kernel
theorem dL_law_1601 : decode cL_law 1601 = .ok (.aload_n 2, 1) := by decide +kernel
theorem dL_law_1602 : decode cL_law 1602 = .ok (.invokevirtual 113, 3) := by decide +kernel
theorem dL_law_1605 : decode cL_law 1605 = .ok (.iload 5, 2) := by decide +kernel
theorem dL_law_1607 : decode cL_law 1607 = .ok (.if_icmp .eq 5, 3) := by decide +kernel
theorem dL_law_1610 : decode cL_law 1610 = .ok (.iconst 0, 1) := by decide +kernel
theorem dL_law_1611 : decode cL_law 1611 = .ok (.ireturn, 1) := by decide +kernel
theorem dL_law_1612 : decode cL_law 1612 = .ok (.iload 5, 2) := by decide +kernel
theorem dL_law_1614 : decode cL_law 1614 = .ok (.ifCond .ne 15, 3) := by decide +kernel
theorem dL_law_1617 : decode cL_law 1617 = .ok (.aload_n 3, 1) := by decide +kernel
theorem dL_law_1618 : decode cL_law 1618 = .ok (.iconst 0, 1) := by decide +kernel
theorem dL_law_1619 : decode cL_law 1619 = .ok (.laload, 1) := by decide +kernel
theorem dL_law_1620 : decode cL_law 1620 = .ok (.iload 6, 2) := by decide +kernel
theorem dL_law_1622 : decode cL_law 1622 = .ok (.i2l, 1) := by decide +kernel
theorem dL_law_1623 : decode cL_law 1623 = .ok (.lcmp, 1) := by decide +kernel
theorem dL_law_1624 : decode cL_law 1624 = .ok (.ifCond .eq 5, 3) := by decide +kernel
theorem dL_law_1627 : decode cL_law 1627 = .ok (.iconst 0, 1) := by decide +kernel
theorem dL_law_1628 : decode cL_law 1628 = .ok (.ireturn, 1) := by decide +kernel
theorem dL_law_1629 : decode cL_law 1629 = .ok (.goto 383, 3) := by decide +kernel
theorem dL_law_1632 : decode cL_law 1632 = .ok (.aload_n 1, 1) := by decide +kernel
theorem dL_law_1633 : decode cL_law 1633 = .ok (.aload_n 0, 1) := by decide +kernel
theorem dL_law_1634 : decode cL_law 1634 = .ok (.iload 4, 2) := by decide +kernel
theorem dL_law_1636 : decode cL_law 1636 = .ok (.iconst 1, 1) := by decide +kernel
theorem dL_law_1637 : decode cL_law 1637 = .ok (.iadd, 1) := by decide +kernel
theorem dL_law_1638 : decode cL_law 1638 = .ok (.iaload, 1) := by decide +kernel
theorem dL_law_1639 : decode cL_law 1639 = .ok (.aload_n 0, 1) := by decide +kernel
theorem dL_law_1640 : decode cL_law 1640 = .ok (.iload 4, 2) := by decide +kernel
theorem dL_law_1642 : decode cL_law 1642 = .ok (.iconst 2, 1) := by decide +kernel
theorem dL_law_1643 : decode cL_law 1643 = .ok (.iadd, 1) := by decide +kernel
theorem dL_law_1644 : decode cL_law 1644 = .ok (.iaload, 1) := by decide +kernel
theorem dL_law_1645 : decode cL_law 1645 = .ok (.aload_n 3, 1) := by decide +kernel
theorem dL_law_1646 : decode cL_law 1646 = .ok (.invokestatic 199, 3) := by decide +kernel
theorem dL_law_1649 : decode cL_law 1649 = .ok (.istore 5, 2) := by decide +kernel
theorem dL_law_1651 : decode cL_law 1651 = .ok (.aload_n 2, 1) := by decide +kernel
theorem dL_law_1652 : decode cL_law 1652 = .ok (.aload_n 0, 1) := by decide +kernel
theorem dL_law_1653 : decode cL_law 1653 = .ok (.iload 4, 2) := by decide +kernel
theorem dL_law_1655 : decode cL_law 1655 = .ok (.iconst 1, 1) := by decide +kernel
theorem dL_law_1656 : decode cL_law 1656 = .ok (.iadd, 1) := by decide +kernel
theorem dL_law_1657 : decode cL_law 1657 = .ok (.iaload, 1) := by decide +kernel
theorem dL_law_1658 : decode cL_law 1658 = .ok (.aload_n 0, 1) := by decide +kernel
theorem dL_law_1659 : decode cL_law 1659 = .ok (.iload 4, 2) := by decide +kernel
theorem dL_law_1661 : decode cL_law 1661 = .ok (.iconst 2, 1) := by decide +kernel
theorem dL_law_1662 : decode cL_law 1662 = .ok (.iadd, 1) := by decide +kernel
theorem dL_law_1663 : decode cL_law 1663 = .ok (.iaload, 1) := by decide +kernel
theorem dL_law_1664 : decode cL_law 1664 = .ok (.invokevirtual 201, 3) := by decide +kernel
theorem dL_law_1667 : decode cL_law 1667 = .ok (.istore 6, 2) := by decide +kernel
theorem dL_law_1669 : decode cL_law 1669 = .ok (.aload_n 2, 1) := by decide +kernel
theorem dL_law_1670 : decode cL_law 1670 = .ok (.invokevirtual 113, 3) := by decide +kernel
theorem dL_law_1673 : decode cL_law 1673 = .ok (.iload 5, 2) := by decide +kernel
theorem dL_law_1675 : decode cL_law 1675 = .ok (.if_icmp .eq 5, 3) := by decide +kernel
theorem dL_law_1678 : decode cL_law 1678 = .ok (.iconst 0, 1) := by decide +kernel
theorem dL_law_1679 : decode cL_law 1679 = .ok (.ireturn, 1) := by decide +kernel
theorem dL_law_1680 : decode cL_law 1680 = .ok (.iload 5, 2) := by decide +kernel
theorem dL_law_1682 : decode cL_law 1682 = .ok (.ifCond .ne 15, 3) := by decide +kernel
theorem dL_law_1685 : decode cL_law 1685 = .ok (.aload_n 3, 1) := by decide +kernel
theorem dL_law_1686 : decode cL_law 1686 = .ok (.iconst 0, 1) := by decide +kernel
theorem dL_law_1687 : decode cL_law 1687 = .ok (.laload, 1) := by decide +kernel
theorem dL_law_1688 : decode cL_law 1688 = .ok (.iload 6, 2) := by decide +kernel
theorem dL_law_1690 : decode cL_law 1690 = .ok (.i2l, 1) := by decide +kernel
theorem dL_law_1691 : decode cL_law 1691 = .ok (.lcmp, 1) := by decide +kernel
theorem dL_law_1692 : decode cL_law 1692 = .ok (.ifCond .eq 5, 3) := by decide +kernel
theorem dL_law_1695 : decode cL_law 1695 = .ok (.iconst 0, 1) := by decide +kernel
theorem dL_law_1696 : decode cL_law 1696 = .ok (.ireturn, 1) := by decide +kernel
theorem dL_law_1697 : decode cL_law 1697 = .ok (.goto 315, 3) := by decide +kernel
theorem dL_law_1700 : decode cL_law 1700 = .ok (.aload_n 1, 1) := by decide +kernel
theorem dL_law_1701 : decode cL_law 1701 = .ok (.aload_n 0, 1) := by decide +kernel
theorem dL_law_1702 : decode cL_law 1702 = .ok (.iload 4, 2) := by decide +kernel
theorem dL_law_1704 : decode cL_law 1704 = .ok (.iconst 1, 1) := by decide +kernel
theorem dL_law_1705 : decode cL_law 1705 = .ok (.iadd, 1) := by decide +kernel
theorem dL_law_1706 : decode cL_law 1706 = .ok (.iaload, 1) := by decide +kernel
theorem dL_law_1707 : decode cL_law 1707 = .ok (.aload_n 0, 1) := by decide +kernel
theorem dL_law_1708 : decode cL_law 1708 = .ok (.iload 4, 2) := by decide +kernel
theorem dL_law_1710 : decode cL_law 1710 = .ok (.iconst 2, 1) := by decide +kernel
theorem dL_law_1711 : decode cL_law 1711 = .ok (.iadd, 1) := by decide +kernel
theorem dL_law_1712 : decode cL_law 1712 = .ok (.iaload, 1) := by decide +kernel
theorem dL_law_1713 : decode cL_law 1713 = .ok (.i2l, 1) := by decide +kernel
theorem dL_law_1714 : decode cL_law 1714 = .ok (.bipush 32, 2) := by decide +kernel
theorem dL_law_1716 : decode cL_law 1716 = .ok (.lshl, 1) := by decide +kernel
theorem dL_law_1717 : decode cL_law 1717 = .ok (.aload_n 0, 1) := by decide +kernel
theorem dL_law_1718 : decode cL_law 1718 = .ok (.iload 4, 2) := by decide +kernel
theorem dL_law_1720 : decode cL_law 1720 = .ok (.iconst 3, 1) := by decide +kernel
theorem dL_law_1721 : decode cL_law 1721 = .ok (.iadd, 1) := by decide +kernel
theorem dL_law_1722 : decode cL_law 1722 = .ok (.iaload, 1) := by decide +kernel
theorem dL_law_1723 : decode cL_law 1723 = .ok (.i2l, 1) := by decide +kernel
theorem dL_law_1724 : decode cL_law 1724 = .ok (.ldc2_w 202, 3) := by decide +kernel
theorem dL_law_1727 : decode cL_law 1727 = .ok (.land, 1) := by decide +kernel
theorem dL_law_1728 : decode cL_law 1728 = .ok (.lor, 1) := by decide +kernel
theorem dL_law_1729 : decode cL_law 1729 = .ok (.aload_n 3, 1) := by decide +kernel
theorem dL_law_1730 : decode cL_law 1730 = .ok (.invokestatic 204, 3) := by decide +kernel
theorem dL_law_1733 : decode cL_law 1733 = .ok (.istore 5, 2) := by decide +kernel
theorem dL_law_1735 : decode cL_law 1735 = .ok (.aload_n 2, 1) := by decide +kernel
theorem dL_law_1736 : decode cL_law 1736 = .ok (.aload_n 0, 1) := by decide +kernel
theorem dL_law_1737 : decode cL_law 1737 = .ok (.iload 4, 2) := by decide +kernel
theorem dL_law_1739 : decode cL_law 1739 = .ok (.iconst 1, 1) := by decide +kernel
theorem dL_law_1740 : decode cL_law 1740 = .ok (.iadd, 1) := by decide +kernel
theorem dL_law_1741 : decode cL_law 1741 = .ok (.iaload, 1) := by decide +kernel
theorem dL_law_1742 : decode cL_law 1742 = .ok (.aload_n 0, 1) := by decide +kernel
theorem dL_law_1743 : decode cL_law 1743 = .ok (.iload 4, 2) := by decide +kernel
theorem dL_law_1745 : decode cL_law 1745 = .ok (.iconst 2, 1) := by decide +kernel
theorem dL_law_1746 : decode cL_law 1746 = .ok (.iadd, 1) := by decide +kernel
theorem dL_law_1747 : decode cL_law 1747 = .ok (.iaload, 1) := by decide +kernel
theorem dL_law_1748 : decode cL_law 1748 = .ok (.i2l, 1) := by decide +kernel
theorem dL_law_1749 : decode cL_law 1749 = .ok (.bipush 32, 2) := by decide +kernel
theorem dL_law_1751 : decode cL_law 1751 = .ok (.lshl, 1) := by decide +kernel
theorem dL_law_1752 : decode cL_law 1752 = .ok (.aload_n 0, 1) := by decide +kernel
theorem dL_law_1753 : decode cL_law 1753 = .ok (.iload 4, 2) := by decide +kernel
theorem dL_law_1755 : decode cL_law 1755 = .ok (.iconst 3, 1) := by decide +kernel
theorem dL_law_1756 : decode cL_law 1756 = .ok (.iadd, 1) := by decide +kernel
theorem dL_law_1757 : decode cL_law 1757 = .ok (.iaload, 1) := by decide +kernel
theorem dL_law_1758 : decode cL_law 1758 = .ok (.i2l, 1) := by decide +kernel
theorem dL_law_1759 : decode cL_law 1759 = .ok (.ldc2_w 202, 3) := by decide +kernel
theorem dL_law_1762 : decode cL_law 1762 = .ok (.land, 1) := by decide +kernel
theorem dL_law_1763 : decode cL_law 1763 = .ok (.lor, 1) := by decide +kernel
theorem dL_law_1764 : decode cL_law 1764 = .ok (.invokevirtual 207, 3) := by decide +kernel
theorem dL_law_1767 : decode cL_law 1767 = .ok (.istore 6, 2) := by decide +kernel
theorem dL_law_1769 : decode cL_law 1769 = .ok (.aload_n 2, 1) := by decide +kernel
theorem dL_law_1770 : decode cL_law 1770 = .ok (.invokevirtual 113, 3) := by decide +kernel
theorem dL_law_1773 : decode cL_law 1773 = .ok (.iload 5, 2) := by decide +kernel
theorem dL_law_1775 : decode cL_law 1775 = .ok (.if_icmp .eq 5, 3) := by decide +kernel
theorem dL_law_1778 : decode cL_law 1778 = .ok (.iconst 0, 1) := by decide +kernel
theorem dL_law_1779 : decode cL_law 1779 = .ok (.ireturn, 1) := by decide +kernel
theorem dL_law_1780 : decode cL_law 1780 = .ok (.iload 5, 2) := by decide +kernel
theorem dL_law_1782 : decode cL_law 1782 = .ok (.ifCond .ne 15, 3) := by decide +kernel
theorem dL_law_1785 : decode cL_law 1785 = .ok (.aload_n 3, 1) := by decide +kernel
theorem dL_law_1786 : decode cL_law 1786 = .ok (.iconst 0, 1) := by decide +kernel
theorem dL_law_1787 : decode cL_law 1787 = .ok (.laload, 1) := by decide +kernel
theorem dL_law_1788 : decode cL_law 1788 = .ok (.iload 6, 2) := by decide +kernel
theorem dL_law_1790 : decode cL_law 1790 = .ok (.i2l, 1) := by decide +kernel
theorem dL_law_1791 : decode cL_law 1791 = .ok (.lcmp, 1) := by decide +kernel
theorem dL_law_1792 : decode cL_law 1792 = .ok (.ifCond .eq 5, 3) := by decide +kernel
theorem dL_law_1795 : decode cL_law 1795 = .ok (.iconst 0, 1) := by decide +kernel
theorem dL_law_1796 : decode cL_law 1796 = .ok (.ireturn, 1) := by decide +kernel
theorem dL_law_1797 : decode cL_law 1797 = .ok (.goto 215, 3) := by decide +kernel
theorem dL_law_1800 : decode cL_law 1800 = .ok (.aload_n 1, 1) := by decide +kernel
theorem dL_law_1801 : decode cL_law 1801 = .ok (.aload_n 0, 1) := by decide +kernel
theorem dL_law_1802 : decode cL_law 1802 = .ok (.iload 4, 2) := by decide +kernel
theorem dL_law_1804 : decode cL_law 1804 = .ok (.iconst 1, 1) := by decide +kernel
theorem dL_law_1805 : decode cL_law 1805 = .ok (.iadd, 1) := by decide +kernel
theorem dL_law_1806 : decode cL_law 1806 = .ok (.iaload, 1) := by decide +kernel
theorem dL_law_1807 : decode cL_law 1807 = .ok (.i2l, 1) := by decide +kernel
theorem dL_law_1808 : decode cL_law 1808 = .ok (.bipush 32, 2) := by decide +kernel
theorem dL_law_1810 : decode cL_law 1810 = .ok (.lshl, 1) := by decide +kernel
theorem dL_law_1811 : decode cL_law 1811 = .ok (.aload_n 0, 1) := by decide +kernel
theorem dL_law_1812 : decode cL_law 1812 = .ok (.iload 4, 2) := by decide +kernel
theorem dL_law_1814 : decode cL_law 1814 = .ok (.iconst 2, 1) := by decide +kernel
theorem dL_law_1815 : decode cL_law 1815 = .ok (.iadd, 1) := by decide +kernel
theorem dL_law_1816 : decode cL_law 1816 = .ok (.iaload, 1) := by decide +kernel
theorem dL_law_1817 : decode cL_law 1817 = .ok (.i2l, 1) := by decide +kernel
theorem dL_law_1818 : decode cL_law 1818 = .ok (.ldc2_w 202, 3) := by decide +kernel
theorem dL_law_1821 : decode cL_law 1821 = .ok (.land, 1) := by decide +kernel
theorem dL_law_1822 : decode cL_law 1822 = .ok (.lor, 1) := by decide +kernel
theorem dL_law_1823 : decode cL_law 1823 = .ok (.aload_n 0, 1) := by decide +kernel
theorem dL_law_1824 : decode cL_law 1824 = .ok (.iload 4, 2) := by decide +kernel
theorem dL_law_1826 : decode cL_law 1826 = .ok (.iconst 3, 1) := by decide +kernel
theorem dL_law_1827 : decode cL_law 1827 = .ok (.iadd, 1) := by decide +kernel
theorem dL_law_1828 : decode cL_law 1828 = .ok (.iaload, 1) := by decide +kernel
theorem dL_law_1829 : decode cL_law 1829 = .ok (.aload_n 3, 1) := by decide +kernel
theorem dL_law_1830 : decode cL_law 1830 = .ok (.invokestatic 208, 3) := by decide +kernel
theorem dL_law_1833 : decode cL_law 1833 = .ok (.istore 5, 2) := by decide +kernel
theorem dL_law_1835 : decode cL_law 1835 = .ok (.aload_n 2, 1) := by decide +kernel
theorem dL_law_1836 : decode cL_law 1836 = .ok (.aload_n 0, 1) := by decide +kernel
theorem dL_law_1837 : decode cL_law 1837 = .ok (.iload 4, 2) := by decide +kernel
theorem dL_law_1839 : decode cL_law 1839 = .ok (.iconst 1, 1) := by decide +kernel
theorem dL_law_1840 : decode cL_law 1840 = .ok (.iadd, 1) := by decide +kernel
theorem dL_law_1841 : decode cL_law 1841 = .ok (.iaload, 1) := by decide +kernel
theorem dL_law_1842 : decode cL_law 1842 = .ok (.i2l, 1) := by decide +kernel
theorem dL_law_1843 : decode cL_law 1843 = .ok (.bipush 32, 2) := by decide +kernel
theorem dL_law_1845 : decode cL_law 1845 = .ok (.lshl, 1) := by decide +kernel
theorem dL_law_1846 : decode cL_law 1846 = .ok (.aload_n 0, 1) := by decide +kernel
theorem dL_law_1847 : decode cL_law 1847 = .ok (.iload 4, 2) := by decide +kernel
theorem dL_law_1849 : decode cL_law 1849 = .ok (.iconst 2, 1) := by decide +kernel
theorem dL_law_1850 : decode cL_law 1850 = .ok (.iadd, 1) := by decide +kernel
theorem dL_law_1851 : decode cL_law 1851 = .ok (.iaload, 1) := by decide +kernel
theorem dL_law_1852 : decode cL_law 1852 = .ok (.i2l, 1) := by decide +kernel
theorem dL_law_1853 : decode cL_law 1853 = .ok (.ldc2_w 202, 3) := by decide +kernel
theorem dL_law_1856 : decode cL_law 1856 = .ok (.land, 1) := by decide +kernel
theorem dL_law_1857 : decode cL_law 1857 = .ok (.lor, 1) := by decide +kernel
theorem dL_law_1858 : decode cL_law 1858 = .ok (.aload_n 0, 1) := by decide +kernel
theorem dL_law_1859 : decode cL_law 1859 = .ok (.iload 4, 2) := by decide +kernel
theorem dL_law_1861 : decode cL_law 1861 = .ok (.iconst 3, 1) := by decide +kernel
theorem dL_law_1862 : decode cL_law 1862 = .ok (.iadd, 1) := by decide +kernel
theorem dL_law_1863 : decode cL_law 1863 = .ok (.iaload, 1) := by decide +kernel
theorem dL_law_1864 : decode cL_law 1864 = .ok (.invokevirtual 211, 3) := by decide +kernel
theorem dL_law_1867 : decode cL_law 1867 = .ok (.istore 6, 2) := by decide +kernel
theorem dL_law_1869 : decode cL_law 1869 = .ok (.aload_n 2, 1) := by decide +kernel
theorem dL_law_1870 : decode cL_law 1870 = .ok (.invokevirtual 113, 3) := by decide +kernel
theorem dL_law_1873 : decode cL_law 1873 = .ok (.iload 5, 2) := by decide +kernel
theorem dL_law_1875 : decode cL_law 1875 = .ok (.if_icmp .eq 5, 3) := by decide +kernel
theorem dL_law_1878 : decode cL_law 1878 = .ok (.iconst 0, 1) := by decide +kernel
theorem dL_law_1879 : decode cL_law 1879 = .ok (.ireturn, 1) := by decide +kernel
theorem dL_law_1880 : decode cL_law 1880 = .ok (.iload 5, 2) := by decide +kernel
theorem dL_law_1882 : decode cL_law 1882 = .ok (.ifCond .ne 15, 3) := by decide +kernel
theorem dL_law_1885 : decode cL_law 1885 = .ok (.aload_n 3, 1) := by decide +kernel
theorem dL_law_1886 : decode cL_law 1886 = .ok (.iconst 0, 1) := by decide +kernel
theorem dL_law_1887 : decode cL_law 1887 = .ok (.laload, 1) := by decide +kernel
theorem dL_law_1888 : decode cL_law 1888 = .ok (.iload 6, 2) := by decide +kernel
theorem dL_law_1890 : decode cL_law 1890 = .ok (.i2l, 1) := by decide +kernel
theorem dL_law_1891 : decode cL_law 1891 = .ok (.lcmp, 1) := by decide +kernel
theorem dL_law_1892 : decode cL_law 1892 = .ok (.ifCond .eq 5, 3) := by decide +kernel
theorem dL_law_1895 : decode cL_law 1895 = .ok (.iconst 0, 1) := by decide +kernel
theorem dL_law_1896 : decode cL_law 1896 = .ok (.ireturn, 1) := by decide +kernel
theorem dL_law_1897 : decode cL_law 1897 = .ok (.goto 115, 3) := by decide +kernel
theorem dL_law_1900 : decode cL_law 1900 = .ok (.aload_n 1, 1) := by decide +kernel
theorem dL_law_1901 : decode cL_law 1901 = .ok (.aload_n 0, 1) := by decide +kernel
theorem dL_law_1902 : decode cL_law 1902 = .ok (.iload 4, 2) := by decide +kernel
theorem dL_law_1904 : decode cL_law 1904 = .ok (.iconst 1, 1) := by decide +kernel
theorem dL_law_1905 : decode cL_law 1905 = .ok (.iadd, 1) := by decide +kernel
theorem dL_law_1906 : decode cL_law 1906 = .ok (.iaload, 1) := by decide +kernel
theorem dL_law_1907 : decode cL_law 1907 = .ok (.aload_n 3, 1) := by decide +kernel
theorem dL_law_1908 : decode cL_law 1908 = .ok (.invokestatic 212, 3) := by decide +kernel
theorem dL_law_1911 : decode cL_law 1911 = .ok (.istore 5, 2) := by decide +kernel
theorem dL_law_1913 : decode cL_law 1913 = .ok (.aload_n 2, 1) := by decide +kernel
theorem dL_law_1914 : decode cL_law 1914 = .ok (.aload_n 0, 1) := by decide +kernel
theorem dL_law_1915 : decode cL_law 1915 = .ok (.iload 4, 2) := by decide +kernel
theorem dL_law_1917 : decode cL_law 1917 = .ok (.iconst 1, 1) := by decide +kernel
theorem dL_law_1918 : decode cL_law 1918 = .ok (.iadd, 1) := by decide +kernel
theorem dL_law_1919 : decode cL_law 1919 = .ok (.iaload, 1) := by decide +kernel
theorem dL_law_1920 : decode cL_law 1920 = .ok (.invokevirtual 214, 3) := by decide +kernel
theorem dL_law_1923 : decode cL_law 1923 = .ok (.istore 6, 2) := by decide +kernel
theorem dL_law_1925 : decode cL_law 1925 = .ok (.aload_n 2, 1) := by decide +kernel
theorem dL_law_1926 : decode cL_law 1926 = .ok (.invokevirtual 113, 3) := by decide +kernel
theorem dL_law_1929 : decode cL_law 1929 = .ok (.iload 5, 2) := by decide +kernel
theorem dL_law_1931 : decode cL_law 1931 = .ok (.if_icmp .eq 5, 3) := by decide +kernel
theorem dL_law_1934 : decode cL_law 1934 = .ok (.iconst 0, 1) := by decide +kernel
theorem dL_law_1935 : decode cL_law 1935 = .ok (.ireturn, 1) := by decide +kernel
theorem dL_law_1936 : decode cL_law 1936 = .ok (.iload 5, 2) := by decide +kernel
theorem dL_law_1938 : decode cL_law 1938 = .ok (.ifCond .ne 15, 3) := by decide +kernel
theorem dL_law_1941 : decode cL_law 1941 = .ok (.aload_n 3, 1) := by decide +kernel
theorem dL_law_1942 : decode cL_law 1942 = .ok (.iconst 0, 1) := by decide +kernel
theorem dL_law_1943 : decode cL_law 1943 = .ok (.laload, 1) := by decide +kernel
theorem dL_law_1944 : decode cL_law 1944 = .ok (.iload 6, 2) := by decide +kernel
theorem dL_law_1946 : decode cL_law 1946 = .ok (.i2l, 1) := by decide +kernel
theorem dL_law_1947 : decode cL_law 1947 = .ok (.lcmp, 1) := by decide +kernel
theorem dL_law_1948 : decode cL_law 1948 = .ok (.ifCond .eq 5, 3) := by decide +kernel
theorem dL_law_1951 : decode cL_law 1951 = .ok (.iconst 0, 1) := by decide +kernel
theorem dL_law_1952 : decode cL_law 1952 = .ok (.ireturn, 1) := by decide +kernel
theorem dL_law_1953 : decode cL_law 1953 = .ok (.goto 59, 3) := by decide +kernel
theorem dL_law_1956 : decode cL_law 1956 = .ok (.aload_n 1, 1) := by decide +kernel
theorem dL_law_1957 : decode cL_law 1957 = .ok (.aload_n 0, 1) := by decide +kernel
theorem dL_law_1958 : decode cL_law 1958 = .ok (.iload 4, 2) := by decide +kernel
theorem dL_law_1960 : decode cL_law 1960 = .ok (.iconst 1, 1) := by decide +kernel
theorem dL_law_1961 : decode cL_law 1961 = .ok (.iadd, 1) := by decide +kernel
theorem dL_law_1962 : decode cL_law 1962 = .ok (.iaload, 1) := by decide +kernel
theorem dL_law_1963 : decode cL_law 1963 = .ok (.aload_n 3, 1) := by decide +kernel
theorem dL_law_1964 : decode cL_law 1964 = .ok (.invokestatic 215, 3) := by decide +kernel
theorem dL_law_1967 : decode cL_law 1967 = .ok (.istore 5, 2) := by decide +kernel
theorem dL_law_1969 : decode cL_law 1969 = .ok (.aload_n 2, 1) := by decide +kernel
theorem dL_law_1970 : decode cL_law 1970 = .ok (.aload_n 0, 1) := by decide +kernel
theorem dL_law_1971 : decode cL_law 1971 = .ok (.iload 4, 2) := by decide +kernel
theorem dL_law_1973 : decode cL_law 1973 = .ok (.iconst 1, 1) := by decide +kernel
theorem dL_law_1974 : decode cL_law 1974 = .ok (.iadd, 1) := by decide +kernel
theorem dL_law_1975 : decode cL_law 1975 = .ok (.iaload, 1) := by decide +kernel
theorem dL_law_1976 : decode cL_law 1976 = .ok (.invokevirtual 217, 3) := by decide +kernel
theorem dL_law_1979 : decode cL_law 1979 = .ok (.istore 6, 2) := by decide +kernel
theorem dL_law_1981 : decode cL_law 1981 = .ok (.aload_n 2, 1) := by decide +kernel
theorem dL_law_1982 : decode cL_law 1982 = .ok (.invokevirtual 113, 3) := by decide +kernel
theorem dL_law_1985 : decode cL_law 1985 = .ok (.iload 5, 2) := by decide +kernel
theorem dL_law_1987 : decode cL_law 1987 = .ok (.if_icmp .eq 5, 3) := by decide +kernel
theorem dL_law_1990 : decode cL_law 1990 = .ok (.iconst 0, 1) := by decide +kernel
theorem dL_law_1991 : decode cL_law 1991 = .ok (.ireturn, 1) := by decide +kernel
theorem dL_law_1992 : decode cL_law 1992 = .ok (.iload 5, 2) := by decide +kernel
theorem dL_law_1994 : decode cL_law 1994 = .ok (.ifCond .ne 15, 3) := by decide +kernel
theorem dL_law_1997 : decode cL_law 1997 = .ok (.aload_n 3, 1) := by decide +kernel
theorem dL_law_1998 : decode cL_law 1998 = .ok (.iconst 0, 1) := by decide +kernel
theorem dL_law_1999 : decode cL_law 1999 = .ok (.laload, 1) := by decide +kernel
theorem dL_law_2000 : decode cL_law 2000 = .ok (.iload 6, 2) := by decide +kernel
theorem dL_law_2002 : decode cL_law 2002 = .ok (.i2l, 1) := by decide +kernel
theorem dL_law_2003 : decode cL_law 2003 = .ok (.lcmp, 1) := by decide +kernel
theorem dL_law_2004 : decode cL_law 2004 = .ok (.ifCond .eq 5, 3) := by decide +kernel
theorem dL_law_2007 : decode cL_law 2007 = .ok (.iconst 0, 1) := by decide +kernel
theorem dL_law_2008 : decode cL_law 2008 = .ok (.ireturn, 1) := by decide +kernel
theorem dL_law_2009 : decode cL_law 2009 = .ok (.goto 3, 3) := by decide +kernel
theorem dL_law_2012 : decode cL_law 2012 = .ok (.iinc 4 4, 3) := by decide +kernel
theorem dL_law_2015 : decode cL_law 2015 = .ok (.goto (-1992), 3) := by decide +kernel
theorem dL_law_2018 : decode cL_law 2018 = .ok (.iconst 1, 1) := by decide +kernel
theorem dL_law_2019 : decode cL_law 2019 = .ok (.ireturn, 1) := by decide +kernel
abbrev vwCl : List vw_C := [(RX0, TX0, 3), (RX1, TX1, 16), (RX2, TX2, 2), (RX5, TX5, 6), (RX6, TX6, 7), (RX7, TX7, 16)]
