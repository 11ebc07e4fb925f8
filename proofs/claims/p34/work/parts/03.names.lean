def RX0 : String := "CottageWeeks$History"
def TX0 : u_T := fun k => match k with
  | 0 => ("CottageWeeks$History", "rows", "[LCottageWeeks$House;", true)
  | 1 => ("CottageWeeks$History", "oldest", "I", false)
  | _ => ("CottageWeeks$History", "count", "I", false)
def tyX0 : Nat → FieldType := fun k => match k with
  | 0 => .array (.object "CottageWeeks$House")
  | 1 => .int
  | _ => .int
theorem nmX0 : ∀ a, a < 3 → ∀ b, b < 3 → a ≠ b → (TX0 a).2.1 ≠ (TX0 b).2.1 := by decide +kernel
theorem tyX0_ok : ∀ k, k < 3 → parseFieldDescriptor (TX0 k).2.2.1 = some (tyX0 k) := by decide +kernel
abbrev cX0_init : ByteArray := prog_2_method_1_code
def yX0_init : MethodName := ⟨RX0, "<init>", "()V"⟩
abbrev cX0_isEmpty : ByteArray := prog_2_method_2_code
def yX0_isEmpty : MethodName := ⟨RX0, "isEmpty", "()Z"⟩
abbrev cX0_remember : ByteArray := prog_2_method_4_code
def yX0_remember : MethodName := ⟨RX0, "remember", "(LCottageWeeks$House;)V"⟩
abbrev cX0_takeBack : ByteArray := prog_2_method_5_code
def yX0_takeBack : MethodName := ⟨RX0, "takeBack", "(LCottageWeeks$House;)I"⟩
def RX1 : String := "CottageWeeks$House"
def TX1 : u_T := fun k => match k with
  | 0 => ("CottageWeeks$House", "settings", "[I", true)
  | 1 => ("CottageWeeks$House", "totals", "[I", true)
  | 2 => ("CottageWeeks$House", "yearNumber", "I", false)
  | 3 => ("CottageWeeks$House", "owners", "I", false)
  | 4 => ("CottageWeeks$House", "shares", "[I", true)
  | 5 => ("CottageWeeks$House", "points", "[I", true)
  | 6 => ("CottageWeeks$House", "won", "[I", true)
  | 7 => ("CottageWeeks$House", "paid", "[I", true)
  | 8 => ("CottageWeeks$House", "costs", "[I", true)
  | 9 => ("CottageWeeks$House", "schools", "[Z", true)
  | 10 => ("CottageWeeks$House", "holders", "[I", true)
  | 11 => ("CottageWeeks$House", "bids", "[I", true)
  | 12 => ("CottageWeeks$House", "offers", "I", false)
  | 13 => ("CottageWeeks$House", "offerers", "[I", true)
  | 14 => ("CottageWeeks$House", "offered", "[I", true)
  | _ => ("CottageWeeks$House", "wanted", "[I", true)
def tyX1 : Nat → FieldType := fun k => match k with
  | 0 => .array .int
  | 1 => .array .int
  | 2 => .int
  | 3 => .int
  | 4 => .array .int
  | 5 => .array .int
  | 6 => .array .int
  | 7 => .array .int
  | 8 => .array .int
  | 9 => .array .boolean
  | 10 => .array .int
  | 11 => .array .int
  | 12 => .int
  | 13 => .array .int
  | 14 => .array .int
  | _ => .array .int
theorem nmX1 : ∀ a, a < 16 → ∀ b, b < 16 → a ≠ b → (TX1 a).2.1 ≠ (TX1 b).2.1 := by decide +kernel
theorem tyX1_ok : ∀ k, k < 16 → parseFieldDescriptor (TX1 k).2.2.1 = some (tyX1 k) := by decide +kernel
abbrev cX1_init : ByteArray := prog_3_method_1_code
def yX1_init : MethodName := ⟨RX1, "<init>", "()V"⟩
abbrev cX1_clear : ByteArray := prog_3_method_2_code
def yX1_clear : MethodName := ⟨RX1, "clear", "()V"⟩
abbrev cX1_copyFrom : ByteArray := prog_3_method_3_code
def yX1_copyFrom : MethodName := ⟨RX1, "copyFrom", "(LCottageWeeks$House;)V"⟩
abbrev cX1_hasOwner : ByteArray := prog_3_method_4_code
def yX1_hasOwner : MethodName := ⟨RX1, "hasOwner", "(I)Z"⟩
abbrev cX1_hasWeek : ByteArray := prog_3_method_5_code
def yX1_hasWeek : MethodName := ⟨RX1, "hasWeek", "(I)Z"⟩
abbrev cX1_hasOffer : ByteArray := prog_3_method_6_code
def yX1_hasOffer : MethodName := ⟨RX1, "hasOffer", "(I)Z"⟩
abbrev cX1_holds : ByteArray := prog_3_method_7_code
def yX1_holds : MethodName := ⟨RX1, "holds", "(II)Z"⟩
abbrev cX1_isOpenForBids : ByteArray := prog_3_method_9_code
def yX1_isOpenForBids : MethodName := ⟨RX1, "isOpenForBids", "(I)Z"⟩
abbrev cX1_weeksHeldBy : ByteArray := prog_3_method_10_code
def yX1_weeksHeldBy : MethodName := ⟨RX1, "weeksHeldBy", "(I)I"⟩
abbrev cX1_lowestWeekHeldBy : ByteArray := prog_3_method_11_code
def yX1_lowestWeekHeldBy : MethodName := ⟨RX1, "lowestWeekHeldBy", "(I)I"⟩
abbrev cX1_pointsOfAll : ByteArray := prog_3_method_12_code
def yX1_pointsOfAll : MethodName := ⟨RX1, "pointsOfAll", "()I"⟩
abbrev cX1_extraOf : ByteArray := prog_3_method_13_code
def yX1_extraOf : MethodName := ⟨RX1, "extraOf", "(II)I"⟩
abbrev cX1_bidsBy : ByteArray := prog_3_method_14_code
def yX1_bidsBy : MethodName := ⟨RX1, "bidsBy", "(I)I"⟩
abbrev cX1_bidsFor : ByteArray := prog_3_method_15_code
def yX1_bidsFor : MethodName := ⟨RX1, "bidsFor", "(I)I"⟩
abbrev cX1_bidsOfAll : ByteArray := prog_3_method_16_code
def yX1_bidsOfAll : MethodName := ⟨RX1, "bidsOfAll", "()I"⟩
abbrev cX1_greatestExtraFor : ByteArray := prog_3_method_17_code
def yX1_greatestExtraFor : MethodName := ⟨RX1, "greatestExtraFor", "(I)I"⟩
abbrev cX1_addOwner : ByteArray := prog_3_method_18_code
def yX1_addOwner : MethodName := ⟨RX1, "addOwner", "(I)I"⟩
abbrev cX1_givePoints : ByteArray := prog_3_method_19_code
def yX1_givePoints : MethodName := ⟨RX1, "givePoints", "(I)V"⟩
abbrev cX1_spendPoints : ByteArray := prog_3_method_20_code
def yX1_spendPoints : MethodName := ⟨RX1, "spendPoints", "(II)V"⟩
abbrev cX1_changeCost : ByteArray := prog_3_method_21_code
def yX1_changeCost : MethodName := ⟨RX1, "changeCost", "(II)I"⟩
abbrev cX1_markSchool : ByteArray := prog_3_method_22_code
def yX1_markSchool : MethodName := ⟨RX1, "markSchool", "(IZ)I"⟩
abbrev cX1_reasonAgainst : ByteArray := prog_3_method_23_code
def yX1_reasonAgainst : MethodName := ⟨RX1, "reasonAgainst", "(II)I"⟩
abbrev cX1_takeWeek : ByteArray := prog_3_method_24_code
def yX1_takeWeek : MethodName := ⟨RX1, "takeWeek", "(II)I"⟩
abbrev cX1_giveBack : ByteArray := prog_3_method_25_code
def yX1_giveBack : MethodName := ⟨RX1, "giveBack", "(II)I"⟩
abbrev cX1_placeBid : ByteArray := prog_3_method_26_code
def yX1_placeBid : MethodName := ⟨RX1, "placeBid", "(III)I"⟩
abbrev cX1_settleBids : ByteArray := prog_3_method_27_code
def yX1_settleBids : MethodName := ⟨RX1, "settleBids", "()I"⟩
abbrev cX1_settleWeek : ByteArray := prog_3_method_28_code
def yX1_settleWeek : MethodName := ⟨RX1, "settleWeek", "(I)Z"⟩
abbrev cX1_bestBidder : ByteArray := prog_3_method_29_code
def yX1_bestBidder : MethodName := ⟨RX1, "bestBidder", "(I)I"⟩
abbrev cX1_canWin : ByteArray := prog_3_method_30_code
def yX1_canWin : MethodName := ⟨RX1, "canWin", "(II)Z"⟩
abbrev cX1_isAhead : ByteArray := prog_3_method_31_code
def yX1_isAhead : MethodName := ⟨RX1, "isAhead", "(III)Z"⟩
abbrev cX1_canSwap : ByteArray := prog_3_method_32_code
def yX1_canSwap : MethodName := ⟨RX1, "canSwap", "(III)Z"⟩
abbrev cX1_canOffer : ByteArray := prog_3_method_33_code
def yX1_canOffer : MethodName := ⟨RX1, "canOffer", "(III)Z"⟩
abbrev cX1_placeOffer : ByteArray := prog_3_method_34_code
def yX1_placeOffer : MethodName := ⟨RX1, "placeOffer", "(III)I"⟩
abbrev cX1_acceptOffer : ByteArray := prog_3_method_35_code
def yX1_acceptOffer : MethodName := ⟨RX1, "acceptOffer", "(I)I"⟩
abbrev cX1_dropOffer : ByteArray := prog_3_method_36_code
def yX1_dropOffer : MethodName := ⟨RX1, "dropOffer", "(I)V"⟩
abbrev cX1_payUpkeep : ByteArray := prog_3_method_37_code
def yX1_payUpkeep : MethodName := ⟨RX1, "payUpkeep", "(I)I"⟩
abbrev cX1_partOf : ByteArray := prog_3_method_38_code
def yX1_partOf : MethodName := ⟨RX1, "partOf", "(II)I"⟩
abbrev cX1_sharesOfAll : ByteArray := prog_3_method_39_code
def yX1_sharesOfAll : MethodName := ⟨RX1, "sharesOfAll", "()I"⟩
abbrev cX1_beginYear : ByteArray := prog_3_method_40_code
def yX1_beginYear : MethodName := ⟨RX1, "beginYear", "()I"⟩
def RX2 : String := "CottageWeeks$Matching"
def TX2 : u_T := fun k => match k with
  | 0 => ("CottageWeeks$Matching", "takers", "[I", true)
  | _ => ("CottageWeeks$Matching", "tried", "[I", true)
def tyX2 : Nat → FieldType := fun k => match k with
  | 0 => .array .int
  | _ => .array .int
theorem nmX2 : ∀ a, a < 2 → ∀ b, b < 2 → a ≠ b → (TX2 a).2.1 ≠ (TX2 b).2.1 := by decide +kernel
theorem tyX2_ok : ∀ k, k < 2 → parseFieldDescriptor (TX2 k).2.2.1 = some (tyX2 k) := by decide +kernel
abbrev cX2_init : ByteArray := prog_4_method_1_code
def yX2_init : MethodName := ⟨RX2, "<init>", "()V"⟩
abbrev cX2_countByMoving : ByteArray := prog_4_method_2_code
def yX2_countByMoving : MethodName := ⟨RX2, "countByMoving", "(LCottageWeeks$House;)I"⟩
abbrev cX2_findWeek : ByteArray := prog_4_method_3_code
def yX2_findWeek : MethodName := ⟨RX2, "findWeek", "(LCottageWeeks$House;I[I[II)Z"⟩
abbrev cX2_countBySets : ByteArray := prog_4_method_4_code
def yX2_countBySets : MethodName := ⟨RX2, "countBySets", "(LCottageWeeks$House;)I"⟩
abbrev cX2_growSets : ByteArray := prog_4_method_5_code
def yX2_growSets : MethodName := ⟨RX2, "growSets", "(LCottageWeeks$House;IJ)J"⟩
def RX3 : String := "CottageWeeks$Script"
def TX3 : u_T := fun k => match k with
  | _ => ("", "", "", false)
def tyX3 : Nat → FieldType := fun k => match k with
  | _ => .int
theorem nmX3 : ∀ a, a < 0 → ∀ b, b < 0 → a ≠ b → (TX3 a).2.1 ≠ (TX3 b).2.1 := by decide +kernel
theorem tyX3_ok : ∀ k, k < 0 → parseFieldDescriptor (TX3 k).2.2.1 = some (tyX3 k) := by decide +kernel
def RX4 : String := "CottageWeeks$Simulation"
def TX4 : u_T := fun k => match k with
  | _ => ("", "", "", false)
def tyX4 : Nat → FieldType := fun k => match k with
  | _ => .int
theorem nmX4 : ∀ a, a < 0 → ∀ b, b < 0 → a ≠ b → (TX4 a).2.1 ≠ (TX4 b).2.1 := by decide +kernel
theorem tyX4_ok : ∀ k, k < 0 → parseFieldDescriptor (TX4 k).2.2.1 = some (tyX4 k) := by decide +kernel
def RX5 : String := "CottageWeeks$Text"
def TX5 : u_T := fun k => match k with
  | 0 => ("CottageWeeks$Text", "signs", "[C", true)
  | 1 => ("CottageWeeks$Text", "length", "I", false)
  | 2 => ("CottageWeeks$Text", "at", "I", false)
  | 3 => ("CottageWeeks$Text", "wrong", "Z", false)
  | 4 => ("CottageWeeks$Text", "values", "[I", true)
  | _ => ("CottageWeeks$Text", "valueCount", "I", false)
def tyX5 : Nat → FieldType := fun k => match k with
  | 0 => .array .char
  | 1 => .int
  | 2 => .int
  | 3 => .boolean
  | 4 => .array .int
  | _ => .int
theorem nmX5 : ∀ a, a < 6 → ∀ b, b < 6 → a ≠ b → (TX5 a).2.1 ≠ (TX5 b).2.1 := by decide +kernel
theorem tyX5_ok : ∀ k, k < 6 → parseFieldDescriptor (TX5 k).2.2.1 = some (tyX5 k) := by decide +kernel
abbrev cX5_init : ByteArray := prog_7_method_1_code
def yX5_init : MethodName := ⟨RX5, "<init>", "()V"⟩
def RX6 : String := "CottageWeeks"
def TX6 : u_T := fun k => match k with
  | 0 => ("CottageWeeks", "present", "LCottageWeeks$House;", true)
  | 1 => ("CottageWeeks", "copy", "LCottageWeeks$House;", true)
  | 2 => ("CottageWeeks", "history", "LCottageWeeks$History;", true)
  | 3 => ("CottageWeeks", "slots", "[LCottageWeeks$House;", true)
  | 4 => ("CottageWeeks", "saved", "[Z", true)
  | 5 => ("CottageWeeks", "text", "LCottageWeeks$Text;", true)
  | _ => ("CottageWeeks", "matching", "LCottageWeeks$Matching;", true)
def tyX6 : Nat → FieldType := fun k => match k with
  | 0 => .object "CottageWeeks$House"
  | 1 => .object "CottageWeeks$House"
  | 2 => .object "CottageWeeks$History"
  | 3 => .array (.object "CottageWeeks$House")
  | 4 => .array .boolean
  | 5 => .object "CottageWeeks$Text"
  | _ => .object "CottageWeeks$Matching"
theorem nmX6 : ∀ a, a < 7 → ∀ b, b < 7 → a ≠ b → (TX6 a).2.1 ≠ (TX6 b).2.1 := by decide +kernel
theorem tyX6_ok : ∀ k, k < 7 → parseFieldDescriptor (TX6 k).2.2.1 = some (tyX6 k) := by decide +kernel
abbrev cX6_init : ByteArray := prog_1_method_1_code
def yX6_init : MethodName := ⟨RX6, "<init>", "()V"⟩
abbrev cX6_about : ByteArray := prog_1_method_6_code
def yX6_about : MethodName := ⟨RX6, "about", "(I)I"⟩
abbrev cX6_ownerOf : ByteArray := prog_1_method_7_code
def yX6_ownerOf : MethodName := ⟨RX6, "ownerOf", "(II)I"⟩
abbrev cX6_weekOf : ByteArray := prog_1_method_8_code
def yX6_weekOf : MethodName := ⟨RX6, "weekOf", "(II)I"⟩
abbrev cX6_bidOf : ByteArray := prog_1_method_9_code
def yX6_bidOf : MethodName := ⟨RX6, "bidOf", "(II)I"⟩
abbrev cX6_offerOf : ByteArray := prog_1_method_10_code
def yX6_offerOf : MethodName := ⟨RX6, "offerOf", "(II)I"⟩
abbrev cX6_owner : ByteArray := prog_1_method_11_code
def yX6_owner : MethodName := ⟨RX6, "owner", "(I)I"⟩
abbrev cX6_cost : ByteArray := prog_1_method_12_code
def yX6_cost : MethodName := ⟨RX6, "cost", "(II)I"⟩
abbrev cX6_school : ByteArray := prog_1_method_13_code
def yX6_school : MethodName := ⟨RX6, "school", "(IZ)I"⟩
abbrev cX6_take : ByteArray := prog_1_method_14_code
def yX6_take : MethodName := ⟨RX6, "take", "(II)I"⟩
abbrev cX6_release : ByteArray := prog_1_method_15_code
def yX6_release : MethodName := ⟨RX6, "release", "(II)I"⟩
abbrev cX6_bid : ByteArray := prog_1_method_16_code
def yX6_bid : MethodName := ⟨RX6, "bid", "(III)I"⟩
abbrev cX6_settle : ByteArray := prog_1_method_17_code
def yX6_settle : MethodName := ⟨RX6, "settle", "()I"⟩
abbrev cX6_offer : ByteArray := prog_1_method_18_code
def yX6_offer : MethodName := ⟨RX6, "offer", "(III)I"⟩
abbrev cX6_accept : ByteArray := prog_1_method_19_code
def yX6_accept : MethodName := ⟨RX6, "accept", "(I)I"⟩
abbrev cX6_upkeep : ByteArray := prog_1_method_20_code
def yX6_upkeep : MethodName := ⟨RX6, "upkeep", "(I)I"⟩
abbrev cX6_year : ByteArray := prog_1_method_21_code
def yX6_year : MethodName := ⟨RX6, "year", "()I"⟩
abbrev cX6_set : ByteArray := prog_1_method_22_code
def yX6_set : MethodName := ⟨RX6, "set", "(II)I"⟩
abbrev cX6_undo : ByteArray := prog_1_method_23_code
def yX6_undo : MethodName := ⟨RX6, "undo", "()I"⟩
abbrev cX6_why : ByteArray := prog_1_method_24_code
def yX6_why : MethodName := ⟨RX6, "why", "(II)I"⟩
abbrev cX6_could : ByteArray := prog_1_method_25_code
def yX6_could : MethodName := ⟨RX6, "could", "(I)I"⟩
abbrev cX6_winner : ByteArray := prog_1_method_26_code
def yX6_winner : MethodName := ⟨RX6, "winner", "(I)I"⟩
abbrev cX6_leastBid : ByteArray := prog_1_method_27_code
def yX6_leastBid : MethodName := ⟨RX6, "leastBid", "(II)I"⟩
abbrev cX6_ifUpkeep : ByteArray := prog_1_method_28_code
def yX6_ifUpkeep : MethodName := ⟨RX6, "ifUpkeep", "(II)I"⟩
abbrev cX6_needOwner : ByteArray := prog_1_method_33_code
def yX6_needOwner : MethodName := ⟨RX6, "needOwner", "(I)V"⟩
abbrev cX6_needWeek : ByteArray := prog_1_method_34_code
def yX6_needWeek : MethodName := ⟨RX6, "needWeek", "(I)V"⟩
abbrev cX6_needOffer : ByteArray := prog_1_method_35_code
def yX6_needOffer : MethodName := ⟨RX6, "needOffer", "(I)V"⟩
abbrev cX6_needRange : ByteArray := prog_1_method_37_code
def yX6_needRange : MethodName := ⟨RX6, "needRange", "(III)V"⟩
abbrev cX6_settleCopyBefore : ByteArray := prog_1_method_38_code
def yX6_settleCopyBefore : MethodName := ⟨RX6, "settleCopyBefore", "(I)V"⟩
def RX7 : String := "CottageWeeksModel"
def TX7 : u_T := fun k => match k with
  | _ => ("", "", "", false)
def tyX7 : Nat → FieldType := fun k => match k with
  | _ => .int
theorem nmX7 : ∀ a, a < 0 → ∀ b, b < 0 → a ≠ b → (TX7 a).2.1 ≠ (TX7 b).2.1 := by decide +kernel
theorem tyX7_ok : ∀ k, k < 0 → parseFieldDescriptor (TX7 k).2.2.1 = some (tyX7 k) := by decide +kernel
def RJx145de : String := "java/io/Serializable"
def TJx145de : u_T := fun k => match k with
  | _ => ("", "", "", false)
def tyJx145de : Nat → FieldType := fun k => match k with
  | _ => .int
theorem nmJx145de : ∀ a, a < 0 → ∀ b, b < 0 → a ≠ b → (TJx145de a).2.1 ≠ (TJx145de b).2.1 := by decide +kernel
def RJ6 : String := "java/lang/Integer"
def TJ6 : u_T := fun k => match k with
  | _ => ("", "", "", false)
def tyJ6 : Nat → FieldType := fun k => match k with
  | _ => .int
theorem nmJ6 : ∀ a, a < 0 → ∀ b, b < 0 → a ≠ b → (TJ6 a).2.1 ≠ (TJ6 b).2.1 := by decide +kernel
theorem tyJ6_ok : ∀ k, k < 0 → parseFieldDescriptor (TJ6 k).2.2.1 = some (tyJ6 k) := by decide +kernel
abbrev cJ6_bitCount_0f7a4 : ByteArray := prog_14_method_49_code
def yJ6_bitCount_0f7a4 : MethodName := ⟨RJ6, "bitCount", "(I)I"⟩
def RJ9 : String := "java/lang/Math"
def TJ9 : u_T := fun k => match k with
  | _ => ("", "", "", false)
def tyJ9 : Nat → FieldType := fun k => match k with
  | _ => .int
theorem nmJ9 : ∀ a, a < 0 → ∀ b, b < 0 → a ≠ b → (TJ9 a).2.1 ≠ (TJ9 b).2.1 := by decide +kernel
theorem tyJ9_ok : ∀ k, k < 0 → parseFieldDescriptor (TJ9 k).2.2.1 = some (tyJ9 k) := by decide +kernel
abbrev cJ9_max_7cf53 : ByteArray := prog_15_method_65_code
def yJ9_max_7cf53 : MethodName := ⟨RJ9, "max", "(II)I"⟩
def RJ0 : String := "java/lang/String"
def TJ0 : u_T := fun k => match k with
  | _ => ("", "", "", false)
def tyJ0 : Nat → FieldType := fun k => match k with
  | _ => .int
theorem nmJ0 : ∀ a, a < 0 → ∀ b, b < 0 → a ≠ b → (TJ0 a).2.1 ≠ (TJ0 b).2.1 := by decide +kernel
theorem tyJ0_ok : ∀ k, k < 0 → parseFieldDescriptor (TJ0 k).2.2.1 = some (tyJ0 k) := by decide +kernel
def RJ10 : String := "java/lang/System"
def TJ10 : u_T := fun k => match k with
  | _ => ("", "", "", false)
def tyJ10 : Nat → FieldType := fun k => match k with
  | _ => .int
theorem nmJ10 : ∀ a, a < 0 → ∀ b, b < 0 → a ≠ b → (TJ10 a).2.1 ≠ (TJ10 b).2.1 := by decide +kernel
theorem tyJ10_ok : ∀ k, k < 0 → parseFieldDescriptor (TJ10 k).2.2.1 = some (tyJ10 k) := by decide +kernel
def RJ7 : String := "java/util/Arrays"
def TJ7 : u_T := fun k => match k with
  | _ => ("", "", "", false)
def tyJ7 : Nat → FieldType := fun k => match k with
  | _ => .int
theorem nmJ7 : ∀ a, a < 0 → ∀ b, b < 0 → a ≠ b → (TJ7 a).2.1 ≠ (TJ7 b).2.1 := by decide +kernel
theorem tyJ7_ok : ∀ k, k < 0 → parseFieldDescriptor (TJ7 k).2.2.1 = some (tyJ7 k) := by decide +kernel
abbrev cJ7_fill_53178 : ByteArray := prog_20_method_103_code
def yJ7_fill_53178 : MethodName := ⟨RJ7, "fill", "([II)V"⟩
def RL : String := "CottageWeeksLaw"
abbrev cL_cell : ByteArray := method_2_code
def yL_cell : MethodName := ⟨RL, "cell", "([II)I"⟩
abbrev cL_low : ByteArray := method_3_code
def yL_low : MethodName := ⟨RL, "low", "(II)I"⟩
abbrev cL_changes : ByteArray := method_4_code
def yL_changes : MethodName := ⟨RL, "changes", "(LCottageWeeks;III[I)I"⟩
abbrev cL_asks : ByteArray := method_5_code
def yL_asks : MethodName := ⟨RL, "asks", "(LCottageWeeks;IIII[I)I"⟩
abbrev cL_undoes : ByteArray := method_6_code
def yL_undoes : MethodName := ⟨RL, "undoes", "(LCottageWeeks;[I)I"⟩
abbrev cL_act : ByteArray := method_7_code
def yL_act : MethodName := ⟨RL, "act", "(LCottageWeeks;I[I)I"⟩
abbrev cL_areAlike : ByteArray := method_8_code
def yL_areAlike : MethodName := ⟨RL, "areAlike", "(LCottageWeeks;LCottageWeeks;)Z"⟩
abbrev cL_areSums : ByteArray := method_9_code
def yL_areSums : MethodName := ⟨RL, "areSums", "(LCottageWeeks;)Z"⟩
abbrev cL_most : ByteArray := method_10_code
def yL_most : MethodName := ⟨RL, "most", "(LCottageWeeks;)I"⟩
abbrev cL_isWinSo : ByteArray := method_11_code
def yL_isWinSo : MethodName := ⟨RL, "isWinSo", "(LCottageWeeks;II[I)Z"⟩
abbrev cL_isUpkeepSo : ByteArray := method_12_code
def yL_isUpkeepSo : MethodName := ⟨RL, "isUpkeepSo", "(LCottageWeeks;I)Z"⟩
abbrev cL_law : ByteArray := code
def yL_law : MethodName := ⟨RL, "law", "([I)Z"⟩
theorem dX0_init_0 : decode cX0_init 0 = .ok (.aload_n 0, 1) := by decide +kernel
theorem dX0_init_1 : decode cX0_init 1 = .ok (.invokespecial 3, 3) := by decide +kernel
theorem dX0_init_4 : decode cX0_init 4 = .ok (.aload_n 0, 1) := by decide +kernel
theorem dX0_init_5 : decode cX0_init 5 = .ok (.bipush 14, 2) := by decide +kernel
theorem dX0_init_7 : decode cX0_init 7 = .ok (.anewarray 9, 3) := by decide +kernel
theorem dX0_init_10 : decode cX0_init 10 = .ok (.putfield 11, 3) := by decide +kernel
theorem dX0_init_13 : decode cX0_init 13 = .ok (.iconst 0, 1) := by decide +kernel
theorem dX0_init_14 : decode cX0_init 14 = .ok (.istore_n 1, 1) := by decide +kernel
theorem dX0_init_15 : decode cX0_init 15 = .ok (.iload_n 1, 1) := by decide +kernel
theorem dX0_init_16 : decode cX0_init 16 = .ok (.bipush 14, 2) := by decide +kernel
theorem dX0_init_18 : decode cX0_init 18 = .ok (.if_icmp .ge 22, 3) := by decide +kernel
theorem dX0_init_21 : decode cX0_init 21 = .ok (.aload_n 0, 1) := by decide +kernel
theorem dX0_init_22 : decode cX0_init 22 = .ok (.getfield 11, 3) := by decide +kernel
theorem dX0_init_25 : decode cX0_init 25 = .ok (.iload_n 1, 1) := by decide +kernel
theorem dX0_init_26 : decode cX0_init 26 = .ok (.new 9, 3) := by decide +kernel
theorem dX0_init_29 : decode cX0_init 29 = .ok (.dup, 1) := by decide +kernel
theorem dX0_init_30 : decode cX0_init 30 = .ok (.invokespecial 17, 3) := by decide +kernel
theorem dX0_init_33 : decode cX0_init 33 = .ok (.aastore, 1) := by decide +kernel
theorem dX0_init_34 : decode cX0_init 34 = .ok (.iinc 1 1, 3) := by decide +kernel
theorem dX0_init_37 : decode cX0_init 37 = .ok (.goto (-22), 3) := by decide +kernel
theorem dX0_init_40 : decode cX0_init 40 = .ok (.return_, 1) := by decide +kernel
theorem dX0_isEmpty_0 : decode cX0_isEmpty 0 = .ok (.aload_n 0, 1) := by decide +kernel
theorem dX0_isEmpty_1 : decode cX0_isEmpty 1 = .ok (.getfield 18, 3) := by decide +kernel
theorem dX0_isEmpty_4 : decode cX0_isEmpty 4 = .ok (.ifCond .ne 7, 3) := by decide +kernel
theorem dX0_isEmpty_7 : decode cX0_isEmpty 7 = .ok (.iconst 1, 1) := by decide +kernel
theorem dX0_isEmpty_8 : decode cX0_isEmpty 8 = .ok (.goto 4, 3) := by decide +kernel
theorem dX0_isEmpty_11 : decode cX0_isEmpty 11 = .ok (.iconst 0, 1) := by decide +kernel
theorem dX0_isEmpty_12 : decode cX0_isEmpty 12 = .ok (.ireturn, 1) := by decide +kernel
theorem dX0_remember_0 : decode cX0_remember 0 = .ok (.aload_n 0, 1) := by decide +kernel
theorem dX0_remember_1 : decode cX0_remember 1 = .ok (.getfield 18, 3) := by decide +kernel
theorem dX0_remember_4 : decode cX0_remember 4 = .ok (.bipush 14, 2) := by decide +kernel
theorem dX0_remember_6 : decode cX0_remember 6 = .ok (.if_icmp .lt 26, 3) := by decide +kernel
theorem dX0_remember_9 : decode cX0_remember 9 = .ok (.aload_n 0, 1) := by decide +kernel
theorem dX0_remember_10 : decode cX0_remember 10 = .ok (.aload_n 0, 1) := by decide +kernel
theorem dX0_remember_11 : decode cX0_remember 11 = .ok (.getfield 22, 3) := by decide +kernel
theorem dX0_remember_14 : decode cX0_remember 14 = .ok (.iconst 1, 1) := by decide +kernel
theorem dX0_remember_15 : decode cX0_remember 15 = .ok (.iadd, 1) := by decide +kernel
theorem dX0_remember_16 : decode cX0_remember 16 = .ok (.bipush 14, 2) := by decide +kernel
theorem dX0_remember_18 : decode cX0_remember 18 = .ok (.irem, 1) := by decide +kernel
theorem dX0_remember_19 : decode cX0_remember 19 = .ok (.putfield 22, 3) := by decide +kernel
theorem dX0_remember_22 : decode cX0_remember 22 = .ok (.aload_n 0, 1) := by decide +kernel
theorem dX0_remember_23 : decode cX0_remember 23 = .ok (.dup, 1) := by decide +kernel
theorem dX0_remember_24 : decode cX0_remember 24 = .ok (.getfield 18, 3) := by decide +kernel
theorem dX0_remember_27 : decode cX0_remember 27 = .ok (.iconst 1, 1) := by decide +kernel
theorem dX0_remember_28 : decode cX0_remember 28 = .ok (.isub, 1) := by decide +kernel
theorem dX0_remember_29 : decode cX0_remember 29 = .ok (.putfield 18, 3) := by decide +kernel
theorem dX0_remember_32 : decode cX0_remember 32 = .ok (.aload_n 0, 1) := by decide +kernel
theorem dX0_remember_33 : decode cX0_remember 33 = .ok (.getfield 11, 3) := by decide +kernel
theorem dX0_remember_36 : decode cX0_remember 36 = .ok (.aload_n 0, 1) := by decide +kernel
theorem dX0_remember_37 : decode cX0_remember 37 = .ok (.getfield 22, 3) := by decide +kernel
theorem dX0_remember_40 : decode cX0_remember 40 = .ok (.aload_n 0, 1) := by decide +kernel
theorem dX0_remember_41 : decode cX0_remember 41 = .ok (.getfield 18, 3) := by decide +kernel
theorem dX0_remember_44 : decode cX0_remember 44 = .ok (.iadd, 1) := by decide +kernel
theorem dX0_remember_45 : decode cX0_remember 45 = .ok (.bipush 14, 2) := by decide +kernel
theorem dX0_remember_47 : decode cX0_remember 47 = .ok (.irem, 1) := by decide +kernel
theorem dX0_remember_48 : decode cX0_remember 48 = .ok (.aaload, 1) := by decide +kernel
theorem dX0_remember_49 : decode cX0_remember 49 = .ok (.aload_n 1, 1) := by decide +kernel
theorem dX0_remember_50 : decode cX0_remember 50 = .ok (.invokevirtual 25, 3) := by decide +kernel
theorem dX0_remember_53 : decode cX0_remember 53 = .ok (.aload_n 0, 1) := by decide +kernel
theorem dX0_remember_54 : decode cX0_remember 54 = .ok (.dup, 1) := by decide +kernel
theorem dX0_remember_55 : decode cX0_remember 55 = .ok (.getfield 18, 3) := by decide +kernel
theorem dX0_remember_58 : decode cX0_remember 58 = .ok (.iconst 1, 1) := by decide +kernel
theorem dX0_remember_59 : decode cX0_remember 59 = .ok (.iadd, 1) := by decide +kernel
theorem dX0_remember_60 : decode cX0_remember 60 = .ok (.putfield 18, 3) := by decide +kernel
theorem dX0_remember_63 : decode cX0_remember 63 = .ok (.return_, 1) := by decide +kernel
theorem dX0_takeBack_0 : decode cX0_takeBack 0 = .ok (.aload_n 0, 1) := by decide +kernel
theorem dX0_takeBack_1 : decode cX0_takeBack 1 = .ok (.getfield 18, 3) := by decide +kernel
theorem dX0_takeBack_4 : decode cX0_takeBack 4 = .ok (.ifCond .le 34, 3) := by decide +kernel
theorem dX0_takeBack_7 : decode cX0_takeBack 7 = .ok (.aload_n 0, 1) := by decide +kernel
theorem dX0_takeBack_8 : decode cX0_takeBack 8 = .ok (.dup, 1) := by decide +kernel
theorem dX0_takeBack_9 : decode cX0_takeBack 9 = .ok (.getfield 18, 3) := by decide +kernel
theorem dX0_takeBack_12 : decode cX0_takeBack 12 = .ok (.iconst 1, 1) := by decide +kernel
theorem dX0_takeBack_13 : decode cX0_takeBack 13 = .ok (.isub, 1) := by decide +kernel
theorem dX0_takeBack_14 : decode cX0_takeBack 14 = .ok (.putfield 18, 3) := by decide +kernel
theorem dX0_takeBack_17 : decode cX0_takeBack 17 = .ok (.aload_n 1, 1) := by decide +kernel
theorem dX0_takeBack_18 : decode cX0_takeBack 18 = .ok (.aload_n 0, 1) := by decide +kernel
theorem dX0_takeBack_19 : decode cX0_takeBack 19 = .ok (.getfield 11, 3) := by decide +kernel
theorem dX0_takeBack_22 : decode cX0_takeBack 22 = .ok (.aload_n 0, 1) := by decide +kernel
theorem dX0_takeBack_23 : decode cX0_takeBack 23 = .ok (.getfield 22, 3) := by decide +kernel
theorem dX0_takeBack_26 : decode cX0_takeBack 26 = .ok (.aload_n 0, 1) := by decide +kernel
theorem dX0_takeBack_27 : decode cX0_takeBack 27 = .ok (.getfield 18, 3) := by decide +kernel
theorem dX0_takeBack_30 : decode cX0_takeBack 30 = .ok (.iadd, 1) := by decide +kernel
theorem dX0_takeBack_31 : decode cX0_takeBack 31 = .ok (.bipush 14, 2) := by decide +kernel
theorem dX0_takeBack_33 : decode cX0_takeBack 33 = .ok (.irem, 1) := by decide +kernel
theorem dX0_takeBack_34 : decode cX0_takeBack 34 = .ok (.aaload, 1) := by decide +kernel
theorem dX0_takeBack_35 : decode cX0_takeBack 35 = .ok (.invokevirtual 25, 3) := by decide +kernel
theorem dX0_takeBack_38 : decode cX0_takeBack 38 = .ok (.aload_n 0, 1) := by decide +kernel
theorem dX0_takeBack_39 : decode cX0_takeBack 39 = .ok (.getfield 18, 3) := by decide +kernel
theorem dX0_takeBack_42 : decode cX0_takeBack 42 = .ok (.ireturn, 1) := by decide +kernel
theorem dX1_init_0 : decode cX1_init 0 = .ok (.aload_n 0, 1) := by decide +kernel
theorem dX1_init_1 : decode cX1_init 1 = .ok (.invokespecial 3, 3) := by decide +kernel
theorem dX1_init_4 : decode cX1_init 4 = .ok (.aload_n 0, 1) := by decide +kernel
theorem dX1_init_5 : decode cX1_init 5 = .ok (.iconst 3, 1) := by decide +kernel
theorem dX1_init_6 : decode cX1_init 6 = .ok (.newarray .int, 2) := by decide +kernel
theorem dX1_init_8 : decode cX1_init 8 = .ok (.putfield 9, 3) := by decide +kernel
theorem dX1_init_11 : decode cX1_init 11 = .ok (.aload_n 0, 1) := by decide +kernel
theorem dX1_init_12 : decode cX1_init 12 = .ok (.bipush 8, 2) := by decide +kernel
theorem dX1_init_14 : decode cX1_init 14 = .ok (.newarray .int, 2) := by decide +kernel
theorem dX1_init_16 : decode cX1_init 16 = .ok (.putfield 15, 3) := by decide +kernel
theorem dX1_init_19 : decode cX1_init 19 = .ok (.aload_n 0, 1) := by decide +kernel
theorem dX1_init_20 : decode cX1_init 20 = .ok (.bipush 6, 2) := by decide +kernel
theorem dX1_init_22 : decode cX1_init 22 = .ok (.newarray .int, 2) := by decide +kernel
theorem dX1_init_24 : decode cX1_init 24 = .ok (.putfield 18, 3) := by decide +kernel
theorem dX1_init_27 : decode cX1_init 27 = .ok (.aload_n 0, 1) := by decide +kernel
theorem dX1_init_28 : decode cX1_init 28 = .ok (.bipush 6, 2) := by decide +kernel
theorem dX1_init_30 : decode cX1_init 30 = .ok (.newarray .int, 2) := by decide +kernel
theorem dX1_init_32 : decode cX1_init 32 = .ok (.putfield 21, 3) := by decide +kernel
theorem dX1_init_35 : decode cX1_init 35 = .ok (.aload_n 0, 1) := by decide +kernel
theorem dX1_init_36 : decode cX1_init 36 = .ok (.bipush 6, 2) := by decide +kernel
theorem dX1_init_38 : decode cX1_init 38 = .ok (.newarray .int, 2) := by decide +kernel
theorem dX1_init_40 : decode cX1_init 40 = .ok (.putfield 24, 3) := by decide +kernel
theorem dX1_init_43 : decode cX1_init 43 = .ok (.aload_n 0, 1) := by decide +kernel
theorem dX1_init_44 : decode cX1_init 44 = .ok (.bipush 6, 2) := by decide +kernel
theorem dX1_init_46 : decode cX1_init 46 = .ok (.newarray .int, 2) := by decide +kernel
theorem dX1_init_48 : decode cX1_init 48 = .ok (.putfield 27, 3) := by decide +kernel
theorem dX1_init_51 : decode cX1_init 51 = .ok (.aload_n 0, 1) := by decide +kernel
theorem dX1_init_52 : decode cX1_init 52 = .ok (.bipush 20, 2) := by decide +kernel
theorem dX1_init_54 : decode cX1_init 54 = .ok (.newarray .int, 2) := by decide +kernel
theorem dX1_init_56 : decode cX1_init 56 = .ok (.putfield 30, 3) := by decide +kernel
theorem dX1_init_59 : decode cX1_init 59 = .ok (.aload_n 0, 1) := by decide +kernel
theorem dX1_init_60 : decode cX1_init 60 = .ok (.bipush 20, 2) := by decide +kernel
theorem dX1_init_62 : decode cX1_init 62 = .ok (.newarray .boolean, 2) := by decide +kernel
theorem dX1_init_64 : decode cX1_init 64 = .ok (.putfield 33, 3) := by decide +kernel
theorem dX1_init_67 : decode cX1_init 67 = .ok (.aload_n 0, 1) := by decide +kernel
theorem dX1_init_68 : decode cX1_init 68 = .ok (.bipush 20, 2) := by decide +kernel
theorem dX1_init_70 : decode cX1_init 70 = .ok (.newarray .int, 2) := by decide +kernel
theorem dX1_init_72 : decode cX1_init 72 = .ok (.putfield 37, 3) := by decide +kernel
theorem dX1_init_75 : decode cX1_init 75 = .ok (.aload_n 0, 1) := by decide +kernel
theorem dX1_init_76 : decode cX1_init 76 = .ok (.bipush 120, 2) := by decide +kernel
theorem dX1_init_78 : decode cX1_init 78 = .ok (.newarray .int, 2) := by decide +kernel
theorem dX1_init_80 : decode cX1_init 80 = .ok (.putfield 40, 3) := by decide +kernel
theorem dX1_init_83 : decode cX1_init 83 = .ok (.aload_n 0, 1) := by decide +kernel
theorem dX1_init_84 : decode cX1_init 84 = .ok (.bipush 8, 2) := by decide +kernel
theorem dX1_init_86 : decode cX1_init 86 = .ok (.newarray .int, 2) := by decide +kernel
theorem dX1_init_88 : decode cX1_init 88 = .ok (.putfield 43, 3) := by decide +kernel
theorem dX1_init_91 : decode cX1_init 91 = .ok (.aload_n 0, 1) := by decide +kernel
theorem dX1_init_92 : decode cX1_init 92 = .ok (.bipush 8, 2) := by decide +kernel
theorem dX1_init_94 : decode cX1_init 94 = .ok (.newarray .int, 2) := by decide +kernel
theorem dX1_init_96 : decode cX1_init 96 = .ok (.putfield 46, 3) := by decide +kernel
theorem dX1_init_99 : decode cX1_init 99 = .ok (.aload_n 0, 1) := by decide +kernel
theorem dX1_init_100 : decode cX1_init 100 = .ok (.bipush 8, 2) := by decide +kernel
theorem dX1_init_102 : decode cX1_init 102 = .ok (.newarray .int, 2) := by decide +kernel
theorem dX1_init_104 : decode cX1_init 104 = .ok (.putfield 49, 3) := by decide +kernel
theorem dX1_init_107 : decode cX1_init 107 = .ok (.aload_n 0, 1) := by decide +kernel
theorem dX1_init_108 : decode cX1_init 108 = .ok (.invokevirtual 52, 3) := by decide +kernel
theorem dX1_init_111 : decode cX1_init 111 = .ok (.return_, 1) := by decide +kernel
theorem dX1_clear_0 : decode cX1_clear 0 = .ok (.getstatic 55, 3) := by decide +kernel
theorem dX1_clear_3 : decode cX1_clear 3 = .ok (.iconst 0, 1) := by decide +kernel
theorem dX1_clear_4 : decode cX1_clear 4 = .ok (.aload_n 0, 1) := by decide +kernel
theorem dX1_clear_5 : decode cX1_clear 5 = .ok (.getfield 9, 3) := by decide +kernel
theorem dX1_clear_8 : decode cX1_clear 8 = .ok (.iconst 0, 1) := by decide +kernel
theorem dX1_clear_9 : decode cX1_clear 9 = .ok (.iconst 3, 1) := by decide +kernel
theorem dX1_clear_10 : decode cX1_clear 10 = .ok (.invokestatic 58, 3) := by decide +kernel
theorem dX1_clear_13 : decode cX1_clear 13 = .ok (.aload_n 0, 1) := by decide +kernel
theorem dX1_clear_14 : decode cX1_clear 14 = .ok (.getfield 15, 3) := by decide +kernel
theorem dX1_clear_17 : decode cX1_clear 17 = .ok (.iconst 0, 1) := by decide +kernel
theorem dX1_clear_18 : decode cX1_clear 18 = .ok (.invokestatic 64, 3) := by decide +kernel
theorem dX1_clear_21 : decode cX1_clear 21 = .ok (.aload_n 0, 1) := by decide +kernel
theorem dX1_clear_22 : decode cX1_clear 22 = .ok (.iconst 0, 1) := by decide +kernel
theorem dX1_clear_23 : decode cX1_clear 23 = .ok (.putfield 70, 3) := by decide +kernel
theorem dX1_clear_26 : decode cX1_clear 26 = .ok (.aload_n 0, 1) := by decide +kernel
theorem dX1_clear_27 : decode cX1_clear 27 = .ok (.iconst 0, 1) := by decide +kernel
theorem dX1_clear_28 : decode cX1_clear 28 = .ok (.putfield 74, 3) := by decide +kernel
theorem dX1_clear_31 : decode cX1_clear 31 = .ok (.aload_n 0, 1) := by decide +kernel
theorem dX1_clear_32 : decode cX1_clear 32 = .ok (.getfield 18, 3) := by decide +kernel
theorem dX1_clear_35 : decode cX1_clear 35 = .ok (.iconst 0, 1) := by decide +kernel
theorem dX1_clear_36 : decode cX1_clear 36 = .ok (.invokestatic 64, 3) := by decide +kernel
theorem dX1_clear_39 : decode cX1_clear 39 = .ok (.aload_n 0, 1) := by decide +kernel
theorem dX1_clear_40 : decode cX1_clear 40 = .ok (.getfield 21, 3) := by decide +kernel
theorem dX1_clear_43 : decode cX1_clear 43 = .ok (.iconst 0, 1) := by decide +kernel
theorem dX1_clear_44 : decode cX1_clear 44 = .ok (.invokestatic 64, 3) := by decide +kernel
theorem dX1_clear_47 : decode cX1_clear 47 = .ok (.aload_n 0, 1) := by decide +kernel
theorem dX1_clear_48 : decode cX1_clear 48 = .ok (.getfield 24, 3) := by decide +kernel
theorem dX1_clear_51 : decode cX1_clear 51 = .ok (.iconst 0, 1) := by decide +kernel
theorem dX1_clear_52 : decode cX1_clear 52 = .ok (.invokestatic 64, 3) := by decide +kernel
theorem dX1_clear_55 : decode cX1_clear 55 = .ok (.aload_n 0, 1) := by decide +kernel
theorem dX1_clear_56 : decode cX1_clear 56 = .ok (.getfield 27, 3) := by decide +kernel
theorem dX1_clear_59 : decode cX1_clear 59 = .ok (.iconst 0, 1) := by decide +kernel
theorem dX1_clear_60 : decode cX1_clear 60 = .ok (.invokestatic 64, 3) := by decide +kernel
theorem dX1_clear_63 : decode cX1_clear 63 = .ok (.aload_n 0, 1) := by decide +kernel
theorem dX1_clear_64 : decode cX1_clear 64 = .ok (.getfield 30, 3) := by decide +kernel
theorem dX1_clear_67 : decode cX1_clear 67 = .ok (.iconst 3, 1) := by decide +kernel
theorem dX1_clear_68 : decode cX1_clear 68 = .ok (.invokestatic 64, 3) := by decide +kernel
theorem dX1_clear_71 : decode cX1_clear 71 = .ok (.iconst 0, 1) := by decide +kernel
theorem dX1_clear_72 : decode cX1_clear 72 = .ok (.istore_n 1, 1) := by decide +kernel
theorem dX1_clear_73 : decode cX1_clear 73 = .ok (.iload_n 1, 1) := by decide +kernel
theorem dX1_clear_74 : decode cX1_clear 74 = .ok (.bipush 20, 2) := by decide +kernel
theorem dX1_clear_76 : decode cX1_clear 76 = .ok (.if_icmp .ge 16, 3) := by decide +kernel
theorem dX1_clear_79 : decode cX1_clear 79 = .ok (.aload_n 0, 1) := by decide +kernel
theorem dX1_clear_80 : decode cX1_clear 80 = .ok (.getfield 33, 3) := by decide +kernel
theorem dX1_clear_83 : decode cX1_clear 83 = .ok (.iload_n 1, 1) := by decide +kernel
theorem dX1_clear_84 : decode cX1_clear 84 = .ok (.iconst 0, 1) := by decide +kernel
theorem dX1_clear_85 : decode cX1_clear 85 = .ok (.bastore, 1) := by decide +kernel
theorem dX1_clear_86 : decode cX1_clear 86 = .ok (.iinc 1 1, 3) := by decide +kernel
theorem dX1_clear_89 : decode cX1_clear 89 = .ok (.goto (-16), 3) := by decide +kernel
theorem dX1_clear_92 : decode cX1_clear 92 = .ok (.aload_n 0, 1) := by decide +kernel
theorem dX1_clear_93 : decode cX1_clear 93 = .ok (.getfield 37, 3) := by decide +kernel
theorem dX1_clear_96 : decode cX1_clear 96 = .ok (.iconst (-1), 1) := by decide +kernel
theorem dX1_clear_97 : decode cX1_clear 97 = .ok (.invokestatic 64, 3) := by decide +kernel
theorem dX1_clear_100 : decode cX1_clear 100 = .ok (.aload_n 0, 1) := by decide +kernel
theorem dX1_clear_101 : decode cX1_clear 101 = .ok (.getfield 40, 3) := by decide +kernel
theorem dX1_clear_104 : decode cX1_clear 104 = .ok (.iconst (-1), 1) := by decide +kernel
theorem dX1_clear_105 : decode cX1_clear 105 = .ok (.invokestatic 64, 3) := by decide +kernel
theorem dX1_clear_108 : decode cX1_clear 108 = .ok (.aload_n 0, 1) := by decide +kernel
theorem dX1_clear_109 : decode cX1_clear 109 = .ok (.iconst 0, 1) := by decide +kernel
theorem dX1_clear_110 : decode cX1_clear 110 = .ok (.putfield 77, 3) := by decide +kernel
theorem dX1_clear_113 : decode cX1_clear 113 = .ok (.return_, 1) := by decide +kernel
theorem dX1_copyFrom_0 : decode cX1_copyFrom 0 = .ok (.aload_n 1, 1) := by decide +kernel
theorem dX1_copyFrom_1 : decode cX1_copyFrom 1 = .ok (.getfield 9, 3) := by decide +kernel
theorem dX1_copyFrom_4 : decode cX1_copyFrom 4 = .ok (.iconst 0, 1) := by decide +kernel
theorem dX1_copyFrom_5 : decode cX1_copyFrom 5 = .ok (.aload_n 0, 1) := by decide +kernel
theorem dX1_copyFrom_6 : decode cX1_copyFrom 6 = .ok (.getfield 9, 3) := by decide +kernel
theorem dX1_copyFrom_9 : decode cX1_copyFrom 9 = .ok (.iconst 0, 1) := by decide +kernel
theorem dX1_copyFrom_10 : decode cX1_copyFrom 10 = .ok (.iconst 3, 1) := by decide +kernel
theorem dX1_copyFrom_11 : decode cX1_copyFrom 11 = .ok (.invokestatic 58, 3) := by decide +kernel
theorem dX1_copyFrom_14 : decode cX1_copyFrom 14 = .ok (.aload_n 1, 1) := by decide +kernel
theorem dX1_copyFrom_15 : decode cX1_copyFrom 15 = .ok (.getfield 15, 3) := by decide +kernel
theorem dX1_copyFrom_18 : decode cX1_copyFrom 18 = .ok (.iconst 0, 1) := by decide +kernel
theorem dX1_copyFrom_19 : decode cX1_copyFrom 19 = .ok (.aload_n 0, 1) := by decide +kernel
theorem dX1_copyFrom_20 : decode cX1_copyFrom 20 = .ok (.getfield 15, 3) := by decide +kernel
theorem dX1_copyFrom_23 : decode cX1_copyFrom 23 = .ok (.iconst 0, 1) := by decide +kernel
theorem dX1_copyFrom_24 : decode cX1_copyFrom 24 = .ok (.bipush 8, 2) := by decide +kernel
theorem dX1_copyFrom_26 : decode cX1_copyFrom 26 = .ok (.invokestatic 58, 3) := by decide +kernel
theorem dX1_copyFrom_29 : decode cX1_copyFrom 29 = .ok (.aload_n 0, 1) := by decide +kernel
theorem dX1_copyFrom_30 : decode cX1_copyFrom 30 = .ok (.aload_n 1, 1) := by decide +kernel
theorem dX1_copyFrom_31 : decode cX1_copyFrom 31 = .ok (.getfield 70, 3) := by decide +kernel
theorem dX1_copyFrom_34 : decode cX1_copyFrom 34 = .ok (.putfield 70, 3) := by decide +kernel
theorem dX1_copyFrom_37 : decode cX1_copyFrom 37 = .ok (.aload_n 0, 1) := by decide +kernel
theorem dX1_copyFrom_38 : decode cX1_copyFrom 38 = .ok (.aload_n 1, 1) := by decide +kernel
theorem dX1_copyFrom_39 : decode cX1_copyFrom 39 = .ok (.getfield 74, 3) := by decide +kernel
theorem dX1_copyFrom_42 : decode cX1_copyFrom 42 = .ok (.putfield 74, 3) := by decide +kernel
theorem dX1_copyFrom_45 : decode cX1_copyFrom 45 = .ok (.aload_n 1, 1) := by decide +kernel
theorem dX1_copyFrom_46 : decode cX1_copyFrom 46 = .ok (.getfield 18, 3) := by decide +kernel
theorem dX1_copyFrom_49 : decode cX1_copyFrom 49 = .ok (.iconst 0, 1) := by decide +kernel
theorem dX1_copyFrom_50 : decode cX1_copyFrom 50 = .ok (.aload_n 0, 1) := by decide +kernel
theorem dX1_copyFrom_51 : decode cX1_copyFrom 51 = .ok (.getfield 18, 3) := by decide +kernel
theorem dX1_copyFrom_54 : decode cX1_copyFrom 54 = .ok (.iconst 0, 1) := by decide +kernel
theorem dX1_copyFrom_55 : decode cX1_copyFrom 55 = .ok (.bipush 6, 2) := by decide +kernel
theorem dX1_copyFrom_57 : decode cX1_copyFrom 57 = .ok (.invokestatic 58, 3) := by decide +kernel
theorem dX1_copyFrom_60 : decode cX1_copyFrom 60 = .ok (.aload_n 1, 1) := by decide +kernel
theorem dX1_copyFrom_61 : decode cX1_copyFrom 61 = .ok (.getfield 21, 3) := by decide +kernel
theorem dX1_copyFrom_64 : decode cX1_copyFrom 64 = .ok (.iconst 0, 1) := by decide +kernel
theorem dX1_copyFrom_65 : decode cX1_copyFrom 65 = .ok (.aload_n 0, 1) := by decide +kernel
theorem dX1_copyFrom_66 : decode cX1_copyFrom 66 = .ok (.getfield 21, 3) := by decide +kernel
theorem dX1_copyFrom_69 : decode cX1_copyFrom 69 = .ok (.iconst 0, 1) := by decide +kernel
theorem dX1_copyFrom_70 : decode cX1_copyFrom 70 = .ok (.bipush 6, 2) := by decide +kernel
theorem dX1_copyFrom_72 : decode cX1_copyFrom 72 = .ok (.invokestatic 58, 3) := by decide +kernel
theorem dX1_copyFrom_75 : decode cX1_copyFrom 75 = .ok (.aload_n 1, 1) := by decide +kernel
theorem dX1_copyFrom_76 : decode cX1_copyFrom 76 = .ok (.getfield 24, 3) := by decide +kernel
theorem dX1_copyFrom_79 : decode cX1_copyFrom 79 = .ok (.iconst 0, 1) := by decide +kernel
theorem dX1_copyFrom_80 : decode cX1_copyFrom 80 = .ok (.aload_n 0, 1) := by decide +kernel
theorem dX1_copyFrom_81 : decode cX1_copyFrom 81 = .ok (.getfield 24, 3) := by decide +kernel
theorem dX1_copyFrom_84 : decode cX1_copyFrom 84 = .ok (.iconst 0, 1) := by decide +kernel
theorem dX1_copyFrom_85 : decode cX1_copyFrom 85 = .ok (.bipush 6, 2) := by decide +kernel
theorem dX1_copyFrom_87 : decode cX1_copyFrom 87 = .ok (.invokestatic 58, 3) := by decide +kernel
theorem dX1_copyFrom_90 : decode cX1_copyFrom 90 = .ok (.aload_n 1, 1) := by decide +kernel
theorem dX1_copyFrom_91 : decode cX1_copyFrom 91 = .ok (.getfield 27, 3) := by decide +kernel
theorem dX1_copyFrom_94 : decode cX1_copyFrom 94 = .ok (.iconst 0, 1) := by decide +kernel
theorem dX1_copyFrom_95 : decode cX1_copyFrom 95 = .ok (.aload_n 0, 1) := by decide +kernel
theorem dX1_copyFrom_96 : decode cX1_copyFrom 96 = .ok (.getfield 27, 3) := by decide +kernel
theorem dX1_copyFrom_99 : decode cX1_copyFrom 99 = .ok (.iconst 0, 1) := by decide +kernel
theorem dX1_copyFrom_100 : decode cX1_copyFrom 100 = .ok (.bipush 6, 2) := by decide +kernel
theorem dX1_copyFrom_102 : decode cX1_copyFrom 102 = .ok (.invokestatic 58, 3) := by decide +kernel
theorem dX1_copyFrom_105 : decode cX1_copyFrom 105 = .ok (.aload_n 1, 1) := by decide +kernel
theorem dX1_copyFrom_106 : decode cX1_copyFrom 106 = .ok (.getfield 30, 3) := by decide +kernel
theorem dX1_copyFrom_109 : decode cX1_copyFrom 109 = .ok (.iconst 0, 1) := by decide +kernel
theorem dX1_copyFrom_110 : decode cX1_copyFrom 110 = .ok (.aload_n 0, 1) := by decide +kernel
theorem dX1_copyFrom_111 : decode cX1_copyFrom 111 = .ok (.getfield 30, 3) := by decide +kernel
theorem dX1_copyFrom_114 : decode cX1_copyFrom 114 = .ok (.iconst 0, 1) := by decide +kernel
theorem dX1_copyFrom_115 : decode cX1_copyFrom 115 = .ok (.bipush 20, 2) := by decide +kernel
theorem dX1_copyFrom_117 : decode cX1_copyFrom 117 = .ok (.invokestatic 58, 3) := by decide +kernel
theorem dX1_copyFrom_120 : decode cX1_copyFrom 120 = .ok (.aload_n 1, 1) := by decide +kernel
theorem dX1_copyFrom_121 : decode cX1_copyFrom 121 = .ok (.getfield 33, 3) := by decide +kernel
theorem dX1_copyFrom_124 : decode cX1_copyFrom 124 = .ok (.iconst 0, 1) := by decide +kernel
theorem dX1_copyFrom_125 : decode cX1_copyFrom 125 = .ok (.aload_n 0, 1) := by decide +kernel
theorem dX1_copyFrom_126 : decode cX1_copyFrom 126 = .ok (.getfield 33, 3) := by decide +kernel
theorem dX1_copyFrom_129 : decode cX1_copyFrom 129 = .ok (.iconst 0, 1) := by decide +kernel
theorem dX1_copyFrom_130 : decode cX1_copyFrom 130 = .ok (.bipush 20, 2) := by decide +kernel
theorem dX1_copyFrom_132 : decode cX1_copyFrom 132 = .ok (.invokestatic 58, 3) := by decide +kernel
theorem dX1_copyFrom_135 : decode cX1_copyFrom 135 = .ok (.aload_n 1, 1) := by decide +kernel
theorem dX1_copyFrom_136 : decode cX1_copyFrom 136 = .ok (.getfield 37, 3) := by decide +kernel
theorem dX1_copyFrom_139 : decode cX1_copyFrom 139 = .ok (.iconst 0, 1) := by decide +kernel
theorem dX1_copyFrom_140 : decode cX1_copyFrom 140 = .ok (.aload_n 0, 1) := by decide +kernel
theorem dX1_copyFrom_141 : decode cX1_copyFrom 141 = .ok (.getfield 37, 3) := by decide +kernel
theorem dX1_copyFrom_144 : decode cX1_copyFrom 144 = .ok (.iconst 0, 1) := by decide +kernel
theorem dX1_copyFrom_145 : decode cX1_copyFrom 145 = .ok (.bipush 20, 2) := by decide +kernel
theorem dX1_copyFrom_147 : decode cX1_copyFrom 147 = .ok (.invokestatic 58, 3) := by decide +kernel
theorem dX1_copyFrom_150 : decode cX1_copyFrom 150 = .ok (.aload_n 1, 1) := by decide +kernel
theorem dX1_copyFrom_151 : decode cX1_copyFrom 151 = .ok (.getfield 40, 3) := by decide +kernel
theorem dX1_copyFrom_154 : decode cX1_copyFrom 154 = .ok (.iconst 0, 1) := by decide +kernel
theorem dX1_copyFrom_155 : decode cX1_copyFrom 155 = .ok (.aload_n 0, 1) := by decide +kernel
theorem dX1_copyFrom_156 : decode cX1_copyFrom 156 = .ok (.getfield 40, 3) := by decide +kernel
theorem dX1_copyFrom_159 : decode cX1_copyFrom 159 = .ok (.iconst 0, 1) := by decide +kernel
theorem dX1_copyFrom_160 : decode cX1_copyFrom 160 = .ok (.bipush 120, 2) := by decide +kernel
theorem dX1_copyFrom_162 : decode cX1_copyFrom 162 = .ok (.invokestatic 58, 3) := by decide +kernel
theorem dX1_copyFrom_165 : decode cX1_copyFrom 165 = .ok (.aload_n 0, 1) := by decide +kernel
theorem dX1_copyFrom_166 : decode cX1_copyFrom 166 = .ok (.aload_n 1, 1) := by decide +kernel
theorem dX1_copyFrom_167 : decode cX1_copyFrom 167 = .ok (.getfield 77, 3) := by decide +kernel
theorem dX1_copyFrom_170 : decode cX1_copyFrom 170 = .ok (.putfield 77, 3) := by decide +kernel
theorem dX1_copyFrom_173 : decode cX1_copyFrom 173 = .ok (.aload_n 1, 1) := by decide +kernel
theorem dX1_copyFrom_174 : decode cX1_copyFrom 174 = .ok (.getfield 43, 3) := by decide +kernel
theorem dX1_copyFrom_177 : decode cX1_copyFrom 177 = .ok (.iconst 0, 1) := by decide +kernel
theorem dX1_copyFrom_178 : decode cX1_copyFrom 178 = .ok (.aload_n 0, 1) := by decide +kernel
theorem dX1_copyFrom_179 : decode cX1_copyFrom 179 = .ok (.getfield 43, 3) := by decide +kernel
theorem dX1_copyFrom_182 : decode cX1_copyFrom 182 = .ok (.iconst 0, 1) := by decide +kernel
theorem dX1_copyFrom_183 : decode cX1_copyFrom 183 = .ok (.bipush 8, 2) := by decide +kernel
theorem dX1_copyFrom_185 : decode cX1_copyFrom 185 = .ok (.invokestatic 58, 3) := by decide +kernel
theorem dX1_copyFrom_188 : decode cX1_copyFrom 188 = .ok (.aload_n 1, 1) := by decide +kernel
theorem dX1_copyFrom_189 : decode cX1_copyFrom 189 = .ok (.getfield 46, 3) := by decide +kernel
theorem dX1_copyFrom_192 : decode cX1_copyFrom 192 = .ok (.iconst 0, 1) := by decide +kernel
theorem dX1_copyFrom_193 : decode cX1_copyFrom 193 = .ok (.aload_n 0, 1) := by decide +kernel
theorem dX1_copyFrom_194 : decode cX1_copyFrom 194 = .ok (.getfield 46, 3) := by decide +kernel
theorem dX1_copyFrom_197 : decode cX1_copyFrom 197 = .ok (.iconst 0, 1) := by decide +kernel
theorem dX1_copyFrom_198 : decode cX1_copyFrom 198 = .ok (.bipush 8, 2) := by decide +kernel
theorem dX1_copyFrom_200 : decode cX1_copyFrom 200 = .ok (.invokestatic 58, 3) := by decide +kernel
theorem dX1_copyFrom_203 : decode cX1_copyFrom 203 = .ok (.aload_n 1, 1) := by decide +kernel
theorem dX1_copyFrom_204 : decode cX1_copyFrom 204 = .ok (.getfield 49, 3) := by decide +kernel
theorem dX1_copyFrom_207 : decode cX1_copyFrom 207 = .ok (.iconst 0, 1) := by decide +kernel
theorem dX1_copyFrom_208 : decode cX1_copyFrom 208 = .ok (.aload_n 0, 1) := by decide +kernel
theorem dX1_copyFrom_209 : decode cX1_copyFrom 209 = .ok (.getfield 49, 3) := by decide +kernel
theorem dX1_copyFrom_212 : decode cX1_copyFrom 212 = .ok (.iconst 0, 1) := by decide +kernel
theorem dX1_copyFrom_213 : decode cX1_copyFrom 213 = .ok (.bipush 8, 2) := by decide +kernel
theorem dX1_copyFrom_215 : decode cX1_copyFrom 215 = .ok (.invokestatic 58, 3) := by decide +kernel
theorem dX1_copyFrom_218 : decode cX1_copyFrom 218 = .ok (.return_, 1) := by decide +kernel
theorem dX1_hasOwner_0 : decode cX1_hasOwner 0 = .ok (.iload_n 1, 1) := by decide +kernel
theorem dX1_hasOwner_1 : decode cX1_hasOwner 1 = .ok (.ifCond .lt 21, 3) := by decide +kernel
theorem dX1_hasOwner_4 : decode cX1_hasOwner 4 = .ok (.iload_n 1, 1) := by decide +kernel
theorem dX1_hasOwner_5 : decode cX1_hasOwner 5 = .ok (.aload_n 0, 1) := by decide +kernel
theorem dX1_hasOwner_6 : decode cX1_hasOwner 6 = .ok (.getfield 74, 3) := by decide +kernel
theorem dX1_hasOwner_9 : decode cX1_hasOwner 9 = .ok (.if_icmp .ge 13, 3) := by decide +kernel
theorem dX1_hasOwner_12 : decode cX1_hasOwner 12 = .ok (.iload_n 1, 1) := by decide +kernel
theorem dX1_hasOwner_13 : decode cX1_hasOwner 13 = .ok (.bipush 6, 2) := by decide +kernel
theorem dX1_hasOwner_15 : decode cX1_hasOwner 15 = .ok (.if_icmp .ge 7, 3) := by decide +kernel
theorem dX1_hasOwner_18 : decode cX1_hasOwner 18 = .ok (.iconst 1, 1) := by decide +kernel
theorem dX1_hasOwner_19 : decode cX1_hasOwner 19 = .ok (.goto 4, 3) := by decide +kernel
theorem dX1_hasOwner_22 : decode cX1_hasOwner 22 = .ok (.iconst 0, 1) := by decide +kernel
theorem dX1_hasOwner_23 : decode cX1_hasOwner 23 = .ok (.ireturn, 1) := by decide +kernel
theorem dX1_hasWeek_0 : decode cX1_hasWeek 0 = .ok (.iload_n 1, 1) := by decide +kernel
theorem dX1_hasWeek_1 : decode cX1_hasWeek 1 = .ok (.ifCond .lt 13, 3) := by decide +kernel
theorem dX1_hasWeek_4 : decode cX1_hasWeek 4 = .ok (.iload_n 1, 1) := by decide +kernel
theorem dX1_hasWeek_5 : decode cX1_hasWeek 5 = .ok (.bipush 20, 2) := by decide +kernel
theorem dX1_hasWeek_7 : decode cX1_hasWeek 7 = .ok (.if_icmp .ge 7, 3) := by decide +kernel
theorem dX1_hasWeek_10 : decode cX1_hasWeek 10 = .ok (.iconst 1, 1) := by decide +kernel
theorem dX1_hasWeek_11 : decode cX1_hasWeek 11 = .ok (.goto 4, 3) := by decide +kernel
theorem dX1_hasWeek_14 : decode cX1_hasWeek 14 = .ok (.iconst 0, 1) := by decide +kernel
theorem dX1_hasWeek_15 : decode cX1_hasWeek 15 = .ok (.ireturn, 1) := by decide +kernel
theorem dX1_hasOffer_0 : decode cX1_hasOffer 0 = .ok (.iload_n 1, 1) := by decide +kernel
theorem dX1_hasOffer_1 : decode cX1_hasOffer 1 = .ok (.ifCond .lt 21, 3) := by decide +kernel
theorem dX1_hasOffer_4 : decode cX1_hasOffer 4 = .ok (.iload_n 1, 1) := by decide +kernel
theorem dX1_hasOffer_5 : decode cX1_hasOffer 5 = .ok (.aload_n 0, 1) := by decide +kernel
theorem dX1_hasOffer_6 : decode cX1_hasOffer 6 = .ok (.getfield 77, 3) := by decide +kernel
theorem dX1_hasOffer_9 : decode cX1_hasOffer 9 = .ok (.if_icmp .ge 13, 3) := by decide +kernel
theorem dX1_hasOffer_12 : decode cX1_hasOffer 12 = .ok (.iload_n 1, 1) := by decide +kernel
theorem dX1_hasOffer_13 : decode cX1_hasOffer 13 = .ok (.bipush 8, 2) := by decide +kernel
theorem dX1_hasOffer_15 : decode cX1_hasOffer 15 = .ok (.if_icmp .ge 7, 3) := by decide +kernel
theorem dX1_hasOffer_18 : decode cX1_hasOffer 18 = .ok (.iconst 1, 1) := by decide +kernel
theorem dX1_hasOffer_19 : decode cX1_hasOffer 19 = .ok (.goto 4, 3) := by decide +kernel
theorem dX1_hasOffer_22 : decode cX1_hasOffer 22 = .ok (.iconst 0, 1) := by decide +kernel
theorem dX1_hasOffer_23 : decode cX1_hasOffer 23 = .ok (.ireturn, 1) := by decide +kernel
theorem dX1_holds_0 : decode cX1_holds 0 = .ok (.aload_n 0, 1) := by decide +kernel
theorem dX1_holds_1 : decode cX1_holds 1 = .ok (.iload_n 1, 1) := by decide +kernel
theorem dX1_holds_2 : decode cX1_holds 2 = .ok (.invokevirtual 80, 3) := by decide +kernel
theorem dX1_holds_5 : decode cX1_holds 5 = .ok (.ifCond .eq 25, 3) := by decide +kernel
theorem dX1_holds_8 : decode cX1_holds 8 = .ok (.aload_n 0, 1) := by decide +kernel
theorem dX1_holds_9 : decode cX1_holds 9 = .ok (.iload_n 2, 1) := by decide +kernel
theorem dX1_holds_10 : decode cX1_holds 10 = .ok (.invokevirtual 84, 3) := by decide +kernel
theorem dX1_holds_13 : decode cX1_holds 13 = .ok (.ifCond .eq 17, 3) := by decide +kernel
theorem dX1_holds_16 : decode cX1_holds 16 = .ok (.aload_n 0, 1) := by decide +kernel
theorem dX1_holds_17 : decode cX1_holds 17 = .ok (.getfield 37, 3) := by decide +kernel
theorem dX1_holds_20 : decode cX1_holds 20 = .ok (.iload_n 2, 1) := by decide +kernel
theorem dX1_holds_21 : decode cX1_holds 21 = .ok (.iaload, 1) := by decide +kernel
theorem dX1_holds_22 : decode cX1_holds 22 = .ok (.iload_n 1, 1) := by decide +kernel
theorem dX1_holds_23 : decode cX1_holds 23 = .ok (.if_icmp .ne 7, 3) := by decide +kernel
theorem dX1_holds_26 : decode cX1_holds 26 = .ok (.iconst 1, 1) := by decide +kernel
theorem dX1_holds_27 : decode cX1_holds 27 = .ok (.goto 4, 3) := by decide +kernel
theorem dX1_holds_30 : decode cX1_holds 30 = .ok (.iconst 0, 1) := by decide +kernel
theorem dX1_holds_31 : decode cX1_holds 31 = .ok (.ireturn, 1) := by decide +kernel
theorem dX1_isOpenForBids_0 : decode cX1_isOpenForBids 0 = .ok (.aload_n 0, 1) := by decide +kernel
theorem dX1_isOpenForBids_1 : decode cX1_isOpenForBids 1 = .ok (.iload_n 1, 1) := by decide +kernel
theorem dX1_isOpenForBids_2 : decode cX1_isOpenForBids 2 = .ok (.invokevirtual 84, 3) := by decide +kernel
theorem dX1_isOpenForBids_5 : decode cX1_isOpenForBids 5 = .ok (.ifCond .eq 26, 3) := by decide +kernel
theorem dX1_isOpenForBids_8 : decode cX1_isOpenForBids 8 = .ok (.aload_n 0, 1) := by decide +kernel
theorem dX1_isOpenForBids_9 : decode cX1_isOpenForBids 9 = .ok (.getfield 33, 3) := by decide +kernel
theorem dX1_isOpenForBids_12 : decode cX1_isOpenForBids 12 = .ok (.iload_n 1, 1) := by decide +kernel
theorem dX1_isOpenForBids_13 : decode cX1_isOpenForBids 13 = .ok (.baload, 1) := by decide +kernel
theorem dX1_isOpenForBids_14 : decode cX1_isOpenForBids 14 = .ok (.ifCond .eq 17, 3) := by decide +kernel
theorem dX1_isOpenForBids_17 : decode cX1_isOpenForBids 17 = .ok (.aload_n 0, 1) := by decide +kernel
theorem dX1_isOpenForBids_18 : decode cX1_isOpenForBids 18 = .ok (.getfield 37, 3) := by decide +kernel
theorem dX1_isOpenForBids_21 : decode cX1_isOpenForBids 21 = .ok (.iload_n 1, 1) := by decide +kernel
theorem dX1_isOpenForBids_22 : decode cX1_isOpenForBids 22 = .ok (.iaload, 1) := by decide +kernel
theorem dX1_isOpenForBids_23 : decode cX1_isOpenForBids 23 = .ok (.iconst (-1), 1) := by decide +kernel
theorem dX1_isOpenForBids_24 : decode cX1_isOpenForBids 24 = .ok (.if_icmp .ne 7, 3) := by decide +kernel
theorem dX1_isOpenForBids_27 : decode cX1_isOpenForBids 27 = .ok (.iconst 1, 1) := by decide +kernel
theorem dX1_isOpenForBids_28 : decode cX1_isOpenForBids 28 = .ok (.goto 4, 3) := by decide +kernel
theorem dX1_isOpenForBids_31 : decode cX1_isOpenForBids 31 = .ok (.iconst 0, 1) := by decide +kernel
theorem dX1_isOpenForBids_32 : decode cX1_isOpenForBids 32 = .ok (.ireturn, 1) := by decide +kernel
theorem dX1_weeksHeldBy_0 : decode cX1_weeksHeldBy 0 = .ok (.iconst 0, 1) := by decide +kernel
theorem dX1_weeksHeldBy_1 : decode cX1_weeksHeldBy 1 = .ok (.istore_n 2, 1) := by decide +kernel
theorem dX1_weeksHeldBy_2 : decode cX1_weeksHeldBy 2 = .ok (.iconst 0, 1) := by decide +kernel
theorem dX1_weeksHeldBy_3 : decode cX1_weeksHeldBy 3 = .ok (.istore_n 3, 1) := by decide +kernel
theorem dX1_weeksHeldBy_4 : decode cX1_weeksHeldBy 4 = .ok (.iload_n 3, 1) := by decide +kernel
theorem dX1_weeksHeldBy_5 : decode cX1_weeksHeldBy 5 = .ok (.bipush 20, 2) := by decide +kernel
theorem dX1_weeksHeldBy_7 : decode cX1_weeksHeldBy 7 = .ok (.if_icmp .ge 22, 3) := by decide +kernel
theorem dX1_weeksHeldBy_10 : decode cX1_weeksHeldBy 10 = .ok (.aload_n 0, 1) := by decide +kernel
theorem dX1_weeksHeldBy_11 : decode cX1_weeksHeldBy 11 = .ok (.getfield 37, 3) := by decide +kernel
theorem dX1_weeksHeldBy_14 : decode cX1_weeksHeldBy 14 = .ok (.iload_n 3, 1) := by decide +kernel
theorem dX1_weeksHeldBy_15 : decode cX1_weeksHeldBy 15 = .ok (.iaload, 1) := by decide +kernel
theorem dX1_weeksHeldBy_16 : decode cX1_weeksHeldBy 16 = .ok (.iload_n 1, 1) := by decide +kernel
theorem dX1_weeksHeldBy_17 : decode cX1_weeksHeldBy 17 = .ok (.if_icmp .ne 6, 3) := by decide +kernel
theorem dX1_weeksHeldBy_20 : decode cX1_weeksHeldBy 20 = .ok (.iinc 2 1, 3) := by decide +kernel
theorem dX1_weeksHeldBy_23 : decode cX1_weeksHeldBy 23 = .ok (.iinc 3 1, 3) := by decide +kernel
theorem dX1_weeksHeldBy_26 : decode cX1_weeksHeldBy 26 = .ok (.goto (-22), 3) := by decide +kernel
theorem dX1_weeksHeldBy_29 : decode cX1_weeksHeldBy 29 = .ok (.iload_n 2, 1) := by decide +kernel
theorem dX1_weeksHeldBy_30 : decode cX1_weeksHeldBy 30 = .ok (.ireturn, 1) := by decide +kernel
theorem dX1_lowestWeekHeldBy_0 : decode cX1_lowestWeekHeldBy 0 = .ok (.iconst 0, 1) := by decide +kernel
theorem dX1_lowestWeekHeldBy_1 : decode cX1_lowestWeekHeldBy 1 = .ok (.istore_n 2, 1) := by decide +kernel
theorem dX1_lowestWeekHeldBy_2 : decode cX1_lowestWeekHeldBy 2 = .ok (.iload_n 2, 1) := by decide +kernel
theorem dX1_lowestWeekHeldBy_3 : decode cX1_lowestWeekHeldBy 3 = .ok (.bipush 20, 2) := by decide +kernel
theorem dX1_lowestWeekHeldBy_5 : decode cX1_lowestWeekHeldBy 5 = .ok (.if_icmp .ge 21, 3) := by decide +kernel
theorem dX1_lowestWeekHeldBy_8 : decode cX1_lowestWeekHeldBy 8 = .ok (.aload_n 0, 1) := by decide +kernel
theorem dX1_lowestWeekHeldBy_9 : decode cX1_lowestWeekHeldBy 9 = .ok (.getfield 37, 3) := by decide +kernel
theorem dX1_lowestWeekHeldBy_12 : decode cX1_lowestWeekHeldBy 12 = .ok (.iload_n 2, 1) := by decide +kernel
theorem dX1_lowestWeekHeldBy_13 : decode cX1_lowestWeekHeldBy 13 = .ok (.iaload, 1) := by decide +kernel
theorem dX1_lowestWeekHeldBy_14 : decode cX1_lowestWeekHeldBy 14 = .ok (.iload_n 1, 1) := by decide +kernel
theorem dX1_lowestWeekHeldBy_15 : decode cX1_lowestWeekHeldBy 15 = .ok (.if_icmp .ne 5, 3) := by decide +kernel
theorem dX1_lowestWeekHeldBy_18 : decode cX1_lowestWeekHeldBy 18 = .ok (.iload_n 2, 1) := by decide +kernel
theorem dX1_lowestWeekHeldBy_19 : decode cX1_lowestWeekHeldBy 19 = .ok (.ireturn, 1) := by decide +kernel
theorem dX1_lowestWeekHeldBy_20 : decode cX1_lowestWeekHeldBy 20 = .ok (.iinc 2 1, 3) := by decide +kernel
theorem dX1_lowestWeekHeldBy_23 : decode cX1_lowestWeekHeldBy 23 = .ok (.goto (-21), 3) := by decide +kernel
theorem dX1_lowestWeekHeldBy_26 : decode cX1_lowestWeekHeldBy 26 = .ok (.iconst (-1), 1) := by decide +kernel
theorem dX1_lowestWeekHeldBy_27 : decode cX1_lowestWeekHeldBy 27 = .ok (.ireturn, 1) := by decide +kernel
theorem dX1_pointsOfAll_0 : decode cX1_pointsOfAll 0 = .ok (.iconst 0, 1) := by decide +kernel
theorem dX1_pointsOfAll_1 : decode cX1_pointsOfAll 1 = .ok (.istore_n 1, 1) := by decide +kernel
theorem dX1_pointsOfAll_2 : decode cX1_pointsOfAll 2 = .ok (.iconst 0, 1) := by decide +kernel
theorem dX1_pointsOfAll_3 : decode cX1_pointsOfAll 3 = .ok (.istore_n 2, 1) := by decide +kernel
theorem dX1_pointsOfAll_4 : decode cX1_pointsOfAll 4 = .ok (.iload_n 2, 1) := by decide +kernel
theorem dX1_pointsOfAll_5 : decode cX1_pointsOfAll 5 = .ok (.bipush 6, 2) := by decide +kernel
theorem dX1_pointsOfAll_7 : decode cX1_pointsOfAll 7 = .ok (.if_icmp .ge 18, 3) := by decide +kernel
theorem dX1_pointsOfAll_10 : decode cX1_pointsOfAll 10 = .ok (.iload_n 1, 1) := by decide +kernel
theorem dX1_pointsOfAll_11 : decode cX1_pointsOfAll 11 = .ok (.aload_n 0, 1) := by decide +kernel
theorem dX1_pointsOfAll_12 : decode cX1_pointsOfAll 12 = .ok (.getfield 21, 3) := by decide +kernel
theorem dX1_pointsOfAll_15 : decode cX1_pointsOfAll 15 = .ok (.iload_n 2, 1) := by decide +kernel
theorem dX1_pointsOfAll_16 : decode cX1_pointsOfAll 16 = .ok (.iaload, 1) := by decide +kernel
theorem dX1_pointsOfAll_17 : decode cX1_pointsOfAll 17 = .ok (.iadd, 1) := by decide +kernel
theorem dX1_pointsOfAll_18 : decode cX1_pointsOfAll 18 = .ok (.istore_n 1, 1) := by decide +kernel
theorem dX1_pointsOfAll_19 : decode cX1_pointsOfAll 19 = .ok (.iinc 2 1, 3) := by decide +kernel
theorem dX1_pointsOfAll_22 : decode cX1_pointsOfAll 22 = .ok (.goto (-18), 3) := by decide +kernel
theorem dX1_pointsOfAll_25 : decode cX1_pointsOfAll 25 = .ok (.iload_n 1, 1) := by decide +kernel
theorem dX1_pointsOfAll_26 : decode cX1_pointsOfAll 26 = .ok (.ireturn, 1) := by decide +kernel
theorem dX1_extraOf_0 : decode cX1_extraOf 0 = .ok (.iload_n 1, 1) := by decide +kernel
theorem dX1_extraOf_1 : decode cX1_extraOf 1 = .ok (.ifCond .lt 23, 3) := by decide +kernel
theorem dX1_extraOf_4 : decode cX1_extraOf 4 = .ok (.iload_n 1, 1) := by decide +kernel
theorem dX1_extraOf_5 : decode cX1_extraOf 5 = .ok (.bipush 6, 2) := by decide +kernel
theorem dX1_extraOf_7 : decode cX1_extraOf 7 = .ok (.if_icmp .ge 17, 3) := by decide +kernel
theorem dX1_extraOf_10 : decode cX1_extraOf 10 = .ok (.iload_n 2, 1) := by decide +kernel
theorem dX1_extraOf_11 : decode cX1_extraOf 11 = .ok (.ifCond .lt 13, 3) := by decide +kernel
theorem dX1_extraOf_14 : decode cX1_extraOf 14 = .ok (.iload_n 2, 1) := by decide +kernel
theorem dX1_extraOf_15 : decode cX1_extraOf 15 = .ok (.bipush 20, 2) := by decide +kernel
theorem dX1_extraOf_17 : decode cX1_extraOf 17 = .ok (.if_icmp .ge 7, 3) := by decide +kernel
theorem dX1_extraOf_20 : decode cX1_extraOf 20 = .ok (.iconst 1, 1) := by decide +kernel
theorem dX1_extraOf_21 : decode cX1_extraOf 21 = .ok (.goto 4, 3) := by decide +kernel
theorem dX1_extraOf_24 : decode cX1_extraOf 24 = .ok (.iconst 0, 1) := by decide +kernel
theorem dX1_extraOf_25 : decode cX1_extraOf 25 = .ok (.istore_n 3, 1) := by decide +kernel
theorem dX1_extraOf_26 : decode cX1_extraOf 26 = .ok (.iload_n 3, 1) := by decide +kernel
theorem dX1_extraOf_27 : decode cX1_extraOf 27 = .ok (.ifCond .eq 17, 3) := by decide +kernel
theorem dX1_extraOf_30 : decode cX1_extraOf 30 = .ok (.aload_n 0, 1) := by decide +kernel
theorem dX1_extraOf_31 : decode cX1_extraOf 31 = .ok (.getfield 40, 3) := by decide +kernel
theorem dX1_extraOf_34 : decode cX1_extraOf 34 = .ok (.iload_n 1, 1) := by decide +kernel
theorem dX1_extraOf_35 : decode cX1_extraOf 35 = .ok (.bipush 20, 2) := by decide +kernel
theorem dX1_extraOf_37 : decode cX1_extraOf 37 = .ok (.imul, 1) := by decide +kernel
theorem dX1_extraOf_38 : decode cX1_extraOf 38 = .ok (.iload_n 2, 1) := by decide +kernel
theorem dX1_extraOf_39 : decode cX1_extraOf 39 = .ok (.iadd, 1) := by decide +kernel
theorem dX1_extraOf_40 : decode cX1_extraOf 40 = .ok (.iaload, 1) := by decide +kernel
theorem dX1_extraOf_41 : decode cX1_extraOf 41 = .ok (.goto 4, 3) := by decide +kernel
theorem dX1_extraOf_44 : decode cX1_extraOf 44 = .ok (.iconst (-1), 1) := by decide +kernel
theorem dX1_extraOf_45 : decode cX1_extraOf 45 = .ok (.ireturn, 1) := by decide +kernel
theorem dX1_bidsBy_0 : decode cX1_bidsBy 0 = .ok (.iconst 0, 1) := by decide +kernel
theorem dX1_bidsBy_1 : decode cX1_bidsBy 1 = .ok (.istore_n 2, 1) := by decide +kernel
theorem dX1_bidsBy_2 : decode cX1_bidsBy 2 = .ok (.iconst 0, 1) := by decide +kernel
theorem dX1_bidsBy_3 : decode cX1_bidsBy 3 = .ok (.istore_n 3, 1) := by decide +kernel
theorem dX1_bidsBy_4 : decode cX1_bidsBy 4 = .ok (.iload_n 3, 1) := by decide +kernel
theorem dX1_bidsBy_5 : decode cX1_bidsBy 5 = .ok (.bipush 20, 2) := by decide +kernel
theorem dX1_bidsBy_7 : decode cX1_bidsBy 7 = .ok (.if_icmp .ge 22, 3) := by decide +kernel
theorem dX1_bidsBy_10 : decode cX1_bidsBy 10 = .ok (.aload_n 0, 1) := by decide +kernel
theorem dX1_bidsBy_11 : decode cX1_bidsBy 11 = .ok (.iload_n 1, 1) := by decide +kernel
theorem dX1_bidsBy_12 : decode cX1_bidsBy 12 = .ok (.iload_n 3, 1) := by decide +kernel
theorem dX1_bidsBy_13 : decode cX1_bidsBy 13 = .ok (.invokevirtual 87, 3) := by decide +kernel
theorem dX1_bidsBy_16 : decode cX1_bidsBy 16 = .ok (.iconst (-1), 1) := by decide +kernel
theorem dX1_bidsBy_17 : decode cX1_bidsBy 17 = .ok (.if_icmp .eq 6, 3) := by decide +kernel
theorem dX1_bidsBy_20 : decode cX1_bidsBy 20 = .ok (.iinc 2 1, 3) := by decide +kernel
theorem dX1_bidsBy_23 : decode cX1_bidsBy 23 = .ok (.iinc 3 1, 3) := by decide +kernel
theorem dX1_bidsBy_26 : decode cX1_bidsBy 26 = .ok (.goto (-22), 3) := by decide +kernel
theorem dX1_bidsBy_29 : decode cX1_bidsBy 29 = .ok (.iload_n 2, 1) := by decide +kernel
theorem dX1_bidsBy_30 : decode cX1_bidsBy 30 = .ok (.ireturn, 1) := by decide +kernel
theorem dX1_bidsFor_0 : decode cX1_bidsFor 0 = .ok (.iconst 0, 1) := by decide +kernel
theorem dX1_bidsFor_1 : decode cX1_bidsFor 1 = .ok (.istore_n 2, 1) := by decide +kernel
theorem dX1_bidsFor_2 : decode cX1_bidsFor 2 = .ok (.iconst 0, 1) := by decide +kernel
theorem dX1_bidsFor_3 : decode cX1_bidsFor 3 = .ok (.istore_n 3, 1) := by decide +kernel
theorem dX1_bidsFor_4 : decode cX1_bidsFor 4 = .ok (.iload_n 3, 1) := by decide +kernel
theorem dX1_bidsFor_5 : decode cX1_bidsFor 5 = .ok (.bipush 6, 2) := by decide +kernel
theorem dX1_bidsFor_7 : decode cX1_bidsFor 7 = .ok (.if_icmp .ge 22, 3) := by decide +kernel
theorem dX1_bidsFor_10 : decode cX1_bidsFor 10 = .ok (.aload_n 0, 1) := by decide +kernel
theorem dX1_bidsFor_11 : decode cX1_bidsFor 11 = .ok (.iload_n 3, 1) := by decide +kernel
theorem dX1_bidsFor_12 : decode cX1_bidsFor 12 = .ok (.iload_n 1, 1) := by decide +kernel
theorem dX1_bidsFor_13 : decode cX1_bidsFor 13 = .ok (.invokevirtual 87, 3) := by decide +kernel
theorem dX1_bidsFor_16 : decode cX1_bidsFor 16 = .ok (.iconst (-1), 1) := by decide +kernel
theorem dX1_bidsFor_17 : decode cX1_bidsFor 17 = .ok (.if_icmp .eq 6, 3) := by decide +kernel
theorem dX1_bidsFor_20 : decode cX1_bidsFor 20 = .ok (.iinc 2 1, 3) := by decide +kernel
theorem dX1_bidsFor_23 : decode cX1_bidsFor 23 = .ok (.iinc 3 1, 3) := by decide +kernel
theorem dX1_bidsFor_26 : decode cX1_bidsFor 26 = .ok (.goto (-22), 3) := by decide +kernel
theorem dX1_bidsFor_29 : decode cX1_bidsFor 29 = .ok (.iload_n 2, 1) := by decide +kernel
theorem dX1_bidsFor_30 : decode cX1_bidsFor 30 = .ok (.ireturn, 1) := by decide +kernel
theorem dX1_bidsOfAll_0 : decode cX1_bidsOfAll 0 = .ok (.iconst 0, 1) := by decide +kernel
theorem dX1_bidsOfAll_1 : decode cX1_bidsOfAll 1 = .ok (.istore_n 1, 1) := by decide +kernel
theorem dX1_bidsOfAll_2 : decode cX1_bidsOfAll 2 = .ok (.iconst 0, 1) := by decide +kernel
theorem dX1_bidsOfAll_3 : decode cX1_bidsOfAll 3 = .ok (.istore_n 2, 1) := by decide +kernel
theorem dX1_bidsOfAll_4 : decode cX1_bidsOfAll 4 = .ok (.iload_n 2, 1) := by decide +kernel
theorem dX1_bidsOfAll_5 : decode cX1_bidsOfAll 5 = .ok (.bipush 6, 2) := by decide +kernel
theorem dX1_bidsOfAll_7 : decode cX1_bidsOfAll 7 = .ok (.if_icmp .ge 17, 3) := by decide +kernel
theorem dX1_bidsOfAll_10 : decode cX1_bidsOfAll 10 = .ok (.iload_n 1, 1) := by decide +kernel
theorem dX1_bidsOfAll_11 : decode cX1_bidsOfAll 11 = .ok (.aload_n 0, 1) := by decide +kernel
theorem dX1_bidsOfAll_12 : decode cX1_bidsOfAll 12 = .ok (.iload_n 2, 1) := by decide +kernel
theorem dX1_bidsOfAll_13 : decode cX1_bidsOfAll 13 = .ok (.invokevirtual 91, 3) := by decide +kernel
theorem dX1_bidsOfAll_16 : decode cX1_bidsOfAll 16 = .ok (.iadd, 1) := by decide +kernel
theorem dX1_bidsOfAll_17 : decode cX1_bidsOfAll 17 = .ok (.istore_n 1, 1) := by decide +kernel
theorem dX1_bidsOfAll_18 : decode cX1_bidsOfAll 18 = .ok (.iinc 2 1, 3) := by decide +kernel
theorem dX1_bidsOfAll_21 : decode cX1_bidsOfAll 21 = .ok (.goto (-17), 3) := by decide +kernel
theorem dX1_bidsOfAll_24 : decode cX1_bidsOfAll 24 = .ok (.iload_n 1, 1) := by decide +kernel
theorem dX1_bidsOfAll_25 : decode cX1_bidsOfAll 25 = .ok (.ireturn, 1) := by decide +kernel
theorem dX1_greatestExtraFor_0 : decode cX1_greatestExtraFor 0 = .ok (.iconst (-1), 1) := by decide +kernel
theorem dX1_greatestExtraFor_1 : decode cX1_greatestExtraFor 1 = .ok (.istore_n 2, 1) := by decide +kernel
theorem dX1_greatestExtraFor_2 : decode cX1_greatestExtraFor 2 = .ok (.iconst 0, 1) := by decide +kernel
theorem dX1_greatestExtraFor_3 : decode cX1_greatestExtraFor 3 = .ok (.istore_n 3, 1) := by decide +kernel
theorem dX1_greatestExtraFor_4 : decode cX1_greatestExtraFor 4 = .ok (.iload_n 3, 1) := by decide +kernel
theorem dX1_greatestExtraFor_5 : decode cX1_greatestExtraFor 5 = .ok (.bipush 6, 2) := by decide +kernel
theorem dX1_greatestExtraFor_7 : decode cX1_greatestExtraFor 7 = .ok (.if_icmp .ge 20, 3) := by decide +kernel
theorem dX1_greatestExtraFor_10 : decode cX1_greatestExtraFor 10 = .ok (.iload_n 2, 1) := by decide +kernel
theorem dX1_greatestExtraFor_11 : decode cX1_greatestExtraFor 11 = .ok (.aload_n 0, 1) := by decide +kernel
theorem dX1_greatestExtraFor_12 : decode cX1_greatestExtraFor 12 = .ok (.iload_n 3, 1) := by decide +kernel
theorem dX1_greatestExtraFor_13 : decode cX1_greatestExtraFor 13 = .ok (.iload_n 1, 1) := by decide +kernel
theorem dX1_greatestExtraFor_14 : decode cX1_greatestExtraFor 14 = .ok (.invokevirtual 87, 3) := by decide +kernel
theorem dX1_greatestExtraFor_17 : decode cX1_greatestExtraFor 17 = .ok (.invokestatic 95, 3) := by decide +kernel
theorem dX1_greatestExtraFor_20 : decode cX1_greatestExtraFor 20 = .ok (.istore_n 2, 1) := by decide +kernel
theorem dX1_greatestExtraFor_21 : decode cX1_greatestExtraFor 21 = .ok (.iinc 3 1, 3) := by decide +kernel
theorem dX1_greatestExtraFor_24 : decode cX1_greatestExtraFor 24 = .ok (.goto (-20), 3) := by decide +kernel
theorem dX1_greatestExtraFor_27 : decode cX1_greatestExtraFor 27 = .ok (.iload_n 2, 1) := by decide +kernel
theorem dX1_greatestExtraFor_28 : decode cX1_greatestExtraFor 28 = .ok (.ireturn, 1) := by decide +kernel
theorem dX1_addOwner_0 : decode cX1_addOwner 0 = .ok (.iload_n 1, 1) := by decide +kernel
theorem dX1_addOwner_1 : decode cX1_addOwner 1 = .ok (.iconst 1, 1) := by decide +kernel
theorem dX1_addOwner_2 : decode cX1_addOwner 2 = .ok (.if_icmp .lt 18, 3) := by decide +kernel
theorem dX1_addOwner_5 : decode cX1_addOwner 5 = .ok (.iload_n 1, 1) := by decide +kernel
theorem dX1_addOwner_6 : decode cX1_addOwner 6 = .ok (.bipush 9, 2) := by decide +kernel
theorem dX1_addOwner_8 : decode cX1_addOwner 8 = .ok (.if_icmp .gt 12, 3) := by decide +kernel
theorem dX1_addOwner_11 : decode cX1_addOwner 11 = .ok (.aload_n 0, 1) := by decide +kernel
theorem dX1_addOwner_12 : decode cX1_addOwner 12 = .ok (.getfield 74, 3) := by decide +kernel
theorem dX1_addOwner_15 : decode cX1_addOwner 15 = .ok (.bipush 6, 2) := by decide +kernel
theorem dX1_addOwner_17 : decode cX1_addOwner 17 = .ok (.if_icmp .lt 6, 3) := by decide +kernel
theorem dX1_addOwner_20 : decode cX1_addOwner 20 = .ok (.bipush (-2), 2) := by decide +kernel
theorem dX1_addOwner_22 : decode cX1_addOwner 22 = .ok (.ireturn, 1) := by decide +kernel
theorem dX1_addOwner_23 : decode cX1_addOwner 23 = .ok (.aload_n 0, 1) := by decide +kernel
theorem dX1_addOwner_24 : decode cX1_addOwner 24 = .ok (.getfield 74, 3) := by decide +kernel
theorem dX1_addOwner_27 : decode cX1_addOwner 27 = .ok (.istore_n 2, 1) := by decide +kernel
theorem dX1_addOwner_28 : decode cX1_addOwner 28 = .ok (.aload_n 0, 1) := by decide +kernel
theorem dX1_addOwner_29 : decode cX1_addOwner 29 = .ok (.dup, 1) := by decide +kernel
theorem dX1_addOwner_30 : decode cX1_addOwner 30 = .ok (.getfield 74, 3) := by decide +kernel
theorem dX1_addOwner_33 : decode cX1_addOwner 33 = .ok (.iconst 1, 1) := by decide +kernel
theorem dX1_addOwner_34 : decode cX1_addOwner 34 = .ok (.iadd, 1) := by decide +kernel
theorem dX1_addOwner_35 : decode cX1_addOwner 35 = .ok (.putfield 74, 3) := by decide +kernel
theorem dX1_addOwner_38 : decode cX1_addOwner 38 = .ok (.aload_n 0, 1) := by decide +kernel
theorem dX1_addOwner_39 : decode cX1_addOwner 39 = .ok (.getfield 18, 3) := by decide +kernel
theorem dX1_addOwner_42 : decode cX1_addOwner 42 = .ok (.iload_n 2, 1) := by decide +kernel
theorem dX1_addOwner_43 : decode cX1_addOwner 43 = .ok (.iload_n 1, 1) := by decide +kernel
theorem dX1_addOwner_44 : decode cX1_addOwner 44 = .ok (.iastore, 1) := by decide +kernel
theorem dX1_addOwner_45 : decode cX1_addOwner 45 = .ok (.aload_n 0, 1) := by decide +kernel
theorem dX1_addOwner_46 : decode cX1_addOwner 46 = .ok (.iload_n 2, 1) := by decide +kernel
theorem dX1_addOwner_47 : decode cX1_addOwner 47 = .ok (.invokevirtual 100, 3) := by decide +kernel
theorem dX1_addOwner_50 : decode cX1_addOwner 50 = .ok (.iload_n 2, 1) := by decide +kernel
theorem dX1_addOwner_51 : decode cX1_addOwner 51 = .ok (.ireturn, 1) := by decide +kernel
theorem dX1_givePoints_0 : decode cX1_givePoints 0 = .ok (.aload_n 0, 1) := by decide +kernel
theorem dX1_givePoints_1 : decode cX1_givePoints 1 = .ok (.getfield 9, 3) := by decide +kernel
theorem dX1_givePoints_4 : decode cX1_givePoints 4 = .ok (.iconst 0, 1) := by decide +kernel
theorem dX1_givePoints_5 : decode cX1_givePoints 5 = .ok (.iaload, 1) := by decide +kernel
theorem dX1_givePoints_6 : decode cX1_givePoints 6 = .ok (.aload_n 0, 1) := by decide +kernel
theorem dX1_givePoints_7 : decode cX1_givePoints 7 = .ok (.getfield 18, 3) := by decide +kernel
theorem dX1_givePoints_10 : decode cX1_givePoints 10 = .ok (.iload_n 1, 1) := by decide +kernel
theorem dX1_givePoints_11 : decode cX1_givePoints 11 = .ok (.iaload, 1) := by decide +kernel
theorem dX1_givePoints_12 : decode cX1_givePoints 12 = .ok (.imul, 1) := by decide +kernel
theorem dX1_givePoints_13 : decode cX1_givePoints 13 = .ok (.istore_n 2, 1) := by decide +kernel
theorem dX1_givePoints_14 : decode cX1_givePoints 14 = .ok (.aload_n 0, 1) := by decide +kernel
theorem dX1_givePoints_15 : decode cX1_givePoints 15 = .ok (.getfield 21, 3) := by decide +kernel
theorem dX1_givePoints_18 : decode cX1_givePoints 18 = .ok (.iload_n 1, 1) := by decide +kernel
theorem dX1_givePoints_19 : decode cX1_givePoints 19 = .ok (.dup2, 1) := by decide +kernel
theorem dX1_givePoints_20 : decode cX1_givePoints 20 = .ok (.iaload, 1) := by decide +kernel
theorem dX1_givePoints_21 : decode cX1_givePoints 21 = .ok (.iload_n 2, 1) := by decide +kernel
theorem dX1_givePoints_22 : decode cX1_givePoints 22 = .ok (.iadd, 1) := by decide +kernel
theorem dX1_givePoints_23 : decode cX1_givePoints 23 = .ok (.iastore, 1) := by decide +kernel
theorem dX1_givePoints_24 : decode cX1_givePoints 24 = .ok (.aload_n 0, 1) := by decide +kernel
theorem dX1_givePoints_25 : decode cX1_givePoints 25 = .ok (.getfield 15, 3) := by decide +kernel
theorem dX1_givePoints_28 : decode cX1_givePoints 28 = .ok (.iconst 0, 1) := by decide +kernel
theorem dX1_givePoints_29 : decode cX1_givePoints 29 = .ok (.dup2, 1) := by decide +kernel
theorem dX1_givePoints_30 : decode cX1_givePoints 30 = .ok (.iaload, 1) := by decide +kernel
theorem dX1_givePoints_31 : decode cX1_givePoints 31 = .ok (.iload_n 2, 1) := by decide +kernel
theorem dX1_givePoints_32 : decode cX1_givePoints 32 = .ok (.iadd, 1) := by decide +kernel
theorem dX1_givePoints_33 : decode cX1_givePoints 33 = .ok (.iastore, 1) := by decide +kernel
theorem dX1_givePoints_34 : decode cX1_givePoints 34 = .ok (.return_, 1) := by decide +kernel
theorem dX1_spendPoints_0 : decode cX1_spendPoints 0 = .ok (.aload_n 0, 1) := by decide +kernel
theorem dX1_spendPoints_1 : decode cX1_spendPoints 1 = .ok (.getfield 21, 3) := by decide +kernel
theorem dX1_spendPoints_4 : decode cX1_spendPoints 4 = .ok (.iload_n 1, 1) := by decide +kernel
theorem dX1_spendPoints_5 : decode cX1_spendPoints 5 = .ok (.dup2, 1) := by decide +kernel
theorem dX1_spendPoints_6 : decode cX1_spendPoints 6 = .ok (.iaload, 1) := by decide +kernel
theorem dX1_spendPoints_7 : decode cX1_spendPoints 7 = .ok (.iload_n 2, 1) := by decide +kernel
theorem dX1_spendPoints_8 : decode cX1_spendPoints 8 = .ok (.isub, 1) := by decide +kernel
theorem dX1_spendPoints_9 : decode cX1_spendPoints 9 = .ok (.iastore, 1) := by decide +kernel
theorem dX1_spendPoints_10 : decode cX1_spendPoints 10 = .ok (.aload_n 0, 1) := by decide +kernel
theorem dX1_spendPoints_11 : decode cX1_spendPoints 11 = .ok (.getfield 15, 3) := by decide +kernel
theorem dX1_spendPoints_14 : decode cX1_spendPoints 14 = .ok (.iconst 1, 1) := by decide +kernel
theorem dX1_spendPoints_15 : decode cX1_spendPoints 15 = .ok (.dup2, 1) := by decide +kernel
theorem dX1_spendPoints_16 : decode cX1_spendPoints 16 = .ok (.iaload, 1) := by decide +kernel
theorem dX1_spendPoints_17 : decode cX1_spendPoints 17 = .ok (.iload_n 2, 1) := by decide +kernel
theorem dX1_spendPoints_18 : decode cX1_spendPoints 18 = .ok (.iadd, 1) := by decide +kernel
theorem dX1_spendPoints_19 : decode cX1_spendPoints 19 = .ok (.iastore, 1) := by decide +kernel
theorem dX1_spendPoints_20 : decode cX1_spendPoints 20 = .ok (.return_, 1) := by decide +kernel
theorem dX1_changeCost_0 : decode cX1_changeCost 0 = .ok (.aload_n 0, 1) := by decide +kernel
theorem dX1_changeCost_1 : decode cX1_changeCost 1 = .ok (.iload_n 1, 1) := by decide +kernel
theorem dX1_changeCost_2 : decode cX1_changeCost 2 = .ok (.invokevirtual 84, 3) := by decide +kernel
theorem dX1_changeCost_5 : decode cX1_changeCost 5 = .ok (.ifCond .eq 14, 3) := by decide +kernel
theorem dX1_changeCost_8 : decode cX1_changeCost 8 = .ok (.iload_n 2, 1) := by decide +kernel
theorem dX1_changeCost_9 : decode cX1_changeCost 9 = .ok (.iconst 1, 1) := by decide +kernel
theorem dX1_changeCost_10 : decode cX1_changeCost 10 = .ok (.if_icmp .lt 9, 3) := by decide +kernel
theorem dX1_changeCost_13 : decode cX1_changeCost 13 = .ok (.iload_n 2, 1) := by decide +kernel
theorem dX1_changeCost_14 : decode cX1_changeCost 14 = .ok (.bipush 9, 2) := by decide +kernel
theorem dX1_changeCost_16 : decode cX1_changeCost 16 = .ok (.if_icmp .le 6, 3) := by decide +kernel
theorem dX1_changeCost_19 : decode cX1_changeCost 19 = .ok (.bipush (-2), 2) := by decide +kernel
theorem dX1_changeCost_21 : decode cX1_changeCost 21 = .ok (.ireturn, 1) := by decide +kernel
theorem dX1_changeCost_22 : decode cX1_changeCost 22 = .ok (.aload_n 0, 1) := by decide +kernel
theorem dX1_changeCost_23 : decode cX1_changeCost 23 = .ok (.getfield 30, 3) := by decide +kernel
theorem dX1_changeCost_26 : decode cX1_changeCost 26 = .ok (.iload_n 1, 1) := by decide +kernel
theorem dX1_changeCost_27 : decode cX1_changeCost 27 = .ok (.iaload, 1) := by decide +kernel
theorem dX1_changeCost_28 : decode cX1_changeCost 28 = .ok (.istore_n 3, 1) := by decide +kernel
theorem dX1_changeCost_29 : decode cX1_changeCost 29 = .ok (.aload_n 0, 1) := by decide +kernel
theorem dX1_changeCost_30 : decode cX1_changeCost 30 = .ok (.getfield 30, 3) := by decide +kernel
theorem dX1_changeCost_33 : decode cX1_changeCost 33 = .ok (.iload_n 1, 1) := by decide +kernel
theorem dX1_changeCost_34 : decode cX1_changeCost 34 = .ok (.iload_n 2, 1) := by decide +kernel
theorem dX1_changeCost_35 : decode cX1_changeCost 35 = .ok (.iastore, 1) := by decide +kernel
theorem dX1_changeCost_36 : decode cX1_changeCost 36 = .ok (.iload_n 3, 1) := by decide +kernel
theorem dX1_changeCost_37 : decode cX1_changeCost 37 = .ok (.ireturn, 1) := by decide +kernel
theorem dX1_markSchool_0 : decode cX1_markSchool 0 = .ok (.aload_n 0, 1) := by decide +kernel
theorem dX1_markSchool_1 : decode cX1_markSchool 1 = .ok (.iload_n 1, 1) := by decide +kernel
theorem dX1_markSchool_2 : decode cX1_markSchool 2 = .ok (.invokevirtual 84, 3) := by decide +kernel
theorem dX1_markSchool_5 : decode cX1_markSchool 5 = .ok (.ifCond .ne 6, 3) := by decide +kernel
theorem dX1_markSchool_8 : decode cX1_markSchool 8 = .ok (.bipush (-2), 2) := by decide +kernel
theorem dX1_markSchool_10 : decode cX1_markSchool 10 = .ok (.ireturn, 1) := by decide +kernel
theorem dX1_markSchool_11 : decode cX1_markSchool 11 = .ok (.aload_n 0, 1) := by decide +kernel
theorem dX1_markSchool_12 : decode cX1_markSchool 12 = .ok (.getfield 33, 3) := by decide +kernel
theorem dX1_markSchool_15 : decode cX1_markSchool 15 = .ok (.iload_n 1, 1) := by decide +kernel
theorem dX1_markSchool_16 : decode cX1_markSchool 16 = .ok (.iload_n 2, 1) := by decide +kernel
theorem dX1_markSchool_17 : decode cX1_markSchool 17 = .ok (.bastore, 1) := by decide +kernel
theorem dX1_markSchool_18 : decode cX1_markSchool 18 = .ok (.iconst 0, 1) := by decide +kernel
theorem dX1_markSchool_19 : decode cX1_markSchool 19 = .ok (.istore_n 3, 1) := by decide +kernel
theorem dX1_markSchool_20 : decode cX1_markSchool 20 = .ok (.iconst 0, 1) := by decide +kernel
theorem dX1_markSchool_21 : decode cX1_markSchool 21 = .ok (.istore 4, 2) := by decide +kernel
theorem dX1_markSchool_23 : decode cX1_markSchool 23 = .ok (.iload 4, 2) := by decide +kernel
theorem dX1_markSchool_25 : decode cX1_markSchool 25 = .ok (.bipush 20, 2) := by decide +kernel
theorem dX1_markSchool_27 : decode cX1_markSchool 27 = .ok (.if_icmp .ge 22, 3) := by decide +kernel
theorem dX1_markSchool_30 : decode cX1_markSchool 30 = .ok (.aload_n 0, 1) := by decide +kernel
theorem dX1_markSchool_31 : decode cX1_markSchool 31 = .ok (.getfield 33, 3) := by decide +kernel
theorem dX1_markSchool_34 : decode cX1_markSchool 34 = .ok (.iload 4, 2) := by decide +kernel
theorem dX1_markSchool_36 : decode cX1_markSchool 36 = .ok (.baload, 1) := by decide +kernel
theorem dX1_markSchool_37 : decode cX1_markSchool 37 = .ok (.ifCond .eq 6, 3) := by decide +kernel
theorem dX1_markSchool_40 : decode cX1_markSchool 40 = .ok (.iinc 3 1, 3) := by decide +kernel
theorem dX1_markSchool_43 : decode cX1_markSchool 43 = .ok (.iinc 4 1, 3) := by decide +kernel
theorem dX1_markSchool_46 : decode cX1_markSchool 46 = .ok (.goto (-23), 3) := by decide +kernel
theorem dX1_markSchool_49 : decode cX1_markSchool 49 = .ok (.iload_n 3, 1) := by decide +kernel
theorem dX1_markSchool_50 : decode cX1_markSchool 50 = .ok (.ireturn, 1) := by decide +kernel
theorem dX1_reasonAgainst_0 : decode cX1_reasonAgainst 0 = .ok (.aload_n 0, 1) := by decide +kernel
theorem dX1_reasonAgainst_1 : decode cX1_reasonAgainst 1 = .ok (.iload_n 1, 1) := by decide +kernel
theorem dX1_reasonAgainst_2 : decode cX1_reasonAgainst 2 = .ok (.invokevirtual 80, 3) := by decide +kernel
theorem dX1_reasonAgainst_5 : decode cX1_reasonAgainst 5 = .ok (.ifCond .eq 11, 3) := by decide +kernel
theorem dX1_reasonAgainst_8 : decode cX1_reasonAgainst 8 = .ok (.aload_n 0, 1) := by decide +kernel
theorem dX1_reasonAgainst_9 : decode cX1_reasonAgainst 9 = .ok (.iload_n 2, 1) := by decide +kernel
theorem dX1_reasonAgainst_10 : decode cX1_reasonAgainst 10 = .ok (.invokevirtual 84, 3) := by decide +kernel
theorem dX1_reasonAgainst_13 : decode cX1_reasonAgainst 13 = .ok (.ifCond .ne 6, 3) := by decide +kernel
theorem dX1_reasonAgainst_16 : decode cX1_reasonAgainst 16 = .ok (.bipush (-2), 2) := by decide +kernel
theorem dX1_reasonAgainst_18 : decode cX1_reasonAgainst 18 = .ok (.ireturn, 1) := by decide +kernel
theorem dX1_reasonAgainst_19 : decode cX1_reasonAgainst 19 = .ok (.aload_n 0, 1) := by decide +kernel
theorem dX1_reasonAgainst_20 : decode cX1_reasonAgainst 20 = .ok (.getfield 33, 3) := by decide +kernel
theorem dX1_reasonAgainst_23 : decode cX1_reasonAgainst 23 = .ok (.iload_n 2, 1) := by decide +kernel
theorem dX1_reasonAgainst_24 : decode cX1_reasonAgainst 24 = .ok (.baload, 1) := by decide +kernel
theorem dX1_reasonAgainst_25 : decode cX1_reasonAgainst 25 = .ok (.ifCond .eq 5, 3) := by decide +kernel
theorem dX1_reasonAgainst_28 : decode cX1_reasonAgainst 28 = .ok (.iconst 1, 1) := by decide +kernel
theorem dX1_reasonAgainst_29 : decode cX1_reasonAgainst 29 = .ok (.ireturn, 1) := by decide +kernel
theorem dX1_reasonAgainst_30 : decode cX1_reasonAgainst 30 = .ok (.aload_n 0, 1) := by decide +kernel
theorem dX1_reasonAgainst_31 : decode cX1_reasonAgainst 31 = .ok (.getfield 37, 3) := by decide +kernel
theorem dX1_reasonAgainst_34 : decode cX1_reasonAgainst 34 = .ok (.iload_n 2, 1) := by decide +kernel
theorem dX1_reasonAgainst_35 : decode cX1_reasonAgainst 35 = .ok (.iaload, 1) := by decide +kernel
theorem dX1_reasonAgainst_36 : decode cX1_reasonAgainst 36 = .ok (.iconst (-1), 1) := by decide +kernel
theorem dX1_reasonAgainst_37 : decode cX1_reasonAgainst 37 = .ok (.if_icmp .eq 5, 3) := by decide +kernel
theorem dX1_reasonAgainst_40 : decode cX1_reasonAgainst 40 = .ok (.iconst 2, 1) := by decide +kernel
theorem dX1_reasonAgainst_41 : decode cX1_reasonAgainst 41 = .ok (.ireturn, 1) := by decide +kernel
theorem dX1_reasonAgainst_42 : decode cX1_reasonAgainst 42 = .ok (.aload_n 0, 1) := by decide +kernel
theorem dX1_reasonAgainst_43 : decode cX1_reasonAgainst 43 = .ok (.iload_n 1, 1) := by decide +kernel
theorem dX1_reasonAgainst_44 : decode cX1_reasonAgainst 44 = .ok (.invokevirtual 104, 3) := by decide +kernel
theorem dX1_reasonAgainst_47 : decode cX1_reasonAgainst 47 = .ok (.aload_n 0, 1) := by decide +kernel
theorem dX1_reasonAgainst_48 : decode cX1_reasonAgainst 48 = .ok (.getfield 9, 3) := by decide +kernel
theorem dX1_reasonAgainst_51 : decode cX1_reasonAgainst 51 = .ok (.iconst 2, 1) := by decide +kernel
theorem dX1_reasonAgainst_52 : decode cX1_reasonAgainst 52 = .ok (.iaload, 1) := by decide +kernel
theorem dX1_reasonAgainst_53 : decode cX1_reasonAgainst 53 = .ok (.if_icmp .lt 5, 3) := by decide +kernel
theorem dX1_reasonAgainst_56 : decode cX1_reasonAgainst 56 = .ok (.iconst 3, 1) := by decide +kernel
theorem dX1_reasonAgainst_57 : decode cX1_reasonAgainst 57 = .ok (.ireturn, 1) := by decide +kernel
theorem dX1_reasonAgainst_58 : decode cX1_reasonAgainst 58 = .ok (.aload_n 0, 1) := by decide +kernel
theorem dX1_reasonAgainst_59 : decode cX1_reasonAgainst 59 = .ok (.getfield 21, 3) := by decide +kernel
theorem dX1_reasonAgainst_62 : decode cX1_reasonAgainst 62 = .ok (.iload_n 1, 1) := by decide +kernel
theorem dX1_reasonAgainst_63 : decode cX1_reasonAgainst 63 = .ok (.iaload, 1) := by decide +kernel
theorem dX1_reasonAgainst_64 : decode cX1_reasonAgainst 64 = .ok (.aload_n 0, 1) := by decide +kernel
theorem dX1_reasonAgainst_65 : decode cX1_reasonAgainst 65 = .ok (.getfield 30, 3) := by decide +kernel
theorem dX1_reasonAgainst_68 : decode cX1_reasonAgainst 68 = .ok (.iload_n 2, 1) := by decide +kernel
theorem dX1_reasonAgainst_69 : decode cX1_reasonAgainst 69 = .ok (.iaload, 1) := by decide +kernel
theorem dX1_reasonAgainst_70 : decode cX1_reasonAgainst 70 = .ok (.if_icmp .ge 7, 3) := by decide +kernel
theorem dX1_reasonAgainst_73 : decode cX1_reasonAgainst 73 = .ok (.iconst 4, 1) := by decide +kernel
theorem dX1_reasonAgainst_74 : decode cX1_reasonAgainst 74 = .ok (.goto 4, 3) := by decide +kernel
theorem dX1_reasonAgainst_77 : decode cX1_reasonAgainst 77 = .ok (.iconst 0, 1) := by decide +kernel
theorem dX1_reasonAgainst_78 : decode cX1_reasonAgainst 78 = .ok (.ireturn, 1) := by decide +kernel
theorem dX1_takeWeek_0 : decode cX1_takeWeek 0 = .ok (.aload_n 0, 1) := by decide +kernel
theorem dX1_takeWeek_1 : decode cX1_takeWeek 1 = .ok (.iload_n 1, 1) := by decide +kernel
theorem dX1_takeWeek_2 : decode cX1_takeWeek 2 = .ok (.invokevirtual 80, 3) := by decide +kernel
theorem dX1_takeWeek_5 : decode cX1_takeWeek 5 = .ok (.ifCond .eq 11, 3) := by decide +kernel
theorem dX1_takeWeek_8 : decode cX1_takeWeek 8 = .ok (.aload_n 0, 1) := by decide +kernel
theorem dX1_takeWeek_9 : decode cX1_takeWeek 9 = .ok (.iload_n 2, 1) := by decide +kernel
theorem dX1_takeWeek_10 : decode cX1_takeWeek 10 = .ok (.invokevirtual 84, 3) := by decide +kernel
theorem dX1_takeWeek_13 : decode cX1_takeWeek 13 = .ok (.ifCond .ne 6, 3) := by decide +kernel
theorem dX1_takeWeek_16 : decode cX1_takeWeek 16 = .ok (.bipush (-2), 2) := by decide +kernel
theorem dX1_takeWeek_18 : decode cX1_takeWeek 18 = .ok (.ireturn, 1) := by decide +kernel
theorem dX1_takeWeek_19 : decode cX1_takeWeek 19 = .ok (.aload_n 0, 1) := by decide +kernel
theorem dX1_takeWeek_20 : decode cX1_takeWeek 20 = .ok (.iload_n 1, 1) := by decide +kernel
theorem dX1_takeWeek_21 : decode cX1_takeWeek 21 = .ok (.iload_n 2, 1) := by decide +kernel
theorem dX1_takeWeek_22 : decode cX1_takeWeek 22 = .ok (.invokevirtual 107, 3) := by decide +kernel
theorem dX1_takeWeek_25 : decode cX1_takeWeek 25 = .ok (.istore_n 3, 1) := by decide +kernel
theorem dX1_takeWeek_26 : decode cX1_takeWeek 26 = .ok (.iload_n 3, 1) := by decide +kernel
theorem dX1_takeWeek_27 : decode cX1_takeWeek 27 = .ok (.ifCond .ne 24, 3) := by decide +kernel
theorem dX1_takeWeek_30 : decode cX1_takeWeek 30 = .ok (.aload_n 0, 1) := by decide +kernel
theorem dX1_takeWeek_31 : decode cX1_takeWeek 31 = .ok (.getfield 37, 3) := by decide +kernel
theorem dX1_takeWeek_34 : decode cX1_takeWeek 34 = .ok (.iload_n 2, 1) := by decide +kernel
theorem dX1_takeWeek_35 : decode cX1_takeWeek 35 = .ok (.iload_n 1, 1) := by decide +kernel
theorem dX1_takeWeek_36 : decode cX1_takeWeek 36 = .ok (.iastore, 1) := by decide +kernel
theorem dX1_takeWeek_37 : decode cX1_takeWeek 37 = .ok (.aload_n 0, 1) := by decide +kernel
theorem dX1_takeWeek_38 : decode cX1_takeWeek 38 = .ok (.iload_n 1, 1) := by decide +kernel
theorem dX1_takeWeek_39 : decode cX1_takeWeek 39 = .ok (.aload_n 0, 1) := by decide +kernel
theorem dX1_takeWeek_40 : decode cX1_takeWeek 40 = .ok (.getfield 30, 3) := by decide +kernel
theorem dX1_takeWeek_43 : decode cX1_takeWeek 43 = .ok (.iload_n 2, 1) := by decide +kernel
theorem dX1_takeWeek_44 : decode cX1_takeWeek 44 = .ok (.iaload, 1) := by decide +kernel
theorem dX1_takeWeek_45 : decode cX1_takeWeek 45 = .ok (.invokevirtual 110, 3) := by decide +kernel
theorem dX1_takeWeek_48 : decode cX1_takeWeek 48 = .ok (.goto 14, 3) := by decide +kernel
theorem dX1_takeWeek_51 : decode cX1_takeWeek 51 = .ok (.aload_n 0, 1) := by decide +kernel
theorem dX1_takeWeek_52 : decode cX1_takeWeek 52 = .ok (.getfield 15, 3) := by decide +kernel
theorem dX1_takeWeek_55 : decode cX1_takeWeek 55 = .ok (.bipush 6, 2) := by decide +kernel
theorem dX1_takeWeek_57 : decode cX1_takeWeek 57 = .ok (.dup2, 1) := by decide +kernel
theorem dX1_takeWeek_58 : decode cX1_takeWeek 58 = .ok (.iaload, 1) := by decide +kernel
theorem dX1_takeWeek_59 : decode cX1_takeWeek 59 = .ok (.iconst 1, 1) := by decide +kernel
theorem dX1_takeWeek_60 : decode cX1_takeWeek 60 = .ok (.iadd, 1) := by decide +kernel
theorem dX1_takeWeek_61 : decode cX1_takeWeek 61 = .ok (.iastore, 1) := by decide +kernel
theorem dX1_takeWeek_62 : decode cX1_takeWeek 62 = .ok (.iload_n 3, 1) := by decide +kernel
theorem dX1_takeWeek_63 : decode cX1_takeWeek 63 = .ok (.ireturn, 1) := by decide +kernel
theorem dX1_giveBack_0 : decode cX1_giveBack 0 = .ok (.aload_n 0, 1) := by decide +kernel
theorem dX1_giveBack_1 : decode cX1_giveBack 1 = .ok (.iload_n 1, 1) := by decide +kernel
theorem dX1_giveBack_2 : decode cX1_giveBack 2 = .ok (.iload_n 2, 1) := by decide +kernel
theorem dX1_giveBack_3 : decode cX1_giveBack 3 = .ok (.invokevirtual 114, 3) := by decide +kernel
theorem dX1_giveBack_6 : decode cX1_giveBack 6 = .ok (.ifCond .ne 6, 3) := by decide +kernel
theorem dX1_giveBack_9 : decode cX1_giveBack 9 = .ok (.bipush (-2), 2) := by decide +kernel
theorem dX1_giveBack_11 : decode cX1_giveBack 11 = .ok (.ireturn, 1) := by decide +kernel
theorem dX1_giveBack_12 : decode cX1_giveBack 12 = .ok (.aload_n 0, 1) := by decide +kernel
theorem dX1_giveBack_13 : decode cX1_giveBack 13 = .ok (.getfield 30, 3) := by decide +kernel
theorem dX1_giveBack_16 : decode cX1_giveBack 16 = .ok (.iload_n 2, 1) := by decide +kernel
theorem dX1_giveBack_17 : decode cX1_giveBack 17 = .ok (.iaload, 1) := by decide +kernel
theorem dX1_giveBack_18 : decode cX1_giveBack 18 = .ok (.iconst 2, 1) := by decide +kernel
theorem dX1_giveBack_19 : decode cX1_giveBack 19 = .ok (.idiv, 1) := by decide +kernel
theorem dX1_giveBack_20 : decode cX1_giveBack 20 = .ok (.istore_n 3, 1) := by decide +kernel
theorem dX1_giveBack_21 : decode cX1_giveBack 21 = .ok (.aload_n 0, 1) := by decide +kernel
theorem dX1_giveBack_22 : decode cX1_giveBack 22 = .ok (.getfield 37, 3) := by decide +kernel
theorem dX1_giveBack_25 : decode cX1_giveBack 25 = .ok (.iload_n 2, 1) := by decide +kernel
theorem dX1_giveBack_26 : decode cX1_giveBack 26 = .ok (.iconst (-1), 1) := by decide +kernel
theorem dX1_giveBack_27 : decode cX1_giveBack 27 = .ok (.iastore, 1) := by decide +kernel
theorem dX1_giveBack_28 : decode cX1_giveBack 28 = .ok (.aload_n 0, 1) := by decide +kernel
theorem dX1_giveBack_29 : decode cX1_giveBack 29 = .ok (.getfield 21, 3) := by decide +kernel
theorem dX1_giveBack_32 : decode cX1_giveBack 32 = .ok (.iload_n 1, 1) := by decide +kernel
theorem dX1_giveBack_33 : decode cX1_giveBack 33 = .ok (.dup2, 1) := by decide +kernel
theorem dX1_giveBack_34 : decode cX1_giveBack 34 = .ok (.iaload, 1) := by decide +kernel
theorem dX1_giveBack_35 : decode cX1_giveBack 35 = .ok (.iload_n 3, 1) := by decide +kernel
theorem dX1_giveBack_36 : decode cX1_giveBack 36 = .ok (.iadd, 1) := by decide +kernel
theorem dX1_giveBack_37 : decode cX1_giveBack 37 = .ok (.iastore, 1) := by decide +kernel
theorem dX1_giveBack_38 : decode cX1_giveBack 38 = .ok (.aload_n 0, 1) := by decide +kernel
theorem dX1_giveBack_39 : decode cX1_giveBack 39 = .ok (.getfield 15, 3) := by decide +kernel
theorem dX1_giveBack_42 : decode cX1_giveBack 42 = .ok (.iconst 2, 1) := by decide +kernel
theorem dX1_giveBack_43 : decode cX1_giveBack 43 = .ok (.dup2, 1) := by decide +kernel
theorem dX1_giveBack_44 : decode cX1_giveBack 44 = .ok (.iaload, 1) := by decide +kernel
theorem dX1_giveBack_45 : decode cX1_giveBack 45 = .ok (.iload_n 3, 1) := by decide +kernel
theorem dX1_giveBack_46 : decode cX1_giveBack 46 = .ok (.iadd, 1) := by decide +kernel
theorem dX1_giveBack_47 : decode cX1_giveBack 47 = .ok (.iastore, 1) := by decide +kernel
theorem dX1_giveBack_48 : decode cX1_giveBack 48 = .ok (.iload_n 3, 1) := by decide +kernel
theorem dX1_giveBack_49 : decode cX1_giveBack 49 = .ok (.ireturn, 1) := by decide +kernel
theorem dX1_placeBid_0 : decode cX1_placeBid 0 = .ok (.aload_n 0, 1) := by decide +kernel
theorem dX1_placeBid_1 : decode cX1_placeBid 1 = .ok (.iload_n 1, 1) := by decide +kernel
theorem dX1_placeBid_2 : decode cX1_placeBid 2 = .ok (.invokevirtual 80, 3) := by decide +kernel
theorem dX1_placeBid_5 : decode cX1_placeBid 5 = .ok (.ifCond .eq 21, 3) := by decide +kernel
theorem dX1_placeBid_8 : decode cX1_placeBid 8 = .ok (.aload_n 0, 1) := by decide +kernel
theorem dX1_placeBid_9 : decode cX1_placeBid 9 = .ok (.iload_n 2, 1) := by decide +kernel
theorem dX1_placeBid_10 : decode cX1_placeBid 10 = .ok (.invokevirtual 118, 3) := by decide +kernel
theorem dX1_placeBid_13 : decode cX1_placeBid 13 = .ok (.ifCond .eq 13, 3) := by decide +kernel
theorem dX1_placeBid_16 : decode cX1_placeBid 16 = .ok (.iload_n 3, 1) := by decide +kernel
theorem dX1_placeBid_17 : decode cX1_placeBid 17 = .ok (.ifCond .lt 9, 3) := by decide +kernel
theorem dX1_placeBid_20 : decode cX1_placeBid 20 = .ok (.iload_n 3, 1) := by decide +kernel
theorem dX1_placeBid_21 : decode cX1_placeBid 21 = .ok (.bipush 20, 2) := by decide +kernel
theorem dX1_placeBid_23 : decode cX1_placeBid 23 = .ok (.if_icmp .le 6, 3) := by decide +kernel
theorem dX1_placeBid_26 : decode cX1_placeBid 26 = .ok (.bipush (-2), 2) := by decide +kernel
theorem dX1_placeBid_28 : decode cX1_placeBid 28 = .ok (.ireturn, 1) := by decide +kernel
theorem dX1_placeBid_29 : decode cX1_placeBid 29 = .ok (.aload_n 0, 1) := by decide +kernel
theorem dX1_placeBid_30 : decode cX1_placeBid 30 = .ok (.getfield 40, 3) := by decide +kernel
theorem dX1_placeBid_33 : decode cX1_placeBid 33 = .ok (.iload_n 1, 1) := by decide +kernel
theorem dX1_placeBid_34 : decode cX1_placeBid 34 = .ok (.bipush 20, 2) := by decide +kernel
theorem dX1_placeBid_36 : decode cX1_placeBid 36 = .ok (.imul, 1) := by decide +kernel
theorem dX1_placeBid_37 : decode cX1_placeBid 37 = .ok (.iload_n 2, 1) := by decide +kernel
theorem dX1_placeBid_38 : decode cX1_placeBid 38 = .ok (.iadd, 1) := by decide +kernel
theorem dX1_placeBid_39 : decode cX1_placeBid 39 = .ok (.iload_n 3, 1) := by decide +kernel
theorem dX1_placeBid_40 : decode cX1_placeBid 40 = .ok (.iastore, 1) := by decide +kernel
theorem dX1_placeBid_41 : decode cX1_placeBid 41 = .ok (.aload_n 0, 1) := by decide +kernel
theorem dX1_placeBid_42 : decode cX1_placeBid 42 = .ok (.iload_n 2, 1) := by decide +kernel
theorem dX1_placeBid_43 : decode cX1_placeBid 43 = .ok (.invokevirtual 121, 3) := by decide +kernel
theorem dX1_placeBid_46 : decode cX1_placeBid 46 = .ok (.ireturn, 1) := by decide +kernel
theorem dX1_settleBids_0 : decode cX1_settleBids 0 = .ok (.iconst 0, 1) := by decide +kernel
theorem dX1_settleBids_1 : decode cX1_settleBids 1 = .ok (.istore_n 1, 1) := by decide +kernel
theorem dX1_settleBids_2 : decode cX1_settleBids 2 = .ok (.iconst 0, 1) := by decide +kernel
theorem dX1_settleBids_3 : decode cX1_settleBids 3 = .ok (.istore_n 2, 1) := by decide +kernel
theorem dX1_settleBids_4 : decode cX1_settleBids 4 = .ok (.iload_n 2, 1) := by decide +kernel
theorem dX1_settleBids_5 : decode cX1_settleBids 5 = .ok (.bipush 20, 2) := by decide +kernel
theorem dX1_settleBids_7 : decode cX1_settleBids 7 = .ok (.if_icmp .ge 20, 3) := by decide +kernel
theorem dX1_settleBids_10 : decode cX1_settleBids 10 = .ok (.aload_n 0, 1) := by decide +kernel
theorem dX1_settleBids_11 : decode cX1_settleBids 11 = .ok (.iload_n 2, 1) := by decide +kernel
theorem dX1_settleBids_12 : decode cX1_settleBids 12 = .ok (.invokevirtual 124, 3) := by decide +kernel
theorem dX1_settleBids_15 : decode cX1_settleBids 15 = .ok (.ifCond .eq 6, 3) := by decide +kernel
theorem dX1_settleBids_18 : decode cX1_settleBids 18 = .ok (.iinc 1 1, 3) := by decide +kernel
theorem dX1_settleBids_21 : decode cX1_settleBids 21 = .ok (.iinc 2 1, 3) := by decide +kernel
theorem dX1_settleBids_24 : decode cX1_settleBids 24 = .ok (.goto (-20), 3) := by decide +kernel
theorem dX1_settleBids_27 : decode cX1_settleBids 27 = .ok (.aload_n 0, 1) := by decide +kernel
theorem dX1_settleBids_28 : decode cX1_settleBids 28 = .ok (.getfield 40, 3) := by decide +kernel
theorem dX1_settleBids_31 : decode cX1_settleBids 31 = .ok (.iconst (-1), 1) := by decide +kernel
theorem dX1_settleBids_32 : decode cX1_settleBids 32 = .ok (.invokestatic 64, 3) := by decide +kernel
theorem dX1_settleBids_35 : decode cX1_settleBids 35 = .ok (.iload_n 1, 1) := by decide +kernel
theorem dX1_settleBids_36 : decode cX1_settleBids 36 = .ok (.ireturn, 1) := by decide +kernel
theorem dX1_settleWeek_0 : decode cX1_settleWeek 0 = .ok (.aload_n 0, 1) := by decide +kernel
theorem dX1_settleWeek_1 : decode cX1_settleWeek 1 = .ok (.iload_n 1, 1) := by decide +kernel
theorem dX1_settleWeek_2 : decode cX1_settleWeek 2 = .ok (.invokevirtual 127, 3) := by decide +kernel
theorem dX1_settleWeek_5 : decode cX1_settleWeek 5 = .ok (.istore_n 2, 1) := by decide +kernel
theorem dX1_settleWeek_6 : decode cX1_settleWeek 6 = .ok (.aload_n 0, 1) := by decide +kernel
theorem dX1_settleWeek_7 : decode cX1_settleWeek 7 = .ok (.iload_n 2, 1) := by decide +kernel
theorem dX1_settleWeek_8 : decode cX1_settleWeek 8 = .ok (.invokevirtual 80, 3) := by decide +kernel
theorem dX1_settleWeek_11 : decode cX1_settleWeek 11 = .ok (.ifCond .eq 11, 3) := by decide +kernel
theorem dX1_settleWeek_14 : decode cX1_settleWeek 14 = .ok (.aload_n 0, 1) := by decide +kernel
theorem dX1_settleWeek_15 : decode cX1_settleWeek 15 = .ok (.iload_n 1, 1) := by decide +kernel
theorem dX1_settleWeek_16 : decode cX1_settleWeek 16 = .ok (.invokevirtual 84, 3) := by decide +kernel
theorem dX1_settleWeek_19 : decode cX1_settleWeek 19 = .ok (.ifCond .ne 5, 3) := by decide +kernel
theorem dX1_settleWeek_22 : decode cX1_settleWeek 22 = .ok (.iconst 0, 1) := by decide +kernel
theorem dX1_settleWeek_23 : decode cX1_settleWeek 23 = .ok (.ireturn, 1) := by decide +kernel
theorem dX1_settleWeek_24 : decode cX1_settleWeek 24 = .ok (.aload_n 0, 1) := by decide +kernel
theorem dX1_settleWeek_25 : decode cX1_settleWeek 25 = .ok (.iload_n 2, 1) := by decide +kernel
theorem dX1_settleWeek_26 : decode cX1_settleWeek 26 = .ok (.aload_n 0, 1) := by decide +kernel
theorem dX1_settleWeek_27 : decode cX1_settleWeek 27 = .ok (.getfield 30, 3) := by decide +kernel
theorem dX1_settleWeek_30 : decode cX1_settleWeek 30 = .ok (.iload_n 1, 1) := by decide +kernel
theorem dX1_settleWeek_31 : decode cX1_settleWeek 31 = .ok (.iaload, 1) := by decide +kernel
theorem dX1_settleWeek_32 : decode cX1_settleWeek 32 = .ok (.aload_n 0, 1) := by decide +kernel
theorem dX1_settleWeek_33 : decode cX1_settleWeek 33 = .ok (.iload_n 2, 1) := by decide +kernel
theorem dX1_settleWeek_34 : decode cX1_settleWeek 34 = .ok (.iload_n 1, 1) := by decide +kernel
theorem dX1_settleWeek_35 : decode cX1_settleWeek 35 = .ok (.invokevirtual 87, 3) := by decide +kernel
theorem dX1_settleWeek_38 : decode cX1_settleWeek 38 = .ok (.iadd, 1) := by decide +kernel
theorem dX1_settleWeek_39 : decode cX1_settleWeek 39 = .ok (.invokevirtual 110, 3) := by decide +kernel
theorem dX1_settleWeek_42 : decode cX1_settleWeek 42 = .ok (.aload_n 0, 1) := by decide +kernel
theorem dX1_settleWeek_43 : decode cX1_settleWeek 43 = .ok (.getfield 37, 3) := by decide +kernel
theorem dX1_settleWeek_46 : decode cX1_settleWeek 46 = .ok (.iload_n 1, 1) := by decide +kernel
theorem dX1_settleWeek_47 : decode cX1_settleWeek 47 = .ok (.iload_n 2, 1) := by decide +kernel
theorem dX1_settleWeek_48 : decode cX1_settleWeek 48 = .ok (.iastore, 1) := by decide +kernel
theorem dX1_settleWeek_49 : decode cX1_settleWeek 49 = .ok (.aload_n 0, 1) := by decide +kernel
theorem dX1_settleWeek_50 : decode cX1_settleWeek 50 = .ok (.getfield 24, 3) := by decide +kernel
theorem dX1_settleWeek_53 : decode cX1_settleWeek 53 = .ok (.iload_n 2, 1) := by decide +kernel
theorem dX1_settleWeek_54 : decode cX1_settleWeek 54 = .ok (.dup2, 1) := by decide +kernel
theorem dX1_settleWeek_55 : decode cX1_settleWeek 55 = .ok (.iaload, 1) := by decide +kernel
theorem dX1_settleWeek_56 : decode cX1_settleWeek 56 = .ok (.iconst 1, 1) := by decide +kernel
theorem dX1_settleWeek_57 : decode cX1_settleWeek 57 = .ok (.iadd, 1) := by decide +kernel
theorem dX1_settleWeek_58 : decode cX1_settleWeek 58 = .ok (.iastore, 1) := by decide +kernel
theorem dX1_settleWeek_59 : decode cX1_settleWeek 59 = .ok (.iconst 1, 1) := by decide +kernel
theorem dX1_settleWeek_60 : decode cX1_settleWeek 60 = .ok (.ireturn, 1) := by decide +kernel
theorem dX1_bestBidder_0 : decode cX1_bestBidder 0 = .ok (.iconst (-1), 1) := by decide +kernel
theorem dX1_bestBidder_1 : decode cX1_bestBidder 1 = .ok (.istore_n 2, 1) := by decide +kernel
theorem dX1_bestBidder_2 : decode cX1_bestBidder 2 = .ok (.aload_n 0, 1) := by decide +kernel
theorem dX1_bestBidder_3 : decode cX1_bestBidder 3 = .ok (.iload_n 1, 1) := by decide +kernel
theorem dX1_bestBidder_4 : decode cX1_bestBidder 4 = .ok (.invokevirtual 118, 3) := by decide +kernel
theorem dX1_bestBidder_7 : decode cX1_bestBidder 7 = .ok (.ifCond .ne 5, 3) := by decide +kernel
theorem dX1_bestBidder_10 : decode cX1_bestBidder 10 = .ok (.iload_n 2, 1) := by decide +kernel
theorem dX1_bestBidder_11 : decode cX1_bestBidder 11 = .ok (.ireturn, 1) := by decide +kernel
theorem dX1_bestBidder_12 : decode cX1_bestBidder 12 = .ok (.iconst 0, 1) := by decide +kernel
theorem dX1_bestBidder_13 : decode cX1_bestBidder 13 = .ok (.istore_n 3, 1) := by decide +kernel
theorem dX1_bestBidder_14 : decode cX1_bestBidder 14 = .ok (.iload_n 3, 1) := by decide +kernel
theorem dX1_bestBidder_15 : decode cX1_bestBidder 15 = .ok (.bipush 6, 2) := by decide +kernel
theorem dX1_bestBidder_17 : decode cX1_bestBidder 17 = .ok (.if_icmp .ge 35, 3) := by decide +kernel
theorem dX1_bestBidder_20 : decode cX1_bestBidder 20 = .ok (.aload_n 0, 1) := by decide +kernel
theorem dX1_bestBidder_21 : decode cX1_bestBidder 21 = .ok (.iload_n 3, 1) := by decide +kernel
theorem dX1_bestBidder_22 : decode cX1_bestBidder 22 = .ok (.iload_n 1, 1) := by decide +kernel
theorem dX1_bestBidder_23 : decode cX1_bestBidder 23 = .ok (.invokevirtual 130, 3) := by decide +kernel
theorem dX1_bestBidder_26 : decode cX1_bestBidder 26 = .ok (.ifCond .eq 20, 3) := by decide +kernel
theorem dX1_bestBidder_29 : decode cX1_bestBidder 29 = .ok (.iload_n 2, 1) := by decide +kernel
theorem dX1_bestBidder_30 : decode cX1_bestBidder 30 = .ok (.iconst (-1), 1) := by decide +kernel
theorem dX1_bestBidder_31 : decode cX1_bestBidder 31 = .ok (.if_icmp .eq 13, 3) := by decide +kernel
theorem dX1_bestBidder_34 : decode cX1_bestBidder 34 = .ok (.aload_n 0, 1) := by decide +kernel
theorem dX1_bestBidder_35 : decode cX1_bestBidder 35 = .ok (.iload_n 3, 1) := by decide +kernel
theorem dX1_bestBidder_36 : decode cX1_bestBidder 36 = .ok (.iload_n 2, 1) := by decide +kernel
theorem dX1_bestBidder_37 : decode cX1_bestBidder 37 = .ok (.iload_n 1, 1) := by decide +kernel
theorem dX1_bestBidder_38 : decode cX1_bestBidder 38 = .ok (.invokevirtual 133, 3) := by decide +kernel
theorem dX1_bestBidder_41 : decode cX1_bestBidder 41 = .ok (.ifCond .eq 5, 3) := by decide +kernel
theorem dX1_bestBidder_44 : decode cX1_bestBidder 44 = .ok (.iload_n 3, 1) := by decide +kernel
theorem dX1_bestBidder_45 : decode cX1_bestBidder 45 = .ok (.istore_n 2, 1) := by decide +kernel
theorem dX1_bestBidder_46 : decode cX1_bestBidder 46 = .ok (.iinc 3 1, 3) := by decide +kernel
theorem dX1_bestBidder_49 : decode cX1_bestBidder 49 = .ok (.goto (-35), 3) := by decide +kernel
theorem dX1_bestBidder_52 : decode cX1_bestBidder 52 = .ok (.iload_n 2, 1) := by decide +kernel
theorem dX1_bestBidder_53 : decode cX1_bestBidder 53 = .ok (.ireturn, 1) := by decide +kernel
theorem dX1_canWin_0 : decode cX1_canWin 0 = .ok (.aload_n 0, 1) := by decide +kernel
theorem dX1_canWin_1 : decode cX1_canWin 1 = .ok (.iload_n 1, 1) := by decide +kernel
theorem dX1_canWin_2 : decode cX1_canWin 2 = .ok (.iload_n 2, 1) := by decide +kernel
theorem dX1_canWin_3 : decode cX1_canWin 3 = .ok (.invokevirtual 87, 3) := by decide +kernel
theorem dX1_canWin_6 : decode cX1_canWin 6 = .ok (.istore_n 3, 1) := by decide +kernel
theorem dX1_canWin_7 : decode cX1_canWin 7 = .ok (.iload_n 3, 1) := by decide +kernel
theorem dX1_canWin_8 : decode cX1_canWin 8 = .ok (.iconst (-1), 1) := by decide +kernel
theorem dX1_canWin_9 : decode cX1_canWin 9 = .ok (.if_icmp .eq 38, 3) := by decide +kernel
theorem dX1_canWin_12 : decode cX1_canWin 12 = .ok (.aload_n 0, 1) := by decide +kernel
theorem dX1_canWin_13 : decode cX1_canWin 13 = .ok (.iload_n 1, 1) := by decide +kernel
theorem dX1_canWin_14 : decode cX1_canWin 14 = .ok (.invokevirtual 104, 3) := by decide +kernel
theorem dX1_canWin_17 : decode cX1_canWin 17 = .ok (.aload_n 0, 1) := by decide +kernel
theorem dX1_canWin_18 : decode cX1_canWin 18 = .ok (.getfield 9, 3) := by decide +kernel
theorem dX1_canWin_21 : decode cX1_canWin 21 = .ok (.iconst 2, 1) := by decide +kernel
theorem dX1_canWin_22 : decode cX1_canWin 22 = .ok (.iaload, 1) := by decide +kernel
theorem dX1_canWin_23 : decode cX1_canWin 23 = .ok (.if_icmp .ge 24, 3) := by decide +kernel
theorem dX1_canWin_26 : decode cX1_canWin 26 = .ok (.aload_n 0, 1) := by decide +kernel
theorem dX1_canWin_27 : decode cX1_canWin 27 = .ok (.getfield 21, 3) := by decide +kernel
theorem dX1_canWin_30 : decode cX1_canWin 30 = .ok (.iload_n 1, 1) := by decide +kernel
theorem dX1_canWin_31 : decode cX1_canWin 31 = .ok (.iaload, 1) := by decide +kernel
theorem dX1_canWin_32 : decode cX1_canWin 32 = .ok (.aload_n 0, 1) := by decide +kernel
theorem dX1_canWin_33 : decode cX1_canWin 33 = .ok (.getfield 30, 3) := by decide +kernel
theorem dX1_canWin_36 : decode cX1_canWin 36 = .ok (.iload_n 2, 1) := by decide +kernel
theorem dX1_canWin_37 : decode cX1_canWin 37 = .ok (.iaload, 1) := by decide +kernel
theorem dX1_canWin_38 : decode cX1_canWin 38 = .ok (.iload_n 3, 1) := by decide +kernel
theorem dX1_canWin_39 : decode cX1_canWin 39 = .ok (.iadd, 1) := by decide +kernel
theorem dX1_canWin_40 : decode cX1_canWin 40 = .ok (.if_icmp .lt 7, 3) := by decide +kernel
theorem dX1_canWin_43 : decode cX1_canWin 43 = .ok (.iconst 1, 1) := by decide +kernel
theorem dX1_canWin_44 : decode cX1_canWin 44 = .ok (.goto 4, 3) := by decide +kernel
theorem dX1_canWin_47 : decode cX1_canWin 47 = .ok (.iconst 0, 1) := by decide +kernel
theorem dX1_canWin_48 : decode cX1_canWin 48 = .ok (.ireturn, 1) := by decide +kernel
theorem dX1_isAhead_0 : decode cX1_isAhead 0 = .ok (.aload_n 0, 1) := by decide +kernel
theorem dX1_isAhead_1 : decode cX1_isAhead 1 = .ok (.iload_n 1, 1) := by decide +kernel
theorem dX1_isAhead_2 : decode cX1_isAhead 2 = .ok (.invokevirtual 80, 3) := by decide +kernel
theorem dX1_isAhead_5 : decode cX1_isAhead 5 = .ok (.ifCond .eq 11, 3) := by decide +kernel
theorem dX1_isAhead_8 : decode cX1_isAhead 8 = .ok (.aload_n 0, 1) := by decide +kernel
theorem dX1_isAhead_9 : decode cX1_isAhead 9 = .ok (.iload_n 2, 1) := by decide +kernel
theorem dX1_isAhead_10 : decode cX1_isAhead 10 = .ok (.invokevirtual 80, 3) := by decide +kernel
theorem dX1_isAhead_13 : decode cX1_isAhead 13 = .ok (.ifCond .ne 5, 3) := by decide +kernel
theorem dX1_isAhead_16 : decode cX1_isAhead 16 = .ok (.iconst 0, 1) := by decide +kernel
theorem dX1_isAhead_17 : decode cX1_isAhead 17 = .ok (.ireturn, 1) := by decide +kernel
theorem dX1_isAhead_18 : decode cX1_isAhead 18 = .ok (.aload_n 0, 1) := by decide +kernel
theorem dX1_isAhead_19 : decode cX1_isAhead 19 = .ok (.iload_n 1, 1) := by decide +kernel
theorem dX1_isAhead_20 : decode cX1_isAhead 20 = .ok (.iload_n 3, 1) := by decide +kernel
theorem dX1_isAhead_21 : decode cX1_isAhead 21 = .ok (.invokevirtual 87, 3) := by decide +kernel
theorem dX1_isAhead_24 : decode cX1_isAhead 24 = .ok (.istore 4, 2) := by decide +kernel
theorem dX1_isAhead_26 : decode cX1_isAhead 26 = .ok (.aload_n 0, 1) := by decide +kernel
theorem dX1_isAhead_27 : decode cX1_isAhead 27 = .ok (.iload_n 2, 1) := by decide +kernel
theorem dX1_isAhead_28 : decode cX1_isAhead 28 = .ok (.iload_n 3, 1) := by decide +kernel
theorem dX1_isAhead_29 : decode cX1_isAhead 29 = .ok (.invokevirtual 87, 3) := by decide +kernel
theorem dX1_isAhead_32 : decode cX1_isAhead 32 = .ok (.istore 5, 2) := by decide +kernel
theorem dX1_isAhead_34 : decode cX1_isAhead 34 = .ok (.iload 4, 2) := by decide +kernel
theorem dX1_isAhead_36 : decode cX1_isAhead 36 = .ok (.iload 5, 2) := by decide +kernel
theorem dX1_isAhead_38 : decode cX1_isAhead 38 = .ok (.if_icmp .eq 16, 3) := by decide +kernel
theorem dX1_isAhead_41 : decode cX1_isAhead 41 = .ok (.iload 4, 2) := by decide +kernel
theorem dX1_isAhead_43 : decode cX1_isAhead 43 = .ok (.iload 5, 2) := by decide +kernel
theorem dX1_isAhead_45 : decode cX1_isAhead 45 = .ok (.if_icmp .le 7, 3) := by decide +kernel
theorem dX1_isAhead_48 : decode cX1_isAhead 48 = .ok (.iconst 1, 1) := by decide +kernel
theorem dX1_isAhead_49 : decode cX1_isAhead 49 = .ok (.goto 4, 3) := by decide +kernel
theorem dX1_isAhead_52 : decode cX1_isAhead 52 = .ok (.iconst 0, 1) := by decide +kernel
theorem dX1_isAhead_53 : decode cX1_isAhead 53 = .ok (.ireturn, 1) := by decide +kernel
theorem dX1_isAhead_54 : decode cX1_isAhead 54 = .ok (.aload_n 0, 1) := by decide +kernel
theorem dX1_isAhead_55 : decode cX1_isAhead 55 = .ok (.getfield 24, 3) := by decide +kernel
theorem dX1_isAhead_58 : decode cX1_isAhead 58 = .ok (.iload_n 1, 1) := by decide +kernel
theorem dX1_isAhead_59 : decode cX1_isAhead 59 = .ok (.iaload, 1) := by decide +kernel
theorem dX1_isAhead_60 : decode cX1_isAhead 60 = .ok (.aload_n 0, 1) := by decide +kernel
theorem dX1_isAhead_61 : decode cX1_isAhead 61 = .ok (.getfield 24, 3) := by decide +kernel
theorem dX1_isAhead_64 : decode cX1_isAhead 64 = .ok (.iload_n 2, 1) := by decide +kernel
theorem dX1_isAhead_65 : decode cX1_isAhead 65 = .ok (.iaload, 1) := by decide +kernel
theorem dX1_isAhead_66 : decode cX1_isAhead 66 = .ok (.if_icmp .eq 24, 3) := by decide +kernel
theorem dX1_isAhead_69 : decode cX1_isAhead 69 = .ok (.aload_n 0, 1) := by decide +kernel
theorem dX1_isAhead_70 : decode cX1_isAhead 70 = .ok (.getfield 24, 3) := by decide +kernel
theorem dX1_isAhead_73 : decode cX1_isAhead 73 = .ok (.iload_n 1, 1) := by decide +kernel
theorem dX1_isAhead_74 : decode cX1_isAhead 74 = .ok (.iaload, 1) := by decide +kernel
theorem dX1_isAhead_75 : decode cX1_isAhead 75 = .ok (.aload_n 0, 1) := by decide +kernel
theorem dX1_isAhead_76 : decode cX1_isAhead 76 = .ok (.getfield 24, 3) := by decide +kernel
theorem dX1_isAhead_79 : decode cX1_isAhead 79 = .ok (.iload_n 2, 1) := by decide +kernel
theorem dX1_isAhead_80 : decode cX1_isAhead 80 = .ok (.iaload, 1) := by decide +kernel
theorem dX1_isAhead_81 : decode cX1_isAhead 81 = .ok (.if_icmp .ge 7, 3) := by decide +kernel
theorem dX1_isAhead_84 : decode cX1_isAhead 84 = .ok (.iconst 1, 1) := by decide +kernel
theorem dX1_isAhead_85 : decode cX1_isAhead 85 = .ok (.goto 4, 3) := by decide +kernel
theorem dX1_isAhead_88 : decode cX1_isAhead 88 = .ok (.iconst 0, 1) := by decide +kernel
theorem dX1_isAhead_89 : decode cX1_isAhead 89 = .ok (.ireturn, 1) := by decide +kernel
theorem dX1_isAhead_90 : decode cX1_isAhead 90 = .ok (.aload_n 0, 1) := by decide +kernel
theorem dX1_isAhead_91 : decode cX1_isAhead 91 = .ok (.getfield 18, 3) := by decide +kernel
theorem dX1_isAhead_94 : decode cX1_isAhead 94 = .ok (.iload_n 1, 1) := by decide +kernel
theorem dX1_isAhead_95 : decode cX1_isAhead 95 = .ok (.iaload, 1) := by decide +kernel
theorem dX1_isAhead_96 : decode cX1_isAhead 96 = .ok (.aload_n 0, 1) := by decide +kernel
theorem dX1_isAhead_97 : decode cX1_isAhead 97 = .ok (.getfield 18, 3) := by decide +kernel
theorem dX1_isAhead_100 : decode cX1_isAhead 100 = .ok (.iload_n 2, 1) := by decide +kernel
theorem dX1_isAhead_101 : decode cX1_isAhead 101 = .ok (.iaload, 1) := by decide +kernel
theorem dX1_isAhead_102 : decode cX1_isAhead 102 = .ok (.if_icmp .eq 24, 3) := by decide +kernel
theorem dX1_isAhead_105 : decode cX1_isAhead 105 = .ok (.aload_n 0, 1) := by decide +kernel
theorem dX1_isAhead_106 : decode cX1_isAhead 106 = .ok (.getfield 18, 3) := by decide +kernel
theorem dX1_isAhead_109 : decode cX1_isAhead 109 = .ok (.iload_n 1, 1) := by decide +kernel
theorem dX1_isAhead_110 : decode cX1_isAhead 110 = .ok (.iaload, 1) := by decide +kernel
theorem dX1_isAhead_111 : decode cX1_isAhead 111 = .ok (.aload_n 0, 1) := by decide +kernel
theorem dX1_isAhead_112 : decode cX1_isAhead 112 = .ok (.getfield 18, 3) := by decide +kernel
theorem dX1_isAhead_115 : decode cX1_isAhead 115 = .ok (.iload_n 2, 1) := by decide +kernel
theorem dX1_isAhead_116 : decode cX1_isAhead 116 = .ok (.iaload, 1) := by decide +kernel
theorem dX1_isAhead_117 : decode cX1_isAhead 117 = .ok (.if_icmp .le 7, 3) := by decide +kernel
theorem dX1_isAhead_120 : decode cX1_isAhead 120 = .ok (.iconst 1, 1) := by decide +kernel
theorem dX1_isAhead_121 : decode cX1_isAhead 121 = .ok (.goto 4, 3) := by decide +kernel
theorem dX1_isAhead_124 : decode cX1_isAhead 124 = .ok (.iconst 0, 1) := by decide +kernel
theorem dX1_isAhead_125 : decode cX1_isAhead 125 = .ok (.ireturn, 1) := by decide +kernel
theorem dX1_isAhead_126 : decode cX1_isAhead 126 = .ok (.iload_n 1, 1) := by decide +kernel
theorem dX1_isAhead_127 : decode cX1_isAhead 127 = .ok (.iload_n 2, 1) := by decide +kernel
theorem dX1_isAhead_128 : decode cX1_isAhead 128 = .ok (.if_icmp .ge 7, 3) := by decide +kernel
theorem dX1_isAhead_131 : decode cX1_isAhead 131 = .ok (.iconst 1, 1) := by decide +kernel
theorem dX1_isAhead_132 : decode cX1_isAhead 132 = .ok (.goto 4, 3) := by decide +kernel
theorem dX1_isAhead_135 : decode cX1_isAhead 135 = .ok (.iconst 0, 1) := by decide +kernel
theorem dX1_isAhead_136 : decode cX1_isAhead 136 = .ok (.ireturn, 1) := by decide +kernel
theorem dX1_canSwap_0 : decode cX1_canSwap 0 = .ok (.aload_n 0, 1) := by decide +kernel
theorem dX1_canSwap_1 : decode cX1_canSwap 1 = .ok (.iload_n 1, 1) := by decide +kernel
theorem dX1_canSwap_2 : decode cX1_canSwap 2 = .ok (.iload_n 2, 1) := by decide +kernel
theorem dX1_canSwap_3 : decode cX1_canSwap 3 = .ok (.invokevirtual 114, 3) := by decide +kernel
theorem dX1_canSwap_6 : decode cX1_canSwap 6 = .ok (.ifCond .eq 35, 3) := by decide +kernel
theorem dX1_canSwap_9 : decode cX1_canSwap 9 = .ok (.aload_n 0, 1) := by decide +kernel
theorem dX1_canSwap_10 : decode cX1_canSwap 10 = .ok (.iload_n 3, 1) := by decide +kernel
theorem dX1_canSwap_11 : decode cX1_canSwap 11 = .ok (.invokevirtual 84, 3) := by decide +kernel
theorem dX1_canSwap_14 : decode cX1_canSwap 14 = .ok (.ifCond .eq 27, 3) := by decide +kernel
theorem dX1_canSwap_17 : decode cX1_canSwap 17 = .ok (.aload_n 0, 1) := by decide +kernel
theorem dX1_canSwap_18 : decode cX1_canSwap 18 = .ok (.getfield 37, 3) := by decide +kernel
theorem dX1_canSwap_21 : decode cX1_canSwap 21 = .ok (.iload_n 3, 1) := by decide +kernel
theorem dX1_canSwap_22 : decode cX1_canSwap 22 = .ok (.iaload, 1) := by decide +kernel
theorem dX1_canSwap_23 : decode cX1_canSwap 23 = .ok (.iconst (-1), 1) := by decide +kernel
theorem dX1_canSwap_24 : decode cX1_canSwap 24 = .ok (.if_icmp .eq 17, 3) := by decide +kernel
theorem dX1_canSwap_27 : decode cX1_canSwap 27 = .ok (.aload_n 0, 1) := by decide +kernel
theorem dX1_canSwap_28 : decode cX1_canSwap 28 = .ok (.getfield 37, 3) := by decide +kernel
theorem dX1_canSwap_31 : decode cX1_canSwap 31 = .ok (.iload_n 3, 1) := by decide +kernel
theorem dX1_canSwap_32 : decode cX1_canSwap 32 = .ok (.iaload, 1) := by decide +kernel
theorem dX1_canSwap_33 : decode cX1_canSwap 33 = .ok (.iload_n 1, 1) := by decide +kernel
theorem dX1_canSwap_34 : decode cX1_canSwap 34 = .ok (.if_icmp .eq 7, 3) := by decide +kernel
theorem dX1_canSwap_37 : decode cX1_canSwap 37 = .ok (.iconst 1, 1) := by decide +kernel
theorem dX1_canSwap_38 : decode cX1_canSwap 38 = .ok (.goto 4, 3) := by decide +kernel
theorem dX1_canSwap_41 : decode cX1_canSwap 41 = .ok (.iconst 0, 1) := by decide +kernel
theorem dX1_canSwap_42 : decode cX1_canSwap 42 = .ok (.ireturn, 1) := by decide +kernel
theorem dX1_canOffer_0 : decode cX1_canOffer 0 = .ok (.aload_n 0, 1) := by decide +kernel
theorem dX1_canOffer_1 : decode cX1_canOffer 1 = .ok (.iload_n 1, 1) := by decide +kernel
theorem dX1_canOffer_2 : decode cX1_canOffer 2 = .ok (.iload_n 2, 1) := by decide +kernel
theorem dX1_canOffer_3 : decode cX1_canOffer 3 = .ok (.iload_n 3, 1) := by decide +kernel
theorem dX1_canOffer_4 : decode cX1_canOffer 4 = .ok (.invokevirtual 137, 3) := by decide +kernel
theorem dX1_canOffer_7 : decode cX1_canOffer 7 = .ok (.ifCond .eq 16, 3) := by decide +kernel
theorem dX1_canOffer_10 : decode cX1_canOffer 10 = .ok (.aload_n 0, 1) := by decide +kernel
theorem dX1_canOffer_11 : decode cX1_canOffer 11 = .ok (.getfield 77, 3) := by decide +kernel
theorem dX1_canOffer_14 : decode cX1_canOffer 14 = .ok (.bipush 8, 2) := by decide +kernel
theorem dX1_canOffer_16 : decode cX1_canOffer 16 = .ok (.if_icmp .ge 7, 3) := by decide +kernel
theorem dX1_canOffer_19 : decode cX1_canOffer 19 = .ok (.iconst 1, 1) := by decide +kernel
theorem dX1_canOffer_20 : decode cX1_canOffer 20 = .ok (.goto 4, 3) := by decide +kernel
theorem dX1_canOffer_23 : decode cX1_canOffer 23 = .ok (.iconst 0, 1) := by decide +kernel
theorem dX1_canOffer_24 : decode cX1_canOffer 24 = .ok (.ireturn, 1) := by decide +kernel
theorem dX1_placeOffer_0 : decode cX1_placeOffer 0 = .ok (.aload_n 0, 1) := by decide +kernel
theorem dX1_placeOffer_1 : decode cX1_placeOffer 1 = .ok (.iload_n 1, 1) := by decide +kernel
theorem dX1_placeOffer_2 : decode cX1_placeOffer 2 = .ok (.iload_n 2, 1) := by decide +kernel
theorem dX1_placeOffer_3 : decode cX1_placeOffer 3 = .ok (.iload_n 3, 1) := by decide +kernel
theorem dX1_placeOffer_4 : decode cX1_placeOffer 4 = .ok (.invokevirtual 140, 3) := by decide +kernel
theorem dX1_placeOffer_7 : decode cX1_placeOffer 7 = .ok (.ifCond .ne 6, 3) := by decide +kernel
theorem dX1_placeOffer_10 : decode cX1_placeOffer 10 = .ok (.bipush (-2), 2) := by decide +kernel
theorem dX1_placeOffer_12 : decode cX1_placeOffer 12 = .ok (.ireturn, 1) := by decide +kernel
theorem dX1_placeOffer_13 : decode cX1_placeOffer 13 = .ok (.aload_n 0, 1) := by decide +kernel
theorem dX1_placeOffer_14 : decode cX1_placeOffer 14 = .ok (.getfield 77, 3) := by decide +kernel
theorem dX1_placeOffer_17 : decode cX1_placeOffer 17 = .ok (.istore 4, 2) := by decide +kernel
theorem dX1_placeOffer_19 : decode cX1_placeOffer 19 = .ok (.aload_n 0, 1) := by decide +kernel
theorem dX1_placeOffer_20 : decode cX1_placeOffer 20 = .ok (.dup, 1) := by decide +kernel
theorem dX1_placeOffer_21 : decode cX1_placeOffer 21 = .ok (.getfield 77, 3) := by decide +kernel
theorem dX1_placeOffer_24 : decode cX1_placeOffer 24 = .ok (.iconst 1, 1) := by decide +kernel
theorem dX1_placeOffer_25 : decode cX1_placeOffer 25 = .ok (.iadd, 1) := by decide +kernel
theorem dX1_placeOffer_26 : decode cX1_placeOffer 26 = .ok (.putfield 77, 3) := by decide +kernel
theorem dX1_placeOffer_29 : decode cX1_placeOffer 29 = .ok (.aload_n 0, 1) := by decide +kernel
theorem dX1_placeOffer_30 : decode cX1_placeOffer 30 = .ok (.getfield 43, 3) := by decide +kernel
theorem dX1_placeOffer_33 : decode cX1_placeOffer 33 = .ok (.iload 4, 2) := by decide +kernel
theorem dX1_placeOffer_35 : decode cX1_placeOffer 35 = .ok (.iload_n 1, 1) := by decide +kernel
theorem dX1_placeOffer_36 : decode cX1_placeOffer 36 = .ok (.iastore, 1) := by decide +kernel
theorem dX1_placeOffer_37 : decode cX1_placeOffer 37 = .ok (.aload_n 0, 1) := by decide +kernel
theorem dX1_placeOffer_38 : decode cX1_placeOffer 38 = .ok (.getfield 46, 3) := by decide +kernel
theorem dX1_placeOffer_41 : decode cX1_placeOffer 41 = .ok (.iload 4, 2) := by decide +kernel
theorem dX1_placeOffer_43 : decode cX1_placeOffer 43 = .ok (.iload_n 2, 1) := by decide +kernel
theorem dX1_placeOffer_44 : decode cX1_placeOffer 44 = .ok (.iastore, 1) := by decide +kernel
theorem dX1_placeOffer_45 : decode cX1_placeOffer 45 = .ok (.aload_n 0, 1) := by decide +kernel
theorem dX1_placeOffer_46 : decode cX1_placeOffer 46 = .ok (.getfield 49, 3) := by decide +kernel
theorem dX1_placeOffer_49 : decode cX1_placeOffer 49 = .ok (.iload 4, 2) := by decide +kernel
theorem dX1_placeOffer_51 : decode cX1_placeOffer 51 = .ok (.iload_n 3, 1) := by decide +kernel
theorem dX1_placeOffer_52 : decode cX1_placeOffer 52 = .ok (.iastore, 1) := by decide +kernel
theorem dX1_placeOffer_53 : decode cX1_placeOffer 53 = .ok (.iload 4, 2) := by decide +kernel
theorem dX1_placeOffer_55 : decode cX1_placeOffer 55 = .ok (.ireturn, 1) := by decide +kernel
theorem dX1_acceptOffer_0 : decode cX1_acceptOffer 0 = .ok (.aload_n 0, 1) := by decide +kernel
theorem dX1_acceptOffer_1 : decode cX1_acceptOffer 1 = .ok (.iload_n 1, 1) := by decide +kernel
theorem dX1_acceptOffer_2 : decode cX1_acceptOffer 2 = .ok (.invokevirtual 143, 3) := by decide +kernel
theorem dX1_acceptOffer_5 : decode cX1_acceptOffer 5 = .ok (.ifCond .ne 6, 3) := by decide +kernel
theorem dX1_acceptOffer_8 : decode cX1_acceptOffer 8 = .ok (.bipush (-2), 2) := by decide +kernel
theorem dX1_acceptOffer_10 : decode cX1_acceptOffer 10 = .ok (.ireturn, 1) := by decide +kernel
theorem dX1_acceptOffer_11 : decode cX1_acceptOffer 11 = .ok (.aload_n 0, 1) := by decide +kernel
theorem dX1_acceptOffer_12 : decode cX1_acceptOffer 12 = .ok (.getfield 43, 3) := by decide +kernel
theorem dX1_acceptOffer_15 : decode cX1_acceptOffer 15 = .ok (.iload_n 1, 1) := by decide +kernel
theorem dX1_acceptOffer_16 : decode cX1_acceptOffer 16 = .ok (.iaload, 1) := by decide +kernel
theorem dX1_acceptOffer_17 : decode cX1_acceptOffer 17 = .ok (.istore_n 2, 1) := by decide +kernel
theorem dX1_acceptOffer_18 : decode cX1_acceptOffer 18 = .ok (.aload_n 0, 1) := by decide +kernel
theorem dX1_acceptOffer_19 : decode cX1_acceptOffer 19 = .ok (.getfield 46, 3) := by decide +kernel
theorem dX1_acceptOffer_22 : decode cX1_acceptOffer 22 = .ok (.iload_n 1, 1) := by decide +kernel
theorem dX1_acceptOffer_23 : decode cX1_acceptOffer 23 = .ok (.iaload, 1) := by decide +kernel
theorem dX1_acceptOffer_24 : decode cX1_acceptOffer 24 = .ok (.istore_n 3, 1) := by decide +kernel
theorem dX1_acceptOffer_25 : decode cX1_acceptOffer 25 = .ok (.aload_n 0, 1) := by decide +kernel
theorem dX1_acceptOffer_26 : decode cX1_acceptOffer 26 = .ok (.getfield 49, 3) := by decide +kernel
theorem dX1_acceptOffer_29 : decode cX1_acceptOffer 29 = .ok (.iload_n 1, 1) := by decide +kernel
theorem dX1_acceptOffer_30 : decode cX1_acceptOffer 30 = .ok (.iaload, 1) := by decide +kernel
theorem dX1_acceptOffer_31 : decode cX1_acceptOffer 31 = .ok (.istore 4, 2) := by decide +kernel
theorem dX1_acceptOffer_33 : decode cX1_acceptOffer 33 = .ok (.aload_n 0, 1) := by decide +kernel
theorem dX1_acceptOffer_34 : decode cX1_acceptOffer 34 = .ok (.iload_n 1, 1) := by decide +kernel
theorem dX1_acceptOffer_35 : decode cX1_acceptOffer 35 = .ok (.invokevirtual 146, 3) := by decide +kernel
theorem dX1_acceptOffer_38 : decode cX1_acceptOffer 38 = .ok (.aload_n 0, 1) := by decide +kernel
theorem dX1_acceptOffer_39 : decode cX1_acceptOffer 39 = .ok (.iload_n 2, 1) := by decide +kernel
theorem dX1_acceptOffer_40 : decode cX1_acceptOffer 40 = .ok (.iload_n 3, 1) := by decide +kernel
theorem dX1_acceptOffer_41 : decode cX1_acceptOffer 41 = .ok (.iload 4, 2) := by decide +kernel
theorem dX1_acceptOffer_43 : decode cX1_acceptOffer 43 = .ok (.invokevirtual 137, 3) := by decide +kernel
theorem dX1_acceptOffer_46 : decode cX1_acceptOffer 46 = .ok (.ifCond .ne 15, 3) := by decide +kernel
theorem dX1_acceptOffer_49 : decode cX1_acceptOffer 49 = .ok (.aload_n 0, 1) := by decide +kernel
theorem dX1_acceptOffer_50 : decode cX1_acceptOffer 50 = .ok (.getfield 15, 3) := by decide +kernel
theorem dX1_acceptOffer_53 : decode cX1_acceptOffer 53 = .ok (.iconst 5, 1) := by decide +kernel
theorem dX1_acceptOffer_54 : decode cX1_acceptOffer 54 = .ok (.dup2, 1) := by decide +kernel
theorem dX1_acceptOffer_55 : decode cX1_acceptOffer 55 = .ok (.iaload, 1) := by decide +kernel
theorem dX1_acceptOffer_56 : decode cX1_acceptOffer 56 = .ok (.iconst 1, 1) := by decide +kernel
theorem dX1_acceptOffer_57 : decode cX1_acceptOffer 57 = .ok (.iadd, 1) := by decide +kernel
theorem dX1_acceptOffer_58 : decode cX1_acceptOffer 58 = .ok (.iastore, 1) := by decide +kernel
theorem dX1_acceptOffer_59 : decode cX1_acceptOffer 59 = .ok (.iconst 0, 1) := by decide +kernel
theorem dX1_acceptOffer_60 : decode cX1_acceptOffer 60 = .ok (.ireturn, 1) := by decide +kernel
theorem dX1_acceptOffer_61 : decode cX1_acceptOffer 61 = .ok (.aload_n 0, 1) := by decide +kernel
theorem dX1_acceptOffer_62 : decode cX1_acceptOffer 62 = .ok (.getfield 37, 3) := by decide +kernel
theorem dX1_acceptOffer_65 : decode cX1_acceptOffer 65 = .ok (.iload_n 3, 1) := by decide +kernel
theorem dX1_acceptOffer_66 : decode cX1_acceptOffer 66 = .ok (.aload_n 0, 1) := by decide +kernel
theorem dX1_acceptOffer_67 : decode cX1_acceptOffer 67 = .ok (.getfield 37, 3) := by decide +kernel
theorem dX1_acceptOffer_70 : decode cX1_acceptOffer 70 = .ok (.iload 4, 2) := by decide +kernel
theorem dX1_acceptOffer_72 : decode cX1_acceptOffer 72 = .ok (.iaload, 1) := by decide +kernel
theorem dX1_acceptOffer_73 : decode cX1_acceptOffer 73 = .ok (.iastore, 1) := by decide +kernel
theorem dX1_acceptOffer_74 : decode cX1_acceptOffer 74 = .ok (.aload_n 0, 1) := by decide +kernel
theorem dX1_acceptOffer_75 : decode cX1_acceptOffer 75 = .ok (.getfield 37, 3) := by decide +kernel
theorem dX1_acceptOffer_78 : decode cX1_acceptOffer 78 = .ok (.iload 4, 2) := by decide +kernel
theorem dX1_acceptOffer_80 : decode cX1_acceptOffer 80 = .ok (.iload_n 2, 1) := by decide +kernel
theorem dX1_acceptOffer_81 : decode cX1_acceptOffer 81 = .ok (.iastore, 1) := by decide +kernel
theorem dX1_acceptOffer_82 : decode cX1_acceptOffer 82 = .ok (.aload_n 0, 1) := by decide +kernel
theorem dX1_acceptOffer_83 : decode cX1_acceptOffer 83 = .ok (.getfield 15, 3) := by decide +kernel
theorem dX1_acceptOffer_86 : decode cX1_acceptOffer 86 = .ok (.iconst 4, 1) := by decide +kernel
theorem dX1_acceptOffer_87 : decode cX1_acceptOffer 87 = .ok (.dup2, 1) := by decide +kernel
theorem dX1_acceptOffer_88 : decode cX1_acceptOffer 88 = .ok (.iaload, 1) := by decide +kernel
theorem dX1_acceptOffer_89 : decode cX1_acceptOffer 89 = .ok (.iconst 1, 1) := by decide +kernel
theorem dX1_acceptOffer_90 : decode cX1_acceptOffer 90 = .ok (.iadd, 1) := by decide +kernel
theorem dX1_acceptOffer_91 : decode cX1_acceptOffer 91 = .ok (.iastore, 1) := by decide +kernel
theorem dX1_acceptOffer_92 : decode cX1_acceptOffer 92 = .ok (.iconst 1, 1) := by decide +kernel
theorem dX1_acceptOffer_93 : decode cX1_acceptOffer 93 = .ok (.ireturn, 1) := by decide +kernel
theorem dX1_dropOffer_0 : decode cX1_dropOffer 0 = .ok (.aload_n 0, 1) := by decide +kernel
theorem dX1_dropOffer_1 : decode cX1_dropOffer 1 = .ok (.dup, 1) := by decide +kernel
theorem dX1_dropOffer_2 : decode cX1_dropOffer 2 = .ok (.getfield 77, 3) := by decide +kernel
theorem dX1_dropOffer_5 : decode cX1_dropOffer 5 = .ok (.iconst 1, 1) := by decide +kernel
theorem dX1_dropOffer_6 : decode cX1_dropOffer 6 = .ok (.isub, 1) := by decide +kernel
theorem dX1_dropOffer_7 : decode cX1_dropOffer 7 = .ok (.putfield 77, 3) := by decide +kernel
theorem dX1_dropOffer_10 : decode cX1_dropOffer 10 = .ok (.iload_n 1, 1) := by decide +kernel
theorem dX1_dropOffer_11 : decode cX1_dropOffer 11 = .ok (.istore_n 2, 1) := by decide +kernel
theorem dX1_dropOffer_12 : decode cX1_dropOffer 12 = .ok (.iload_n 2, 1) := by decide +kernel
theorem dX1_dropOffer_13 : decode cX1_dropOffer 13 = .ok (.aload_n 0, 1) := by decide +kernel
theorem dX1_dropOffer_14 : decode cX1_dropOffer 14 = .ok (.getfield 77, 3) := by decide +kernel
theorem dX1_dropOffer_17 : decode cX1_dropOffer 17 = .ok (.if_icmp .ge 59, 3) := by decide +kernel
theorem dX1_dropOffer_20 : decode cX1_dropOffer 20 = .ok (.iload_n 2, 1) := by decide +kernel
theorem dX1_dropOffer_21 : decode cX1_dropOffer 21 = .ok (.iconst 1, 1) := by decide +kernel
theorem dX1_dropOffer_22 : decode cX1_dropOffer 22 = .ok (.iadd, 1) := by decide +kernel
theorem dX1_dropOffer_23 : decode cX1_dropOffer 23 = .ok (.bipush 8, 2) := by decide +kernel
theorem dX1_dropOffer_25 : decode cX1_dropOffer 25 = .ok (.if_icmp .ge 51, 3) := by decide +kernel
theorem dX1_dropOffer_28 : decode cX1_dropOffer 28 = .ok (.aload_n 0, 1) := by decide +kernel
theorem dX1_dropOffer_29 : decode cX1_dropOffer 29 = .ok (.getfield 43, 3) := by decide +kernel
theorem dX1_dropOffer_32 : decode cX1_dropOffer 32 = .ok (.iload_n 2, 1) := by decide +kernel
theorem dX1_dropOffer_33 : decode cX1_dropOffer 33 = .ok (.aload_n 0, 1) := by decide +kernel
theorem dX1_dropOffer_34 : decode cX1_dropOffer 34 = .ok (.getfield 43, 3) := by decide +kernel
theorem dX1_dropOffer_37 : decode cX1_dropOffer 37 = .ok (.iload_n 2, 1) := by decide +kernel
theorem dX1_dropOffer_38 : decode cX1_dropOffer 38 = .ok (.iconst 1, 1) := by decide +kernel
theorem dX1_dropOffer_39 : decode cX1_dropOffer 39 = .ok (.iadd, 1) := by decide +kernel
theorem dX1_dropOffer_40 : decode cX1_dropOffer 40 = .ok (.iaload, 1) := by decide +kernel
theorem dX1_dropOffer_41 : decode cX1_dropOffer 41 = .ok (.iastore, 1) := by decide +kernel
theorem dX1_dropOffer_42 : decode cX1_dropOffer 42 = .ok (.aload_n 0, 1) := by decide +kernel
theorem dX1_dropOffer_43 : decode cX1_dropOffer 43 = .ok (.getfield 46, 3) := by decide +kernel
theorem dX1_dropOffer_46 : decode cX1_dropOffer 46 = .ok (.iload_n 2, 1) := by decide +kernel
theorem dX1_dropOffer_47 : decode cX1_dropOffer 47 = .ok (.aload_n 0, 1) := by decide +kernel
theorem dX1_dropOffer_48 : decode cX1_dropOffer 48 = .ok (.getfield 46, 3) := by decide +kernel
theorem dX1_dropOffer_51 : decode cX1_dropOffer 51 = .ok (.iload_n 2, 1) := by decide +kernel
theorem dX1_dropOffer_52 : decode cX1_dropOffer 52 = .ok (.iconst 1, 1) := by decide +kernel
theorem dX1_dropOffer_53 : decode cX1_dropOffer 53 = .ok (.iadd, 1) := by decide +kernel
theorem dX1_dropOffer_54 : decode cX1_dropOffer 54 = .ok (.iaload, 1) := by decide +kernel
theorem dX1_dropOffer_55 : decode cX1_dropOffer 55 = .ok (.iastore, 1) := by decide +kernel
theorem dX1_dropOffer_56 : decode cX1_dropOffer 56 = .ok (.aload_n 0, 1) := by decide +kernel
theorem dX1_dropOffer_57 : decode cX1_dropOffer 57 = .ok (.getfield 49, 3) := by decide +kernel
theorem dX1_dropOffer_60 : decode cX1_dropOffer 60 = .ok (.iload_n 2, 1) := by decide +kernel
theorem dX1_dropOffer_61 : decode cX1_dropOffer 61 = .ok (.aload_n 0, 1) := by decide +kernel
theorem dX1_dropOffer_62 : decode cX1_dropOffer 62 = .ok (.getfield 49, 3) := by decide +kernel
theorem dX1_dropOffer_65 : decode cX1_dropOffer 65 = .ok (.iload_n 2, 1) := by decide +kernel
theorem dX1_dropOffer_66 : decode cX1_dropOffer 66 = .ok (.iconst 1, 1) := by decide +kernel
theorem dX1_dropOffer_67 : decode cX1_dropOffer 67 = .ok (.iadd, 1) := by decide +kernel
theorem dX1_dropOffer_68 : decode cX1_dropOffer 68 = .ok (.iaload, 1) := by decide +kernel
theorem dX1_dropOffer_69 : decode cX1_dropOffer 69 = .ok (.iastore, 1) := by decide +kernel
theorem dX1_dropOffer_70 : decode cX1_dropOffer 70 = .ok (.iinc 2 1, 3) := by decide +kernel
theorem dX1_dropOffer_73 : decode cX1_dropOffer 73 = .ok (.goto (-61), 3) := by decide +kernel
theorem dX1_dropOffer_76 : decode cX1_dropOffer 76 = .ok (.return_, 1) := by decide +kernel
theorem dX1_payUpkeep_0 : decode cX1_payUpkeep 0 = .ok (.aload_n 0, 1) := by decide +kernel
theorem dX1_payUpkeep_1 : decode cX1_payUpkeep 1 = .ok (.getfield 74, 3) := by decide +kernel
theorem dX1_payUpkeep_4 : decode cX1_payUpkeep 4 = .ok (.ifCond .eq 15, 3) := by decide +kernel
theorem dX1_payUpkeep_7 : decode cX1_payUpkeep 7 = .ok (.iload_n 1, 1) := by decide +kernel
theorem dX1_payUpkeep_8 : decode cX1_payUpkeep 8 = .ok (.iconst 1, 1) := by decide +kernel
theorem dX1_payUpkeep_9 : decode cX1_payUpkeep 9 = .ok (.if_icmp .lt 10, 3) := by decide +kernel
theorem dX1_payUpkeep_12 : decode cX1_payUpkeep 12 = .ok (.iload_n 1, 1) := by decide +kernel
theorem dX1_payUpkeep_13 : decode cX1_payUpkeep 13 = .ok (.sipush 999, 3) := by decide +kernel
theorem dX1_payUpkeep_16 : decode cX1_payUpkeep 16 = .ok (.if_icmp .le 6, 3) := by decide +kernel
theorem dX1_payUpkeep_19 : decode cX1_payUpkeep 19 = .ok (.bipush (-2), 2) := by decide +kernel
theorem dX1_payUpkeep_21 : decode cX1_payUpkeep 21 = .ok (.ireturn, 1) := by decide +kernel
theorem dX1_payUpkeep_22 : decode cX1_payUpkeep 22 = .ok (.iconst 0, 1) := by decide +kernel
theorem dX1_payUpkeep_23 : decode cX1_payUpkeep 23 = .ok (.istore_n 2, 1) := by decide +kernel
theorem dX1_payUpkeep_24 : decode cX1_payUpkeep 24 = .ok (.iconst 0, 1) := by decide +kernel
theorem dX1_payUpkeep_25 : decode cX1_payUpkeep 25 = .ok (.istore_n 3, 1) := by decide +kernel
theorem dX1_payUpkeep_26 : decode cX1_payUpkeep 26 = .ok (.iload_n 3, 1) := by decide +kernel
theorem dX1_payUpkeep_27 : decode cX1_payUpkeep 27 = .ok (.bipush 6, 2) := by decide +kernel
theorem dX1_payUpkeep_29 : decode cX1_payUpkeep 29 = .ok (.if_icmp .ge 35, 3) := by decide +kernel
theorem dX1_payUpkeep_32 : decode cX1_payUpkeep 32 = .ok (.aload_n 0, 1) := by decide +kernel
theorem dX1_payUpkeep_33 : decode cX1_payUpkeep 33 = .ok (.iload_n 3, 1) := by decide +kernel
theorem dX1_payUpkeep_34 : decode cX1_payUpkeep 34 = .ok (.iload_n 1, 1) := by decide +kernel
theorem dX1_payUpkeep_35 : decode cX1_payUpkeep 35 = .ok (.invokevirtual 149, 3) := by decide +kernel
theorem dX1_payUpkeep_38 : decode cX1_payUpkeep 38 = .ok (.istore 4, 2) := by decide +kernel
theorem dX1_payUpkeep_40 : decode cX1_payUpkeep 40 = .ok (.aload_n 0, 1) := by decide +kernel
theorem dX1_payUpkeep_41 : decode cX1_payUpkeep 41 = .ok (.getfield 27, 3) := by decide +kernel
theorem dX1_payUpkeep_44 : decode cX1_payUpkeep 44 = .ok (.iload_n 3, 1) := by decide +kernel
theorem dX1_payUpkeep_45 : decode cX1_payUpkeep 45 = .ok (.dup2, 1) := by decide +kernel
theorem dX1_payUpkeep_46 : decode cX1_payUpkeep 46 = .ok (.iaload, 1) := by decide +kernel
theorem dX1_payUpkeep_47 : decode cX1_payUpkeep 47 = .ok (.iload 4, 2) := by decide +kernel
theorem dX1_payUpkeep_49 : decode cX1_payUpkeep 49 = .ok (.iadd, 1) := by decide +kernel
theorem dX1_payUpkeep_50 : decode cX1_payUpkeep 50 = .ok (.iastore, 1) := by decide +kernel
theorem dX1_payUpkeep_51 : decode cX1_payUpkeep 51 = .ok (.iload_n 2, 1) := by decide +kernel
theorem dX1_payUpkeep_52 : decode cX1_payUpkeep 52 = .ok (.iload 4, 2) := by decide +kernel
theorem dX1_payUpkeep_54 : decode cX1_payUpkeep 54 = .ok (.invokestatic 95, 3) := by decide +kernel
theorem dX1_payUpkeep_57 : decode cX1_payUpkeep 57 = .ok (.istore_n 2, 1) := by decide +kernel
theorem dX1_payUpkeep_58 : decode cX1_payUpkeep 58 = .ok (.iinc 3 1, 3) := by decide +kernel
theorem dX1_payUpkeep_61 : decode cX1_payUpkeep 61 = .ok (.goto (-35), 3) := by decide +kernel
theorem dX1_payUpkeep_64 : decode cX1_payUpkeep 64 = .ok (.aload_n 0, 1) := by decide +kernel
theorem dX1_payUpkeep_65 : decode cX1_payUpkeep 65 = .ok (.getfield 15, 3) := by decide +kernel
theorem dX1_payUpkeep_68 : decode cX1_payUpkeep 68 = .ok (.bipush 7, 2) := by decide +kernel
theorem dX1_payUpkeep_70 : decode cX1_payUpkeep 70 = .ok (.dup2, 1) := by decide +kernel
theorem dX1_payUpkeep_71 : decode cX1_payUpkeep 71 = .ok (.iaload, 1) := by decide +kernel
theorem dX1_payUpkeep_72 : decode cX1_payUpkeep 72 = .ok (.iload_n 1, 1) := by decide +kernel
theorem dX1_payUpkeep_73 : decode cX1_payUpkeep 73 = .ok (.iadd, 1) := by decide +kernel
theorem dX1_payUpkeep_74 : decode cX1_payUpkeep 74 = .ok (.iastore, 1) := by decide +kernel
theorem dX1_payUpkeep_75 : decode cX1_payUpkeep 75 = .ok (.iload_n 2, 1) := by decide +kernel
theorem dX1_payUpkeep_76 : decode cX1_payUpkeep 76 = .ok (.ireturn, 1) := by decide +kernel
theorem dX1_partOf_0 : decode cX1_partOf 0 = .ok (.aload_n 0, 1) := by decide +kernel
theorem dX1_partOf_1 : decode cX1_partOf 1 = .ok (.invokevirtual 152, 3) := by decide +kernel
theorem dX1_partOf_4 : decode cX1_partOf 4 = .ok (.istore_n 3, 1) := by decide +kernel
theorem dX1_partOf_5 : decode cX1_partOf 5 = .ok (.aload_n 0, 1) := by decide +kernel
theorem dX1_partOf_6 : decode cX1_partOf 6 = .ok (.iload_n 1, 1) := by decide +kernel
theorem dX1_partOf_7 : decode cX1_partOf 7 = .ok (.invokevirtual 80, 3) := by decide +kernel
theorem dX1_partOf_10 : decode cX1_partOf 10 = .ok (.ifCond .eq 7, 3) := by decide +kernel
theorem dX1_partOf_13 : decode cX1_partOf 13 = .ok (.iload_n 3, 1) := by decide +kernel
theorem dX1_partOf_14 : decode cX1_partOf 14 = .ok (.ifCond .gt 5, 3) := by decide +kernel
theorem dX1_partOf_17 : decode cX1_partOf 17 = .ok (.iconst 0, 1) := by decide +kernel
theorem dX1_partOf_18 : decode cX1_partOf 18 = .ok (.ireturn, 1) := by decide +kernel
theorem dX1_partOf_19 : decode cX1_partOf 19 = .ok (.iload_n 2, 1) := by decide +kernel
theorem dX1_partOf_20 : decode cX1_partOf 20 = .ok (.aload_n 0, 1) := by decide +kernel
theorem dX1_partOf_21 : decode cX1_partOf 21 = .ok (.getfield 18, 3) := by decide +kernel
theorem dX1_partOf_24 : decode cX1_partOf 24 = .ok (.iload_n 1, 1) := by decide +kernel
theorem dX1_partOf_25 : decode cX1_partOf 25 = .ok (.iaload, 1) := by decide +kernel
theorem dX1_partOf_26 : decode cX1_partOf 26 = .ok (.imul, 1) := by decide +kernel
theorem dX1_partOf_27 : decode cX1_partOf 27 = .ok (.iload_n 3, 1) := by decide +kernel
theorem dX1_partOf_28 : decode cX1_partOf 28 = .ok (.irem, 1) := by decide +kernel
theorem dX1_partOf_29 : decode cX1_partOf 29 = .ok (.istore 4, 2) := by decide +kernel
theorem dX1_partOf_31 : decode cX1_partOf 31 = .ok (.iload_n 2, 1) := by decide +kernel
theorem dX1_partOf_32 : decode cX1_partOf 32 = .ok (.istore 5, 2) := by decide +kernel
theorem dX1_partOf_34 : decode cX1_partOf 34 = .ok (.iconst 0, 1) := by decide +kernel
theorem dX1_partOf_35 : decode cX1_partOf 35 = .ok (.istore 6, 2) := by decide +kernel
theorem dX1_partOf_37 : decode cX1_partOf 37 = .ok (.iconst 0, 1) := by decide +kernel
theorem dX1_partOf_38 : decode cX1_partOf 38 = .ok (.istore 7, 2) := by decide +kernel
theorem dX1_partOf_40 : decode cX1_partOf 40 = .ok (.iload 7, 2) := by decide +kernel
theorem dX1_partOf_42 : decode cX1_partOf 42 = .ok (.bipush 6, 2) := by decide +kernel
theorem dX1_partOf_44 : decode cX1_partOf 44 = .ok (.if_icmp .ge 61, 3) := by decide +kernel
theorem dX1_partOf_47 : decode cX1_partOf 47 = .ok (.iload 5, 2) := by decide +kernel
theorem dX1_partOf_49 : decode cX1_partOf 49 = .ok (.iload_n 2, 1) := by decide +kernel
theorem dX1_partOf_50 : decode cX1_partOf 50 = .ok (.aload_n 0, 1) := by decide +kernel
theorem dX1_partOf_51 : decode cX1_partOf 51 = .ok (.getfield 18, 3) := by decide +kernel
theorem dX1_partOf_54 : decode cX1_partOf 54 = .ok (.iload 7, 2) := by decide +kernel
theorem dX1_partOf_56 : decode cX1_partOf 56 = .ok (.iaload, 1) := by decide +kernel
theorem dX1_partOf_57 : decode cX1_partOf 57 = .ok (.imul, 1) := by decide +kernel
theorem dX1_partOf_58 : decode cX1_partOf 58 = .ok (.iload_n 3, 1) := by decide +kernel
theorem dX1_partOf_59 : decode cX1_partOf 59 = .ok (.idiv, 1) := by decide +kernel
theorem dX1_partOf_60 : decode cX1_partOf 60 = .ok (.isub, 1) := by decide +kernel
theorem dX1_partOf_61 : decode cX1_partOf 61 = .ok (.istore 5, 2) := by decide +kernel
theorem dX1_partOf_63 : decode cX1_partOf 63 = .ok (.iload_n 2, 1) := by decide +kernel
theorem dX1_partOf_64 : decode cX1_partOf 64 = .ok (.aload_n 0, 1) := by decide +kernel
theorem dX1_partOf_65 : decode cX1_partOf 65 = .ok (.getfield 18, 3) := by decide +kernel
theorem dX1_partOf_68 : decode cX1_partOf 68 = .ok (.iload 7, 2) := by decide +kernel
theorem dX1_partOf_70 : decode cX1_partOf 70 = .ok (.iaload, 1) := by decide +kernel
theorem dX1_partOf_71 : decode cX1_partOf 71 = .ok (.imul, 1) := by decide +kernel
theorem dX1_partOf_72 : decode cX1_partOf 72 = .ok (.iload_n 3, 1) := by decide +kernel
theorem dX1_partOf_73 : decode cX1_partOf 73 = .ok (.irem, 1) := by decide +kernel
theorem dX1_partOf_74 : decode cX1_partOf 74 = .ok (.istore 8, 2) := by decide +kernel
theorem dX1_partOf_76 : decode cX1_partOf 76 = .ok (.iload 8, 2) := by decide +kernel
theorem dX1_partOf_78 : decode cX1_partOf 78 = .ok (.iload 4, 2) := by decide +kernel
theorem dX1_partOf_80 : decode cX1_partOf 80 = .ok (.if_icmp .gt 16, 3) := by decide +kernel
theorem dX1_partOf_83 : decode cX1_partOf 83 = .ok (.iload 8, 2) := by decide +kernel
theorem dX1_partOf_85 : decode cX1_partOf 85 = .ok (.iload 4, 2) := by decide +kernel
theorem dX1_partOf_87 : decode cX1_partOf 87 = .ok (.if_icmp .ne 12, 3) := by decide +kernel
theorem dX1_partOf_90 : decode cX1_partOf 90 = .ok (.iload 7, 2) := by decide +kernel
theorem dX1_partOf_92 : decode cX1_partOf 92 = .ok (.iload_n 1, 1) := by decide +kernel
theorem dX1_partOf_93 : decode cX1_partOf 93 = .ok (.if_icmp .ge 6, 3) := by decide +kernel
theorem dX1_partOf_96 : decode cX1_partOf 96 = .ok (.iinc 6 1, 3) := by decide +kernel
theorem dX1_partOf_99 : decode cX1_partOf 99 = .ok (.iinc 7 1, 3) := by decide +kernel
theorem dX1_partOf_102 : decode cX1_partOf 102 = .ok (.goto (-62), 3) := by decide +kernel
theorem dX1_partOf_105 : decode cX1_partOf 105 = .ok (.iload_n 2, 1) := by decide +kernel
theorem dX1_partOf_106 : decode cX1_partOf 106 = .ok (.aload_n 0, 1) := by decide +kernel
theorem dX1_partOf_107 : decode cX1_partOf 107 = .ok (.getfield 18, 3) := by decide +kernel
theorem dX1_partOf_110 : decode cX1_partOf 110 = .ok (.iload_n 1, 1) := by decide +kernel
theorem dX1_partOf_111 : decode cX1_partOf 111 = .ok (.iaload, 1) := by decide +kernel
theorem dX1_partOf_112 : decode cX1_partOf 112 = .ok (.imul, 1) := by decide +kernel
theorem dX1_partOf_113 : decode cX1_partOf 113 = .ok (.iload_n 3, 1) := by decide +kernel
theorem dX1_partOf_114 : decode cX1_partOf 114 = .ok (.idiv, 1) := by decide +kernel
theorem dX1_partOf_115 : decode cX1_partOf 115 = .ok (.iload 6, 2) := by decide +kernel
theorem dX1_partOf_117 : decode cX1_partOf 117 = .ok (.iload 5, 2) := by decide +kernel
theorem dX1_partOf_119 : decode cX1_partOf 119 = .ok (.if_icmp .ge 7, 3) := by decide +kernel
theorem dX1_partOf_122 : decode cX1_partOf 122 = .ok (.iconst 1, 1) := by decide +kernel
theorem dX1_partOf_123 : decode cX1_partOf 123 = .ok (.goto 4, 3) := by decide +kernel
theorem dX1_partOf_126 : decode cX1_partOf 126 = .ok (.iconst 0, 1) := by decide +kernel
theorem dX1_partOf_127 : decode cX1_partOf 127 = .ok (.iadd, 1) := by decide +kernel
theorem dX1_partOf_128 : decode cX1_partOf 128 = .ok (.ireturn, 1) := by decide +kernel
theorem dX1_sharesOfAll_0 : decode cX1_sharesOfAll 0 = .ok (.iconst 0, 1) := by decide +kernel
theorem dX1_sharesOfAll_1 : decode cX1_sharesOfAll 1 = .ok (.istore_n 1, 1) := by decide +kernel
theorem dX1_sharesOfAll_2 : decode cX1_sharesOfAll 2 = .ok (.iconst 0, 1) := by decide +kernel
theorem dX1_sharesOfAll_3 : decode cX1_sharesOfAll 3 = .ok (.istore_n 2, 1) := by decide +kernel
theorem dX1_sharesOfAll_4 : decode cX1_sharesOfAll 4 = .ok (.iload_n 2, 1) := by decide +kernel
theorem dX1_sharesOfAll_5 : decode cX1_sharesOfAll 5 = .ok (.bipush 6, 2) := by decide +kernel
theorem dX1_sharesOfAll_7 : decode cX1_sharesOfAll 7 = .ok (.if_icmp .ge 18, 3) := by decide +kernel
theorem dX1_sharesOfAll_10 : decode cX1_sharesOfAll 10 = .ok (.iload_n 1, 1) := by decide +kernel
theorem dX1_sharesOfAll_11 : decode cX1_sharesOfAll 11 = .ok (.aload_n 0, 1) := by decide +kernel
theorem dX1_sharesOfAll_12 : decode cX1_sharesOfAll 12 = .ok (.getfield 18, 3) := by decide +kernel
theorem dX1_sharesOfAll_15 : decode cX1_sharesOfAll 15 = .ok (.iload_n 2, 1) := by decide +kernel
theorem dX1_sharesOfAll_16 : decode cX1_sharesOfAll 16 = .ok (.iaload, 1) := by decide +kernel
theorem dX1_sharesOfAll_17 : decode cX1_sharesOfAll 17 = .ok (.iadd, 1) := by decide +kernel
theorem dX1_sharesOfAll_18 : decode cX1_sharesOfAll 18 = .ok (.istore_n 1, 1) := by decide +kernel
theorem dX1_sharesOfAll_19 : decode cX1_sharesOfAll 19 = .ok (.iinc 2 1, 3) := by decide +kernel
theorem dX1_sharesOfAll_22 : decode cX1_sharesOfAll 22 = .ok (.goto (-18), 3) := by decide +kernel
theorem dX1_sharesOfAll_25 : decode cX1_sharesOfAll 25 = .ok (.iload_n 1, 1) := by decide +kernel
theorem dX1_sharesOfAll_26 : decode cX1_sharesOfAll 26 = .ok (.ireturn, 1) := by decide +kernel
theorem dX1_beginYear_0 : decode cX1_beginYear 0 = .ok (.aload_n 0, 1) := by decide +kernel
theorem dX1_beginYear_1 : decode cX1_beginYear 1 = .ok (.dup, 1) := by decide +kernel
theorem dX1_beginYear_2 : decode cX1_beginYear 2 = .ok (.getfield 70, 3) := by decide +kernel
theorem dX1_beginYear_5 : decode cX1_beginYear 5 = .ok (.iconst 1, 1) := by decide +kernel
theorem dX1_beginYear_6 : decode cX1_beginYear 6 = .ok (.iadd, 1) := by decide +kernel
theorem dX1_beginYear_7 : decode cX1_beginYear 7 = .ok (.putfield 70, 3) := by decide +kernel
theorem dX1_beginYear_10 : decode cX1_beginYear 10 = .ok (.aload_n 0, 1) := by decide +kernel
theorem dX1_beginYear_11 : decode cX1_beginYear 11 = .ok (.getfield 37, 3) := by decide +kernel
theorem dX1_beginYear_14 : decode cX1_beginYear 14 = .ok (.iconst (-1), 1) := by decide +kernel
theorem dX1_beginYear_15 : decode cX1_beginYear 15 = .ok (.invokestatic 64, 3) := by decide +kernel
theorem dX1_beginYear_18 : decode cX1_beginYear 18 = .ok (.aload_n 0, 1) := by decide +kernel
theorem dX1_beginYear_19 : decode cX1_beginYear 19 = .ok (.getfield 40, 3) := by decide +kernel
theorem dX1_beginYear_22 : decode cX1_beginYear 22 = .ok (.iconst (-1), 1) := by decide +kernel
theorem dX1_beginYear_23 : decode cX1_beginYear 23 = .ok (.invokestatic 64, 3) := by decide +kernel
theorem dX1_beginYear_26 : decode cX1_beginYear 26 = .ok (.aload_n 0, 1) := by decide +kernel
theorem dX1_beginYear_27 : decode cX1_beginYear 27 = .ok (.iconst 0, 1) := by decide +kernel
theorem dX1_beginYear_28 : decode cX1_beginYear 28 = .ok (.putfield 77, 3) := by decide +kernel
theorem dX1_beginYear_31 : decode cX1_beginYear 31 = .ok (.iconst 0, 1) := by decide +kernel
theorem dX1_beginYear_32 : decode cX1_beginYear 32 = .ok (.istore_n 1, 1) := by decide +kernel
theorem dX1_beginYear_33 : decode cX1_beginYear 33 = .ok (.iconst 0, 1) := by decide +kernel
theorem dX1_beginYear_34 : decode cX1_beginYear 34 = .ok (.istore_n 2, 1) := by decide +kernel
theorem dX1_beginYear_35 : decode cX1_beginYear 35 = .ok (.iload_n 2, 1) := by decide +kernel
theorem dX1_beginYear_36 : decode cX1_beginYear 36 = .ok (.bipush 6, 2) := by decide +kernel
theorem dX1_beginYear_38 : decode cX1_beginYear 38 = .ok (.if_icmp .ge 46, 3) := by decide +kernel
theorem dX1_beginYear_41 : decode cX1_beginYear 41 = .ok (.iconst 0, 1) := by decide +kernel
theorem dX1_beginYear_42 : decode cX1_beginYear 42 = .ok (.aload_n 0, 1) := by decide +kernel
theorem dX1_beginYear_43 : decode cX1_beginYear 43 = .ok (.getfield 21, 3) := by decide +kernel
theorem dX1_beginYear_46 : decode cX1_beginYear 46 = .ok (.iload_n 2, 1) := by decide +kernel
theorem dX1_beginYear_47 : decode cX1_beginYear 47 = .ok (.iaload, 1) := by decide +kernel
theorem dX1_beginYear_48 : decode cX1_beginYear 48 = .ok (.aload_n 0, 1) := by decide +kernel
theorem dX1_beginYear_49 : decode cX1_beginYear 49 = .ok (.getfield 9, 3) := by decide +kernel
theorem dX1_beginYear_52 : decode cX1_beginYear 52 = .ok (.iconst 1, 1) := by decide +kernel
theorem dX1_beginYear_53 : decode cX1_beginYear 53 = .ok (.iaload, 1) := by decide +kernel
theorem dX1_beginYear_54 : decode cX1_beginYear 54 = .ok (.isub, 1) := by decide +kernel
theorem dX1_beginYear_55 : decode cX1_beginYear 55 = .ok (.invokestatic 95, 3) := by decide +kernel
theorem dX1_beginYear_58 : decode cX1_beginYear 58 = .ok (.istore_n 3, 1) := by decide +kernel
theorem dX1_beginYear_59 : decode cX1_beginYear 59 = .ok (.aload_n 0, 1) := by decide +kernel
theorem dX1_beginYear_60 : decode cX1_beginYear 60 = .ok (.getfield 21, 3) := by decide +kernel
theorem dX1_beginYear_63 : decode cX1_beginYear 63 = .ok (.iload_n 2, 1) := by decide +kernel
theorem dX1_beginYear_64 : decode cX1_beginYear 64 = .ok (.dup2, 1) := by decide +kernel
theorem dX1_beginYear_65 : decode cX1_beginYear 65 = .ok (.iaload, 1) := by decide +kernel
theorem dX1_beginYear_66 : decode cX1_beginYear 66 = .ok (.iload_n 3, 1) := by decide +kernel
theorem dX1_beginYear_67 : decode cX1_beginYear 67 = .ok (.isub, 1) := by decide +kernel
theorem dX1_beginYear_68 : decode cX1_beginYear 68 = .ok (.iastore, 1) := by decide +kernel
theorem dX1_beginYear_69 : decode cX1_beginYear 69 = .ok (.iload_n 1, 1) := by decide +kernel
theorem dX1_beginYear_70 : decode cX1_beginYear 70 = .ok (.iload_n 3, 1) := by decide +kernel
theorem dX1_beginYear_71 : decode cX1_beginYear 71 = .ok (.iadd, 1) := by decide +kernel
theorem dX1_beginYear_72 : decode cX1_beginYear 72 = .ok (.istore_n 1, 1) := by decide +kernel
theorem dX1_beginYear_73 : decode cX1_beginYear 73 = .ok (.aload_n 0, 1) := by decide +kernel
theorem dX1_beginYear_74 : decode cX1_beginYear 74 = .ok (.iload_n 2, 1) := by decide +kernel
theorem dX1_beginYear_75 : decode cX1_beginYear 75 = .ok (.invokevirtual 100, 3) := by decide +kernel
theorem dX1_beginYear_78 : decode cX1_beginYear 78 = .ok (.iinc 2 1, 3) := by decide +kernel
theorem dX1_beginYear_81 : decode cX1_beginYear 81 = .ok (.goto (-46), 3) := by decide +kernel
theorem dX1_beginYear_84 : decode cX1_beginYear 84 = .ok (.aload_n 0, 1) := by decide +kernel
theorem dX1_beginYear_85 : decode cX1_beginYear 85 = .ok (.getfield 15, 3) := by decide +kernel
theorem dX1_beginYear_88 : decode cX1_beginYear 88 = .ok (.iconst 3, 1) := by decide +kernel
theorem dX1_beginYear_89 : decode cX1_beginYear 89 = .ok (.dup2, 1) := by decide +kernel
theorem dX1_beginYear_90 : decode cX1_beginYear 90 = .ok (.iaload, 1) := by decide +kernel
theorem dX1_beginYear_91 : decode cX1_beginYear 91 = .ok (.iload_n 1, 1) := by decide +kernel
theorem dX1_beginYear_92 : decode cX1_beginYear 92 = .ok (.iadd, 1) := by decide +kernel
theorem dX1_beginYear_93 : decode cX1_beginYear 93 = .ok (.iastore, 1) := by decide +kernel
theorem dX1_beginYear_94 : decode cX1_beginYear 94 = .ok (.iload_n 1, 1) := by decide +kernel
theorem dX1_beginYear_95 : decode cX1_beginYear 95 = .ok (.ireturn, 1) := by decide +kernel
theorem dX2_init_0 : decode cX2_init 0 = .ok (.aload_n 0, 1) := by decide +kernel
theorem dX2_init_1 : decode cX2_init 1 = .ok (.invokespecial 3, 3) := by decide +kernel
theorem dX2_init_4 : decode cX2_init 4 = .ok (.aload_n 0, 1) := by decide +kernel
theorem dX2_init_5 : decode cX2_init 5 = .ok (.bipush 20, 2) := by decide +kernel
theorem dX2_init_7 : decode cX2_init 7 = .ok (.newarray .int, 2) := by decide +kernel
theorem dX2_init_9 : decode cX2_init 9 = .ok (.putfield 9, 3) := by decide +kernel
theorem dX2_init_12 : decode cX2_init 12 = .ok (.aload_n 0, 1) := by decide +kernel
theorem dX2_init_13 : decode cX2_init 13 = .ok (.bipush 20, 2) := by decide +kernel
theorem dX2_init_15 : decode cX2_init 15 = .ok (.newarray .int, 2) := by decide +kernel
theorem dX2_init_17 : decode cX2_init 17 = .ok (.putfield 15, 3) := by decide +kernel
theorem dX2_init_20 : decode cX2_init 20 = .ok (.return_, 1) := by decide +kernel
theorem dX2_countByMoving_0 : decode cX2_countByMoving 0 = .ok (.aload_n 0, 1) := by decide +kernel
theorem dX2_countByMoving_1 : decode cX2_countByMoving 1 = .ok (.getfield 9, 3) := by decide +kernel
theorem dX2_countByMoving_4 : decode cX2_countByMoving 4 = .ok (.iconst (-1), 1) := by decide +kernel
theorem dX2_countByMoving_5 : decode cX2_countByMoving 5 = .ok (.invokestatic 18, 3) := by decide +kernel
theorem dX2_countByMoving_8 : decode cX2_countByMoving 8 = .ok (.iconst 0, 1) := by decide +kernel
theorem dX2_countByMoving_9 : decode cX2_countByMoving 9 = .ok (.istore_n 2, 1) := by decide +kernel
theorem dX2_countByMoving_10 : decode cX2_countByMoving 10 = .ok (.iconst 0, 1) := by decide +kernel
theorem dX2_countByMoving_11 : decode cX2_countByMoving 11 = .ok (.istore_n 3, 1) := by decide +kernel
theorem dX2_countByMoving_12 : decode cX2_countByMoving 12 = .ok (.iload_n 3, 1) := by decide +kernel
theorem dX2_countByMoving_13 : decode cX2_countByMoving 13 = .ok (.bipush 6, 2) := by decide +kernel
theorem dX2_countByMoving_15 : decode cX2_countByMoving 15 = .ok (.if_icmp .ge 37, 3) := by decide +kernel
theorem dX2_countByMoving_18 : decode cX2_countByMoving 18 = .ok (.aload_n 0, 1) := by decide +kernel
theorem dX2_countByMoving_19 : decode cX2_countByMoving 19 = .ok (.getfield 15, 3) := by decide +kernel
theorem dX2_countByMoving_22 : decode cX2_countByMoving 22 = .ok (.iconst 0, 1) := by decide +kernel
theorem dX2_countByMoving_23 : decode cX2_countByMoving 23 = .ok (.invokestatic 18, 3) := by decide +kernel
theorem dX2_countByMoving_26 : decode cX2_countByMoving 26 = .ok (.aload_n 1, 1) := by decide +kernel
theorem dX2_countByMoving_27 : decode cX2_countByMoving 27 = .ok (.iload_n 3, 1) := by decide +kernel
theorem dX2_countByMoving_28 : decode cX2_countByMoving 28 = .ok (.aload_n 0, 1) := by decide +kernel
theorem dX2_countByMoving_29 : decode cX2_countByMoving 29 = .ok (.getfield 9, 3) := by decide +kernel
theorem dX2_countByMoving_32 : decode cX2_countByMoving 32 = .ok (.aload_n 0, 1) := by decide +kernel
theorem dX2_countByMoving_33 : decode cX2_countByMoving 33 = .ok (.getfield 15, 3) := by decide +kernel
theorem dX2_countByMoving_36 : decode cX2_countByMoving 36 = .ok (.iconst 0, 1) := by decide +kernel
theorem dX2_countByMoving_37 : decode cX2_countByMoving 37 = .ok (.invokestatic 24, 3) := by decide +kernel
theorem dX2_countByMoving_40 : decode cX2_countByMoving 40 = .ok (.ifCond .eq 6, 3) := by decide +kernel
theorem dX2_countByMoving_43 : decode cX2_countByMoving 43 = .ok (.iinc 2 1, 3) := by decide +kernel
theorem dX2_countByMoving_46 : decode cX2_countByMoving 46 = .ok (.iinc 3 1, 3) := by decide +kernel
theorem dX2_countByMoving_49 : decode cX2_countByMoving 49 = .ok (.goto (-37), 3) := by decide +kernel
theorem dX2_countByMoving_52 : decode cX2_countByMoving 52 = .ok (.iload_n 2, 1) := by decide +kernel
theorem dX2_countByMoving_53 : decode cX2_countByMoving 53 = .ok (.ireturn, 1) := by decide +kernel
theorem dX2_findWeek_0 : decode cX2_findWeek 0 = .ok (.iload 4, 2) := by decide +kernel
theorem dX2_findWeek_2 : decode cX2_findWeek 2 = .ok (.bipush 6, 2) := by decide +kernel
theorem dX2_findWeek_4 : decode cX2_findWeek 4 = .ok (.if_icmp .le 5, 3) := by decide +kernel
theorem dX2_findWeek_7 : decode cX2_findWeek 7 = .ok (.iconst 0, 1) := by decide +kernel
theorem dX2_findWeek_8 : decode cX2_findWeek 8 = .ok (.ireturn, 1) := by decide +kernel
theorem dX2_findWeek_9 : decode cX2_findWeek 9 = .ok (.iconst 0, 1) := by decide +kernel
theorem dX2_findWeek_10 : decode cX2_findWeek 10 = .ok (.istore 5, 2) := by decide +kernel
theorem dX2_findWeek_12 : decode cX2_findWeek 12 = .ok (.iload 5, 2) := by decide +kernel
theorem dX2_findWeek_14 : decode cX2_findWeek 14 = .ok (.bipush 20, 2) := by decide +kernel
theorem dX2_findWeek_16 : decode cX2_findWeek 16 = .ok (.if_icmp .ge 77, 3) := by decide +kernel
theorem dX2_findWeek_19 : decode cX2_findWeek 19 = .ok (.iload 5, 2) := by decide +kernel
theorem dX2_findWeek_21 : decode cX2_findWeek 21 = .ok (.aload_n 2, 1) := by decide +kernel
theorem dX2_findWeek_22 : decode cX2_findWeek 22 = .ok (.arraylength, 1) := by decide +kernel
theorem dX2_findWeek_23 : decode cX2_findWeek 23 = .ok (.if_icmp .ge 70, 3) := by decide +kernel
theorem dX2_findWeek_26 : decode cX2_findWeek 26 = .ok (.iload 5, 2) := by decide +kernel
theorem dX2_findWeek_28 : decode cX2_findWeek 28 = .ok (.aload_n 3, 1) := by decide +kernel
theorem dX2_findWeek_29 : decode cX2_findWeek 29 = .ok (.arraylength, 1) := by decide +kernel
theorem dX2_findWeek_30 : decode cX2_findWeek 30 = .ok (.if_icmp .ge 63, 3) := by decide +kernel
theorem dX2_findWeek_33 : decode cX2_findWeek 33 = .ok (.aload_n 3, 1) := by decide +kernel
theorem dX2_findWeek_34 : decode cX2_findWeek 34 = .ok (.iload 5, 2) := by decide +kernel
theorem dX2_findWeek_36 : decode cX2_findWeek 36 = .ok (.iaload, 1) := by decide +kernel
theorem dX2_findWeek_37 : decode cX2_findWeek 37 = .ok (.ifCond .ne 50, 3) := by decide +kernel
theorem dX2_findWeek_40 : decode cX2_findWeek 40 = .ok (.aload_n 0, 1) := by decide +kernel
theorem dX2_findWeek_41 : decode cX2_findWeek 41 = .ok (.iload_n 1, 1) := by decide +kernel
theorem dX2_findWeek_42 : decode cX2_findWeek 42 = .ok (.iload 5, 2) := by decide +kernel
theorem dX2_findWeek_44 : decode cX2_findWeek 44 = .ok (.invokevirtual 28, 3) := by decide +kernel
theorem dX2_findWeek_47 : decode cX2_findWeek 47 = .ok (.ifCond .ne 40, 3) := by decide +kernel
theorem dX2_findWeek_50 : decode cX2_findWeek 50 = .ok (.aload_n 3, 1) := by decide +kernel
theorem dX2_findWeek_51 : decode cX2_findWeek 51 = .ok (.iload 5, 2) := by decide +kernel
theorem dX2_findWeek_53 : decode cX2_findWeek 53 = .ok (.iconst 1, 1) := by decide +kernel
theorem dX2_findWeek_54 : decode cX2_findWeek 54 = .ok (.iastore, 1) := by decide +kernel
theorem dX2_findWeek_55 : decode cX2_findWeek 55 = .ok (.aload_n 2, 1) := by decide +kernel
theorem dX2_findWeek_56 : decode cX2_findWeek 56 = .ok (.iload 5, 2) := by decide +kernel
theorem dX2_findWeek_58 : decode cX2_findWeek 58 = .ok (.iaload, 1) := by decide +kernel
theorem dX2_findWeek_59 : decode cX2_findWeek 59 = .ok (.iconst (-1), 1) := by decide +kernel
theorem dX2_findWeek_60 : decode cX2_findWeek 60 = .ok (.if_icmp .eq 20, 3) := by decide +kernel
theorem dX2_findWeek_63 : decode cX2_findWeek 63 = .ok (.aload_n 0, 1) := by decide +kernel
theorem dX2_findWeek_64 : decode cX2_findWeek 64 = .ok (.aload_n 2, 1) := by decide +kernel
theorem dX2_findWeek_65 : decode cX2_findWeek 65 = .ok (.iload 5, 2) := by decide +kernel
theorem dX2_findWeek_67 : decode cX2_findWeek 67 = .ok (.iaload, 1) := by decide +kernel
theorem dX2_findWeek_68 : decode cX2_findWeek 68 = .ok (.aload_n 2, 1) := by decide +kernel
theorem dX2_findWeek_69 : decode cX2_findWeek 69 = .ok (.aload_n 3, 1) := by decide +kernel
theorem dX2_findWeek_70 : decode cX2_findWeek 70 = .ok (.iload 4, 2) := by decide +kernel
theorem dX2_findWeek_72 : decode cX2_findWeek 72 = .ok (.iconst 1, 1) := by decide +kernel
theorem dX2_findWeek_73 : decode cX2_findWeek 73 = .ok (.iadd, 1) := by decide +kernel
theorem dX2_findWeek_74 : decode cX2_findWeek 74 = .ok (.invokestatic 24, 3) := by decide +kernel
theorem dX2_findWeek_77 : decode cX2_findWeek 77 = .ok (.ifCond .eq 10, 3) := by decide +kernel
theorem dX2_findWeek_80 : decode cX2_findWeek 80 = .ok (.aload_n 2, 1) := by decide +kernel
theorem dX2_findWeek_81 : decode cX2_findWeek 81 = .ok (.iload 5, 2) := by decide +kernel
theorem dX2_findWeek_83 : decode cX2_findWeek 83 = .ok (.iload_n 1, 1) := by decide +kernel
theorem dX2_findWeek_84 : decode cX2_findWeek 84 = .ok (.iastore, 1) := by decide +kernel
theorem dX2_findWeek_85 : decode cX2_findWeek 85 = .ok (.iconst 1, 1) := by decide +kernel
theorem dX2_findWeek_86 : decode cX2_findWeek 86 = .ok (.ireturn, 1) := by decide +kernel
theorem dX2_findWeek_87 : decode cX2_findWeek 87 = .ok (.iinc 5 1, 3) := by decide +kernel
theorem dX2_findWeek_90 : decode cX2_findWeek 90 = .ok (.goto (-78), 3) := by decide +kernel
theorem dX2_findWeek_93 : decode cX2_findWeek 93 = .ok (.iconst 0, 1) := by decide +kernel
theorem dX2_findWeek_94 : decode cX2_findWeek 94 = .ok (.ireturn, 1) := by decide +kernel
theorem dX2_countBySets_0 : decode cX2_countBySets 0 = .ok (.lconst 1, 1) := by decide +kernel
theorem dX2_countBySets_1 : decode cX2_countBySets 1 = .ok (.lstore_n 2, 1) := by decide +kernel
theorem dX2_countBySets_2 : decode cX2_countBySets 2 = .ok (.iconst 0, 1) := by decide +kernel
theorem dX2_countBySets_3 : decode cX2_countBySets 3 = .ok (.istore 4, 2) := by decide +kernel
theorem dX2_countBySets_5 : decode cX2_countBySets 5 = .ok (.iload 4, 2) := by decide +kernel
theorem dX2_countBySets_7 : decode cX2_countBySets 7 = .ok (.bipush 20, 2) := by decide +kernel
theorem dX2_countBySets_9 : decode cX2_countBySets 9 = .ok (.if_icmp .ge 19, 3) := by decide +kernel
theorem dX2_countBySets_12 : decode cX2_countBySets 12 = .ok (.lload_n 2, 1) := by decide +kernel
theorem dX2_countBySets_13 : decode cX2_countBySets 13 = .ok (.aload_n 1, 1) := by decide +kernel
theorem dX2_countBySets_14 : decode cX2_countBySets 14 = .ok (.iload 4, 2) := by decide +kernel
theorem dX2_countBySets_16 : decode cX2_countBySets 16 = .ok (.lload_n 2, 1) := by decide +kernel
theorem dX2_countBySets_17 : decode cX2_countBySets 17 = .ok (.invokestatic 34, 3) := by decide +kernel
theorem dX2_countBySets_20 : decode cX2_countBySets 20 = .ok (.lor, 1) := by decide +kernel
theorem dX2_countBySets_21 : decode cX2_countBySets 21 = .ok (.lstore_n 2, 1) := by decide +kernel
theorem dX2_countBySets_22 : decode cX2_countBySets 22 = .ok (.iinc 4 1, 3) := by decide +kernel
theorem dX2_countBySets_25 : decode cX2_countBySets 25 = .ok (.goto (-20), 3) := by decide +kernel
theorem dX2_countBySets_28 : decode cX2_countBySets 28 = .ok (.iconst 0, 1) := by decide +kernel
theorem dX2_countBySets_29 : decode cX2_countBySets 29 = .ok (.istore 4, 2) := by decide +kernel
theorem dX2_countBySets_31 : decode cX2_countBySets 31 = .ok (.iconst 0, 1) := by decide +kernel
theorem dX2_countBySets_32 : decode cX2_countBySets 32 = .ok (.istore 5, 2) := by decide +kernel
theorem dX2_countBySets_34 : decode cX2_countBySets 34 = .ok (.iload 5, 2) := by decide +kernel
theorem dX2_countBySets_36 : decode cX2_countBySets 36 = .ok (.bipush 64, 2) := by decide +kernel
theorem dX2_countBySets_38 : decode cX2_countBySets 38 = .ok (.if_icmp .ge 32, 3) := by decide +kernel
theorem dX2_countBySets_41 : decode cX2_countBySets 41 = .ok (.lload_n 2, 1) := by decide +kernel
theorem dX2_countBySets_42 : decode cX2_countBySets 42 = .ok (.iload 5, 2) := by decide +kernel
theorem dX2_countBySets_44 : decode cX2_countBySets 44 = .ok (.lushr, 1) := by decide +kernel
theorem dX2_countBySets_45 : decode cX2_countBySets 45 = .ok (.lconst 1, 1) := by decide +kernel
theorem dX2_countBySets_46 : decode cX2_countBySets 46 = .ok (.land, 1) := by decide +kernel
theorem dX2_countBySets_47 : decode cX2_countBySets 47 = .ok (.lconst 0, 1) := by decide +kernel
theorem dX2_countBySets_48 : decode cX2_countBySets 48 = .ok (.lcmp, 1) := by decide +kernel
theorem dX2_countBySets_49 : decode cX2_countBySets 49 = .ok (.ifCond .eq 15, 3) := by decide +kernel
theorem dX2_countBySets_52 : decode cX2_countBySets 52 = .ok (.iload 4, 2) := by decide +kernel
theorem dX2_countBySets_54 : decode cX2_countBySets 54 = .ok (.iload 5, 2) := by decide +kernel
theorem dX2_countBySets_56 : decode cX2_countBySets 56 = .ok (.invokestatic 38, 3) := by decide +kernel
theorem dX2_countBySets_59 : decode cX2_countBySets 59 = .ok (.invokestatic 44, 3) := by decide +kernel
theorem dX2_countBySets_62 : decode cX2_countBySets 62 = .ok (.istore 4, 2) := by decide +kernel
theorem dX2_countBySets_64 : decode cX2_countBySets 64 = .ok (.iinc 5 1, 3) := by decide +kernel
theorem dX2_countBySets_67 : decode cX2_countBySets 67 = .ok (.goto (-33), 3) := by decide +kernel
theorem dX2_countBySets_70 : decode cX2_countBySets 70 = .ok (.iload 4, 2) := by decide +kernel
theorem dX2_countBySets_72 : decode cX2_countBySets 72 = .ok (.ireturn, 1) := by decide +kernel
theorem dX2_growSets_0 : decode cX2_growSets 0 = .ok (.lconst 0, 1) := by decide +kernel
theorem dX2_growSets_1 : decode cX2_growSets 1 = .ok (.lstore 4, 2) := by decide +kernel
theorem dX2_growSets_3 : decode cX2_growSets 3 = .ok (.iconst 0, 1) := by decide +kernel
theorem dX2_growSets_4 : decode cX2_growSets 4 = .ok (.istore 6, 2) := by decide +kernel
theorem dX2_growSets_6 : decode cX2_growSets 6 = .ok (.iload 6, 2) := by decide +kernel
theorem dX2_growSets_8 : decode cX2_growSets 8 = .ok (.bipush 6, 2) := by decide +kernel
theorem dX2_growSets_10 : decode cX2_growSets 10 = .ok (.if_icmp .ge 60, 3) := by decide +kernel
theorem dX2_growSets_13 : decode cX2_growSets 13 = .ok (.aload_n 0, 1) := by decide +kernel
theorem dX2_growSets_14 : decode cX2_growSets 14 = .ok (.iload 6, 2) := by decide +kernel
theorem dX2_growSets_16 : decode cX2_growSets 16 = .ok (.iload_n 1, 1) := by decide +kernel
theorem dX2_growSets_17 : decode cX2_growSets 17 = .ok (.invokevirtual 28, 3) := by decide +kernel
theorem dX2_growSets_20 : decode cX2_growSets 20 = .ok (.ifCond .ne 44, 3) := by decide +kernel
theorem dX2_growSets_23 : decode cX2_growSets 23 = .ok (.iconst 0, 1) := by decide +kernel
theorem dX2_growSets_24 : decode cX2_growSets 24 = .ok (.istore 7, 2) := by decide +kernel
theorem dX2_growSets_26 : decode cX2_growSets 26 = .ok (.iload 7, 2) := by decide +kernel
theorem dX2_growSets_28 : decode cX2_growSets 28 = .ok (.bipush 64, 2) := by decide +kernel
theorem dX2_growSets_30 : decode cX2_growSets 30 = .ok (.if_icmp .ge 34, 3) := by decide +kernel
theorem dX2_growSets_33 : decode cX2_growSets 33 = .ok (.lload_n 2, 1) := by decide +kernel
theorem dX2_growSets_34 : decode cX2_growSets 34 = .ok (.iload 7, 2) := by decide +kernel
theorem dX2_growSets_36 : decode cX2_growSets 36 = .ok (.lushr, 1) := by decide +kernel
theorem dX2_growSets_37 : decode cX2_growSets 37 = .ok (.lconst 1, 1) := by decide +kernel
theorem dX2_growSets_38 : decode cX2_growSets 38 = .ok (.land, 1) := by decide +kernel
theorem dX2_growSets_39 : decode cX2_growSets 39 = .ok (.lconst 0, 1) := by decide +kernel
theorem dX2_growSets_40 : decode cX2_growSets 40 = .ok (.lcmp, 1) := by decide +kernel
theorem dX2_growSets_41 : decode cX2_growSets 41 = .ok (.ifCond .eq 17, 3) := by decide +kernel
theorem dX2_growSets_44 : decode cX2_growSets 44 = .ok (.lload 4, 2) := by decide +kernel
theorem dX2_growSets_46 : decode cX2_growSets 46 = .ok (.lconst 1, 1) := by decide +kernel
theorem dX2_growSets_47 : decode cX2_growSets 47 = .ok (.iload 7, 2) := by decide +kernel
theorem dX2_growSets_49 : decode cX2_growSets 49 = .ok (.iconst 1, 1) := by decide +kernel
theorem dX2_growSets_50 : decode cX2_growSets 50 = .ok (.iload 6, 2) := by decide +kernel
theorem dX2_growSets_52 : decode cX2_growSets 52 = .ok (.ishl, 1) := by decide +kernel
theorem dX2_growSets_53 : decode cX2_growSets 53 = .ok (.ior, 1) := by decide +kernel
theorem dX2_growSets_54 : decode cX2_growSets 54 = .ok (.lshl, 1) := by decide +kernel
theorem dX2_growSets_55 : decode cX2_growSets 55 = .ok (.lor, 1) := by decide +kernel
theorem dX2_growSets_56 : decode cX2_growSets 56 = .ok (.lstore 4, 2) := by decide +kernel
theorem dX2_growSets_58 : decode cX2_growSets 58 = .ok (.iinc 7 1, 3) := by decide +kernel
theorem dX2_growSets_61 : decode cX2_growSets 61 = .ok (.goto (-35), 3) := by decide +kernel
theorem dX2_growSets_64 : decode cX2_growSets 64 = .ok (.iinc 6 1, 3) := by decide +kernel
theorem dX2_growSets_67 : decode cX2_growSets 67 = .ok (.goto (-61), 3) := by decide +kernel
theorem dX2_growSets_70 : decode cX2_growSets 70 = .ok (.lload 4, 2) := by decide +kernel
theorem dX2_growSets_72 : decode cX2_growSets 72 = .ok (.lreturn, 1) := by decide +kernel
theorem dX5_init_0 : decode cX5_init 0 = .ok (.aload_n 0, 1) := by decide +kernel
theorem dX5_init_1 : decode cX5_init 1 = .ok (.invokespecial 3, 3) := by decide +kernel
theorem dX5_init_4 : decode cX5_init 4 = .ok (.aload_n 0, 1) := by decide +kernel
theorem dX5_init_5 : decode cX5_init 5 = .ok (.bipush 120, 2) := by decide +kernel
theorem dX5_init_7 : decode cX5_init 7 = .ok (.newarray .char, 2) := by decide +kernel
theorem dX5_init_9 : decode cX5_init 9 = .ok (.putfield 9, 3) := by decide +kernel
theorem dX5_init_12 : decode cX5_init 12 = .ok (.aload_n 0, 1) := by decide +kernel
theorem dX5_init_13 : decode cX5_init 13 = .ok (.iconst 3, 1) := by decide +kernel
theorem dX5_init_14 : decode cX5_init 14 = .ok (.newarray .int, 2) := by decide +kernel
theorem dX5_init_16 : decode cX5_init 16 = .ok (.putfield 15, 3) := by decide +kernel
theorem dX5_init_19 : decode cX5_init 19 = .ok (.return_, 1) := by decide +kernel
theorem dX6_init_0 : decode cX6_init 0 = .ok (.aload_n 0, 1) := by decide +kernel
theorem dX6_init_1 : decode cX6_init 1 = .ok (.invokespecial 1, 3) := by decide +kernel
theorem dX6_init_4 : decode cX6_init 4 = .ok (.aload_n 0, 1) := by decide +kernel
theorem dX6_init_5 : decode cX6_init 5 = .ok (.new 7, 3) := by decide +kernel
theorem dX6_init_8 : decode cX6_init 8 = .ok (.dup, 1) := by decide +kernel
theorem dX6_init_9 : decode cX6_init 9 = .ok (.invokespecial 9, 3) := by decide +kernel
theorem dX6_init_12 : decode cX6_init 12 = .ok (.putfield 10, 3) := by decide +kernel
theorem dX6_init_15 : decode cX6_init 15 = .ok (.aload_n 0, 1) := by decide +kernel
theorem dX6_init_16 : decode cX6_init 16 = .ok (.new 7, 3) := by decide +kernel
theorem dX6_init_19 : decode cX6_init 19 = .ok (.dup, 1) := by decide +kernel
theorem dX6_init_20 : decode cX6_init 20 = .ok (.invokespecial 9, 3) := by decide +kernel
theorem dX6_init_23 : decode cX6_init 23 = .ok (.putfield 16, 3) := by decide +kernel
theorem dX6_init_26 : decode cX6_init 26 = .ok (.aload_n 0, 1) := by decide +kernel
theorem dX6_init_27 : decode cX6_init 27 = .ok (.new 19, 3) := by decide +kernel
theorem dX6_init_30 : decode cX6_init 30 = .ok (.dup, 1) := by decide +kernel
theorem dX6_init_31 : decode cX6_init 31 = .ok (.invokespecial 21, 3) := by decide +kernel
theorem dX6_init_34 : decode cX6_init 34 = .ok (.putfield 22, 3) := by decide +kernel
theorem dX6_init_37 : decode cX6_init 37 = .ok (.aload_n 0, 1) := by decide +kernel
theorem dX6_init_38 : decode cX6_init 38 = .ok (.iconst 2, 1) := by decide +kernel
theorem dX6_init_39 : decode cX6_init 39 = .ok (.anewarray 7, 3) := by decide +kernel
theorem dX6_init_42 : decode cX6_init 42 = .ok (.putfield 26, 3) := by decide +kernel
theorem dX6_init_45 : decode cX6_init 45 = .ok (.aload_n 0, 1) := by decide +kernel
theorem dX6_init_46 : decode cX6_init 46 = .ok (.iconst 2, 1) := by decide +kernel
theorem dX6_init_47 : decode cX6_init 47 = .ok (.newarray .boolean, 2) := by decide +kernel
theorem dX6_init_49 : decode cX6_init 49 = .ok (.putfield 30, 3) := by decide +kernel
theorem dX6_init_52 : decode cX6_init 52 = .ok (.aload_n 0, 1) := by decide +kernel
theorem dX6_init_53 : decode cX6_init 53 = .ok (.new 34, 3) := by decide +kernel
theorem dX6_init_56 : decode cX6_init 56 = .ok (.dup, 1) := by decide +kernel
theorem dX6_init_57 : decode cX6_init 57 = .ok (.invokespecial 36, 3) := by decide +kernel
theorem dX6_init_60 : decode cX6_init 60 = .ok (.putfield 37, 3) := by decide +kernel
theorem dX6_init_63 : decode cX6_init 63 = .ok (.aload_n 0, 1) := by decide +kernel
theorem dX6_init_64 : decode cX6_init 64 = .ok (.new 41, 3) := by decide +kernel
theorem dX6_init_67 : decode cX6_init 67 = .ok (.dup, 1) := by decide +kernel
theorem dX6_init_68 : decode cX6_init 68 = .ok (.invokespecial 43, 3) := by decide +kernel
theorem dX6_init_71 : decode cX6_init 71 = .ok (.putfield 44, 3) := by decide +kernel
theorem dX6_init_74 : decode cX6_init 74 = .ok (.iconst 0, 1) := by decide +kernel
theorem dX6_init_75 : decode cX6_init 75 = .ok (.istore_n 1, 1) := by decide +kernel
theorem dX6_init_76 : decode cX6_init 76 = .ok (.iload_n 1, 1) := by decide +kernel
theorem dX6_init_77 : decode cX6_init 77 = .ok (.iconst 2, 1) := by decide +kernel
theorem dX6_init_78 : decode cX6_init 78 = .ok (.if_icmp .ge 22, 3) := by decide +kernel
theorem dX6_init_81 : decode cX6_init 81 = .ok (.aload_n 0, 1) := by decide +kernel
theorem dX6_init_82 : decode cX6_init 82 = .ok (.getfield 26, 3) := by decide +kernel
theorem dX6_init_85 : decode cX6_init 85 = .ok (.iload_n 1, 1) := by decide +kernel
theorem dX6_init_86 : decode cX6_init 86 = .ok (.new 7, 3) := by decide +kernel
theorem dX6_init_89 : decode cX6_init 89 = .ok (.dup, 1) := by decide +kernel
theorem dX6_init_90 : decode cX6_init 90 = .ok (.invokespecial 9, 3) := by decide +kernel
theorem dX6_init_93 : decode cX6_init 93 = .ok (.aastore, 1) := by decide +kernel
theorem dX6_init_94 : decode cX6_init 94 = .ok (.iinc 1 1, 3) := by decide +kernel
theorem dX6_init_97 : decode cX6_init 97 = .ok (.goto (-21), 3) := by decide +kernel
theorem dX6_init_100 : decode cX6_init 100 = .ok (.return_, 1) := by decide +kernel
theorem dX6_about_0 : decode cX6_about 0 = .ok (.iload_n 1, 1) := by decide +kernel
theorem dX6_about_1 : decode cX6_about 1 = .ok (.tableswitch 202 0 13 #[71, 79, 87, 96, 106, 116, 126, 136, 144, 152, 160, 170, 180, 191], 71) := by decide +kernel
theorem dX6_about_72 : decode cX6_about 72 = .ok (.aload_n 0, 1) := by decide +kernel
theorem dX6_about_73 : decode cX6_about 73 = .ok (.getfield 10, 3) := by decide +kernel
theorem dX6_about_76 : decode cX6_about 76 = .ok (.getfield 86, 3) := by decide +kernel
theorem dX6_about_79 : decode cX6_about 79 = .ok (.ireturn, 1) := by decide +kernel
theorem dX6_about_80 : decode cX6_about 80 = .ok (.aload_n 0, 1) := by decide +kernel
theorem dX6_about_81 : decode cX6_about 81 = .ok (.getfield 10, 3) := by decide +kernel
theorem dX6_about_84 : decode cX6_about 84 = .ok (.getfield 90, 3) := by decide +kernel
theorem dX6_about_87 : decode cX6_about 87 = .ok (.ireturn, 1) := by decide +kernel
theorem dX6_about_88 : decode cX6_about 88 = .ok (.aload_n 0, 1) := by decide +kernel
theorem dX6_about_89 : decode cX6_about 89 = .ok (.getfield 10, 3) := by decide +kernel
theorem dX6_about_92 : decode cX6_about 92 = .ok (.iconst (-1), 1) := by decide +kernel
theorem dX6_about_93 : decode cX6_about 93 = .ok (.invokevirtual 93, 3) := by decide +kernel
theorem dX6_about_96 : decode cX6_about 96 = .ok (.ireturn, 1) := by decide +kernel
theorem dX6_about_97 : decode cX6_about 97 = .ok (.aload_n 0, 1) := by decide +kernel
theorem dX6_about_98 : decode cX6_about 98 = .ok (.getfield 10, 3) := by decide +kernel
theorem dX6_about_101 : decode cX6_about 101 = .ok (.getfield 97, 3) := by decide +kernel
theorem dX6_about_104 : decode cX6_about 104 = .ok (.iconst 0, 1) := by decide +kernel
theorem dX6_about_105 : decode cX6_about 105 = .ok (.iaload, 1) := by decide +kernel
theorem dX6_about_106 : decode cX6_about 106 = .ok (.ireturn, 1) := by decide +kernel
theorem dX6_about_107 : decode cX6_about 107 = .ok (.aload_n 0, 1) := by decide +kernel
theorem dX6_about_108 : decode cX6_about 108 = .ok (.getfield 10, 3) := by decide +kernel
theorem dX6_about_111 : decode cX6_about 111 = .ok (.getfield 97, 3) := by decide +kernel
theorem dX6_about_114 : decode cX6_about 114 = .ok (.iconst 1, 1) := by decide +kernel
theorem dX6_about_115 : decode cX6_about 115 = .ok (.iaload, 1) := by decide +kernel
theorem dX6_about_116 : decode cX6_about 116 = .ok (.ireturn, 1) := by decide +kernel
theorem dX6_about_117 : decode cX6_about 117 = .ok (.aload_n 0, 1) := by decide +kernel
theorem dX6_about_118 : decode cX6_about 118 = .ok (.getfield 10, 3) := by decide +kernel
theorem dX6_about_121 : decode cX6_about 121 = .ok (.getfield 97, 3) := by decide +kernel
theorem dX6_about_124 : decode cX6_about 124 = .ok (.iconst 2, 1) := by decide +kernel
theorem dX6_about_125 : decode cX6_about 125 = .ok (.iaload, 1) := by decide +kernel
theorem dX6_about_126 : decode cX6_about 126 = .ok (.ireturn, 1) := by decide +kernel
theorem dX6_about_127 : decode cX6_about 127 = .ok (.aload_n 0, 1) := by decide +kernel
theorem dX6_about_128 : decode cX6_about 128 = .ok (.getfield 10, 3) := by decide +kernel
theorem dX6_about_131 : decode cX6_about 131 = .ok (.getfield 97, 3) := by decide +kernel
theorem dX6_about_134 : decode cX6_about 134 = .ok (.iconst 3, 1) := by decide +kernel
theorem dX6_about_135 : decode cX6_about 135 = .ok (.iaload, 1) := by decide +kernel
theorem dX6_about_136 : decode cX6_about 136 = .ok (.ireturn, 1) := by decide +kernel
theorem dX6_about_137 : decode cX6_about 137 = .ok (.aload_n 0, 1) := by decide +kernel
theorem dX6_about_138 : decode cX6_about 138 = .ok (.getfield 10, 3) := by decide +kernel
theorem dX6_about_141 : decode cX6_about 141 = .ok (.invokevirtual 101, 3) := by decide +kernel
theorem dX6_about_144 : decode cX6_about 144 = .ok (.ireturn, 1) := by decide +kernel
theorem dX6_about_145 : decode cX6_about 145 = .ok (.aload_n 0, 1) := by decide +kernel
theorem dX6_about_146 : decode cX6_about 146 = .ok (.getfield 10, 3) := by decide +kernel
theorem dX6_about_149 : decode cX6_about 149 = .ok (.invokevirtual 104, 3) := by decide +kernel
theorem dX6_about_152 : decode cX6_about 152 = .ok (.ireturn, 1) := by decide +kernel
theorem dX6_about_153 : decode cX6_about 153 = .ok (.aload_n 0, 1) := by decide +kernel
theorem dX6_about_154 : decode cX6_about 154 = .ok (.getfield 10, 3) := by decide +kernel
theorem dX6_about_157 : decode cX6_about 157 = .ok (.getfield 107, 3) := by decide +kernel
theorem dX6_about_160 : decode cX6_about 160 = .ok (.ireturn, 1) := by decide +kernel
theorem dX6_about_161 : decode cX6_about 161 = .ok (.aload_n 0, 1) := by decide +kernel
theorem dX6_about_162 : decode cX6_about 162 = .ok (.getfield 10, 3) := by decide +kernel
theorem dX6_about_165 : decode cX6_about 165 = .ok (.getfield 97, 3) := by decide +kernel
theorem dX6_about_168 : decode cX6_about 168 = .ok (.iconst 4, 1) := by decide +kernel
theorem dX6_about_169 : decode cX6_about 169 = .ok (.iaload, 1) := by decide +kernel
theorem dX6_about_170 : decode cX6_about 170 = .ok (.ireturn, 1) := by decide +kernel
theorem dX6_about_171 : decode cX6_about 171 = .ok (.aload_n 0, 1) := by decide +kernel
theorem dX6_about_172 : decode cX6_about 172 = .ok (.getfield 10, 3) := by decide +kernel
theorem dX6_about_175 : decode cX6_about 175 = .ok (.getfield 97, 3) := by decide +kernel
theorem dX6_about_178 : decode cX6_about 178 = .ok (.iconst 5, 1) := by decide +kernel
theorem dX6_about_179 : decode cX6_about 179 = .ok (.iaload, 1) := by decide +kernel
theorem dX6_about_180 : decode cX6_about 180 = .ok (.ireturn, 1) := by decide +kernel
theorem dX6_about_181 : decode cX6_about 181 = .ok (.aload_n 0, 1) := by decide +kernel
theorem dX6_about_182 : decode cX6_about 182 = .ok (.getfield 10, 3) := by decide +kernel
theorem dX6_about_185 : decode cX6_about 185 = .ok (.getfield 97, 3) := by decide +kernel
theorem dX6_about_188 : decode cX6_about 188 = .ok (.bipush 6, 2) := by decide +kernel
theorem dX6_about_190 : decode cX6_about 190 = .ok (.iaload, 1) := by decide +kernel
theorem dX6_about_191 : decode cX6_about 191 = .ok (.ireturn, 1) := by decide +kernel
theorem dX6_about_192 : decode cX6_about 192 = .ok (.aload_n 0, 1) := by decide +kernel
theorem dX6_about_193 : decode cX6_about 193 = .ok (.getfield 10, 3) := by decide +kernel
theorem dX6_about_196 : decode cX6_about 196 = .ok (.getfield 97, 3) := by decide +kernel
theorem dX6_about_199 : decode cX6_about 199 = .ok (.bipush 7, 2) := by decide +kernel
theorem dX6_about_201 : decode cX6_about 201 = .ok (.iaload, 1) := by decide +kernel
theorem dX6_about_202 : decode cX6_about 202 = .ok (.ireturn, 1) := by decide +kernel
theorem dX6_about_203 : decode cX6_about 203 = .ok (.new 110, 3) := by decide +kernel
theorem dX6_about_206 : decode cX6_about 206 = .ok (.dup, 1) := by decide +kernel
theorem dX6_about_207 : decode cX6_about 207 = .ok (.ldc 112, 2) := by decide +kernel
theorem dX6_about_209 : decode cX6_about 209 = .ok (.invokespecial 114, 3) := by decide +kernel
theorem dX6_about_212 : decode cX6_about 212 = .ok (.athrow, 1) := by decide +kernel
theorem dX6_ownerOf_0 : decode cX6_ownerOf 0 = .ok (.aload_n 0, 1) := by decide +kernel
theorem dX6_ownerOf_1 : decode cX6_ownerOf 1 = .ok (.iload_n 1, 1) := by decide +kernel
theorem dX6_ownerOf_2 : decode cX6_ownerOf 2 = .ok (.invokevirtual 115, 3) := by decide +kernel
theorem dX6_ownerOf_5 : decode cX6_ownerOf 5 = .ok (.iload_n 2, 1) := by decide +kernel
theorem dX6_ownerOf_6 : decode cX6_ownerOf 6 = .ok (.tableswitch 109 0 6 #[42, 52, 62, 71, 81, 91, 100], 42) := by decide +kernel
theorem dX6_ownerOf_48 : decode cX6_ownerOf 48 = .ok (.aload_n 0, 1) := by decide +kernel
theorem dX6_ownerOf_49 : decode cX6_ownerOf 49 = .ok (.getfield 10, 3) := by decide +kernel
theorem dX6_ownerOf_52 : decode cX6_ownerOf 52 = .ok (.getfield 119, 3) := by decide +kernel
theorem dX6_ownerOf_55 : decode cX6_ownerOf 55 = .ok (.iload_n 1, 1) := by decide +kernel
theorem dX6_ownerOf_56 : decode cX6_ownerOf 56 = .ok (.iaload, 1) := by decide +kernel
theorem dX6_ownerOf_57 : decode cX6_ownerOf 57 = .ok (.ireturn, 1) := by decide +kernel
theorem dX6_ownerOf_58 : decode cX6_ownerOf 58 = .ok (.aload_n 0, 1) := by decide +kernel
theorem dX6_ownerOf_59 : decode cX6_ownerOf 59 = .ok (.getfield 10, 3) := by decide +kernel
theorem dX6_ownerOf_62 : decode cX6_ownerOf 62 = .ok (.getfield 122, 3) := by decide +kernel
theorem dX6_ownerOf_65 : decode cX6_ownerOf 65 = .ok (.iload_n 1, 1) := by decide +kernel
theorem dX6_ownerOf_66 : decode cX6_ownerOf 66 = .ok (.iaload, 1) := by decide +kernel
theorem dX6_ownerOf_67 : decode cX6_ownerOf 67 = .ok (.ireturn, 1) := by decide +kernel
theorem dX6_ownerOf_68 : decode cX6_ownerOf 68 = .ok (.aload_n 0, 1) := by decide +kernel
theorem dX6_ownerOf_69 : decode cX6_ownerOf 69 = .ok (.getfield 10, 3) := by decide +kernel
theorem dX6_ownerOf_72 : decode cX6_ownerOf 72 = .ok (.iload_n 1, 1) := by decide +kernel
theorem dX6_ownerOf_73 : decode cX6_ownerOf 73 = .ok (.invokevirtual 93, 3) := by decide +kernel
theorem dX6_ownerOf_76 : decode cX6_ownerOf 76 = .ok (.ireturn, 1) := by decide +kernel
theorem dX6_ownerOf_77 : decode cX6_ownerOf 77 = .ok (.aload_n 0, 1) := by decide +kernel
theorem dX6_ownerOf_78 : decode cX6_ownerOf 78 = .ok (.getfield 10, 3) := by decide +kernel
theorem dX6_ownerOf_81 : decode cX6_ownerOf 81 = .ok (.getfield 125, 3) := by decide +kernel
theorem dX6_ownerOf_84 : decode cX6_ownerOf 84 = .ok (.iload_n 1, 1) := by decide +kernel
theorem dX6_ownerOf_85 : decode cX6_ownerOf 85 = .ok (.iaload, 1) := by decide +kernel
theorem dX6_ownerOf_86 : decode cX6_ownerOf 86 = .ok (.ireturn, 1) := by decide +kernel
theorem dX6_ownerOf_87 : decode cX6_ownerOf 87 = .ok (.aload_n 0, 1) := by decide +kernel
theorem dX6_ownerOf_88 : decode cX6_ownerOf 88 = .ok (.getfield 10, 3) := by decide +kernel
theorem dX6_ownerOf_91 : decode cX6_ownerOf 91 = .ok (.getfield 128, 3) := by decide +kernel
theorem dX6_ownerOf_94 : decode cX6_ownerOf 94 = .ok (.iload_n 1, 1) := by decide +kernel
theorem dX6_ownerOf_95 : decode cX6_ownerOf 95 = .ok (.iaload, 1) := by decide +kernel
theorem dX6_ownerOf_96 : decode cX6_ownerOf 96 = .ok (.ireturn, 1) := by decide +kernel
theorem dX6_ownerOf_97 : decode cX6_ownerOf 97 = .ok (.aload_n 0, 1) := by decide +kernel
theorem dX6_ownerOf_98 : decode cX6_ownerOf 98 = .ok (.getfield 10, 3) := by decide +kernel
theorem dX6_ownerOf_101 : decode cX6_ownerOf 101 = .ok (.iload_n 1, 1) := by decide +kernel
theorem dX6_ownerOf_102 : decode cX6_ownerOf 102 = .ok (.invokevirtual 131, 3) := by decide +kernel
theorem dX6_ownerOf_105 : decode cX6_ownerOf 105 = .ok (.ireturn, 1) := by decide +kernel
theorem dX6_ownerOf_106 : decode cX6_ownerOf 106 = .ok (.aload_n 0, 1) := by decide +kernel
theorem dX6_ownerOf_107 : decode cX6_ownerOf 107 = .ok (.getfield 10, 3) := by decide +kernel
theorem dX6_ownerOf_110 : decode cX6_ownerOf 110 = .ok (.iload_n 1, 1) := by decide +kernel
theorem dX6_ownerOf_111 : decode cX6_ownerOf 111 = .ok (.invokevirtual 134, 3) := by decide +kernel
theorem dX6_ownerOf_114 : decode cX6_ownerOf 114 = .ok (.ireturn, 1) := by decide +kernel
theorem dX6_ownerOf_115 : decode cX6_ownerOf 115 = .ok (.new 110, 3) := by decide +kernel
theorem dX6_ownerOf_118 : decode cX6_ownerOf 118 = .ok (.dup, 1) := by decide +kernel
theorem dX6_ownerOf_119 : decode cX6_ownerOf 119 = .ok (.ldc 137, 2) := by decide +kernel
theorem dX6_ownerOf_121 : decode cX6_ownerOf 121 = .ok (.invokespecial 114, 3) := by decide +kernel
theorem dX6_ownerOf_124 : decode cX6_ownerOf 124 = .ok (.athrow, 1) := by decide +kernel
theorem dX6_weekOf_0 : decode cX6_weekOf 0 = .ok (.aload_n 0, 1) := by decide +kernel
theorem dX6_weekOf_1 : decode cX6_weekOf 1 = .ok (.iload_n 1, 1) := by decide +kernel
theorem dX6_weekOf_2 : decode cX6_weekOf 2 = .ok (.invokevirtual 139, 3) := by decide +kernel
theorem dX6_weekOf_5 : decode cX6_weekOf 5 = .ok (.iload_n 2, 1) := by decide +kernel
theorem dX6_weekOf_6 : decode cX6_weekOf 6 = .ok (.tableswitch 90 0 4 #[34, 44, 62, 72, 81], 34) := by decide +kernel
theorem dX6_weekOf_40 : decode cX6_weekOf 40 = .ok (.aload_n 0, 1) := by decide +kernel
theorem dX6_weekOf_41 : decode cX6_weekOf 41 = .ok (.getfield 10, 3) := by decide +kernel
theorem dX6_weekOf_44 : decode cX6_weekOf 44 = .ok (.getfield 142, 3) := by decide +kernel
theorem dX6_weekOf_47 : decode cX6_weekOf 47 = .ok (.iload_n 1, 1) := by decide +kernel
theorem dX6_weekOf_48 : decode cX6_weekOf 48 = .ok (.iaload, 1) := by decide +kernel
theorem dX6_weekOf_49 : decode cX6_weekOf 49 = .ok (.ireturn, 1) := by decide +kernel
theorem dX6_weekOf_50 : decode cX6_weekOf 50 = .ok (.aload_n 0, 1) := by decide +kernel
theorem dX6_weekOf_51 : decode cX6_weekOf 51 = .ok (.getfield 10, 3) := by decide +kernel
theorem dX6_weekOf_54 : decode cX6_weekOf 54 = .ok (.getfield 145, 3) := by decide +kernel
theorem dX6_weekOf_57 : decode cX6_weekOf 57 = .ok (.iload_n 1, 1) := by decide +kernel
theorem dX6_weekOf_58 : decode cX6_weekOf 58 = .ok (.baload, 1) := by decide +kernel
theorem dX6_weekOf_59 : decode cX6_weekOf 59 = .ok (.ifCond .eq 7, 3) := by decide +kernel
theorem dX6_weekOf_62 : decode cX6_weekOf 62 = .ok (.iconst 1, 1) := by decide +kernel
theorem dX6_weekOf_63 : decode cX6_weekOf 63 = .ok (.goto 4, 3) := by decide +kernel
theorem dX6_weekOf_66 : decode cX6_weekOf 66 = .ok (.iconst 0, 1) := by decide +kernel
theorem dX6_weekOf_67 : decode cX6_weekOf 67 = .ok (.ireturn, 1) := by decide +kernel
theorem dX6_weekOf_68 : decode cX6_weekOf 68 = .ok (.aload_n 0, 1) := by decide +kernel
theorem dX6_weekOf_69 : decode cX6_weekOf 69 = .ok (.getfield 10, 3) := by decide +kernel
theorem dX6_weekOf_72 : decode cX6_weekOf 72 = .ok (.getfield 148, 3) := by decide +kernel
theorem dX6_weekOf_75 : decode cX6_weekOf 75 = .ok (.iload_n 1, 1) := by decide +kernel
theorem dX6_weekOf_76 : decode cX6_weekOf 76 = .ok (.iaload, 1) := by decide +kernel
theorem dX6_weekOf_77 : decode cX6_weekOf 77 = .ok (.ireturn, 1) := by decide +kernel
theorem dX6_weekOf_78 : decode cX6_weekOf 78 = .ok (.aload_n 0, 1) := by decide +kernel
theorem dX6_weekOf_79 : decode cX6_weekOf 79 = .ok (.getfield 10, 3) := by decide +kernel
theorem dX6_weekOf_82 : decode cX6_weekOf 82 = .ok (.iload_n 1, 1) := by decide +kernel
theorem dX6_weekOf_83 : decode cX6_weekOf 83 = .ok (.invokevirtual 151, 3) := by decide +kernel
theorem dX6_weekOf_86 : decode cX6_weekOf 86 = .ok (.ireturn, 1) := by decide +kernel
theorem dX6_weekOf_87 : decode cX6_weekOf 87 = .ok (.aload_n 0, 1) := by decide +kernel
theorem dX6_weekOf_88 : decode cX6_weekOf 88 = .ok (.getfield 10, 3) := by decide +kernel
theorem dX6_weekOf_91 : decode cX6_weekOf 91 = .ok (.iload_n 1, 1) := by decide +kernel
theorem dX6_weekOf_92 : decode cX6_weekOf 92 = .ok (.invokevirtual 154, 3) := by decide +kernel
theorem dX6_weekOf_95 : decode cX6_weekOf 95 = .ok (.ireturn, 1) := by decide +kernel
theorem dX6_weekOf_96 : decode cX6_weekOf 96 = .ok (.new 110, 3) := by decide +kernel
theorem dX6_weekOf_99 : decode cX6_weekOf 99 = .ok (.dup, 1) := by decide +kernel
theorem dX6_weekOf_100 : decode cX6_weekOf 100 = .ok (.ldc 157, 2) := by decide +kernel
theorem dX6_weekOf_102 : decode cX6_weekOf 102 = .ok (.invokespecial 114, 3) := by decide +kernel
theorem dX6_weekOf_105 : decode cX6_weekOf 105 = .ok (.athrow, 1) := by decide +kernel
theorem dX6_bidOf_0 : decode cX6_bidOf 0 = .ok (.aload_n 0, 1) := by decide +kernel
theorem dX6_bidOf_1 : decode cX6_bidOf 1 = .ok (.iload_n 1, 1) := by decide +kernel
theorem dX6_bidOf_2 : decode cX6_bidOf 2 = .ok (.invokevirtual 115, 3) := by decide +kernel
theorem dX6_bidOf_5 : decode cX6_bidOf 5 = .ok (.aload_n 0, 1) := by decide +kernel
theorem dX6_bidOf_6 : decode cX6_bidOf 6 = .ok (.iload_n 2, 1) := by decide +kernel
theorem dX6_bidOf_7 : decode cX6_bidOf 7 = .ok (.invokevirtual 139, 3) := by decide +kernel
theorem dX6_bidOf_10 : decode cX6_bidOf 10 = .ok (.aload_n 0, 1) := by decide +kernel
theorem dX6_bidOf_11 : decode cX6_bidOf 11 = .ok (.getfield 10, 3) := by decide +kernel
theorem dX6_bidOf_14 : decode cX6_bidOf 14 = .ok (.iload_n 1, 1) := by decide +kernel
theorem dX6_bidOf_15 : decode cX6_bidOf 15 = .ok (.iload_n 2, 1) := by decide +kernel
theorem dX6_bidOf_16 : decode cX6_bidOf 16 = .ok (.invokevirtual 159, 3) := by decide +kernel
theorem dX6_bidOf_19 : decode cX6_bidOf 19 = .ok (.ireturn, 1) := by decide +kernel
theorem dX6_offerOf_0 : decode cX6_offerOf 0 = .ok (.aload_n 0, 1) := by decide +kernel
theorem dX6_offerOf_1 : decode cX6_offerOf 1 = .ok (.iload_n 1, 1) := by decide +kernel
theorem dX6_offerOf_2 : decode cX6_offerOf 2 = .ok (.invokevirtual 163, 3) := by decide +kernel
theorem dX6_offerOf_5 : decode cX6_offerOf 5 = .ok (.iload_n 2, 1) := by decide +kernel
theorem dX6_offerOf_6 : decode cX6_offerOf 6 = .ok (.tableswitch 103 0 3 #[30, 40, 50, 60], 30) := by decide +kernel
theorem dX6_offerOf_36 : decode cX6_offerOf 36 = .ok (.aload_n 0, 1) := by decide +kernel
theorem dX6_offerOf_37 : decode cX6_offerOf 37 = .ok (.getfield 10, 3) := by decide +kernel
theorem dX6_offerOf_40 : decode cX6_offerOf 40 = .ok (.getfield 166, 3) := by decide +kernel
theorem dX6_offerOf_43 : decode cX6_offerOf 43 = .ok (.iload_n 1, 1) := by decide +kernel
theorem dX6_offerOf_44 : decode cX6_offerOf 44 = .ok (.iaload, 1) := by decide +kernel
theorem dX6_offerOf_45 : decode cX6_offerOf 45 = .ok (.ireturn, 1) := by decide +kernel
theorem dX6_offerOf_46 : decode cX6_offerOf 46 = .ok (.aload_n 0, 1) := by decide +kernel
theorem dX6_offerOf_47 : decode cX6_offerOf 47 = .ok (.getfield 10, 3) := by decide +kernel
theorem dX6_offerOf_50 : decode cX6_offerOf 50 = .ok (.getfield 169, 3) := by decide +kernel
theorem dX6_offerOf_53 : decode cX6_offerOf 53 = .ok (.iload_n 1, 1) := by decide +kernel
theorem dX6_offerOf_54 : decode cX6_offerOf 54 = .ok (.iaload, 1) := by decide +kernel
theorem dX6_offerOf_55 : decode cX6_offerOf 55 = .ok (.ireturn, 1) := by decide +kernel
theorem dX6_offerOf_56 : decode cX6_offerOf 56 = .ok (.aload_n 0, 1) := by decide +kernel
theorem dX6_offerOf_57 : decode cX6_offerOf 57 = .ok (.getfield 10, 3) := by decide +kernel
theorem dX6_offerOf_60 : decode cX6_offerOf 60 = .ok (.getfield 172, 3) := by decide +kernel
theorem dX6_offerOf_63 : decode cX6_offerOf 63 = .ok (.iload_n 1, 1) := by decide +kernel
theorem dX6_offerOf_64 : decode cX6_offerOf 64 = .ok (.iaload, 1) := by decide +kernel
theorem dX6_offerOf_65 : decode cX6_offerOf 65 = .ok (.ireturn, 1) := by decide +kernel
theorem dX6_offerOf_66 : decode cX6_offerOf 66 = .ok (.aload_n 0, 1) := by decide +kernel
theorem dX6_offerOf_67 : decode cX6_offerOf 67 = .ok (.getfield 10, 3) := by decide +kernel
theorem dX6_offerOf_70 : decode cX6_offerOf 70 = .ok (.aload_n 0, 1) := by decide +kernel
theorem dX6_offerOf_71 : decode cX6_offerOf 71 = .ok (.getfield 10, 3) := by decide +kernel
theorem dX6_offerOf_74 : decode cX6_offerOf 74 = .ok (.getfield 166, 3) := by decide +kernel
theorem dX6_offerOf_77 : decode cX6_offerOf 77 = .ok (.iload_n 1, 1) := by decide +kernel
theorem dX6_offerOf_78 : decode cX6_offerOf 78 = .ok (.iaload, 1) := by decide +kernel
theorem dX6_offerOf_79 : decode cX6_offerOf 79 = .ok (.aload_n 0, 1) := by decide +kernel
theorem dX6_offerOf_80 : decode cX6_offerOf 80 = .ok (.getfield 10, 3) := by decide +kernel
theorem dX6_offerOf_83 : decode cX6_offerOf 83 = .ok (.getfield 169, 3) := by decide +kernel
theorem dX6_offerOf_86 : decode cX6_offerOf 86 = .ok (.iload_n 1, 1) := by decide +kernel
theorem dX6_offerOf_87 : decode cX6_offerOf 87 = .ok (.iaload, 1) := by decide +kernel
theorem dX6_offerOf_88 : decode cX6_offerOf 88 = .ok (.aload_n 0, 1) := by decide +kernel
theorem dX6_offerOf_89 : decode cX6_offerOf 89 = .ok (.getfield 10, 3) := by decide +kernel
theorem dX6_offerOf_92 : decode cX6_offerOf 92 = .ok (.getfield 172, 3) := by decide +kernel
theorem dX6_offerOf_95 : decode cX6_offerOf 95 = .ok (.iload_n 1, 1) := by decide +kernel
theorem dX6_offerOf_96 : decode cX6_offerOf 96 = .ok (.iaload, 1) := by decide +kernel
theorem dX6_offerOf_97 : decode cX6_offerOf 97 = .ok (.invokevirtual 175, 3) := by decide +kernel
theorem dX6_offerOf_100 : decode cX6_offerOf 100 = .ok (.ifCond .eq 7, 3) := by decide +kernel
theorem dX6_offerOf_103 : decode cX6_offerOf 103 = .ok (.iconst 0, 1) := by decide +kernel
theorem dX6_offerOf_104 : decode cX6_offerOf 104 = .ok (.goto 4, 3) := by decide +kernel
theorem dX6_offerOf_107 : decode cX6_offerOf 107 = .ok (.iconst 1, 1) := by decide +kernel
theorem dX6_offerOf_108 : decode cX6_offerOf 108 = .ok (.ireturn, 1) := by decide +kernel
theorem dX6_offerOf_109 : decode cX6_offerOf 109 = .ok (.new 110, 3) := by decide +kernel
theorem dX6_offerOf_112 : decode cX6_offerOf 112 = .ok (.dup, 1) := by decide +kernel
theorem dX6_offerOf_113 : decode cX6_offerOf 113 = .ok (.ldc 179, 2) := by decide +kernel
theorem dX6_offerOf_115 : decode cX6_offerOf 115 = .ok (.invokespecial 114, 3) := by decide +kernel
theorem dX6_offerOf_118 : decode cX6_offerOf 118 = .ok (.athrow, 1) := by decide +kernel
theorem dX6_owner_0 : decode cX6_owner 0 = .ok (.aload_n 0, 1) := by decide +kernel
theorem dX6_owner_1 : decode cX6_owner 1 = .ok (.iload_n 1, 1) := by decide +kernel
theorem dX6_owner_2 : decode cX6_owner 2 = .ok (.iconst 1, 1) := by decide +kernel
theorem dX6_owner_3 : decode cX6_owner 3 = .ok (.bipush 9, 2) := by decide +kernel
theorem dX6_owner_5 : decode cX6_owner 5 = .ok (.invokevirtual 48, 3) := by decide +kernel
theorem dX6_owner_8 : decode cX6_owner 8 = .ok (.aload_n 0, 1) := by decide +kernel
theorem dX6_owner_9 : decode cX6_owner 9 = .ok (.getfield 10, 3) := by decide +kernel
theorem dX6_owner_12 : decode cX6_owner 12 = .ok (.getfield 86, 3) := by decide +kernel
theorem dX6_owner_15 : decode cX6_owner 15 = .ok (.bipush 6, 2) := by decide +kernel
theorem dX6_owner_17 : decode cX6_owner 17 = .ok (.if_icmp .lt 13, 3) := by decide +kernel
theorem dX6_owner_20 : decode cX6_owner 20 = .ok (.new 56, 3) := by decide +kernel
theorem dX6_owner_23 : decode cX6_owner 23 = .ok (.dup, 1) := by decide +kernel
theorem dX6_owner_24 : decode cX6_owner 24 = .ok (.ldc 181, 2) := by decide +kernel
theorem dX6_owner_26 : decode cX6_owner 26 = .ok (.invokespecial 60, 3) := by decide +kernel
theorem dX6_owner_29 : decode cX6_owner 29 = .ok (.athrow, 1) := by decide +kernel
theorem dX6_owner_30 : decode cX6_owner 30 = .ok (.aload_n 0, 1) := by decide +kernel
theorem dX6_owner_31 : decode cX6_owner 31 = .ok (.getfield 22, 3) := by decide +kernel
theorem dX6_owner_34 : decode cX6_owner 34 = .ok (.aload_n 0, 1) := by decide +kernel
theorem dX6_owner_35 : decode cX6_owner 35 = .ok (.getfield 10, 3) := by decide +kernel
theorem dX6_owner_38 : decode cX6_owner 38 = .ok (.invokevirtual 183, 3) := by decide +kernel
theorem dX6_owner_41 : decode cX6_owner 41 = .ok (.aload_n 0, 1) := by decide +kernel
theorem dX6_owner_42 : decode cX6_owner 42 = .ok (.getfield 10, 3) := by decide +kernel
theorem dX6_owner_45 : decode cX6_owner 45 = .ok (.iload_n 1, 1) := by decide +kernel
theorem dX6_owner_46 : decode cX6_owner 46 = .ok (.invokevirtual 187, 3) := by decide +kernel
theorem dX6_owner_49 : decode cX6_owner 49 = .ok (.ireturn, 1) := by decide +kernel
theorem dX6_cost_0 : decode cX6_cost 0 = .ok (.aload_n 0, 1) := by decide +kernel
theorem dX6_cost_1 : decode cX6_cost 1 = .ok (.iload_n 1, 1) := by decide +kernel
theorem dX6_cost_2 : decode cX6_cost 2 = .ok (.invokevirtual 139, 3) := by decide +kernel
theorem dX6_cost_5 : decode cX6_cost 5 = .ok (.aload_n 0, 1) := by decide +kernel
theorem dX6_cost_6 : decode cX6_cost 6 = .ok (.iload_n 2, 1) := by decide +kernel
theorem dX6_cost_7 : decode cX6_cost 7 = .ok (.iconst 1, 1) := by decide +kernel
theorem dX6_cost_8 : decode cX6_cost 8 = .ok (.bipush 9, 2) := by decide +kernel
theorem dX6_cost_10 : decode cX6_cost 10 = .ok (.invokevirtual 48, 3) := by decide +kernel
theorem dX6_cost_13 : decode cX6_cost 13 = .ok (.aload_n 0, 1) := by decide +kernel
theorem dX6_cost_14 : decode cX6_cost 14 = .ok (.getfield 22, 3) := by decide +kernel
theorem dX6_cost_17 : decode cX6_cost 17 = .ok (.aload_n 0, 1) := by decide +kernel
theorem dX6_cost_18 : decode cX6_cost 18 = .ok (.getfield 10, 3) := by decide +kernel
theorem dX6_cost_21 : decode cX6_cost 21 = .ok (.invokevirtual 183, 3) := by decide +kernel
theorem dX6_cost_24 : decode cX6_cost 24 = .ok (.aload_n 0, 1) := by decide +kernel
theorem dX6_cost_25 : decode cX6_cost 25 = .ok (.getfield 10, 3) := by decide +kernel
theorem dX6_cost_28 : decode cX6_cost 28 = .ok (.iload_n 1, 1) := by decide +kernel
theorem dX6_cost_29 : decode cX6_cost 29 = .ok (.iload_n 2, 1) := by decide +kernel
theorem dX6_cost_30 : decode cX6_cost 30 = .ok (.invokevirtual 190, 3) := by decide +kernel
theorem dX6_cost_33 : decode cX6_cost 33 = .ok (.ireturn, 1) := by decide +kernel
theorem dX6_school_0 : decode cX6_school 0 = .ok (.aload_n 0, 1) := by decide +kernel
theorem dX6_school_1 : decode cX6_school 1 = .ok (.iload_n 1, 1) := by decide +kernel
theorem dX6_school_2 : decode cX6_school 2 = .ok (.invokevirtual 139, 3) := by decide +kernel
theorem dX6_school_5 : decode cX6_school 5 = .ok (.aload_n 0, 1) := by decide +kernel
theorem dX6_school_6 : decode cX6_school 6 = .ok (.getfield 22, 3) := by decide +kernel
theorem dX6_school_9 : decode cX6_school 9 = .ok (.aload_n 0, 1) := by decide +kernel
theorem dX6_school_10 : decode cX6_school 10 = .ok (.getfield 10, 3) := by decide +kernel
theorem dX6_school_13 : decode cX6_school 13 = .ok (.invokevirtual 183, 3) := by decide +kernel
theorem dX6_school_16 : decode cX6_school 16 = .ok (.aload_n 0, 1) := by decide +kernel
theorem dX6_school_17 : decode cX6_school 17 = .ok (.getfield 10, 3) := by decide +kernel
theorem dX6_school_20 : decode cX6_school 20 = .ok (.iload_n 1, 1) := by decide +kernel
theorem dX6_school_21 : decode cX6_school 21 = .ok (.iload_n 2, 1) := by decide +kernel
theorem dX6_school_22 : decode cX6_school 22 = .ok (.invokevirtual 193, 3) := by decide +kernel
theorem dX6_school_25 : decode cX6_school 25 = .ok (.ireturn, 1) := by decide +kernel
theorem dX6_take_0 : decode cX6_take 0 = .ok (.aload_n 0, 1) := by decide +kernel
theorem dX6_take_1 : decode cX6_take 1 = .ok (.iload_n 1, 1) := by decide +kernel
theorem dX6_take_2 : decode cX6_take 2 = .ok (.invokevirtual 115, 3) := by decide +kernel
theorem dX6_take_5 : decode cX6_take 5 = .ok (.aload_n 0, 1) := by decide +kernel
theorem dX6_take_6 : decode cX6_take 6 = .ok (.iload_n 2, 1) := by decide +kernel
theorem dX6_take_7 : decode cX6_take 7 = .ok (.invokevirtual 139, 3) := by decide +kernel
theorem dX6_take_10 : decode cX6_take 10 = .ok (.aload_n 0, 1) := by decide +kernel
theorem dX6_take_11 : decode cX6_take 11 = .ok (.getfield 22, 3) := by decide +kernel
theorem dX6_take_14 : decode cX6_take 14 = .ok (.aload_n 0, 1) := by decide +kernel
theorem dX6_take_15 : decode cX6_take 15 = .ok (.getfield 10, 3) := by decide +kernel
theorem dX6_take_18 : decode cX6_take 18 = .ok (.invokevirtual 183, 3) := by decide +kernel
theorem dX6_take_21 : decode cX6_take 21 = .ok (.aload_n 0, 1) := by decide +kernel
theorem dX6_take_22 : decode cX6_take 22 = .ok (.getfield 10, 3) := by decide +kernel
theorem dX6_take_25 : decode cX6_take 25 = .ok (.iload_n 1, 1) := by decide +kernel
theorem dX6_take_26 : decode cX6_take 26 = .ok (.iload_n 2, 1) := by decide +kernel
theorem dX6_take_27 : decode cX6_take 27 = .ok (.invokevirtual 197, 3) := by decide +kernel
theorem dX6_take_30 : decode cX6_take 30 = .ok (.ireturn, 1) := by decide +kernel
theorem dX6_release_0 : decode cX6_release 0 = .ok (.aload_n 0, 1) := by decide +kernel
theorem dX6_release_1 : decode cX6_release 1 = .ok (.iload_n 1, 1) := by decide +kernel
theorem dX6_release_2 : decode cX6_release 2 = .ok (.invokevirtual 115, 3) := by decide +kernel
theorem dX6_release_5 : decode cX6_release 5 = .ok (.aload_n 0, 1) := by decide +kernel
theorem dX6_release_6 : decode cX6_release 6 = .ok (.iload_n 2, 1) := by decide +kernel
theorem dX6_release_7 : decode cX6_release 7 = .ok (.invokevirtual 139, 3) := by decide +kernel
theorem dX6_release_10 : decode cX6_release 10 = .ok (.aload_n 0, 1) := by decide +kernel
theorem dX6_release_11 : decode cX6_release 11 = .ok (.getfield 10, 3) := by decide +kernel
theorem dX6_release_14 : decode cX6_release 14 = .ok (.iload_n 1, 1) := by decide +kernel
theorem dX6_release_15 : decode cX6_release 15 = .ok (.iload_n 2, 1) := by decide +kernel
theorem dX6_release_16 : decode cX6_release 16 = .ok (.invokevirtual 200, 3) := by decide +kernel
theorem dX6_release_19 : decode cX6_release 19 = .ok (.ifCond .ne 13, 3) := by decide +kernel
theorem dX6_release_22 : decode cX6_release 22 = .ok (.new 56, 3) := by decide +kernel
theorem dX6_release_25 : decode cX6_release 25 = .ok (.dup, 1) := by decide +kernel
theorem dX6_release_26 : decode cX6_release 26 = .ok (.ldc 204, 2) := by decide +kernel
theorem dX6_release_28 : decode cX6_release 28 = .ok (.invokespecial 60, 3) := by decide +kernel
theorem dX6_release_31 : decode cX6_release 31 = .ok (.athrow, 1) := by decide +kernel
theorem dX6_release_32 : decode cX6_release 32 = .ok (.aload_n 0, 1) := by decide +kernel
theorem dX6_release_33 : decode cX6_release 33 = .ok (.getfield 22, 3) := by decide +kernel
theorem dX6_release_36 : decode cX6_release 36 = .ok (.aload_n 0, 1) := by decide +kernel
theorem dX6_release_37 : decode cX6_release 37 = .ok (.getfield 10, 3) := by decide +kernel
theorem dX6_release_40 : decode cX6_release 40 = .ok (.invokevirtual 183, 3) := by decide +kernel
theorem dX6_release_43 : decode cX6_release 43 = .ok (.aload_n 0, 1) := by decide +kernel
theorem dX6_release_44 : decode cX6_release 44 = .ok (.getfield 10, 3) := by decide +kernel
theorem dX6_release_47 : decode cX6_release 47 = .ok (.iload_n 1, 1) := by decide +kernel
theorem dX6_release_48 : decode cX6_release 48 = .ok (.iload_n 2, 1) := by decide +kernel
theorem dX6_release_49 : decode cX6_release 49 = .ok (.invokevirtual 206, 3) := by decide +kernel
theorem dX6_release_52 : decode cX6_release 52 = .ok (.ireturn, 1) := by decide +kernel
theorem dX6_bid_0 : decode cX6_bid 0 = .ok (.aload_n 0, 1) := by decide +kernel
theorem dX6_bid_1 : decode cX6_bid 1 = .ok (.iload_n 1, 1) := by decide +kernel
theorem dX6_bid_2 : decode cX6_bid 2 = .ok (.invokevirtual 115, 3) := by decide +kernel
theorem dX6_bid_5 : decode cX6_bid 5 = .ok (.aload_n 0, 1) := by decide +kernel
theorem dX6_bid_6 : decode cX6_bid 6 = .ok (.iload_n 2, 1) := by decide +kernel
theorem dX6_bid_7 : decode cX6_bid 7 = .ok (.invokevirtual 139, 3) := by decide +kernel
theorem dX6_bid_10 : decode cX6_bid 10 = .ok (.aload_n 0, 1) := by decide +kernel
theorem dX6_bid_11 : decode cX6_bid 11 = .ok (.iload_n 3, 1) := by decide +kernel
theorem dX6_bid_12 : decode cX6_bid 12 = .ok (.iconst 0, 1) := by decide +kernel
theorem dX6_bid_13 : decode cX6_bid 13 = .ok (.bipush 20, 2) := by decide +kernel
theorem dX6_bid_15 : decode cX6_bid 15 = .ok (.invokevirtual 48, 3) := by decide +kernel
theorem dX6_bid_18 : decode cX6_bid 18 = .ok (.aload_n 0, 1) := by decide +kernel
theorem dX6_bid_19 : decode cX6_bid 19 = .ok (.getfield 10, 3) := by decide +kernel
theorem dX6_bid_22 : decode cX6_bid 22 = .ok (.iload_n 2, 1) := by decide +kernel
theorem dX6_bid_23 : decode cX6_bid 23 = .ok (.invokevirtual 209, 3) := by decide +kernel
theorem dX6_bid_26 : decode cX6_bid 26 = .ok (.ifCond .ne 13, 3) := by decide +kernel
theorem dX6_bid_29 : decode cX6_bid 29 = .ok (.new 56, 3) := by decide +kernel
theorem dX6_bid_32 : decode cX6_bid 32 = .ok (.dup, 1) := by decide +kernel
theorem dX6_bid_33 : decode cX6_bid 33 = .ok (.ldc 213, 2) := by decide +kernel
theorem dX6_bid_35 : decode cX6_bid 35 = .ok (.invokespecial 60, 3) := by decide +kernel
theorem dX6_bid_38 : decode cX6_bid 38 = .ok (.athrow, 1) := by decide +kernel
theorem dX6_bid_39 : decode cX6_bid 39 = .ok (.aload_n 0, 1) := by decide +kernel
theorem dX6_bid_40 : decode cX6_bid 40 = .ok (.getfield 22, 3) := by decide +kernel
theorem dX6_bid_43 : decode cX6_bid 43 = .ok (.aload_n 0, 1) := by decide +kernel
theorem dX6_bid_44 : decode cX6_bid 44 = .ok (.getfield 10, 3) := by decide +kernel
theorem dX6_bid_47 : decode cX6_bid 47 = .ok (.invokevirtual 183, 3) := by decide +kernel
theorem dX6_bid_50 : decode cX6_bid 50 = .ok (.aload_n 0, 1) := by decide +kernel
theorem dX6_bid_51 : decode cX6_bid 51 = .ok (.getfield 10, 3) := by decide +kernel
theorem dX6_bid_54 : decode cX6_bid 54 = .ok (.iload_n 1, 1) := by decide +kernel
theorem dX6_bid_55 : decode cX6_bid 55 = .ok (.iload_n 2, 1) := by decide +kernel
theorem dX6_bid_56 : decode cX6_bid 56 = .ok (.iload_n 3, 1) := by decide +kernel
theorem dX6_bid_57 : decode cX6_bid 57 = .ok (.invokevirtual 215, 3) := by decide +kernel
theorem dX6_bid_60 : decode cX6_bid 60 = .ok (.ireturn, 1) := by decide +kernel
theorem dX6_settle_0 : decode cX6_settle 0 = .ok (.aload_n 0, 1) := by decide +kernel
theorem dX6_settle_1 : decode cX6_settle 1 = .ok (.getfield 22, 3) := by decide +kernel
theorem dX6_settle_4 : decode cX6_settle 4 = .ok (.aload_n 0, 1) := by decide +kernel
theorem dX6_settle_5 : decode cX6_settle 5 = .ok (.getfield 10, 3) := by decide +kernel
theorem dX6_settle_8 : decode cX6_settle 8 = .ok (.invokevirtual 183, 3) := by decide +kernel
theorem dX6_settle_11 : decode cX6_settle 11 = .ok (.aload_n 0, 1) := by decide +kernel
theorem dX6_settle_12 : decode cX6_settle 12 = .ok (.getfield 10, 3) := by decide +kernel
theorem dX6_settle_15 : decode cX6_settle 15 = .ok (.invokevirtual 219, 3) := by decide +kernel
theorem dX6_settle_18 : decode cX6_settle 18 = .ok (.ireturn, 1) := by decide +kernel
theorem dX6_offer_0 : decode cX6_offer 0 = .ok (.aload_n 0, 1) := by decide +kernel
theorem dX6_offer_1 : decode cX6_offer 1 = .ok (.iload_n 1, 1) := by decide +kernel
theorem dX6_offer_2 : decode cX6_offer 2 = .ok (.invokevirtual 115, 3) := by decide +kernel
theorem dX6_offer_5 : decode cX6_offer 5 = .ok (.aload_n 0, 1) := by decide +kernel
theorem dX6_offer_6 : decode cX6_offer 6 = .ok (.iload_n 2, 1) := by decide +kernel
theorem dX6_offer_7 : decode cX6_offer 7 = .ok (.invokevirtual 139, 3) := by decide +kernel
theorem dX6_offer_10 : decode cX6_offer 10 = .ok (.aload_n 0, 1) := by decide +kernel
theorem dX6_offer_11 : decode cX6_offer 11 = .ok (.iload_n 3, 1) := by decide +kernel
theorem dX6_offer_12 : decode cX6_offer 12 = .ok (.invokevirtual 139, 3) := by decide +kernel
theorem dX6_offer_15 : decode cX6_offer 15 = .ok (.aload_n 0, 1) := by decide +kernel
theorem dX6_offer_16 : decode cX6_offer 16 = .ok (.getfield 10, 3) := by decide +kernel
theorem dX6_offer_19 : decode cX6_offer 19 = .ok (.iload_n 1, 1) := by decide +kernel
theorem dX6_offer_20 : decode cX6_offer 20 = .ok (.iload_n 2, 1) := by decide +kernel
theorem dX6_offer_21 : decode cX6_offer 21 = .ok (.iload_n 3, 1) := by decide +kernel
theorem dX6_offer_22 : decode cX6_offer 22 = .ok (.invokevirtual 222, 3) := by decide +kernel
theorem dX6_offer_25 : decode cX6_offer 25 = .ok (.ifCond .ne 13, 3) := by decide +kernel
theorem dX6_offer_28 : decode cX6_offer 28 = .ok (.new 56, 3) := by decide +kernel
theorem dX6_offer_31 : decode cX6_offer 31 = .ok (.dup, 1) := by decide +kernel
theorem dX6_offer_32 : decode cX6_offer 32 = .ok (.ldc 225, 2) := by decide +kernel
theorem dX6_offer_34 : decode cX6_offer 34 = .ok (.invokespecial 60, 3) := by decide +kernel
theorem dX6_offer_37 : decode cX6_offer 37 = .ok (.athrow, 1) := by decide +kernel
theorem dX6_offer_38 : decode cX6_offer 38 = .ok (.aload_n 0, 1) := by decide +kernel
theorem dX6_offer_39 : decode cX6_offer 39 = .ok (.getfield 22, 3) := by decide +kernel
theorem dX6_offer_42 : decode cX6_offer 42 = .ok (.aload_n 0, 1) := by decide +kernel
theorem dX6_offer_43 : decode cX6_offer 43 = .ok (.getfield 10, 3) := by decide +kernel
theorem dX6_offer_46 : decode cX6_offer 46 = .ok (.invokevirtual 183, 3) := by decide +kernel
theorem dX6_offer_49 : decode cX6_offer 49 = .ok (.aload_n 0, 1) := by decide +kernel
theorem dX6_offer_50 : decode cX6_offer 50 = .ok (.getfield 10, 3) := by decide +kernel
theorem dX6_offer_53 : decode cX6_offer 53 = .ok (.iload_n 1, 1) := by decide +kernel
theorem dX6_offer_54 : decode cX6_offer 54 = .ok (.iload_n 2, 1) := by decide +kernel
theorem dX6_offer_55 : decode cX6_offer 55 = .ok (.iload_n 3, 1) := by decide +kernel
theorem dX6_offer_56 : decode cX6_offer 56 = .ok (.invokevirtual 227, 3) := by decide +kernel
theorem dX6_offer_59 : decode cX6_offer 59 = .ok (.ireturn, 1) := by decide +kernel
theorem dX6_accept_0 : decode cX6_accept 0 = .ok (.aload_n 0, 1) := by decide +kernel
theorem dX6_accept_1 : decode cX6_accept 1 = .ok (.iload_n 1, 1) := by decide +kernel
theorem dX6_accept_2 : decode cX6_accept 2 = .ok (.invokevirtual 163, 3) := by decide +kernel
theorem dX6_accept_5 : decode cX6_accept 5 = .ok (.aload_n 0, 1) := by decide +kernel
theorem dX6_accept_6 : decode cX6_accept 6 = .ok (.getfield 22, 3) := by decide +kernel
theorem dX6_accept_9 : decode cX6_accept 9 = .ok (.aload_n 0, 1) := by decide +kernel
theorem dX6_accept_10 : decode cX6_accept 10 = .ok (.getfield 10, 3) := by decide +kernel
theorem dX6_accept_13 : decode cX6_accept 13 = .ok (.invokevirtual 183, 3) := by decide +kernel
theorem dX6_accept_16 : decode cX6_accept 16 = .ok (.aload_n 0, 1) := by decide +kernel
theorem dX6_accept_17 : decode cX6_accept 17 = .ok (.getfield 10, 3) := by decide +kernel
theorem dX6_accept_20 : decode cX6_accept 20 = .ok (.iload_n 1, 1) := by decide +kernel
theorem dX6_accept_21 : decode cX6_accept 21 = .ok (.invokevirtual 230, 3) := by decide +kernel
theorem dX6_accept_24 : decode cX6_accept 24 = .ok (.ireturn, 1) := by decide +kernel
theorem dX6_upkeep_0 : decode cX6_upkeep 0 = .ok (.aload_n 0, 1) := by decide +kernel
theorem dX6_upkeep_1 : decode cX6_upkeep 1 = .ok (.iload_n 1, 1) := by decide +kernel
theorem dX6_upkeep_2 : decode cX6_upkeep 2 = .ok (.iconst 1, 1) := by decide +kernel
theorem dX6_upkeep_3 : decode cX6_upkeep 3 = .ok (.sipush 999, 3) := by decide +kernel
theorem dX6_upkeep_6 : decode cX6_upkeep 6 = .ok (.invokevirtual 48, 3) := by decide +kernel
theorem dX6_upkeep_9 : decode cX6_upkeep 9 = .ok (.aload_n 0, 1) := by decide +kernel
theorem dX6_upkeep_10 : decode cX6_upkeep 10 = .ok (.getfield 10, 3) := by decide +kernel
theorem dX6_upkeep_13 : decode cX6_upkeep 13 = .ok (.getfield 86, 3) := by decide +kernel
theorem dX6_upkeep_16 : decode cX6_upkeep 16 = .ok (.ifCond .ne 13, 3) := by decide +kernel
theorem dX6_upkeep_19 : decode cX6_upkeep 19 = .ok (.new 56, 3) := by decide +kernel
theorem dX6_upkeep_22 : decode cX6_upkeep 22 = .ok (.dup, 1) := by decide +kernel
theorem dX6_upkeep_23 : decode cX6_upkeep 23 = .ok (.ldc 233, 2) := by decide +kernel
theorem dX6_upkeep_25 : decode cX6_upkeep 25 = .ok (.invokespecial 60, 3) := by decide +kernel
theorem dX6_upkeep_28 : decode cX6_upkeep 28 = .ok (.athrow, 1) := by decide +kernel
theorem dX6_upkeep_29 : decode cX6_upkeep 29 = .ok (.aload_n 0, 1) := by decide +kernel
theorem dX6_upkeep_30 : decode cX6_upkeep 30 = .ok (.getfield 22, 3) := by decide +kernel
theorem dX6_upkeep_33 : decode cX6_upkeep 33 = .ok (.aload_n 0, 1) := by decide +kernel
theorem dX6_upkeep_34 : decode cX6_upkeep 34 = .ok (.getfield 10, 3) := by decide +kernel
theorem dX6_upkeep_37 : decode cX6_upkeep 37 = .ok (.invokevirtual 183, 3) := by decide +kernel
theorem dX6_upkeep_40 : decode cX6_upkeep 40 = .ok (.aload_n 0, 1) := by decide +kernel
theorem dX6_upkeep_41 : decode cX6_upkeep 41 = .ok (.getfield 10, 3) := by decide +kernel
theorem dX6_upkeep_44 : decode cX6_upkeep 44 = .ok (.iload_n 1, 1) := by decide +kernel
theorem dX6_upkeep_45 : decode cX6_upkeep 45 = .ok (.invokevirtual 235, 3) := by decide +kernel
theorem dX6_upkeep_48 : decode cX6_upkeep 48 = .ok (.ireturn, 1) := by decide +kernel
theorem dX6_year_0 : decode cX6_year 0 = .ok (.aload_n 0, 1) := by decide +kernel
theorem dX6_year_1 : decode cX6_year 1 = .ok (.getfield 22, 3) := by decide +kernel
theorem dX6_year_4 : decode cX6_year 4 = .ok (.aload_n 0, 1) := by decide +kernel
theorem dX6_year_5 : decode cX6_year 5 = .ok (.getfield 10, 3) := by decide +kernel
theorem dX6_year_8 : decode cX6_year 8 = .ok (.invokevirtual 183, 3) := by decide +kernel
theorem dX6_year_11 : decode cX6_year 11 = .ok (.aload_n 0, 1) := by decide +kernel
theorem dX6_year_12 : decode cX6_year 12 = .ok (.getfield 10, 3) := by decide +kernel
theorem dX6_year_15 : decode cX6_year 15 = .ok (.invokevirtual 238, 3) := by decide +kernel
theorem dX6_year_18 : decode cX6_year 18 = .ok (.ireturn, 1) := by decide +kernel
theorem dX6_set_0 : decode cX6_set 0 = .ok (.iload_n 1, 1) := by decide +kernel
theorem dX6_set_1 : decode cX6_set 1 = .ok (.ifCond .lt 8, 3) := by decide +kernel
theorem dX6_set_4 : decode cX6_set 4 = .ok (.iload_n 1, 1) := by decide +kernel
theorem dX6_set_5 : decode cX6_set 5 = .ok (.iconst 3, 1) := by decide +kernel
theorem dX6_set_6 : decode cX6_set 6 = .ok (.if_icmp .lt 13, 3) := by decide +kernel
theorem dX6_set_9 : decode cX6_set 9 = .ok (.new 110, 3) := by decide +kernel
theorem dX6_set_12 : decode cX6_set 12 = .ok (.dup, 1) := by decide +kernel
theorem dX6_set_13 : decode cX6_set 13 = .ok (.ldc 241, 2) := by decide +kernel
theorem dX6_set_15 : decode cX6_set 15 = .ok (.invokespecial 114, 3) := by decide +kernel
theorem dX6_set_18 : decode cX6_set 18 = .ok (.athrow, 1) := by decide +kernel
theorem dX6_set_19 : decode cX6_set 19 = .ok (.aload_n 0, 1) := by decide +kernel
theorem dX6_set_20 : decode cX6_set 20 = .ok (.iload_n 2, 1) := by decide +kernel
theorem dX6_set_21 : decode cX6_set 21 = .ok (.getstatic 243, 3) := by decide +kernel
theorem dX6_set_24 : decode cX6_set 24 = .ok (.iload_n 1, 1) := by decide +kernel
theorem dX6_set_25 : decode cX6_set 25 = .ok (.iaload, 1) := by decide +kernel
theorem dX6_set_26 : decode cX6_set 26 = .ok (.getstatic 246, 3) := by decide +kernel
theorem dX6_set_29 : decode cX6_set 29 = .ok (.iload_n 1, 1) := by decide +kernel
theorem dX6_set_30 : decode cX6_set 30 = .ok (.iaload, 1) := by decide +kernel
theorem dX6_set_31 : decode cX6_set 31 = .ok (.invokevirtual 48, 3) := by decide +kernel
theorem dX6_set_34 : decode cX6_set 34 = .ok (.aload_n 0, 1) := by decide +kernel
theorem dX6_set_35 : decode cX6_set 35 = .ok (.getfield 22, 3) := by decide +kernel
theorem dX6_set_38 : decode cX6_set 38 = .ok (.aload_n 0, 1) := by decide +kernel
theorem dX6_set_39 : decode cX6_set 39 = .ok (.getfield 10, 3) := by decide +kernel
theorem dX6_set_42 : decode cX6_set 42 = .ok (.invokevirtual 183, 3) := by decide +kernel
theorem dX6_set_45 : decode cX6_set 45 = .ok (.aload_n 0, 1) := by decide +kernel
theorem dX6_set_46 : decode cX6_set 46 = .ok (.getfield 10, 3) := by decide +kernel
theorem dX6_set_49 : decode cX6_set 49 = .ok (.getfield 249, 3) := by decide +kernel
theorem dX6_set_52 : decode cX6_set 52 = .ok (.iload_n 1, 1) := by decide +kernel
theorem dX6_set_53 : decode cX6_set 53 = .ok (.iaload, 1) := by decide +kernel
theorem dX6_set_54 : decode cX6_set 54 = .ok (.istore_n 3, 1) := by decide +kernel
theorem dX6_set_55 : decode cX6_set 55 = .ok (.aload_n 0, 1) := by decide +kernel
theorem dX6_set_56 : decode cX6_set 56 = .ok (.getfield 10, 3) := by decide +kernel
theorem dX6_set_59 : decode cX6_set 59 = .ok (.getfield 249, 3) := by decide +kernel
theorem dX6_set_62 : decode cX6_set 62 = .ok (.iload_n 1, 1) := by decide +kernel
theorem dX6_set_63 : decode cX6_set 63 = .ok (.iload_n 2, 1) := by decide +kernel
theorem dX6_set_64 : decode cX6_set 64 = .ok (.iastore, 1) := by decide +kernel
theorem dX6_set_65 : decode cX6_set 65 = .ok (.iload_n 3, 1) := by decide +kernel
theorem dX6_set_66 : decode cX6_set 66 = .ok (.ireturn, 1) := by decide +kernel
theorem dX6_undo_0 : decode cX6_undo 0 = .ok (.aload_n 0, 1) := by decide +kernel
theorem dX6_undo_1 : decode cX6_undo 1 = .ok (.getfield 22, 3) := by decide +kernel
theorem dX6_undo_4 : decode cX6_undo 4 = .ok (.invokevirtual 252, 3) := by decide +kernel
theorem dX6_undo_7 : decode cX6_undo 7 = .ok (.ifCond .eq 13, 3) := by decide +kernel
theorem dX6_undo_10 : decode cX6_undo 10 = .ok (.new 56, 3) := by decide +kernel
theorem dX6_undo_13 : decode cX6_undo 13 = .ok (.dup, 1) := by decide +kernel
theorem dX6_undo_14 : decode cX6_undo 14 = .ok (.ldc 255, 2) := by decide +kernel
theorem dX6_undo_16 : decode cX6_undo 16 = .ok (.invokespecial 60, 3) := by decide +kernel
theorem dX6_undo_19 : decode cX6_undo 19 = .ok (.athrow, 1) := by decide +kernel
theorem dX6_undo_20 : decode cX6_undo 20 = .ok (.aload_n 0, 1) := by decide +kernel
theorem dX6_undo_21 : decode cX6_undo 21 = .ok (.getfield 22, 3) := by decide +kernel
theorem dX6_undo_24 : decode cX6_undo 24 = .ok (.aload_n 0, 1) := by decide +kernel
theorem dX6_undo_25 : decode cX6_undo 25 = .ok (.getfield 10, 3) := by decide +kernel
theorem dX6_undo_28 : decode cX6_undo 28 = .ok (.invokevirtual 257, 3) := by decide +kernel
theorem dX6_undo_31 : decode cX6_undo 31 = .ok (.ireturn, 1) := by decide +kernel
theorem dX6_why_0 : decode cX6_why 0 = .ok (.aload_n 0, 1) := by decide +kernel
theorem dX6_why_1 : decode cX6_why 1 = .ok (.iload_n 1, 1) := by decide +kernel
theorem dX6_why_2 : decode cX6_why 2 = .ok (.invokevirtual 115, 3) := by decide +kernel
theorem dX6_why_5 : decode cX6_why 5 = .ok (.aload_n 0, 1) := by decide +kernel
theorem dX6_why_6 : decode cX6_why 6 = .ok (.iload_n 2, 1) := by decide +kernel
theorem dX6_why_7 : decode cX6_why 7 = .ok (.invokevirtual 139, 3) := by decide +kernel
theorem dX6_why_10 : decode cX6_why 10 = .ok (.aload_n 0, 1) := by decide +kernel
theorem dX6_why_11 : decode cX6_why 11 = .ok (.getfield 10, 3) := by decide +kernel
theorem dX6_why_14 : decode cX6_why 14 = .ok (.iload_n 1, 1) := by decide +kernel
theorem dX6_why_15 : decode cX6_why 15 = .ok (.iload_n 2, 1) := by decide +kernel
theorem dX6_why_16 : decode cX6_why 16 = .ok (.invokevirtual 260, 3) := by decide +kernel
theorem dX6_why_19 : decode cX6_why 19 = .ok (.ireturn, 1) := by decide +kernel
theorem dX6_could_0 : decode cX6_could 0 = .ok (.iload_n 1, 1) := by decide +kernel
theorem dX6_could_1 : decode cX6_could 1 = .ok (.lookupswitch 51 #[(0, 27), (1, 39)], 27) := by decide +kernel
theorem dX6_could_28 : decode cX6_could 28 = .ok (.aload_n 0, 1) := by decide +kernel
theorem dX6_could_29 : decode cX6_could 29 = .ok (.getfield 44, 3) := by decide +kernel
theorem dX6_could_32 : decode cX6_could 32 = .ok (.aload_n 0, 1) := by decide +kernel
theorem dX6_could_33 : decode cX6_could 33 = .ok (.getfield 10, 3) := by decide +kernel
theorem dX6_could_36 : decode cX6_could 36 = .ok (.invokevirtual 263, 3) := by decide +kernel
theorem dX6_could_39 : decode cX6_could 39 = .ok (.ireturn, 1) := by decide +kernel
theorem dX6_could_40 : decode cX6_could 40 = .ok (.aload_n 0, 1) := by decide +kernel
theorem dX6_could_41 : decode cX6_could 41 = .ok (.getfield 44, 3) := by decide +kernel
theorem dX6_could_44 : decode cX6_could 44 = .ok (.aload_n 0, 1) := by decide +kernel
theorem dX6_could_45 : decode cX6_could 45 = .ok (.getfield 10, 3) := by decide +kernel
theorem dX6_could_48 : decode cX6_could 48 = .ok (.invokevirtual 266, 3) := by decide +kernel
theorem dX6_could_51 : decode cX6_could 51 = .ok (.ireturn, 1) := by decide +kernel
theorem dX6_could_52 : decode cX6_could 52 = .ok (.new 110, 3) := by decide +kernel
theorem dX6_could_55 : decode cX6_could 55 = .ok (.dup, 1) := by decide +kernel
theorem dX6_could_56 : decode cX6_could 56 = .ok (.ldc_w 269, 3) := by decide +kernel
theorem dX6_could_59 : decode cX6_could 59 = .ok (.invokespecial 114, 3) := by decide +kernel
theorem dX6_could_62 : decode cX6_could 62 = .ok (.athrow, 1) := by decide +kernel
theorem dX6_winner_0 : decode cX6_winner 0 = .ok (.aload_n 0, 1) := by decide +kernel
theorem dX6_winner_1 : decode cX6_winner 1 = .ok (.iload_n 1, 1) := by decide +kernel
theorem dX6_winner_2 : decode cX6_winner 2 = .ok (.invokevirtual 139, 3) := by decide +kernel
theorem dX6_winner_5 : decode cX6_winner 5 = .ok (.aload_n 0, 1) := by decide +kernel
theorem dX6_winner_6 : decode cX6_winner 6 = .ok (.iload_n 1, 1) := by decide +kernel
theorem dX6_winner_7 : decode cX6_winner 7 = .ok (.invokevirtual 271, 3) := by decide +kernel
theorem dX6_winner_10 : decode cX6_winner 10 = .ok (.aload_n 0, 1) := by decide +kernel
theorem dX6_winner_11 : decode cX6_winner 11 = .ok (.getfield 16, 3) := by decide +kernel
theorem dX6_winner_14 : decode cX6_winner 14 = .ok (.iload_n 1, 1) := by decide +kernel
theorem dX6_winner_15 : decode cX6_winner 15 = .ok (.invokevirtual 274, 3) := by decide +kernel
theorem dX6_winner_18 : decode cX6_winner 18 = .ok (.ireturn, 1) := by decide +kernel
theorem dX6_leastBid_0 : decode cX6_leastBid 0 = .ok (.aload_n 0, 1) := by decide +kernel
theorem dX6_leastBid_1 : decode cX6_leastBid 1 = .ok (.iload_n 1, 1) := by decide +kernel
theorem dX6_leastBid_2 : decode cX6_leastBid 2 = .ok (.invokevirtual 115, 3) := by decide +kernel
theorem dX6_leastBid_5 : decode cX6_leastBid 5 = .ok (.aload_n 0, 1) := by decide +kernel
theorem dX6_leastBid_6 : decode cX6_leastBid 6 = .ok (.iload_n 2, 1) := by decide +kernel
theorem dX6_leastBid_7 : decode cX6_leastBid 7 = .ok (.invokevirtual 139, 3) := by decide +kernel
theorem dX6_leastBid_10 : decode cX6_leastBid 10 = .ok (.aload_n 0, 1) := by decide +kernel
theorem dX6_leastBid_11 : decode cX6_leastBid 11 = .ok (.iload_n 2, 1) := by decide +kernel
theorem dX6_leastBid_12 : decode cX6_leastBid 12 = .ok (.invokevirtual 271, 3) := by decide +kernel
theorem dX6_leastBid_15 : decode cX6_leastBid 15 = .ok (.iconst 0, 1) := by decide +kernel
theorem dX6_leastBid_16 : decode cX6_leastBid 16 = .ok (.istore_n 3, 1) := by decide +kernel
theorem dX6_leastBid_17 : decode cX6_leastBid 17 = .ok (.iload_n 3, 1) := by decide +kernel
theorem dX6_leastBid_18 : decode cX6_leastBid 18 = .ok (.bipush 20, 2) := by decide +kernel
theorem dX6_leastBid_20 : decode cX6_leastBid 20 = .ok (.if_icmp .gt 38, 3) := by decide +kernel
theorem dX6_leastBid_23 : decode cX6_leastBid 23 = .ok (.aload_n 0, 1) := by decide +kernel
theorem dX6_leastBid_24 : decode cX6_leastBid 24 = .ok (.getfield 16, 3) := by decide +kernel
theorem dX6_leastBid_27 : decode cX6_leastBid 27 = .ok (.iload_n 1, 1) := by decide +kernel
theorem dX6_leastBid_28 : decode cX6_leastBid 28 = .ok (.iload_n 2, 1) := by decide +kernel
theorem dX6_leastBid_29 : decode cX6_leastBid 29 = .ok (.iload_n 3, 1) := by decide +kernel
theorem dX6_leastBid_30 : decode cX6_leastBid 30 = .ok (.invokevirtual 215, 3) := by decide +kernel
theorem dX6_leastBid_33 : decode cX6_leastBid 33 = .ok (.bipush (-2), 2) := by decide +kernel
theorem dX6_leastBid_35 : decode cX6_leastBid 35 = .ok (.if_icmp .eq 17, 3) := by decide +kernel
theorem dX6_leastBid_38 : decode cX6_leastBid 38 = .ok (.aload_n 0, 1) := by decide +kernel
theorem dX6_leastBid_39 : decode cX6_leastBid 39 = .ok (.getfield 16, 3) := by decide +kernel
theorem dX6_leastBid_42 : decode cX6_leastBid 42 = .ok (.iload_n 2, 1) := by decide +kernel
theorem dX6_leastBid_43 : decode cX6_leastBid 43 = .ok (.invokevirtual 274, 3) := by decide +kernel
theorem dX6_leastBid_46 : decode cX6_leastBid 46 = .ok (.iload_n 1, 1) := by decide +kernel
theorem dX6_leastBid_47 : decode cX6_leastBid 47 = .ok (.if_icmp .ne 5, 3) := by decide +kernel
theorem dX6_leastBid_50 : decode cX6_leastBid 50 = .ok (.iload_n 3, 1) := by decide +kernel
theorem dX6_leastBid_51 : decode cX6_leastBid 51 = .ok (.ireturn, 1) := by decide +kernel
theorem dX6_leastBid_52 : decode cX6_leastBid 52 = .ok (.iinc 3 1, 3) := by decide +kernel
theorem dX6_leastBid_55 : decode cX6_leastBid 55 = .ok (.goto (-38), 3) := by decide +kernel
theorem dX6_leastBid_58 : decode cX6_leastBid 58 = .ok (.iconst (-1), 1) := by decide +kernel
theorem dX6_leastBid_59 : decode cX6_leastBid 59 = .ok (.ireturn, 1) := by decide +kernel
theorem dX6_ifUpkeep_0 : decode cX6_ifUpkeep 0 = .ok (.aload_n 0, 1) := by decide +kernel
theorem dX6_ifUpkeep_1 : decode cX6_ifUpkeep 1 = .ok (.iload_n 1, 1) := by decide +kernel
theorem dX6_ifUpkeep_2 : decode cX6_ifUpkeep 2 = .ok (.invokevirtual 115, 3) := by decide +kernel
theorem dX6_ifUpkeep_5 : decode cX6_ifUpkeep 5 = .ok (.aload_n 0, 1) := by decide +kernel
theorem dX6_ifUpkeep_6 : decode cX6_ifUpkeep 6 = .ok (.iload_n 2, 1) := by decide +kernel
theorem dX6_ifUpkeep_7 : decode cX6_ifUpkeep 7 = .ok (.iconst 1, 1) := by decide +kernel
theorem dX6_ifUpkeep_8 : decode cX6_ifUpkeep 8 = .ok (.sipush 999, 3) := by decide +kernel
theorem dX6_ifUpkeep_11 : decode cX6_ifUpkeep 11 = .ok (.invokevirtual 48, 3) := by decide +kernel
theorem dX6_ifUpkeep_14 : decode cX6_ifUpkeep 14 = .ok (.aload_n 0, 1) := by decide +kernel
theorem dX6_ifUpkeep_15 : decode cX6_ifUpkeep 15 = .ok (.getfield 10, 3) := by decide +kernel
theorem dX6_ifUpkeep_18 : decode cX6_ifUpkeep 18 = .ok (.iload_n 1, 1) := by decide +kernel
theorem dX6_ifUpkeep_19 : decode cX6_ifUpkeep 19 = .ok (.iload_n 2, 1) := by decide +kernel
theorem dX6_ifUpkeep_20 : decode cX6_ifUpkeep 20 = .ok (.invokevirtual 277, 3) := by decide +kernel
theorem dX6_ifUpkeep_23 : decode cX6_ifUpkeep 23 = .ok (.ireturn, 1) := by decide +kernel
theorem dX6_needOwner_0 : decode cX6_needOwner 0 = .ok (.aload_n 0, 1) := by decide +kernel
theorem dX6_needOwner_1 : decode cX6_needOwner 1 = .ok (.getfield 10, 3) := by decide +kernel
theorem dX6_needOwner_4 : decode cX6_needOwner 4 = .ok (.iload_n 1, 1) := by decide +kernel
theorem dX6_needOwner_5 : decode cX6_needOwner 5 = .ok (.invokevirtual 308, 3) := by decide +kernel
theorem dX6_needOwner_8 : decode cX6_needOwner 8 = .ok (.ifCond .ne 14, 3) := by decide +kernel
theorem dX6_needOwner_11 : decode cX6_needOwner 11 = .ok (.new 311, 3) := by decide +kernel
theorem dX6_needOwner_14 : decode cX6_needOwner 14 = .ok (.dup, 1) := by decide +kernel
theorem dX6_needOwner_15 : decode cX6_needOwner 15 = .ok (.ldc_w 313, 3) := by decide +kernel
theorem dX6_needOwner_18 : decode cX6_needOwner 18 = .ok (.invokespecial 315, 3) := by decide +kernel
theorem dX6_needOwner_21 : decode cX6_needOwner 21 = .ok (.athrow, 1) := by decide +kernel
theorem dX6_needOwner_22 : decode cX6_needOwner 22 = .ok (.return_, 1) := by decide +kernel
theorem dX6_needWeek_0 : decode cX6_needWeek 0 = .ok (.aload_n 0, 1) := by decide +kernel
theorem dX6_needWeek_1 : decode cX6_needWeek 1 = .ok (.getfield 10, 3) := by decide +kernel
theorem dX6_needWeek_4 : decode cX6_needWeek 4 = .ok (.iload_n 1, 1) := by decide +kernel
theorem dX6_needWeek_5 : decode cX6_needWeek 5 = .ok (.invokevirtual 316, 3) := by decide +kernel
theorem dX6_needWeek_8 : decode cX6_needWeek 8 = .ok (.ifCond .ne 14, 3) := by decide +kernel
theorem dX6_needWeek_11 : decode cX6_needWeek 11 = .ok (.new 311, 3) := by decide +kernel
theorem dX6_needWeek_14 : decode cX6_needWeek 14 = .ok (.dup, 1) := by decide +kernel
theorem dX6_needWeek_15 : decode cX6_needWeek 15 = .ok (.ldc_w 319, 3) := by decide +kernel
theorem dX6_needWeek_18 : decode cX6_needWeek 18 = .ok (.invokespecial 315, 3) := by decide +kernel
theorem dX6_needWeek_21 : decode cX6_needWeek 21 = .ok (.athrow, 1) := by decide +kernel
theorem dX6_needWeek_22 : decode cX6_needWeek 22 = .ok (.return_, 1) := by decide +kernel
theorem dX6_needOffer_0 : decode cX6_needOffer 0 = .ok (.aload_n 0, 1) := by decide +kernel
theorem dX6_needOffer_1 : decode cX6_needOffer 1 = .ok (.getfield 10, 3) := by decide +kernel
theorem dX6_needOffer_4 : decode cX6_needOffer 4 = .ok (.iload_n 1, 1) := by decide +kernel
theorem dX6_needOffer_5 : decode cX6_needOffer 5 = .ok (.invokevirtual 321, 3) := by decide +kernel
theorem dX6_needOffer_8 : decode cX6_needOffer 8 = .ok (.ifCond .ne 14, 3) := by decide +kernel
theorem dX6_needOffer_11 : decode cX6_needOffer 11 = .ok (.new 311, 3) := by decide +kernel
theorem dX6_needOffer_14 : decode cX6_needOffer 14 = .ok (.dup, 1) := by decide +kernel
theorem dX6_needOffer_15 : decode cX6_needOffer 15 = .ok (.ldc_w 324, 3) := by decide +kernel
theorem dX6_needOffer_18 : decode cX6_needOffer 18 = .ok (.invokespecial 315, 3) := by decide +kernel
theorem dX6_needOffer_21 : decode cX6_needOffer 21 = .ok (.athrow, 1) := by decide +kernel
theorem dX6_needOffer_22 : decode cX6_needOffer 22 = .ok (.return_, 1) := by decide +kernel
theorem dX6_needRange_0 : decode cX6_needRange 0 = .ok (.iload_n 1, 1) := by decide +kernel
theorem dX6_needRange_1 : decode cX6_needRange 1 = .ok (.iload_n 2, 1) := by decide +kernel
theorem dX6_needRange_2 : decode cX6_needRange 2 = .ok (.if_icmp .lt 8, 3) := by decide +kernel
theorem dX6_needRange_5 : decode cX6_needRange 5 = .ok (.iload_n 1, 1) := by decide +kernel
theorem dX6_needRange_6 : decode cX6_needRange 6 = .ok (.iload_n 3, 1) := by decide +kernel
theorem dX6_needRange_7 : decode cX6_needRange 7 = .ok (.if_icmp .le 14, 3) := by decide +kernel
theorem dX6_needRange_10 : decode cX6_needRange 10 = .ok (.new 110, 3) := by decide +kernel
theorem dX6_needRange_13 : decode cX6_needRange 13 = .ok (.dup, 1) := by decide +kernel
theorem dX6_needRange_14 : decode cX6_needRange 14 = .ok (.ldc_w 328, 3) := by decide +kernel
theorem dX6_needRange_17 : decode cX6_needRange 17 = .ok (.invokespecial 114, 3) := by decide +kernel
theorem dX6_needRange_20 : decode cX6_needRange 20 = .ok (.athrow, 1) := by decide +kernel
theorem dX6_needRange_21 : decode cX6_needRange 21 = .ok (.return_, 1) := by decide +kernel
theorem dX6_settleCopyBefore_0 : decode cX6_settleCopyBefore 0 = .ok (.aload_n 0, 1) := by decide +kernel
theorem dX6_settleCopyBefore_1 : decode cX6_settleCopyBefore 1 = .ok (.getfield 16, 3) := by decide +kernel
theorem dX6_settleCopyBefore_4 : decode cX6_settleCopyBefore 4 = .ok (.aload_n 0, 1) := by decide +kernel
theorem dX6_settleCopyBefore_5 : decode cX6_settleCopyBefore 5 = .ok (.getfield 10, 3) := by decide +kernel
theorem dX6_settleCopyBefore_8 : decode cX6_settleCopyBefore 8 = .ok (.invokevirtual 284, 3) := by decide +kernel
theorem dX6_settleCopyBefore_11 : decode cX6_settleCopyBefore 11 = .ok (.iconst 0, 1) := by decide +kernel
theorem dX6_settleCopyBefore_12 : decode cX6_settleCopyBefore 12 = .ok (.istore_n 2, 1) := by decide +kernel
theorem dX6_settleCopyBefore_13 : decode cX6_settleCopyBefore 13 = .ok (.iload_n 2, 1) := by decide +kernel
theorem dX6_settleCopyBefore_14 : decode cX6_settleCopyBefore 14 = .ok (.iload_n 1, 1) := by decide +kernel
theorem dX6_settleCopyBefore_15 : decode cX6_settleCopyBefore 15 = .ok (.if_icmp .ge 18, 3) := by decide +kernel
theorem dX6_settleCopyBefore_18 : decode cX6_settleCopyBefore 18 = .ok (.aload_n 0, 1) := by decide +kernel
theorem dX6_settleCopyBefore_19 : decode cX6_settleCopyBefore 19 = .ok (.getfield 16, 3) := by decide +kernel
theorem dX6_settleCopyBefore_22 : decode cX6_settleCopyBefore 22 = .ok (.iload_n 2, 1) := by decide +kernel
theorem dX6_settleCopyBefore_23 : decode cX6_settleCopyBefore 23 = .ok (.invokevirtual 330, 3) := by decide +kernel
theorem dX6_settleCopyBefore_26 : decode cX6_settleCopyBefore 26 = .ok (.pop, 1) := by decide +kernel
theorem dX6_settleCopyBefore_27 : decode cX6_settleCopyBefore 27 = .ok (.iinc 2 1, 3) := by decide +kernel
theorem dX6_settleCopyBefore_30 : decode cX6_settleCopyBefore 30 = .ok (.goto (-17), 3) := by decide +kernel
theorem dX6_settleCopyBefore_33 : decode cX6_settleCopyBefore 33 = .ok (.return_, 1) := by decide +kernel
theorem dJ6_bitCount_0f7a4_0 : decode cJ6_bitCount_0f7a4 0 = .ok (.iload_n 0, 1) := by decide +kernel
theorem dJ6_bitCount_0f7a4_1 : decode cJ6_bitCount_0f7a4 1 = .ok (.iload_n 0, 1) := by decide +kernel
theorem dJ6_bitCount_0f7a4_2 : decode cJ6_bitCount_0f7a4 2 = .ok (.iconst 1, 1) := by decide +kernel
theorem dJ6_bitCount_0f7a4_3 : decode cJ6_bitCount_0f7a4 3 = .ok (.iushr, 1) := by decide +kernel
theorem dJ6_bitCount_0f7a4_4 : decode cJ6_bitCount_0f7a4 4 = .ok (.ldc_w 265, 3) := by decide +kernel
theorem dJ6_bitCount_0f7a4_7 : decode cJ6_bitCount_0f7a4 7 = .ok (.iand, 1) := by decide +kernel
theorem dJ6_bitCount_0f7a4_8 : decode cJ6_bitCount_0f7a4 8 = .ok (.isub, 1) := by decide +kernel
theorem dJ6_bitCount_0f7a4_9 : decode cJ6_bitCount_0f7a4 9 = .ok (.istore_n 0, 1) := by decide +kernel
theorem dJ6_bitCount_0f7a4_10 : decode cJ6_bitCount_0f7a4 10 = .ok (.iload_n 0, 1) := by decide +kernel
theorem dJ6_bitCount_0f7a4_11 : decode cJ6_bitCount_0f7a4 11 = .ok (.ldc_w 266, 3) := by decide +kernel
theorem dJ6_bitCount_0f7a4_14 : decode cJ6_bitCount_0f7a4 14 = .ok (.iand, 1) := by decide +kernel
theorem dJ6_bitCount_0f7a4_15 : decode cJ6_bitCount_0f7a4 15 = .ok (.iload_n 0, 1) := by decide +kernel
theorem dJ6_bitCount_0f7a4_16 : decode cJ6_bitCount_0f7a4 16 = .ok (.iconst 2, 1) := by decide +kernel
theorem dJ6_bitCount_0f7a4_17 : decode cJ6_bitCount_0f7a4 17 = .ok (.iushr, 1) := by decide +kernel
theorem dJ6_bitCount_0f7a4_18 : decode cJ6_bitCount_0f7a4 18 = .ok (.ldc_w 266, 3) := by decide +kernel
theorem dJ6_bitCount_0f7a4_21 : decode cJ6_bitCount_0f7a4 21 = .ok (.iand, 1) := by decide +kernel
theorem dJ6_bitCount_0f7a4_22 : decode cJ6_bitCount_0f7a4 22 = .ok (.iadd, 1) := by decide +kernel
theorem dJ6_bitCount_0f7a4_23 : decode cJ6_bitCount_0f7a4 23 = .ok (.istore_n 0, 1) := by decide +kernel
theorem dJ6_bitCount_0f7a4_24 : decode cJ6_bitCount_0f7a4 24 = .ok (.iload_n 0, 1) := by decide +kernel
theorem dJ6_bitCount_0f7a4_25 : decode cJ6_bitCount_0f7a4 25 = .ok (.iload_n 0, 1) := by decide +kernel
theorem dJ6_bitCount_0f7a4_26 : decode cJ6_bitCount_0f7a4 26 = .ok (.iconst 4, 1) := by decide +kernel
theorem dJ6_bitCount_0f7a4_27 : decode cJ6_bitCount_0f7a4 27 = .ok (.iushr, 1) := by decide +kernel
theorem dJ6_bitCount_0f7a4_28 : decode cJ6_bitCount_0f7a4 28 = .ok (.iadd, 1) := by decide +kernel
theorem dJ6_bitCount_0f7a4_29 : decode cJ6_bitCount_0f7a4 29 = .ok (.ldc_w 267, 3) := by decide +kernel
theorem dJ6_bitCount_0f7a4_32 : decode cJ6_bitCount_0f7a4 32 = .ok (.iand, 1) := by decide +kernel
theorem dJ6_bitCount_0f7a4_33 : decode cJ6_bitCount_0f7a4 33 = .ok (.istore_n 0, 1) := by decide +kernel
theorem dJ6_bitCount_0f7a4_34 : decode cJ6_bitCount_0f7a4 34 = .ok (.iload_n 0, 1) := by decide +kernel
theorem dJ6_bitCount_0f7a4_35 : decode cJ6_bitCount_0f7a4 35 = .ok (.iload_n 0, 1) := by decide +kernel
theorem dJ6_bitCount_0f7a4_36 : decode cJ6_bitCount_0f7a4 36 = .ok (.bipush 8, 2) := by decide +kernel
theorem dJ6_bitCount_0f7a4_38 : decode cJ6_bitCount_0f7a4 38 = .ok (.iushr, 1) := by decide +kernel
theorem dJ6_bitCount_0f7a4_39 : decode cJ6_bitCount_0f7a4 39 = .ok (.iadd, 1) := by decide +kernel
theorem dJ6_bitCount_0f7a4_40 : decode cJ6_bitCount_0f7a4 40 = .ok (.istore_n 0, 1) := by decide +kernel
theorem dJ6_bitCount_0f7a4_41 : decode cJ6_bitCount_0f7a4 41 = .ok (.iload_n 0, 1) := by decide +kernel
theorem dJ6_bitCount_0f7a4_42 : decode cJ6_bitCount_0f7a4 42 = .ok (.iload_n 0, 1) := by decide +kernel
theorem dJ6_bitCount_0f7a4_43 : decode cJ6_bitCount_0f7a4 43 = .ok (.bipush 16, 2) := by decide +kernel
theorem dJ6_bitCount_0f7a4_45 : decode cJ6_bitCount_0f7a4 45 = .ok (.iushr, 1) := by decide +kernel
theorem dJ6_bitCount_0f7a4_46 : decode cJ6_bitCount_0f7a4 46 = .ok (.iadd, 1) := by decide +kernel
theorem dJ6_bitCount_0f7a4_47 : decode cJ6_bitCount_0f7a4 47 = .ok (.istore_n 0, 1) := by decide +kernel
theorem dJ6_bitCount_0f7a4_48 : decode cJ6_bitCount_0f7a4 48 = .ok (.iload_n 0, 1) := by decide +kernel
theorem dJ6_bitCount_0f7a4_49 : decode cJ6_bitCount_0f7a4 49 = .ok (.bipush 63, 2) := by decide +kernel
theorem dJ6_bitCount_0f7a4_51 : decode cJ6_bitCount_0f7a4 51 = .ok (.iand, 1) := by decide +kernel
theorem dJ6_bitCount_0f7a4_52 : decode cJ6_bitCount_0f7a4 52 = .ok (.ireturn, 1) := by decide +kernel
theorem dJ9_max_7cf53_0 : decode cJ9_max_7cf53 0 = .ok (.iload_n 0, 1) := by decide +kernel
theorem dJ9_max_7cf53_1 : decode cJ9_max_7cf53 1 = .ok (.iload_n 1, 1) := by decide +kernel
theorem dJ9_max_7cf53_2 : decode cJ9_max_7cf53 2 = .ok (.if_icmp .lt 7, 3) := by decide +kernel
theorem dJ9_max_7cf53_5 : decode cJ9_max_7cf53 5 = .ok (.iload_n 0, 1) := by decide +kernel
theorem dJ9_max_7cf53_6 : decode cJ9_max_7cf53 6 = .ok (.goto 4, 3) := by decide +kernel
theorem dJ9_max_7cf53_9 : decode cJ9_max_7cf53 9 = .ok (.iload_n 1, 1) := by decide +kernel
theorem dJ9_max_7cf53_10 : decode cJ9_max_7cf53 10 = .ok (.ireturn, 1) := by decide +kernel
theorem dJ7_fill_53178_0 : decode cJ7_fill_53178 0 = .ok (.iconst 0, 1) := by decide +kernel
theorem dJ7_fill_53178_1 : decode cJ7_fill_53178 1 = .ok (.istore_n 2, 1) := by decide +kernel
theorem dJ7_fill_53178_2 : decode cJ7_fill_53178 2 = .ok (.aload_n 0, 1) := by decide +kernel
theorem dJ7_fill_53178_3 : decode cJ7_fill_53178 3 = .ok (.arraylength, 1) := by decide +kernel
theorem dJ7_fill_53178_4 : decode cJ7_fill_53178 4 = .ok (.istore_n 3, 1) := by decide +kernel
theorem dJ7_fill_53178_5 : decode cJ7_fill_53178 5 = .ok (.iload_n 2, 1) := by decide +kernel
theorem dJ7_fill_53178_6 : decode cJ7_fill_53178 6 = .ok (.iload_n 3, 1) := by decide +kernel
theorem dJ7_fill_53178_7 : decode cJ7_fill_53178 7 = .ok (.if_icmp .ge 13, 3) := by decide +kernel
theorem dJ7_fill_53178_10 : decode cJ7_fill_53178 10 = .ok (.aload_n 0, 1) := by decide +kernel
theorem dJ7_fill_53178_11 : decode cJ7_fill_53178 11 = .ok (.iload_n 2, 1) := by decide +kernel
theorem dJ7_fill_53178_12 : decode cJ7_fill_53178 12 = .ok (.iload_n 1, 1) := by decide +kernel
theorem dJ7_fill_53178_13 : decode cJ7_fill_53178 13 = .ok (.iastore, 1) := by decide +kernel
theorem dJ7_fill_53178_14 : decode cJ7_fill_53178 14 = .ok (.iinc 2 1, 3) := by decide +kernel
theorem dJ7_fill_53178_17 : decode cJ7_fill_53178 17 = .ok (.goto (-12), 3) := by decide +kernel
theorem dJ7_fill_53178_20 : decode cJ7_fill_53178 20 = .ok (.return_, 1) := by decide +kernel
theorem dL_cell_0 : decode cL_cell 0 = .ok (.iload_n 1, 1) := by decide +kernel
theorem dL_cell_1 : decode cL_cell 1 = .ok (.aload_n 0, 1) := by decide +kernel
theorem dL_cell_2 : decode cL_cell 2 = .ok (.arraylength, 1) := by decide +kernel
theorem dL_cell_3 : decode cL_cell 3 = .ok (.if_icmp .ge 9, 3) := by decide +kernel
theorem dL_cell_6 : decode cL_cell 6 = .ok (.aload_n 0, 1) := by decide +kernel
theorem dL_cell_7 : decode cL_cell 7 = .ok (.iload_n 1, 1) := by decide +kernel
theorem dL_cell_8 : decode cL_cell 8 = .ok (.iaload, 1) := by decide +kernel
theorem dL_cell_9 : decode cL_cell 9 = .ok (.goto 17, 3) := by decide +kernel
theorem dL_cell_12 : decode cL_cell 12 = .ok (.sipush 7919, 3) := by decide +kernel
theorem dL_cell_15 : decode cL_cell 15 = .ok (.iload_n 1, 1) := by decide +kernel
theorem dL_cell_16 : decode cL_cell 16 = .ok (.bipush 7, 2) := by decide +kernel
theorem dL_cell_18 : decode cL_cell 18 = .ok (.iadd, 1) := by decide +kernel
theorem dL_cell_19 : decode cL_cell 19 = .ok (.imul, 1) := by decide +kernel
theorem dL_cell_20 : decode cL_cell 20 = .ok (.iload_n 1, 1) := by decide +kernel
theorem dL_cell_21 : decode cL_cell 21 = .ok (.sipush 271, 3) := by decide +kernel
theorem dL_cell_24 : decode cL_cell 24 = .ok (.iadd, 1) := by decide +kernel
theorem dL_cell_25 : decode cL_cell 25 = .ok (.imul, 1) := by decide +kernel
theorem dL_cell_26 : decode cL_cell 26 = .ok (.ireturn, 1) := by decide +kernel
theorem dL_low_0 : decode cL_low 0 = .ok (.iload_n 0, 1) := by decide +kernel
theorem dL_low_1 : decode cL_low 1 = .ok (.ldc 7, 2) := by decide +kernel
theorem dL_low_3 : decode cL_low 3 = .ok (.iand, 1) := by decide +kernel
theorem dL_low_4 : decode cL_low 4 = .ok (.iload_n 1, 1) := by decide +kernel
theorem dL_low_5 : decode cL_low 5 = .ok (.irem, 1) := by decide +kernel
theorem dL_low_6 : decode cL_low 6 = .ok (.ireturn, 1) := by decide +kernel
theorem dL_changes_0 : decode cL_changes 0 = .ok (.aload 4, 2) := by decide +kernel
theorem dL_changes_2 : decode cL_changes 2 = .ok (.iconst 0, 1) := by decide +kernel
theorem dL_changes_3 : decode cL_changes 3 = .ok (.iload_n 1, 1) := by decide +kernel
theorem dL_changes_4 : decode cL_changes 4 = .ok (.ifCond .ne 11, 3) := by decide +kernel
theorem dL_changes_7 : decode cL_changes 7 = .ok (.aload_n 0, 1) := by decide +kernel
theorem dL_changes_8 : decode cL_changes 8 = .ok (.iload_n 2, 1) := by decide +kernel
theorem dL_changes_9 : decode cL_changes 9 = .ok (.invokevirtual 8, 3) := by decide +kernel
theorem dL_changes_12 : decode cL_changes 12 = .ok (.goto 101, 3) := by decide +kernel
theorem dL_changes_15 : decode cL_changes 15 = .ok (.iload_n 1, 1) := by decide +kernel
theorem dL_changes_16 : decode cL_changes 16 = .ok (.iconst 1, 1) := by decide +kernel
theorem dL_changes_17 : decode cL_changes 17 = .ok (.if_icmp .ne 12, 3) := by decide +kernel
theorem dL_changes_20 : decode cL_changes 20 = .ok (.aload_n 0, 1) := by decide +kernel
theorem dL_changes_21 : decode cL_changes 21 = .ok (.iload_n 2, 1) := by decide +kernel
theorem dL_changes_22 : decode cL_changes 22 = .ok (.iload_n 3, 1) := by decide +kernel
theorem dL_changes_23 : decode cL_changes 23 = .ok (.invokevirtual 14, 3) := by decide +kernel
theorem dL_changes_26 : decode cL_changes 26 = .ok (.goto 87, 3) := by decide +kernel
theorem dL_changes_29 : decode cL_changes 29 = .ok (.iload_n 1, 1) := by decide +kernel
theorem dL_changes_30 : decode cL_changes 30 = .ok (.iconst 2, 1) := by decide +kernel
theorem dL_changes_31 : decode cL_changes 31 = .ok (.if_icmp .ne 12, 3) := by decide +kernel
theorem dL_changes_34 : decode cL_changes 34 = .ok (.aload_n 0, 1) := by decide +kernel
theorem dL_changes_35 : decode cL_changes 35 = .ok (.iload_n 2, 1) := by decide +kernel
theorem dL_changes_36 : decode cL_changes 36 = .ok (.iload_n 3, 1) := by decide +kernel
theorem dL_changes_37 : decode cL_changes 37 = .ok (.invokevirtual 18, 3) := by decide +kernel
theorem dL_changes_40 : decode cL_changes 40 = .ok (.goto 73, 3) := by decide +kernel
theorem dL_changes_43 : decode cL_changes 43 = .ok (.iload_n 1, 1) := by decide +kernel
theorem dL_changes_44 : decode cL_changes 44 = .ok (.iconst 3, 1) := by decide +kernel
theorem dL_changes_45 : decode cL_changes 45 = .ok (.if_icmp .ne 11, 3) := by decide +kernel
theorem dL_changes_48 : decode cL_changes 48 = .ok (.aload_n 0, 1) := by decide +kernel
theorem dL_changes_49 : decode cL_changes 49 = .ok (.iload_n 2, 1) := by decide +kernel
theorem dL_changes_50 : decode cL_changes 50 = .ok (.invokevirtual 21, 3) := by decide +kernel
theorem dL_changes_53 : decode cL_changes 53 = .ok (.goto 60, 3) := by decide +kernel
theorem dL_changes_56 : decode cL_changes 56 = .ok (.iload_n 1, 1) := by decide +kernel
theorem dL_changes_57 : decode cL_changes 57 = .ok (.iconst 4, 1) := by decide +kernel
theorem dL_changes_58 : decode cL_changes 58 = .ok (.if_icmp .ne 11, 3) := by decide +kernel
theorem dL_changes_61 : decode cL_changes 61 = .ok (.aload_n 0, 1) := by decide +kernel
theorem dL_changes_62 : decode cL_changes 62 = .ok (.iload_n 2, 1) := by decide +kernel
theorem dL_changes_63 : decode cL_changes 63 = .ok (.invokevirtual 24, 3) := by decide +kernel
theorem dL_changes_66 : decode cL_changes 66 = .ok (.goto 47, 3) := by decide +kernel
theorem dL_changes_69 : decode cL_changes 69 = .ok (.iload_n 1, 1) := by decide +kernel
theorem dL_changes_70 : decode cL_changes 70 = .ok (.iconst 5, 1) := by decide +kernel
theorem dL_changes_71 : decode cL_changes 71 = .ok (.if_icmp .ne 12, 3) := by decide +kernel
theorem dL_changes_74 : decode cL_changes 74 = .ok (.aload_n 0, 1) := by decide +kernel
theorem dL_changes_75 : decode cL_changes 75 = .ok (.iload_n 2, 1) := by decide +kernel
theorem dL_changes_76 : decode cL_changes 76 = .ok (.iload_n 3, 1) := by decide +kernel
theorem dL_changes_77 : decode cL_changes 77 = .ok (.invokevirtual 27, 3) := by decide +kernel
theorem dL_changes_80 : decode cL_changes 80 = .ok (.goto 33, 3) := by decide +kernel
theorem dL_changes_83 : decode cL_changes 83 = .ok (.iload_n 1, 1) := by decide +kernel
theorem dL_changes_84 : decode cL_changes 84 = .ok (.bipush 6, 2) := by decide +kernel
theorem dL_changes_86 : decode cL_changes 86 = .ok (.if_icmp .ne 12, 3) := by decide +kernel
theorem dL_changes_89 : decode cL_changes 89 = .ok (.aload_n 0, 1) := by decide +kernel
theorem dL_changes_90 : decode cL_changes 90 = .ok (.iload_n 2, 1) := by decide +kernel
theorem dL_changes_91 : decode cL_changes 91 = .ok (.iload_n 3, 1) := by decide +kernel
theorem dL_changes_92 : decode cL_changes 92 = .ok (.invokevirtual 30, 3) := by decide +kernel
theorem dL_changes_95 : decode cL_changes 95 = .ok (.goto 18, 3) := by decide +kernel
theorem dL_changes_98 : decode cL_changes 98 = .ok (.aload_n 0, 1) := by decide +kernel
theorem dL_changes_99 : decode cL_changes 99 = .ok (.iload_n 2, 1) := by decide +kernel
theorem dL_changes_100 : decode cL_changes 100 = .ok (.iload_n 3, 1) := by decide +kernel
theorem dL_changes_101 : decode cL_changes 101 = .ok (.iconst 1, 1) := by decide +kernel
theorem dL_changes_102 : decode cL_changes 102 = .ok (.if_icmp .ne 7, 3) := by decide +kernel
theorem dL_changes_105 : decode cL_changes 105 = .ok (.iconst 1, 1) := by decide +kernel
theorem dL_changes_106 : decode cL_changes 106 = .ok (.goto 4, 3) := by decide +kernel
theorem dL_changes_109 : decode cL_changes 109 = .ok (.iconst 0, 1) := by decide +kernel
theorem dL_changes_110 : decode cL_changes 110 = .ok (.invokevirtual 33, 3) := by decide +kernel
theorem dL_changes_113 : decode cL_changes 113 = .ok (.iastore, 1) := by decide +kernel
theorem dL_changes_114 : decode cL_changes 114 = .ok (.goto 15, 3) := by decide +kernel
theorem dL_changes_117 : decode cL_changes 117 = .ok (.astore 5, 2) := by decide +kernel
theorem dL_changes_119 : decode cL_changes 119 = .ok (.iconst 1, 1) := by decide +kernel
theorem dL_changes_120 : decode cL_changes 120 = .ok (.ireturn, 1) := by decide +kernel
theorem dL_changes_121 : decode cL_changes 121 = .ok (.astore 5, 2) := by decide +kernel
theorem dL_changes_123 : decode cL_changes 123 = .ok (.iconst 2, 1) := by decide +kernel
theorem dL_changes_124 : decode cL_changes 124 = .ok (.ireturn, 1) := by decide +kernel
theorem dL_changes_125 : decode cL_changes 125 = .ok (.astore 5, 2) := by decide +kernel
theorem dL_changes_127 : decode cL_changes 127 = .ok (.iconst 3, 1) := by decide +kernel
theorem dL_changes_128 : decode cL_changes 128 = .ok (.ireturn, 1) := by decide +kernel
theorem dL_changes_129 : decode cL_changes 129 = .ok (.iconst 0, 1) := by decide +kernel
theorem dL_changes_130 : decode cL_changes 130 = .ok (.ireturn, 1) := by decide +kernel
theorem dL_asks_0 : decode cL_asks 0 = .ok (.aload 5, 2) := by decide +kernel
theorem dL_asks_2 : decode cL_asks 2 = .ok (.iconst 0, 1) := by decide +kernel
theorem dL_asks_3 : decode cL_asks 3 = .ok (.iload_n 1, 1) := by decide +kernel
theorem dL_asks_4 : decode cL_asks 4 = .ok (.ifCond .ne 14, 3) := by decide +kernel
theorem dL_asks_7 : decode cL_asks 7 = .ok (.aload_n 0, 1) := by decide +kernel
theorem dL_asks_8 : decode cL_asks 8 = .ok (.iload_n 2, 1) := by decide +kernel
theorem dL_asks_9 : decode cL_asks 9 = .ok (.iload_n 3, 1) := by decide +kernel
theorem dL_asks_10 : decode cL_asks 10 = .ok (.iload 4, 2) := by decide +kernel
theorem dL_asks_12 : decode cL_asks 12 = .ok (.invokevirtual 43, 3) := by decide +kernel
theorem dL_asks_15 : decode cL_asks 15 = .ok (.goto 11, 3) := by decide +kernel
theorem dL_asks_18 : decode cL_asks 18 = .ok (.aload_n 0, 1) := by decide +kernel
theorem dL_asks_19 : decode cL_asks 19 = .ok (.iload_n 2, 1) := by decide +kernel
theorem dL_asks_20 : decode cL_asks 20 = .ok (.iload_n 3, 1) := by decide +kernel
theorem dL_asks_21 : decode cL_asks 21 = .ok (.iload 4, 2) := by decide +kernel
theorem dL_asks_23 : decode cL_asks 23 = .ok (.invokevirtual 47, 3) := by decide +kernel
theorem dL_asks_26 : decode cL_asks 26 = .ok (.iastore, 1) := by decide +kernel
theorem dL_asks_27 : decode cL_asks 27 = .ok (.goto 15, 3) := by decide +kernel
theorem dL_asks_30 : decode cL_asks 30 = .ok (.astore 6, 2) := by decide +kernel
theorem dL_asks_32 : decode cL_asks 32 = .ok (.iconst 1, 1) := by decide +kernel
theorem dL_asks_33 : decode cL_asks 33 = .ok (.ireturn, 1) := by decide +kernel
theorem dL_asks_34 : decode cL_asks 34 = .ok (.astore 6, 2) := by decide +kernel
theorem dL_asks_36 : decode cL_asks 36 = .ok (.iconst 2, 1) := by decide +kernel
theorem dL_asks_37 : decode cL_asks 37 = .ok (.ireturn, 1) := by decide +kernel
theorem dL_asks_38 : decode cL_asks 38 = .ok (.astore 6, 2) := by decide +kernel
theorem dL_asks_40 : decode cL_asks 40 = .ok (.iconst 3, 1) := by decide +kernel
theorem dL_asks_41 : decode cL_asks 41 = .ok (.ireturn, 1) := by decide +kernel
theorem dL_asks_42 : decode cL_asks 42 = .ok (.iconst 0, 1) := by decide +kernel
theorem dL_asks_43 : decode cL_asks 43 = .ok (.ireturn, 1) := by decide +kernel
theorem dL_undoes_0 : decode cL_undoes 0 = .ok (.aload_n 1, 1) := by decide +kernel
theorem dL_undoes_1 : decode cL_undoes 1 = .ok (.iconst 0, 1) := by decide +kernel
theorem dL_undoes_2 : decode cL_undoes 2 = .ok (.aload_n 0, 1) := by decide +kernel
theorem dL_undoes_3 : decode cL_undoes 3 = .ok (.invokevirtual 50, 3) := by decide +kernel
theorem dL_undoes_6 : decode cL_undoes 6 = .ok (.iastore, 1) := by decide +kernel
theorem dL_undoes_7 : decode cL_undoes 7 = .ok (.goto 6, 3) := by decide +kernel
theorem dL_undoes_10 : decode cL_undoes 10 = .ok (.astore_n 2, 1) := by decide +kernel
theorem dL_undoes_11 : decode cL_undoes 11 = .ok (.iconst 1, 1) := by decide +kernel
theorem dL_undoes_12 : decode cL_undoes 12 = .ok (.ireturn, 1) := by decide +kernel
theorem dL_undoes_13 : decode cL_undoes 13 = .ok (.iconst 0, 1) := by decide +kernel
theorem dL_undoes_14 : decode cL_undoes 14 = .ok (.ireturn, 1) := by decide +kernel
theorem dL_act_0 : decode cL_act 0 = .ok (.iload_n 1, 1) := by decide +kernel
theorem dL_act_1 : decode cL_act 1 = .ok (.bipush 32, 2) := by decide +kernel
theorem dL_act_3 : decode cL_act 3 = .ok (.invokestatic 54, 3) := by decide +kernel
theorem dL_act_6 : decode cL_act 6 = .ok (.istore_n 3, 1) := by decide +kernel
theorem dL_act_7 : decode cL_act 7 = .ok (.iload_n 1, 1) := by decide +kernel
theorem dL_act_8 : decode cL_act 8 = .ok (.iconst 5, 1) := by decide +kernel
theorem dL_act_9 : decode cL_act 9 = .ok (.ishr, 1) := by decide +kernel
theorem dL_act_10 : decode cL_act 10 = .ok (.istore 4, 2) := by decide +kernel
theorem dL_act_12 : decode cL_act 12 = .ok (.iload_n 1, 1) := by decide +kernel
theorem dL_act_13 : decode cL_act 13 = .ok (.bipush 22, 2) := by decide +kernel
theorem dL_act_15 : decode cL_act 15 = .ok (.ishr, 1) := by decide +kernel
theorem dL_act_16 : decode cL_act 16 = .ok (.bipush 7, 2) := by decide +kernel
theorem dL_act_18 : decode cL_act 18 = .ok (.invokestatic 54, 3) := by decide +kernel
theorem dL_act_21 : decode cL_act 21 = .ok (.ifCond .le 7, 3) := by decide +kernel
theorem dL_act_24 : decode cL_act 24 = .ok (.iconst 1, 1) := by decide +kernel
theorem dL_act_25 : decode cL_act 25 = .ok (.goto 4, 3) := by decide +kernel
theorem dL_act_28 : decode cL_act 28 = .ok (.iconst 0, 1) := by decide +kernel
theorem dL_act_29 : decode cL_act 29 = .ok (.istore 5, 2) := by decide +kernel
theorem dL_act_31 : decode cL_act 31 = .ok (.aload_n 0, 1) := by decide +kernel
theorem dL_act_32 : decode cL_act 32 = .ok (.iconst 0, 1) := by decide +kernel
theorem dL_act_33 : decode cL_act 33 = .ok (.invokevirtual 59, 3) := by decide +kernel
theorem dL_act_36 : decode cL_act 36 = .ok (.istore 6, 2) := by decide +kernel
theorem dL_act_38 : decode cL_act 38 = .ok (.iload 4, 2) := by decide +kernel
theorem dL_act_40 : decode cL_act 40 = .ok (.iload 5, 2) := by decide +kernel
theorem dL_act_42 : decode cL_act 42 = .ok (.ifCond .eq 13, 3) := by decide +kernel
theorem dL_act_45 : decode cL_act 45 = .ok (.iload 6, 2) := by decide +kernel
theorem dL_act_47 : decode cL_act 47 = .ok (.ifCond .le 8, 3) := by decide +kernel
theorem dL_act_50 : decode cL_act 50 = .ok (.iload 6, 2) := by decide +kernel
theorem dL_act_52 : decode cL_act 52 = .ok (.goto 7, 3) := by decide +kernel
theorem dL_act_55 : decode cL_act 55 = .ok (.iload 6, 2) := by decide +kernel
theorem dL_act_57 : decode cL_act 57 = .ok (.iconst 1, 1) := by decide +kernel
theorem dL_act_58 : decode cL_act 58 = .ok (.iadd, 1) := by decide +kernel
theorem dL_act_59 : decode cL_act 59 = .ok (.invokestatic 54, 3) := by decide +kernel
theorem dL_act_62 : decode cL_act 62 = .ok (.istore 7, 2) := by decide +kernel
theorem dL_act_64 : decode cL_act 64 = .ok (.iload 4, 2) := by decide +kernel
theorem dL_act_66 : decode cL_act 66 = .ok (.iconst 3, 1) := by decide +kernel
theorem dL_act_67 : decode cL_act 67 = .ok (.ishr, 1) := by decide +kernel
theorem dL_act_68 : decode cL_act 68 = .ok (.iload 5, 2) := by decide +kernel
theorem dL_act_70 : decode cL_act 70 = .ok (.ifCond .eq 8, 3) := by decide +kernel
theorem dL_act_73 : decode cL_act 73 = .ok (.bipush 8, 2) := by decide +kernel
theorem dL_act_75 : decode cL_act 75 = .ok (.goto 5, 3) := by decide +kernel
theorem dL_act_78 : decode cL_act 78 = .ok (.bipush 22, 2) := by decide +kernel
theorem dL_act_80 : decode cL_act 80 = .ok (.invokestatic 54, 3) := by decide +kernel
theorem dL_act_83 : decode cL_act 83 = .ok (.istore 8, 2) := by decide +kernel
theorem dL_act_85 : decode cL_act 85 = .ok (.iload_n 3, 1) := by decide +kernel
theorem dL_act_86 : decode cL_act 86 = .ok (.iconst 3, 1) := by decide +kernel
theorem dL_act_87 : decode cL_act 87 = .ok (.if_icmp .ge 39, 3) := by decide +kernel
theorem dL_act_90 : decode cL_act 90 = .ok (.aload_n 0, 1) := by decide +kernel
theorem dL_act_91 : decode cL_act 91 = .ok (.iconst 0, 1) := by decide +kernel
theorem dL_act_92 : decode cL_act 92 = .ok (.iload 4, 2) := by decide +kernel
theorem dL_act_94 : decode cL_act 94 = .ok (.iload 5, 2) := by decide +kernel
theorem dL_act_96 : decode cL_act 96 = .ok (.ifCond .eq 8, 3) := by decide +kernel
theorem dL_act_99 : decode cL_act 99 = .ok (.bipush 9, 2) := by decide +kernel
theorem dL_act_101 : decode cL_act 101 = .ok (.goto 5, 3) := by decide +kernel
theorem dL_act_104 : decode cL_act 104 = .ok (.bipush 12, 2) := by decide +kernel
theorem dL_act_106 : decode cL_act 106 = .ok (.invokestatic 54, 3) := by decide +kernel
theorem dL_act_109 : decode cL_act 109 = .ok (.iload 5, 2) := by decide +kernel
theorem dL_act_111 : decode cL_act 111 = .ok (.ifCond .eq 7, 3) := by decide +kernel
theorem dL_act_114 : decode cL_act 114 = .ok (.iconst 1, 1) := by decide +kernel
theorem dL_act_115 : decode cL_act 115 = .ok (.goto 4, 3) := by decide +kernel
theorem dL_act_118 : decode cL_act 118 = .ok (.iconst 0, 1) := by decide +kernel
theorem dL_act_119 : decode cL_act 119 = .ok (.iadd, 1) := by decide +kernel
theorem dL_act_120 : decode cL_act 120 = .ok (.iconst 0, 1) := by decide +kernel
theorem dL_act_121 : decode cL_act 121 = .ok (.aload_n 2, 1) := by decide +kernel
theorem dL_act_122 : decode cL_act 122 = .ok (.invokestatic 62, 3) := by decide +kernel
theorem dL_act_125 : decode cL_act 125 = .ok (.ireturn, 1) := by decide +kernel
theorem dL_act_126 : decode cL_act 126 = .ok (.iload_n 3, 1) := by decide +kernel
theorem dL_act_127 : decode cL_act 127 = .ok (.bipush 12, 2) := by decide +kernel
theorem dL_act_129 : decode cL_act 129 = .ok (.if_icmp .ge 60, 3) := by decide +kernel
theorem dL_act_132 : decode cL_act 132 = .ok (.aload_n 0, 1) := by decide +kernel
theorem dL_act_133 : decode cL_act 133 = .ok (.iload_n 3, 1) := by decide +kernel
theorem dL_act_134 : decode cL_act 134 = .ok (.bipush 10, 2) := by decide +kernel
theorem dL_act_136 : decode cL_act 136 = .ok (.if_icmp .ge 7, 3) := by decide +kernel
theorem dL_act_139 : decode cL_act 139 = .ok (.iconst 1, 1) := by decide +kernel
theorem dL_act_140 : decode cL_act 140 = .ok (.goto 4, 3) := by decide +kernel
theorem dL_act_143 : decode cL_act 143 = .ok (.iconst 2, 1) := by decide +kernel
theorem dL_act_144 : decode cL_act 144 = .ok (.iload 7, 2) := by decide +kernel
theorem dL_act_146 : decode cL_act 146 = .ok (.iload_n 3, 1) := by decide +kernel
theorem dL_act_147 : decode cL_act 147 = .ok (.bipush 10, 2) := by decide +kernel
theorem dL_act_149 : decode cL_act 149 = .ok (.if_icmp .lt 23, 3) := by decide +kernel
theorem dL_act_152 : decode cL_act 152 = .ok (.iload 5, 2) := by decide +kernel
theorem dL_act_154 : decode cL_act 154 = .ok (.ifCond .eq 18, 3) := by decide +kernel
theorem dL_act_157 : decode cL_act 157 = .ok (.iload 6, 2) := by decide +kernel
theorem dL_act_159 : decode cL_act 159 = .ok (.ifCond .eq 13, 3) := by decide +kernel
theorem dL_act_162 : decode cL_act 162 = .ok (.aload_n 0, 1) := by decide +kernel
theorem dL_act_163 : decode cL_act 163 = .ok (.iload 7, 2) := by decide +kernel
theorem dL_act_165 : decode cL_act 165 = .ok (.iconst 2, 1) := by decide +kernel
theorem dL_act_166 : decode cL_act 166 = .ok (.invokevirtual 66, 3) := by decide +kernel
theorem dL_act_169 : decode cL_act 169 = .ok (.ifCond .ne 8, 3) := by decide +kernel
theorem dL_act_172 : decode cL_act 172 = .ok (.iload 8, 2) := by decide +kernel
theorem dL_act_174 : decode cL_act 174 = .ok (.goto 10, 3) := by decide +kernel
theorem dL_act_177 : decode cL_act 177 = .ok (.aload_n 0, 1) := by decide +kernel
theorem dL_act_178 : decode cL_act 178 = .ok (.iload 7, 2) := by decide +kernel
theorem dL_act_180 : decode cL_act 180 = .ok (.iconst 5, 1) := by decide +kernel
theorem dL_act_181 : decode cL_act 181 = .ok (.invokevirtual 66, 3) := by decide +kernel
theorem dL_act_184 : decode cL_act 184 = .ok (.aload_n 2, 1) := by decide +kernel
theorem dL_act_185 : decode cL_act 185 = .ok (.invokestatic 62, 3) := by decide +kernel
theorem dL_act_188 : decode cL_act 188 = .ok (.ireturn, 1) := by decide +kernel
theorem dL_act_189 : decode cL_act 189 = .ok (.iload_n 3, 1) := by decide +kernel
theorem dL_act_190 : decode cL_act 190 = .ok (.bipush 19, 2) := by decide +kernel
theorem dL_act_192 : decode cL_act 192 = .ok (.if_icmp .ge 73, 3) := by decide +kernel
theorem dL_act_195 : decode cL_act 195 = .ok (.aload_n 0, 1) := by decide +kernel
theorem dL_act_196 : decode cL_act 196 = .ok (.iload_n 3, 1) := by decide +kernel
theorem dL_act_197 : decode cL_act 197 = .ok (.bipush 16, 2) := by decide +kernel
theorem dL_act_199 : decode cL_act 199 = .ok (.if_icmp .ge 7, 3) := by decide +kernel
theorem dL_act_202 : decode cL_act 202 = .ok (.iconst 0, 1) := by decide +kernel
theorem dL_act_203 : decode cL_act 203 = .ok (.goto 4, 3) := by decide +kernel
theorem dL_act_206 : decode cL_act 206 = .ok (.iconst 1, 1) := by decide +kernel
theorem dL_act_207 : decode cL_act 207 = .ok (.iload 7, 2) := by decide +kernel
theorem dL_act_209 : decode cL_act 209 = .ok (.iload 8, 2) := by decide +kernel
theorem dL_act_211 : decode cL_act 211 = .ok (.iload_n 3, 1) := by decide +kernel
theorem dL_act_212 : decode cL_act 212 = .ok (.bipush 16, 2) := by decide +kernel
theorem dL_act_214 : decode cL_act 214 = .ok (.if_icmp .ge 26, 3) := by decide +kernel
theorem dL_act_217 : decode cL_act 217 = .ok (.iload 4, 2) := by decide +kernel
theorem dL_act_219 : decode cL_act 219 = .ok (.bipush 7, 2) := by decide +kernel
theorem dL_act_221 : decode cL_act 221 = .ok (.ishr, 1) := by decide +kernel
theorem dL_act_222 : decode cL_act 222 = .ok (.iload 5, 2) := by decide +kernel
theorem dL_act_224 : decode cL_act 224 = .ok (.ifCond .eq 8, 3) := by decide +kernel
theorem dL_act_227 : decode cL_act 227 = .ok (.bipush 21, 2) := by decide +kernel
theorem dL_act_229 : decode cL_act 229 = .ok (.goto 5, 3) := by decide +kernel
theorem dL_act_232 : decode cL_act 232 = .ok (.bipush 25, 2) := by decide +kernel
theorem dL_act_234 : decode cL_act 234 = .ok (.invokestatic 54, 3) := by decide +kernel
theorem dL_act_237 : decode cL_act 237 = .ok (.goto 23, 3) := by decide +kernel
theorem dL_act_240 : decode cL_act 240 = .ok (.iload 4, 2) := by decide +kernel
theorem dL_act_242 : decode cL_act 242 = .ok (.bipush 7, 2) := by decide +kernel
theorem dL_act_244 : decode cL_act 244 = .ok (.ishr, 1) := by decide +kernel
theorem dL_act_245 : decode cL_act 245 = .ok (.iload 5, 2) := by decide +kernel
theorem dL_act_247 : decode cL_act 247 = .ok (.ifCond .eq 8, 3) := by decide +kernel
theorem dL_act_250 : decode cL_act 250 = .ok (.bipush 8, 2) := by decide +kernel
theorem dL_act_252 : decode cL_act 252 = .ok (.goto 5, 3) := by decide +kernel
theorem dL_act_255 : decode cL_act 255 = .ok (.bipush 22, 2) := by decide +kernel
theorem dL_act_257 : decode cL_act 257 = .ok (.invokestatic 54, 3) := by decide +kernel
theorem dL_act_260 : decode cL_act 260 = .ok (.aload_n 2, 1) := by decide +kernel
theorem dL_act_261 : decode cL_act 261 = .ok (.invokestatic 69, 3) := by decide +kernel
theorem dL_act_264 : decode cL_act 264 = .ok (.ireturn, 1) := by decide +kernel
theorem dL_act_265 : decode cL_act 265 = .ok (.iload_n 3, 1) := by decide +kernel
theorem dL_act_266 : decode cL_act 266 = .ok (.bipush 19, 2) := by decide +kernel
theorem dL_act_268 : decode cL_act 268 = .ok (.if_icmp .ne 24, 3) := by decide +kernel
theorem dL_act_271 : decode cL_act 271 = .ok (.aload_n 0, 1) := by decide +kernel
theorem dL_act_272 : decode cL_act 272 = .ok (.iconst 3, 1) := by decide +kernel
theorem dL_act_273 : decode cL_act 273 = .ok (.iload 4, 2) := by decide +kernel
theorem dL_act_275 : decode cL_act 275 = .ok (.aload_n 0, 1) := by decide +kernel
theorem dL_act_276 : decode cL_act 276 = .ok (.bipush 9, 2) := by decide +kernel
theorem dL_act_278 : decode cL_act 278 = .ok (.invokevirtual 59, 3) := by decide +kernel
theorem dL_act_281 : decode cL_act 281 = .ok (.iconst 1, 1) := by decide +kernel
theorem dL_act_282 : decode cL_act 282 = .ok (.iadd, 1) := by decide +kernel
theorem dL_act_283 : decode cL_act 283 = .ok (.invokestatic 54, 3) := by decide +kernel
theorem dL_act_286 : decode cL_act 286 = .ok (.iconst 0, 1) := by decide +kernel
theorem dL_act_287 : decode cL_act 287 = .ok (.aload_n 2, 1) := by decide +kernel
theorem dL_act_288 : decode cL_act 288 = .ok (.invokestatic 62, 3) := by decide +kernel
theorem dL_act_291 : decode cL_act 291 = .ok (.ireturn, 1) := by decide +kernel
theorem dL_act_292 : decode cL_act 292 = .ok (.iload_n 3, 1) := by decide +kernel
theorem dL_act_293 : decode cL_act 293 = .ok (.bipush 24, 2) := by decide +kernel
theorem dL_act_295 : decode cL_act 295 = .ok (.if_icmp .ge 25, 3) := by decide +kernel
theorem dL_act_298 : decode cL_act 298 = .ok (.aload_n 2, 1) := by decide +kernel
theorem dL_act_299 : decode cL_act 299 = .ok (.iconst 0, 1) := by decide +kernel
theorem dL_act_300 : decode cL_act 300 = .ok (.iload_n 3, 1) := by decide +kernel
theorem dL_act_301 : decode cL_act 301 = .ok (.bipush 23, 2) := by decide +kernel
theorem dL_act_303 : decode cL_act 303 = .ok (.if_icmp .ge 10, 3) := by decide +kernel
theorem dL_act_306 : decode cL_act 306 = .ok (.aload_n 0, 1) := by decide +kernel
theorem dL_act_307 : decode cL_act 307 = .ok (.invokevirtual 73, 3) := by decide +kernel
theorem dL_act_310 : decode cL_act 310 = .ok (.goto 7, 3) := by decide +kernel
theorem dL_act_313 : decode cL_act 313 = .ok (.aload_n 0, 1) := by decide +kernel
theorem dL_act_314 : decode cL_act 314 = .ok (.invokevirtual 76, 3) := by decide +kernel
theorem dL_act_317 : decode cL_act 317 = .ok (.iastore, 1) := by decide +kernel
theorem dL_act_318 : decode cL_act 318 = .ok (.iconst 0, 1) := by decide +kernel
theorem dL_act_319 : decode cL_act 319 = .ok (.ireturn, 1) := by decide +kernel
theorem dL_act_320 : decode cL_act 320 = .ok (.iload_n 3, 1) := by decide +kernel
theorem dL_act_321 : decode cL_act 321 = .ok (.bipush 24, 2) := by decide +kernel
theorem dL_act_323 : decode cL_act 323 = .ok (.if_icmp .ne 32, 3) := by decide +kernel
theorem dL_act_326 : decode cL_act 326 = .ok (.aload_n 0, 1) := by decide +kernel
theorem dL_act_327 : decode cL_act 327 = .ok (.iconst 4, 1) := by decide +kernel
theorem dL_act_328 : decode cL_act 328 = .ok (.iload 4, 2) := by decide +kernel
theorem dL_act_330 : decode cL_act 330 = .ok (.iload 5, 2) := by decide +kernel
theorem dL_act_332 : decode cL_act 332 = .ok (.ifCond .eq 9, 3) := by decide +kernel
theorem dL_act_335 : decode cL_act 335 = .ok (.sipush 500, 3) := by decide +kernel
theorem dL_act_338 : decode cL_act 338 = .ok (.goto 6, 3) := by decide +kernel
theorem dL_act_341 : decode cL_act 341 = .ok (.sipush 1010, 3) := by decide +kernel
theorem dL_act_344 : decode cL_act 344 = .ok (.invokestatic 54, 3) := by decide +kernel
theorem dL_act_347 : decode cL_act 347 = .ok (.iconst 0, 1) := by decide +kernel
theorem dL_act_348 : decode cL_act 348 = .ok (.aload_n 2, 1) := by decide +kernel
theorem dL_act_349 : decode cL_act 349 = .ok (.invokestatic 62, 3) := by decide +kernel
theorem dL_act_352 : decode cL_act 352 = .ok (.goto 98, 3) := by decide +kernel
theorem dL_act_355 : decode cL_act 355 = .ok (.iload_n 3, 1) := by decide +kernel
theorem dL_act_356 : decode cL_act 356 = .ok (.bipush 25, 2) := by decide +kernel
theorem dL_act_358 : decode cL_act 358 = .ok (.if_icmp .ne 48, 3) := by decide +kernel
theorem dL_act_361 : decode cL_act 361 = .ok (.aload_n 0, 1) := by decide +kernel
theorem dL_act_362 : decode cL_act 362 = .ok (.iconst 5, 1) := by decide +kernel
theorem dL_act_363 : decode cL_act 363 = .ok (.iload 4, 2) := by decide +kernel
theorem dL_act_365 : decode cL_act 365 = .ok (.iload 5, 2) := by decide +kernel
theorem dL_act_367 : decode cL_act 367 = .ok (.ifCond .eq 7, 3) := by decide +kernel
theorem dL_act_370 : decode cL_act 370 = .ok (.iconst 3, 1) := by decide +kernel
theorem dL_act_371 : decode cL_act 371 = .ok (.goto 4, 3) := by decide +kernel
theorem dL_act_374 : decode cL_act 374 = .ok (.iconst 4, 1) := by decide +kernel
theorem dL_act_375 : decode cL_act 375 = .ok (.invokestatic 54, 3) := by decide +kernel
theorem dL_act_378 : decode cL_act 378 = .ok (.iconst 1, 1) := by decide +kernel
theorem dL_act_379 : decode cL_act 379 = .ok (.iload 4, 2) := by decide +kernel
theorem dL_act_381 : decode cL_act 381 = .ok (.iconst 2, 1) := by decide +kernel
theorem dL_act_382 : decode cL_act 382 = .ok (.ishr, 1) := by decide +kernel
theorem dL_act_383 : decode cL_act 383 = .ok (.iload 5, 2) := by decide +kernel
theorem dL_act_385 : decode cL_act 385 = .ok (.ifCond .eq 8, 3) := by decide +kernel
theorem dL_act_388 : decode cL_act 388 = .ok (.bipush 10, 2) := by decide +kernel
theorem dL_act_390 : decode cL_act 390 = .ok (.goto 5, 3) := by decide +kernel
theorem dL_act_393 : decode cL_act 393 = .ok (.bipush 30, 2) := by decide +kernel
theorem dL_act_395 : decode cL_act 395 = .ok (.invokestatic 54, 3) := by decide +kernel
theorem dL_act_398 : decode cL_act 398 = .ok (.iadd, 1) := by decide +kernel
theorem dL_act_399 : decode cL_act 399 = .ok (.aload_n 2, 1) := by decide +kernel
theorem dL_act_400 : decode cL_act 400 = .ok (.invokestatic 62, 3) := by decide +kernel
theorem dL_act_403 : decode cL_act 403 = .ok (.goto 47, 3) := by decide +kernel
theorem dL_act_406 : decode cL_act 406 = .ok (.iload_n 3, 1) := by decide +kernel
theorem dL_act_407 : decode cL_act 407 = .ok (.bipush 26, 2) := by decide +kernel
theorem dL_act_409 : decode cL_act 409 = .ok (.if_icmp .ne 25, 3) := by decide +kernel
theorem dL_act_412 : decode cL_act 412 = .ok (.aload_n 0, 1) := by decide +kernel
theorem dL_act_413 : decode cL_act 413 = .ok (.bipush 6, 2) := by decide +kernel
theorem dL_act_415 : decode cL_act 415 = .ok (.iload 8, 2) := by decide +kernel
theorem dL_act_417 : decode cL_act 417 = .ok (.iload 4, 2) := by decide +kernel
theorem dL_act_419 : decode cL_act 419 = .ok (.bipush 7, 2) := by decide +kernel
theorem dL_act_421 : decode cL_act 421 = .ok (.ishr, 1) := by decide +kernel
theorem dL_act_422 : decode cL_act 422 = .ok (.bipush 11, 2) := by decide +kernel
theorem dL_act_424 : decode cL_act 424 = .ok (.invokestatic 54, 3) := by decide +kernel
theorem dL_act_427 : decode cL_act 427 = .ok (.aload_n 2, 1) := by decide +kernel
theorem dL_act_428 : decode cL_act 428 = .ok (.invokestatic 62, 3) := by decide +kernel
theorem dL_act_431 : decode cL_act 431 = .ok (.goto 19, 3) := by decide +kernel
theorem dL_act_434 : decode cL_act 434 = .ok (.aload_n 0, 1) := by decide +kernel
theorem dL_act_435 : decode cL_act 435 = .ok (.bipush 7, 2) := by decide +kernel
theorem dL_act_437 : decode cL_act 437 = .ok (.iload 8, 2) := by decide +kernel
theorem dL_act_439 : decode cL_act 439 = .ok (.iload 4, 2) := by decide +kernel
theorem dL_act_441 : decode cL_act 441 = .ok (.bipush 7, 2) := by decide +kernel
theorem dL_act_443 : decode cL_act 443 = .ok (.ishr, 1) := by decide +kernel
theorem dL_act_444 : decode cL_act 444 = .ok (.iconst 1, 1) := by decide +kernel
theorem dL_act_445 : decode cL_act 445 = .ok (.iand, 1) := by decide +kernel
theorem dL_act_446 : decode cL_act 446 = .ok (.aload_n 2, 1) := by decide +kernel
theorem dL_act_447 : decode cL_act 447 = .ok (.invokestatic 62, 3) := by decide +kernel
theorem dL_act_450 : decode cL_act 450 = .ok (.ireturn, 1) := by decide +kernel
theorem dL_areAlike_0 : decode cL_areAlike 0 = .ok (.iconst 1, 1) := by decide +kernel
theorem dL_areAlike_1 : decode cL_areAlike 1 = .ok (.istore_n 2, 1) := by decide +kernel
theorem dL_areAlike_2 : decode cL_areAlike 2 = .ok (.iconst 0, 1) := by decide +kernel
theorem dL_areAlike_3 : decode cL_areAlike 3 = .ok (.istore_n 3, 1) := by decide +kernel
theorem dL_areAlike_4 : decode cL_areAlike 4 = .ok (.iload_n 3, 1) := by decide +kernel
theorem dL_areAlike_5 : decode cL_areAlike 5 = .ok (.bipush 14, 2) := by decide +kernel
theorem dL_areAlike_7 : decode cL_areAlike 7 = .ok (.if_icmp .ge 32, 3) := by decide +kernel
theorem dL_areAlike_10 : decode cL_areAlike 10 = .ok (.iload_n 2, 1) := by decide +kernel
theorem dL_areAlike_11 : decode cL_areAlike 11 = .ok (.ifCond .eq 20, 3) := by decide +kernel
theorem dL_areAlike_14 : decode cL_areAlike 14 = .ok (.aload_n 0, 1) := by decide +kernel
theorem dL_areAlike_15 : decode cL_areAlike 15 = .ok (.iload_n 3, 1) := by decide +kernel
theorem dL_areAlike_16 : decode cL_areAlike 16 = .ok (.invokevirtual 59, 3) := by decide +kernel
theorem dL_areAlike_19 : decode cL_areAlike 19 = .ok (.aload_n 1, 1) := by decide +kernel
theorem dL_areAlike_20 : decode cL_areAlike 20 = .ok (.iload_n 3, 1) := by decide +kernel
theorem dL_areAlike_21 : decode cL_areAlike 21 = .ok (.invokevirtual 59, 3) := by decide +kernel
theorem dL_areAlike_24 : decode cL_areAlike 24 = .ok (.if_icmp .ne 7, 3) := by decide +kernel
theorem dL_areAlike_27 : decode cL_areAlike 27 = .ok (.iconst 1, 1) := by decide +kernel
theorem dL_areAlike_28 : decode cL_areAlike 28 = .ok (.goto 4, 3) := by decide +kernel
theorem dL_areAlike_31 : decode cL_areAlike 31 = .ok (.iconst 0, 1) := by decide +kernel
theorem dL_areAlike_32 : decode cL_areAlike 32 = .ok (.istore_n 2, 1) := by decide +kernel
theorem dL_areAlike_33 : decode cL_areAlike 33 = .ok (.iinc 3 1, 3) := by decide +kernel
theorem dL_areAlike_36 : decode cL_areAlike 36 = .ok (.goto (-32), 3) := by decide +kernel
theorem dL_areAlike_39 : decode cL_areAlike 39 = .ok (.iconst 0, 1) := by decide +kernel
theorem dL_areAlike_40 : decode cL_areAlike 40 = .ok (.istore_n 3, 1) := by decide +kernel
theorem dL_areAlike_41 : decode cL_areAlike 41 = .ok (.iload_n 3, 1) := by decide +kernel
theorem dL_areAlike_42 : decode cL_areAlike 42 = .ok (.bipush 7, 2) := by decide +kernel
theorem dL_areAlike_44 : decode cL_areAlike 44 = .ok (.aload_n 0, 1) := by decide +kernel
theorem dL_areAlike_45 : decode cL_areAlike 45 = .ok (.iconst 0, 1) := by decide +kernel
theorem dL_areAlike_46 : decode cL_areAlike 46 = .ok (.invokevirtual 59, 3) := by decide +kernel
theorem dL_areAlike_49 : decode cL_areAlike 49 = .ok (.imul, 1) := by decide +kernel
theorem dL_areAlike_50 : decode cL_areAlike 50 = .ok (.if_icmp .ge 46, 3) := by decide +kernel
theorem dL_areAlike_53 : decode cL_areAlike 53 = .ok (.iload_n 2, 1) := by decide +kernel
theorem dL_areAlike_54 : decode cL_areAlike 54 = .ok (.ifCond .eq 34, 3) := by decide +kernel
theorem dL_areAlike_57 : decode cL_areAlike 57 = .ok (.aload_n 0, 1) := by decide +kernel
theorem dL_areAlike_58 : decode cL_areAlike 58 = .ok (.iload_n 3, 1) := by decide +kernel
theorem dL_areAlike_59 : decode cL_areAlike 59 = .ok (.bipush 7, 2) := by decide +kernel
theorem dL_areAlike_61 : decode cL_areAlike 61 = .ok (.idiv, 1) := by decide +kernel
theorem dL_areAlike_62 : decode cL_areAlike 62 = .ok (.iload_n 3, 1) := by decide +kernel
theorem dL_areAlike_63 : decode cL_areAlike 63 = .ok (.bipush 7, 2) := by decide +kernel
theorem dL_areAlike_65 : decode cL_areAlike 65 = .ok (.irem, 1) := by decide +kernel
theorem dL_areAlike_66 : decode cL_areAlike 66 = .ok (.invokevirtual 66, 3) := by decide +kernel
theorem dL_areAlike_69 : decode cL_areAlike 69 = .ok (.aload_n 1, 1) := by decide +kernel
theorem dL_areAlike_70 : decode cL_areAlike 70 = .ok (.iload_n 3, 1) := by decide +kernel
theorem dL_areAlike_71 : decode cL_areAlike 71 = .ok (.bipush 7, 2) := by decide +kernel
theorem dL_areAlike_73 : decode cL_areAlike 73 = .ok (.idiv, 1) := by decide +kernel
theorem dL_areAlike_74 : decode cL_areAlike 74 = .ok (.iload_n 3, 1) := by decide +kernel
theorem dL_areAlike_75 : decode cL_areAlike 75 = .ok (.bipush 7, 2) := by decide +kernel
theorem dL_areAlike_77 : decode cL_areAlike 77 = .ok (.irem, 1) := by decide +kernel
theorem dL_areAlike_78 : decode cL_areAlike 78 = .ok (.invokevirtual 66, 3) := by decide +kernel
theorem dL_areAlike_81 : decode cL_areAlike 81 = .ok (.if_icmp .ne 7, 3) := by decide +kernel
theorem dL_areAlike_84 : decode cL_areAlike 84 = .ok (.iconst 1, 1) := by decide +kernel
theorem dL_areAlike_85 : decode cL_areAlike 85 = .ok (.goto 4, 3) := by decide +kernel
theorem dL_areAlike_88 : decode cL_areAlike 88 = .ok (.iconst 0, 1) := by decide +kernel
theorem dL_areAlike_89 : decode cL_areAlike 89 = .ok (.istore_n 2, 1) := by decide +kernel
theorem dL_areAlike_90 : decode cL_areAlike 90 = .ok (.iinc 3 1, 3) := by decide +kernel
theorem dL_areAlike_93 : decode cL_areAlike 93 = .ok (.goto (-52), 3) := by decide +kernel
theorem dL_areAlike_96 : decode cL_areAlike 96 = .ok (.iconst 0, 1) := by decide +kernel
theorem dL_areAlike_97 : decode cL_areAlike 97 = .ok (.istore_n 3, 1) := by decide +kernel
theorem dL_areAlike_98 : decode cL_areAlike 98 = .ok (.iload_n 3, 1) := by decide +kernel
theorem dL_areAlike_99 : decode cL_areAlike 99 = .ok (.bipush 100, 2) := by decide +kernel
theorem dL_areAlike_101 : decode cL_areAlike 101 = .ok (.if_icmp .ge 42, 3) := by decide +kernel
theorem dL_areAlike_104 : decode cL_areAlike 104 = .ok (.iload_n 2, 1) := by decide +kernel
theorem dL_areAlike_105 : decode cL_areAlike 105 = .ok (.ifCond .eq 30, 3) := by decide +kernel
theorem dL_areAlike_108 : decode cL_areAlike 108 = .ok (.aload_n 0, 1) := by decide +kernel
theorem dL_areAlike_109 : decode cL_areAlike 109 = .ok (.iload_n 3, 1) := by decide +kernel
theorem dL_areAlike_110 : decode cL_areAlike 110 = .ok (.iconst 5, 1) := by decide +kernel
theorem dL_areAlike_111 : decode cL_areAlike 111 = .ok (.idiv, 1) := by decide +kernel
theorem dL_areAlike_112 : decode cL_areAlike 112 = .ok (.iload_n 3, 1) := by decide +kernel
theorem dL_areAlike_113 : decode cL_areAlike 113 = .ok (.iconst 5, 1) := by decide +kernel
theorem dL_areAlike_114 : decode cL_areAlike 114 = .ok (.irem, 1) := by decide +kernel
theorem dL_areAlike_115 : decode cL_areAlike 115 = .ok (.invokevirtual 79, 3) := by decide +kernel
theorem dL_areAlike_118 : decode cL_areAlike 118 = .ok (.aload_n 1, 1) := by decide +kernel
theorem dL_areAlike_119 : decode cL_areAlike 119 = .ok (.iload_n 3, 1) := by decide +kernel
theorem dL_areAlike_120 : decode cL_areAlike 120 = .ok (.iconst 5, 1) := by decide +kernel
theorem dL_areAlike_121 : decode cL_areAlike 121 = .ok (.idiv, 1) := by decide +kernel
theorem dL_areAlike_122 : decode cL_areAlike 122 = .ok (.iload_n 3, 1) := by decide +kernel
theorem dL_areAlike_123 : decode cL_areAlike 123 = .ok (.iconst 5, 1) := by decide +kernel
theorem dL_areAlike_124 : decode cL_areAlike 124 = .ok (.irem, 1) := by decide +kernel
theorem dL_areAlike_125 : decode cL_areAlike 125 = .ok (.invokevirtual 79, 3) := by decide +kernel
theorem dL_areAlike_128 : decode cL_areAlike 128 = .ok (.if_icmp .ne 7, 3) := by decide +kernel
theorem dL_areAlike_131 : decode cL_areAlike 131 = .ok (.iconst 1, 1) := by decide +kernel
theorem dL_areAlike_132 : decode cL_areAlike 132 = .ok (.goto 4, 3) := by decide +kernel
theorem dL_areAlike_135 : decode cL_areAlike 135 = .ok (.iconst 0, 1) := by decide +kernel
theorem dL_areAlike_136 : decode cL_areAlike 136 = .ok (.istore_n 2, 1) := by decide +kernel
theorem dL_areAlike_137 : decode cL_areAlike 137 = .ok (.iinc 3 1, 3) := by decide +kernel
theorem dL_areAlike_140 : decode cL_areAlike 140 = .ok (.goto (-42), 3) := by decide +kernel
theorem dL_areAlike_143 : decode cL_areAlike 143 = .ok (.iconst 0, 1) := by decide +kernel
theorem dL_areAlike_144 : decode cL_areAlike 144 = .ok (.istore_n 3, 1) := by decide +kernel
theorem dL_areAlike_145 : decode cL_areAlike 145 = .ok (.iload_n 3, 1) := by decide +kernel
theorem dL_areAlike_146 : decode cL_areAlike 146 = .ok (.iconst 4, 1) := by decide +kernel
theorem dL_areAlike_147 : decode cL_areAlike 147 = .ok (.aload_n 0, 1) := by decide +kernel
theorem dL_areAlike_148 : decode cL_areAlike 148 = .ok (.bipush 9, 2) := by decide +kernel
theorem dL_areAlike_150 : decode cL_areAlike 150 = .ok (.invokevirtual 59, 3) := by decide +kernel
theorem dL_areAlike_153 : decode cL_areAlike 153 = .ok (.imul, 1) := by decide +kernel
theorem dL_areAlike_154 : decode cL_areAlike 154 = .ok (.if_icmp .ge 42, 3) := by decide +kernel
theorem dL_areAlike_157 : decode cL_areAlike 157 = .ok (.iload_n 2, 1) := by decide +kernel
theorem dL_areAlike_158 : decode cL_areAlike 158 = .ok (.ifCond .eq 30, 3) := by decide +kernel
theorem dL_areAlike_161 : decode cL_areAlike 161 = .ok (.aload_n 0, 1) := by decide +kernel
theorem dL_areAlike_162 : decode cL_areAlike 162 = .ok (.iload_n 3, 1) := by decide +kernel
theorem dL_areAlike_163 : decode cL_areAlike 163 = .ok (.iconst 4, 1) := by decide +kernel
theorem dL_areAlike_164 : decode cL_areAlike 164 = .ok (.idiv, 1) := by decide +kernel
theorem dL_areAlike_165 : decode cL_areAlike 165 = .ok (.iload_n 3, 1) := by decide +kernel
theorem dL_areAlike_166 : decode cL_areAlike 166 = .ok (.iconst 4, 1) := by decide +kernel
theorem dL_areAlike_167 : decode cL_areAlike 167 = .ok (.irem, 1) := by decide +kernel
theorem dL_areAlike_168 : decode cL_areAlike 168 = .ok (.invokevirtual 82, 3) := by decide +kernel
theorem dL_areAlike_171 : decode cL_areAlike 171 = .ok (.aload_n 1, 1) := by decide +kernel
theorem dL_areAlike_172 : decode cL_areAlike 172 = .ok (.iload_n 3, 1) := by decide +kernel
theorem dL_areAlike_173 : decode cL_areAlike 173 = .ok (.iconst 4, 1) := by decide +kernel
theorem dL_areAlike_174 : decode cL_areAlike 174 = .ok (.idiv, 1) := by decide +kernel
theorem dL_areAlike_175 : decode cL_areAlike 175 = .ok (.iload_n 3, 1) := by decide +kernel
theorem dL_areAlike_176 : decode cL_areAlike 176 = .ok (.iconst 4, 1) := by decide +kernel
theorem dL_areAlike_177 : decode cL_areAlike 177 = .ok (.irem, 1) := by decide +kernel
theorem dL_areAlike_178 : decode cL_areAlike 178 = .ok (.invokevirtual 82, 3) := by decide +kernel
theorem dL_areAlike_181 : decode cL_areAlike 181 = .ok (.if_icmp .ne 7, 3) := by decide +kernel
theorem dL_areAlike_184 : decode cL_areAlike 184 = .ok (.iconst 1, 1) := by decide +kernel
theorem dL_areAlike_185 : decode cL_areAlike 185 = .ok (.goto 4, 3) := by decide +kernel
theorem dL_areAlike_188 : decode cL_areAlike 188 = .ok (.iconst 0, 1) := by decide +kernel
theorem dL_areAlike_189 : decode cL_areAlike 189 = .ok (.istore_n 2, 1) := by decide +kernel
theorem dL_areAlike_190 : decode cL_areAlike 190 = .ok (.iinc 3 1, 3) := by decide +kernel
theorem dL_areAlike_193 : decode cL_areAlike 193 = .ok (.goto (-48), 3) := by decide +kernel
theorem dL_areAlike_196 : decode cL_areAlike 196 = .ok (.iload_n 2, 1) := by decide +kernel
theorem dL_areAlike_197 : decode cL_areAlike 197 = .ok (.ireturn, 1) := by decide +kernel
theorem dL_areSums_0 : decode cL_areSums 0 = .ok (.iconst 0, 1) := by decide +kernel
theorem dL_areSums_1 : decode cL_areSums 1 = .ok (.istore_n 1, 1) := by decide +kernel
theorem dL_areSums_2 : decode cL_areSums 2 = .ok (.iconst 0, 1) := by decide +kernel
theorem dL_areSums_3 : decode cL_areSums 3 = .ok (.istore_n 2, 1) := by decide +kernel
theorem dL_areSums_4 : decode cL_areSums 4 = .ok (.iconst 0, 1) := by decide +kernel
theorem dL_areSums_5 : decode cL_areSums 5 = .ok (.istore_n 3, 1) := by decide +kernel
theorem dL_areSums_6 : decode cL_areSums 6 = .ok (.iconst 0, 1) := by decide +kernel
theorem dL_areSums_7 : decode cL_areSums 7 = .ok (.istore 4, 2) := by decide +kernel
theorem dL_areSums_9 : decode cL_areSums 9 = .ok (.aload_n 0, 1) := by decide +kernel
theorem dL_areSums_10 : decode cL_areSums 10 = .ok (.invokestatic 85, 3) := by decide +kernel
theorem dL_areSums_13 : decode cL_areSums 13 = .ok (.istore 5, 2) := by decide +kernel
theorem dL_areSums_15 : decode cL_areSums 15 = .ok (.iconst 1, 1) := by decide +kernel
theorem dL_areSums_16 : decode cL_areSums 16 = .ok (.istore 6, 2) := by decide +kernel
theorem dL_areSums_18 : decode cL_areSums 18 = .ok (.iconst 0, 1) := by decide +kernel
theorem dL_areSums_19 : decode cL_areSums 19 = .ok (.istore 7, 2) := by decide +kernel
theorem dL_areSums_21 : decode cL_areSums 21 = .ok (.iload 7, 2) := by decide +kernel
theorem dL_areSums_23 : decode cL_areSums 23 = .ok (.aload_n 0, 1) := by decide +kernel
theorem dL_areSums_24 : decode cL_areSums 24 = .ok (.iconst 0, 1) := by decide +kernel
theorem dL_areSums_25 : decode cL_areSums 25 = .ok (.invokevirtual 59, 3) := by decide +kernel
theorem dL_areSums_28 : decode cL_areSums 28 = .ok (.if_icmp .ge 269, 3) := by decide +kernel
theorem dL_areSums_31 : decode cL_areSums 31 = .ok (.iconst 0, 1) := by decide +kernel
theorem dL_areSums_32 : decode cL_areSums 32 = .ok (.istore 8, 2) := by decide +kernel
theorem dL_areSums_34 : decode cL_areSums 34 = .ok (.iconst (-1), 1) := by decide +kernel
theorem dL_areSums_35 : decode cL_areSums 35 = .ok (.istore 9, 2) := by decide +kernel
theorem dL_areSums_37 : decode cL_areSums 37 = .ok (.bipush 19, 2) := by decide +kernel
theorem dL_areSums_39 : decode cL_areSums 39 = .ok (.istore 10, 2) := by decide +kernel
theorem dL_areSums_41 : decode cL_areSums 41 = .ok (.iload 10, 2) := by decide +kernel
theorem dL_areSums_43 : decode cL_areSums 43 = .ok (.ifCond .lt 177, 3) := by decide +kernel
theorem dL_areSums_46 : decode cL_areSums 46 = .ok (.aload_n 0, 1) := by decide +kernel
theorem dL_areSums_47 : decode cL_areSums 47 = .ok (.iload 10, 2) := by decide +kernel
theorem dL_areSums_49 : decode cL_areSums 49 = .ok (.iconst 2, 1) := by decide +kernel
theorem dL_areSums_50 : decode cL_areSums 50 = .ok (.invokevirtual 79, 3) := by decide +kernel
theorem dL_areSums_53 : decode cL_areSums 53 = .ok (.iload 7, 2) := by decide +kernel
theorem dL_areSums_55 : decode cL_areSums 55 = .ok (.if_icmp .ne 7, 3) := by decide +kernel
theorem dL_areSums_58 : decode cL_areSums 58 = .ok (.iconst 1, 1) := by decide +kernel
theorem dL_areSums_59 : decode cL_areSums 59 = .ok (.goto 4, 3) := by decide +kernel
theorem dL_areSums_62 : decode cL_areSums 62 = .ok (.iconst 0, 1) := by decide +kernel
theorem dL_areSums_63 : decode cL_areSums 63 = .ok (.istore 11, 2) := by decide +kernel
theorem dL_areSums_65 : decode cL_areSums 65 = .ok (.iload 8, 2) := by decide +kernel
theorem dL_areSums_67 : decode cL_areSums 67 = .ok (.iload 11, 2) := by decide +kernel
theorem dL_areSums_69 : decode cL_areSums 69 = .ok (.ifCond .eq 7, 3) := by decide +kernel
theorem dL_areSums_72 : decode cL_areSums 72 = .ok (.iconst 1, 1) := by decide +kernel
theorem dL_areSums_73 : decode cL_areSums 73 = .ok (.goto 4, 3) := by decide +kernel
theorem dL_areSums_76 : decode cL_areSums 76 = .ok (.iconst 0, 1) := by decide +kernel
theorem dL_areSums_77 : decode cL_areSums 77 = .ok (.iadd, 1) := by decide +kernel
theorem dL_areSums_78 : decode cL_areSums 78 = .ok (.istore 8, 2) := by decide +kernel
theorem dL_areSums_80 : decode cL_areSums 80 = .ok (.iload 11, 2) := by decide +kernel
theorem dL_areSums_82 : decode cL_areSums 82 = .ok (.ifCond .eq 8, 3) := by decide +kernel
theorem dL_areSums_85 : decode cL_areSums 85 = .ok (.iload 10, 2) := by decide +kernel
theorem dL_areSums_87 : decode cL_areSums 87 = .ok (.goto 5, 3) := by decide +kernel
theorem dL_areSums_90 : decode cL_areSums 90 = .ok (.iload 9, 2) := by decide +kernel
theorem dL_areSums_92 : decode cL_areSums 92 = .ok (.istore 9, 2) := by decide +kernel
theorem dL_areSums_94 : decode cL_areSums 94 = .ok (.iload 4, 2) := by decide +kernel
theorem dL_areSums_96 : decode cL_areSums 96 = .ok (.aload_n 0, 1) := by decide +kernel
theorem dL_areSums_97 : decode cL_areSums 97 = .ok (.iload 7, 2) := by decide +kernel
theorem dL_areSums_99 : decode cL_areSums 99 = .ok (.iload 10, 2) := by decide +kernel
theorem dL_areSums_101 : decode cL_areSums 101 = .ok (.invokevirtual 89, 3) := by decide +kernel
theorem dL_areSums_104 : decode cL_areSums 104 = .ok (.ifCond .lt 7, 3) := by decide +kernel
theorem dL_areSums_107 : decode cL_areSums 107 = .ok (.iconst 1, 1) := by decide +kernel
theorem dL_areSums_108 : decode cL_areSums 108 = .ok (.goto 4, 3) := by decide +kernel
theorem dL_areSums_111 : decode cL_areSums 111 = .ok (.iconst 0, 1) := by decide +kernel
theorem dL_areSums_112 : decode cL_areSums 112 = .ok (.iadd, 1) := by decide +kernel
theorem dL_areSums_113 : decode cL_areSums 113 = .ok (.istore 4, 2) := by decide +kernel
theorem dL_areSums_115 : decode cL_areSums 115 = .ok (.iload 6, 2) := by decide +kernel
theorem dL_areSums_117 : decode cL_areSums 117 = .ok (.ifCond .eq 94, 3) := by decide +kernel
theorem dL_areSums_120 : decode cL_areSums 120 = .ok (.aload_n 0, 1) := by decide +kernel
theorem dL_areSums_121 : decode cL_areSums 121 = .ok (.iload 7, 2) := by decide +kernel
theorem dL_areSums_123 : decode cL_areSums 123 = .ok (.iload 10, 2) := by decide +kernel
theorem dL_areSums_125 : decode cL_areSums 125 = .ok (.invokevirtual 89, 3) := by decide +kernel
theorem dL_areSums_128 : decode cL_areSums 128 = .ok (.bipush 21, 2) := by decide +kernel
theorem dL_areSums_130 : decode cL_areSums 130 = .ok (.if_icmp .ge 81, 3) := by decide +kernel
theorem dL_areSums_133 : decode cL_areSums 133 = .ok (.aload_n 0, 1) := by decide +kernel
theorem dL_areSums_134 : decode cL_areSums 134 = .ok (.iload 7, 2) := by decide +kernel
theorem dL_areSums_136 : decode cL_areSums 136 = .ok (.iload 10, 2) := by decide +kernel
theorem dL_areSums_138 : decode cL_areSums 138 = .ok (.invokevirtual 92, 3) := by decide +kernel
theorem dL_areSums_141 : decode cL_areSums 141 = .ok (.ifCond .ne 7, 3) := by decide +kernel
theorem dL_areSums_144 : decode cL_areSums 144 = .ok (.iconst 1, 1) := by decide +kernel
theorem dL_areSums_145 : decode cL_areSums 145 = .ok (.goto 4, 3) := by decide +kernel
theorem dL_areSums_148 : decode cL_areSums 148 = .ok (.iconst 0, 1) := by decide +kernel
theorem dL_areSums_149 : decode cL_areSums 149 = .ok (.aload_n 0, 1) := by decide +kernel
theorem dL_areSums_150 : decode cL_areSums 150 = .ok (.iload 10, 2) := by decide +kernel
theorem dL_areSums_152 : decode cL_areSums 152 = .ok (.iconst 1, 1) := by decide +kernel
theorem dL_areSums_153 : decode cL_areSums 153 = .ok (.invokevirtual 79, 3) := by decide +kernel
theorem dL_areSums_156 : decode cL_areSums 156 = .ok (.ifCond .ne 47, 3) := by decide +kernel
theorem dL_areSums_159 : decode cL_areSums 159 = .ok (.aload_n 0, 1) := by decide +kernel
theorem dL_areSums_160 : decode cL_areSums 160 = .ok (.iload 10, 2) := by decide +kernel
theorem dL_areSums_162 : decode cL_areSums 162 = .ok (.iconst 2, 1) := by decide +kernel
theorem dL_areSums_163 : decode cL_areSums 163 = .ok (.invokevirtual 79, 3) := by decide +kernel
theorem dL_areSums_166 : decode cL_areSums 166 = .ok (.iconst (-1), 1) := by decide +kernel
theorem dL_areSums_167 : decode cL_areSums 167 = .ok (.if_icmp .ne 36, 3) := by decide +kernel
theorem dL_areSums_170 : decode cL_areSums 170 = .ok (.aload_n 0, 1) := by decide +kernel
theorem dL_areSums_171 : decode cL_areSums 171 = .ok (.iload 7, 2) := by decide +kernel
theorem dL_areSums_173 : decode cL_areSums 173 = .ok (.iconst 2, 1) := by decide +kernel
theorem dL_areSums_174 : decode cL_areSums 174 = .ok (.invokevirtual 66, 3) := by decide +kernel
theorem dL_areSums_177 : decode cL_areSums 177 = .ok (.iload 5, 2) := by decide +kernel
theorem dL_areSums_179 : decode cL_areSums 179 = .ok (.if_icmp .ge 24, 3) := by decide +kernel
theorem dL_areSums_182 : decode cL_areSums 182 = .ok (.aload_n 0, 1) := by decide +kernel
theorem dL_areSums_183 : decode cL_areSums 183 = .ok (.iload 7, 2) := by decide +kernel
theorem dL_areSums_185 : decode cL_areSums 185 = .ok (.iconst 1, 1) := by decide +kernel
theorem dL_areSums_186 : decode cL_areSums 186 = .ok (.invokevirtual 66, 3) := by decide +kernel
theorem dL_areSums_189 : decode cL_areSums 189 = .ok (.aload_n 0, 1) := by decide +kernel
theorem dL_areSums_190 : decode cL_areSums 190 = .ok (.iload 10, 2) := by decide +kernel
theorem dL_areSums_192 : decode cL_areSums 192 = .ok (.iconst 0, 1) := by decide +kernel
theorem dL_areSums_193 : decode cL_areSums 193 = .ok (.invokevirtual 79, 3) := by decide +kernel
theorem dL_areSums_196 : decode cL_areSums 196 = .ok (.if_icmp .lt 7, 3) := by decide +kernel
theorem dL_areSums_199 : decode cL_areSums 199 = .ok (.iconst 1, 1) := by decide +kernel
theorem dL_areSums_200 : decode cL_areSums 200 = .ok (.goto 4, 3) := by decide +kernel
theorem dL_areSums_203 : decode cL_areSums 203 = .ok (.iconst 0, 1) := by decide +kernel
theorem dL_areSums_204 : decode cL_areSums 204 = .ok (.if_icmp .ne 7, 3) := by decide +kernel
theorem dL_areSums_207 : decode cL_areSums 207 = .ok (.iconst 1, 1) := by decide +kernel
theorem dL_areSums_208 : decode cL_areSums 208 = .ok (.goto 4, 3) := by decide +kernel
theorem dL_areSums_211 : decode cL_areSums 211 = .ok (.iconst 0, 1) := by decide +kernel
theorem dL_areSums_212 : decode cL_areSums 212 = .ok (.istore 6, 2) := by decide +kernel
theorem dL_areSums_214 : decode cL_areSums 214 = .ok (.iinc 10 (-1), 3) := by decide +kernel
theorem dL_areSums_217 : decode cL_areSums 217 = .ok (.goto (-176), 3) := by decide +kernel
theorem dL_areSums_220 : decode cL_areSums 220 = .ok (.iload_n 1, 1) := by decide +kernel
theorem dL_areSums_221 : decode cL_areSums 221 = .ok (.aload_n 0, 1) := by decide +kernel
theorem dL_areSums_222 : decode cL_areSums 222 = .ok (.iload 7, 2) := by decide +kernel
theorem dL_areSums_224 : decode cL_areSums 224 = .ok (.iconst 1, 1) := by decide +kernel
theorem dL_areSums_225 : decode cL_areSums 225 = .ok (.invokevirtual 66, 3) := by decide +kernel
theorem dL_areSums_228 : decode cL_areSums 228 = .ok (.iadd, 1) := by decide +kernel
theorem dL_areSums_229 : decode cL_areSums 229 = .ok (.istore_n 1, 1) := by decide +kernel
theorem dL_areSums_230 : decode cL_areSums 230 = .ok (.iload_n 2, 1) := by decide +kernel
theorem dL_areSums_231 : decode cL_areSums 231 = .ok (.iload 8, 2) := by decide +kernel
theorem dL_areSums_233 : decode cL_areSums 233 = .ok (.iadd, 1) := by decide +kernel
theorem dL_areSums_234 : decode cL_areSums 234 = .ok (.istore_n 2, 1) := by decide +kernel
theorem dL_areSums_235 : decode cL_areSums 235 = .ok (.iload_n 3, 1) := by decide +kernel
theorem dL_areSums_236 : decode cL_areSums 236 = .ok (.aload_n 0, 1) := by decide +kernel
theorem dL_areSums_237 : decode cL_areSums 237 = .ok (.iload 7, 2) := by decide +kernel
theorem dL_areSums_239 : decode cL_areSums 239 = .ok (.iconst 4, 1) := by decide +kernel
theorem dL_areSums_240 : decode cL_areSums 240 = .ok (.invokevirtual 66, 3) := by decide +kernel
theorem dL_areSums_243 : decode cL_areSums 243 = .ok (.iadd, 1) := by decide +kernel
theorem dL_areSums_244 : decode cL_areSums 244 = .ok (.istore_n 3, 1) := by decide +kernel
theorem dL_areSums_245 : decode cL_areSums 245 = .ok (.iload 6, 2) := by decide +kernel
theorem dL_areSums_247 : decode cL_areSums 247 = .ok (.ifCond .eq 41, 3) := by decide +kernel
theorem dL_areSums_250 : decode cL_areSums 250 = .ok (.aload_n 0, 1) := by decide +kernel
theorem dL_areSums_251 : decode cL_areSums 251 = .ok (.iload 7, 2) := by decide +kernel
theorem dL_areSums_253 : decode cL_areSums 253 = .ok (.iconst 1, 1) := by decide +kernel
theorem dL_areSums_254 : decode cL_areSums 254 = .ok (.invokevirtual 66, 3) := by decide +kernel
theorem dL_areSums_257 : decode cL_areSums 257 = .ok (.ifCond .lt 31, 3) := by decide +kernel
theorem dL_areSums_260 : decode cL_areSums 260 = .ok (.iload 8, 2) := by decide +kernel
theorem dL_areSums_262 : decode cL_areSums 262 = .ok (.aload_n 0, 1) := by decide +kernel
theorem dL_areSums_263 : decode cL_areSums 263 = .ok (.iload 7, 2) := by decide +kernel
theorem dL_areSums_265 : decode cL_areSums 265 = .ok (.iconst 2, 1) := by decide +kernel
theorem dL_areSums_266 : decode cL_areSums 266 = .ok (.invokevirtual 66, 3) := by decide +kernel
theorem dL_areSums_269 : decode cL_areSums 269 = .ok (.if_icmp .ne 19, 3) := by decide +kernel
theorem dL_areSums_272 : decode cL_areSums 272 = .ok (.iload 9, 2) := by decide +kernel
theorem dL_areSums_274 : decode cL_areSums 274 = .ok (.aload_n 0, 1) := by decide +kernel
theorem dL_areSums_275 : decode cL_areSums 275 = .ok (.iload 7, 2) := by decide +kernel
theorem dL_areSums_277 : decode cL_areSums 277 = .ok (.iconst 5, 1) := by decide +kernel
theorem dL_areSums_278 : decode cL_areSums 278 = .ok (.invokevirtual 66, 3) := by decide +kernel
theorem dL_areSums_281 : decode cL_areSums 281 = .ok (.if_icmp .ne 7, 3) := by decide +kernel
theorem dL_areSums_284 : decode cL_areSums 284 = .ok (.iconst 1, 1) := by decide +kernel
theorem dL_areSums_285 : decode cL_areSums 285 = .ok (.goto 4, 3) := by decide +kernel
theorem dL_areSums_288 : decode cL_areSums 288 = .ok (.iconst 0, 1) := by decide +kernel
theorem dL_areSums_289 : decode cL_areSums 289 = .ok (.istore 6, 2) := by decide +kernel
theorem dL_areSums_291 : decode cL_areSums 291 = .ok (.iinc 7 1, 3) := by decide +kernel
theorem dL_areSums_294 : decode cL_areSums 294 = .ok (.goto (-273), 3) := by decide +kernel
theorem dL_areSums_297 : decode cL_areSums 297 = .ok (.iconst 0, 1) := by decide +kernel
theorem dL_areSums_298 : decode cL_areSums 298 = .ok (.istore 7, 2) := by decide +kernel
theorem dL_areSums_300 : decode cL_areSums 300 = .ok (.iconst 0, 1) := by decide +kernel
theorem dL_areSums_301 : decode cL_areSums 301 = .ok (.istore 8, 2) := by decide +kernel
theorem dL_areSums_303 : decode cL_areSums 303 = .ok (.iload 8, 2) := by decide +kernel
theorem dL_areSums_305 : decode cL_areSums 305 = .ok (.bipush 20, 2) := by decide +kernel
theorem dL_areSums_307 : decode cL_areSums 307 = .ok (.if_icmp .ge 81, 3) := by decide +kernel
theorem dL_areSums_310 : decode cL_areSums 310 = .ok (.iload 7, 2) := by decide +kernel
theorem dL_areSums_312 : decode cL_areSums 312 = .ok (.aload_n 0, 1) := by decide +kernel
theorem dL_areSums_313 : decode cL_areSums 313 = .ok (.iload 8, 2) := by decide +kernel
theorem dL_areSums_315 : decode cL_areSums 315 = .ok (.iconst 3, 1) := by decide +kernel
theorem dL_areSums_316 : decode cL_areSums 316 = .ok (.invokevirtual 79, 3) := by decide +kernel
theorem dL_areSums_319 : decode cL_areSums 319 = .ok (.iadd, 1) := by decide +kernel
theorem dL_areSums_320 : decode cL_areSums 320 = .ok (.istore 7, 2) := by decide +kernel
theorem dL_areSums_322 : decode cL_areSums 322 = .ok (.iload 6, 2) := by decide +kernel
theorem dL_areSums_324 : decode cL_areSums 324 = .ok (.ifCond .eq 55, 3) := by decide +kernel
theorem dL_areSums_327 : decode cL_areSums 327 = .ok (.aload_n 0, 1) := by decide +kernel
theorem dL_areSums_328 : decode cL_areSums 328 = .ok (.iload 8, 2) := by decide +kernel
theorem dL_areSums_330 : decode cL_areSums 330 = .ok (.iconst 2, 1) := by decide +kernel
theorem dL_areSums_331 : decode cL_areSums 331 = .ok (.invokevirtual 79, 3) := by decide +kernel
theorem dL_areSums_334 : decode cL_areSums 334 = .ok (.aload_n 0, 1) := by decide +kernel
theorem dL_areSums_335 : decode cL_areSums 335 = .ok (.iconst 0, 1) := by decide +kernel
theorem dL_areSums_336 : decode cL_areSums 336 = .ok (.invokevirtual 59, 3) := by decide +kernel
theorem dL_areSums_339 : decode cL_areSums 339 = .ok (.if_icmp .ge 40, 3) := by decide +kernel
theorem dL_areSums_342 : decode cL_areSums 342 = .ok (.aload_n 0, 1) := by decide +kernel
theorem dL_areSums_343 : decode cL_areSums 343 = .ok (.iload 8, 2) := by decide +kernel
theorem dL_areSums_345 : decode cL_areSums 345 = .ok (.iconst 3, 1) := by decide +kernel
theorem dL_areSums_346 : decode cL_areSums 346 = .ok (.invokevirtual 79, 3) := by decide +kernel
theorem dL_areSums_349 : decode cL_areSums 349 = .ok (.ifCond .le 7, 3) := by decide +kernel
theorem dL_areSums_352 : decode cL_areSums 352 = .ok (.iconst 1, 1) := by decide +kernel
theorem dL_areSums_353 : decode cL_areSums 353 = .ok (.goto 4, 3) := by decide +kernel
theorem dL_areSums_356 : decode cL_areSums 356 = .ok (.iconst 0, 1) := by decide +kernel
theorem dL_areSums_357 : decode cL_areSums 357 = .ok (.aload_n 0, 1) := by decide +kernel
theorem dL_areSums_358 : decode cL_areSums 358 = .ok (.iload 8, 2) := by decide +kernel
theorem dL_areSums_360 : decode cL_areSums 360 = .ok (.iconst 4, 1) := by decide +kernel
theorem dL_areSums_361 : decode cL_areSums 361 = .ok (.invokevirtual 79, 3) := by decide +kernel
theorem dL_areSums_364 : decode cL_areSums 364 = .ok (.ifCond .lt 7, 3) := by decide +kernel
theorem dL_areSums_367 : decode cL_areSums 367 = .ok (.iconst 1, 1) := by decide +kernel
theorem dL_areSums_368 : decode cL_areSums 368 = .ok (.goto 4, 3) := by decide +kernel
theorem dL_areSums_371 : decode cL_areSums 371 = .ok (.iconst 0, 1) := by decide +kernel
theorem dL_areSums_372 : decode cL_areSums 372 = .ok (.if_icmp .ne 7, 3) := by decide +kernel
theorem dL_areSums_375 : decode cL_areSums 375 = .ok (.iconst 1, 1) := by decide +kernel
theorem dL_areSums_376 : decode cL_areSums 376 = .ok (.goto 4, 3) := by decide +kernel
theorem dL_areSums_379 : decode cL_areSums 379 = .ok (.iconst 0, 1) := by decide +kernel
theorem dL_areSums_380 : decode cL_areSums 380 = .ok (.istore 6, 2) := by decide +kernel
theorem dL_areSums_382 : decode cL_areSums 382 = .ok (.iinc 8 1, 3) := by decide +kernel
theorem dL_areSums_385 : decode cL_areSums 385 = .ok (.goto (-82), 3) := by decide +kernel
theorem dL_areSums_388 : decode cL_areSums 388 = .ok (.iload 6, 2) := by decide +kernel
theorem dL_areSums_390 : decode cL_areSums 390 = .ok (.ifCond .eq 96, 3) := by decide +kernel
theorem dL_areSums_393 : decode cL_areSums 393 = .ok (.iload_n 1, 1) := by decide +kernel
theorem dL_areSums_394 : decode cL_areSums 394 = .ok (.aload_n 0, 1) := by decide +kernel
theorem dL_areSums_395 : decode cL_areSums 395 = .ok (.bipush 7, 2) := by decide +kernel
theorem dL_areSums_397 : decode cL_areSums 397 = .ok (.invokevirtual 59, 3) := by decide +kernel
theorem dL_areSums_400 : decode cL_areSums 400 = .ok (.if_icmp .ne 86, 3) := by decide +kernel
theorem dL_areSums_403 : decode cL_areSums 403 = .ok (.iload_n 1, 1) := by decide +kernel
theorem dL_areSums_404 : decode cL_areSums 404 = .ok (.aload_n 0, 1) := by decide +kernel
theorem dL_areSums_405 : decode cL_areSums 405 = .ok (.iconst 3, 1) := by decide +kernel
theorem dL_areSums_406 : decode cL_areSums 406 = .ok (.invokevirtual 59, 3) := by decide +kernel
theorem dL_areSums_409 : decode cL_areSums 409 = .ok (.aload_n 0, 1) := by decide +kernel
theorem dL_areSums_410 : decode cL_areSums 410 = .ok (.iconst 4, 1) := by decide +kernel
theorem dL_areSums_411 : decode cL_areSums 411 = .ok (.invokevirtual 59, 3) := by decide +kernel
theorem dL_areSums_414 : decode cL_areSums 414 = .ok (.isub, 1) := by decide +kernel
theorem dL_areSums_415 : decode cL_areSums 415 = .ok (.aload_n 0, 1) := by decide +kernel
theorem dL_areSums_416 : decode cL_areSums 416 = .ok (.iconst 5, 1) := by decide +kernel
theorem dL_areSums_417 : decode cL_areSums 417 = .ok (.invokevirtual 59, 3) := by decide +kernel
theorem dL_areSums_420 : decode cL_areSums 420 = .ok (.iadd, 1) := by decide +kernel
theorem dL_areSums_421 : decode cL_areSums 421 = .ok (.aload_n 0, 1) := by decide +kernel
theorem dL_areSums_422 : decode cL_areSums 422 = .ok (.bipush 6, 2) := by decide +kernel
theorem dL_areSums_424 : decode cL_areSums 424 = .ok (.invokevirtual 59, 3) := by decide +kernel
theorem dL_areSums_427 : decode cL_areSums 427 = .ok (.isub, 1) := by decide +kernel
theorem dL_areSums_428 : decode cL_areSums 428 = .ok (.if_icmp .ne 58, 3) := by decide +kernel
theorem dL_areSums_431 : decode cL_areSums 431 = .ok (.iload_n 2, 1) := by decide +kernel
theorem dL_areSums_432 : decode cL_areSums 432 = .ok (.aload_n 0, 1) := by decide +kernel
theorem dL_areSums_433 : decode cL_areSums 433 = .ok (.iconst 2, 1) := by decide +kernel
theorem dL_areSums_434 : decode cL_areSums 434 = .ok (.invokevirtual 59, 3) := by decide +kernel
theorem dL_areSums_437 : decode cL_areSums 437 = .ok (.iadd, 1) := by decide +kernel
theorem dL_areSums_438 : decode cL_areSums 438 = .ok (.bipush 20, 2) := by decide +kernel
theorem dL_areSums_440 : decode cL_areSums 440 = .ok (.if_icmp .ne 46, 3) := by decide +kernel
theorem dL_areSums_443 : decode cL_areSums 443 = .ok (.iload_n 3, 1) := by decide +kernel
theorem dL_areSums_444 : decode cL_areSums 444 = .ok (.aload_n 0, 1) := by decide +kernel
theorem dL_areSums_445 : decode cL_areSums 445 = .ok (.bipush 13, 2) := by decide +kernel
theorem dL_areSums_447 : decode cL_areSums 447 = .ok (.invokevirtual 59, 3) := by decide +kernel
theorem dL_areSums_450 : decode cL_areSums 450 = .ok (.if_icmp .ne 36, 3) := by decide +kernel
theorem dL_areSums_453 : decode cL_areSums 453 = .ok (.iload 4, 2) := by decide +kernel
theorem dL_areSums_455 : decode cL_areSums 455 = .ok (.aload_n 0, 1) := by decide +kernel
theorem dL_areSums_456 : decode cL_areSums 456 = .ok (.bipush 8, 2) := by decide +kernel
theorem dL_areSums_458 : decode cL_areSums 458 = .ok (.invokevirtual 59, 3) := by decide +kernel
theorem dL_areSums_461 : decode cL_areSums 461 = .ok (.if_icmp .ne 25, 3) := by decide +kernel
theorem dL_areSums_464 : decode cL_areSums 464 = .ok (.iload 7, 2) := by decide +kernel
theorem dL_areSums_466 : decode cL_areSums 466 = .ok (.iload 4, 2) := by decide +kernel
theorem dL_areSums_468 : decode cL_areSums 468 = .ok (.if_icmp .ne 18, 3) := by decide +kernel
theorem dL_areSums_471 : decode cL_areSums 471 = .ok (.aload_n 0, 1) := by decide +kernel
theorem dL_areSums_472 : decode cL_areSums 472 = .ok (.bipush 9, 2) := by decide +kernel
theorem dL_areSums_474 : decode cL_areSums 474 = .ok (.invokevirtual 59, 3) := by decide +kernel
theorem dL_areSums_477 : decode cL_areSums 477 = .ok (.bipush 8, 2) := by decide +kernel
theorem dL_areSums_479 : decode cL_areSums 479 = .ok (.if_icmp .gt 7, 3) := by decide +kernel
theorem dL_areSums_482 : decode cL_areSums 482 = .ok (.iconst 1, 1) := by decide +kernel
theorem dL_areSums_483 : decode cL_areSums 483 = .ok (.goto 4, 3) := by decide +kernel
theorem dL_areSums_486 : decode cL_areSums 486 = .ok (.iconst 0, 1) := by decide +kernel
theorem dL_areSums_487 : decode cL_areSums 487 = .ok (.ireturn, 1) := by decide +kernel
theorem dL_most_0 : decode cL_most 0 = .ok (.aload_n 0, 1) := by decide +kernel
theorem dL_most_1 : decode cL_most 1 = .ok (.iconst 2, 1) := by decide +kernel
theorem dL_most_2 : decode cL_most 2 = .ok (.iconst 1, 1) := by decide +kernel
theorem dL_most_3 : decode cL_most 3 = .ok (.invokevirtual 27, 3) := by decide +kernel
theorem dL_most_6 : decode cL_most 6 = .ok (.istore_n 1, 1) := by decide +kernel
theorem dL_most_7 : decode cL_most 7 = .ok (.aload_n 0, 1) := by decide +kernel
theorem dL_most_8 : decode cL_most 8 = .ok (.iconst 2, 1) := by decide +kernel
theorem dL_most_9 : decode cL_most 9 = .ok (.iload_n 1, 1) := by decide +kernel
theorem dL_most_10 : decode cL_most 10 = .ok (.invokevirtual 27, 3) := by decide +kernel
theorem dL_most_13 : decode cL_most 13 = .ok (.aload_n 0, 1) := by decide +kernel
theorem dL_most_14 : decode cL_most 14 = .ok (.invokevirtual 50, 3) := by decide +kernel
theorem dL_most_17 : decode cL_most 17 = .ok (.iadd, 1) := by decide +kernel
theorem dL_most_18 : decode cL_most 18 = .ok (.aload_n 0, 1) := by decide +kernel
theorem dL_most_19 : decode cL_most 19 = .ok (.invokevirtual 50, 3) := by decide +kernel
theorem dL_most_22 : decode cL_most 22 = .ok (.iadd, 1) := by decide +kernel
theorem dL_most_23 : decode cL_most 23 = .ok (.istore_n 2, 1) := by decide +kernel
theorem dL_most_24 : decode cL_most 24 = .ok (.iload_n 2, 1) := by decide +kernel
theorem dL_most_25 : decode cL_most 25 = .ok (.ifCond .ge 7, 3) := by decide +kernel
theorem dL_most_28 : decode cL_most 28 = .ok (.iconst 0, 1) := by decide +kernel
theorem dL_most_29 : decode cL_most 29 = .ok (.goto 4, 3) := by decide +kernel
theorem dL_most_32 : decode cL_most 32 = .ok (.iload_n 1, 1) := by decide +kernel
theorem dL_most_33 : decode cL_most 33 = .ok (.ireturn, 1) := by decide +kernel
theorem dL_isWinSo_0 : decode cL_isWinSo 0 = .ok (.aload_n 0, 1) := by decide +kernel
theorem dL_isWinSo_1 : decode cL_isWinSo 1 = .ok (.iload_n 2, 1) := by decide +kernel
theorem dL_isWinSo_2 : decode cL_isWinSo 2 = .ok (.invokevirtual 95, 3) := by decide +kernel
theorem dL_isWinSo_5 : decode cL_isWinSo 5 = .ok (.istore 4, 2) := by decide +kernel
theorem dL_isWinSo_7 : decode cL_isWinSo 7 = .ok (.aload_n 0, 1) := by decide +kernel
theorem dL_isWinSo_8 : decode cL_isWinSo 8 = .ok (.iload_n 2, 1) := by decide +kernel
theorem dL_isWinSo_9 : decode cL_isWinSo 9 = .ok (.iconst 1, 1) := by decide +kernel
theorem dL_isWinSo_10 : decode cL_isWinSo 10 = .ok (.invokevirtual 79, 3) := by decide +kernel
theorem dL_isWinSo_13 : decode cL_isWinSo 13 = .ok (.iconst 1, 1) := by decide +kernel
theorem dL_isWinSo_14 : decode cL_isWinSo 14 = .ok (.if_icmp .ne 17, 3) := by decide +kernel
theorem dL_isWinSo_17 : decode cL_isWinSo 17 = .ok (.aload_n 0, 1) := by decide +kernel
theorem dL_isWinSo_18 : decode cL_isWinSo 18 = .ok (.iload_n 2, 1) := by decide +kernel
theorem dL_isWinSo_19 : decode cL_isWinSo 19 = .ok (.iconst 2, 1) := by decide +kernel
theorem dL_isWinSo_20 : decode cL_isWinSo 20 = .ok (.invokevirtual 79, 3) := by decide +kernel
theorem dL_isWinSo_23 : decode cL_isWinSo 23 = .ok (.iconst (-1), 1) := by decide +kernel
theorem dL_isWinSo_24 : decode cL_isWinSo 24 = .ok (.if_icmp .ne 7, 3) := by decide +kernel
theorem dL_isWinSo_27 : decode cL_isWinSo 27 = .ok (.iconst 1, 1) := by decide +kernel
theorem dL_isWinSo_28 : decode cL_isWinSo 28 = .ok (.goto 4, 3) := by decide +kernel
theorem dL_isWinSo_31 : decode cL_isWinSo 31 = .ok (.iconst 0, 1) := by decide +kernel
theorem dL_isWinSo_32 : decode cL_isWinSo 32 = .ok (.istore 5, 2) := by decide +kernel
theorem dL_isWinSo_34 : decode cL_isWinSo 34 = .ok (.aload_n 0, 1) := by decide +kernel
theorem dL_isWinSo_35 : decode cL_isWinSo 35 = .ok (.iload_n 1, 1) := by decide +kernel
theorem dL_isWinSo_36 : decode cL_isWinSo 36 = .ok (.iload_n 2, 1) := by decide +kernel
theorem dL_isWinSo_37 : decode cL_isWinSo 37 = .ok (.invokevirtual 98, 3) := by decide +kernel
theorem dL_isWinSo_40 : decode cL_isWinSo 40 = .ok (.istore 6, 2) := by decide +kernel
theorem dL_isWinSo_42 : decode cL_isWinSo 42 = .ok (.aload_n 0, 1) := by decide +kernel
theorem dL_isWinSo_43 : decode cL_isWinSo 43 = .ok (.iconst 0, 1) := by decide +kernel
theorem dL_isWinSo_44 : decode cL_isWinSo 44 = .ok (.invokevirtual 101, 3) := by decide +kernel
theorem dL_isWinSo_47 : decode cL_isWinSo 47 = .ok (.istore 7, 2) := by decide +kernel
theorem dL_isWinSo_49 : decode cL_isWinSo 49 = .ok (.iconst 0, 1) := by decide +kernel
theorem dL_isWinSo_50 : decode cL_isWinSo 50 = .ok (.istore 8, 2) := by decide +kernel
theorem dL_isWinSo_52 : decode cL_isWinSo 52 = .ok (.iconst 0, 1) := by decide +kernel
theorem dL_isWinSo_53 : decode cL_isWinSo 53 = .ok (.istore 9, 2) := by decide +kernel
theorem dL_isWinSo_55 : decode cL_isWinSo 55 = .ok (.iload 9, 2) := by decide +kernel
theorem dL_isWinSo_57 : decode cL_isWinSo 57 = .ok (.aload_n 0, 1) := by decide +kernel
theorem dL_isWinSo_58 : decode cL_isWinSo 58 = .ok (.iconst 0, 1) := by decide +kernel
theorem dL_isWinSo_59 : decode cL_isWinSo 59 = .ok (.invokevirtual 59, 3) := by decide +kernel
theorem dL_isWinSo_62 : decode cL_isWinSo 62 = .ok (.if_icmp .ge 66, 3) := by decide +kernel
theorem dL_isWinSo_65 : decode cL_isWinSo 65 = .ok (.iconst 0, 1) := by decide +kernel
theorem dL_isWinSo_66 : decode cL_isWinSo 66 = .ok (.istore 10, 2) := by decide +kernel
theorem dL_isWinSo_68 : decode cL_isWinSo 68 = .ok (.iconst 0, 1) := by decide +kernel
theorem dL_isWinSo_69 : decode cL_isWinSo 69 = .ok (.istore 11, 2) := by decide +kernel
theorem dL_isWinSo_71 : decode cL_isWinSo 71 = .ok (.iload 11, 2) := by decide +kernel
theorem dL_isWinSo_73 : decode cL_isWinSo 73 = .ok (.bipush 20, 2) := by decide +kernel
theorem dL_isWinSo_75 : decode cL_isWinSo 75 = .ok (.if_icmp .ge 32, 3) := by decide +kernel
theorem dL_isWinSo_78 : decode cL_isWinSo 78 = .ok (.iload 10, 2) := by decide +kernel
theorem dL_isWinSo_80 : decode cL_isWinSo 80 = .ok (.ifCond .ne 14, 3) := by decide +kernel
theorem dL_isWinSo_83 : decode cL_isWinSo 83 = .ok (.aload_n 0, 1) := by decide +kernel
theorem dL_isWinSo_84 : decode cL_isWinSo 84 = .ok (.iload 9, 2) := by decide +kernel
theorem dL_isWinSo_86 : decode cL_isWinSo 86 = .ok (.iload 11, 2) := by decide +kernel
theorem dL_isWinSo_88 : decode cL_isWinSo 88 = .ok (.invokevirtual 92, 3) := by decide +kernel
theorem dL_isWinSo_91 : decode cL_isWinSo 91 = .ok (.ifCond .ne 7, 3) := by decide +kernel
theorem dL_isWinSo_94 : decode cL_isWinSo 94 = .ok (.iconst 1, 1) := by decide +kernel
theorem dL_isWinSo_95 : decode cL_isWinSo 95 = .ok (.goto 4, 3) := by decide +kernel
theorem dL_isWinSo_98 : decode cL_isWinSo 98 = .ok (.iconst 0, 1) := by decide +kernel
theorem dL_isWinSo_99 : decode cL_isWinSo 99 = .ok (.istore 10, 2) := by decide +kernel
theorem dL_isWinSo_101 : decode cL_isWinSo 101 = .ok (.iinc 11 1, 3) := by decide +kernel
theorem dL_isWinSo_104 : decode cL_isWinSo 104 = .ok (.goto (-33), 3) := by decide +kernel
theorem dL_isWinSo_107 : decode cL_isWinSo 107 = .ok (.iload 8, 2) := by decide +kernel
theorem dL_isWinSo_109 : decode cL_isWinSo 109 = .ok (.iload 10, 2) := by decide +kernel
theorem dL_isWinSo_111 : decode cL_isWinSo 111 = .ok (.ifCond .eq 7, 3) := by decide +kernel
theorem dL_isWinSo_114 : decode cL_isWinSo 114 = .ok (.iconst 1, 1) := by decide +kernel
theorem dL_isWinSo_115 : decode cL_isWinSo 115 = .ok (.goto 4, 3) := by decide +kernel
theorem dL_isWinSo_118 : decode cL_isWinSo 118 = .ok (.iconst 0, 1) := by decide +kernel
theorem dL_isWinSo_119 : decode cL_isWinSo 119 = .ok (.iadd, 1) := by decide +kernel
theorem dL_isWinSo_120 : decode cL_isWinSo 120 = .ok (.istore 8, 2) := by decide +kernel
theorem dL_isWinSo_122 : decode cL_isWinSo 122 = .ok (.iinc 9 1, 3) := by decide +kernel
theorem dL_isWinSo_125 : decode cL_isWinSo 125 = .ok (.goto (-70), 3) := by decide +kernel
theorem dL_isWinSo_128 : decode cL_isWinSo 128 = .ok (.aload_n 0, 1) := by decide +kernel
theorem dL_isWinSo_129 : decode cL_isWinSo 129 = .ok (.iconst 1, 1) := by decide +kernel
theorem dL_isWinSo_130 : decode cL_isWinSo 130 = .ok (.invokevirtual 101, 3) := by decide +kernel
theorem dL_isWinSo_133 : decode cL_isWinSo 133 = .ok (.iload 7, 2) := by decide +kernel
theorem dL_isWinSo_135 : decode cL_isWinSo 135 = .ok (.if_icmp .ne 77, 3) := by decide +kernel
theorem dL_isWinSo_138 : decode cL_isWinSo 138 = .ok (.iload 7, 2) := by decide +kernel
theorem dL_isWinSo_140 : decode cL_isWinSo 140 = .ok (.iload 8, 2) := by decide +kernel
theorem dL_isWinSo_142 : decode cL_isWinSo 142 = .ok (.if_icmp .gt 70, 3) := by decide +kernel
theorem dL_isWinSo_145 : decode cL_isWinSo 145 = .ok (.iload 7, 2) := by decide +kernel
theorem dL_isWinSo_147 : decode cL_isWinSo 147 = .ok (.ifCond .le 7, 3) := by decide +kernel
theorem dL_isWinSo_150 : decode cL_isWinSo 150 = .ok (.iconst 1, 1) := by decide +kernel
theorem dL_isWinSo_151 : decode cL_isWinSo 151 = .ok (.goto 4, 3) := by decide +kernel
theorem dL_isWinSo_154 : decode cL_isWinSo 154 = .ok (.iconst 0, 1) := by decide +kernel
theorem dL_isWinSo_155 : decode cL_isWinSo 155 = .ok (.iload 8, 2) := by decide +kernel
theorem dL_isWinSo_157 : decode cL_isWinSo 157 = .ok (.ifCond .le 7, 3) := by decide +kernel
theorem dL_isWinSo_160 : decode cL_isWinSo 160 = .ok (.iconst 1, 1) := by decide +kernel
theorem dL_isWinSo_161 : decode cL_isWinSo 161 = .ok (.goto 4, 3) := by decide +kernel
theorem dL_isWinSo_164 : decode cL_isWinSo 164 = .ok (.iconst 0, 1) := by decide +kernel
theorem dL_isWinSo_165 : decode cL_isWinSo 165 = .ok (.if_icmp .ne 47, 3) := by decide +kernel
theorem dL_isWinSo_168 : decode cL_isWinSo 168 = .ok (.iload 5, 2) := by decide +kernel
theorem dL_isWinSo_170 : decode cL_isWinSo 170 = .ok (.ifCond .ne 15, 3) := by decide +kernel
theorem dL_isWinSo_173 : decode cL_isWinSo 173 = .ok (.iload 4, 2) := by decide +kernel
theorem dL_isWinSo_175 : decode cL_isWinSo 175 = .ok (.iconst (-1), 1) := by decide +kernel
theorem dL_isWinSo_176 : decode cL_isWinSo 176 = .ok (.if_icmp .ne 36, 3) := by decide +kernel
theorem dL_isWinSo_179 : decode cL_isWinSo 179 = .ok (.iload 6, 2) := by decide +kernel
theorem dL_isWinSo_181 : decode cL_isWinSo 181 = .ok (.iconst (-1), 1) := by decide +kernel
theorem dL_isWinSo_182 : decode cL_isWinSo 182 = .ok (.if_icmp .ne 30, 3) := by decide +kernel
theorem dL_isWinSo_185 : decode cL_isWinSo 185 = .ok (.iload 6, 2) := by decide +kernel
theorem dL_isWinSo_187 : decode cL_isWinSo 187 = .ok (.bipush 21, 2) := by decide +kernel
theorem dL_isWinSo_189 : decode cL_isWinSo 189 = .ok (.if_icmp .ge 23, 3) := by decide +kernel
theorem dL_isWinSo_192 : decode cL_isWinSo 192 = .ok (.iload 4, 2) := by decide +kernel
theorem dL_isWinSo_194 : decode cL_isWinSo 194 = .ok (.iconst (-1), 1) := by decide +kernel
theorem dL_isWinSo_195 : decode cL_isWinSo 195 = .ok (.if_icmp .eq 13, 3) := by decide +kernel
theorem dL_isWinSo_198 : decode cL_isWinSo 198 = .ok (.aload_n 0, 1) := by decide +kernel
theorem dL_isWinSo_199 : decode cL_isWinSo 199 = .ok (.iload 4, 2) := by decide +kernel
theorem dL_isWinSo_201 : decode cL_isWinSo 201 = .ok (.iload_n 2, 1) := by decide +kernel
theorem dL_isWinSo_202 : decode cL_isWinSo 202 = .ok (.invokevirtual 89, 3) := by decide +kernel
theorem dL_isWinSo_205 : decode cL_isWinSo 205 = .ok (.ifCond .lt 7, 3) := by decide +kernel
theorem dL_isWinSo_208 : decode cL_isWinSo 208 = .ok (.iconst 1, 1) := by decide +kernel
theorem dL_isWinSo_209 : decode cL_isWinSo 209 = .ok (.goto 4, 3) := by decide +kernel
theorem dL_isWinSo_212 : decode cL_isWinSo 212 = .ok (.iconst 0, 1) := by decide +kernel
theorem dL_isWinSo_213 : decode cL_isWinSo 213 = .ok (.istore 9, 2) := by decide +kernel
theorem dL_isWinSo_215 : decode cL_isWinSo 215 = .ok (.aload_n 0, 1) := by decide +kernel
theorem dL_isWinSo_216 : decode cL_isWinSo 216 = .ok (.invokevirtual 73, 3) := by decide +kernel
theorem dL_isWinSo_219 : decode cL_isWinSo 219 = .ok (.istore 10, 2) := by decide +kernel
theorem dL_isWinSo_221 : decode cL_isWinSo 221 = .ok (.iload 9, 2) := by decide +kernel
theorem dL_isWinSo_223 : decode cL_isWinSo 223 = .ok (.ifCond .eq 51, 3) := by decide +kernel
theorem dL_isWinSo_226 : decode cL_isWinSo 226 = .ok (.iload 5, 2) := by decide +kernel
theorem dL_isWinSo_228 : decode cL_isWinSo 228 = .ok (.ifCond .eq 14, 3) := by decide +kernel
theorem dL_isWinSo_231 : decode cL_isWinSo 231 = .ok (.aload_n 0, 1) := by decide +kernel
theorem dL_isWinSo_232 : decode cL_isWinSo 232 = .ok (.iload_n 2, 1) := by decide +kernel
theorem dL_isWinSo_233 : decode cL_isWinSo 233 = .ok (.iconst 2, 1) := by decide +kernel
theorem dL_isWinSo_234 : decode cL_isWinSo 234 = .ok (.invokevirtual 79, 3) := by decide +kernel
theorem dL_isWinSo_237 : decode cL_isWinSo 237 = .ok (.iload 4, 2) := by decide +kernel
theorem dL_isWinSo_239 : decode cL_isWinSo 239 = .ok (.if_icmp .ne 35, 3) := by decide +kernel
theorem dL_isWinSo_242 : decode cL_isWinSo 242 = .ok (.iload 4, 2) := by decide +kernel
theorem dL_isWinSo_244 : decode cL_isWinSo 244 = .ok (.iconst (-1), 1) := by decide +kernel
theorem dL_isWinSo_245 : decode cL_isWinSo 245 = .ok (.if_icmp .eq 8, 3) := by decide +kernel
theorem dL_isWinSo_248 : decode cL_isWinSo 248 = .ok (.iload 10, 2) := by decide +kernel
theorem dL_isWinSo_250 : decode cL_isWinSo 250 = .ok (.ifCond .le 24, 3) := by decide +kernel
theorem dL_isWinSo_253 : decode cL_isWinSo 253 = .ok (.aload_n 0, 1) := by decide +kernel
theorem dL_isWinSo_254 : decode cL_isWinSo 254 = .ok (.bipush 8, 2) := by decide +kernel
theorem dL_isWinSo_256 : decode cL_isWinSo 256 = .ok (.invokevirtual 59, 3) := by decide +kernel
theorem dL_isWinSo_259 : decode cL_isWinSo 259 = .ok (.ifCond .ne 15, 3) := by decide +kernel
theorem dL_isWinSo_262 : decode cL_isWinSo 262 = .ok (.aload_n 0, 1) := by decide +kernel
theorem dL_isWinSo_263 : decode cL_isWinSo 263 = .ok (.aload_n 3, 1) := by decide +kernel
theorem dL_isWinSo_264 : decode cL_isWinSo 264 = .ok (.invokestatic 104, 3) := by decide +kernel
theorem dL_isWinSo_267 : decode cL_isWinSo 267 = .ok (.ifCond .ne 7, 3) := by decide +kernel
theorem dL_isWinSo_270 : decode cL_isWinSo 270 = .ok (.iconst 1, 1) := by decide +kernel
theorem dL_isWinSo_271 : decode cL_isWinSo 271 = .ok (.goto 4, 3) := by decide +kernel
theorem dL_isWinSo_274 : decode cL_isWinSo 274 = .ok (.iconst 0, 1) := by decide +kernel
theorem dL_isWinSo_275 : decode cL_isWinSo 275 = .ok (.istore 9, 2) := by decide +kernel
theorem dL_isWinSo_277 : decode cL_isWinSo 277 = .ok (.iload 6, 2) := by decide +kernel
theorem dL_isWinSo_279 : decode cL_isWinSo 279 = .ok (.ifCond .lt 43, 3) := by decide +kernel
theorem dL_isWinSo_282 : decode cL_isWinSo 282 = .ok (.iload 9, 2) := by decide +kernel
theorem dL_isWinSo_284 : decode cL_isWinSo 284 = .ok (.ifCond .eq 35, 3) := by decide +kernel
theorem dL_isWinSo_287 : decode cL_isWinSo 287 = .ok (.aload_n 0, 1) := by decide +kernel
theorem dL_isWinSo_288 : decode cL_isWinSo 288 = .ok (.iload_n 1, 1) := by decide +kernel
theorem dL_isWinSo_289 : decode cL_isWinSo 289 = .ok (.iload_n 2, 1) := by decide +kernel
theorem dL_isWinSo_290 : decode cL_isWinSo 290 = .ok (.iload 6, 2) := by decide +kernel
theorem dL_isWinSo_292 : decode cL_isWinSo 292 = .ok (.invokevirtual 43, 3) := by decide +kernel
theorem dL_isWinSo_295 : decode cL_isWinSo 295 = .ok (.ifCond .le 24, 3) := by decide +kernel
theorem dL_isWinSo_298 : decode cL_isWinSo 298 = .ok (.aload_n 0, 1) := by decide +kernel
theorem dL_isWinSo_299 : decode cL_isWinSo 299 = .ok (.iload_n 2, 1) := by decide +kernel
theorem dL_isWinSo_300 : decode cL_isWinSo 300 = .ok (.invokevirtual 95, 3) := by decide +kernel
theorem dL_isWinSo_303 : decode cL_isWinSo 303 = .ok (.iload_n 1, 1) := by decide +kernel
theorem dL_isWinSo_304 : decode cL_isWinSo 304 = .ok (.if_icmp .ne 15, 3) := by decide +kernel
theorem dL_isWinSo_307 : decode cL_isWinSo 307 = .ok (.aload_n 0, 1) := by decide +kernel
theorem dL_isWinSo_308 : decode cL_isWinSo 308 = .ok (.aload_n 3, 1) := by decide +kernel
theorem dL_isWinSo_309 : decode cL_isWinSo 309 = .ok (.invokestatic 104, 3) := by decide +kernel
theorem dL_isWinSo_312 : decode cL_isWinSo 312 = .ok (.ifCond .ne 7, 3) := by decide +kernel
theorem dL_isWinSo_315 : decode cL_isWinSo 315 = .ok (.iconst 1, 1) := by decide +kernel
theorem dL_isWinSo_316 : decode cL_isWinSo 316 = .ok (.goto 4, 3) := by decide +kernel
theorem dL_isWinSo_319 : decode cL_isWinSo 319 = .ok (.iconst 0, 1) := by decide +kernel
theorem dL_isWinSo_320 : decode cL_isWinSo 320 = .ok (.istore 9, 2) := by decide +kernel
theorem dL_isWinSo_322 : decode cL_isWinSo 322 = .ok (.iload 6, 2) := by decide +kernel
theorem dL_isWinSo_324 : decode cL_isWinSo 324 = .ok (.ifCond .le 45, 3) := by decide +kernel
theorem dL_isWinSo_327 : decode cL_isWinSo 327 = .ok (.iload 9, 2) := by decide +kernel
theorem dL_isWinSo_329 : decode cL_isWinSo 329 = .ok (.ifCond .eq 37, 3) := by decide +kernel
theorem dL_isWinSo_332 : decode cL_isWinSo 332 = .ok (.aload_n 0, 1) := by decide +kernel
theorem dL_isWinSo_333 : decode cL_isWinSo 333 = .ok (.iload_n 1, 1) := by decide +kernel
theorem dL_isWinSo_334 : decode cL_isWinSo 334 = .ok (.iload_n 2, 1) := by decide +kernel
theorem dL_isWinSo_335 : decode cL_isWinSo 335 = .ok (.iload 6, 2) := by decide +kernel
theorem dL_isWinSo_337 : decode cL_isWinSo 337 = .ok (.iconst 1, 1) := by decide +kernel
theorem dL_isWinSo_338 : decode cL_isWinSo 338 = .ok (.isub, 1) := by decide +kernel
theorem dL_isWinSo_339 : decode cL_isWinSo 339 = .ok (.invokevirtual 43, 3) := by decide +kernel
theorem dL_isWinSo_342 : decode cL_isWinSo 342 = .ok (.ifCond .le 24, 3) := by decide +kernel
theorem dL_isWinSo_345 : decode cL_isWinSo 345 = .ok (.aload_n 0, 1) := by decide +kernel
theorem dL_isWinSo_346 : decode cL_isWinSo 346 = .ok (.iload_n 2, 1) := by decide +kernel
theorem dL_isWinSo_347 : decode cL_isWinSo 347 = .ok (.invokevirtual 95, 3) := by decide +kernel
theorem dL_isWinSo_350 : decode cL_isWinSo 350 = .ok (.iload_n 1, 1) := by decide +kernel
theorem dL_isWinSo_351 : decode cL_isWinSo 351 = .ok (.if_icmp .eq 15, 3) := by decide +kernel
theorem dL_isWinSo_354 : decode cL_isWinSo 354 = .ok (.aload_n 0, 1) := by decide +kernel
theorem dL_isWinSo_355 : decode cL_isWinSo 355 = .ok (.aload_n 3, 1) := by decide +kernel
theorem dL_isWinSo_356 : decode cL_isWinSo 356 = .ok (.invokestatic 104, 3) := by decide +kernel
theorem dL_isWinSo_359 : decode cL_isWinSo 359 = .ok (.ifCond .ne 7, 3) := by decide +kernel
theorem dL_isWinSo_362 : decode cL_isWinSo 362 = .ok (.iconst 1, 1) := by decide +kernel
theorem dL_isWinSo_363 : decode cL_isWinSo 363 = .ok (.goto 4, 3) := by decide +kernel
theorem dL_isWinSo_366 : decode cL_isWinSo 366 = .ok (.iconst 0, 1) := by decide +kernel
theorem dL_isWinSo_367 : decode cL_isWinSo 367 = .ok (.istore 9, 2) := by decide +kernel
theorem dL_isWinSo_369 : decode cL_isWinSo 369 = .ok (.iload 9, 2) := by decide +kernel
theorem dL_isWinSo_371 : decode cL_isWinSo 371 = .ok (.ireturn, 1) := by decide +kernel
theorem dL_isUpkeepSo_0 : decode cL_isUpkeepSo 0 = .ok (.iconst 0, 1) := by decide +kernel
theorem dL_isUpkeepSo_1 : decode cL_isUpkeepSo 1 = .ok (.istore_n 2, 1) := by decide +kernel
theorem dL_isUpkeepSo_2 : decode cL_isUpkeepSo 2 = .ok (.iconst 0, 1) := by decide +kernel
theorem dL_isUpkeepSo_3 : decode cL_isUpkeepSo 3 = .ok (.istore_n 3, 1) := by decide +kernel
theorem dL_isUpkeepSo_4 : decode cL_isUpkeepSo 4 = .ok (.iconst 0, 1) := by decide +kernel
theorem dL_isUpkeepSo_5 : decode cL_isUpkeepSo 5 = .ok (.istore 4, 2) := by decide +kernel
theorem dL_isUpkeepSo_7 : decode cL_isUpkeepSo 7 = .ok (.iconst 1, 1) := by decide +kernel
theorem dL_isUpkeepSo_8 : decode cL_isUpkeepSo 8 = .ok (.istore 5, 2) := by decide +kernel
theorem dL_isUpkeepSo_10 : decode cL_isUpkeepSo 10 = .ok (.iconst 0, 1) := by decide +kernel
theorem dL_isUpkeepSo_11 : decode cL_isUpkeepSo 11 = .ok (.istore 6, 2) := by decide +kernel
theorem dL_isUpkeepSo_13 : decode cL_isUpkeepSo 13 = .ok (.iload 6, 2) := by decide +kernel
theorem dL_isUpkeepSo_15 : decode cL_isUpkeepSo 15 = .ok (.aload_n 0, 1) := by decide +kernel
theorem dL_isUpkeepSo_16 : decode cL_isUpkeepSo 16 = .ok (.iconst 0, 1) := by decide +kernel
theorem dL_isUpkeepSo_17 : decode cL_isUpkeepSo 17 = .ok (.invokevirtual 59, 3) := by decide +kernel
theorem dL_isUpkeepSo_20 : decode cL_isUpkeepSo 20 = .ok (.if_icmp .ge 19, 3) := by decide +kernel
theorem dL_isUpkeepSo_23 : decode cL_isUpkeepSo 23 = .ok (.iload_n 2, 1) := by decide +kernel
theorem dL_isUpkeepSo_24 : decode cL_isUpkeepSo 24 = .ok (.aload_n 0, 1) := by decide +kernel
theorem dL_isUpkeepSo_25 : decode cL_isUpkeepSo 25 = .ok (.iload 6, 2) := by decide +kernel
theorem dL_isUpkeepSo_27 : decode cL_isUpkeepSo 27 = .ok (.iconst 0, 1) := by decide +kernel
theorem dL_isUpkeepSo_28 : decode cL_isUpkeepSo 28 = .ok (.invokevirtual 66, 3) := by decide +kernel
theorem dL_isUpkeepSo_31 : decode cL_isUpkeepSo 31 = .ok (.iadd, 1) := by decide +kernel
theorem dL_isUpkeepSo_32 : decode cL_isUpkeepSo 32 = .ok (.istore_n 2, 1) := by decide +kernel
theorem dL_isUpkeepSo_33 : decode cL_isUpkeepSo 33 = .ok (.iinc 6 1, 3) := by decide +kernel
theorem dL_isUpkeepSo_36 : decode cL_isUpkeepSo 36 = .ok (.goto (-23), 3) := by decide +kernel
theorem dL_isUpkeepSo_39 : decode cL_isUpkeepSo 39 = .ok (.iconst 0, 1) := by decide +kernel
theorem dL_isUpkeepSo_40 : decode cL_isUpkeepSo 40 = .ok (.istore 6, 2) := by decide +kernel
theorem dL_isUpkeepSo_42 : decode cL_isUpkeepSo 42 = .ok (.iload 6, 2) := by decide +kernel
theorem dL_isUpkeepSo_44 : decode cL_isUpkeepSo 44 = .ok (.aload_n 0, 1) := by decide +kernel
theorem dL_isUpkeepSo_45 : decode cL_isUpkeepSo 45 = .ok (.iconst 0, 1) := by decide +kernel
theorem dL_isUpkeepSo_46 : decode cL_isUpkeepSo 46 = .ok (.invokevirtual 59, 3) := by decide +kernel
theorem dL_isUpkeepSo_49 : decode cL_isUpkeepSo 49 = .ok (.if_icmp .ge 94, 3) := by decide +kernel
theorem dL_isUpkeepSo_52 : decode cL_isUpkeepSo 52 = .ok (.aload_n 0, 1) := by decide +kernel
theorem dL_isUpkeepSo_53 : decode cL_isUpkeepSo 53 = .ok (.iload 6, 2) := by decide +kernel
theorem dL_isUpkeepSo_55 : decode cL_isUpkeepSo 55 = .ok (.iload_n 1, 1) := by decide +kernel
theorem dL_isUpkeepSo_56 : decode cL_isUpkeepSo 56 = .ok (.invokevirtual 108, 3) := by decide +kernel
theorem dL_isUpkeepSo_59 : decode cL_isUpkeepSo 59 = .ok (.istore 7, 2) := by decide +kernel
theorem dL_isUpkeepSo_61 : decode cL_isUpkeepSo 61 = .ok (.iload_n 1, 1) := by decide +kernel
theorem dL_isUpkeepSo_62 : decode cL_isUpkeepSo 62 = .ok (.aload_n 0, 1) := by decide +kernel
theorem dL_isUpkeepSo_63 : decode cL_isUpkeepSo 63 = .ok (.iload 6, 2) := by decide +kernel
theorem dL_isUpkeepSo_65 : decode cL_isUpkeepSo 65 = .ok (.iconst 0, 1) := by decide +kernel
theorem dL_isUpkeepSo_66 : decode cL_isUpkeepSo 66 = .ok (.invokevirtual 66, 3) := by decide +kernel
theorem dL_isUpkeepSo_69 : decode cL_isUpkeepSo 69 = .ok (.imul, 1) := by decide +kernel
theorem dL_isUpkeepSo_70 : decode cL_isUpkeepSo 70 = .ok (.iload_n 2, 1) := by decide +kernel
theorem dL_isUpkeepSo_71 : decode cL_isUpkeepSo 71 = .ok (.idiv, 1) := by decide +kernel
theorem dL_isUpkeepSo_72 : decode cL_isUpkeepSo 72 = .ok (.istore 8, 2) := by decide +kernel
theorem dL_isUpkeepSo_74 : decode cL_isUpkeepSo 74 = .ok (.iload_n 3, 1) := by decide +kernel
theorem dL_isUpkeepSo_75 : decode cL_isUpkeepSo 75 = .ok (.iload 7, 2) := by decide +kernel
theorem dL_isUpkeepSo_77 : decode cL_isUpkeepSo 77 = .ok (.iadd, 1) := by decide +kernel
theorem dL_isUpkeepSo_78 : decode cL_isUpkeepSo 78 = .ok (.istore_n 3, 1) := by decide +kernel
theorem dL_isUpkeepSo_79 : decode cL_isUpkeepSo 79 = .ok (.iload 7, 2) := by decide +kernel
theorem dL_isUpkeepSo_81 : decode cL_isUpkeepSo 81 = .ok (.iload 4, 2) := by decide +kernel
theorem dL_isUpkeepSo_83 : decode cL_isUpkeepSo 83 = .ok (.if_icmp .le 8, 3) := by decide +kernel
theorem dL_isUpkeepSo_86 : decode cL_isUpkeepSo 86 = .ok (.iload 7, 2) := by decide +kernel
theorem dL_isUpkeepSo_88 : decode cL_isUpkeepSo 88 = .ok (.goto 5, 3) := by decide +kernel
theorem dL_isUpkeepSo_91 : decode cL_isUpkeepSo 91 = .ok (.iload 4, 2) := by decide +kernel
theorem dL_isUpkeepSo_93 : decode cL_isUpkeepSo 93 = .ok (.istore 4, 2) := by decide +kernel
theorem dL_isUpkeepSo_95 : decode cL_isUpkeepSo 95 = .ok (.iload 5, 2) := by decide +kernel
theorem dL_isUpkeepSo_97 : decode cL_isUpkeepSo 97 = .ok (.ifCond .eq 37, 3) := by decide +kernel
theorem dL_isUpkeepSo_100 : decode cL_isUpkeepSo 100 = .ok (.iload 7, 2) := by decide +kernel
theorem dL_isUpkeepSo_102 : decode cL_isUpkeepSo 102 = .ok (.iload 8, 2) := by decide +kernel
theorem dL_isUpkeepSo_104 : decode cL_isUpkeepSo 104 = .ok (.if_icmp .eq 26, 3) := by decide +kernel
theorem dL_isUpkeepSo_107 : decode cL_isUpkeepSo 107 = .ok (.iload 7, 2) := by decide +kernel
theorem dL_isUpkeepSo_109 : decode cL_isUpkeepSo 109 = .ok (.iload 8, 2) := by decide +kernel
theorem dL_isUpkeepSo_111 : decode cL_isUpkeepSo 111 = .ok (.iconst 1, 1) := by decide +kernel
theorem dL_isUpkeepSo_112 : decode cL_isUpkeepSo 112 = .ok (.iadd, 1) := by decide +kernel
theorem dL_isUpkeepSo_113 : decode cL_isUpkeepSo 113 = .ok (.if_icmp .ne 21, 3) := by decide +kernel
theorem dL_isUpkeepSo_116 : decode cL_isUpkeepSo 116 = .ok (.iload_n 1, 1) := by decide +kernel
theorem dL_isUpkeepSo_117 : decode cL_isUpkeepSo 117 = .ok (.aload_n 0, 1) := by decide +kernel
theorem dL_isUpkeepSo_118 : decode cL_isUpkeepSo 118 = .ok (.iload 6, 2) := by decide +kernel
theorem dL_isUpkeepSo_120 : decode cL_isUpkeepSo 120 = .ok (.iconst 0, 1) := by decide +kernel
theorem dL_isUpkeepSo_121 : decode cL_isUpkeepSo 121 = .ok (.invokevirtual 66, 3) := by decide +kernel
theorem dL_isUpkeepSo_124 : decode cL_isUpkeepSo 124 = .ok (.imul, 1) := by decide +kernel
theorem dL_isUpkeepSo_125 : decode cL_isUpkeepSo 125 = .ok (.iload_n 2, 1) := by decide +kernel
theorem dL_isUpkeepSo_126 : decode cL_isUpkeepSo 126 = .ok (.irem, 1) := by decide +kernel
theorem dL_isUpkeepSo_127 : decode cL_isUpkeepSo 127 = .ok (.ifCond .le 7, 3) := by decide +kernel
theorem dL_isUpkeepSo_130 : decode cL_isUpkeepSo 130 = .ok (.iconst 1, 1) := by decide +kernel
theorem dL_isUpkeepSo_131 : decode cL_isUpkeepSo 131 = .ok (.goto 4, 3) := by decide +kernel
theorem dL_isUpkeepSo_134 : decode cL_isUpkeepSo 134 = .ok (.iconst 0, 1) := by decide +kernel
theorem dL_isUpkeepSo_135 : decode cL_isUpkeepSo 135 = .ok (.istore 5, 2) := by decide +kernel
theorem dL_isUpkeepSo_137 : decode cL_isUpkeepSo 137 = .ok (.iinc 6 1, 3) := by decide +kernel
theorem dL_isUpkeepSo_140 : decode cL_isUpkeepSo 140 = .ok (.goto (-98), 3) := by decide +kernel
theorem dL_isUpkeepSo_143 : decode cL_isUpkeepSo 143 = .ok (.aload_n 0, 1) := by decide +kernel
theorem dL_isUpkeepSo_144 : decode cL_isUpkeepSo 144 = .ok (.bipush 13, 2) := by decide +kernel
theorem dL_isUpkeepSo_146 : decode cL_isUpkeepSo 146 = .ok (.invokevirtual 59, 3) := by decide +kernel
theorem dL_isUpkeepSo_149 : decode cL_isUpkeepSo 149 = .ok (.istore 6, 2) := by decide +kernel
theorem dL_isUpkeepSo_151 : decode cL_isUpkeepSo 151 = .ok (.iload 5, 2) := by decide +kernel
theorem dL_isUpkeepSo_153 : decode cL_isUpkeepSo 153 = .ok (.ifCond .eq 42, 3) := by decide +kernel
theorem dL_isUpkeepSo_156 : decode cL_isUpkeepSo 156 = .ok (.iload_n 3, 1) := by decide +kernel
theorem dL_isUpkeepSo_157 : decode cL_isUpkeepSo 157 = .ok (.iload_n 1, 1) := by decide +kernel
theorem dL_isUpkeepSo_158 : decode cL_isUpkeepSo 158 = .ok (.if_icmp .ne 37, 3) := by decide +kernel
theorem dL_isUpkeepSo_161 : decode cL_isUpkeepSo 161 = .ok (.aload_n 0, 1) := by decide +kernel
theorem dL_isUpkeepSo_162 : decode cL_isUpkeepSo 162 = .ok (.iload_n 1, 1) := by decide +kernel
theorem dL_isUpkeepSo_163 : decode cL_isUpkeepSo 163 = .ok (.invokevirtual 24, 3) := by decide +kernel
theorem dL_isUpkeepSo_166 : decode cL_isUpkeepSo 166 = .ok (.iload 4, 2) := by decide +kernel
theorem dL_isUpkeepSo_168 : decode cL_isUpkeepSo 168 = .ok (.if_icmp .ne 27, 3) := by decide +kernel
theorem dL_isUpkeepSo_171 : decode cL_isUpkeepSo 171 = .ok (.aload_n 0, 1) := by decide +kernel
theorem dL_isUpkeepSo_172 : decode cL_isUpkeepSo 172 = .ok (.bipush 13, 2) := by decide +kernel
theorem dL_isUpkeepSo_174 : decode cL_isUpkeepSo 174 = .ok (.invokevirtual 59, 3) := by decide +kernel
theorem dL_isUpkeepSo_177 : decode cL_isUpkeepSo 177 = .ok (.iload 6, 2) := by decide +kernel
theorem dL_isUpkeepSo_179 : decode cL_isUpkeepSo 179 = .ok (.iload_n 1, 1) := by decide +kernel
theorem dL_isUpkeepSo_180 : decode cL_isUpkeepSo 180 = .ok (.iadd, 1) := by decide +kernel
theorem dL_isUpkeepSo_181 : decode cL_isUpkeepSo 181 = .ok (.if_icmp .ne 14, 3) := by decide +kernel
theorem dL_isUpkeepSo_184 : decode cL_isUpkeepSo 184 = .ok (.aload_n 0, 1) := by decide +kernel
theorem dL_isUpkeepSo_185 : decode cL_isUpkeepSo 185 = .ok (.invokevirtual 50, 3) := by decide +kernel
theorem dL_isUpkeepSo_188 : decode cL_isUpkeepSo 188 = .ok (.ifCond .lt 7, 3) := by decide +kernel
theorem dL_isUpkeepSo_191 : decode cL_isUpkeepSo 191 = .ok (.iconst 1, 1) := by decide +kernel
theorem dL_isUpkeepSo_192 : decode cL_isUpkeepSo 192 = .ok (.goto 4, 3) := by decide +kernel
theorem dL_isUpkeepSo_195 : decode cL_isUpkeepSo 195 = .ok (.iconst 0, 1) := by decide +kernel
theorem dL_isUpkeepSo_196 : decode cL_isUpkeepSo 196 = .ok (.ireturn, 1) := by decide +kernel
theorem dL_law_0 : decode cL_law 0 = .ok (.new 9, 3) := by decide +kernel
theorem dL_law_3 : decode cL_law 3 = .ok (.dup, 1) := by decide +kernel
theorem dL_law_4 : decode cL_law 4 = .ok (.invokespecial 111, 3) := by decide +kernel
theorem dL_law_7 : decode cL_law 7 = .ok (.astore_n 1, 1) := by decide +kernel
theorem dL_law_8 : decode cL_law 8 = .ok (.new 9, 3) := by decide +kernel
theorem dL_law_11 : decode cL_law 11 = .ok (.dup, 1) := by decide +kernel
theorem dL_law_12 : decode cL_law 12 = .ok (.invokespecial 111, 3) := by decide +kernel
theorem dL_law_15 : decode cL_law 15 = .ok (.astore_n 2, 1) := by decide +kernel
theorem dL_law_16 : decode cL_law 16 = .ok (.iconst 1, 1) := by decide +kernel
theorem dL_law_17 : decode cL_law 17 = .ok (.newarray .int, 2) := by decide +kernel
theorem dL_law_19 : decode cL_law 19 = .ok (.astore_n 3, 1) := by decide +kernel
theorem dL_law_20 : decode cL_law 20 = .ok (.iconst 0, 1) := by decide +kernel
theorem dL_law_21 : decode cL_law 21 = .ok (.istore 4, 2) := by decide +kernel
theorem dL_law_23 : decode cL_law 23 = .ok (.iload 4, 2) := by decide +kernel
theorem dL_law_25 : decode cL_law 25 = .ok (.bipush 56, 2) := by decide +kernel
theorem dL_law_27 : decode cL_law 27 = .ok (.if_icmp .ge 276, 3) := by decide +kernel
theorem dL_law_30 : decode cL_law 30 = .ok (.iload 4, 2) := by decide +kernel
theorem dL_law_32 : decode cL_law 32 = .ok (.iconst 3, 1) := by decide +kernel
theorem dL_law_33 : decode cL_law 33 = .ok (.if_icmp .ge 15, 3) := by decide +kernel
theorem dL_law_36 : decode cL_law 36 = .ok (.aload_n 0, 1) := by decide +kernel
theorem dL_law_37 : decode cL_law 37 = .ok (.iload 4, 2) := by decide +kernel
theorem dL_law_39 : decode cL_law 39 = .ok (.invokestatic 112, 3) := by decide +kernel
theorem dL_law_42 : decode cL_law 42 = .ok (.bipush (-32), 2) := by decide +kernel
theorem dL_law_44 : decode cL_law 44 = .ok (.iand, 1) := by decide +kernel
theorem dL_law_45 : decode cL_law 45 = .ok (.goto 31, 3) := by decide +kernel
theorem dL_law_48 : decode cL_law 48 = .ok (.iload 4, 2) := by decide +kernel
theorem dL_law_50 : decode cL_law 50 = .ok (.bipush 6, 2) := by decide +kernel
theorem dL_law_52 : decode cL_law 52 = .ok (.if_icmp .ge 18, 3) := by decide +kernel
theorem dL_law_55 : decode cL_law 55 = .ok (.aload_n 0, 1) := by decide +kernel
theorem dL_law_56 : decode cL_law 56 = .ok (.iload 4, 2) := by decide +kernel
theorem dL_law_58 : decode cL_law 58 = .ok (.invokestatic 112, 3) := by decide +kernel
theorem dL_law_61 : decode cL_law 61 = .ok (.bipush (-32), 2) := by decide +kernel
theorem dL_law_63 : decode cL_law 63 = .ok (.iand, 1) := by decide +kernel
theorem dL_law_64 : decode cL_law 64 = .ok (.bipush 27, 2) := by decide +kernel
theorem dL_law_66 : decode cL_law 66 = .ok (.ior, 1) := by decide +kernel
theorem dL_law_67 : decode cL_law 67 = .ok (.goto 9, 3) := by decide +kernel
theorem dL_law_70 : decode cL_law 70 = .ok (.aload_n 0, 1) := by decide +kernel
theorem dL_law_71 : decode cL_law 71 = .ok (.iload 4, 2) := by decide +kernel
theorem dL_law_73 : decode cL_law 73 = .ok (.invokestatic 112, 3) := by decide +kernel
theorem dL_law_76 : decode cL_law 76 = .ok (.istore 5, 2) := by decide +kernel
theorem dL_law_78 : decode cL_law 78 = .ok (.aload_n 1, 1) := by decide +kernel
theorem dL_law_79 : decode cL_law 79 = .ok (.iload 5, 2) := by decide +kernel
theorem dL_law_81 : decode cL_law 81 = .ok (.aload_n 3, 1) := by decide +kernel
theorem dL_law_82 : decode cL_law 82 = .ok (.invokestatic 116, 3) := by decide +kernel
theorem dL_law_85 : decode cL_law 85 = .ok (.istore 6, 2) := by decide +kernel
theorem dL_law_87 : decode cL_law 87 = .ok (.aload_n 3, 1) := by decide +kernel
theorem dL_law_88 : decode cL_law 88 = .ok (.iconst 0, 1) := by decide +kernel
theorem dL_law_89 : decode cL_law 89 = .ok (.iaload, 1) := by decide +kernel
theorem dL_law_90 : decode cL_law 90 = .ok (.istore 7, 2) := by decide +kernel
theorem dL_law_92 : decode cL_law 92 = .ok (.iload 6, 2) := by decide +kernel
theorem dL_law_94 : decode cL_law 94 = .ok (.ifCond .eq 13, 3) := by decide +kernel
theorem dL_law_97 : decode cL_law 97 = .ok (.aload_n 1, 1) := by decide +kernel
theorem dL_law_98 : decode cL_law 98 = .ok (.aload_n 2, 1) := by decide +kernel
theorem dL_law_99 : decode cL_law 99 = .ok (.invokestatic 120, 3) := by decide +kernel
theorem dL_law_102 : decode cL_law 102 = .ok (.ifCond .ne 5, 3) := by decide +kernel
theorem dL_law_105 : decode cL_law 105 = .ok (.iconst 0, 1) := by decide +kernel
theorem dL_law_106 : decode cL_law 106 = .ok (.ireturn, 1) := by decide +kernel
theorem dL_law_107 : decode cL_law 107 = .ok (.iload 6, 2) := by decide +kernel
theorem dL_law_109 : decode cL_law 109 = .ok (.ifCond .ne 61, 3) := by decide +kernel
theorem dL_law_112 : decode cL_law 112 = .ok (.iload 5, 2) := by decide +kernel
theorem dL_law_114 : decode cL_law 114 = .ok (.bipush 9, 2) := by decide +kernel
theorem dL_law_116 : decode cL_law 116 = .ok (.ishr, 1) := by decide +kernel
theorem dL_law_117 : decode cL_law 117 = .ok (.iconst 1, 1) := by decide +kernel
theorem dL_law_118 : decode cL_law 118 = .ok (.iand, 1) := by decide +kernel
theorem dL_law_119 : decode cL_law 119 = .ok (.ifCond .ne 51, 3) := by decide +kernel
theorem dL_law_122 : decode cL_law 122 = .ok (.aload_n 1, 1) := by decide +kernel
theorem dL_law_123 : decode cL_law 123 = .ok (.aload_n 3, 1) := by decide +kernel
theorem dL_law_124 : decode cL_law 124 = .ok (.invokestatic 104, 3) := by decide +kernel
theorem dL_law_127 : decode cL_law 127 = .ok (.istore 8, 2) := by decide +kernel
theorem dL_law_129 : decode cL_law 129 = .ok (.iload 8, 2) := by decide +kernel
theorem dL_law_131 : decode cL_law 131 = .ok (.ifCond .ne 37, 3) := by decide +kernel
theorem dL_law_134 : decode cL_law 134 = .ok (.aload_n 3, 1) := by decide +kernel
theorem dL_law_135 : decode cL_law 135 = .ok (.iconst 0, 1) := by decide +kernel
theorem dL_law_136 : decode cL_law 136 = .ok (.iaload, 1) := by decide +kernel
theorem dL_law_137 : decode cL_law 137 = .ok (.bipush 13, 2) := by decide +kernel
theorem dL_law_139 : decode cL_law 139 = .ok (.if_icmp .gt 29, 3) := by decide +kernel
theorem dL_law_142 : decode cL_law 142 = .ok (.aload_n 1, 1) := by decide +kernel
theorem dL_law_143 : decode cL_law 143 = .ok (.aload_n 2, 1) := by decide +kernel
theorem dL_law_144 : decode cL_law 144 = .ok (.invokestatic 120, 3) := by decide +kernel
theorem dL_law_147 : decode cL_law 147 = .ok (.ifCond .eq 21, 3) := by decide +kernel
theorem dL_law_150 : decode cL_law 150 = .ok (.aload_n 1, 1) := by decide +kernel
theorem dL_law_151 : decode cL_law 151 = .ok (.iload 5, 2) := by decide +kernel
theorem dL_law_153 : decode cL_law 153 = .ok (.aload_n 3, 1) := by decide +kernel
theorem dL_law_154 : decode cL_law 154 = .ok (.invokestatic 116, 3) := by decide +kernel
theorem dL_law_157 : decode cL_law 157 = .ok (.ifCond .ne 11, 3) := by decide +kernel
theorem dL_law_160 : decode cL_law 160 = .ok (.aload_n 3, 1) := by decide +kernel
theorem dL_law_161 : decode cL_law 161 = .ok (.iconst 0, 1) := by decide +kernel
theorem dL_law_162 : decode cL_law 162 = .ok (.iaload, 1) := by decide +kernel
theorem dL_law_163 : decode cL_law 163 = .ok (.iload 7, 2) := by decide +kernel
theorem dL_law_165 : decode cL_law 165 = .ok (.if_icmp .eq 5, 3) := by decide +kernel
theorem dL_law_168 : decode cL_law 168 = .ok (.iconst 0, 1) := by decide +kernel
theorem dL_law_169 : decode cL_law 169 = .ok (.ireturn, 1) := by decide +kernel
theorem dL_law_170 : decode cL_law 170 = .ok (.aload_n 2, 1) := by decide +kernel
theorem dL_law_171 : decode cL_law 171 = .ok (.iload 5, 2) := by decide +kernel
theorem dL_law_173 : decode cL_law 173 = .ok (.aload_n 3, 1) := by decide +kernel
theorem dL_law_174 : decode cL_law 174 = .ok (.invokestatic 116, 3) := by decide +kernel
theorem dL_law_177 : decode cL_law 177 = .ok (.iload 6, 2) := by decide +kernel
theorem dL_law_179 : decode cL_law 179 = .ok (.if_icmp .ne 24, 3) := by decide +kernel
theorem dL_law_182 : decode cL_law 182 = .ok (.iload 6, 2) := by decide +kernel
theorem dL_law_184 : decode cL_law 184 = .ok (.ifCond .ne 11, 3) := by decide +kernel
theorem dL_law_187 : decode cL_law 187 = .ok (.aload_n 3, 1) := by decide +kernel
theorem dL_law_188 : decode cL_law 188 = .ok (.iconst 0, 1) := by decide +kernel
theorem dL_law_189 : decode cL_law 189 = .ok (.iaload, 1) := by decide +kernel
theorem dL_law_190 : decode cL_law 190 = .ok (.iload 7, 2) := by decide +kernel
theorem dL_law_192 : decode cL_law 192 = .ok (.if_icmp .ne 11, 3) := by decide +kernel
theorem dL_law_195 : decode cL_law 195 = .ok (.aload_n 1, 1) := by decide +kernel
theorem dL_law_196 : decode cL_law 196 = .ok (.aload_n 2, 1) := by decide +kernel
theorem dL_law_197 : decode cL_law 197 = .ok (.invokestatic 120, 3) := by decide +kernel
theorem dL_law_200 : decode cL_law 200 = .ok (.ifCond .ne 5, 3) := by decide +kernel
theorem dL_law_203 : decode cL_law 203 = .ok (.iconst 0, 1) := by decide +kernel
theorem dL_law_204 : decode cL_law 204 = .ok (.ireturn, 1) := by decide +kernel
theorem dL_law_205 : decode cL_law 205 = .ok (.iload 4, 2) := by decide +kernel
theorem dL_law_207 : decode cL_law 207 = .ok (.iconst 3, 1) := by decide +kernel
theorem dL_law_208 : decode cL_law 208 = .ok (.irem, 1) := by decide +kernel
theorem dL_law_209 : decode cL_law 209 = .ok (.iconst 2, 1) := by decide +kernel
theorem dL_law_210 : decode cL_law 210 = .ok (.if_icmp .ne 12, 3) := by decide +kernel
theorem dL_law_213 : decode cL_law 213 = .ok (.aload_n 1, 1) := by decide +kernel
theorem dL_law_214 : decode cL_law 214 = .ok (.invokestatic 124, 3) := by decide +kernel
theorem dL_law_217 : decode cL_law 217 = .ok (.ifCond .ne 5, 3) := by decide +kernel
theorem dL_law_220 : decode cL_law 220 = .ok (.iconst 0, 1) := by decide +kernel
theorem dL_law_221 : decode cL_law 221 = .ok (.ireturn, 1) := by decide +kernel
theorem dL_law_222 : decode cL_law 222 = .ok (.iload 4, 2) := by decide +kernel
theorem dL_law_224 : decode cL_law 224 = .ok (.iconst 3, 1) := by decide +kernel
theorem dL_law_225 : decode cL_law 225 = .ok (.irem, 1) := by decide +kernel
theorem dL_law_226 : decode cL_law 226 = .ok (.iconst 2, 1) := by decide +kernel
theorem dL_law_227 : decode cL_law 227 = .ok (.if_icmp .ne 70, 3) := by decide +kernel
theorem dL_law_230 : decode cL_law 230 = .ok (.aload_n 1, 1) := by decide +kernel
theorem dL_law_231 : decode cL_law 231 = .ok (.iconst 0, 1) := by decide +kernel
theorem dL_law_232 : decode cL_law 232 = .ok (.invokevirtual 59, 3) := by decide +kernel
theorem dL_law_235 : decode cL_law 235 = .ok (.ifCond .le 62, 3) := by decide +kernel
theorem dL_law_238 : decode cL_law 238 = .ok (.aload_n 1, 1) := by decide +kernel
theorem dL_law_239 : decode cL_law 239 = .ok (.iload 5, 2) := by decide +kernel
theorem dL_law_241 : decode cL_law 241 = .ok (.iconst 5, 1) := by decide +kernel
theorem dL_law_242 : decode cL_law 242 = .ok (.ishr, 1) := by decide +kernel
theorem dL_law_243 : decode cL_law 243 = .ok (.aload_n 1, 1) := by decide +kernel
theorem dL_law_244 : decode cL_law 244 = .ok (.iconst 0, 1) := by decide +kernel
theorem dL_law_245 : decode cL_law 245 = .ok (.invokevirtual 59, 3) := by decide +kernel
theorem dL_law_248 : decode cL_law 248 = .ok (.invokestatic 54, 3) := by decide +kernel
theorem dL_law_251 : decode cL_law 251 = .ok (.iload 5, 2) := by decide +kernel
theorem dL_law_253 : decode cL_law 253 = .ok (.bipush 7, 2) := by decide +kernel
theorem dL_law_255 : decode cL_law 255 = .ok (.ishr, 1) := by decide +kernel
theorem dL_law_256 : decode cL_law 256 = .ok (.bipush 8, 2) := by decide +kernel
theorem dL_law_258 : decode cL_law 258 = .ok (.invokestatic 54, 3) := by decide +kernel
theorem dL_law_261 : decode cL_law 261 = .ok (.aload_n 3, 1) := by decide +kernel
theorem dL_law_262 : decode cL_law 262 = .ok (.invokestatic 128, 3) := by decide +kernel
theorem dL_law_265 : decode cL_law 265 = .ok (.ifCond .eq 30, 3) := by decide +kernel
theorem dL_law_268 : decode cL_law 268 = .ok (.aload_n 1, 1) := by decide +kernel
theorem dL_law_269 : decode cL_law 269 = .ok (.iconst 1, 1) := by decide +kernel
theorem dL_law_270 : decode cL_law 270 = .ok (.iload 5, 2) := by decide +kernel
theorem dL_law_272 : decode cL_law 272 = .ok (.iconst 4, 1) := by decide +kernel
theorem dL_law_273 : decode cL_law 273 = .ok (.ishr, 1) := by decide +kernel
theorem dL_law_274 : decode cL_law 274 = .ok (.sipush 999, 3) := by decide +kernel
theorem dL_law_277 : decode cL_law 277 = .ok (.invokestatic 54, 3) := by decide +kernel
theorem dL_law_280 : decode cL_law 280 = .ok (.iadd, 1) := by decide +kernel
theorem dL_law_281 : decode cL_law 281 = .ok (.invokestatic 132, 3) := by decide +kernel
theorem dL_law_284 : decode cL_law 284 = .ok (.ifCond .eq 11, 3) := by decide +kernel
theorem dL_law_287 : decode cL_law 287 = .ok (.aload_n 1, 1) := by decide +kernel
theorem dL_law_288 : decode cL_law 288 = .ok (.aload_n 2, 1) := by decide +kernel
theorem dL_law_289 : decode cL_law 289 = .ok (.invokestatic 120, 3) := by decide +kernel
theorem dL_law_292 : decode cL_law 292 = .ok (.ifCond .ne 5, 3) := by decide +kernel
theorem dL_law_295 : decode cL_law 295 = .ok (.iconst 0, 1) := by decide +kernel
theorem dL_law_296 : decode cL_law 296 = .ok (.ireturn, 1) := by decide +kernel
theorem dL_law_297 : decode cL_law 297 = .ok (.iinc 4 1, 3) := by decide +kernel
theorem dL_law_300 : decode cL_law 300 = .ok (.goto (-277), 3) := by decide +kernel
theorem dL_law_303 : decode cL_law 303 = .ok (.aload_n 1, 1) := by decide +kernel
theorem dL_law_304 : decode cL_law 304 = .ok (.invokestatic 124, 3) := by decide +kernel
theorem dL_law_307 : decode cL_law 307 = .ok (.ireturn, 1) := by decide +kernel
abbrev vwCl : List vw_C := [(RX0, TX0, 3), (RX1, TX1, 16), (RX2, TX2, 2), (RX5, TX5, 6), (RX6, TX6, 7)]
