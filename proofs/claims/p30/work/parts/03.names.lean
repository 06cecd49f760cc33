def RX0 : String := "Twocoin$Country"
def TX0 : u_T := fun k => match k with
  | 0 => ("Twocoin$Country", "number", "I", true)
  | 1 => ("Twocoin$Country", "rate", "I", false)
  | 2 => ("Twocoin$Country", "cut", "I", false)
  | 3 => ("Twocoin$Country", "vault", "LTwocoin$Metals;", true)
  | 4 => ("Twocoin$Country", "isGoldOpen", "Z", false)
  | 5 => ("Twocoin$Country", "isSilverOpen", "Z", false)
  | 6 => ("Twocoin$Country", "roadDays", "[I", true)
  | 7 => ("Twocoin$Country", "roadFreights", "[I", true)
  | _ => ("Twocoin$Country", "till", "LTwocoin$Till;", true)
def tyX0 : Nat → FieldType := fun k => match k with
  | 0 => .int
  | 1 => .int
  | 2 => .int
  | 3 => .object "Twocoin$Metals"
  | 4 => .boolean
  | 5 => .boolean
  | 6 => .array .int
  | 7 => .array .int
  | _ => .object "Twocoin$Till"
abbrev wsX00 : List Cond := u_ws RX0 TX0 9
theorem nmX0 : ∀ a, a < 9 → ∀ b, b < 9 → a ≠ b → (TX0 a).2.1 ≠ (TX0 b).2.1 := by decide +kernel
theorem tyX0_ok : ∀ k, k < 9 → parseFieldDescriptor (TX0 k).2.2.1 = some (tyX0 k) := by decide +kernel
abbrev cX0_init : ByteArray := prog_2_method_1_code
def yX0_init : MethodName := ⟨RX0, "<init>", "(IIILTwocoin$Metals;)V"⟩
abbrev cX0_isOpenFor : ByteArray := prog_2_method_2_code
def yX0_isOpenFor : MethodName := ⟨RX0, "isOpenFor", "(I)Z"⟩
abbrev cX0_setOpenFor : ByteArray := prog_2_method_3_code
def yX0_setOpenFor : MethodName := ⟨RX0, "setOpenFor", "(IZ)V"⟩
abbrev cX0_openSet : ByteArray := prog_2_method_4_code
def yX0_openSet : MethodName := ⟨RX0, "openSet", "()I"⟩
abbrev cX0_minted : ByteArray := prog_2_method_5_code
def yX0_minted : MethodName := ⟨RX0, "minted", "(II)I"⟩
abbrev cX0_silverFor : ByteArray := prog_2_method_6_code
def yX0_silverFor : MethodName := ⟨RX0, "silverFor", "(I)I"⟩
abbrev cX0_goldOf : ByteArray := prog_2_method_7_code
def yX0_goldOf : MethodName := ⟨RX0, "goldOf", "(I)I"⟩
abbrev cX0_goldFor : ByteArray := prog_2_method_8_code
def yX0_goldFor : MethodName := ⟨RX0, "goldFor", "(I)I"⟩
abbrev cX0_daysTo : ByteArray := prog_2_method_9_code
def yX0_daysTo : MethodName := ⟨RX0, "daysTo", "(I)I"⟩
abbrev cX0_freightTo : ByteArray := prog_2_method_10_code
def yX0_freightTo : MethodName := ⟨RX0, "freightTo", "(I)I"⟩
abbrev cX0_setRoadTo : ByteArray := prog_2_method_11_code
def yX0_setRoadTo : MethodName := ⟨RX0, "setRoadTo", "(III)V"⟩
def RX1 : String := "Twocoin$Debt"
def TX1 : u_T := fun k => match k with
  | 0 => ("Twocoin$Debt", "debtor", "LTwocoin$House;", true)
  | 1 => ("Twocoin$Debt", "creditor", "LTwocoin$House;", true)
  | 2 => ("Twocoin$Debt", "value", "I", true)
  | 3 => ("Twocoin$Debt", "day", "I", true)
  | _ => ("Twocoin$Debt", "isPaid", "Z", false)
def tyX1 : Nat → FieldType := fun k => match k with
  | 0 => .object "Twocoin$House"
  | 1 => .object "Twocoin$House"
  | 2 => .int
  | 3 => .int
  | _ => .boolean
abbrev wsX10 : List Cond := u_ws RX1 TX1 5
theorem nmX1 : ∀ a, a < 5 → ∀ b, b < 5 → a ≠ b → (TX1 a).2.1 ≠ (TX1 b).2.1 := by decide +kernel
theorem tyX1_ok : ∀ k, k < 5 → parseFieldDescriptor (TX1 k).2.2.1 = some (tyX1 k) := by decide +kernel
abbrev cX1_init : ByteArray := prog_3_method_1_code
def yX1_init : MethodName := ⟨RX1, "<init>", "(LTwocoin$House;LTwocoin$House;II)V"⟩
abbrev cX1_dueOn : ByteArray := prog_3_method_2_code
def yX1_dueOn : MethodName := ⟨RX1, "dueOn", "(I)I"⟩
def RX2 : String := "Twocoin$House"
def TX2 : u_T := fun k => match k with
  | 0 => ("Twocoin$House", "number", "I", true)
  | 1 => ("Twocoin$House", "purse", "LTwocoin$Metals;", true)
  | 2 => ("Twocoin$House", "place", "LTwocoin$Country;", false)
  | 3 => ("Twocoin$House", "goal", "LTwocoin$Country;", false)
  | _ => ("Twocoin$House", "arrival", "I", false)
def tyX2 : Nat → FieldType := fun k => match k with
  | 0 => .int
  | 1 => .object "Twocoin$Metals"
  | 2 => .object "Twocoin$Country"
  | 3 => .object "Twocoin$Country"
  | _ => .int
abbrev wsX20 : List Cond := u_ws RX2 TX2 5
theorem nmX2 : ∀ a, a < 5 → ∀ b, b < 5 → a ≠ b → (TX2 a).2.1 ≠ (TX2 b).2.1 := by decide +kernel
theorem tyX2_ok : ∀ k, k < 5 → parseFieldDescriptor (TX2 k).2.2.1 = some (tyX2 k) := by decide +kernel
abbrev cX2_init : ByteArray := prog_4_method_1_code
def yX2_init : MethodName := ⟨RX2, "<init>", "(ILTwocoin$Country;LTwocoin$Metals;)V"⟩
abbrev cX2_leaveFor : ByteArray := prog_4_method_2_code
def yX2_leaveFor : MethodName := ⟨RX2, "leaveFor", "(LTwocoin$Country;I)V"⟩
abbrev cX2_arriveBy : ByteArray := prog_4_method_3_code
def yX2_arriveBy : MethodName := ⟨RX2, "arriveBy", "(I)V"⟩
abbrev cX2_isLateOn : ByteArray := prog_4_method_4_code
def yX2_isLateOn : MethodName := ⟨RX2, "isLateOn", "(I)Z"⟩
def RX3 : String := "Twocoin$Metals"
def TX3 : u_T := fun k => match k with
  | 0 => ("Twocoin$Metals", "gold", "I", false)
  | _ => ("Twocoin$Metals", "silver", "I", false)
def tyX3 : Nat → FieldType := fun k => match k with
  | 0 => .int
  | _ => .int
abbrev wsX30 : List Cond := u_ws RX3 TX3 2
theorem nmX3 : ∀ a, a < 2 → ∀ b, b < 2 → a ≠ b → (TX3 a).2.1 ≠ (TX3 b).2.1 := by decide +kernel
theorem tyX3_ok : ∀ k, k < 2 → parseFieldDescriptor (TX3 k).2.2.1 = some (tyX3 k) := by decide +kernel
abbrev cX3_init : ByteArray := prog_5_method_1_code
def yX3_init : MethodName := ⟨RX3, "<init>", "(II)V"⟩
abbrev cX3_of : ByteArray := prog_5_method_2_code
def yX3_of : MethodName := ⟨RX3, "of", "(I)I"⟩
abbrev cX3_add : ByteArray := prog_5_method_3_code
def yX3_add : MethodName := ⟨RX3, "add", "(II)V"⟩
abbrev cX3_worth : ByteArray := prog_5_method_4_code
def yX3_worth : MethodName := ⟨RX3, "worth", "(I)I"⟩
abbrev cX3_isBelowZero : ByteArray := prog_5_method_5_code
def yX3_isBelowZero : MethodName := ⟨RX3, "isBelowZero", "()Z"⟩
def RX4 : String := "Twocoin$Till"
def TX4 : u_T := fun k => match k with
  | _ => ("Twocoin$Till", "many", "[I", true)
def tyX4 : Nat → FieldType := fun k => match k with
  | _ => .array .int
abbrev wsX40 : List Cond := u_ws RX4 TX4 1
theorem nmX4 : ∀ a, a < 1 → ∀ b, b < 1 → a ≠ b → (TX4 a).2.1 ≠ (TX4 b).2.1 := by decide +kernel
theorem tyX4_ok : ∀ k, k < 1 → parseFieldDescriptor (TX4 k).2.2.1 = some (tyX4 k) := by decide +kernel
abbrev cX4_init : ByteArray := prog_6_method_1_code
def yX4_init : MethodName := ⟨RX4, "<init>", "()V"⟩
abbrev cX4_manyOf : ByteArray := prog_6_method_2_code
def yX4_manyOf : MethodName := ⟨RX4, "manyOf", "(I)I"⟩
abbrev cX4_pounds : ByteArray := prog_6_method_4_code
def yX4_pounds : MethodName := ⟨RX4, "pounds", "()I"⟩
abbrev cX4_fewestFor : ByteArray := prog_6_method_5_code
def yX4_fewestFor : MethodName := ⟨RX4, "fewestFor", "(I)I"⟩
abbrev cX4_isBelowZero : ByteArray := prog_6_method_7_code
def yX4_isBelowZero : MethodName := ⟨RX4, "isBelowZero", "()Z"⟩
def RX5 : String := "Twocoin"
def TX5 : u_T := fun k => match k with
  | 0 => ("Twocoin", "today", "I", false)
  | 1 => ("Twocoin", "market", "I", false)
  | 2 => ("Twocoin", "countries", "[LTwocoin$Country;", true)
  | 3 => ("Twocoin", "countryCount", "I", false)
  | 4 => ("Twocoin", "houses", "[LTwocoin$House;", true)
  | 5 => ("Twocoin", "houseCount", "I", false)
  | 6 => ("Twocoin", "debts", "[LTwocoin$Debt;", true)
  | 7 => ("Twocoin", "debtCount", "I", false)
  | 8 => ("Twocoin", "carried", "LTwocoin$Metals;", true)
  | 9 => ("Twocoin", "used", "LTwocoin$Metals;", true)
  | 10 => ("Twocoin", "worn", "LTwocoin$Metals;", true)
  | _ => ("Twocoin", "came", "LTwocoin$Metals;", true)
def tyX5 : Nat → FieldType := fun k => match k with
  | 0 => .int
  | 1 => .int
  | 2 => .array (.object "Twocoin$Country")
  | 3 => .int
  | 4 => .array (.object "Twocoin$House")
  | 5 => .int
  | 6 => .array (.object "Twocoin$Debt")
  | 7 => .int
  | 8 => .object "Twocoin$Metals"
  | 9 => .object "Twocoin$Metals"
  | 10 => .object "Twocoin$Metals"
  | _ => .object "Twocoin$Metals"
abbrev wsX50 : List Cond := u_ws RX5 TX5 12
theorem nmX5 : ∀ a, a < 12 → ∀ b, b < 12 → a ≠ b → (TX5 a).2.1 ≠ (TX5 b).2.1 := by decide +kernel
theorem tyX5_ok : ∀ k, k < 12 → parseFieldDescriptor (TX5 k).2.2.1 = some (tyX5 k) := by decide +kernel
abbrev cX5_init : ByteArray := prog_1_method_1_code
def yX5_init : MethodName := ⟨RX5, "<init>", "()V"⟩
abbrev cX5_country : ByteArray := prog_1_method_2_code
def yX5_country : MethodName := ⟨RX5, "country", "(IIII)I"⟩
abbrev cX5_law : ByteArray := prog_1_method_3_code
def yX5_law : MethodName := ⟨RX5, "law", "(III)I"⟩
abbrev cX5_gate : ByteArray := prog_1_method_4_code
def yX5_gate : MethodName := ⟨RX5, "gate", "(IIZ)Z"⟩
abbrev cX5_road : ByteArray := prog_1_method_6_code
def yX5_road : MethodName := ⟨RX5, "road", "(IIII)I"⟩
abbrev cX5_mine : ByteArray := prog_1_method_7_code
def yX5_mine : MethodName := ⟨RX5, "mine", "(III)I"⟩
abbrev cX5_use : ByteArray := prog_1_method_8_code
def yX5_use : MethodName := ⟨RX5, "use", "(III)I"⟩
abbrev cX5_house : ByteArray := prog_1_method_9_code
def yX5_house : MethodName := ⟨RX5, "house", "(III)I"⟩
abbrev cX5_change : ByteArray := prog_1_method_10_code
def yX5_change : MethodName := ⟨RX5, "change", "(III)I"⟩
abbrev cX5_send : ByteArray := prog_1_method_11_code
def yX5_send : MethodName := ⟨RX5, "send", "(II)I"⟩
abbrev cX5_payFreight : ByteArray := prog_1_method_12_code
def yX5_payFreight : MethodName := ⟨RX5, "payFreight", "(LTwocoin$Metals;II)V"⟩
abbrev cX5_pass : ByteArray := prog_1_method_13_code
def yX5_pass : MethodName := ⟨RX5, "pass", "(I)I"⟩
abbrev cX5_beginDay : ByteArray := prog_1_method_14_code
def yX5_beginDay : MethodName := ⟨RX5, "beginDay", "()V"⟩
abbrev cX5_wearVaults : ByteArray := prog_1_method_15_code
def yX5_wearVaults : MethodName := ⟨RX5, "wearVaults", "()V"⟩
abbrev cX5_owe : ByteArray := prog_1_method_16_code
def yX5_owe : MethodName := ⟨RX5, "owe", "(IIII)I"⟩
abbrev cX5_settle : ByteArray := prog_1_method_17_code
def yX5_settle : MethodName := ⟨RX5, "settle", "(II)I"⟩
abbrev cX5_coins : ByteArray := prog_1_method_20_code
def yX5_coins : MethodName := ⟨RX5, "coins", "(II)I"⟩
abbrev cX5_countryFact : ByteArray := prog_1_method_22_code
def yX5_countryFact : MethodName := ⟨RX5, "countryFact", "(LTwocoin$Country;I)I"⟩
abbrev cX5_housesIn : ByteArray := prog_1_method_23_code
def yX5_housesIn : MethodName := ⟨RX5, "housesIn", "(LTwocoin$Country;)I"⟩
abbrev cX5_countriesWithRate : ByteArray := prog_1_method_24_code
def yX5_countriesWithRate : MethodName := ⟨RX5, "countriesWithRate", "(I)I"⟩
abbrev cX5_houseFact : ByteArray := prog_1_method_26_code
def yX5_houseFact : MethodName := ⟨RX5, "houseFact", "(LTwocoin$House;I)I"⟩
abbrev cX5_numberOf : ByteArray := prog_1_method_27_code
def yX5_numberOf : MethodName := ⟨RX5, "numberOf", "(LTwocoin$Country;)I"⟩
abbrev cX5_unpaidDebtsOf : ByteArray := prog_1_method_28_code
def yX5_unpaidDebtsOf : MethodName := ⟨RX5, "unpaidDebtsOf", "(LTwocoin$House;)I"⟩
abbrev cX5_unpaidDebtsTo : ByteArray := prog_1_method_29_code
def yX5_unpaidDebtsTo : MethodName := ⟨RX5, "unpaidDebtsTo", "(LTwocoin$House;)I"⟩
abbrev cX5_ofDebt : ByteArray := prog_1_method_30_code
def yX5_ofDebt : MethodName := ⟨RX5, "ofDebt", "(II)I"⟩
abbrev cX5_debtFact : ByteArray := prog_1_method_31_code
def yX5_debtFact : MethodName := ⟨RX5, "debtFact", "(LTwocoin$Debt;I)I"⟩
abbrev cX5_cheaperMetal : ByteArray := prog_1_method_32_code
def yX5_cheaperMetal : MethodName := ⟨RX5, "cheaperMetal", "(LTwocoin$Debt;)I"⟩
abbrev cX5_world : ByteArray := prog_1_method_33_code
def yX5_world : MethodName := ⟨RX5, "world", "(II)I"⟩
abbrev cX5_worldFact : ByteArray := prog_1_method_34_code
def yX5_worldFact : MethodName := ⟨RX5, "worldFact", "(II)I"⟩
abbrev cX5_inVaults : ByteArray := prog_1_method_35_code
def yX5_inVaults : MethodName := ⟨RX5, "inVaults", "(I)I"⟩
abbrev cX5_inPurses : ByteArray := prog_1_method_36_code
def yX5_inPurses : MethodName := ⟨RX5, "inPurses", "(I)I"⟩
abbrev cX5_trip : ByteArray := prog_1_method_38_code
def yX5_trip : MethodName := ⟨RX5, "trip", "(IIII)I"⟩
abbrev cX5_comesOfTrip : ByteArray := prog_1_method_39_code
def yX5_comesOfTrip : MethodName := ⟨RX5, "comesOfTrip", "(LTwocoin$Country;LTwocoin$Country;II)I"⟩
abbrev cX5_bestTrip : ByteArray := prog_1_method_40_code
def yX5_bestTrip : MethodName := ⟨RX5, "bestTrip", "(III)I"⟩
abbrev cX5_bestOver : ByteArray := prog_1_method_41_code
def yX5_bestOver : MethodName := ⟨RX5, "bestOver", "(LTwocoin$Country;II)I"⟩
abbrev cX5_rest : ByteArray := prog_1_method_42_code
def yX5_rest : MethodName := ⟨RX5, "rest", "(I)Z"⟩
abbrev cX5_isRest : ByteArray := prog_1_method_43_code
def yX5_isRest : MethodName := ⟨RX5, "isRest", "(I)Z"⟩
abbrev cX5_last : ByteArray := prog_1_method_44_code
def yX5_last : MethodName := ⟨RX5, "last", "(III)I"⟩
abbrev cX5_firstDayShort : ByteArray := prog_1_method_45_code
def yX5_firstDayShort : MethodName := ⟨RX5, "firstDayShort", "(LTwocoin$Metals;II)I"⟩
abbrev cX5_isSound : ByteArray := prog_1_method_46_code
def yX5_isSound : MethodName := ⟨RX5, "isSound", "()Z"⟩
abbrev cX5_isKept : ByteArray := prog_1_method_47_code
def yX5_isKept : MethodName := ⟨RX5, "isKept", "(I)Z"⟩
abbrev cX5_areCountriesSound : ByteArray := prog_1_method_48_code
def yX5_areCountriesSound : MethodName := ⟨RX5, "areCountriesSound", "()Z"⟩
abbrev cX5_areHousesSound : ByteArray := prog_1_method_49_code
def yX5_areHousesSound : MethodName := ⟨RX5, "areHousesSound", "()Z"⟩
abbrev cX5_areRoadsTheSame : ByteArray := prog_1_method_50_code
def yX5_areRoadsTheSame : MethodName := ⟨RX5, "areRoadsTheSame", "()Z"⟩
abbrev cX5_hasSameRoads : ByteArray := prog_1_method_51_code
def yX5_hasSameRoads : MethodName := ⟨RX5, "hasSameRoads", "(LTwocoin$Country;LTwocoin$Country;)Z"⟩
abbrev cX5_digest : ByteArray := prog_1_method_52_code
def yX5_digest : MethodName := ⟨RX5, "digest", "()J"⟩
abbrev cX5_digestWorld : ByteArray := prog_1_method_53_code
def yX5_digestWorld : MethodName := ⟨RX5, "digestWorld", "(JI)J"⟩
abbrev cX5_digestCountry : ByteArray := prog_1_method_54_code
def yX5_digestCountry : MethodName := ⟨RX5, "digestCountry", "(JLTwocoin$Country;)J"⟩
abbrev cX5_digestHouse : ByteArray := prog_1_method_55_code
def yX5_digestHouse : MethodName := ⟨RX5, "digestHouse", "(JLTwocoin$House;)J"⟩
abbrev cX5_digestDebt : ByteArray := prog_1_method_56_code
def yX5_digestDebt : MethodName := ⟨RX5, "digestDebt", "(JLTwocoin$Debt;)J"⟩
abbrev cX5_countryAt : ByteArray := prog_1_method_57_code
def yX5_countryAt : MethodName := ⟨RX5, "countryAt", "(I)LTwocoin$Country;"⟩
abbrev cX5_houseAt : ByteArray := prog_1_method_58_code
def yX5_houseAt : MethodName := ⟨RX5, "houseAt", "(I)LTwocoin$House;"⟩
abbrev cX5_debtAt : ByteArray := prog_1_method_59_code
def yX5_debtAt : MethodName := ⟨RX5, "debtAt", "(I)LTwocoin$Debt;"⟩
abbrev cX5_needRange : ByteArray := prog_1_method_60_code
def yX5_needRange : MethodName := ⟨RX5, "needRange", "(III)V"⟩
abbrev cX5_needMetal : ByteArray := prog_1_method_61_code
def yX5_needMetal : MethodName := ⟨RX5, "needMetal", "(I)V"⟩
abbrev cX5_needLaw : ByteArray := prog_1_method_62_code
def yX5_needLaw : MethodName := ⟨RX5, "needLaw", "(II)V"⟩
abbrev cX5_needDifferent : ByteArray := prog_1_method_63_code
def yX5_needDifferent : MethodName := ⟨RX5, "needDifferent", "(II)V"⟩
abbrev cX5_otherMetal : ByteArray := prog_1_method_64_code
def yX5_otherMetal : MethodName := ⟨RX5, "otherMetal", "(I)I"⟩
abbrev cX5_isWearDay : ByteArray := prog_1_method_65_code
def yX5_isWearDay : MethodName := ⟨RX5, "isWearDay", "(I)Z"⟩
abbrev cX5_worthOf : ByteArray := prog_1_method_66_code
def yX5_worthOf : MethodName := ⟨RX5, "worthOf", "(III)I"⟩
abbrev cX5_thousandthsRoundedUp : ByteArray := prog_1_method_67_code
def yX5_thousandthsRoundedUp : MethodName := ⟨RX5, "thousandthsRoundedUp", "(II)I"⟩
def RX6 : String := "TwocoinModel$Country"
def TX6 : u_T := fun k => match k with
  | _ => ("", "", "", false)
def tyX6 : Nat → FieldType := fun k => match k with
  | _ => .int
abbrev wsX60 : List Cond := u_ws RX6 TX6 0
theorem nmX6 : ∀ a, a < 0 → ∀ b, b < 0 → a ≠ b → (TX6 a).2.1 ≠ (TX6 b).2.1 := by decide +kernel
theorem tyX6_ok : ∀ k, k < 0 → parseFieldDescriptor (TX6 k).2.2.1 = some (tyX6 k) := by decide +kernel
def RX7 : String := "TwocoinModel$Debt"
def TX7 : u_T := fun k => match k with
  | _ => ("", "", "", false)
def tyX7 : Nat → FieldType := fun k => match k with
  | _ => .int
abbrev wsX70 : List Cond := u_ws RX7 TX7 0
theorem nmX7 : ∀ a, a < 0 → ∀ b, b < 0 → a ≠ b → (TX7 a).2.1 ≠ (TX7 b).2.1 := by decide +kernel
theorem tyX7_ok : ∀ k, k < 0 → parseFieldDescriptor (TX7 k).2.2.1 = some (tyX7 k) := by decide +kernel
def RX8 : String := "TwocoinModel$House"
def TX8 : u_T := fun k => match k with
  | _ => ("", "", "", false)
def tyX8 : Nat → FieldType := fun k => match k with
  | _ => .int
abbrev wsX80 : List Cond := u_ws RX8 TX8 0
theorem nmX8 : ∀ a, a < 0 → ∀ b, b < 0 → a ≠ b → (TX8 a).2.1 ≠ (TX8 b).2.1 := by decide +kernel
theorem tyX8_ok : ∀ k, k < 0 → parseFieldDescriptor (TX8 k).2.2.1 = some (tyX8 k) := by decide +kernel
def RX9 : String := "TwocoinModel"
def TX9 : u_T := fun k => match k with
  | _ => ("", "", "", false)
def tyX9 : Nat → FieldType := fun k => match k with
  | _ => .int
abbrev wsX90 : List Cond := u_ws RX9 TX9 0
theorem nmX9 : ∀ a, a < 0 → ∀ b, b < 0 → a ≠ b → (TX9 a).2.1 ≠ (TX9 b).2.1 := by decide +kernel
theorem tyX9_ok : ∀ k, k < 0 → parseFieldDescriptor (TX9 k).2.2.1 = some (tyX9 k) := by decide +kernel
def RJx145de : String := "java/io/Serializable"
def TJx145de : u_T := fun k => match k with
  | _ => ("", "", "", false)
def tyJx145de : Nat → FieldType := fun k => match k with
  | _ => .int
abbrev wsJx145de0 : List Cond := u_ws RJx145de TJx145de 0
theorem nmJx145de : ∀ a, a < 0 → ∀ b, b < 0 → a ≠ b → (TJx145de a).2.1 ≠ (TJx145de b).2.1 := by decide +kernel
theorem tyJx145de_ok : ∀ k, k < 0 → parseFieldDescriptor (TJx145de k).2.2.1 = some (tyJx145de k) := by decide +kernel
def RJ9 : String := "java/lang/Math"
def TJ9 : u_T := fun k => match k with
  | _ => ("", "", "", false)
def tyJ9 : Nat → FieldType := fun k => match k with
  | _ => .int
abbrev wsJ90 : List Cond := u_ws RJ9 TJ9 0
theorem nmJ9 : ∀ a, a < 0 → ∀ b, b < 0 → a ≠ b → (TJ9 a).2.1 ≠ (TJ9 b).2.1 := by decide +kernel
theorem tyJ9_ok : ∀ k, k < 0 → parseFieldDescriptor (TJ9 k).2.2.1 = some (tyJ9 k) := by decide +kernel
abbrev cJ9_min_7cf53 : ByteArray := prog_16_method_69_code
def yJ9_min_7cf53 : MethodName := ⟨RJ9, "min", "(II)I"⟩
def RJ0 : String := "java/lang/String"
def TJ0 : u_T := fun k => match k with
  | _ => ("", "", "", false)
def tyJ0 : Nat → FieldType := fun k => match k with
  | _ => .int
abbrev wsJ00 : List Cond := u_ws RJ0 TJ0 0
theorem nmJ0 : ∀ a, a < 0 → ∀ b, b < 0 → a ≠ b → (TJ0 a).2.1 ≠ (TJ0 b).2.1 := by decide +kernel
theorem tyJ0_ok : ∀ k, k < 0 → parseFieldDescriptor (TJ0 k).2.2.1 = some (tyJ0 k) := by decide +kernel
def RL : String := "TwocoinLaw"
abbrev cL_below : ByteArray := method_2_code
def yL_below : MethodName := ⟨RL, "below", "(II)I"⟩
abbrev cL_cell : ByteArray := method_3_code
def yL_cell : MethodName := ⟨RL, "cell", "([II)I"⟩
abbrev cL_law : ByteArray := code
def yL_law : MethodName := ⟨RL, "law", "([I)Z"⟩
abbrev vwCl : List vw_C := [(RX0, TX0, 9), (RX0, TX0, 9), (RX0, TX0, 9), (RX0, TX0, 9), (RX0, TX0, 9), (RX1, TX1, 5), (RX2, TX2, 5), (RX3, TX3, 2), (RX4, TX4, 1), (RX5, TX5, 12)]
