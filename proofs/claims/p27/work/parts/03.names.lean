def RX0 : String := "Twocoin$Country"
def TX0 : u_T := fun k => match k with
  | 0 => ("Twocoin$Country", "number", "I", true)
  | 1 => ("Twocoin$Country", "rate", "I", false)
  | 2 => ("Twocoin$Country", "cut", "I", false)
  | 3 => ("Twocoin$Country", "vault", "LTwocoin$Metals;", true)
  | 4 => ("Twocoin$Country", "isGoldOpen", "Z", false)
  | 5 => ("Twocoin$Country", "isSilverOpen", "Z", false)
  | 6 => ("Twocoin$Country", "roadDays", "[I", true)
  | 7 => ("Twocoin$Country", "roadFreights", "[I", true)
  | _ => ("Twocoin$Country", "till", "LTwocoin$Till;", true)
def tyX0 : Nat → FieldType := fun k => match k with
  | 0 => .int
  | 1 => .int
  | 2 => .int
  | 3 => .object "Twocoin$Metals"
  | 4 => .boolean
  | 5 => .boolean
  | 6 => .array .int
  | 7 => .array .int
  | _ => .object "Twocoin$Till"
abbrev wsX00 : List Cond := u_ws RX0 TX0 9
theorem nmX0 : ∀ a, a < 9 → ∀ b, b < 9 → a ≠ b → (TX0 a).2.1 ≠ (TX0 b).2.1 := by decide +kernel
theorem tyX0_ok : ∀ k, k < 9 → parseFieldDescriptor (TX0 k).2.2.1 = some (tyX0 k) := by decide +kernel
abbrev cX0_init : ByteArray := prog_2_method_1_code
def yX0_init : MethodName := ⟨RX0, "<init>", "(IIILTwocoin$Metals;)V"⟩
abbrev cX0_isOpenFor : ByteArray := prog_2_method_2_code
def yX0_isOpenFor : MethodName := ⟨RX0, "isOpenFor", "(I)Z"⟩
abbrev cX0_setOpenFor : ByteArray := prog_2_method_3_code
def yX0_setOpenFor : MethodName := ⟨RX0, "setOpenFor", "(IZ)V"⟩
abbrev cX0_openSet : ByteArray := prog_2_method_4_code
def yX0_openSet : MethodName := ⟨RX0, "openSet", "()I"⟩
abbrev cX0_minted : ByteArray := prog_2_method_5_code
def yX0_minted : MethodName := ⟨RX0, "minted", "(II)I"⟩
abbrev cX0_silverFor : ByteArray := prog_2_method_6_code
def yX0_silverFor : MethodName := ⟨RX0, "silverFor", "(I)I"⟩
abbrev cX0_goldOf : ByteArray := prog_2_method_7_code
def yX0_goldOf : MethodName := ⟨RX0, "goldOf", "(I)I"⟩
abbrev cX0_goldFor : ByteArray := prog_2_method_8_code
def yX0_goldFor : MethodName := ⟨RX0, "goldFor", "(I)I"⟩
abbrev cX0_daysTo : ByteArray := prog_2_method_9_code
def yX0_daysTo : MethodName := ⟨RX0, "daysTo", "(I)I"⟩
abbrev cX0_freightTo : ByteArray := prog_2_method_10_code
def yX0_freightTo : MethodName := ⟨RX0, "freightTo", "(I)I"⟩
abbrev cX0_setRoadTo : ByteArray := prog_2_method_11_code
def yX0_setRoadTo : MethodName := ⟨RX0, "setRoadTo", "(III)V"⟩
def RX1 : String := "Twocoin$Debt"
def TX1 : u_T := fun k => match k with
  | 0 => ("Twocoin$Debt", "debtor", "LTwocoin$House;", true)
  | 1 => ("Twocoin$Debt", "creditor", "LTwocoin$House;", true)
  | 2 => ("Twocoin$Debt", "value", "I", true)
  | 3 => ("Twocoin$Debt", "day", "I", true)
  | _ => ("Twocoin$Debt", "isPaid", "Z", false)
def tyX1 : Nat → FieldType := fun k => match k with
  | 0 => .object "Twocoin$House"
  | 1 => .object "Twocoin$House"
  | 2 => .int
  | 3 => .int
  | _ => .boolean
abbrev wsX10 : List Cond := u_ws RX1 TX1 5
theorem nmX1 : ∀ a, a < 5 → ∀ b, b < 5 → a ≠ b → (TX1 a).2.1 ≠ (TX1 b).2.1 := by decide +kernel
theorem tyX1_ok : ∀ k, k < 5 → parseFieldDescriptor (TX1 k).2.2.1 = some (tyX1 k) := by decide +kernel
abbrev cX1_init : ByteArray := prog_3_method_1_code
def yX1_init : MethodName := ⟨RX1, "<init>", "(LTwocoin$House;LTwocoin$House;II)V"⟩
abbrev cX1_dueOn : ByteArray := prog_3_method_2_code
def yX1_dueOn : MethodName := ⟨RX1, "dueOn", "(I)I"⟩
def RX2 : String := "Twocoin$House"
def TX2 : u_T := fun k => match k with
  | 0 => ("Twocoin$House", "number", "I", true)
  | 1 => ("Twocoin$House", "purse", "LTwocoin$Metals;", true)
  | 2 => ("Twocoin$House", "place", "LTwocoin$Country;", false)
  | 3 => ("Twocoin$House", "goal", "LTwocoin$Country;", false)
  | _ => ("Twocoin$House", "arrival", "I", false)
def tyX2 : Nat → FieldType := fun k => match k with
  | 0 => .int
  | 1 => .object "Twocoin$Metals"
  | 2 => .object "Twocoin$Country"
  | 3 => .object "Twocoin$Country"
  | _ => .int
abbrev wsX20 : List Cond := u_ws RX2 TX2 5
theorem nmX2 : ∀ a, a < 5 → ∀ b, b < 5 → a ≠ b → (TX2 a).2.1 ≠ (TX2 b).2.1 := by decide +kernel
theorem tyX2_ok : ∀ k, k < 5 → parseFieldDescriptor (TX2 k).2.2.1 = some (tyX2 k) := by decide +kernel
abbrev cX2_init : ByteArray := prog_4_method_1_code
def yX2_init : MethodName := ⟨RX2, "<init>", "(ILTwocoin$Country;LTwocoin$Metals;)V"⟩
abbrev cX2_leaveFor : ByteArray := prog_4_method_2_code
def yX2_leaveFor : MethodName := ⟨RX2, "leaveFor", "(LTwocoin$Country;I)V"⟩
abbrev cX2_arriveBy : ByteArray := prog_4_method_3_code
def yX2_arriveBy : MethodName := ⟨RX2, "arriveBy", "(I)V"⟩
abbrev cX2_isLateOn : ByteArray := prog_4_method_4_code
def yX2_isLateOn : MethodName := ⟨RX2, "isLateOn", "(I)Z"⟩
def RX3 : String := "Twocoin$Metals"
def TX3 : u_T := fun k => match k with
  | 0 => ("Twocoin$Metals", "gold", "I", false)
  | _ => ("Twocoin$Metals", "silver", "I", false)
def tyX3 : Nat → FieldType := fun k => match k with
  | 0 => .int
  | _ => .int
abbrev wsX30 : List Cond := u_ws RX3 TX3 2
theorem nmX3 : ∀ a, a < 2 → ∀ b, b < 2 → a ≠ b → (TX3 a).2.1 ≠ (TX3 b).2.1 := by decide +kernel
theorem tyX3_ok : ∀ k, k < 2 → parseFieldDescriptor (TX3 k).2.2.1 = some (tyX3 k) := by decide +kernel
abbrev cX3_init : ByteArray := prog_5_method_1_code
def yX3_init : MethodName := ⟨RX3, "<init>", "(II)V"⟩
abbrev cX3_of : ByteArray := prog_5_method_2_code
def yX3_of : MethodName := ⟨RX3, "of", "(I)I"⟩
abbrev cX3_add : ByteArray := prog_5_method_3_code
def yX3_add : MethodName := ⟨RX3, "add", "(II)V"⟩
abbrev cX3_worth : ByteArray := prog_5_method_4_code
def yX3_worth : MethodName := ⟨RX3, "worth", "(I)I"⟩
abbrev cX3_isBelowZero : ByteArray := prog_5_method_5_code
def yX3_isBelowZero : MethodName := ⟨RX3, "isBelowZero", "()Z"⟩
def RX4 : String := "Twocoin$Till"
def TX4 : u_T := fun k => match k with
  | _ => ("Twocoin$Till", "many", "[I", true)
def tyX4 : Nat → FieldType := fun k => match k with
  | _ => .array .int
abbrev wsX40 : List Cond := u_ws RX4 TX4 1
theorem nmX4 : ∀ a, a < 1 → ∀ b, b < 1 → a ≠ b → (TX4 a).2.1 ≠ (TX4 b).2.1 := by decide +kernel
theorem tyX4_ok : ∀ k, k < 1 → parseFieldDescriptor (TX4 k).2.2.1 = some (tyX4 k) := by decide +kernel
abbrev cX4_init : ByteArray := prog_6_method_1_code
def yX4_init : MethodName := ⟨RX4, "<init>", "()V"⟩
abbrev cX4_manyOf : ByteArray := prog_6_method_2_code
def yX4_manyOf : MethodName := ⟨RX4, "manyOf", "(I)I"⟩
abbrev cX4_setMany : ByteArray := prog_6_method_3_code
def yX4_setMany : MethodName := ⟨RX4, "setMany", "(II)V"⟩
abbrev cX4_pounds : ByteArray := prog_6_method_4_code
def yX4_pounds : MethodName := ⟨RX4, "pounds", "()I"⟩
abbrev cX4_fewestFor : ByteArray := prog_6_method_5_code
def yX4_fewestFor : MethodName := ⟨RX4, "fewestFor", "(I)I"⟩
abbrev cX4_takeOut : ByteArray := prog_6_method_6_code
def yX4_takeOut : MethodName := ⟨RX4, "takeOut", "(I)I"⟩
abbrev cX4_isBelowZero : ByteArray := prog_6_method_7_code
def yX4_isBelowZero : MethodName := ⟨RX4, "isBelowZero", "()Z"⟩
def RX5 : String := "Twocoin"
def TX5 : u_T := fun k => match k with
  | 0 => ("Twocoin", "today", "I", false)
  | 1 => ("Twocoin", "market", "I", false)
  | 2 => ("Twocoin", "countries", "[LTwocoin$Country;", true)
  | 3 => ("Twocoin", "countryCount", "I", false)
  | 4 => ("Twocoin", "houses", "[LTwocoin$House;", true)
  | 5 => ("Twocoin", "houseCount", "I", false)
  | 6 => ("Twocoin", "debts", "[LTwocoin$Debt;", true)
  | 7 => ("Twocoin", "debtCount", "I", false)
  | 8 => ("Twocoin", "carried", "LTwocoin$Metals;", true)
  | 9 => ("Twocoin", "used", "LTwocoin$Metals;", true)
  | 10 => ("Twocoin", "worn", "LTwocoin$Metals;", true)
  | _ => ("Twocoin", "came", "LTwocoin$Metals;", true)
def tyX5 : Nat → FieldType := fun k => match k with
  | 0 => .int
  | 1 => .int
  | 2 => .array (.object "Twocoin$Country")
  | 3 => .int
  | 4 => .array (.object "Twocoin$House")
  | 5 => .int
  | 6 => .array (.object "Twocoin$Debt")
  | 7 => .int
  | 8 => .object "Twocoin$Metals"
  | 9 => .object "Twocoin$Metals"
  | 10 => .object "Twocoin$Metals"
  | _ => .object "Twocoin$Metals"
abbrev wsX50 : List Cond := u_ws RX5 TX5 12
theorem nmX5 : ∀ a, a < 12 → ∀ b, b < 12 → a ≠ b → (TX5 a).2.1 ≠ (TX5 b).2.1 := by decide +kernel
theorem tyX5_ok : ∀ k, k < 12 → parseFieldDescriptor (TX5 k).2.2.1 = some (tyX5 k) := by decide +kernel
abbrev cX5_init : ByteArray := prog_1_method_1_code
def yX5_init : MethodName := ⟨RX5, "<init>", "()V"⟩
abbrev cX5_country : ByteArray := prog_1_method_2_code
def yX5_country : MethodName := ⟨RX5, "country", "(IIII)I"⟩
abbrev cX5_law : ByteArray := prog_1_method_3_code
def yX5_law : MethodName := ⟨RX5, "law", "(III)I"⟩
abbrev cX5_gate : ByteArray := prog_1_method_4_code
def yX5_gate : MethodName := ⟨RX5, "gate", "(IIZ)Z"⟩
abbrev cX5_market : ByteArray := prog_1_method_5_code
def yX5_market : MethodName := ⟨RX5, "market", "(I)I"⟩
abbrev cX5_road : ByteArray := prog_1_method_6_code
def yX5_road : MethodName := ⟨RX5, "road", "(IIII)I"⟩
abbrev cX5_mine : ByteArray := prog_1_method_7_code
def yX5_mine : MethodName := ⟨RX5, "mine", "(III)I"⟩
abbrev cX5_use : ByteArray := prog_1_method_8_code
def yX5_use : MethodName := ⟨RX5, "use", "(III)I"⟩
abbrev cX5_house : ByteArray := prog_1_method_9_code
def yX5_house : MethodName := ⟨RX5, "house", "(III)I"⟩
abbrev cX5_change : ByteArray := prog_1_method_10_code
def yX5_change : MethodName := ⟨RX5, "change", "(III)I"⟩
abbrev cX5_send : ByteArray := prog_1_method_11_code
def yX5_send : MethodName := ⟨RX5, "send", "(II)I"⟩
abbrev cX5_payFreight : ByteArray := prog_1_method_12_code
def yX5_payFreight : MethodName := ⟨RX5, "payFreight", "(LTwocoin$Metals;II)V"⟩
abbrev cX5_pass : ByteArray := prog_1_method_13_code
def yX5_pass : MethodName := ⟨RX5, "pass", "(I)I"⟩
abbrev cX5_beginDay : ByteArray := prog_1_method_14_code
def yX5_beginDay : MethodName := ⟨RX5, "beginDay", "()V"⟩
abbrev cX5_wearVaults : ByteArray := prog_1_method_15_code
def yX5_wearVaults : MethodName := ⟨RX5, "wearVaults", "()V"⟩
abbrev cX5_owe : ByteArray := prog_1_method_16_code
def yX5_owe : MethodName := ⟨RX5, "owe", "(IIII)I"⟩
abbrev cX5_settle : ByteArray := prog_1_method_17_code
def yX5_settle : MethodName := ⟨RX5, "settle", "(II)I"⟩
abbrev cX5_till : ByteArray := prog_1_method_18_code
def yX5_till : MethodName := ⟨RX5, "till", "(III)I"⟩
abbrev cX5_give : ByteArray := prog_1_method_19_code
def yX5_give : MethodName := ⟨RX5, "give", "(II)I"⟩
abbrev cX5_coins : ByteArray := prog_1_method_20_code
def yX5_coins : MethodName := ⟨RX5, "coins", "(II)I"⟩
abbrev cX5_ofCountry : ByteArray := prog_1_method_21_code
def yX5_ofCountry : MethodName := ⟨RX5, "ofCountry", "(II)I"⟩
abbrev cX5_countryFact : ByteArray := prog_1_method_22_code
def yX5_countryFact : MethodName := ⟨RX5, "countryFact", "(LTwocoin$Country;I)I"⟩
abbrev cX5_housesIn : ByteArray := prog_1_method_23_code
def yX5_housesIn : MethodName := ⟨RX5, "housesIn", "(LTwocoin$Country;)I"⟩
abbrev cX5_countriesWithRate : ByteArray := prog_1_method_24_code
def yX5_countriesWithRate : MethodName := ⟨RX5, "countriesWithRate", "(I)I"⟩
abbrev cX5_ofHouse : ByteArray := prog_1_method_25_code
def yX5_ofHouse : MethodName := ⟨RX5, "ofHouse", "(II)I"⟩
abbrev cX5_houseFact : ByteArray := prog_1_method_26_code
def yX5_houseFact : MethodName := ⟨RX5, "houseFact", "(LTwocoin$House;I)I"⟩
abbrev cX5_numberOf : ByteArray := prog_1_method_27_code
def yX5_numberOf : MethodName := ⟨RX5, "numberOf", "(LTwocoin$Country;)I"⟩
abbrev cX5_unpaidDebtsOf : ByteArray := prog_1_method_28_code
def yX5_unpaidDebtsOf : MethodName := ⟨RX5, "unpaidDebtsOf", "(LTwocoin$House;)I"⟩
abbrev cX5_unpaidDebtsTo : ByteArray := prog_1_method_29_code
def yX5_unpaidDebtsTo : MethodName := ⟨RX5, "unpaidDebtsTo", "(LTwocoin$House;)I"⟩
abbrev cX5_ofDebt : ByteArray := prog_1_method_30_code
def yX5_ofDebt : MethodName := ⟨RX5, "ofDebt", "(II)I"⟩
abbrev cX5_debtFact : ByteArray := prog_1_method_31_code
def yX5_debtFact : MethodName := ⟨RX5, "debtFact", "(LTwocoin$Debt;I)I"⟩
abbrev cX5_cheaperMetal : ByteArray := prog_1_method_32_code
def yX5_cheaperMetal : MethodName := ⟨RX5, "cheaperMetal", "(LTwocoin$Debt;)I"⟩
abbrev cX5_world : ByteArray := prog_1_method_33_code
def yX5_world : MethodName := ⟨RX5, "world", "(II)I"⟩
abbrev cX5_worldFact : ByteArray := prog_1_method_34_code
def yX5_worldFact : MethodName := ⟨RX5, "worldFact", "(II)I"⟩
abbrev cX5_inVaults : ByteArray := prog_1_method_35_code
def yX5_inVaults : MethodName := ⟨RX5, "inVaults", "(I)I"⟩
abbrev cX5_inPurses : ByteArray := prog_1_method_36_code
def yX5_inPurses : MethodName := ⟨RX5, "inPurses", "(I)I"⟩
abbrev cX5_sign : ByteArray := prog_1_method_37_code
def yX5_sign : MethodName := ⟨RX5, "sign", "(I)Ljava/lang/String;"⟩
abbrev cX5_trip : ByteArray := prog_1_method_38_code
def yX5_trip : MethodName := ⟨RX5, "trip", "(IIII)I"⟩
abbrev cX5_comesOfTrip : ByteArray := prog_1_method_39_code
def yX5_comesOfTrip : MethodName := ⟨RX5, "comesOfTrip", "(LTwocoin$Country;LTwocoin$Country;II)I"⟩
abbrev cX5_bestTrip : ByteArray := prog_1_method_40_code
def yX5_bestTrip : MethodName := ⟨RX5, "bestTrip", "(III)I"⟩
abbrev cX5_bestOver : ByteArray := prog_1_method_41_code
def yX5_bestOver : MethodName := ⟨RX5, "bestOver", "(LTwocoin$Country;II)I"⟩
abbrev cX5_rest : ByteArray := prog_1_method_42_code
def yX5_rest : MethodName := ⟨RX5, "rest", "(I)Z"⟩
abbrev cX5_isRest : ByteArray := prog_1_method_43_code
def yX5_isRest : MethodName := ⟨RX5, "isRest", "(I)Z"⟩
abbrev cX5_last : ByteArray := prog_1_method_44_code
def yX5_last : MethodName := ⟨RX5, "last", "(III)I"⟩
abbrev cX5_firstDayShort : ByteArray := prog_1_method_45_code
def yX5_firstDayShort : MethodName := ⟨RX5, "firstDayShort", "(LTwocoin$Metals;II)I"⟩
abbrev cX5_isSound : ByteArray := prog_1_method_46_code
def yX5_isSound : MethodName := ⟨RX5, "isSound", "()Z"⟩
abbrev cX5_isKept : ByteArray := prog_1_method_47_code
def yX5_isKept : MethodName := ⟨RX5, "isKept", "(I)Z"⟩
abbrev cX5_areCountriesSound : ByteArray := prog_1_method_48_code
def yX5_areCountriesSound : MethodName := ⟨RX5, "areCountriesSound", "()Z"⟩
abbrev cX5_areHousesSound : ByteArray := prog_1_method_49_code
def yX5_areHousesSound : MethodName := ⟨RX5, "areHousesSound", "()Z"⟩
abbrev cX5_areRoadsTheSame : ByteArray := prog_1_method_50_code
def yX5_areRoadsTheSame : MethodName := ⟨RX5, "areRoadsTheSame", "()Z"⟩
abbrev cX5_hasSameRoads : ByteArray := prog_1_method_51_code
def yX5_hasSameRoads : MethodName := ⟨RX5, "hasSameRoads", "(LTwocoin$Country;LTwocoin$Country;)Z"⟩
abbrev cX5_digest : ByteArray := prog_1_method_52_code
def yX5_digest : MethodName := ⟨RX5, "digest", "()J"⟩
abbrev cX5_digestWorld : ByteArray := prog_1_method_53_code
def yX5_digestWorld : MethodName := ⟨RX5, "digestWorld", "(JI)J"⟩
abbrev cX5_digestCountry : ByteArray := prog_1_method_54_code
def yX5_digestCountry : MethodName := ⟨RX5, "digestCountry", "(JLTwocoin$Country;)J"⟩
abbrev cX5_digestHouse : ByteArray := prog_1_method_55_code
def yX5_digestHouse : MethodName := ⟨RX5, "digestHouse", "(JLTwocoin$House;)J"⟩
abbrev cX5_digestDebt : ByteArray := prog_1_method_56_code
def yX5_digestDebt : MethodName := ⟨RX5, "digestDebt", "(JLTwocoin$Debt;)J"⟩
abbrev cX5_countryAt : ByteArray := prog_1_method_57_code
def yX5_countryAt : MethodName := ⟨RX5, "countryAt", "(I)LTwocoin$Country;"⟩
abbrev cX5_houseAt : ByteArray := prog_1_method_58_code
def yX5_houseAt : MethodName := ⟨RX5, "houseAt", "(I)LTwocoin$House;"⟩
abbrev cX5_debtAt : ByteArray := prog_1_method_59_code
def yX5_debtAt : MethodName := ⟨RX5, "debtAt", "(I)LTwocoin$Debt;"⟩
abbrev cX5_needRange : ByteArray := prog_1_method_60_code
def yX5_needRange : MethodName := ⟨RX5, "needRange", "(III)V"⟩
abbrev cX5_needMetal : ByteArray := prog_1_method_61_code
def yX5_needMetal : MethodName := ⟨RX5, "needMetal", "(I)V"⟩
abbrev cX5_needLaw : ByteArray := prog_1_method_62_code
def yX5_needLaw : MethodName := ⟨RX5, "needLaw", "(II)V"⟩
abbrev cX5_needDifferent : ByteArray := prog_1_method_63_code
def yX5_needDifferent : MethodName := ⟨RX5, "needDifferent", "(II)V"⟩
abbrev cX5_otherMetal : ByteArray := prog_1_method_64_code
def yX5_otherMetal : MethodName := ⟨RX5, "otherMetal", "(I)I"⟩
abbrev cX5_isWearDay : ByteArray := prog_1_method_65_code
def yX5_isWearDay : MethodName := ⟨RX5, "isWearDay", "(I)Z"⟩
abbrev cX5_worthOf : ByteArray := prog_1_method_66_code
def yX5_worthOf : MethodName := ⟨RX5, "worthOf", "(III)I"⟩
abbrev cX5_thousandthsRoundedUp : ByteArray := prog_1_method_67_code
def yX5_thousandthsRoundedUp : MethodName := ⟨RX5, "thousandthsRoundedUp", "(II)I"⟩
def RX6 : String := "TwocoinLaw$Out"
def TX6 : u_T := fun k => match k with
  | 0 => ("TwocoinLaw$Out", "n", "J", false)
  | _ => ("TwocoinLaw$Out", "s", "Ljava/lang/String;", false)
def tyX6 : Nat → FieldType := fun k => match k with
  | 0 => .long
  | _ => .object "java/lang/String"
abbrev wsX60 : List Cond := u_ws RX6 TX6 2
theorem nmX6 : ∀ a, a < 2 → ∀ b, b < 2 → a ≠ b → (TX6 a).2.1 ≠ (TX6 b).2.1 := by decide +kernel
theorem tyX6_ok : ∀ k, k < 2 → parseFieldDescriptor (TX6 k).2.2.1 = some (tyX6 k) := by decide +kernel
abbrev cX6_init : ByteArray := prog_8_method_1_code
def yX6_init : MethodName := ⟨RX6, "<init>", "()V"⟩
def RX7 : String := "TwocoinModel$Country"
def TX7 : u_T := fun k => match k with
  | 0 => ("TwocoinModel$Country", "rate", "I", false)
  | 1 => ("TwocoinModel$Country", "cut", "I", false)
  | 2 => ("TwocoinModel$Country", "vault", "[J", false)
  | 3 => ("TwocoinModel$Country", "isOpen", "[Z", false)
  | _ => ("TwocoinModel$Country", "till", "[I", false)
def tyX7 : Nat → FieldType := fun k => match k with
  | 0 => .int
  | 1 => .int
  | 2 => .array .long
  | 3 => .array .boolean
  | _ => .array .int
abbrev wsX70 : List Cond := u_ws RX7 TX7 5
theorem nmX7 : ∀ a, a < 5 → ∀ b, b < 5 → a ≠ b → (TX7 a).2.1 ≠ (TX7 b).2.1 := by decide +kernel
theorem tyX7_ok : ∀ k, k < 5 → parseFieldDescriptor (TX7 k).2.2.1 = some (tyX7 k) := by decide +kernel
abbrev cX7_init : ByteArray := prog_10_method_1_code
def yX7_init : MethodName := ⟨RX7, "<init>", "()V"⟩
def RX8 : String := "TwocoinModel$Debt"
def TX8 : u_T := fun k => match k with
  | 0 => ("TwocoinModel$Debt", "from", "I", false)
  | 1 => ("TwocoinModel$Debt", "to", "I", false)
  | 2 => ("TwocoinModel$Debt", "value", "I", false)
  | 3 => ("TwocoinModel$Debt", "day", "I", false)
  | _ => ("TwocoinModel$Debt", "isPaid", "Z", false)
def tyX8 : Nat → FieldType := fun k => match k with
  | 0 => .int
  | 1 => .int
  | 2 => .int
  | 3 => .int
  | _ => .boolean
abbrev wsX80 : List Cond := u_ws RX8 TX8 5
theorem nmX8 : ∀ a, a < 5 → ∀ b, b < 5 → a ≠ b → (TX8 a).2.1 ≠ (TX8 b).2.1 := by decide +kernel
theorem tyX8_ok : ∀ k, k < 5 → parseFieldDescriptor (TX8 k).2.2.1 = some (tyX8 k) := by decide +kernel
abbrev cX8_init : ByteArray := prog_11_method_1_code
def yX8_init : MethodName := ⟨RX8, "<init>", "()V"⟩
def RX9 : String := "TwocoinModel$House"
def TX9 : u_T := fun k => match k with
  | 0 => ("TwocoinModel$House", "at", "I", false)
  | 1 => ("TwocoinModel$House", "to", "I", false)
  | 2 => ("TwocoinModel$House", "day", "I", false)
  | _ => ("TwocoinModel$House", "purse", "[J", false)
def tyX9 : Nat → FieldType := fun k => match k with
  | 0 => .int
  | 1 => .int
  | 2 => .int
  | _ => .array .long
abbrev wsX90 : List Cond := u_ws RX9 TX9 4
theorem nmX9 : ∀ a, a < 4 → ∀ b, b < 4 → a ≠ b → (TX9 a).2.1 ≠ (TX9 b).2.1 := by decide +kernel
theorem tyX9_ok : ∀ k, k < 4 → parseFieldDescriptor (TX9 k).2.2.1 = some (tyX9 k) := by decide +kernel
abbrev cX9_init : ByteArray := prog_12_method_1_code
def yX9_init : MethodName := ⟨RX9, "<init>", "()V"⟩
def RX10 : String := "TwocoinModel"
def TX10 : u_T := fun k => match k with
  | 0 => ("TwocoinModel", "thrown", "I", false)
  | 1 => ("TwocoinModel", "today", "I", false)
  | 2 => ("TwocoinModel", "market", "I", false)
  | 3 => ("TwocoinModel", "days", "[[I", true)
  | 4 => ("TwocoinModel", "freights", "[[I", true)
  | 5 => ("TwocoinModel", "carried", "[J", true)
  | 6 => ("TwocoinModel", "used", "[J", true)
  | 7 => ("TwocoinModel", "worn", "[J", true)
  | 8 => ("TwocoinModel", "came", "[J", true)
  | 9 => ("TwocoinModel", "countries", "Ljava/util/ArrayList;", true)
  | 10 => ("TwocoinModel", "houses", "Ljava/util/ArrayList;", true)
  | _ => ("TwocoinModel", "debts", "Ljava/util/ArrayList;", true)
def tyX10 : Nat → FieldType := fun k => match k with
  | 0 => .int
  | 1 => .int
  | 2 => .int
  | 3 => .array (.array .int)
  | 4 => .array (.array .int)
  | 5 => .array .long
  | 6 => .array .long
  | 7 => .array .long
  | 8 => .array .long
  | 9 => .object "java/util/ArrayList"
  | 10 => .object "java/util/ArrayList"
  | _ => .object "java/util/ArrayList"
abbrev wsX100 : List Cond := u_ws RX10 TX10 12
theorem nmX10 : ∀ a, a < 12 → ∀ b, b < 12 → a ≠ b → (TX10 a).2.1 ≠ (TX10 b).2.1 := by decide +kernel
theorem tyX10_ok : ∀ k, k < 12 → parseFieldDescriptor (TX10 k).2.2.1 = some (tyX10 k) := by decide +kernel
abbrev cX10_init : ByteArray := prog_9_method_1_code
def yX10_init : MethodName := ⟨RX10, "<init>", "()V"⟩
abbrev cX10_isIn : ByteArray := prog_9_method_3_code
def yX10_isIn : MethodName := ⟨RX10, "isIn", "(III)Z"⟩
abbrev cX10_refuse : ByteArray := prog_9_method_4_code
def yX10_refuse : MethodName := ⟨RX10, "refuse", "(ZI)Z"⟩
abbrev cX10_start : ByteArray := prog_9_method_5_code
def yX10_start : MethodName := ⟨RX10, "start", "(ZI)Z"⟩
abbrev cX10_isNoCountry : ByteArray := prog_9_method_6_code
def yX10_isNoCountry : MethodName := ⟨RX10, "isNoCountry", "(I)Z"⟩
abbrev cX10_isNoHouse : ByteArray := prog_9_method_7_code
def yX10_isNoHouse : MethodName := ⟨RX10, "isNoHouse", "(I)Z"⟩
abbrev cX10_isNoMetal : ByteArray := prog_9_method_8_code
def yX10_isNoMetal : MethodName := ⟨RX10, "isNoMetal", "(I)Z"⟩
abbrev cX10_up : ByteArray := prog_9_method_9_code
def yX10_up : MethodName := ⟨RX10, "up", "(JJ)J"⟩
abbrev cX10_given : ByteArray := prog_9_method_10_code
def yX10_given : MethodName := ⟨RX10, "given", "(LTwocoinModel$Country;IJ)J"⟩
abbrev cX10_worth : ByteArray := prog_9_method_11_code
def yX10_worth : MethodName := ⟨RX10, "worth", "([J)J"⟩
abbrev cX10_country : ByteArray := prog_9_method_12_code
def yX10_country : MethodName := ⟨RX10, "country", "(IIII)I"⟩
abbrev cX10_law : ByteArray := prog_9_method_13_code
def yX10_law : MethodName := ⟨RX10, "law", "(III)I"⟩
abbrev cX10_gate : ByteArray := prog_9_method_14_code
def yX10_gate : MethodName := ⟨RX10, "gate", "(IIZ)Z"⟩
abbrev cX10_market : ByteArray := prog_9_method_15_code
def yX10_market : MethodName := ⟨RX10, "market", "(I)I"⟩
abbrev cX10_road : ByteArray := prog_9_method_16_code
def yX10_road : MethodName := ⟨RX10, "road", "(IIII)I"⟩
abbrev cX10_mine : ByteArray := prog_9_method_17_code
def yX10_mine : MethodName := ⟨RX10, "mine", "(III)I"⟩
abbrev cX10_use : ByteArray := prog_9_method_18_code
def yX10_use : MethodName := ⟨RX10, "use", "(III)I"⟩
abbrev cX10_house : ByteArray := prog_9_method_19_code
def yX10_house : MethodName := ⟨RX10, "house", "(III)I"⟩
abbrev cX10_isNoChange : ByteArray := prog_9_method_20_code
def yX10_isNoChange : MethodName := ⟨RX10, "isNoChange", "(LTwocoinModel$House;II)Z"⟩
abbrev cX10_change : ByteArray := prog_9_method_21_code
def yX10_change : MethodName := ⟨RX10, "change", "(III)I"⟩
abbrev cX10_send : ByteArray := prog_9_method_22_code
def yX10_send : MethodName := ⟨RX10, "send", "(II)I"⟩
abbrev cX10_pass : ByteArray := prog_9_method_23_code
def yX10_pass : MethodName := ⟨RX10, "pass", "(I)I"⟩
abbrev cX10_owe : ByteArray := prog_9_method_24_code
def yX10_owe : MethodName := ⟨RX10, "owe", "(IIII)I"⟩
abbrev cX10_due : ByteArray := prog_9_method_25_code
def yX10_due : MethodName := ⟨RX10, "due", "(LTwocoinModel$Debt;)I"⟩
abbrev cX10_toPay : ByteArray := prog_9_method_26_code
def yX10_toPay : MethodName := ⟨RX10, "toPay", "(LTwocoinModel$Debt;I)J"⟩
abbrev cX10_isNoPay : ByteArray := prog_9_method_27_code
def yX10_isNoPay : MethodName := ⟨RX10, "isNoPay", "(LTwocoinModel$Debt;I)Z"⟩
abbrev cX10_settle : ByteArray := prog_9_method_28_code
def yX10_settle : MethodName := ⟨RX10, "settle", "(II)I"⟩
abbrev cX10_till : ByteArray := prog_9_method_29_code
def yX10_till : MethodName := ⟨RX10, "till", "(III)I"⟩
abbrev cX10_best : ByteArray := prog_9_method_30_code
def yX10_best : MethodName := ⟨RX10, "best", "([III)[I"⟩
abbrev cX10_all : ByteArray := prog_9_method_31_code
def yX10_all : MethodName := ⟨RX10, "all", "([I)I"⟩
abbrev cX10_give : ByteArray := prog_9_method_32_code
def yX10_give : MethodName := ⟨RX10, "give", "(II)I"⟩
abbrev cX10_coinsNow : ByteArray := prog_9_method_33_code
def yX10_coinsNow : MethodName := ⟨RX10, "coinsNow", "(II)I"⟩
abbrev cX10_coins : ByteArray := prog_9_method_34_code
def yX10_coins : MethodName := ⟨RX10, "coins", "(II)I"⟩
abbrev cX10_ofCountryNow : ByteArray := prog_9_method_35_code
def yX10_ofCountryNow : MethodName := ⟨RX10, "ofCountryNow", "(II)I"⟩
abbrev cX10_ofCountry : ByteArray := prog_9_method_36_code
def yX10_ofCountry : MethodName := ⟨RX10, "ofCountry", "(II)I"⟩
abbrev cX10_ofHouseNow : ByteArray := prog_9_method_37_code
def yX10_ofHouseNow : MethodName := ⟨RX10, "ofHouseNow", "(II)I"⟩
abbrev cX10_ofHouse : ByteArray := prog_9_method_38_code
def yX10_ofHouse : MethodName := ⟨RX10, "ofHouse", "(II)I"⟩
abbrev cX10_cheaper : ByteArray := prog_9_method_39_code
def yX10_cheaper : MethodName := ⟨RX10, "cheaper", "(LTwocoinModel$Debt;)I"⟩
abbrev cX10_ofDebtNow : ByteArray := prog_9_method_40_code
def yX10_ofDebtNow : MethodName := ⟨RX10, "ofDebtNow", "(LTwocoinModel$Debt;I)I"⟩
abbrev cX10_ofDebt : ByteArray := prog_9_method_41_code
def yX10_ofDebt : MethodName := ⟨RX10, "ofDebt", "(II)I"⟩
abbrev cX10_worldNow : ByteArray := prog_9_method_42_code
def yX10_worldNow : MethodName := ⟨RX10, "worldNow", "(II)I"⟩
abbrev cX10_world : ByteArray := prog_9_method_43_code
def yX10_world : MethodName := ⟨RX10, "world", "(II)I"⟩
abbrev cX10_sign : ByteArray := prog_9_method_44_code
def yX10_sign : MethodName := ⟨RX10, "sign", "(I)Ljava/lang/String;"⟩
abbrev cX10_tripNow : ByteArray := prog_9_method_45_code
def yX10_tripNow : MethodName := ⟨RX10, "tripNow", "(IIIJ)J"⟩
abbrev cX10_trip : ByteArray := prog_9_method_46_code
def yX10_trip : MethodName := ⟨RX10, "trip", "(IIII)I"⟩
abbrev cX10_bestTripNow : ByteArray := prog_9_method_47_code
def yX10_bestTripNow : MethodName := ⟨RX10, "bestTripNow", "(III)I"⟩
abbrev cX10_bestTrip : ByteArray := prog_9_method_48_code
def yX10_bestTrip : MethodName := ⟨RX10, "bestTrip", "(III)I"⟩
abbrev cX10_restNow : ByteArray := prog_9_method_49_code
def yX10_restNow : MethodName := ⟨RX10, "restNow", "(I)Z"⟩
abbrev cX10_rest : ByteArray := prog_9_method_50_code
def yX10_rest : MethodName := ⟨RX10, "rest", "(I)Z"⟩
abbrev cX10_lastNow : ByteArray := prog_9_method_51_code
def yX10_lastNow : MethodName := ⟨RX10, "lastNow", "(III)I"⟩
abbrev cX10_last : ByteArray := prog_9_method_52_code
def yX10_last : MethodName := ⟨RX10, "last", "(III)I"⟩
abbrev cX10_isSoundNow : ByteArray := prog_9_method_53_code
def yX10_isSoundNow : MethodName := ⟨RX10, "isSoundNow", "()Z"⟩
abbrev cX10_isSound : ByteArray := prog_9_method_54_code
def yX10_isSound : MethodName := ⟨RX10, "isSound", "()Z"⟩
abbrev cX10_digest : ByteArray := prog_9_method_55_code
def yX10_digest : MethodName := ⟨RX10, "digest", "()J"⟩
def RJx145de : String := "java/io/Serializable"
def TJx145de : u_T := fun k => match k with
  | _ => ("", "", "", false)
def tyJx145de : Nat → FieldType := fun k => match k with
  | _ => .int
abbrev wsJx145de0 : List Cond := u_ws RJx145de TJx145de 0
theorem nmJx145de : ∀ a, a < 0 → ∀ b, b < 0 → a ≠ b → (TJx145de a).2.1 ≠ (TJx145de b).2.1 := by decide +kernel
theorem tyJx145de_ok : ∀ k, k < 0 → parseFieldDescriptor (TJx145de k).2.2.1 = some (tyJx145de k) := by decide +kernel
def RJ5 : String := "java/lang/AbstractStringBuilder"
def TJ5 : u_T := fun k => match k with
  | _ => ("", "", "", false)
def tyJ5 : Nat → FieldType := fun k => match k with
  | _ => .int
abbrev wsJ50 : List Cond := u_ws RJ5 TJ5 0
theorem nmJ5 : ∀ a, a < 0 → ∀ b, b < 0 → a ≠ b → (TJ5 a).2.1 ≠ (TJ5 b).2.1 := by decide +kernel
theorem tyJ5_ok : ∀ k, k < 0 → parseFieldDescriptor (TJ5 k).2.2.1 = some (tyJ5 k) := by decide +kernel
abbrev cJ5_init_d00df : ByteArray := prog_14_method_2_code
def yJ5_init_d00df : MethodName := ⟨RJ5, "<init>", "(I)V"⟩
abbrev cJ5_length_8abf5 : ByteArray := prog_14_method_6_code
def yJ5_length_8abf5 : MethodName := ⟨RJ5, "length", "()I"⟩
abbrev cJ5_ensureCapacityInternal_d00df : ByteArray := prog_14_method_9_code
def yJ5_ensureCapacityInternal_d00df : MethodName := ⟨RJ5, "ensureCapacityInternal", "(I)V"⟩
abbrev cJ5_newCapacity_0f7a4 : ByteArray := prog_14_method_10_code
def yJ5_newCapacity_0f7a4 : MethodName := ⟨RJ5, "newCapacity", "(I)I"⟩
abbrev cJ5_inflate_da8c8 : ByteArray := prog_14_method_11_code
def yJ5_inflate_da8c8 : MethodName := ⟨RJ5, "inflate", "()V"⟩
abbrev cJ5_append_cf1ce : ByteArray := prog_14_method_22_code
def yJ5_append_cf1ce : MethodName := ⟨RJ5, "append", "(Ljava/lang/String;)Ljava/lang/AbstractStringBuilder;"⟩
abbrev cJ5_appendNull_278bc : ByteArray := prog_14_method_26_code
def yJ5_appendNull_278bc : MethodName := ⟨RJ5, "appendNull", "()Ljava/lang/AbstractStringBuilder;"⟩
abbrev cJ5_append_3fe6f : ByteArray := prog_14_method_31_code
def yJ5_append_3fe6f : MethodName := ⟨RJ5, "append", "(C)Ljava/lang/AbstractStringBuilder;"⟩
abbrev cJ5_append_c97b9 : ByteArray := prog_14_method_32_code
def yJ5_append_c97b9 : MethodName := ⟨RJ5, "append", "(I)Ljava/lang/AbstractStringBuilder;"⟩
abbrev cJ5_getValue_6d5f1 : ByteArray := prog_14_method_64_code
def yJ5_getValue_6d5f1 : MethodName := ⟨RJ5, "getValue", "()[B"⟩
abbrev cJ5_isLatin1_aae02 : ByteArray := prog_14_method_68_code
def yJ5_isLatin1_aae02 : MethodName := ⟨RJ5, "isLatin1", "()Z"⟩
abbrev cJ5_inflateIfNeededFor_a7421 : ByteArray := prog_14_method_71_code
def yJ5_inflateIfNeededFor_a7421 : MethodName := ⟨RJ5, "inflateIfNeededFor", "(Ljava/lang/String;)V"⟩
abbrev cJ5_putStringAt_47b60 : ByteArray := prog_14_method_73_code
def yJ5_putStringAt_47b60 : MethodName := ⟨RJ5, "putStringAt", "(ILjava/lang/String;)V"⟩
def RJx2cfe8 : String := "java/lang/Appendable"
def TJx2cfe8 : u_T := fun k => match k with
  | _ => ("", "", "", false)
def tyJx2cfe8 : Nat → FieldType := fun k => match k with
  | _ => .int
abbrev wsJx2cfe80 : List Cond := u_ws RJx2cfe8 TJx2cfe8 0
theorem nmJx2cfe8 : ∀ a, a < 0 → ∀ b, b < 0 → a ≠ b → (TJx2cfe8 a).2.1 ≠ (TJx2cfe8 b).2.1 := by decide +kernel
theorem tyJx2cfe8_ok : ∀ k, k < 0 → parseFieldDescriptor (TJx2cfe8 k).2.2.1 = some (tyJx2cfe8 k) := by decide +kernel
def RJx9f9b0 : String := "java/lang/CharSequence"
def TJx9f9b0 : u_T := fun k => match k with
  | _ => ("", "", "", false)
def tyJx9f9b0 : Nat → FieldType := fun k => match k with
  | _ => .int
abbrev wsJx9f9b00 : List Cond := u_ws RJx9f9b0 TJx9f9b0 0
theorem nmJx9f9b0 : ∀ a, a < 0 → ∀ b, b < 0 → a ≠ b → (TJx9f9b0 a).2.1 ≠ (TJx9f9b0 b).2.1 := by decide +kernel
theorem tyJx9f9b0_ok : ∀ k, k < 0 → parseFieldDescriptor (TJx9f9b0 k).2.2.1 = some (tyJx9f9b0 k) := by decide +kernel
def RJx8e188 : String := "java/lang/Cloneable"
def TJx8e188 : u_T := fun k => match k with
  | _ => ("", "", "", false)
def tyJx8e188 : Nat → FieldType := fun k => match k with
  | _ => .int
abbrev wsJx8e1880 : List Cond := u_ws RJx8e188 TJx8e188 0
theorem nmJx8e188 : ∀ a, a < 0 → ∀ b, b < 0 → a ≠ b → (TJx8e188 a).2.1 ≠ (TJx8e188 b).2.1 := by decide +kernel
theorem tyJx8e188_ok : ∀ k, k < 0 → parseFieldDescriptor (TJx8e188 k).2.2.1 = some (tyJx8e188 k) := by decide +kernel
def RJxb160c : String := "java/lang/Comparable"
def TJxb160c : u_T := fun k => match k with
  | _ => ("", "", "", false)
def tyJxb160c : Nat → FieldType := fun k => match k with
  | _ => .int
abbrev wsJxb160c0 : List Cond := u_ws RJxb160c TJxb160c 0
theorem nmJxb160c : ∀ a, a < 0 → ∀ b, b < 0 → a ≠ b → (TJxb160c a).2.1 ≠ (TJxb160c b).2.1 := by decide +kernel
theorem tyJxb160c_ok : ∀ k, k < 0 → parseFieldDescriptor (TJxb160c k).2.2.1 = some (tyJxb160c k) := by decide +kernel
def RJ6 : String := "java/lang/Integer"
def TJ6 : u_T := fun k => match k with
  | _ => ("", "", "", false)
def tyJ6 : Nat → FieldType := fun k => match k with
  | _ => .int
abbrev wsJ60 : List Cond := u_ws RJ6 TJ6 0
theorem nmJ6 : ∀ a, a < 0 → ∀ b, b < 0 → a ≠ b → (TJ6 a).2.1 ≠ (TJ6 b).2.1 := by decide +kernel
theorem tyJ6_ok : ∀ k, k < 0 → parseFieldDescriptor (TJ6 k).2.2.1 = some (tyJ6 k) := by decide +kernel
abbrev cJ6_getChars_ba4f3 : ByteArray := prog_23_method_12_code
def yJ6_getChars_ba4f3 : MethodName := ⟨RJ6, "getChars", "(II[B)I"⟩
abbrev cJ6_stringSize_0f7a4 : ByteArray := prog_23_method_13_code
def yJ6_stringSize_0f7a4 : MethodName := ⟨RJ6, "stringSize", "(I)I"⟩
def RJxab1ab : String := "java/lang/Iterable"
def TJxab1ab : u_T := fun k => match k with
  | _ => ("", "", "", false)
def tyJxab1ab : Nat → FieldType := fun k => match k with
  | _ => .int
abbrev wsJxab1ab0 : List Cond := u_ws RJxab1ab TJxab1ab 0
theorem nmJxab1ab : ∀ a, a < 0 → ∀ b, b < 0 → a ≠ b → (TJxab1ab a).2.1 ≠ (TJxab1ab b).2.1 := by decide +kernel
theorem tyJxab1ab_ok : ∀ k, k < 0 → parseFieldDescriptor (TJxab1ab k).2.2.1 = some (tyJxab1ab k) := by decide +kernel
def RJ9 : String := "java/lang/Math"
def TJ9 : u_T := fun k => match k with
  | _ => ("", "", "", false)
def tyJ9 : Nat → FieldType := fun k => match k with
  | _ => .int
abbrev wsJ90 : List Cond := u_ws RJ9 TJ9 0
theorem nmJ9 : ∀ a, a < 0 → ∀ b, b < 0 → a ≠ b → (TJ9 a).2.1 ≠ (TJ9 b).2.1 := by decide +kernel
theorem tyJ9_ok : ∀ k, k < 0 → parseFieldDescriptor (TJ9 k).2.2.1 = some (tyJ9 k) := by decide +kernel
abbrev cJ9_max_7cf53 : ByteArray := prog_25_method_65_code
def yJ9_max_7cf53 : MethodName := ⟨RJ9, "max", "(II)I"⟩
abbrev cJ9_min_7cf53 : ByteArray := prog_25_method_69_code
def yJ9_min_7cf53 : MethodName := ⟨RJ9, "min", "(II)I"⟩
def RJxd2413 : String := "java/lang/Number"
def TJxd2413 : u_T := fun k => match k with
  | _ => ("", "", "", false)
def tyJxd2413 : Nat → FieldType := fun k => match k with
  | _ => .int
abbrev wsJxd24130 : List Cond := u_ws RJxd2413 TJxd2413 0
theorem nmJxd2413 : ∀ a, a < 0 → ∀ b, b < 0 → a ≠ b → (TJxd2413 a).2.1 ≠ (TJxd2413 b).2.1 := by decide +kernel
theorem tyJxd2413_ok : ∀ k, k < 0 → parseFieldDescriptor (TJxd2413 k).2.2.1 = some (tyJxd2413 k) := by decide +kernel
def RJ0 : String := "java/lang/String"
def TJ0 : u_T := fun k => match k with
  | 0 => ("java/lang/String", "value", "[B", true)
  | 1 => ("java/lang/String", "coder", "B", true)
  | 2 => ("java/lang/String", "hash", "I", false)
  | _ => ("java/lang/String", "hashIsZero", "Z", false)
def tyJ0 : Nat → FieldType := fun k => match k with
  | 0 => .array .byte
  | 1 => .byte
  | 2 => .int
  | _ => .boolean
abbrev wsJ00 : List Cond := u_ws RJ0 TJ0 4
theorem nmJ0 : ∀ a, a < 4 → ∀ b, b < 4 → a ≠ b → (TJ0 a).2.1 ≠ (TJ0 b).2.1 := by decide +kernel
theorem tyJ0_ok : ∀ k, k < 4 → parseFieldDescriptor (TJ0 k).2.2.1 = some (tyJ0 k) := by decide +kernel
abbrev cJ0_init_81219 : ByteArray := prog_28_method_53_code
def yJ0_init_81219 : MethodName := ⟨RJ0, "<init>", "(Ljava/lang/StringBuilder;)V"⟩
abbrev cJ0_length_8abf5 : ByteArray := prog_28_method_54_code
def yJ0_length_8abf5 : MethodName := ⟨RJ0, "length", "()I"⟩
abbrev cJ0_getBytes_840e7 : ByteArray := prog_28_method_147_code
def yJ0_getBytes_840e7 : MethodName := ⟨RJ0, "getBytes", "([BIB)V"⟩
abbrev cJ0_init_db425 : ByteArray := prog_28_method_150_code
def yJ0_init_db425 : MethodName := ⟨RJ0, "<init>", "(Ljava/lang/AbstractStringBuilder;Ljava/lang/Void;)V"⟩
abbrev cJ0_coder_7d493 : ByteArray := prog_28_method_152_code
def yJ0_coder_7d493 : MethodName := ⟨RJ0, "coder", "()B"⟩
abbrev cJ0_checkIndex_df160 : ByteArray := prog_28_method_155_code
def yJ0_checkIndex_df160 : MethodName := ⟨RJ0, "checkIndex", "(II)V"⟩
abbrev cJ0_checkBoundsOffCount_cabcc : ByteArray := prog_28_method_157_code
def yJ0_checkBoundsOffCount_cabcc : MethodName := ⟨RJ0, "checkBoundsOffCount", "(III)I"⟩
abbrev cJ0_checkBoundsBeginEnd_23922 : ByteArray := prog_28_method_158_code
def yJ0_checkBoundsBeginEnd_23922 : MethodName := ⟨RJ0, "checkBoundsBeginEnd", "(III)V"⟩
def RJ4 : String := "java/lang/StringBuilder"
def TJ4 : u_T := fun k => match k with
  | 0 => ("java/lang/AbstractStringBuilder", "value", "[B", false)
  | 1 => ("java/lang/AbstractStringBuilder", "coder", "B", false)
  | 2 => ("java/lang/AbstractStringBuilder", "maybeLatin1", "Z", false)
  | _ => ("java/lang/AbstractStringBuilder", "count", "I", false)
def tyJ4 : Nat → FieldType := fun k => match k with
  | 0 => .array .byte
  | 1 => .byte
  | 2 => .boolean
  | _ => .int
abbrev wsJ40 : List Cond := u_ws RJ4 TJ4 4
theorem nmJ4 : ∀ a, a < 4 → ∀ b, b < 4 → a ≠ b → (TJ4 a).2.1 ≠ (TJ4 b).2.1 := by decide +kernel
theorem tyJ4_ok : ∀ k, k < 4 → parseFieldDescriptor (TJ4 k).2.2.1 = some (tyJ4 k) := by decide +kernel
abbrev cJ4_init_da8c8 : ByteArray := prog_29_method_1_code
def yJ4_init_da8c8 : MethodName := ⟨RJ4, "<init>", "()V"⟩
abbrev cJ4_append_15ec4 : ByteArray := prog_29_method_7_code
def yJ4_append_15ec4 : MethodName := ⟨RJ4, "append", "(Ljava/lang/String;)Ljava/lang/StringBuilder;"⟩
abbrev cJ4_append_cf468 : ByteArray := prog_29_method_14_code
def yJ4_append_cf468 : MethodName := ⟨RJ4, "append", "(C)Ljava/lang/StringBuilder;"⟩
abbrev cJ4_append_bf812 : ByteArray := prog_29_method_15_code
def yJ4_append_bf812 : MethodName := ⟨RJ4, "append", "(I)Ljava/lang/StringBuilder;"⟩
abbrev cJ4_toString_0e30d : ByteArray := prog_29_method_42_code
def yJ4_toString_0e30d : MethodName := ⟨RJ4, "toString", "()Ljava/lang/String;"⟩
abbrev cJ4_length_8abf5 : ByteArray := prog_29_method_93_code
def yJ4_length_8abf5 : MethodName := ⟨RJ4, "length", "()I"⟩
def RJ1 : String := "java/lang/StringLatin1"
def TJ1 : u_T := fun k => match k with
  | _ => ("", "", "", false)
def tyJ1 : Nat → FieldType := fun k => match k with
  | _ => .int
abbrev wsJ10 : List Cond := u_ws RJ1 TJ1 0
theorem nmJ1 : ∀ a, a < 0 → ∀ b, b < 0 → a ≠ b → (TJ1 a).2.1 ≠ (TJ1 b).2.1 := by decide +kernel
theorem tyJ1_ok : ∀ k, k < 0 → parseFieldDescriptor (TJ1 k).2.2.1 = some (tyJ1 k) := by decide +kernel
abbrev cJ1_canEncode_fc78d : ByteArray := prog_30_method_3_code
def yJ1_canEncode_fc78d : MethodName := ⟨RJ1, "canEncode", "(C)Z"⟩
abbrev cJ1_inflate_0e8fd : ByteArray := prog_30_method_50_code
def yJ1_inflate_0e8fd : MethodName := ⟨RJ1, "inflate", "([BI[BII)V"⟩
def RJ2 : String := "java/lang/StringUTF16"
def TJ2 : u_T := fun k => match k with
  | _ => ("", "", "", false)
def tyJ2 : Nat → FieldType := fun k => match k with
  | _ => .int
abbrev wsJ20 : List Cond := u_ws RJ2 TJ2 0
theorem nmJ2 : ∀ a, a < 0 → ∀ b, b < 0 → a ≠ b → (TJ2 a).2.1 ≠ (TJ2 b).2.1 := by decide +kernel
theorem tyJ2_ok : ∀ k, k < 0 → parseFieldDescriptor (TJ2 k).2.2.1 = some (tyJ2 k) := by decide +kernel
abbrev cJ2_newBytesFor_77867 : ByteArray := prog_31_method_2_code
def yJ2_newBytesFor_77867 : MethodName := ⟨RJ2, "newBytesFor", "(I)[B"⟩
abbrev cJ2_newBytesLength_0f7a4 : ByteArray := prog_31_method_3_code
def yJ2_newBytesLength_0f7a4 : MethodName := ⟨RJ2, "newBytesLength", "(I)I"⟩
abbrev cJ2_putChar_b72d1 : ByteArray := prog_31_method_4_code
def yJ2_putChar_b72d1 : MethodName := ⟨RJ2, "putChar", "([BII)V"⟩
abbrev cJ2_getChar_3b067 : ByteArray := prog_31_method_5_code
def yJ2_getChar_3b067 : MethodName := ⟨RJ2, "getChar", "([BI)C"⟩
abbrev cJ2_length_9d52b : ByteArray := prog_31_method_6_code
def yJ2_length_9d52b : MethodName := ⟨RJ2, "length", "([B)I"⟩
abbrev cJ2_coderFromArrayLen_85cad : ByteArray := prog_31_method_15_code
def yJ2_coderFromArrayLen_85cad : MethodName := ⟨RJ2, "coderFromArrayLen", "([BI)B"⟩
abbrev cJ2_compress_39247 : ByteArray := prog_31_method_17_code
def yJ2_compress_39247 : MethodName := ⟨RJ2, "compress", "([BII)[B"⟩
abbrev cJ2_compress_5af95 : ByteArray := prog_31_method_22_code
def yJ2_compress_5af95 : MethodName := ⟨RJ2, "compress", "([BI[BII)I"⟩
abbrev cJ2_putCharSB_b72d1 : ByteArray := prog_31_method_71_code
def yJ2_putCharSB_b72d1 : MethodName := ⟨RJ2, "putCharSB", "([BII)V"⟩
abbrev cJ2_getChars_46870 : ByteArray := prog_31_method_77_code
def yJ2_getChars_46870 : MethodName := ⟨RJ2, "getChars", "(III[B)I"⟩
abbrev cJ2_putCharsAt_cd4e5 : ByteArray := prog_31_method_81_code
def yJ2_putCharsAt_cd4e5 : MethodName := ⟨RJ2, "putCharsAt", "([BICCCC)I"⟩
abbrev cJ2_inflate_0e8fd : ByteArray := prog_31_method_86_code
def yJ2_inflate_0e8fd : MethodName := ⟨RJ2, "inflate", "([BI[BII)V"⟩
abbrev cJ2_getChars_ba4f3 : ByteArray := prog_31_method_89_code
def yJ2_getChars_ba4f3 : MethodName := ⟨RJ2, "getChars", "(II[B)I"⟩
abbrev cJ2_checkIndex_2214a : ByteArray := prog_31_method_91_code
def yJ2_checkIndex_2214a : MethodName := ⟨RJ2, "checkIndex", "(I[B)V"⟩
abbrev cJ2_checkBoundsBeginEnd_d044e : ByteArray := prog_31_method_93_code
def yJ2_checkBoundsBeginEnd_d044e : MethodName := ⟨RJ2, "checkBoundsBeginEnd", "(II[B)V"⟩
abbrev cJ2_checkBoundsOffCount_d044e : ByteArray := prog_31_method_94_code
def yJ2_checkBoundsOffCount_d044e : MethodName := ⟨RJ2, "checkBoundsOffCount", "(II[B)V"⟩
def RJ10 : String := "java/lang/System"
def TJ10 : u_T := fun k => match k with
  | _ => ("", "", "", false)
def tyJ10 : Nat → FieldType := fun k => match k with
  | _ => .int
abbrev wsJ100 : List Cond := u_ws RJ10 TJ10 0
theorem nmJ10 : ∀ a, a < 0 → ∀ b, b < 0 → a ≠ b → (TJ10 a).2.1 ≠ (TJ10 b).2.1 := by decide +kernel
theorem tyJ10_ok : ∀ k, k < 0 → parseFieldDescriptor (TJ10 k).2.2.1 = some (tyJ10 k) := by decide +kernel
def RJxfd54e : String := "java/lang/constant/Constable"
def TJxfd54e : u_T := fun k => match k with
  | _ => ("", "", "", false)
def tyJxfd54e : Nat → FieldType := fun k => match k with
  | _ => .int
abbrev wsJxfd54e0 : List Cond := u_ws RJxfd54e TJxfd54e 0
theorem nmJxfd54e : ∀ a, a < 0 → ∀ b, b < 0 → a ≠ b → (TJxfd54e a).2.1 ≠ (TJxfd54e b).2.1 := by decide +kernel
theorem tyJxfd54e_ok : ∀ k, k < 0 → parseFieldDescriptor (TJxfd54e k).2.2.1 = some (tyJxfd54e k) := by decide +kernel
def RJx3cf43 : String := "java/lang/constant/ConstantDesc"
def TJx3cf43 : u_T := fun k => match k with
  | _ => ("", "", "", false)
def tyJx3cf43 : Nat → FieldType := fun k => match k with
  | _ => .int
abbrev wsJx3cf430 : List Cond := u_ws RJx3cf43 TJx3cf43 0
theorem nmJx3cf43 : ∀ a, a < 0 → ∀ b, b < 0 → a ≠ b → (TJx3cf43 a).2.1 ≠ (TJx3cf43 b).2.1 := by decide +kernel
theorem tyJx3cf43_ok : ∀ k, k < 0 → parseFieldDescriptor (TJx3cf43 k).2.2.1 = some (tyJx3cf43 k) := by decide +kernel
def RJxa1e45 : String := "java/util/AbstractCollection"
def TJxa1e45 : u_T := fun k => match k with
  | _ => ("", "", "", false)
def tyJxa1e45 : Nat → FieldType := fun k => match k with
  | _ => .int
abbrev wsJxa1e450 : List Cond := u_ws RJxa1e45 TJxa1e45 0
theorem nmJxa1e45 : ∀ a, a < 0 → ∀ b, b < 0 → a ≠ b → (TJxa1e45 a).2.1 ≠ (TJxa1e45 b).2.1 := by decide +kernel
theorem tyJxa1e45_ok : ∀ k, k < 0 → parseFieldDescriptor (TJxa1e45 k).2.2.1 = some (tyJxa1e45 k) := by decide +kernel
abbrev cJxa1e45_init_da8c8 : ByteArray := prog_36_method_1_code
def yJxa1e45_init_da8c8 : MethodName := ⟨RJxa1e45, "<init>", "()V"⟩
def RJxc12de : String := "java/util/AbstractList"
def TJxc12de : u_T := fun k => match k with
  | _ => ("", "", "", false)
def tyJxc12de : Nat → FieldType := fun k => match k with
  | _ => .int
abbrev wsJxc12de0 : List Cond := u_ws RJxc12de TJxc12de 0
theorem nmJxc12de : ∀ a, a < 0 → ∀ b, b < 0 → a ≠ b → (TJxc12de a).2.1 ≠ (TJxc12de b).2.1 := by decide +kernel
theorem tyJxc12de_ok : ∀ k, k < 0 → parseFieldDescriptor (TJxc12de k).2.2.1 = some (tyJxc12de k) := by decide +kernel
abbrev cJxc12de_init_da8c8 : ByteArray := prog_37_method_1_code
def yJxc12de_init_da8c8 : MethodName := ⟨RJxc12de, "<init>", "()V"⟩
def RJx35411 : String := "java/util/ArrayList$Itr"
def TJx35411 : u_T := fun k => match k with
  | 0 => ("java/util/ArrayList$Itr", "cursor", "I", false)
  | 1 => ("java/util/ArrayList$Itr", "lastRet", "I", false)
  | 2 => ("java/util/ArrayList$Itr", "expectedModCount", "I", false)
  | _ => ("java/util/ArrayList$Itr", "this$0", "Ljava/util/ArrayList;", true)
def tyJx35411 : Nat → FieldType := fun k => match k with
  | 0 => .int
  | 1 => .int
  | 2 => .int
  | _ => .object "java/util/ArrayList"
abbrev wsJx354110 : List Cond := u_ws RJx35411 TJx35411 4
theorem nmJx35411 : ∀ a, a < 4 → ∀ b, b < 4 → a ≠ b → (TJx35411 a).2.1 ≠ (TJx35411 b).2.1 := by decide +kernel
theorem tyJx35411_ok : ∀ k, k < 4 → parseFieldDescriptor (TJx35411 k).2.2.1 = some (tyJx35411 k) := by decide +kernel
abbrev cJx35411_init_45d68 : ByteArray := prog_39_method_1_code
def yJx35411_init_45d68 : MethodName := ⟨RJx35411, "<init>", "(Ljava/util/ArrayList;)V"⟩
abbrev cJx35411_hasNext_aae02 : ByteArray := prog_39_method_2_code
def yJx35411_hasNext_aae02 : MethodName := ⟨RJx35411, "hasNext", "()Z"⟩
abbrev cJx35411_next_0502b : ByteArray := prog_39_method_3_code
def yJx35411_next_0502b : MethodName := ⟨RJx35411, "next", "()Ljava/lang/Object;"⟩
abbrev cJx35411_checkForComodification_da8c8 : ByteArray := prog_39_method_6_code
def yJx35411_checkForComodification_da8c8 : MethodName := ⟨RJx35411, "checkForComodification", "()V"⟩
def RJx4a65c : String := "java/util/ArrayList"
def TJx4a65c : u_T := fun k => match k with
  | 0 => ("java/util/AbstractList", "modCount", "I", false)
  | 1 => ("java/util/ArrayList", "elementData", "[Ljava/lang/Object;", false)
  | _ => ("java/util/ArrayList", "size", "I", false)
def tyJx4a65c : Nat → FieldType := fun k => match k with
  | 0 => .int
  | 1 => .array (.object "java/lang/Object")
  | _ => .int
abbrev wsJx4a65c0 : List Cond := u_ws RJx4a65c TJx4a65c 3
theorem nmJx4a65c : ∀ a, a < 3 → ∀ b, b < 3 → a ≠ b → (TJx4a65c a).2.1 ≠ (TJx4a65c b).2.1 := by decide +kernel
theorem tyJx4a65c_ok : ∀ k, k < 3 → parseFieldDescriptor (TJx4a65c k).2.2.1 = some (tyJx4a65c k) := by decide +kernel
abbrev cJx4a65c_init_da8c8 : ByteArray := prog_38_method_2_code
def yJx4a65c_init_da8c8 : MethodName := ⟨RJx4a65c, "<init>", "()V"⟩
abbrev cJx4a65c_grow_92f84 : ByteArray := prog_38_method_6_code
def yJx4a65c_grow_92f84 : MethodName := ⟨RJx4a65c, "grow", "(I)[Ljava/lang/Object;"⟩
abbrev cJx4a65c_grow_d5877 : ByteArray := prog_38_method_7_code
def yJx4a65c_grow_d5877 : MethodName := ⟨RJx4a65c, "grow", "()[Ljava/lang/Object;"⟩
abbrev cJx4a65c_size_8abf5 : ByteArray := prog_38_method_8_code
def yJx4a65c_size_8abf5 : MethodName := ⟨RJx4a65c, "size", "()I"⟩
abbrev cJx4a65c_elementData_915e3 : ByteArray := prog_38_method_18_code
def yJx4a65c_elementData_915e3 : MethodName := ⟨RJx4a65c, "elementData", "(I)Ljava/lang/Object;"⟩
abbrev cJx4a65c_get_915e3 : ByteArray := prog_38_method_20_code
def yJx4a65c_get_915e3 : MethodName := ⟨RJx4a65c, "get", "(I)Ljava/lang/Object;"⟩
abbrev cJx4a65c_add_72be8 : ByteArray := prog_38_method_24_code
def yJx4a65c_add_72be8 : MethodName := ⟨RJx4a65c, "add", "(Ljava/lang/Object;[Ljava/lang/Object;I)V"⟩
abbrev cJx4a65c_add_9ea2d : ByteArray := prog_38_method_25_code
def yJx4a65c_add_9ea2d : MethodName := ⟨RJx4a65c, "add", "(Ljava/lang/Object;)Z"⟩
abbrev cJx4a65c_iterator_32c93 : ByteArray := prog_38_method_55_code
def yJx4a65c_iterator_32c93 : MethodName := ⟨RJx4a65c, "iterator", "()Ljava/util/Iterator;"⟩
def RJ7 : String := "java/util/Arrays"
def TJ7 : u_T := fun k => match k with
  | _ => ("", "", "", false)
def tyJ7 : Nat → FieldType := fun k => match k with
  | _ => .int
abbrev wsJ70 : List Cond := u_ws RJ7 TJ7 0
theorem nmJ7 : ∀ a, a < 0 → ∀ b, b < 0 → a ≠ b → (TJ7 a).2.1 ≠ (TJ7 b).2.1 := by decide +kernel
theorem tyJ7_ok : ∀ k, k < 0 → parseFieldDescriptor (TJ7 k).2.2.1 = some (tyJ7 k) := by decide +kernel
abbrev cJ7_copyOf_1904c : ByteArray := prog_40_method_119_code
def yJ7_copyOf_1904c : MethodName := ⟨RJ7, "copyOf", "([Ljava/lang/Object;I)[Ljava/lang/Object;"⟩
abbrev cJ7_copyOf_6403c : ByteArray := prog_40_method_120_code
def yJ7_copyOf_6403c : MethodName := ⟨RJ7, "copyOf", "([Ljava/lang/Object;ILjava/lang/Class;)[Ljava/lang/Object;"⟩
abbrev cJ7_copyOf_9075b : ByteArray := prog_40_method_121_code
def yJ7_copyOf_9075b : MethodName := ⟨RJ7, "copyOf", "([BI)[B"⟩
abbrev cJ7_checkLength_df160 : ByteArray := prog_40_method_131_code
def yJ7_checkLength_df160 : MethodName := ⟨RJ7, "checkLength", "(II)V"⟩
abbrev cJ7_copyOfRange_39247 : ByteArray := prog_40_method_132_code
def yJ7_copyOfRange_39247 : MethodName := ⟨RJ7, "copyOfRange", "([BII)[B"⟩
abbrev cJ7_copyOfRangeByte_39247 : ByteArray := prog_40_method_133_code
def yJ7_copyOfRangeByte_39247 : MethodName := ⟨RJ7, "copyOfRangeByte", "([BII)[B"⟩
def RJx5ef63 : String := "java/util/Collection"
def TJx5ef63 : u_T := fun k => match k with
  | _ => ("", "", "", false)
def tyJx5ef63 : Nat → FieldType := fun k => match k with
  | _ => .int
abbrev wsJx5ef630 : List Cond := u_ws RJx5ef63 TJx5ef63 0
theorem nmJx5ef63 : ∀ a, a < 0 → ∀ b, b < 0 → a ≠ b → (TJx5ef63 a).2.1 ≠ (TJx5ef63 b).2.1 := by decide +kernel
theorem tyJx5ef63_ok : ∀ k, k < 0 → parseFieldDescriptor (TJx5ef63 k).2.2.1 = some (tyJx5ef63 k) := by decide +kernel
def RJx4d0d8 : String := "java/util/Iterator"
def TJx4d0d8 : u_T := fun k => match k with
  | _ => ("", "", "", false)
def tyJx4d0d8 : Nat → FieldType := fun k => match k with
  | _ => .int
abbrev wsJx4d0d80 : List Cond := u_ws RJx4d0d8 TJx4d0d8 0
theorem nmJx4d0d8 : ∀ a, a < 0 → ∀ b, b < 0 → a ≠ b → (TJx4d0d8 a).2.1 ≠ (TJx4d0d8 b).2.1 := by decide +kernel
theorem tyJx4d0d8_ok : ∀ k, k < 0 → parseFieldDescriptor (TJx4d0d8 k).2.2.1 = some (tyJx4d0d8 k) := by decide +kernel
def RJxbd725 : String := "java/util/List"
def TJxbd725 : u_T := fun k => match k with
  | _ => ("", "", "", false)
def tyJxbd725 : Nat → FieldType := fun k => match k with
  | _ => .int
abbrev wsJxbd7250 : List Cond := u_ws RJxbd725 TJxbd725 0
theorem nmJxbd725 : ∀ a, a < 0 → ∀ b, b < 0 → a ≠ b → (TJxbd725 a).2.1 ≠ (TJxbd725 b).2.1 := by decide +kernel
theorem tyJxbd725_ok : ∀ k, k < 0 → parseFieldDescriptor (TJxbd725 k).2.2.1 = some (tyJxbd725 k) := by decide +kernel
def RJ15 : String := "java/util/Objects"
def TJ15 : u_T := fun k => match k with
  | _ => ("", "", "", false)
def tyJ15 : Nat → FieldType := fun k => match k with
  | _ => .int
abbrev wsJ150 : List Cond := u_ws RJ15 TJ15 0
theorem nmJ15 : ∀ a, a < 0 → ∀ b, b < 0 → a ≠ b → (TJ15 a).2.1 ≠ (TJ15 b).2.1 := by decide +kernel
theorem tyJ15_ok : ∀ k, k < 0 → parseFieldDescriptor (TJ15 k).2.2.1 = some (tyJ15 k) := by decide +kernel
abbrev cJ15_checkIndex_7cf53 : ByteArray := prog_44_method_17_code
def yJ15_checkIndex_7cf53 : MethodName := ⟨RJ15, "checkIndex", "(II)I"⟩
def RJxf0a74 : String := "java/util/RandomAccess"
def TJxf0a74 : u_T := fun k => match k with
  | _ => ("", "", "", false)
def tyJxf0a74 : Nat → FieldType := fun k => match k with
  | _ => .int
abbrev wsJxf0a740 : List Cond := u_ws RJxf0a74 TJxf0a74 0
theorem nmJxf0a74 : ∀ a, a < 0 → ∀ b, b < 0 → a ≠ b → (TJxf0a74 a).2.1 ≠ (TJxf0a74 b).2.1 := by decide +kernel
theorem tyJxf0a74_ok : ∀ k, k < 0 → parseFieldDescriptor (TJxf0a74 k).2.2.1 = some (tyJxf0a74 k) := by decide +kernel
def RJxa66e6 : String := "java/util/SequencedCollection"
def TJxa66e6 : u_T := fun k => match k with
  | _ => ("", "", "", false)
def tyJxa66e6 : Nat → FieldType := fun k => match k with
  | _ => .int
abbrev wsJxa66e60 : List Cond := u_ws RJxa66e6 TJxa66e6 0
theorem nmJxa66e6 : ∀ a, a < 0 → ∀ b, b < 0 → a ≠ b → (TJxa66e6 a).2.1 ≠ (TJxa66e6 b).2.1 := by decide +kernel
theorem tyJxa66e6_ok : ∀ k, k < 0 → parseFieldDescriptor (TJxa66e6 k).2.2.1 = some (tyJxa66e6 k) := by decide +kernel
def RJ8 : String := "jdk/internal/util/ArraysSupport"
def TJ8 : u_T := fun k => match k with
  | _ => ("", "", "", false)
def tyJ8 : Nat → FieldType := fun k => match k with
  | _ => .int
abbrev wsJ80 : List Cond := u_ws RJ8 TJ8 0
theorem nmJ8 : ∀ a, a < 0 → ∀ b, b < 0 → a ≠ b → (TJ8 a).2.1 ≠ (TJ8 b).2.1 := by decide +kernel
theorem tyJ8_ok : ∀ k, k < 0 → parseFieldDescriptor (TJ8 k).2.2.1 = some (tyJ8 k) := by decide +kernel
abbrev cJ8_newLength_cabcc : ByteArray := prog_47_method_27_code
def yJ8_newLength_cabcc : MethodName := ⟨RJ8, "newLength", "(III)I"⟩
abbrev cJ8_hugeLength_7cf53 : ByteArray := prog_47_method_28_code
def yJ8_hugeLength_7cf53 : MethodName := ⟨RJ8, "hugeLength", "(II)I"⟩
def RJ3 : String := "jdk/internal/util/Preconditions"
def TJ3 : u_T := fun k => match k with
  | _ => ("", "", "", false)
def tyJ3 : Nat → FieldType := fun k => match k with
  | _ => .int
abbrev wsJ30 : List Cond := u_ws RJ3 TJ3 0
theorem nmJ3 : ∀ a, a < 0 → ∀ b, b < 0 → a ≠ b → (TJ3 a).2.1 ≠ (TJ3 b).2.1 := by decide +kernel
theorem tyJ3_ok : ∀ k, k < 0 → parseFieldDescriptor (TJ3 k).2.2.1 = some (tyJ3 k) := by decide +kernel
abbrev cJ3_checkIndex_8e157 : ByteArray := prog_48_method_11_code
def yJ3_checkIndex_8e157 : MethodName := ⟨RJ3, "checkIndex", "(IILjava/util/function/BiFunction;)I"⟩
abbrev cJ3_checkFromToIndex_8c36e : ByteArray := prog_48_method_12_code
def yJ3_checkFromToIndex_8c36e : MethodName := ⟨RJ3, "checkFromToIndex", "(IIILjava/util/function/BiFunction;)I"⟩
abbrev cJ3_checkFromIndexSize_8c36e : ByteArray := prog_48_method_13_code
def yJ3_checkFromIndexSize_8c36e : MethodName := ⟨RJ3, "checkFromIndexSize", "(IIILjava/util/function/BiFunction;)I"⟩
def RL : String := "TwocoinLaw"
abbrev cL_country : ByteArray := method_2_code
def yL_country : MethodName := ⟨RL, "country", "(LTwocoin;IIIILTwocoinLaw$Out;)I"⟩
abbrev cL_law : ByteArray := method_3_code
def yL_law : MethodName := ⟨RL, "law", "(LTwocoin;IIILTwocoinLaw$Out;)I"⟩
abbrev cL_gate : ByteArray := method_4_code
def yL_gate : MethodName := ⟨RL, "gate", "(LTwocoin;IIZLTwocoinLaw$Out;)I"⟩
abbrev cL_market : ByteArray := method_5_code
def yL_market : MethodName := ⟨RL, "market", "(LTwocoin;ILTwocoinLaw$Out;)I"⟩
abbrev cL_road : ByteArray := method_6_code
def yL_road : MethodName := ⟨RL, "road", "(LTwocoin;IIIILTwocoinLaw$Out;)I"⟩
abbrev cL_mine : ByteArray := method_7_code
def yL_mine : MethodName := ⟨RL, "mine", "(LTwocoin;IIILTwocoinLaw$Out;)I"⟩
abbrev cL_use : ByteArray := method_8_code
def yL_use : MethodName := ⟨RL, "use", "(LTwocoin;IIILTwocoinLaw$Out;)I"⟩
abbrev cL_house : ByteArray := method_9_code
def yL_house : MethodName := ⟨RL, "house", "(LTwocoin;IIILTwocoinLaw$Out;)I"⟩
abbrev cL_change : ByteArray := method_10_code
def yL_change : MethodName := ⟨RL, "change", "(LTwocoin;IIILTwocoinLaw$Out;)I"⟩
abbrev cL_send : ByteArray := method_11_code
def yL_send : MethodName := ⟨RL, "send", "(LTwocoin;IILTwocoinLaw$Out;)I"⟩
abbrev cL_pass : ByteArray := method_12_code
def yL_pass : MethodName := ⟨RL, "pass", "(LTwocoin;ILTwocoinLaw$Out;)I"⟩
abbrev cL_owe : ByteArray := method_13_code
def yL_owe : MethodName := ⟨RL, "owe", "(LTwocoin;IIIILTwocoinLaw$Out;)I"⟩
abbrev cL_settle : ByteArray := method_14_code
def yL_settle : MethodName := ⟨RL, "settle", "(LTwocoin;IILTwocoinLaw$Out;)I"⟩
abbrev cL_till : ByteArray := method_15_code
def yL_till : MethodName := ⟨RL, "till", "(LTwocoin;IIILTwocoinLaw$Out;)I"⟩
abbrev cL_give : ByteArray := method_16_code
def yL_give : MethodName := ⟨RL, "give", "(LTwocoin;IILTwocoinLaw$Out;)I"⟩
abbrev cL_coins : ByteArray := method_17_code
def yL_coins : MethodName := ⟨RL, "coins", "(LTwocoin;IILTwocoinLaw$Out;)I"⟩
abbrev cL_ofCountry : ByteArray := method_18_code
def yL_ofCountry : MethodName := ⟨RL, "ofCountry", "(LTwocoin;IILTwocoinLaw$Out;)I"⟩
abbrev cL_ofHouse : ByteArray := method_19_code
def yL_ofHouse : MethodName := ⟨RL, "ofHouse", "(LTwocoin;IILTwocoinLaw$Out;)I"⟩
abbrev cL_ofDebt : ByteArray := method_20_code
def yL_ofDebt : MethodName := ⟨RL, "ofDebt", "(LTwocoin;IILTwocoinLaw$Out;)I"⟩
abbrev cL_world : ByteArray := method_21_code
def yL_world : MethodName := ⟨RL, "world", "(LTwocoin;IILTwocoinLaw$Out;)I"⟩
abbrev cL_sign : ByteArray := method_22_code
def yL_sign : MethodName := ⟨RL, "sign", "(LTwocoin;ILTwocoinLaw$Out;)I"⟩
abbrev cL_trip : ByteArray := method_23_code
def yL_trip : MethodName := ⟨RL, "trip", "(LTwocoin;IIIILTwocoinLaw$Out;)I"⟩
abbrev cL_bestTrip : ByteArray := method_24_code
def yL_bestTrip : MethodName := ⟨RL, "bestTrip", "(LTwocoin;IIILTwocoinLaw$Out;)I"⟩
abbrev cL_rest : ByteArray := method_25_code
def yL_rest : MethodName := ⟨RL, "rest", "(LTwocoin;ILTwocoinLaw$Out;)I"⟩
abbrev cL_last : ByteArray := method_26_code
def yL_last : MethodName := ⟨RL, "last", "(LTwocoin;IIILTwocoinLaw$Out;)I"⟩
abbrev cL_law_ : ByteArray := code
def yL_law_ : MethodName := ⟨RL, "law", "([I)Z"⟩
abbrev vwCl : List vw_C := [(RJ0, TJ0, 4), (RJ4, TJ4, 4), (RJx35411, TJx35411, 4), (RJx4a65c, TJx4a65c, 3), (RX0, TX0, 9), (RX1, TX1, 5), (RX2, TX2, 5), (RX3, TX3, 2), (RX4, TX4, 1), (RX5, TX5, 12), (RX6, TX6, 2), (RX7, TX7, 5), (RX8, TX8, 5), (RX9, TX9, 4), (RX10, TX10, 12)]
