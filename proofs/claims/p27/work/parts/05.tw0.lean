/-! the words of the tables that stay true while classes are linked: TW; the others that are used: tw_NG -/
def TW : List Cond := lw_tbl.filter goodWord
theorem tw_m {w : Cond} (h : w ∈ lw_tbl) (g : goodWord w = true) : w ∈ TW := List.mem_filter.mpr ⟨h, g⟩
theorem TW_in {w : Cond} (h : w ∈ TW) : w ∈ lw_tbl := (List.mem_filter.mp h).1
theorem TW_good {w : Cond} (h : w ∈ TW) : goodWord w = true := (List.mem_filter.mp h).2
theorem tw_goodIn {c1 c2 : Cond} (h : c2 ∈ TW) : GoodIn (c1 :: TW) (c2 :: TW) := by
  intro w hw
  rcases List.mem_cons.mp hw with rfl | hw
  · exact ⟨List.mem_cons_of_mem _ h, good_of_word (TW_good h)⟩
  · exact ⟨List.mem_cons_of_mem _ hw, good_of_word (TW_good hw)⟩
def tw_ng (w : Cond) : Bool := match w with
  | .methodLinkNest .. | .fieldLinkNest .. | .castable .. | .declares .. => true
  | _ => false
def tw_NG : List Cond := lw_tbl.filter tw_ng
theorem tw_n {w : Cond} (h : w ∈ lw_tbl) (g : tw_ng w = true) : w ∈ tw_NG := List.mem_filter.mpr ⟨h, g⟩
theorem tw_in0 {w : Cond} {i : Nat} (h : (k2_sels lw_privs)[i]? = some w) : w ∈ lw_tbl := List.mem_append_left _ (List.mem_of_getElem? h)
theorem tw_in1 {w : Cond} {i : Nat} (h : tables_1_1[i]? = some w) : w ∈ lw_tbl := List.mem_append_right _ (List.mem_append_left _ (List.mem_of_getElem? h))
theorem tw_in2 {w : Cond} {i : Nat} (h : tables_1_2[i]? = some w) : w ∈ lw_tbl := List.mem_append_right _ (List.mem_append_right _ (List.mem_append_left _ (List.mem_of_getElem? h)))
theorem tw_in3 {w : Cond} {i : Nat} (h : tables_1_3[i]? = some w) : w ∈ lw_tbl := List.mem_append_right _ (List.mem_append_right _ (List.mem_append_right _ (List.mem_append_left _ (List.mem_of_getElem? h))))
theorem tw_in4 {w : Cond} {i : Nat} (h : tables_1_4[i]? = some w) : w ∈ lw_tbl := List.mem_append_right _ (List.mem_append_right _ (List.mem_append_right _ (List.mem_append_right _ (List.mem_append_left _ (List.mem_of_getElem? h)))))
theorem tw_in5 {w : Cond} {i : Nat} (h : tables_1_5[i]? = some w) : w ∈ lw_tbl := List.mem_append_right _ (List.mem_append_right _ (List.mem_append_right _ (List.mem_append_right _ (List.mem_append_right _ (List.mem_append_left _ (List.mem_of_getElem? h))))))
theorem tw_in6 {w : Cond} {i : Nat} (h : tables_1_6[i]? = some w) : w ∈ lw_tbl := List.mem_append_right _ (List.mem_append_right _ (List.mem_append_right _ (List.mem_append_right _ (List.mem_append_right _ (List.mem_append_right _ (List.mem_append_left _ (List.mem_of_getElem? h)))))))
theorem tw_in7 {w : Cond} {i : Nat} (h : tables_1_7[i]? = some w) : w ∈ lw_tbl := List.mem_append_right _ (List.mem_append_right _ (List.mem_append_right _ (List.mem_append_right _ (List.mem_append_right _ (List.mem_append_right _ (List.mem_append_right _ (List.mem_of_getElem? h)))))))
theorem w_0 : Cond.selects "Twocoin" ⟨"Twocoin", "isKept", "(I)Z"⟩ ⟨"Twocoin", "isKept", "(I)Z"⟩ ∈ TW := tw_m (tw_in0 (i := 0) rfl) rfl
theorem w_1 : Cond.selects "Twocoin" ⟨"Twocoin", "inVaults", "(I)I"⟩ ⟨"Twocoin", "inVaults", "(I)I"⟩ ∈ TW := tw_m (tw_in0 (i := 1) rfl) rfl
theorem w_2 : Cond.selects "Twocoin$Metals" ⟨"Twocoin$Metals", "of", "(I)I"⟩ ⟨"Twocoin$Metals", "of", "(I)I"⟩ ∈ TW := tw_m (tw_in0 (i := 2) rfl) rfl
theorem w_3 : Cond.selects "Twocoin" ⟨"Twocoin", "inPurses", "(I)I"⟩ ⟨"Twocoin", "inPurses", "(I)I"⟩ ∈ TW := tw_m (tw_in0 (i := 3) rfl) rfl
theorem w_4 : Cond.selects "Twocoin" ⟨"Twocoin", "areCountriesSound", "()Z"⟩ ⟨"Twocoin", "areCountriesSound", "()Z"⟩ ∈ TW := tw_m (tw_in0 (i := 4) rfl) rfl
theorem w_5 : Cond.selects "Twocoin$Metals" ⟨"Twocoin$Metals", "isBelowZero", "()Z"⟩ ⟨"Twocoin$Metals", "isBelowZero", "()Z"⟩ ∈ TW := tw_m (tw_in0 (i := 5) rfl) rfl
theorem w_6 : Cond.selects "Twocoin$Till" ⟨"Twocoin$Till", "isBelowZero", "()Z"⟩ ⟨"Twocoin$Till", "isBelowZero", "()Z"⟩ ∈ TW := tw_m (tw_in0 (i := 6) rfl) rfl
theorem w_7 : Cond.selects "Twocoin" ⟨"Twocoin", "areHousesSound", "()Z"⟩ ⟨"Twocoin", "areHousesSound", "()Z"⟩ ∈ TW := tw_m (tw_in0 (i := 7) rfl) rfl
theorem w_8 : Cond.selects "Twocoin$House" ⟨"Twocoin$House", "isLateOn", "(I)Z"⟩ ⟨"Twocoin$House", "isLateOn", "(I)Z"⟩ ∈ TW := tw_m (tw_in0 (i := 8) rfl) rfl
theorem w_9 : Cond.selects "Twocoin" ⟨"Twocoin", "areRoadsTheSame", "()Z"⟩ ⟨"Twocoin", "areRoadsTheSame", "()Z"⟩ ∈ TW := tw_m (tw_in0 (i := 9) rfl) rfl
theorem w_10 : Cond.selects "Twocoin$Country" ⟨"Twocoin$Country", "daysTo", "(I)I"⟩ ⟨"Twocoin$Country", "daysTo", "(I)I"⟩ ∈ TW := tw_m (tw_in0 (i := 10) rfl) rfl
theorem w_11 : Cond.selects "Twocoin$Country" ⟨"Twocoin$Country", "freightTo", "(I)I"⟩ ⟨"Twocoin$Country", "freightTo", "(I)I"⟩ ∈ TW := tw_m (tw_in0 (i := 11) rfl) rfl
theorem w_12 : Cond.selects "Twocoin" ⟨"Twocoin", "digestWorld", "(JI)J"⟩ ⟨"Twocoin", "digestWorld", "(JI)J"⟩ ∈ TW := tw_m (tw_in0 (i := 12) rfl) rfl
theorem w_13 : Cond.selects "Twocoin" ⟨"Twocoin", "worldFact", "(II)I"⟩ ⟨"Twocoin", "worldFact", "(II)I"⟩ ∈ TW := tw_m (tw_in0 (i := 13) rfl) rfl
theorem w_14 : Cond.selects "Twocoin" ⟨"Twocoin", "digestCountry", "(JLTwocoin$Country;)J"⟩ ⟨"Twocoin", "digestCountry", "(JLTwocoin$Country;)J"⟩ ∈ TW := tw_m (tw_in0 (i := 14) rfl) rfl
theorem w_15 : Cond.selects "Twocoin" ⟨"Twocoin", "countryFact", "(LTwocoin$Country;I)I"⟩ ⟨"Twocoin", "countryFact", "(LTwocoin$Country;I)I"⟩ ∈ TW := tw_m (tw_in0 (i := 15) rfl) rfl
theorem w_16 : Cond.selects "Twocoin$Country" ⟨"Twocoin$Country", "openSet", "()I"⟩ ⟨"Twocoin$Country", "openSet", "()I"⟩ ∈ TW := tw_m (tw_in0 (i := 16) rfl) rfl
theorem w_17 : Cond.selects "Twocoin" ⟨"Twocoin", "housesIn", "(LTwocoin$Country;)I"⟩ ⟨"Twocoin", "housesIn", "(LTwocoin$Country;)I"⟩ ∈ TW := tw_m (tw_in0 (i := 17) rfl) rfl
theorem w_18 : Cond.selects "Twocoin$Metals" ⟨"Twocoin$Metals", "worth", "(I)I"⟩ ⟨"Twocoin$Metals", "worth", "(I)I"⟩ ∈ TW := tw_m (tw_in0 (i := 18) rfl) rfl
theorem w_19 : Cond.selects "Twocoin$Till" ⟨"Twocoin$Till", "pounds", "()I"⟩ ⟨"Twocoin$Till", "pounds", "()I"⟩ ∈ TW := tw_m (tw_in0 (i := 19) rfl) rfl
theorem w_20 : Cond.selects "Twocoin$Till" ⟨"Twocoin$Till", "manyOf", "(I)I"⟩ ⟨"Twocoin$Till", "manyOf", "(I)I"⟩ ∈ TW := tw_m (tw_in0 (i := 20) rfl) rfl
theorem w_21 : Cond.selects "Twocoin" ⟨"Twocoin", "countriesWithRate", "(I)I"⟩ ⟨"Twocoin", "countriesWithRate", "(I)I"⟩ ∈ TW := tw_m (tw_in0 (i := 21) rfl) rfl
theorem w_22 : Cond.selects "Twocoin$Till" ⟨"Twocoin$Till", "fewestFor", "(I)I"⟩ ⟨"Twocoin$Till", "fewestFor", "(I)I"⟩ ∈ TW := tw_m (tw_in0 (i := 22) rfl) rfl
theorem w_23 : Cond.selects "Twocoin" ⟨"Twocoin", "bestOver", "(LTwocoin$Country;II)I"⟩ ⟨"Twocoin", "bestOver", "(LTwocoin$Country;II)I"⟩ ∈ TW := tw_m (tw_in0 (i := 23) rfl) rfl
theorem w_24 : Cond.selects "Twocoin$Country" ⟨"Twocoin$Country", "minted", "(II)I"⟩ ⟨"Twocoin$Country", "minted", "(II)I"⟩ ∈ TW := tw_m (tw_in0 (i := 24) rfl) rfl
theorem w_25 : Cond.selects "Twocoin$Country" ⟨"Twocoin$Country", "silverFor", "(I)I"⟩ ⟨"Twocoin$Country", "silverFor", "(I)I"⟩ ∈ TW := tw_m (tw_in0 (i := 25) rfl) rfl
theorem w_26 : Cond.selects "Twocoin$Country" ⟨"Twocoin$Country", "goldOf", "(I)I"⟩ ⟨"Twocoin$Country", "goldOf", "(I)I"⟩ ∈ TW := tw_m (tw_in0 (i := 26) rfl) rfl
theorem w_27 : Cond.selects "Twocoin" ⟨"Twocoin", "firstDayShort", "(LTwocoin$Metals;II)I"⟩ ⟨"Twocoin", "firstDayShort", "(LTwocoin$Metals;II)I"⟩ ∈ TW := tw_m (tw_in0 (i := 27) rfl) rfl
theorem w_28 : Cond.selects "Twocoin" ⟨"Twocoin", "digestHouse", "(JLTwocoin$House;)J"⟩ ⟨"Twocoin", "digestHouse", "(JLTwocoin$House;)J"⟩ ∈ TW := tw_m (tw_in0 (i := 28) rfl) rfl
theorem w_29 : Cond.selects "Twocoin" ⟨"Twocoin", "houseFact", "(LTwocoin$House;I)I"⟩ ⟨"Twocoin", "houseFact", "(LTwocoin$House;I)I"⟩ ∈ TW := tw_m (tw_in0 (i := 29) rfl) rfl
theorem w_30 : Cond.selects "Twocoin" ⟨"Twocoin", "unpaidDebtsOf", "(LTwocoin$House;)I"⟩ ⟨"Twocoin", "unpaidDebtsOf", "(LTwocoin$House;)I"⟩ ∈ TW := tw_m (tw_in0 (i := 30) rfl) rfl
theorem w_31 : Cond.selects "Twocoin" ⟨"Twocoin", "unpaidDebtsTo", "(LTwocoin$House;)I"⟩ ⟨"Twocoin", "unpaidDebtsTo", "(LTwocoin$House;)I"⟩ ∈ TW := tw_m (tw_in0 (i := 31) rfl) rfl
theorem w_32 : Cond.selects "Twocoin" ⟨"Twocoin", "digestDebt", "(JLTwocoin$Debt;)J"⟩ ⟨"Twocoin", "digestDebt", "(JLTwocoin$Debt;)J"⟩ ∈ TW := tw_m (tw_in0 (i := 32) rfl) rfl
theorem w_33 : Cond.selects "Twocoin" ⟨"Twocoin", "debtFact", "(LTwocoin$Debt;I)I"⟩ ⟨"Twocoin", "debtFact", "(LTwocoin$Debt;I)I"⟩ ∈ TW := tw_m (tw_in0 (i := 33) rfl) rfl
theorem w_34 : Cond.selects "Twocoin$Debt" ⟨"Twocoin$Debt", "dueOn", "(I)I"⟩ ⟨"Twocoin$Debt", "dueOn", "(I)I"⟩ ∈ TW := tw_m (tw_in0 (i := 34) rfl) rfl
theorem w_35 : Cond.selects "Twocoin" ⟨"Twocoin", "cheaperMetal", "(LTwocoin$Debt;)I"⟩ ⟨"Twocoin", "cheaperMetal", "(LTwocoin$Debt;)I"⟩ ∈ TW := tw_m (tw_in0 (i := 35) rfl) rfl
theorem w_36 : Cond.selects "Twocoin$Country" ⟨"Twocoin$Country", "goldFor", "(I)I"⟩ ⟨"Twocoin$Country", "goldFor", "(I)I"⟩ ∈ TW := tw_m (tw_in0 (i := 36) rfl) rfl
theorem w_37 : Cond.selects "Twocoin" ⟨"Twocoin", "isRest", "(I)Z"⟩ ⟨"Twocoin", "isRest", "(I)Z"⟩ ∈ TW := tw_m (tw_in0 (i := 37) rfl) rfl
theorem w_38 : Cond.selects "java/lang/Throwable" ⟨"java/lang/Throwable", "fillInStackTrace", "(I)Ljava/lang/Throwable;"⟩ ⟨"java/lang/Throwable", "fillInStackTrace", "(I)Ljava/lang/Throwable;"⟩ ∈ TW := tw_m (tw_in0 (i := 38) rfl) rfl
theorem w_39 : Cond.selects "Twocoin$Metals" ⟨"Twocoin$Metals", "add", "(II)V"⟩ ⟨"Twocoin$Metals", "add", "(II)V"⟩ ∈ TW := tw_m (tw_in0 (i := 39) rfl) rfl
theorem w_40 : Cond.selects "Twocoin" ⟨"Twocoin", "countryAt", "(I)LTwocoin$Country;"⟩ ⟨"Twocoin", "countryAt", "(I)LTwocoin$Country;"⟩ ∈ TW := tw_m (tw_in0 (i := 40) rfl) rfl
theorem w_41 : Cond.selects "Twocoin$Country" ⟨"Twocoin$Country", "isOpenFor", "(I)Z"⟩ ⟨"Twocoin$Country", "isOpenFor", "(I)Z"⟩ ∈ TW := tw_m (tw_in0 (i := 41) rfl) rfl
theorem w_42 : Cond.selects "Twocoin$Country" ⟨"Twocoin$Country", "setOpenFor", "(IZ)V"⟩ ⟨"Twocoin$Country", "setOpenFor", "(IZ)V"⟩ ∈ TW := tw_m (tw_in0 (i := 42) rfl) rfl
theorem w_43 : Cond.selects "Twocoin$Country" ⟨"Twocoin$Country", "setRoadTo", "(III)V"⟩ ⟨"Twocoin$Country", "setRoadTo", "(III)V"⟩ ∈ TW := tw_m (tw_in0 (i := 43) rfl) rfl
theorem w_44 : Cond.selects "Twocoin" ⟨"Twocoin", "houseAt", "(I)LTwocoin$House;"⟩ ⟨"Twocoin", "houseAt", "(I)LTwocoin$House;"⟩ ∈ TW := tw_m (tw_in0 (i := 44) rfl) rfl
theorem w_45 : Cond.selects "Twocoin" ⟨"Twocoin", "payFreight", "(LTwocoin$Metals;II)V"⟩ ⟨"Twocoin", "payFreight", "(LTwocoin$Metals;II)V"⟩ ∈ TW := tw_m (tw_in0 (i := 45) rfl) rfl
theorem w_46 : Cond.selects "Twocoin$House" ⟨"Twocoin$House", "leaveFor", "(LTwocoin$Country;I)V"⟩ ⟨"Twocoin$House", "leaveFor", "(LTwocoin$Country;I)V"⟩ ∈ TW := tw_m (tw_in0 (i := 46) rfl) rfl
theorem w_47 : Cond.selects "Twocoin" ⟨"Twocoin", "beginDay", "()V"⟩ ⟨"Twocoin", "beginDay", "()V"⟩ ∈ TW := tw_m (tw_in0 (i := 47) rfl) rfl
theorem w_48 : Cond.selects "Twocoin$House" ⟨"Twocoin$House", "arriveBy", "(I)V"⟩ ⟨"Twocoin$House", "arriveBy", "(I)V"⟩ ∈ TW := tw_m (tw_in0 (i := 48) rfl) rfl
theorem w_49 : Cond.selects "Twocoin" ⟨"Twocoin", "wearVaults", "()V"⟩ ⟨"Twocoin", "wearVaults", "()V"⟩ ∈ TW := tw_m (tw_in0 (i := 49) rfl) rfl
theorem w_50 : Cond.selects "Twocoin" ⟨"Twocoin", "debtAt", "(I)LTwocoin$Debt;"⟩ ⟨"Twocoin", "debtAt", "(I)LTwocoin$Debt;"⟩ ∈ TW := tw_m (tw_in0 (i := 50) rfl) rfl
theorem w_51 : Cond.selects "Twocoin$Till" ⟨"Twocoin$Till", "setMany", "(II)V"⟩ ⟨"Twocoin$Till", "setMany", "(II)V"⟩ ∈ TW := tw_m (tw_in0 (i := 51) rfl) rfl
theorem w_52 : Cond.selects "Twocoin$Till" ⟨"Twocoin$Till", "takeOut", "(I)I"⟩ ⟨"Twocoin$Till", "takeOut", "(I)I"⟩ ∈ TW := tw_m (tw_in0 (i := 52) rfl) rfl
theorem w_53 : Cond.selects "TwocoinModel" ⟨"TwocoinModel", "start", "(ZI)Z"⟩ ⟨"TwocoinModel", "start", "(ZI)Z"⟩ ∈ TW := tw_m (tw_in0 (i := 53) rfl) rfl
theorem w_54 : Cond.selects "TwocoinModel" ⟨"TwocoinModel", "refuse", "(ZI)Z"⟩ ⟨"TwocoinModel", "refuse", "(ZI)Z"⟩ ∈ TW := tw_m (tw_in0 (i := 54) rfl) rfl
theorem w_55 : Cond.selects "java/util/ArrayList" ⟨"java/util/ArrayList", "add", "(Ljava/lang/Object;[Ljava/lang/Object;I)V"⟩ ⟨"java/util/ArrayList", "add", "(Ljava/lang/Object;[Ljava/lang/Object;I)V"⟩ ∈ TW := tw_m (tw_in0 (i := 55) rfl) rfl
theorem w_56 : Cond.selects "java/util/ArrayList" ⟨"java/util/ArrayList", "grow", "()[Ljava/lang/Object;"⟩ ⟨"java/util/ArrayList", "grow", "()[Ljava/lang/Object;"⟩ ∈ TW := tw_m (tw_in0 (i := 56) rfl) rfl
theorem w_57 : Cond.selects "java/util/ArrayList" ⟨"java/util/ArrayList", "grow", "(I)[Ljava/lang/Object;"⟩ ⟨"java/util/ArrayList", "grow", "(I)[Ljava/lang/Object;"⟩ ∈ TW := tw_m (tw_in0 (i := 57) rfl) rfl
theorem w_58 : Cond.selects "TwocoinModel" ⟨"TwocoinModel", "isNoCountry", "(I)Z"⟩ ⟨"TwocoinModel", "isNoCountry", "(I)Z"⟩ ∈ TW := tw_m (tw_in0 (i := 58) rfl) rfl
theorem w_59 : Cond.selects "TwocoinModel" ⟨"TwocoinModel", "isNoHouse", "(I)Z"⟩ ⟨"TwocoinModel", "isNoHouse", "(I)Z"⟩ ∈ TW := tw_m (tw_in0 (i := 59) rfl) rfl
theorem w_60 : Cond.selects "TwocoinModel" ⟨"TwocoinModel", "isNoChange", "(LTwocoinModel$House;II)Z"⟩ ⟨"TwocoinModel", "isNoChange", "(LTwocoinModel$House;II)Z"⟩ ∈ TW := tw_m (tw_in0 (i := 60) rfl) rfl
theorem w_61 : Cond.selects "TwocoinModel" ⟨"TwocoinModel", "isNoPay", "(LTwocoinModel$Debt;I)Z"⟩ ⟨"TwocoinModel", "isNoPay", "(LTwocoinModel$Debt;I)Z"⟩ ∈ TW := tw_m (tw_in0 (i := 61) rfl) rfl
theorem w_62 : Cond.selects "TwocoinModel" ⟨"TwocoinModel", "toPay", "(LTwocoinModel$Debt;I)J"⟩ ⟨"TwocoinModel", "toPay", "(LTwocoinModel$Debt;I)J"⟩ ∈ TW := tw_m (tw_in0 (i := 62) rfl) rfl
theorem w_63 : Cond.selects "TwocoinModel" ⟨"TwocoinModel", "due", "(LTwocoinModel$Debt;)I"⟩ ⟨"TwocoinModel", "due", "(LTwocoinModel$Debt;)I"⟩ ∈ TW := tw_m (tw_in0 (i := 63) rfl) rfl
theorem w_64 : Cond.selects "TwocoinModel" ⟨"TwocoinModel", "coinsNow", "(II)I"⟩ ⟨"TwocoinModel", "coinsNow", "(II)I"⟩ ∈ TW := tw_m (tw_in0 (i := 64) rfl) rfl
theorem w_65 : Cond.selects "TwocoinModel" ⟨"TwocoinModel", "ofCountryNow", "(II)I"⟩ ⟨"TwocoinModel", "ofCountryNow", "(II)I"⟩ ∈ TW := tw_m (tw_in0 (i := 65) rfl) rfl
theorem w_66 : Cond.selects "TwocoinModel" ⟨"TwocoinModel", "worth", "([J)J"⟩ ⟨"TwocoinModel", "worth", "([J)J"⟩ ∈ TW := tw_m (tw_in0 (i := 66) rfl) rfl
theorem w_67 : Cond.selects "TwocoinModel" ⟨"TwocoinModel", "ofHouseNow", "(II)I"⟩ ⟨"TwocoinModel", "ofHouseNow", "(II)I"⟩ ∈ TW := tw_m (tw_in0 (i := 67) rfl) rfl
theorem w_68 : Cond.selects "TwocoinModel" ⟨"TwocoinModel", "ofDebtNow", "(LTwocoinModel$Debt;I)I"⟩ ⟨"TwocoinModel", "ofDebtNow", "(LTwocoinModel$Debt;I)I"⟩ ∈ TW := tw_m (tw_in0 (i := 68) rfl) rfl
theorem w_69 : Cond.selects "TwocoinModel" ⟨"TwocoinModel", "cheaper", "(LTwocoinModel$Debt;)I"⟩ ⟨"TwocoinModel", "cheaper", "(LTwocoinModel$Debt;)I"⟩ ∈ TW := tw_m (tw_in0 (i := 69) rfl) rfl
theorem w_70 : Cond.selects "TwocoinModel" ⟨"TwocoinModel", "worldNow", "(II)I"⟩ ⟨"TwocoinModel", "worldNow", "(II)I"⟩ ∈ TW := tw_m (tw_in0 (i := 70) rfl) rfl
theorem w_71 : Cond.selects "TwocoinModel" ⟨"TwocoinModel", "tripNow", "(IIIJ)J"⟩ ⟨"TwocoinModel", "tripNow", "(IIIJ)J"⟩ ∈ TW := tw_m (tw_in0 (i := 71) rfl) rfl
theorem w_72 : Cond.selects "TwocoinModel" ⟨"TwocoinModel", "bestTripNow", "(III)I"⟩ ⟨"TwocoinModel", "bestTripNow", "(III)I"⟩ ∈ TW := tw_m (tw_in0 (i := 72) rfl) rfl
theorem w_73 : Cond.selects "TwocoinModel" ⟨"TwocoinModel", "restNow", "(I)Z"⟩ ⟨"TwocoinModel", "restNow", "(I)Z"⟩ ∈ TW := tw_m (tw_in0 (i := 73) rfl) rfl
theorem w_74 : Cond.selects "TwocoinModel" ⟨"TwocoinModel", "lastNow", "(III)I"⟩ ⟨"TwocoinModel", "lastNow", "(III)I"⟩ ∈ TW := tw_m (tw_in0 (i := 74) rfl) rfl
theorem w_75 : Cond.selects "TwocoinModel" ⟨"TwocoinModel", "isSoundNow", "()Z"⟩ ⟨"TwocoinModel", "isSoundNow", "()Z"⟩ ∈ TW := tw_m (tw_in0 (i := 75) rfl) rfl
theorem w_76 : (Jvm.Cond.initialized "TwocoinLaw") ∈ TW := tw_m (tw_in1 (i := 0) rfl) rfl
theorem w_77 : (Jvm.Cond.initialized "Twocoin") ∈ TW := tw_m (tw_in1 (i := 1) rfl) rfl
theorem w_78 : (Jvm.Cond.initialized "Twocoin$Metals") ∈ TW := tw_m (tw_in1 (i := 2) rfl) rfl
theorem w_79 : (Jvm.Cond.initialized "TwocoinModel") ∈ TW := tw_m (tw_in1 (i := 3) rfl) rfl
theorem w_80 : (Jvm.Cond.initialized "java/util/AbstractCollection") ∈ TW := tw_m (tw_in1 (i := 4) rfl) rfl
theorem w_81 : (Jvm.Cond.initialized "java/util/AbstractList") ∈ TW := tw_m (tw_in1 (i := 5) rfl) rfl
theorem w_82 : (Jvm.Cond.initialized "java/util/ArrayList") ∈ TW := tw_m (tw_in1 (i := 6) rfl) rfl
theorem w_83 : (Jvm.Cond.initialized "TwocoinLaw$Out") ∈ TW := tw_m (tw_in1 (i := 7) rfl) rfl
theorem w_84 : (Jvm.Cond.initialized "java/lang/Throwable") ∈ TW := tw_m (tw_in1 (i := 8) rfl) rfl
theorem w_85 : (Jvm.Cond.initialized "java/lang/Exception") ∈ TW := tw_m (tw_in1 (i := 9) rfl) rfl
theorem w_86 : (Jvm.Cond.initialized "java/lang/RuntimeException") ∈ TW := tw_m (tw_in1 (i := 10) rfl) rfl
theorem w_87 : (Jvm.Cond.initialized "java/lang/IllegalArgumentException") ∈ TW := tw_m (tw_in1 (i := 11) rfl) rfl
theorem w_88 : (Jvm.Cond.initialized "java/lang/IllegalStateException") ∈ TW := tw_m (tw_in1 (i := 12) rfl) rfl
theorem w_89 : (Jvm.Cond.initialized "Twocoin$Country") ∈ TW := tw_m (tw_in1 (i := 13) rfl) rfl
theorem w_90 : (Jvm.Cond.initialized "Twocoin$Till") ∈ TW := tw_m (tw_in1 (i := 14) rfl) rfl
theorem w_91 : (Jvm.Cond.initialized "TwocoinModel$Country") ∈ TW := tw_m (tw_in1 (i := 15) rfl) rfl
theorem w_92 : (Jvm.Cond.initialized "jdk/internal/util/ArraysSupport") ∈ TW := tw_m (tw_in1 (i := 16) rfl) rfl
theorem w_93 : (Jvm.Cond.initialized "java/lang/Math") ∈ TW := tw_m (tw_in1 (i := 17) rfl) rfl
theorem w_94 : (Jvm.Cond.initialized "java/util/Arrays") ∈ TW := tw_m (tw_in1 (i := 18) rfl) rfl
theorem w_95 : (Jvm.Cond.initialized "java/lang/System") ∈ TW := tw_m (tw_in1 (i := 19) rfl) rfl
theorem w_96 : (Jvm.Cond.initialized "java/lang/IndexOutOfBoundsException") ∈ TW := tw_m (tw_in1 (i := 20) rfl) rfl
theorem w_97 : (Jvm.Cond.initialized "java/util/Objects") ∈ TW := tw_m (tw_in1 (i := 21) rfl) rfl
theorem w_98 : (Jvm.Cond.initialized "jdk/internal/util/Preconditions") ∈ TW := tw_m (tw_in1 (i := 22) rfl) rfl
theorem w_99 : (Jvm.Cond.initialized "Twocoin$House") ∈ TW := tw_m (tw_in1 (i := 23) rfl) rfl
theorem w_100 : (Jvm.Cond.initialized "TwocoinModel$House") ∈ TW := tw_m (tw_in1 (i := 24) rfl) rfl
theorem w_101 : (Jvm.Cond.initialized "java/util/ArrayList$Itr") ∈ TW := tw_m (tw_in1 (i := 25) rfl) rfl
theorem w_102 : (Jvm.Cond.initialized "Twocoin$Debt") ∈ TW := tw_m (tw_in1 (i := 26) rfl) rfl
theorem w_103 : (Jvm.Cond.initialized "TwocoinModel$Debt") ∈ TW := tw_m (tw_in1 (i := 27) rfl) rfl
theorem w_104 : (Jvm.Cond.initialized "java/lang/AbstractStringBuilder") ∈ TW := tw_m (tw_in1 (i := 28) rfl) rfl
theorem w_105 : (Jvm.Cond.initialized "java/lang/StringBuilder") ∈ TW := tw_m (tw_in1 (i := 29) rfl) rfl
theorem w_106 : (Jvm.Cond.initialized "java/lang/String") ∈ TW := tw_m (tw_in1 (i := 30) rfl) rfl
theorem w_107 : (Jvm.Cond.initialized "java/lang/StringUTF16") ∈ TW := tw_m (tw_in1 (i := 31) rfl) rfl
theorem w_108 : (Jvm.Cond.initialized "java/lang/Number") ∈ TW := tw_m (tw_in1 (i := 32) rfl) rfl
theorem w_109 : (Jvm.Cond.initialized "java/lang/Integer") ∈ TW := tw_m (tw_in1 (i := 33) rfl) rfl
theorem w_110 : (Jvm.Cond.initialized "java/lang/StringLatin1") ∈ TW := tw_m (tw_in1 (i := 34) rfl) rfl
theorem w_111 : (Jvm.Cond.classLink "TwocoinLaw" (8 : Nat) "Twocoin") ∈ TW := tw_m (tw_in1 (i := 35) rfl) rfl
theorem w_112 : (Jvm.Cond.instantiable "Twocoin" (12 : Nat)) ∈ TW := tw_m (tw_in1 (i := 36) rfl) rfl
theorem w_113 : (Jvm.Cond.methodLink "TwocoinLaw" (107 : Nat) ({ cls := "Twocoin", name := "<init>", desc := "()V" } : Jvm.MethodName)) ∈ TW := tw_m (tw_in1 (i := 37) rfl) rfl
theorem w_114 : (Jvm.Cond.instanceMethod ({ cls := "Twocoin", name := "<init>", desc := "()V" } : Jvm.MethodName)) ∈ TW := tw_m (tw_in1 (i := 38) rfl) rfl
theorem w_115 : (Jvm.Cond.code ({ cls := "Twocoin", name := "<init>", desc := "()V" } : Jvm.MethodName) prog_1_method_1_code (1 : Nat) (Option.none : Option Jvm.ClassFile.FieldType)) ∈ TW := tw_m (tw_in1 (i := 39) rfl) rfl
theorem w_116 : (Jvm.Cond.methodLink "Twocoin" (1 : Nat) ({ cls := "java/lang/Object", name := "<init>", desc := "()V" } : Jvm.MethodName)) ∈ TW := tw_m (tw_in1 (i := 40) rfl) rfl
theorem w_117 : (Jvm.Cond.instanceMethod ({ cls := "java/lang/Object", name := "<init>", desc := "()V" } : Jvm.MethodName)) ∈ TW := tw_m (tw_in1 (i := 41) rfl) rfl
theorem w_118 : (Jvm.Cond.code ({ cls := "java/lang/Object", name := "<init>", desc := "()V" } : Jvm.MethodName) object_method_1_code (1 : Nat) (Option.none : Option Jvm.ClassFile.FieldType)) ∈ TW := tw_m (tw_in1 (i := 42) rfl) rfl
theorem w_119 : (Jvm.Cond.classLink "Twocoin" (13 : Nat) "Twocoin$Country") ∈ TW := tw_m (tw_in1 (i := 43) rfl) rfl
theorem w_120 : (Jvm.Cond.arrayOver (Jvm.ClassFile.FieldType.object "Twocoin$Country")) ∈ lw_tbl := tw_in1 (i := 44) rfl
theorem w_121 : (Jvm.Cond.classLink "Twocoin" (19 : Nat) "Twocoin$House") ∈ TW := tw_m (tw_in1 (i := 45) rfl) rfl
theorem w_122 : (Jvm.Cond.arrayOver (Jvm.ClassFile.FieldType.object "Twocoin$House")) ∈ lw_tbl := tw_in1 (i := 46) rfl
theorem w_123 : (Jvm.Cond.classLink "Twocoin" (25 : Nat) "Twocoin$Debt") ∈ TW := tw_m (tw_in1 (i := 47) rfl) rfl
theorem w_124 : (Jvm.Cond.arrayOver (Jvm.ClassFile.FieldType.object "Twocoin$Debt")) ∈ lw_tbl := tw_in1 (i := 48) rfl
theorem w_125 : (Jvm.Cond.classLink "Twocoin" (31 : Nat) "Twocoin$Metals") ∈ TW := tw_m (tw_in1 (i := 49) rfl) rfl
theorem w_126 : (Jvm.Cond.instantiable "Twocoin$Metals" (2 : Nat)) ∈ TW := tw_m (tw_in1 (i := 50) rfl) rfl
theorem w_127 : (Jvm.Cond.methodLinkNest "Twocoin" (33 : Nat) ({ cls := "Twocoin$Metals", name := "<init>", desc := "(II)V" } : Jvm.MethodName) "Twocoin") ∈ tw_NG := tw_n (tw_in1 (i := 51) rfl) rfl
theorem w_128 : (Jvm.Cond.instanceMethod ({ cls := "Twocoin$Metals", name := "<init>", desc := "(II)V" } : Jvm.MethodName)) ∈ TW := tw_m (tw_in1 (i := 52) rfl) rfl
theorem w_129 : (Jvm.Cond.code ({ cls := "Twocoin$Metals", name := "<init>", desc := "(II)V" } : Jvm.MethodName) prog_5_method_1_code (3 : Nat) (Option.none : Option Jvm.ClassFile.FieldType)) ∈ TW := tw_m (tw_in1 (i := 53) rfl) rfl
theorem w_130 : (Jvm.Cond.methodLink "Twocoin$Metals" (3 : Nat) ({ cls := "java/lang/Object", name := "<init>", desc := "()V" } : Jvm.MethodName)) ∈ TW := tw_m (tw_in1 (i := 54) rfl) rfl
theorem w_131 : (Jvm.Cond.fieldLink "Twocoin$Metals" (9 : Nat) "Twocoin$Metals" "gold" "I") ∈ TW := tw_m (tw_in1 (i := 55) rfl) rfl
theorem w_132 : (Jvm.Cond.fieldLinkNest "Twocoin" (250 : Nat) "Twocoin$Metals" "gold" "I" "Twocoin") ∈ tw_NG := tw_n (tw_in1 (i := 56) rfl) rfl
theorem w_133 : (Jvm.Cond.fieldLink "Twocoin$Metals" (15 : Nat) "Twocoin$Metals" "silver" "I") ∈ TW := tw_m (tw_in1 (i := 57) rfl) rfl
theorem w_134 : (Jvm.Cond.fieldLinkNest "Twocoin" (185 : Nat) "Twocoin$Metals" "silver" "I" "Twocoin") ∈ tw_NG := tw_n (tw_in1 (i := 58) rfl) rfl
theorem w_135 : (Jvm.Cond.lays "Twocoin$Metals" "Twocoin$Metals" "gold" "I") ∈ TW := tw_m (tw_in1 (i := 59) rfl) rfl
theorem w_136 : (Jvm.Cond.soleField "Twocoin$Metals" "gold") ∈ TW := tw_m (tw_in1 (i := 60) rfl) rfl
theorem w_137 : (Jvm.Cond.lays "Twocoin$Metals" "Twocoin$Metals" "silver" "I") ∈ TW := tw_m (tw_in1 (i := 61) rfl) rfl
theorem w_138 : (Jvm.Cond.soleField "Twocoin$Metals" "silver") ∈ TW := tw_m (tw_in1 (i := 62) rfl) rfl
theorem w_139 : (Jvm.Cond.superclass "Twocoin$Metals" "java/lang/Object") ∈ TW := tw_m (tw_in1 (i := 63) rfl) rfl
theorem w_140 : (Jvm.Cond.fieldLink "Twocoin" (158 : Nat) "Twocoin" "today" "I") ∈ TW := tw_m (tw_in1 (i := 64) rfl) rfl
theorem w_141 : (Jvm.Cond.fieldLink "Twocoin" (9 : Nat) "Twocoin" "market" "I") ∈ TW := tw_m (tw_in1 (i := 65) rfl) rfl
theorem w_142 : (Jvm.Cond.fieldLink "Twocoin" (15 : Nat) "Twocoin" "countries" "[LTwocoin$Country;") ∈ TW := tw_m (tw_in1 (i := 66) rfl) rfl
theorem w_143 : (Jvm.Cond.fieldLink "Twocoin" (57 : Nat) "Twocoin" "countryCount" "I") ∈ TW := tw_m (tw_in1 (i := 67) rfl) rfl
theorem w_144 : (Jvm.Cond.fieldLink "Twocoin" (21 : Nat) "Twocoin" "houses" "[LTwocoin$House;") ∈ TW := tw_m (tw_in1 (i := 68) rfl) rfl
theorem w_145 : (Jvm.Cond.fieldLink "Twocoin" (119 : Nat) "Twocoin" "houseCount" "I") ∈ TW := tw_m (tw_in1 (i := 69) rfl) rfl
theorem w_146 : (Jvm.Cond.fieldLink "Twocoin" (27 : Nat) "Twocoin" "debts" "[LTwocoin$Debt;") ∈ TW := tw_m (tw_in1 (i := 70) rfl) rfl
theorem w_147 : (Jvm.Cond.fieldLink "Twocoin" (188 : Nat) "Twocoin" "debtCount" "I") ∈ TW := tw_m (tw_in1 (i := 71) rfl) rfl
theorem w_148 : (Jvm.Cond.fieldLink "Twocoin" (36 : Nat) "Twocoin" "carried" "LTwocoin$Metals;") ∈ TW := tw_m (tw_in1 (i := 72) rfl) rfl
theorem w_149 : (Jvm.Cond.fieldLink "Twocoin" (40 : Nat) "Twocoin" "used" "LTwocoin$Metals;") ∈ TW := tw_m (tw_in1 (i := 73) rfl) rfl
theorem w_150 : (Jvm.Cond.fieldLink "Twocoin" (43 : Nat) "Twocoin" "worn" "LTwocoin$Metals;") ∈ TW := tw_m (tw_in1 (i := 74) rfl) rfl
theorem w_151 : (Jvm.Cond.fieldLink "Twocoin" (46 : Nat) "Twocoin" "came" "LTwocoin$Metals;") ∈ TW := tw_m (tw_in1 (i := 75) rfl) rfl
theorem w_152 : (Jvm.Cond.lays "Twocoin" "Twocoin" "today" "I") ∈ TW := tw_m (tw_in1 (i := 76) rfl) rfl
theorem w_153 : (Jvm.Cond.soleField "Twocoin" "today") ∈ TW := tw_m (tw_in1 (i := 77) rfl) rfl
theorem w_154 : (Jvm.Cond.lays "Twocoin" "Twocoin" "market" "I") ∈ TW := tw_m (tw_in1 (i := 78) rfl) rfl
theorem w_155 : (Jvm.Cond.soleField "Twocoin" "market") ∈ TW := tw_m (tw_in1 (i := 79) rfl) rfl
theorem w_156 : (Jvm.Cond.laysFinal "Twocoin" "Twocoin" "countries" "[LTwocoin$Country;") ∈ TW := tw_m (tw_in1 (i := 80) rfl) rfl
theorem w_157 : (Jvm.Cond.soleField "Twocoin" "countries") ∈ TW := tw_m (tw_in1 (i := 81) rfl) rfl
theorem w_158 : (Jvm.Cond.lays "Twocoin" "Twocoin" "countryCount" "I") ∈ TW := tw_m (tw_in1 (i := 82) rfl) rfl
theorem w_159 : (Jvm.Cond.soleField "Twocoin" "countryCount") ∈ TW := tw_m (tw_in1 (i := 83) rfl) rfl
theorem w_160 : (Jvm.Cond.laysFinal "Twocoin" "Twocoin" "houses" "[LTwocoin$House;") ∈ TW := tw_m (tw_in1 (i := 84) rfl) rfl
theorem w_161 : (Jvm.Cond.soleField "Twocoin" "houses") ∈ TW := tw_m (tw_in1 (i := 85) rfl) rfl
theorem w_162 : (Jvm.Cond.lays "Twocoin" "Twocoin" "houseCount" "I") ∈ TW := tw_m (tw_in1 (i := 86) rfl) rfl
theorem w_163 : (Jvm.Cond.soleField "Twocoin" "houseCount") ∈ TW := tw_m (tw_in1 (i := 87) rfl) rfl
theorem w_164 : (Jvm.Cond.laysFinal "Twocoin" "Twocoin" "debts" "[LTwocoin$Debt;") ∈ TW := tw_m (tw_in1 (i := 88) rfl) rfl
theorem w_165 : (Jvm.Cond.soleField "Twocoin" "debts") ∈ TW := tw_m (tw_in1 (i := 89) rfl) rfl
theorem w_166 : (Jvm.Cond.lays "Twocoin" "Twocoin" "debtCount" "I") ∈ TW := tw_m (tw_in1 (i := 90) rfl) rfl
theorem w_167 : (Jvm.Cond.soleField "Twocoin" "debtCount") ∈ TW := tw_m (tw_in1 (i := 91) rfl) rfl
theorem w_168 : (Jvm.Cond.laysFinal "Twocoin" "Twocoin" "carried" "LTwocoin$Metals;") ∈ TW := tw_m (tw_in1 (i := 92) rfl) rfl
theorem w_169 : (Jvm.Cond.soleField "Twocoin" "carried") ∈ TW := tw_m (tw_in1 (i := 93) rfl) rfl
theorem w_170 : (Jvm.Cond.laysFinal "Twocoin" "Twocoin" "used" "LTwocoin$Metals;") ∈ TW := tw_m (tw_in1 (i := 94) rfl) rfl
theorem w_171 : (Jvm.Cond.soleField "Twocoin" "used") ∈ TW := tw_m (tw_in1 (i := 95) rfl) rfl
theorem w_172 : (Jvm.Cond.laysFinal "Twocoin" "Twocoin" "worn" "LTwocoin$Metals;") ∈ TW := tw_m (tw_in1 (i := 96) rfl) rfl
theorem w_173 : (Jvm.Cond.soleField "Twocoin" "worn") ∈ TW := tw_m (tw_in1 (i := 97) rfl) rfl
theorem w_174 : (Jvm.Cond.laysFinal "Twocoin" "Twocoin" "came" "LTwocoin$Metals;") ∈ TW := tw_m (tw_in1 (i := 98) rfl) rfl
theorem w_175 : (Jvm.Cond.soleField "Twocoin" "came") ∈ TW := tw_m (tw_in1 (i := 99) rfl) rfl
theorem w_176 : (Jvm.Cond.superclass "Twocoin" "java/lang/Object") ∈ TW := tw_m (tw_in1 (i := 100) rfl) rfl
theorem w_177 : (Jvm.Cond.methodLink "TwocoinLaw" (194 : Nat) ({ cls := "Twocoin", name := "isSound", desc := "()Z" } : Jvm.MethodName)) ∈ TW := tw_m (tw_in1 (i := 101) rfl) rfl
theorem w_178 : (Jvm.Cond.instanceMethod ({ cls := "Twocoin", name := "isSound", desc := "()Z" } : Jvm.MethodName)) ∈ TW := tw_m (tw_in1 (i := 102) rfl) rfl
theorem w_179 : (Jvm.Cond.selects "Twocoin" ({ cls := "Twocoin", name := "isSound", desc := "()Z" } : Jvm.MethodName) ({ cls := "Twocoin", name := "isSound", desc := "()Z" } : Jvm.MethodName)) ∈ TW := tw_m (tw_in1 (i := 103) rfl) rfl
theorem w_180 : (Jvm.Cond.code ({ cls := "Twocoin", name := "isSound", desc := "()Z" } : Jvm.MethodName) prog_1_method_46_code (1 : Nat) (Option.some Jvm.ClassFile.FieldType.boolean)) ∈ TW := tw_m (tw_in1 (i := 104) rfl) rfl
theorem w_181 : (Jvm.Cond.methodLink "Twocoin" (344 : Nat) ({ cls := "Twocoin", name := "isKept", desc := "(I)Z" } : Jvm.MethodName)) ∈ TW := tw_m (tw_in1 (i := 105) rfl) rfl
theorem w_182 : (Jvm.Cond.privateMethod ({ cls := "Twocoin", name := "isKept", desc := "(I)Z" } : Jvm.MethodName)) ∈ lw_tbl := tw_in1 (i := 106) rfl
theorem w_183 : (Jvm.Cond.instanceMethod ({ cls := "Twocoin", name := "isKept", desc := "(I)Z" } : Jvm.MethodName)) ∈ TW := tw_m (tw_in1 (i := 107) rfl) rfl
theorem w_184 : (Jvm.Cond.code ({ cls := "Twocoin", name := "isKept", desc := "(I)Z" } : Jvm.MethodName) prog_1_method_47_code (3 : Nat) (Option.some Jvm.ClassFile.FieldType.boolean)) ∈ TW := tw_m (tw_in1 (i := 108) rfl) rfl
theorem w_185 : (Jvm.Cond.methodLink "Twocoin" (309 : Nat) ({ cls := "Twocoin", name := "inVaults", desc := "(I)I" } : Jvm.MethodName)) ∈ TW := tw_m (tw_in1 (i := 109) rfl) rfl
theorem w_186 : (Jvm.Cond.privateMethod ({ cls := "Twocoin", name := "inVaults", desc := "(I)I" } : Jvm.MethodName)) ∈ lw_tbl := tw_in1 (i := 110) rfl
theorem w_187 : (Jvm.Cond.instanceMethod ({ cls := "Twocoin", name := "inVaults", desc := "(I)I" } : Jvm.MethodName)) ∈ TW := tw_m (tw_in1 (i := 111) rfl) rfl
theorem w_188 : (Jvm.Cond.code ({ cls := "Twocoin", name := "inVaults", desc := "(I)I" } : Jvm.MethodName) prog_1_method_35_code (7 : Nat) (Option.some Jvm.ClassFile.FieldType.int)) ∈ TW := tw_m (tw_in1 (i := 112) rfl) rfl
theorem w_189 : (Jvm.Cond.methodLinkNest "Twocoin" (111 : Nat) ({ cls := "Twocoin$Metals", name := "of", desc := "(I)I" } : Jvm.MethodName) "Twocoin") ∈ tw_NG := tw_n (tw_in1 (i := 113) rfl) rfl
theorem w_190 : (Jvm.Cond.privateMethod ({ cls := "Twocoin$Metals", name := "of", desc := "(I)I" } : Jvm.MethodName)) ∈ lw_tbl := tw_in1 (i := 114) rfl
theorem w_191 : (Jvm.Cond.instanceMethod ({ cls := "Twocoin$Metals", name := "of", desc := "(I)I" } : Jvm.MethodName)) ∈ TW := tw_m (tw_in1 (i := 115) rfl) rfl
theorem w_192 : (Jvm.Cond.code ({ cls := "Twocoin$Metals", name := "of", desc := "(I)I" } : Jvm.MethodName) prog_5_method_2_code (2 : Nat) (Option.some Jvm.ClassFile.FieldType.int)) ∈ TW := tw_m (tw_in1 (i := 116) rfl) rfl
theorem w_193 : (Jvm.Cond.methodLink "Twocoin" (312 : Nat) ({ cls := "Twocoin", name := "inPurses", desc := "(I)I" } : Jvm.MethodName)) ∈ TW := tw_m (tw_in1 (i := 117) rfl) rfl
theorem w_194 : (Jvm.Cond.privateMethod ({ cls := "Twocoin", name := "inPurses", desc := "(I)I" } : Jvm.MethodName)) ∈ lw_tbl := tw_in1 (i := 118) rfl
theorem w_195 : (Jvm.Cond.instanceMethod ({ cls := "Twocoin", name := "inPurses", desc := "(I)I" } : Jvm.MethodName)) ∈ TW := tw_m (tw_in1 (i := 119) rfl) rfl
theorem w_196 : (Jvm.Cond.code ({ cls := "Twocoin", name := "inPurses", desc := "(I)I" } : Jvm.MethodName) prog_1_method_36_code (7 : Nat) (Option.some Jvm.ClassFile.FieldType.int)) ∈ TW := tw_m (tw_in1 (i := 120) rfl) rfl
theorem w_197 : (Jvm.Cond.methodLink "Twocoin" (347 : Nat) ({ cls := "Twocoin", name := "areCountriesSound", desc := "()Z" } : Jvm.MethodName)) ∈ TW := tw_m (tw_in1 (i := 121) rfl) rfl
theorem w_198 : (Jvm.Cond.privateMethod ({ cls := "Twocoin", name := "areCountriesSound", desc := "()Z" } : Jvm.MethodName)) ∈ lw_tbl := tw_in1 (i := 122) rfl
theorem w_199 : (Jvm.Cond.instanceMethod ({ cls := "Twocoin", name := "areCountriesSound", desc := "()Z" } : Jvm.MethodName)) ∈ TW := tw_m (tw_in1 (i := 123) rfl) rfl
theorem w_200 : (Jvm.Cond.code ({ cls := "Twocoin", name := "areCountriesSound", desc := "()Z" } : Jvm.MethodName) prog_1_method_48_code (5 : Nat) (Option.some Jvm.ClassFile.FieldType.boolean)) ∈ TW := tw_m (tw_in1 (i := 124) rfl) rfl
theorem w_201 : (Jvm.Cond.methodLinkNest "Twocoin" (357 : Nat) ({ cls := "Twocoin$Metals", name := "isBelowZero", desc := "()Z" } : Jvm.MethodName) "Twocoin") ∈ tw_NG := tw_n (tw_in1 (i := 125) rfl) rfl
theorem w_202 : (Jvm.Cond.privateMethod ({ cls := "Twocoin$Metals", name := "isBelowZero", desc := "()Z" } : Jvm.MethodName)) ∈ lw_tbl := tw_in1 (i := 126) rfl
theorem w_203 : (Jvm.Cond.instanceMethod ({ cls := "Twocoin$Metals", name := "isBelowZero", desc := "()Z" } : Jvm.MethodName)) ∈ TW := tw_m (tw_in1 (i := 127) rfl) rfl
theorem w_204 : (Jvm.Cond.code ({ cls := "Twocoin$Metals", name := "isBelowZero", desc := "()Z" } : Jvm.MethodName) prog_5_method_5_code (1 : Nat) (Option.some Jvm.ClassFile.FieldType.boolean)) ∈ TW := tw_m (tw_in1 (i := 128) rfl) rfl
theorem w_205 : (Jvm.Cond.methodLinkNest "Twocoin" (360 : Nat) ({ cls := "Twocoin$Till", name := "isBelowZero", desc := "()Z" } : Jvm.MethodName) "Twocoin") ∈ tw_NG := tw_n (tw_in1 (i := 129) rfl) rfl
theorem w_206 : (Jvm.Cond.privateMethod ({ cls := "Twocoin$Till", name := "isBelowZero", desc := "()Z" } : Jvm.MethodName)) ∈ lw_tbl := tw_in1 (i := 130) rfl
theorem w_207 : (Jvm.Cond.instanceMethod ({ cls := "Twocoin$Till", name := "isBelowZero", desc := "()Z" } : Jvm.MethodName)) ∈ TW := tw_m (tw_in1 (i := 131) rfl) rfl
theorem w_208 : (Jvm.Cond.instantiable "Twocoin$Till" (1 : Nat)) ∈ TW := tw_m (tw_in1 (i := 132) rfl) rfl
theorem w_209 : (Jvm.Cond.code ({ cls := "Twocoin$Till", name := "isBelowZero", desc := "()Z" } : Jvm.MethodName) prog_6_method_7_code (5 : Nat) (Option.some Jvm.ClassFile.FieldType.boolean)) ∈ TW := tw_m (tw_in1 (i := 133) rfl) rfl
theorem w_210 : (Jvm.Cond.methodLink "Twocoin" (351 : Nat) ({ cls := "Twocoin", name := "areHousesSound", desc := "()Z" } : Jvm.MethodName)) ∈ TW := tw_m (tw_in1 (i := 134) rfl) rfl
theorem w_211 : (Jvm.Cond.privateMethod ({ cls := "Twocoin", name := "areHousesSound", desc := "()Z" } : Jvm.MethodName)) ∈ lw_tbl := tw_in1 (i := 135) rfl
theorem w_212 : (Jvm.Cond.instanceMethod ({ cls := "Twocoin", name := "areHousesSound", desc := "()Z" } : Jvm.MethodName)) ∈ TW := tw_m (tw_in1 (i := 136) rfl) rfl
theorem w_213 : (Jvm.Cond.code ({ cls := "Twocoin", name := "areHousesSound", desc := "()Z" } : Jvm.MethodName) prog_1_method_49_code (5 : Nat) (Option.some Jvm.ClassFile.FieldType.boolean)) ∈ TW := tw_m (tw_in1 (i := 137) rfl) rfl
theorem w_214 : (Jvm.Cond.methodLinkNest "Twocoin" (361 : Nat) ({ cls := "Twocoin$House", name := "isLateOn", desc := "(I)Z" } : Jvm.MethodName) "Twocoin") ∈ tw_NG := tw_n (tw_in1 (i := 138) rfl) rfl
theorem w_215 : (Jvm.Cond.privateMethod ({ cls := "Twocoin$House", name := "isLateOn", desc := "(I)Z" } : Jvm.MethodName)) ∈ lw_tbl := tw_in1 (i := 139) rfl
theorem w_216 : (Jvm.Cond.instanceMethod ({ cls := "Twocoin$House", name := "isLateOn", desc := "(I)Z" } : Jvm.MethodName)) ∈ TW := tw_m (tw_in1 (i := 140) rfl) rfl
theorem w_217 : (Jvm.Cond.instantiable "Twocoin$House" (5 : Nat)) ∈ TW := tw_m (tw_in1 (i := 141) rfl) rfl
theorem w_218 : (Jvm.Cond.code ({ cls := "Twocoin$House", name := "isLateOn", desc := "(I)Z" } : Jvm.MethodName) prog_4_method_4_code (2 : Nat) (Option.some Jvm.ClassFile.FieldType.boolean)) ∈ TW := tw_m (tw_in1 (i := 142) rfl) rfl
theorem w_219 : (Jvm.Cond.methodLink "Twocoin" (354 : Nat) ({ cls := "Twocoin", name := "areRoadsTheSame", desc := "()Z" } : Jvm.MethodName)) ∈ TW := tw_m (tw_in1 (i := 143) rfl) rfl
theorem w_220 : (Jvm.Cond.privateMethod ({ cls := "Twocoin", name := "areRoadsTheSame", desc := "()Z" } : Jvm.MethodName)) ∈ lw_tbl := tw_in1 (i := 144) rfl
theorem w_221 : (Jvm.Cond.instanceMethod ({ cls := "Twocoin", name := "areRoadsTheSame", desc := "()Z" } : Jvm.MethodName)) ∈ TW := tw_m (tw_in1 (i := 145) rfl) rfl
theorem w_222 : (Jvm.Cond.code ({ cls := "Twocoin", name := "areRoadsTheSame", desc := "()Z" } : Jvm.MethodName) prog_1_method_50_code (9 : Nat) (Option.some Jvm.ClassFile.FieldType.boolean)) ∈ TW := tw_m (tw_in1 (i := 146) rfl) rfl
theorem w_223 : (Jvm.Cond.methodLink "Twocoin" (364 : Nat) ({ cls := "Twocoin", name := "hasSameRoads", desc := "(LTwocoin$Country;LTwocoin$Country;)Z" } : Jvm.MethodName)) ∈ TW := tw_m (tw_in1 (i := 147) rfl) rfl
theorem w_224 : (Jvm.Cond.static ({ cls := "Twocoin", name := "hasSameRoads", desc := "(LTwocoin$Country;LTwocoin$Country;)Z" } : Jvm.MethodName)) ∈ TW := tw_m (tw_in1 (i := 148) rfl) rfl
theorem w_225 : (Jvm.Cond.code ({ cls := "Twocoin", name := "hasSameRoads", desc := "(LTwocoin$Country;LTwocoin$Country;)Z" } : Jvm.MethodName) prog_1_method_51_code (2 : Nat) (Option.some Jvm.ClassFile.FieldType.boolean)) ∈ TW := tw_m (tw_in1 (i := 149) rfl) rfl
theorem w_226 : (Jvm.Cond.methodLinkNest "Twocoin" (101 : Nat) ({ cls := "Twocoin$Country", name := "daysTo", desc := "(I)I" } : Jvm.MethodName) "Twocoin") ∈ tw_NG := tw_n (tw_in1 (i := 150) rfl) rfl
theorem w_227 : (Jvm.Cond.privateMethod ({ cls := "Twocoin$Country", name := "daysTo", desc := "(I)I" } : Jvm.MethodName)) ∈ lw_tbl := tw_in1 (i := 151) rfl
theorem w_228 : (Jvm.Cond.instanceMethod ({ cls := "Twocoin$Country", name := "daysTo", desc := "(I)I" } : Jvm.MethodName)) ∈ TW := tw_m (tw_in1 (i := 152) rfl) rfl
theorem w_229 : (Jvm.Cond.instantiable "Twocoin$Country" (9 : Nat)) ∈ TW := tw_m (tw_in1 (i := 153) rfl) rfl
theorem w_230 : (Jvm.Cond.code ({ cls := "Twocoin$Country", name := "daysTo", desc := "(I)I" } : Jvm.MethodName) prog_2_method_9_code (2 : Nat) (Option.some Jvm.ClassFile.FieldType.int)) ∈ TW := tw_m (tw_in1 (i := 154) rfl) rfl
theorem w_231 : (Jvm.Cond.methodLinkNest "Twocoin" (151 : Nat) ({ cls := "Twocoin$Country", name := "freightTo", desc := "(I)I" } : Jvm.MethodName) "Twocoin") ∈ tw_NG := tw_n (tw_in1 (i := 155) rfl) rfl
theorem w_232 : (Jvm.Cond.privateMethod ({ cls := "Twocoin$Country", name := "freightTo", desc := "(I)I" } : Jvm.MethodName)) ∈ lw_tbl := tw_in1 (i := 156) rfl
theorem w_233 : (Jvm.Cond.instanceMethod ({ cls := "Twocoin$Country", name := "freightTo", desc := "(I)I" } : Jvm.MethodName)) ∈ TW := tw_m (tw_in1 (i := 157) rfl) rfl
theorem w_234 : (Jvm.Cond.code ({ cls := "Twocoin$Country", name := "freightTo", desc := "(I)I" } : Jvm.MethodName) prog_2_method_10_code (2 : Nat) (Option.some Jvm.ClassFile.FieldType.int)) ∈ TW := tw_m (tw_in1 (i := 158) rfl) rfl
theorem w_235 : (Jvm.Cond.methodLink "TwocoinLaw" (199 : Nat) ({ cls := "Twocoin", name := "digest", desc := "()J" } : Jvm.MethodName)) ∈ TW := tw_m (tw_in1 (i := 159) rfl) rfl
theorem w_236 : (Jvm.Cond.instanceMethod ({ cls := "Twocoin", name := "digest", desc := "()J" } : Jvm.MethodName)) ∈ TW := tw_m (tw_in1 (i := 160) rfl) rfl
theorem w_237 : (Jvm.Cond.selects "Twocoin" ({ cls := "Twocoin", name := "digest", desc := "()J" } : Jvm.MethodName) ({ cls := "Twocoin", name := "digest", desc := "()J" } : Jvm.MethodName)) ∈ TW := tw_m (tw_in1 (i := 161) rfl) rfl
theorem w_238 : (Jvm.Cond.code ({ cls := "Twocoin", name := "digest", desc := "()J" } : Jvm.MethodName) prog_1_method_52_code (7 : Nat) (Option.some Jvm.ClassFile.FieldType.long)) ∈ TW := tw_m (tw_in1 (i := 162) rfl) rfl
theorem w_239 : (Jvm.Cond.constantLong "Twocoin" (368 : Nat) (5573 : Int64)) ∈ TW := tw_m (tw_in1 (i := 163) rfl) rfl
theorem w_240 : (Jvm.Cond.constantLong "Twocoin" (370 : Nat) (31 : Int64)) ∈ TW := tw_m (tw_in1 (i := 164) rfl) rfl
theorem w_241 : (Jvm.Cond.methodLink "Twocoin" (372 : Nat) ({ cls := "Twocoin", name := "digestWorld", desc := "(JI)J" } : Jvm.MethodName)) ∈ TW := tw_m (tw_in1 (i := 165) rfl) rfl
theorem w_242 : (Jvm.Cond.privateMethod ({ cls := "Twocoin", name := "digestWorld", desc := "(JI)J" } : Jvm.MethodName)) ∈ lw_tbl := tw_in1 (i := 166) rfl
theorem w_243 : (Jvm.Cond.instanceMethod ({ cls := "Twocoin", name := "digestWorld", desc := "(JI)J" } : Jvm.MethodName)) ∈ TW := tw_m (tw_in1 (i := 167) rfl) rfl
theorem w_244 : (Jvm.Cond.code ({ cls := "Twocoin", name := "digestWorld", desc := "(JI)J" } : Jvm.MethodName) prog_1_method_53_code (7 : Nat) (Option.some Jvm.ClassFile.FieldType.long)) ∈ TW := tw_m (tw_in1 (i := 168) rfl) rfl
theorem w_245 : (Jvm.Cond.methodLink "Twocoin" (306 : Nat) ({ cls := "Twocoin", name := "worldFact", desc := "(II)I" } : Jvm.MethodName)) ∈ TW := tw_m (tw_in1 (i := 169) rfl) rfl
theorem w_246 : (Jvm.Cond.privateMethod ({ cls := "Twocoin", name := "worldFact", desc := "(II)I" } : Jvm.MethodName)) ∈ lw_tbl := tw_in1 (i := 170) rfl
theorem w_247 : (Jvm.Cond.instanceMethod ({ cls := "Twocoin", name := "worldFact", desc := "(II)I" } : Jvm.MethodName)) ∈ TW := tw_m (tw_in1 (i := 171) rfl) rfl
theorem w_248 : (Jvm.Cond.code ({ cls := "Twocoin", name := "worldFact", desc := "(II)I" } : Jvm.MethodName) prog_1_method_34_code (3 : Nat) (Option.some Jvm.ClassFile.FieldType.int)) ∈ TW := tw_m (tw_in1 (i := 172) rfl) rfl
theorem w_249 : (Jvm.Cond.methodLink "Twocoin" (376 : Nat) ({ cls := "Twocoin", name := "digestCountry", desc := "(JLTwocoin$Country;)J" } : Jvm.MethodName)) ∈ TW := tw_m (tw_in1 (i := 173) rfl) rfl
theorem w_250 : (Jvm.Cond.privateMethod ({ cls := "Twocoin", name := "digestCountry", desc := "(JLTwocoin$Country;)J" } : Jvm.MethodName)) ∈ lw_tbl := tw_in1 (i := 174) rfl
theorem w_251 : (Jvm.Cond.instanceMethod ({ cls := "Twocoin", name := "digestCountry", desc := "(JLTwocoin$Country;)J" } : Jvm.MethodName)) ∈ TW := tw_m (tw_in1 (i := 175) rfl) rfl
theorem w_252 : (Jvm.Cond.code ({ cls := "Twocoin", name := "digestCountry", desc := "(JLTwocoin$Country;)J" } : Jvm.MethodName) prog_1_method_54_code (7 : Nat) (Option.some Jvm.ClassFile.FieldType.long)) ∈ TW := tw_m (tw_in1 (i := 176) rfl) rfl
theorem w_253 : (Jvm.Cond.methodLink "Twocoin" (246 : Nat) ({ cls := "Twocoin", name := "countryFact", desc := "(LTwocoin$Country;I)I" } : Jvm.MethodName)) ∈ TW := tw_m (tw_in1 (i := 177) rfl) rfl
theorem w_254 : (Jvm.Cond.privateMethod ({ cls := "Twocoin", name := "countryFact", desc := "(LTwocoin$Country;I)I" } : Jvm.MethodName)) ∈ lw_tbl := tw_in1 (i := 178) rfl
theorem w_255 : (Jvm.Cond.instanceMethod ({ cls := "Twocoin", name := "countryFact", desc := "(LTwocoin$Country;I)I" } : Jvm.MethodName)) ∈ TW := tw_m (tw_in1 (i := 179) rfl) rfl
theorem w_256 : (Jvm.Cond.code ({ cls := "Twocoin", name := "countryFact", desc := "(LTwocoin$Country;I)I" } : Jvm.MethodName) prog_1_method_22_code (3 : Nat) (Option.some Jvm.ClassFile.FieldType.int)) ∈ TW := tw_m (tw_in1 (i := 180) rfl) rfl
theorem w_257 : (Jvm.Cond.methodLinkNest "Twocoin" (253 : Nat) ({ cls := "Twocoin$Country", name := "openSet", desc := "()I" } : Jvm.MethodName) "Twocoin") ∈ tw_NG := tw_n (tw_in1 (i := 181) rfl) rfl
theorem w_258 : (Jvm.Cond.privateMethod ({ cls := "Twocoin$Country", name := "openSet", desc := "()I" } : Jvm.MethodName)) ∈ lw_tbl := tw_in1 (i := 182) rfl
theorem w_259 : (Jvm.Cond.instanceMethod ({ cls := "Twocoin$Country", name := "openSet", desc := "()I" } : Jvm.MethodName)) ∈ TW := tw_m (tw_in1 (i := 183) rfl) rfl
theorem w_260 : (Jvm.Cond.code ({ cls := "Twocoin$Country", name := "openSet", desc := "()I" } : Jvm.MethodName) prog_2_method_4_code (1 : Nat) (Option.some Jvm.ClassFile.FieldType.int)) ∈ TW := tw_m (tw_in1 (i := 184) rfl) rfl
theorem w_261 : (Jvm.Cond.methodLink "Twocoin" (257 : Nat) ({ cls := "Twocoin", name := "housesIn", desc := "(LTwocoin$Country;)I" } : Jvm.MethodName)) ∈ TW := tw_m (tw_in1 (i := 185) rfl) rfl
theorem w_262 : (Jvm.Cond.privateMethod ({ cls := "Twocoin", name := "housesIn", desc := "(LTwocoin$Country;)I" } : Jvm.MethodName)) ∈ lw_tbl := tw_in1 (i := 186) rfl
theorem w_263 : (Jvm.Cond.instanceMethod ({ cls := "Twocoin", name := "housesIn", desc := "(LTwocoin$Country;)I" } : Jvm.MethodName)) ∈ TW := tw_m (tw_in1 (i := 187) rfl) rfl
theorem w_264 : (Jvm.Cond.code ({ cls := "Twocoin", name := "housesIn", desc := "(LTwocoin$Country;)I" } : Jvm.MethodName) prog_1_method_23_code (7 : Nat) (Option.some Jvm.ClassFile.FieldType.int)) ∈ TW := tw_m (tw_in1 (i := 188) rfl) rfl
theorem w_265 : (Jvm.Cond.methodLinkNest "Twocoin" (261 : Nat) ({ cls := "Twocoin$Metals", name := "worth", desc := "(I)I" } : Jvm.MethodName) "Twocoin") ∈ tw_NG := tw_n (tw_in1 (i := 189) rfl) rfl
theorem w_266 : (Jvm.Cond.privateMethod ({ cls := "Twocoin$Metals", name := "worth", desc := "(I)I" } : Jvm.MethodName)) ∈ lw_tbl := tw_in1 (i := 190) rfl
theorem w_267 : (Jvm.Cond.instanceMethod ({ cls := "Twocoin$Metals", name := "worth", desc := "(I)I" } : Jvm.MethodName)) ∈ TW := tw_m (tw_in1 (i := 191) rfl) rfl
theorem w_268 : (Jvm.Cond.code ({ cls := "Twocoin$Metals", name := "worth", desc := "(I)I" } : Jvm.MethodName) prog_5_method_4_code (2 : Nat) (Option.some Jvm.ClassFile.FieldType.int)) ∈ TW := tw_m (tw_in1 (i := 192) rfl) rfl
theorem w_269 : (Jvm.Cond.methodLinkNest "Twocoin$Metals" (18 : Nat) ({ cls := "Twocoin", name := "worthOf", desc := "(III)I" } : Jvm.MethodName) "Twocoin") ∈ tw_NG := tw_n (tw_in1 (i := 193) rfl) rfl
theorem w_270 : (Jvm.Cond.static ({ cls := "Twocoin", name := "worthOf", desc := "(III)I" } : Jvm.MethodName)) ∈ TW := tw_m (tw_in1 (i := 194) rfl) rfl
theorem w_271 : (Jvm.Cond.code ({ cls := "Twocoin", name := "worthOf", desc := "(III)I" } : Jvm.MethodName) prog_1_method_66_code (3 : Nat) (Option.some Jvm.ClassFile.FieldType.int)) ∈ TW := tw_m (tw_in1 (i := 195) rfl) rfl
theorem w_272 : (Jvm.Cond.constantLong "Twocoin" (406 : Nat) (10 : Int64)) ∈ TW := tw_m (tw_in1 (i := 196) rfl) rfl
theorem w_273 : (Jvm.Cond.methodLinkNest "Twocoin" (264 : Nat) ({ cls := "Twocoin$Till", name := "pounds", desc := "()I" } : Jvm.MethodName) "Twocoin") ∈ tw_NG := tw_n (tw_in1 (i := 197) rfl) rfl
theorem w_274 : (Jvm.Cond.privateMethod ({ cls := "Twocoin$Till", name := "pounds", desc := "()I" } : Jvm.MethodName)) ∈ lw_tbl := tw_in1 (i := 198) rfl
theorem w_275 : (Jvm.Cond.instanceMethod ({ cls := "Twocoin$Till", name := "pounds", desc := "()I" } : Jvm.MethodName)) ∈ TW := tw_m (tw_in1 (i := 199) rfl) rfl
theorem w_276 : (Jvm.Cond.code ({ cls := "Twocoin$Till", name := "pounds", desc := "()I" } : Jvm.MethodName) prog_6_method_4_code (1 : Nat) (Option.some Jvm.ClassFile.FieldType.int)) ∈ TW := tw_m (tw_in1 (i := 200) rfl) rfl
theorem w_277 : (Jvm.Cond.methodLink "Twocoin$Till" (15 : Nat) ({ cls := "Twocoin$Till", name := "manyOf", desc := "(I)I" } : Jvm.MethodName)) ∈ TW := tw_m (tw_in1 (i := 201) rfl) rfl
theorem w_278 : (Jvm.Cond.privateMethod ({ cls := "Twocoin$Till", name := "manyOf", desc := "(I)I" } : Jvm.MethodName)) ∈ lw_tbl := tw_in1 (i := 202) rfl
theorem w_279 : (Jvm.Cond.instanceMethod ({ cls := "Twocoin$Till", name := "manyOf", desc := "(I)I" } : Jvm.MethodName)) ∈ TW := tw_m (tw_in1 (i := 203) rfl) rfl
theorem w_280 : (Jvm.Cond.code ({ cls := "Twocoin$Till", name := "manyOf", desc := "(I)I" } : Jvm.MethodName) prog_6_method_2_code (2 : Nat) (Option.some Jvm.ClassFile.FieldType.int)) ∈ TW := tw_m (tw_in1 (i := 204) rfl) rfl
theorem w_281 : (Jvm.Cond.methodLink "Twocoin" (267 : Nat) ({ cls := "Twocoin", name := "countriesWithRate", desc := "(I)I" } : Jvm.MethodName)) ∈ TW := tw_m (tw_in1 (i := 205) rfl) rfl
theorem w_282 : (Jvm.Cond.privateMethod ({ cls := "Twocoin", name := "countriesWithRate", desc := "(I)I" } : Jvm.MethodName)) ∈ lw_tbl := tw_in1 (i := 206) rfl
theorem w_283 : (Jvm.Cond.instanceMethod ({ cls := "Twocoin", name := "countriesWithRate", desc := "(I)I" } : Jvm.MethodName)) ∈ TW := tw_m (tw_in1 (i := 207) rfl) rfl
theorem w_284 : (Jvm.Cond.code ({ cls := "Twocoin", name := "countriesWithRate", desc := "(I)I" } : Jvm.MethodName) prog_1_method_24_code (7 : Nat) (Option.some Jvm.ClassFile.FieldType.int)) ∈ TW := tw_m (tw_in1 (i := 208) rfl) rfl
theorem w_285 : (Jvm.Cond.methodLinkNest "Twocoin" (238 : Nat) ({ cls := "Twocoin$Till", name := "fewestFor", desc := "(I)I" } : Jvm.MethodName) "Twocoin") ∈ tw_NG := tw_n (tw_in1 (i := 209) rfl) rfl
theorem w_286 : (Jvm.Cond.privateMethod ({ cls := "Twocoin$Till", name := "fewestFor", desc := "(I)I" } : Jvm.MethodName)) ∈ lw_tbl := tw_in1 (i := 210) rfl
theorem w_287 : (Jvm.Cond.instanceMethod ({ cls := "Twocoin$Till", name := "fewestFor", desc := "(I)I" } : Jvm.MethodName)) ∈ TW := tw_m (tw_in1 (i := 211) rfl) rfl
theorem w_288 : (Jvm.Cond.code ({ cls := "Twocoin$Till", name := "fewestFor", desc := "(I)I" } : Jvm.MethodName) prog_6_method_5_code (12 : Nat) (Option.some Jvm.ClassFile.FieldType.int)) ∈ TW := tw_m (tw_in1 (i := 212) rfl) rfl
theorem w_289 : (Jvm.Cond.methodLink "Twocoin$Till" (19 : Nat) ({ cls := "java/lang/Math", name := "min", desc := "(II)I" } : Jvm.MethodName)) ∈ TW := tw_m (tw_in1 (i := 213) rfl) rfl
theorem w_290 : (Jvm.Cond.static ({ cls := "java/lang/Math", name := "min", desc := "(II)I" } : Jvm.MethodName)) ∈ TW := tw_m (tw_in1 (i := 214) rfl) rfl
theorem w_291 : (Jvm.Cond.code ({ cls := "java/lang/Math", name := "min", desc := "(II)I" } : Jvm.MethodName) prog_25_method_69_code (2 : Nat) (Option.some Jvm.ClassFile.FieldType.int)) ∈ TW := tw_m (tw_in1 (i := 215) rfl) rfl
theorem w_292 : (Jvm.Cond.methodLink "Twocoin" (333 : Nat) ({ cls := "Twocoin", name := "bestOver", desc := "(LTwocoin$Country;II)I" } : Jvm.MethodName)) ∈ TW := tw_m (tw_in1 (i := 216) rfl) rfl
theorem w_293 : (Jvm.Cond.privateMethod ({ cls := "Twocoin", name := "bestOver", desc := "(LTwocoin$Country;II)I" } : Jvm.MethodName)) ∈ lw_tbl := tw_in1 (i := 217) rfl
theorem w_294 : (Jvm.Cond.instanceMethod ({ cls := "Twocoin", name := "bestOver", desc := "(LTwocoin$Country;II)I" } : Jvm.MethodName)) ∈ TW := tw_m (tw_in1 (i := 218) rfl) rfl
theorem w_295 : (Jvm.Cond.code ({ cls := "Twocoin", name := "bestOver", desc := "(LTwocoin$Country;II)I" } : Jvm.MethodName) prog_1_method_41_code (11 : Nat) (Option.some Jvm.ClassFile.FieldType.int)) ∈ TW := tw_m (tw_in1 (i := 219) rfl) rfl
theorem w_296 : (Jvm.Cond.methodLink "Twocoin" (329 : Nat) ({ cls := "Twocoin", name := "comesOfTrip", desc := "(LTwocoin$Country;LTwocoin$Country;II)I" } : Jvm.MethodName)) ∈ TW := tw_m (tw_in1 (i := 220) rfl) rfl
theorem w_297 : (Jvm.Cond.static ({ cls := "Twocoin", name := "comesOfTrip", desc := "(LTwocoin$Country;LTwocoin$Country;II)I" } : Jvm.MethodName)) ∈ TW := tw_m (tw_in1 (i := 221) rfl) rfl
theorem w_298 : (Jvm.Cond.code ({ cls := "Twocoin", name := "comesOfTrip", desc := "(LTwocoin$Country;LTwocoin$Country;II)I" } : Jvm.MethodName) prog_1_method_39_code (8 : Nat) (Option.some Jvm.ClassFile.FieldType.int)) ∈ TW := tw_m (tw_in1 (i := 222) rfl) rfl
theorem w_299 : (Jvm.Cond.methodLinkNest "Twocoin" (140 : Nat) ({ cls := "Twocoin$Country", name := "minted", desc := "(II)I" } : Jvm.MethodName) "Twocoin") ∈ tw_NG := tw_n (tw_in1 (i := 223) rfl) rfl
theorem w_300 : (Jvm.Cond.privateMethod ({ cls := "Twocoin$Country", name := "minted", desc := "(II)I" } : Jvm.MethodName)) ∈ lw_tbl := tw_in1 (i := 224) rfl
theorem w_301 : (Jvm.Cond.instanceMethod ({ cls := "Twocoin$Country", name := "minted", desc := "(II)I" } : Jvm.MethodName)) ∈ TW := tw_m (tw_in1 (i := 225) rfl) rfl
theorem w_302 : (Jvm.Cond.code ({ cls := "Twocoin$Country", name := "minted", desc := "(II)I" } : Jvm.MethodName) prog_2_method_5_code (4 : Nat) (Option.some Jvm.ClassFile.FieldType.int)) ∈ TW := tw_m (tw_in1 (i := 226) rfl) rfl
theorem w_303 : (Jvm.Cond.methodLink "Twocoin$Country" (46 : Nat) ({ cls := "Twocoin$Country", name := "silverFor", desc := "(I)I" } : Jvm.MethodName)) ∈ TW := tw_m (tw_in1 (i := 227) rfl) rfl
theorem w_304 : (Jvm.Cond.privateMethod ({ cls := "Twocoin$Country", name := "silverFor", desc := "(I)I" } : Jvm.MethodName)) ∈ lw_tbl := tw_in1 (i := 228) rfl
theorem w_305 : (Jvm.Cond.instanceMethod ({ cls := "Twocoin$Country", name := "silverFor", desc := "(I)I" } : Jvm.MethodName)) ∈ TW := tw_m (tw_in1 (i := 229) rfl) rfl
theorem w_306 : (Jvm.Cond.code ({ cls := "Twocoin$Country", name := "silverFor", desc := "(I)I" } : Jvm.MethodName) prog_2_method_6_code (2 : Nat) (Option.some Jvm.ClassFile.FieldType.int)) ∈ TW := tw_m (tw_in1 (i := 230) rfl) rfl
theorem w_307 : (Jvm.Cond.constantLong "Twocoin$Country" (57 : Nat) (10 : Int64)) ∈ TW := tw_m (tw_in1 (i := 231) rfl) rfl
theorem w_308 : (Jvm.Cond.methodLink "Twocoin$Country" (50 : Nat) ({ cls := "Twocoin$Country", name := "goldOf", desc := "(I)I" } : Jvm.MethodName)) ∈ TW := tw_m (tw_in1 (i := 232) rfl) rfl
theorem w_309 : (Jvm.Cond.privateMethod ({ cls := "Twocoin$Country", name := "goldOf", desc := "(I)I" } : Jvm.MethodName)) ∈ lw_tbl := tw_in1 (i := 233) rfl
theorem w_310 : (Jvm.Cond.instanceMethod ({ cls := "Twocoin$Country", name := "goldOf", desc := "(I)I" } : Jvm.MethodName)) ∈ TW := tw_m (tw_in1 (i := 234) rfl) rfl
theorem w_311 : (Jvm.Cond.code ({ cls := "Twocoin$Country", name := "goldOf", desc := "(I)I" } : Jvm.MethodName) prog_2_method_7_code (2 : Nat) (Option.some Jvm.ClassFile.FieldType.int)) ∈ TW := tw_m (tw_in1 (i := 235) rfl) rfl
theorem w_312 : (Jvm.Cond.methodLinkNest "Twocoin$Country" (53 : Nat) ({ cls := "Twocoin", name := "thousandthsRoundedUp", desc := "(II)I" } : Jvm.MethodName) "Twocoin") ∈ tw_NG := tw_n (tw_in1 (i := 236) rfl) rfl
theorem w_313 : (Jvm.Cond.static ({ cls := "Twocoin", name := "thousandthsRoundedUp", desc := "(II)I" } : Jvm.MethodName)) ∈ TW := tw_m (tw_in1 (i := 237) rfl) rfl
theorem w_314 : (Jvm.Cond.code ({ cls := "Twocoin", name := "thousandthsRoundedUp", desc := "(II)I" } : Jvm.MethodName) prog_1_method_67_code (2 : Nat) (Option.some Jvm.ClassFile.FieldType.int)) ∈ TW := tw_m (tw_in1 (i := 238) rfl) rfl
theorem w_315 : (Jvm.Cond.constantLong "Twocoin" (408 : Nat) (999 : Int64)) ∈ TW := tw_m (tw_in1 (i := 239) rfl) rfl
theorem w_316 : (Jvm.Cond.constantLong "Twocoin" (410 : Nat) (1000 : Int64)) ∈ TW := tw_m (tw_in2 (i := 0) rfl) rfl
theorem w_317 : (Jvm.Cond.methodLink "Twocoin" (168 : Nat) ({ cls := "Twocoin", name := "thousandthsRoundedUp", desc := "(II)I" } : Jvm.MethodName)) ∈ TW := tw_m (tw_in2 (i := 1) rfl) rfl
theorem w_318 : (Jvm.Cond.methodLink "Twocoin" (144 : Nat) ({ cls := "Twocoin", name := "otherMetal", desc := "(I)I" } : Jvm.MethodName)) ∈ TW := tw_m (tw_in2 (i := 2) rfl) rfl
theorem w_319 : (Jvm.Cond.static ({ cls := "Twocoin", name := "otherMetal", desc := "(I)I" } : Jvm.MethodName)) ∈ TW := tw_m (tw_in2 (i := 3) rfl) rfl
theorem w_320 : (Jvm.Cond.code ({ cls := "Twocoin", name := "otherMetal", desc := "(I)I" } : Jvm.MethodName) prog_1_method_64_code (1 : Nat) (Option.some Jvm.ClassFile.FieldType.int)) ∈ TW := tw_m (tw_in2 (i := 4) rfl) rfl
theorem w_321 : (Jvm.Cond.methodLink "Twocoin" (340 : Nat) ({ cls := "Twocoin", name := "firstDayShort", desc := "(LTwocoin$Metals;II)I" } : Jvm.MethodName)) ∈ TW := tw_m (tw_in2 (i := 5) rfl) rfl
theorem w_322 : (Jvm.Cond.privateMethod ({ cls := "Twocoin", name := "firstDayShort", desc := "(LTwocoin$Metals;II)I" } : Jvm.MethodName)) ∈ lw_tbl := tw_in2 (i := 6) rfl
theorem w_323 : (Jvm.Cond.instanceMethod ({ cls := "Twocoin", name := "firstDayShort", desc := "(LTwocoin$Metals;II)I" } : Jvm.MethodName)) ∈ TW := tw_m (tw_in2 (i := 7) rfl) rfl
theorem w_324 : (Jvm.Cond.code ({ cls := "Twocoin", name := "firstDayShort", desc := "(LTwocoin$Metals;II)I" } : Jvm.MethodName) prog_1_method_45_code (6 : Nat) (Option.some Jvm.ClassFile.FieldType.int)) ∈ TW := tw_m (tw_in2 (i := 8) rfl) rfl
theorem w_325 : (Jvm.Cond.methodLink "Twocoin" (179 : Nat) ({ cls := "Twocoin", name := "isWearDay", desc := "(I)Z" } : Jvm.MethodName)) ∈ TW := tw_m (tw_in2 (i := 9) rfl) rfl
theorem w_326 : (Jvm.Cond.static ({ cls := "Twocoin", name := "isWearDay", desc := "(I)Z" } : Jvm.MethodName)) ∈ TW := tw_m (tw_in2 (i := 10) rfl) rfl
theorem w_327 : (Jvm.Cond.code ({ cls := "Twocoin", name := "isWearDay", desc := "(I)Z" } : Jvm.MethodName) prog_1_method_65_code (1 : Nat) (Option.some Jvm.ClassFile.FieldType.boolean)) ∈ TW := tw_m (tw_in2 (i := 11) rfl) rfl
theorem w_328 : (Jvm.Cond.methodLink "Twocoin" (380 : Nat) ({ cls := "Twocoin", name := "digestHouse", desc := "(JLTwocoin$House;)J" } : Jvm.MethodName)) ∈ TW := tw_m (tw_in2 (i := 12) rfl) rfl
theorem w_329 : (Jvm.Cond.privateMethod ({ cls := "Twocoin", name := "digestHouse", desc := "(JLTwocoin$House;)J" } : Jvm.MethodName)) ∈ lw_tbl := tw_in2 (i := 13) rfl
theorem w_330 : (Jvm.Cond.instanceMethod ({ cls := "Twocoin", name := "digestHouse", desc := "(JLTwocoin$House;)J" } : Jvm.MethodName)) ∈ TW := tw_m (tw_in2 (i := 14) rfl) rfl
theorem w_331 : (Jvm.Cond.code ({ cls := "Twocoin", name := "digestHouse", desc := "(JLTwocoin$House;)J" } : Jvm.MethodName) prog_1_method_55_code (7 : Nat) (Option.some Jvm.ClassFile.FieldType.long)) ∈ TW := tw_m (tw_in2 (i := 15) rfl) rfl
theorem w_332 : (Jvm.Cond.methodLink "Twocoin" (270 : Nat) ({ cls := "Twocoin", name := "houseFact", desc := "(LTwocoin$House;I)I" } : Jvm.MethodName)) ∈ TW := tw_m (tw_in2 (i := 16) rfl) rfl
theorem w_333 : (Jvm.Cond.privateMethod ({ cls := "Twocoin", name := "houseFact", desc := "(LTwocoin$House;I)I" } : Jvm.MethodName)) ∈ lw_tbl := tw_in2 (i := 17) rfl
theorem w_334 : (Jvm.Cond.instanceMethod ({ cls := "Twocoin", name := "houseFact", desc := "(LTwocoin$House;I)I" } : Jvm.MethodName)) ∈ TW := tw_m (tw_in2 (i := 18) rfl) rfl
theorem w_335 : (Jvm.Cond.code ({ cls := "Twocoin", name := "houseFact", desc := "(LTwocoin$House;I)I" } : Jvm.MethodName) prog_1_method_26_code (3 : Nat) (Option.some Jvm.ClassFile.FieldType.int)) ∈ TW := tw_m (tw_in2 (i := 19) rfl) rfl
theorem w_336 : (Jvm.Cond.methodLink "Twocoin" (274 : Nat) ({ cls := "Twocoin", name := "numberOf", desc := "(LTwocoin$Country;)I" } : Jvm.MethodName)) ∈ TW := tw_m (tw_in2 (i := 20) rfl) rfl
theorem w_337 : (Jvm.Cond.static ({ cls := "Twocoin", name := "numberOf", desc := "(LTwocoin$Country;)I" } : Jvm.MethodName)) ∈ TW := tw_m (tw_in2 (i := 21) rfl) rfl
theorem w_338 : (Jvm.Cond.code ({ cls := "Twocoin", name := "numberOf", desc := "(LTwocoin$Country;)I" } : Jvm.MethodName) prog_1_method_27_code (1 : Nat) (Option.some Jvm.ClassFile.FieldType.int)) ∈ TW := tw_m (tw_in2 (i := 22) rfl) rfl
theorem w_339 : (Jvm.Cond.methodLink "Twocoin" (280 : Nat) ({ cls := "Twocoin", name := "unpaidDebtsOf", desc := "(LTwocoin$House;)I" } : Jvm.MethodName)) ∈ TW := tw_m (tw_in2 (i := 23) rfl) rfl
theorem w_340 : (Jvm.Cond.privateMethod ({ cls := "Twocoin", name := "unpaidDebtsOf", desc := "(LTwocoin$House;)I" } : Jvm.MethodName)) ∈ lw_tbl := tw_in2 (i := 24) rfl
theorem w_341 : (Jvm.Cond.instanceMethod ({ cls := "Twocoin", name := "unpaidDebtsOf", desc := "(LTwocoin$House;)I" } : Jvm.MethodName)) ∈ TW := tw_m (tw_in2 (i := 25) rfl) rfl
theorem w_342 : (Jvm.Cond.code ({ cls := "Twocoin", name := "unpaidDebtsOf", desc := "(LTwocoin$House;)I" } : Jvm.MethodName) prog_1_method_28_code (7 : Nat) (Option.some Jvm.ClassFile.FieldType.int)) ∈ TW := tw_m (tw_in2 (i := 26) rfl) rfl
theorem w_343 : (Jvm.Cond.methodLink "Twocoin" (284 : Nat) ({ cls := "Twocoin", name := "unpaidDebtsTo", desc := "(LTwocoin$House;)I" } : Jvm.MethodName)) ∈ TW := tw_m (tw_in2 (i := 27) rfl) rfl
theorem w_344 : (Jvm.Cond.privateMethod ({ cls := "Twocoin", name := "unpaidDebtsTo", desc := "(LTwocoin$House;)I" } : Jvm.MethodName)) ∈ lw_tbl := tw_in2 (i := 28) rfl
theorem w_345 : (Jvm.Cond.instanceMethod ({ cls := "Twocoin", name := "unpaidDebtsTo", desc := "(LTwocoin$House;)I" } : Jvm.MethodName)) ∈ TW := tw_m (tw_in2 (i := 29) rfl) rfl
theorem w_346 : (Jvm.Cond.code ({ cls := "Twocoin", name := "unpaidDebtsTo", desc := "(LTwocoin$House;)I" } : Jvm.MethodName) prog_1_method_29_code (7 : Nat) (Option.some Jvm.ClassFile.FieldType.int)) ∈ TW := tw_m (tw_in2 (i := 30) rfl) rfl
theorem w_347 : (Jvm.Cond.methodLink "Twocoin" (384 : Nat) ({ cls := "Twocoin", name := "digestDebt", desc := "(JLTwocoin$Debt;)J" } : Jvm.MethodName)) ∈ TW := tw_m (tw_in2 (i := 31) rfl) rfl
theorem w_348 : (Jvm.Cond.privateMethod ({ cls := "Twocoin", name := "digestDebt", desc := "(JLTwocoin$Debt;)J" } : Jvm.MethodName)) ∈ lw_tbl := tw_in2 (i := 32) rfl
theorem w_349 : (Jvm.Cond.instanceMethod ({ cls := "Twocoin", name := "digestDebt", desc := "(JLTwocoin$Debt;)J" } : Jvm.MethodName)) ∈ TW := tw_m (tw_in2 (i := 33) rfl) rfl
theorem w_350 : (Jvm.Cond.code ({ cls := "Twocoin", name := "digestDebt", desc := "(JLTwocoin$Debt;)J" } : Jvm.MethodName) prog_1_method_56_code (7 : Nat) (Option.some Jvm.ClassFile.FieldType.long)) ∈ TW := tw_m (tw_in2 (i := 34) rfl) rfl
theorem w_351 : (Jvm.Cond.methodLink "Twocoin" (287 : Nat) ({ cls := "Twocoin", name := "debtFact", desc := "(LTwocoin$Debt;I)I" } : Jvm.MethodName)) ∈ TW := tw_m (tw_in2 (i := 35) rfl) rfl
theorem w_352 : (Jvm.Cond.privateMethod ({ cls := "Twocoin", name := "debtFact", desc := "(LTwocoin$Debt;I)I" } : Jvm.MethodName)) ∈ lw_tbl := tw_in2 (i := 36) rfl
theorem w_353 : (Jvm.Cond.instanceMethod ({ cls := "Twocoin", name := "debtFact", desc := "(LTwocoin$Debt;I)I" } : Jvm.MethodName)) ∈ TW := tw_m (tw_in2 (i := 37) rfl) rfl
theorem w_354 : (Jvm.Cond.code ({ cls := "Twocoin", name := "debtFact", desc := "(LTwocoin$Debt;I)I" } : Jvm.MethodName) prog_1_method_31_code (3 : Nat) (Option.some Jvm.ClassFile.FieldType.int)) ∈ TW := tw_m (tw_in2 (i := 38) rfl) rfl
theorem w_355 : (Jvm.Cond.methodLinkNest "Twocoin" (213 : Nat) ({ cls := "Twocoin$Debt", name := "dueOn", desc := "(I)I" } : Jvm.MethodName) "Twocoin") ∈ tw_NG := tw_n (tw_in2 (i := 39) rfl) rfl
theorem w_356 : (Jvm.Cond.privateMethod ({ cls := "Twocoin$Debt", name := "dueOn", desc := "(I)I" } : Jvm.MethodName)) ∈ lw_tbl := tw_in2 (i := 40) rfl
theorem w_357 : (Jvm.Cond.instanceMethod ({ cls := "Twocoin$Debt", name := "dueOn", desc := "(I)I" } : Jvm.MethodName)) ∈ TW := tw_m (tw_in2 (i := 41) rfl) rfl
theorem w_358 : (Jvm.Cond.instantiable "Twocoin$Debt" (5 : Nat)) ∈ TW := tw_m (tw_in2 (i := 42) rfl) rfl
theorem w_359 : (Jvm.Cond.code ({ cls := "Twocoin$Debt", name := "dueOn", desc := "(I)I" } : Jvm.MethodName) prog_3_method_2_code (3 : Nat) (Option.some Jvm.ClassFile.FieldType.int)) ∈ TW := tw_m (tw_in2 (i := 43) rfl) rfl
theorem w_360 : (Jvm.Cond.methodLink "Twocoin" (298 : Nat) ({ cls := "Twocoin", name := "cheaperMetal", desc := "(LTwocoin$Debt;)I" } : Jvm.MethodName)) ∈ TW := tw_m (tw_in2 (i := 44) rfl) rfl
theorem w_361 : (Jvm.Cond.privateMethod ({ cls := "Twocoin", name := "cheaperMetal", desc := "(LTwocoin$Debt;)I" } : Jvm.MethodName)) ∈ lw_tbl := tw_in2 (i := 45) rfl
theorem w_362 : (Jvm.Cond.instanceMethod ({ cls := "Twocoin", name := "cheaperMetal", desc := "(LTwocoin$Debt;)I" } : Jvm.MethodName)) ∈ TW := tw_m (tw_in2 (i := 46) rfl) rfl
theorem w_363 : (Jvm.Cond.code ({ cls := "Twocoin", name := "cheaperMetal", desc := "(LTwocoin$Debt;)I" } : Jvm.MethodName) prog_1_method_32_code (4 : Nat) (Option.some Jvm.ClassFile.FieldType.int)) ∈ TW := tw_m (tw_in2 (i := 47) rfl) rfl
theorem w_364 : (Jvm.Cond.methodLinkNest "Twocoin" (216 : Nat) ({ cls := "Twocoin$Country", name := "goldFor", desc := "(I)I" } : Jvm.MethodName) "Twocoin") ∈ tw_NG := tw_n (tw_in2 (i := 48) rfl) rfl
theorem w_365 : (Jvm.Cond.privateMethod ({ cls := "Twocoin$Country", name := "goldFor", desc := "(I)I" } : Jvm.MethodName)) ∈ lw_tbl := tw_in2 (i := 49) rfl
theorem w_366 : (Jvm.Cond.instanceMethod ({ cls := "Twocoin$Country", name := "goldFor", desc := "(I)I" } : Jvm.MethodName)) ∈ TW := tw_m (tw_in2 (i := 50) rfl) rfl
theorem w_367 : (Jvm.Cond.code ({ cls := "Twocoin$Country", name := "goldFor", desc := "(I)I" } : Jvm.MethodName) prog_2_method_8_code (2 : Nat) (Option.some Jvm.ClassFile.FieldType.int)) ∈ TW := tw_m (tw_in2 (i := 51) rfl) rfl
theorem w_368 : (Jvm.Cond.methodLink "Twocoin" (302 : Nat) ({ cls := "Twocoin", name := "worthOf", desc := "(III)I" } : Jvm.MethodName)) ∈ TW := tw_m (tw_in2 (i := 52) rfl) rfl
theorem w_369 : (Jvm.Cond.methodLink "Twocoin" (337 : Nat) ({ cls := "Twocoin", name := "isRest", desc := "(I)Z" } : Jvm.MethodName)) ∈ TW := tw_m (tw_in2 (i := 53) rfl) rfl
theorem w_370 : (Jvm.Cond.privateMethod ({ cls := "Twocoin", name := "isRest", desc := "(I)Z" } : Jvm.MethodName)) ∈ lw_tbl := tw_in2 (i := 54) rfl
theorem w_371 : (Jvm.Cond.instanceMethod ({ cls := "Twocoin", name := "isRest", desc := "(I)Z" } : Jvm.MethodName)) ∈ TW := tw_m (tw_in2 (i := 55) rfl) rfl
theorem w_372 : (Jvm.Cond.code ({ cls := "Twocoin", name := "isRest", desc := "(I)Z" } : Jvm.MethodName) prog_1_method_43_code (6 : Nat) (Option.some Jvm.ClassFile.FieldType.boolean)) ∈ TW := tw_m (tw_in2 (i := 56) rfl) rfl
theorem w_373 : (Jvm.Cond.methodLink "Twocoin" (388 : Nat) ({ cls := "Twocoin", name := "isSound", desc := "()Z" } : Jvm.MethodName)) ∈ TW := tw_m (tw_in2 (i := 57) rfl) rfl
theorem w_374 : (Jvm.Cond.classLink "TwocoinLaw" (14 : Nat) "TwocoinLaw$Out") ∈ TW := tw_m (tw_in2 (i := 58) rfl) rfl
theorem w_375 : (Jvm.Cond.instantiable "TwocoinLaw$Out" (2 : Nat)) ∈ TW := tw_m (tw_in2 (i := 59) rfl) rfl
theorem w_376 : (Jvm.Cond.methodLinkNest "TwocoinLaw" (111 : Nat) ({ cls := "TwocoinLaw$Out", name := "<init>", desc := "()V" } : Jvm.MethodName) "TwocoinLaw") ∈ tw_NG := tw_n (tw_in2 (i := 60) rfl) rfl
theorem w_377 : (Jvm.Cond.instanceMethod ({ cls := "TwocoinLaw$Out", name := "<init>", desc := "()V" } : Jvm.MethodName)) ∈ TW := tw_m (tw_in2 (i := 61) rfl) rfl
theorem w_378 : (Jvm.Cond.code ({ cls := "TwocoinLaw$Out", name := "<init>", desc := "()V" } : Jvm.MethodName) prog_8_method_1_code (1 : Nat) (Option.none : Option Jvm.ClassFile.FieldType)) ∈ TW := tw_m (tw_in2 (i := 62) rfl) rfl
theorem w_379 : (Jvm.Cond.methodLink "TwocoinLaw$Out" (1 : Nat) ({ cls := "java/lang/Object", name := "<init>", desc := "()V" } : Jvm.MethodName)) ∈ TW := tw_m (tw_in2 (i := 63) rfl) rfl
theorem w_380 : (Jvm.Cond.fieldLinkNest "TwocoinLaw" (13 : Nat) "TwocoinLaw$Out" "n" "J" "TwocoinLaw") ∈ tw_NG := tw_n (tw_in2 (i := 64) rfl) rfl
theorem w_381 : (Jvm.Cond.fieldLinkNest "TwocoinLaw" (90 : Nat) "TwocoinLaw$Out" "s" "Ljava/lang/String;" "TwocoinLaw") ∈ tw_NG := tw_n (tw_in2 (i := 65) rfl) rfl
theorem w_382 : (Jvm.Cond.lays "TwocoinLaw$Out" "TwocoinLaw$Out" "n" "J") ∈ TW := tw_m (tw_in2 (i := 66) rfl) rfl
theorem w_383 : (Jvm.Cond.soleField "TwocoinLaw$Out" "n") ∈ TW := tw_m (tw_in2 (i := 67) rfl) rfl
theorem w_384 : (Jvm.Cond.lays "TwocoinLaw$Out" "TwocoinLaw$Out" "s" "Ljava/lang/String;") ∈ TW := tw_m (tw_in2 (i := 68) rfl) rfl
theorem w_385 : (Jvm.Cond.soleField "TwocoinLaw$Out" "s") ∈ TW := tw_m (tw_in2 (i := 69) rfl) rfl
theorem w_386 : (Jvm.Cond.superclass "TwocoinLaw$Out" "java/lang/Object") ∈ TW := tw_m (tw_in2 (i := 70) rfl) rfl
theorem w_387 : (Jvm.Cond.methodLink "TwocoinLaw" (112 : Nat) ({ cls := "TwocoinLaw", name := "country", desc := "(LTwocoin;IIIILTwocoinLaw$Out;)I" } : Jvm.MethodName)) ∈ TW := tw_m (tw_in2 (i := 71) rfl) rfl
theorem w_388 : (Jvm.Cond.static ({ cls := "TwocoinLaw", name := "country", desc := "(LTwocoin;IIIILTwocoinLaw$Out;)I" } : Jvm.MethodName)) ∈ TW := tw_m (tw_in2 (i := 72) rfl) rfl
theorem w_389 : (Jvm.Cond.codeWith ({ cls := "TwocoinLaw", name := "country", desc := "(LTwocoin;IIIILTwocoinLaw$Out;)I" } : Jvm.MethodName) method_2_code (7 : Nat) (Option.some Jvm.ClassFile.FieldType.int) [((0 : Nat), (15 : Nat), (18 : Nat), (19 : Nat)), ((0 : Nat), (15 : Nat), (22 : Nat), (21 : Nat))]) ∈ TW := tw_m (tw_in2 (i := 73) rfl) rfl
theorem w_390 : (Jvm.Cond.classLink "TwocoinLaw" (19 : Nat) "java/lang/IllegalArgumentException") ∈ TW := tw_m (tw_in2 (i := 74) rfl) rfl
theorem w_391 : (Jvm.Cond.classLink "TwocoinLaw" (21 : Nat) "java/lang/IllegalStateException") ∈ TW := tw_m (tw_in2 (i := 75) rfl) rfl
theorem w_392 : (Jvm.Cond.methodLink "TwocoinLaw" (7 : Nat) ({ cls := "Twocoin", name := "country", desc := "(IIII)I" } : Jvm.MethodName)) ∈ TW := tw_m (tw_in2 (i := 76) rfl) rfl
theorem w_393 : (Jvm.Cond.instanceMethod ({ cls := "Twocoin", name := "country", desc := "(IIII)I" } : Jvm.MethodName)) ∈ TW := tw_m (tw_in2 (i := 77) rfl) rfl
theorem w_394 : (Jvm.Cond.selects "Twocoin" ({ cls := "Twocoin", name := "country", desc := "(IIII)I" } : Jvm.MethodName) ({ cls := "Twocoin", name := "country", desc := "(IIII)I" } : Jvm.MethodName)) ∈ TW := tw_m (tw_in2 (i := 78) rfl) rfl
theorem w_395 : (Jvm.Cond.code ({ cls := "Twocoin", name := "country", desc := "(IIII)I" } : Jvm.MethodName) prog_1_method_2_code (6 : Nat) (Option.some Jvm.ClassFile.FieldType.int)) ∈ TW := tw_m (tw_in2 (i := 79) rfl) rfl
theorem w_396 : (Jvm.Cond.methodLink "Twocoin" (49 : Nat) ({ cls := "Twocoin", name := "needLaw", desc := "(II)V" } : Jvm.MethodName)) ∈ TW := tw_m (tw_in2 (i := 80) rfl) rfl
theorem w_397 : (Jvm.Cond.static ({ cls := "Twocoin", name := "needLaw", desc := "(II)V" } : Jvm.MethodName)) ∈ TW := tw_m (tw_in2 (i := 81) rfl) rfl
theorem w_398 : (Jvm.Cond.code ({ cls := "Twocoin", name := "needLaw", desc := "(II)V" } : Jvm.MethodName) prog_1_method_62_code (2 : Nat) (Option.none : Option Jvm.ClassFile.FieldType)) ∈ TW := tw_m (tw_in2 (i := 82) rfl) rfl
theorem w_399 : (Jvm.Cond.methodLink "Twocoin" (53 : Nat) ({ cls := "Twocoin", name := "needRange", desc := "(III)V" } : Jvm.MethodName)) ∈ TW := tw_m (tw_in2 (i := 83) rfl) rfl
theorem w_400 : (Jvm.Cond.static ({ cls := "Twocoin", name := "needRange", desc := "(III)V" } : Jvm.MethodName)) ∈ TW := tw_m (tw_in2 (i := 84) rfl) rfl
theorem w_401 : (Jvm.Cond.code ({ cls := "Twocoin", name := "needRange", desc := "(III)V" } : Jvm.MethodName) prog_1_method_60_code (3 : Nat) (Option.none : Option Jvm.ClassFile.FieldType)) ∈ TW := tw_m (tw_in2 (i := 85) rfl) rfl
theorem w_402 : (Jvm.Cond.classLink "Twocoin" (397 : Nat) "java/lang/IllegalArgumentException") ∈ TW := tw_m (tw_in2 (i := 86) rfl) rfl
theorem w_403 : (Jvm.Cond.instantiable "java/lang/IllegalArgumentException" (6 : Nat)) ∈ TW := tw_m (tw_in2 (i := 87) rfl) rfl
theorem w_404 : (Jvm.Cond.castable "java/lang/IllegalArgumentException" "java/lang/IllegalArgumentException") ∈ tw_NG := tw_n (tw_in2 (i := 88) rfl) rfl
theorem w_405 : (Jvm.Cond.declares ({ cls := "java/lang/RuntimeException", name := "<init>", desc := "()V" } : Jvm.MethodName)) ∈ tw_NG := tw_n (tw_in2 (i := 89) rfl) rfl
theorem w_406 : (Jvm.Cond.declares ({ cls := "java/lang/RuntimeException", name := "<init>", desc := "(Ljava/lang/String;)V" } : Jvm.MethodName)) ∈ tw_NG := tw_n (tw_in2 (i := 90) rfl) rfl
theorem w_407 : (Jvm.Cond.declares ({ cls := "java/lang/Exception", name := "<init>", desc := "()V" } : Jvm.MethodName)) ∈ tw_NG := tw_n (tw_in2 (i := 91) rfl) rfl
theorem w_408 : (Jvm.Cond.declares ({ cls := "java/lang/Exception", name := "<init>", desc := "(Ljava/lang/String;)V" } : Jvm.MethodName)) ∈ tw_NG := tw_n (tw_in2 (i := 92) rfl) rfl
theorem w_409 : (Jvm.Cond.declares ({ cls := "java/lang/Throwable", name := "<init>", desc := "()V" } : Jvm.MethodName)) ∈ tw_NG := tw_n (tw_in2 (i := 93) rfl) rfl
theorem w_410 : (Jvm.Cond.declares ({ cls := "java/lang/Throwable", name := "<init>", desc := "(Ljava/lang/String;)V" } : Jvm.MethodName)) ∈ tw_NG := tw_n (tw_in2 (i := 94) rfl) rfl
theorem w_411 : (Jvm.Cond.selects "java/lang/IllegalArgumentException" ({ cls := "java/lang/Throwable", name := "fillInStackTrace", desc := "(I)Ljava/lang/Throwable;" } : Jvm.MethodName) ({ cls := "java/lang/Throwable", name := "fillInStackTrace", desc := "(I)Ljava/lang/Throwable;" } : Jvm.MethodName)) ∈ TW := tw_m (tw_in2 (i := 95) rfl) rfl
theorem w_412 : (Jvm.Cond.selects "java/lang/IllegalArgumentException" ({ cls := "java/lang/Throwable", name := "fillInStackTrace", desc := "()Ljava/lang/Throwable;" } : Jvm.MethodName) ({ cls := "java/lang/Throwable", name := "fillInStackTrace", desc := "()Ljava/lang/Throwable;" } : Jvm.MethodName)) ∈ TW := tw_m (tw_in2 (i := 96) rfl) rfl
theorem w_413 : (Jvm.Cond.lays "java/lang/IllegalArgumentException" "java/lang/Throwable" "cause" "Ljava/lang/Throwable;") ∈ TW := tw_m (tw_in2 (i := 97) rfl) rfl
theorem w_414 : (Jvm.Cond.lays "java/lang/Throwable" "java/lang/Throwable" "cause" "Ljava/lang/Throwable;") ∈ TW := tw_m (tw_in2 (i := 98) rfl) rfl
theorem w_415 : (Jvm.Cond.lays "java/lang/IllegalArgumentException" "java/lang/Throwable" "stackTrace" "[Ljava/lang/StackTraceElement;") ∈ TW := tw_m (tw_in2 (i := 99) rfl) rfl
theorem w_416 : (Jvm.Cond.lays "java/lang/Throwable" "java/lang/Throwable" "stackTrace" "[Ljava/lang/StackTraceElement;") ∈ TW := tw_m (tw_in2 (i := 100) rfl) rfl
theorem w_417 : (Jvm.Cond.lays "java/lang/IllegalArgumentException" "java/lang/Throwable" "suppressedExceptions" "Ljava/util/List;") ∈ TW := tw_m (tw_in2 (i := 101) rfl) rfl
theorem w_418 : (Jvm.Cond.lays "java/lang/Throwable" "java/lang/Throwable" "suppressedExceptions" "Ljava/util/List;") ∈ TW := tw_m (tw_in2 (i := 102) rfl) rfl
theorem w_419 : (Jvm.Cond.lays "java/lang/IllegalArgumentException" "java/lang/Throwable" "detailMessage" "Ljava/lang/String;") ∈ TW := tw_m (tw_in2 (i := 103) rfl) rfl
theorem w_420 : (Jvm.Cond.lays "java/lang/Throwable" "java/lang/Throwable" "detailMessage" "Ljava/lang/String;") ∈ TW := tw_m (tw_in2 (i := 104) rfl) rfl
theorem w_421 : (Jvm.Cond.lays "java/lang/IllegalArgumentException" "java/lang/Throwable" "backtrace" "Ljava/lang/Object;") ∈ TW := tw_m (tw_in2 (i := 105) rfl) rfl
theorem w_422 : (Jvm.Cond.lays "java/lang/Throwable" "java/lang/Throwable" "backtrace" "Ljava/lang/Object;") ∈ TW := tw_m (tw_in2 (i := 106) rfl) rfl
theorem w_423 : (Jvm.Cond.fieldLink "java/lang/Throwable" (198 : Nat) "java/lang/Throwable" "backtrace" "Ljava/lang/Object;") ∈ TW := tw_m (tw_in2 (i := 107) rfl) rfl
theorem w_424 : (Jvm.Cond.superclass "java/lang/Throwable" "java/lang/Object") ∈ TW := tw_m (tw_in2 (i := 108) rfl) rfl
theorem w_425 : (Jvm.Cond.instanceMethod ({ cls := "java/lang/Throwable", name := "<init>", desc := "()V" } : Jvm.MethodName)) ∈ TW := tw_m (tw_in2 (i := 109) rfl) rfl
theorem w_426 : (Jvm.Cond.code ({ cls := "java/lang/Throwable", name := "<init>", desc := "()V" } : Jvm.MethodName) prog_33_method_1_code (1 : Nat) (Option.none : Option Jvm.ClassFile.FieldType)) ∈ TW := tw_m (tw_in2 (i := 110) rfl) rfl
theorem w_427 : (Jvm.Cond.methodLink "java/lang/Throwable" (1 : Nat) ({ cls := "java/lang/Object", name := "<init>", desc := "()V" } : Jvm.MethodName)) ∈ TW := tw_m (tw_in2 (i := 111) rfl) rfl
theorem w_428 : (Jvm.Cond.fieldLink "java/lang/Throwable" (13 : Nat) "java/lang/Throwable" "UNASSIGNED_STACK" "[Ljava/lang/StackTraceElement;") ∈ TW := tw_m (tw_in2 (i := 112) rfl) rfl
theorem w_429 : (Jvm.Cond.laysStatic "java/lang/Throwable" "UNASSIGNED_STACK" "[Ljava/lang/StackTraceElement;") ∈ lw_tbl := tw_in2 (i := 113) rfl
theorem w_430 : (Jvm.Cond.fieldLink "java/lang/Throwable" (20 : Nat) "java/lang/Throwable" "SUPPRESSED_SENTINEL" "Ljava/util/List;") ∈ TW := tw_m (tw_in2 (i := 114) rfl) rfl
theorem w_431 : (Jvm.Cond.laysStatic "java/lang/Throwable" "SUPPRESSED_SENTINEL" "Ljava/util/List;") ∈ lw_tbl := tw_in2 (i := 115) rfl
theorem w_432 : (Jvm.Cond.methodLink "java/lang/Throwable" (27 : Nat) ({ cls := "java/lang/Throwable", name := "fillInStackTrace", desc := "()Ljava/lang/Throwable;" } : Jvm.MethodName)) ∈ TW := tw_m (tw_in2 (i := 116) rfl) rfl
theorem w_433 : (Jvm.Cond.instanceMethod ({ cls := "java/lang/Throwable", name := "fillInStackTrace", desc := "()Ljava/lang/Throwable;" } : Jvm.MethodName)) ∈ TW := tw_m (tw_in2 (i := 117) rfl) rfl
theorem w_434 : (Jvm.Cond.sameMethod "java/lang/Throwable" "java/lang/Throwable" "fillInStackTrace" "()Ljava/lang/Throwable;") ∈ TW := tw_m (tw_in2 (i := 118) rfl) rfl
theorem w_435 : (Jvm.Cond.selects "java/lang/IllegalStateException" ({ cls := "java/lang/Throwable", name := "fillInStackTrace", desc := "()Ljava/lang/Throwable;" } : Jvm.MethodName) ({ cls := "java/lang/Throwable", name := "fillInStackTrace", desc := "()Ljava/lang/Throwable;" } : Jvm.MethodName)) ∈ TW := tw_m (tw_in2 (i := 119) rfl) rfl
theorem w_436 : (Jvm.Cond.selects "java/lang/IndexOutOfBoundsException" ({ cls := "java/lang/Throwable", name := "fillInStackTrace", desc := "()Ljava/lang/Throwable;" } : Jvm.MethodName) ({ cls := "java/lang/Throwable", name := "fillInStackTrace", desc := "()Ljava/lang/Throwable;" } : Jvm.MethodName)) ∈ TW := tw_m (tw_in2 (i := 120) rfl) rfl
theorem w_437 : (Jvm.Cond.codeSync ({ cls := "java/lang/Throwable", name := "fillInStackTrace", desc := "()Ljava/lang/Throwable;" } : Jvm.MethodName) prog_33_method_18_code (1 : Nat) (Option.some (Jvm.ClassFile.FieldType.object "java/lang/Throwable"))) ∈ TW := tw_m (tw_in2 (i := 121) rfl) rfl
theorem w_438 : (Jvm.Cond.methodLink "java/lang/Throwable" (202 : Nat) ({ cls := "java/lang/Throwable", name := "fillInStackTrace", desc := "(I)Ljava/lang/Throwable;" } : Jvm.MethodName)) ∈ TW := tw_m (tw_in2 (i := 122) rfl) rfl
theorem w_439 : (Jvm.Cond.privateMethod ({ cls := "java/lang/Throwable", name := "fillInStackTrace", desc := "(I)Ljava/lang/Throwable;" } : Jvm.MethodName)) ∈ lw_tbl := tw_in2 (i := 123) rfl
theorem w_440 : (Jvm.Cond.instanceMethod ({ cls := "java/lang/Throwable", name := "fillInStackTrace", desc := "(I)Ljava/lang/Throwable;" } : Jvm.MethodName)) ∈ TW := tw_m (tw_in2 (i := 124) rfl) rfl
theorem w_441 : (Jvm.Cond.instantiable "java/lang/Throwable" (6 : Nat)) ∈ TW := tw_m (tw_in2 (i := 125) rfl) rfl
theorem w_442 : (Jvm.Cond.native ({ cls := "java/lang/Throwable", name := "fillInStackTrace", desc := "(I)Ljava/lang/Throwable;" } : Jvm.MethodName)) ∈ TW := tw_m (tw_in2 (i := 126) rfl) rfl
theorem w_443 : (Jvm.Cond.stringRef "Twocoin" (399 : Nat) "a number is out of its range") ∈ lw_tbl := tw_in2 (i := 127) rfl
theorem w_444 : (Jvm.Cond.methodLink "Twocoin" (401 : Nat) ({ cls := "java/lang/IllegalArgumentException", name := "<init>", desc := "(Ljava/lang/String;)V" } : Jvm.MethodName)) ∈ TW := tw_m (tw_in2 (i := 128) rfl) rfl
theorem w_445 : (Jvm.Cond.instanceMethod ({ cls := "java/lang/IllegalArgumentException", name := "<init>", desc := "(Ljava/lang/String;)V" } : Jvm.MethodName)) ∈ TW := tw_m (tw_in2 (i := 129) rfl) rfl
theorem w_446 : (Jvm.Cond.code ({ cls := "java/lang/IllegalArgumentException", name := "<init>", desc := "(Ljava/lang/String;)V" } : Jvm.MethodName) prog_20_method_2_code (2 : Nat) (Option.none : Option Jvm.ClassFile.FieldType)) ∈ TW := tw_m (tw_in2 (i := 130) rfl) rfl
theorem w_447 : (Jvm.Cond.methodLink "java/lang/IllegalArgumentException" (7 : Nat) ({ cls := "java/lang/RuntimeException", name := "<init>", desc := "(Ljava/lang/String;)V" } : Jvm.MethodName)) ∈ TW := tw_m (tw_in2 (i := 131) rfl) rfl
theorem w_448 : (Jvm.Cond.instanceMethod ({ cls := "java/lang/RuntimeException", name := "<init>", desc := "(Ljava/lang/String;)V" } : Jvm.MethodName)) ∈ TW := tw_m (tw_in2 (i := 132) rfl) rfl
theorem w_449 : (Jvm.Cond.code ({ cls := "java/lang/RuntimeException", name := "<init>", desc := "(Ljava/lang/String;)V" } : Jvm.MethodName) prog_27_method_2_code (2 : Nat) (Option.none : Option Jvm.ClassFile.FieldType)) ∈ TW := tw_m (tw_in2 (i := 133) rfl) rfl
theorem w_450 : (Jvm.Cond.methodLink "java/lang/RuntimeException" (7 : Nat) ({ cls := "java/lang/Exception", name := "<init>", desc := "(Ljava/lang/String;)V" } : Jvm.MethodName)) ∈ TW := tw_m (tw_in2 (i := 134) rfl) rfl
theorem w_451 : (Jvm.Cond.instanceMethod ({ cls := "java/lang/Exception", name := "<init>", desc := "(Ljava/lang/String;)V" } : Jvm.MethodName)) ∈ TW := tw_m (tw_in2 (i := 135) rfl) rfl
theorem w_452 : (Jvm.Cond.code ({ cls := "java/lang/Exception", name := "<init>", desc := "(Ljava/lang/String;)V" } : Jvm.MethodName) prog_19_method_2_code (2 : Nat) (Option.none : Option Jvm.ClassFile.FieldType)) ∈ TW := tw_m (tw_in2 (i := 136) rfl) rfl
theorem w_453 : (Jvm.Cond.methodLink "java/lang/Exception" (7 : Nat) ({ cls := "java/lang/Throwable", name := "<init>", desc := "(Ljava/lang/String;)V" } : Jvm.MethodName)) ∈ TW := tw_m (tw_in2 (i := 137) rfl) rfl
theorem w_454 : (Jvm.Cond.instanceMethod ({ cls := "java/lang/Throwable", name := "<init>", desc := "(Ljava/lang/String;)V" } : Jvm.MethodName)) ∈ TW := tw_m (tw_in2 (i := 138) rfl) rfl
theorem w_455 : (Jvm.Cond.code ({ cls := "java/lang/Throwable", name := "<init>", desc := "(Ljava/lang/String;)V" } : Jvm.MethodName) prog_33_method_2_code (2 : Nat) (Option.none : Option Jvm.ClassFile.FieldType)) ∈ TW := tw_m (tw_in2 (i := 139) rfl) rfl
theorem w_456 : (Jvm.Cond.fieldLink "java/lang/Throwable" (198 : Nat) "java/lang/Throwable" "backtrace" "Ljava/lang/Object;") ∈ TW := tw_m (tw_in2 (i := 140) rfl) rfl
theorem w_457 : (Jvm.Cond.fieldLink "java/lang/Throwable" (31 : Nat) "java/lang/Throwable" "detailMessage" "Ljava/lang/String;") ∈ TW := tw_m (tw_in2 (i := 141) rfl) rfl
theorem w_458 : (Jvm.Cond.fieldLink "java/lang/Throwable" (7 : Nat) "java/lang/Throwable" "cause" "Ljava/lang/Throwable;") ∈ TW := tw_m (tw_in2 (i := 142) rfl) rfl
theorem w_459 : (Jvm.Cond.fieldLink "java/lang/Throwable" (17 : Nat) "java/lang/Throwable" "stackTrace" "[Ljava/lang/StackTraceElement;") ∈ TW := tw_m (tw_in2 (i := 143) rfl) rfl
theorem w_460 : (Jvm.Cond.fieldLink "java/lang/Throwable" (24 : Nat) "java/lang/Throwable" "suppressedExceptions" "Ljava/util/List;") ∈ TW := tw_m (tw_in2 (i := 144) rfl) rfl
theorem w_461 : (Jvm.Cond.soleField "java/lang/Throwable" "backtrace") ∈ TW := tw_m (tw_in2 (i := 145) rfl) rfl
theorem w_462 : (Jvm.Cond.soleField "java/lang/Throwable" "detailMessage") ∈ TW := tw_m (tw_in2 (i := 146) rfl) rfl
theorem w_463 : (Jvm.Cond.soleField "java/lang/Throwable" "cause") ∈ TW := tw_m (tw_in2 (i := 147) rfl) rfl
theorem w_464 : (Jvm.Cond.soleField "java/lang/Throwable" "stackTrace") ∈ TW := tw_m (tw_in2 (i := 148) rfl) rfl
theorem w_465 : (Jvm.Cond.lays "java/lang/IllegalArgumentException" "java/lang/Throwable" "depth" "I") ∈ TW := tw_m (tw_in2 (i := 149) rfl) rfl
theorem w_466 : (Jvm.Cond.soleField "java/lang/Throwable" "depth") ∈ TW := tw_m (tw_in2 (i := 150) rfl) rfl
theorem w_467 : (Jvm.Cond.soleField "java/lang/Throwable" "suppressedExceptions") ∈ TW := tw_m (tw_in2 (i := 151) rfl) rfl
theorem w_468 : (Jvm.Cond.superclass "java/lang/IllegalArgumentException" "java/lang/RuntimeException") ∈ TW := tw_m (tw_in2 (i := 152) rfl) rfl
theorem w_469 : (Jvm.Cond.arrayClass Jvm.ClassFile.FieldType.byte) ∈ TW := tw_m (tw_in2 (i := 153) rfl) rfl
theorem w_470 : (Jvm.Cond.constant "Twocoin" (52 : Nat) (99999 : Int32)) ∈ TW := tw_m (tw_in2 (i := 154) rfl) rfl
theorem w_471 : (Jvm.Cond.classLink "Twocoin" (60 : Nat) "java/lang/IllegalStateException") ∈ TW := tw_m (tw_in2 (i := 155) rfl) rfl
theorem w_472 : (Jvm.Cond.instantiable "java/lang/IllegalStateException" (6 : Nat)) ∈ TW := tw_m (tw_in2 (i := 156) rfl) rfl
theorem w_473 : (Jvm.Cond.castable "java/lang/IllegalStateException" "java/lang/IllegalStateException") ∈ tw_NG := tw_n (tw_in2 (i := 157) rfl) rfl
theorem w_474 : (Jvm.Cond.selects "java/lang/IllegalStateException" ({ cls := "java/lang/Throwable", name := "fillInStackTrace", desc := "(I)Ljava/lang/Throwable;" } : Jvm.MethodName) ({ cls := "java/lang/Throwable", name := "fillInStackTrace", desc := "(I)Ljava/lang/Throwable;" } : Jvm.MethodName)) ∈ TW := tw_m (tw_in2 (i := 158) rfl) rfl
theorem w_475 : (Jvm.Cond.lays "java/lang/IllegalStateException" "java/lang/Throwable" "cause" "Ljava/lang/Throwable;") ∈ TW := tw_m (tw_in2 (i := 159) rfl) rfl
theorem w_476 : (Jvm.Cond.lays "java/lang/IllegalStateException" "java/lang/Throwable" "stackTrace" "[Ljava/lang/StackTraceElement;") ∈ TW := tw_m (tw_in2 (i := 160) rfl) rfl
theorem w_477 : (Jvm.Cond.lays "java/lang/IllegalStateException" "java/lang/Throwable" "suppressedExceptions" "Ljava/util/List;") ∈ TW := tw_m (tw_in2 (i := 161) rfl) rfl
theorem w_478 : (Jvm.Cond.lays "java/lang/IllegalStateException" "java/lang/Throwable" "detailMessage" "Ljava/lang/String;") ∈ TW := tw_m (tw_in2 (i := 162) rfl) rfl
theorem w_479 : (Jvm.Cond.lays "java/lang/IllegalStateException" "java/lang/Throwable" "backtrace" "Ljava/lang/Object;") ∈ TW := tw_m (tw_in2 (i := 163) rfl) rfl
theorem w_480 : (Jvm.Cond.stringRef "Twocoin" (62 : Nat) "no room for another country") ∈ lw_tbl := tw_in2 (i := 164) rfl
theorem w_481 : (Jvm.Cond.methodLink "Twocoin" (64 : Nat) ({ cls := "java/lang/IllegalStateException", name := "<init>", desc := "(Ljava/lang/String;)V" } : Jvm.MethodName)) ∈ TW := tw_m (tw_in2 (i := 165) rfl) rfl
theorem w_482 : (Jvm.Cond.instanceMethod ({ cls := "java/lang/IllegalStateException", name := "<init>", desc := "(Ljava/lang/String;)V" } : Jvm.MethodName)) ∈ TW := tw_m (tw_in2 (i := 166) rfl) rfl
theorem w_483 : (Jvm.Cond.code ({ cls := "java/lang/IllegalStateException", name := "<init>", desc := "(Ljava/lang/String;)V" } : Jvm.MethodName) prog_21_method_2_code (2 : Nat) (Option.none : Option Jvm.ClassFile.FieldType)) ∈ TW := tw_m (tw_in2 (i := 167) rfl) rfl
theorem w_484 : (Jvm.Cond.methodLink "java/lang/IllegalStateException" (7 : Nat) ({ cls := "java/lang/RuntimeException", name := "<init>", desc := "(Ljava/lang/String;)V" } : Jvm.MethodName)) ∈ TW := tw_m (tw_in2 (i := 168) rfl) rfl
theorem w_485 : (Jvm.Cond.lays "java/lang/IllegalStateException" "java/lang/Throwable" "depth" "I") ∈ TW := tw_m (tw_in2 (i := 169) rfl) rfl
theorem w_486 : (Jvm.Cond.superclass "java/lang/IllegalStateException" "java/lang/RuntimeException") ∈ TW := tw_m (tw_in2 (i := 170) rfl) rfl
theorem w_487 : (Jvm.Cond.methodLinkNest "Twocoin" (67 : Nat) ({ cls := "Twocoin$Country", name := "<init>", desc := "(IIILTwocoin$Metals;)V" } : Jvm.MethodName) "Twocoin") ∈ tw_NG := tw_n (tw_in2 (i := 171) rfl) rfl
theorem w_488 : (Jvm.Cond.instanceMethod ({ cls := "Twocoin$Country", name := "<init>", desc := "(IIILTwocoin$Metals;)V" } : Jvm.MethodName)) ∈ TW := tw_m (tw_in2 (i := 172) rfl) rfl
theorem w_489 : (Jvm.Cond.code ({ cls := "Twocoin$Country", name := "<init>", desc := "(IIILTwocoin$Metals;)V" } : Jvm.MethodName) prog_2_method_1_code (6 : Nat) (Option.none : Option Jvm.ClassFile.FieldType)) ∈ TW := tw_m (tw_in2 (i := 173) rfl) rfl
theorem w_490 : (Jvm.Cond.methodLink "Twocoin$Country" (3 : Nat) ({ cls := "java/lang/Object", name := "<init>", desc := "()V" } : Jvm.MethodName)) ∈ TW := tw_m (tw_in2 (i := 174) rfl) rfl
theorem w_491 : (Jvm.Cond.classLink "Twocoin$Country" (39 : Nat) "Twocoin$Till") ∈ TW := tw_m (tw_in2 (i := 175) rfl) rfl
theorem w_492 : (Jvm.Cond.methodLinkNest "Twocoin$Country" (41 : Nat) ({ cls := "Twocoin$Till", name := "<init>", desc := "()V" } : Jvm.MethodName) "Twocoin") ∈ tw_NG := tw_n (tw_in2 (i := 176) rfl) rfl
theorem w_493 : (Jvm.Cond.instanceMethod ({ cls := "Twocoin$Till", name := "<init>", desc := "()V" } : Jvm.MethodName)) ∈ TW := tw_m (tw_in2 (i := 177) rfl) rfl
theorem w_494 : (Jvm.Cond.code ({ cls := "Twocoin$Till", name := "<init>", desc := "()V" } : Jvm.MethodName) prog_6_method_1_code (1 : Nat) (Option.none : Option Jvm.ClassFile.FieldType)) ∈ TW := tw_m (tw_in2 (i := 178) rfl) rfl
theorem w_495 : (Jvm.Cond.methodLink "Twocoin$Till" (3 : Nat) ({ cls := "java/lang/Object", name := "<init>", desc := "()V" } : Jvm.MethodName)) ∈ TW := tw_m (tw_in2 (i := 179) rfl) rfl
theorem w_496 : (Jvm.Cond.fieldLink "Twocoin$Till" (9 : Nat) "Twocoin$Till" "many" "[I") ∈ TW := tw_m (tw_in2 (i := 180) rfl) rfl
theorem w_497 : (Jvm.Cond.laysFinal "Twocoin$Till" "Twocoin$Till" "many" "[I") ∈ TW := tw_m (tw_in2 (i := 181) rfl) rfl
theorem w_498 : (Jvm.Cond.soleField "Twocoin$Till" "many") ∈ TW := tw_m (tw_in2 (i := 182) rfl) rfl
theorem w_499 : (Jvm.Cond.superclass "Twocoin$Till" "java/lang/Object") ∈ TW := tw_m (tw_in2 (i := 183) rfl) rfl
theorem w_500 : (Jvm.Cond.arrayClass Jvm.ClassFile.FieldType.int) ∈ TW := tw_m (tw_in2 (i := 184) rfl) rfl
theorem w_501 : (Jvm.Cond.fieldLink "Twocoin$Country" (9 : Nat) "Twocoin$Country" "number" "I") ∈ TW := tw_m (tw_in2 (i := 185) rfl) rfl
theorem w_502 : (Jvm.Cond.fieldLinkNest "Twocoin" (98 : Nat) "Twocoin$Country" "number" "I" "Twocoin") ∈ tw_NG := tw_n (tw_in2 (i := 186) rfl) rfl
theorem w_503 : (Jvm.Cond.fieldLink "Twocoin$Country" (15 : Nat) "Twocoin$Country" "rate" "I") ∈ TW := tw_m (tw_in2 (i := 187) rfl) rfl
theorem w_504 : (Jvm.Cond.fieldLinkNest "Twocoin" (77 : Nat) "Twocoin$Country" "rate" "I" "Twocoin") ∈ tw_NG := tw_n (tw_in2 (i := 188) rfl) rfl
theorem w_505 : (Jvm.Cond.fieldLink "Twocoin$Country" (18 : Nat) "Twocoin$Country" "cut" "I") ∈ TW := tw_m (tw_in2 (i := 189) rfl) rfl
theorem w_506 : (Jvm.Cond.fieldLinkNest "Twocoin" (80 : Nat) "Twocoin$Country" "cut" "I" "Twocoin") ∈ tw_NG := tw_n (tw_in2 (i := 190) rfl) rfl
theorem w_507 : (Jvm.Cond.fieldLink "Twocoin$Country" (21 : Nat) "Twocoin$Country" "vault" "LTwocoin$Metals;") ∈ TW := tw_m (tw_in2 (i := 191) rfl) rfl
theorem w_508 : (Jvm.Cond.fieldLinkNest "Twocoin" (108 : Nat) "Twocoin$Country" "vault" "LTwocoin$Metals;" "Twocoin") ∈ tw_NG := tw_n (tw_in2 (i := 192) rfl) rfl
theorem w_509 : (Jvm.Cond.fieldLink "Twocoin$Country" (25 : Nat) "Twocoin$Country" "isGoldOpen" "Z") ∈ TW := tw_m (tw_in2 (i := 193) rfl) rfl
theorem w_510 : (Jvm.Cond.fieldLink "Twocoin$Country" (29 : Nat) "Twocoin$Country" "isSilverOpen" "Z") ∈ TW := tw_m (tw_in2 (i := 194) rfl) rfl
theorem w_511 : (Jvm.Cond.fieldLink "Twocoin$Country" (32 : Nat) "Twocoin$Country" "roadDays" "[I") ∈ TW := tw_m (tw_in2 (i := 195) rfl) rfl
theorem w_512 : (Jvm.Cond.fieldLink "Twocoin$Country" (36 : Nat) "Twocoin$Country" "roadFreights" "[I") ∈ TW := tw_m (tw_in2 (i := 196) rfl) rfl
theorem w_513 : (Jvm.Cond.fieldLink "Twocoin$Country" (42 : Nat) "Twocoin$Country" "till" "LTwocoin$Till;") ∈ TW := tw_m (tw_in2 (i := 197) rfl) rfl
theorem w_514 : (Jvm.Cond.fieldLinkNest "Twocoin" (221 : Nat) "Twocoin$Country" "till" "LTwocoin$Till;" "Twocoin") ∈ tw_NG := tw_n (tw_in2 (i := 198) rfl) rfl
theorem w_515 : (Jvm.Cond.laysFinal "Twocoin$Country" "Twocoin$Country" "number" "I") ∈ TW := tw_m (tw_in2 (i := 199) rfl) rfl
theorem w_516 : (Jvm.Cond.soleField "Twocoin$Country" "number") ∈ TW := tw_m (tw_in2 (i := 200) rfl) rfl
theorem w_517 : (Jvm.Cond.lays "Twocoin$Country" "Twocoin$Country" "rate" "I") ∈ TW := tw_m (tw_in2 (i := 201) rfl) rfl
theorem w_518 : (Jvm.Cond.soleField "Twocoin$Country" "rate") ∈ TW := tw_m (tw_in2 (i := 202) rfl) rfl
theorem w_519 : (Jvm.Cond.lays "Twocoin$Country" "Twocoin$Country" "cut" "I") ∈ TW := tw_m (tw_in2 (i := 203) rfl) rfl
theorem w_520 : (Jvm.Cond.soleField "Twocoin$Country" "cut") ∈ TW := tw_m (tw_in2 (i := 204) rfl) rfl
theorem w_521 : (Jvm.Cond.laysFinal "Twocoin$Country" "Twocoin$Country" "vault" "LTwocoin$Metals;") ∈ TW := tw_m (tw_in2 (i := 205) rfl) rfl
theorem w_522 : (Jvm.Cond.soleField "Twocoin$Country" "vault") ∈ TW := tw_m (tw_in2 (i := 206) rfl) rfl
theorem w_523 : (Jvm.Cond.lays "Twocoin$Country" "Twocoin$Country" "isGoldOpen" "Z") ∈ TW := tw_m (tw_in2 (i := 207) rfl) rfl
theorem w_524 : (Jvm.Cond.soleField "Twocoin$Country" "isGoldOpen") ∈ TW := tw_m (tw_in2 (i := 208) rfl) rfl
theorem w_525 : (Jvm.Cond.lays "Twocoin$Country" "Twocoin$Country" "isSilverOpen" "Z") ∈ TW := tw_m (tw_in2 (i := 209) rfl) rfl
theorem w_526 : (Jvm.Cond.soleField "Twocoin$Country" "isSilverOpen") ∈ TW := tw_m (tw_in2 (i := 210) rfl) rfl
theorem w_527 : (Jvm.Cond.laysFinal "Twocoin$Country" "Twocoin$Country" "roadDays" "[I") ∈ TW := tw_m (tw_in2 (i := 211) rfl) rfl
theorem w_528 : (Jvm.Cond.soleField "Twocoin$Country" "roadDays") ∈ TW := tw_m (tw_in2 (i := 212) rfl) rfl
theorem w_529 : (Jvm.Cond.laysFinal "Twocoin$Country" "Twocoin$Country" "roadFreights" "[I") ∈ TW := tw_m (tw_in2 (i := 213) rfl) rfl
theorem w_530 : (Jvm.Cond.soleField "Twocoin$Country" "roadFreights") ∈ TW := tw_m (tw_in2 (i := 214) rfl) rfl
theorem w_531 : (Jvm.Cond.laysFinal "Twocoin$Country" "Twocoin$Country" "till" "LTwocoin$Till;") ∈ TW := tw_m (tw_in2 (i := 215) rfl) rfl
theorem w_532 : (Jvm.Cond.soleField "Twocoin$Country" "till") ∈ TW := tw_m (tw_in2 (i := 216) rfl) rfl
theorem w_533 : (Jvm.Cond.superclass "Twocoin$Country" "java/lang/Object") ∈ TW := tw_m (tw_in2 (i := 217) rfl) rfl
theorem w_534 : (Jvm.Cond.methodLinkNest "Twocoin" (70 : Nat) ({ cls := "Twocoin$Metals", name := "add", desc := "(II)V" } : Jvm.MethodName) "Twocoin") ∈ tw_NG := tw_n (tw_in2 (i := 218) rfl) rfl
theorem w_535 : (Jvm.Cond.privateMethod ({ cls := "Twocoin$Metals", name := "add", desc := "(II)V" } : Jvm.MethodName)) ∈ lw_tbl := tw_in2 (i := 219) rfl
theorem w_536 : (Jvm.Cond.instanceMethod ({ cls := "Twocoin$Metals", name := "add", desc := "(II)V" } : Jvm.MethodName)) ∈ TW := tw_m (tw_in2 (i := 220) rfl) rfl
theorem w_537 : (Jvm.Cond.code ({ cls := "Twocoin$Metals", name := "add", desc := "(II)V" } : Jvm.MethodName) prog_5_method_3_code (3 : Nat) (Option.none : Option Jvm.ClassFile.FieldType)) ∈ TW := tw_m (tw_in2 (i := 221) rfl) rfl
theorem w_538 : (Jvm.Cond.methodLink "TwocoinLaw" (118 : Nat) ({ cls := "TwocoinLaw", name := "law", desc := "(LTwocoin;IIILTwocoinLaw$Out;)I" } : Jvm.MethodName)) ∈ TW := tw_m (tw_in2 (i := 222) rfl) rfl
theorem w_539 : (Jvm.Cond.static ({ cls := "TwocoinLaw", name := "law", desc := "(LTwocoin;IIILTwocoinLaw$Out;)I" } : Jvm.MethodName)) ∈ TW := tw_m (tw_in2 (i := 223) rfl) rfl
theorem w_540 : (Jvm.Cond.codeWith ({ cls := "TwocoinLaw", name := "law", desc := "(LTwocoin;IIILTwocoinLaw$Out;)I" } : Jvm.MethodName) method_3_code (6 : Nat) (Option.some Jvm.ClassFile.FieldType.int) [((0 : Nat), (13 : Nat), (16 : Nat), (27 : Nat)), ((0 : Nat), (13 : Nat), (20 : Nat), (19 : Nat))]) ∈ TW := tw_m (tw_in2 (i := 224) rfl) rfl
theorem w_541 : (Jvm.Cond.classLink "TwocoinLaw" (27 : Nat) "java/lang/IndexOutOfBoundsException") ∈ TW := tw_m (tw_in2 (i := 225) rfl) rfl
theorem w_542 : (Jvm.Cond.methodLink "TwocoinLaw" (23 : Nat) ({ cls := "Twocoin", name := "law", desc := "(III)I" } : Jvm.MethodName)) ∈ TW := tw_m (tw_in2 (i := 226) rfl) rfl
theorem w_543 : (Jvm.Cond.instanceMethod ({ cls := "Twocoin", name := "law", desc := "(III)I" } : Jvm.MethodName)) ∈ TW := tw_m (tw_in2 (i := 227) rfl) rfl
theorem w_544 : (Jvm.Cond.selects "Twocoin" ({ cls := "Twocoin", name := "law", desc := "(III)I" } : Jvm.MethodName) ({ cls := "Twocoin", name := "law", desc := "(III)I" } : Jvm.MethodName)) ∈ TW := tw_m (tw_in2 (i := 228) rfl) rfl
theorem w_545 : (Jvm.Cond.code ({ cls := "Twocoin", name := "law", desc := "(III)I" } : Jvm.MethodName) prog_1_method_3_code (6 : Nat) (Option.some Jvm.ClassFile.FieldType.int)) ∈ TW := tw_m (tw_in2 (i := 229) rfl) rfl
theorem w_546 : (Jvm.Cond.methodLink "Twocoin" (73 : Nat) ({ cls := "Twocoin", name := "countryAt", desc := "(I)LTwocoin$Country;" } : Jvm.MethodName)) ∈ TW := tw_m (tw_in2 (i := 230) rfl) rfl
theorem w_547 : (Jvm.Cond.privateMethod ({ cls := "Twocoin", name := "countryAt", desc := "(I)LTwocoin$Country;" } : Jvm.MethodName)) ∈ lw_tbl := tw_in2 (i := 231) rfl
theorem w_548 : (Jvm.Cond.instanceMethod ({ cls := "Twocoin", name := "countryAt", desc := "(I)LTwocoin$Country;" } : Jvm.MethodName)) ∈ TW := tw_m (tw_in2 (i := 232) rfl) rfl
theorem w_549 : (Jvm.Cond.code ({ cls := "Twocoin", name := "countryAt", desc := "(I)LTwocoin$Country;" } : Jvm.MethodName) prog_1_method_57_code (2 : Nat) (Option.some (Jvm.ClassFile.FieldType.object "Twocoin$Country"))) ∈ TW := tw_m (tw_in2 (i := 233) rfl) rfl
theorem w_550 : (Jvm.Cond.classLink "Twocoin" (225 : Nat) "java/lang/IndexOutOfBoundsException") ∈ TW := tw_m (tw_in2 (i := 234) rfl) rfl
theorem w_551 : (Jvm.Cond.instantiable "java/lang/IndexOutOfBoundsException" (6 : Nat)) ∈ TW := tw_m (tw_in2 (i := 235) rfl) rfl
theorem w_552 : (Jvm.Cond.castable "java/lang/IndexOutOfBoundsException" "java/lang/IndexOutOfBoundsException") ∈ tw_NG := tw_n (tw_in2 (i := 236) rfl) rfl
theorem w_553 : (Jvm.Cond.selects "java/lang/IndexOutOfBoundsException" ({ cls := "java/lang/Throwable", name := "fillInStackTrace", desc := "(I)Ljava/lang/Throwable;" } : Jvm.MethodName) ({ cls := "java/lang/Throwable", name := "fillInStackTrace", desc := "(I)Ljava/lang/Throwable;" } : Jvm.MethodName)) ∈ TW := tw_m (tw_in2 (i := 237) rfl) rfl
theorem w_554 : (Jvm.Cond.lays "java/lang/IndexOutOfBoundsException" "java/lang/Throwable" "cause" "Ljava/lang/Throwable;") ∈ TW := tw_m (tw_in2 (i := 238) rfl) rfl
theorem w_555 : (Jvm.Cond.lays "java/lang/IndexOutOfBoundsException" "java/lang/Throwable" "stackTrace" "[Ljava/lang/StackTraceElement;") ∈ TW := tw_m (tw_in2 (i := 239) rfl) rfl
theorem w_556 : (Jvm.Cond.lays "java/lang/IndexOutOfBoundsException" "java/lang/Throwable" "suppressedExceptions" "Ljava/util/List;") ∈ TW := tw_m (tw_in3 (i := 0) rfl) rfl
theorem w_557 : (Jvm.Cond.lays "java/lang/IndexOutOfBoundsException" "java/lang/Throwable" "detailMessage" "Ljava/lang/String;") ∈ TW := tw_m (tw_in3 (i := 1) rfl) rfl
theorem w_558 : (Jvm.Cond.lays "java/lang/IndexOutOfBoundsException" "java/lang/Throwable" "backtrace" "Ljava/lang/Object;") ∈ TW := tw_m (tw_in3 (i := 2) rfl) rfl
theorem w_559 : (Jvm.Cond.stringRef "Twocoin" (391 : Nat) "no such country") ∈ lw_tbl := tw_in3 (i := 3) rfl
theorem w_560 : (Jvm.Cond.methodLink "Twocoin" (229 : Nat) ({ cls := "java/lang/IndexOutOfBoundsException", name := "<init>", desc := "(Ljava/lang/String;)V" } : Jvm.MethodName)) ∈ TW := tw_m (tw_in3 (i := 4) rfl) rfl
theorem w_561 : (Jvm.Cond.instanceMethod ({ cls := "java/lang/IndexOutOfBoundsException", name := "<init>", desc := "(Ljava/lang/String;)V" } : Jvm.MethodName)) ∈ TW := tw_m (tw_in3 (i := 5) rfl) rfl
theorem w_562 : (Jvm.Cond.code ({ cls := "java/lang/IndexOutOfBoundsException", name := "<init>", desc := "(Ljava/lang/String;)V" } : Jvm.MethodName) prog_22_method_2_code (2 : Nat) (Option.none : Option Jvm.ClassFile.FieldType)) ∈ TW := tw_m (tw_in3 (i := 6) rfl) rfl
theorem w_563 : (Jvm.Cond.methodLink "java/lang/IndexOutOfBoundsException" (7 : Nat) ({ cls := "java/lang/RuntimeException", name := "<init>", desc := "(Ljava/lang/String;)V" } : Jvm.MethodName)) ∈ TW := tw_m (tw_in3 (i := 7) rfl) rfl
theorem w_564 : (Jvm.Cond.lays "java/lang/IndexOutOfBoundsException" "java/lang/Throwable" "depth" "I") ∈ TW := tw_m (tw_in3 (i := 8) rfl) rfl
theorem w_565 : (Jvm.Cond.superclass "java/lang/IndexOutOfBoundsException" "java/lang/RuntimeException") ∈ TW := tw_m (tw_in3 (i := 9) rfl) rfl
theorem w_566 : (Jvm.Cond.methodLink "TwocoinLaw" (122 : Nat) ({ cls := "TwocoinLaw", name := "gate", desc := "(LTwocoin;IIZLTwocoinLaw$Out;)I" } : Jvm.MethodName)) ∈ TW := tw_m (tw_in3 (i := 10) rfl) rfl
theorem w_567 : (Jvm.Cond.static ({ cls := "TwocoinLaw", name := "gate", desc := "(LTwocoin;IIZLTwocoinLaw$Out;)I" } : Jvm.MethodName)) ∈ TW := tw_m (tw_in3 (i := 11) rfl) rfl
theorem w_568 : (Jvm.Cond.codeWith ({ cls := "TwocoinLaw", name := "gate", desc := "(LTwocoin;IIZLTwocoinLaw$Out;)I" } : Jvm.MethodName) method_4_code (6 : Nat) (Option.some Jvm.ClassFile.FieldType.int) [((0 : Nat), (20 : Nat), (23 : Nat), (27 : Nat)), ((0 : Nat), (20 : Nat), (27 : Nat), (19 : Nat))]) ∈ TW := tw_m (tw_in3 (i := 12) rfl) rfl
theorem w_569 : (Jvm.Cond.methodLink "TwocoinLaw" (29 : Nat) ({ cls := "Twocoin", name := "gate", desc := "(IIZ)Z" } : Jvm.MethodName)) ∈ TW := tw_m (tw_in3 (i := 13) rfl) rfl
theorem w_570 : (Jvm.Cond.instanceMethod ({ cls := "Twocoin", name := "gate", desc := "(IIZ)Z" } : Jvm.MethodName)) ∈ TW := tw_m (tw_in3 (i := 14) rfl) rfl
theorem w_571 : (Jvm.Cond.selects "Twocoin" ({ cls := "Twocoin", name := "gate", desc := "(IIZ)Z" } : Jvm.MethodName) ({ cls := "Twocoin", name := "gate", desc := "(IIZ)Z" } : Jvm.MethodName)) ∈ TW := tw_m (tw_in3 (i := 15) rfl) rfl
theorem w_572 : (Jvm.Cond.code ({ cls := "Twocoin", name := "gate", desc := "(IIZ)Z" } : Jvm.MethodName) prog_1_method_4_code (6 : Nat) (Option.some Jvm.ClassFile.FieldType.boolean)) ∈ TW := tw_m (tw_in3 (i := 16) rfl) rfl
theorem w_573 : (Jvm.Cond.methodLink "Twocoin" (83 : Nat) ({ cls := "Twocoin", name := "needMetal", desc := "(I)V" } : Jvm.MethodName)) ∈ TW := tw_m (tw_in3 (i := 17) rfl) rfl
theorem w_574 : (Jvm.Cond.static ({ cls := "Twocoin", name := "needMetal", desc := "(I)V" } : Jvm.MethodName)) ∈ TW := tw_m (tw_in3 (i := 18) rfl) rfl
theorem w_575 : (Jvm.Cond.code ({ cls := "Twocoin", name := "needMetal", desc := "(I)V" } : Jvm.MethodName) prog_1_method_61_code (1 : Nat) (Option.none : Option Jvm.ClassFile.FieldType)) ∈ TW := tw_m (tw_in3 (i := 19) rfl) rfl
theorem w_576 : (Jvm.Cond.stringRef "Twocoin" (402 : Nat) "no such metal") ∈ lw_tbl := tw_in3 (i := 20) rfl
theorem w_577 : (Jvm.Cond.methodLinkNest "Twocoin" (87 : Nat) ({ cls := "Twocoin$Country", name := "isOpenFor", desc := "(I)Z" } : Jvm.MethodName) "Twocoin") ∈ tw_NG := tw_n (tw_in3 (i := 21) rfl) rfl
theorem w_578 : (Jvm.Cond.privateMethod ({ cls := "Twocoin$Country", name := "isOpenFor", desc := "(I)Z" } : Jvm.MethodName)) ∈ lw_tbl := tw_in3 (i := 22) rfl
theorem w_579 : (Jvm.Cond.instanceMethod ({ cls := "Twocoin$Country", name := "isOpenFor", desc := "(I)Z" } : Jvm.MethodName)) ∈ TW := tw_m (tw_in3 (i := 23) rfl) rfl
theorem w_580 : (Jvm.Cond.code ({ cls := "Twocoin$Country", name := "isOpenFor", desc := "(I)Z" } : Jvm.MethodName) prog_2_method_2_code (2 : Nat) (Option.some Jvm.ClassFile.FieldType.boolean)) ∈ TW := tw_m (tw_in3 (i := 24) rfl) rfl
theorem w_581 : (Jvm.Cond.methodLinkNest "Twocoin" (91 : Nat) ({ cls := "Twocoin$Country", name := "setOpenFor", desc := "(IZ)V" } : Jvm.MethodName) "Twocoin") ∈ tw_NG := tw_n (tw_in3 (i := 25) rfl) rfl
theorem w_582 : (Jvm.Cond.privateMethod ({ cls := "Twocoin$Country", name := "setOpenFor", desc := "(IZ)V" } : Jvm.MethodName)) ∈ lw_tbl := tw_in3 (i := 26) rfl
theorem w_583 : (Jvm.Cond.instanceMethod ({ cls := "Twocoin$Country", name := "setOpenFor", desc := "(IZ)V" } : Jvm.MethodName)) ∈ TW := tw_m (tw_in3 (i := 27) rfl) rfl
theorem w_584 : (Jvm.Cond.code ({ cls := "Twocoin$Country", name := "setOpenFor", desc := "(IZ)V" } : Jvm.MethodName) prog_2_method_3_code (3 : Nat) (Option.none : Option Jvm.ClassFile.FieldType)) ∈ TW := tw_m (tw_in3 (i := 28) rfl) rfl
theorem w_585 : (Jvm.Cond.methodLink "TwocoinLaw" (126 : Nat) ({ cls := "TwocoinLaw", name := "market", desc := "(LTwocoin;ILTwocoinLaw$Out;)I" } : Jvm.MethodName)) ∈ TW := tw_m (tw_in3 (i := 29) rfl) rfl
theorem w_586 : (Jvm.Cond.static ({ cls := "TwocoinLaw", name := "market", desc := "(LTwocoin;ILTwocoinLaw$Out;)I" } : Jvm.MethodName)) ∈ TW := tw_m (tw_in3 (i := 30) rfl) rfl
theorem w_587 : (Jvm.Cond.codeWith ({ cls := "TwocoinLaw", name := "market", desc := "(LTwocoin;ILTwocoinLaw$Out;)I" } : Jvm.MethodName) method_5_code (4 : Nat) (Option.some Jvm.ClassFile.FieldType.int) [((0 : Nat), (10 : Nat), (13 : Nat), (19 : Nat))]) ∈ TW := tw_m (tw_in3 (i := 31) rfl) rfl
theorem w_588 : (Jvm.Cond.methodLink "TwocoinLaw" (33 : Nat) ({ cls := "Twocoin", name := "market", desc := "(I)I" } : Jvm.MethodName)) ∈ TW := tw_m (tw_in3 (i := 32) rfl) rfl
theorem w_589 : (Jvm.Cond.instanceMethod ({ cls := "Twocoin", name := "market", desc := "(I)I" } : Jvm.MethodName)) ∈ TW := tw_m (tw_in3 (i := 33) rfl) rfl
theorem w_590 : (Jvm.Cond.selects "Twocoin" ({ cls := "Twocoin", name := "market", desc := "(I)I" } : Jvm.MethodName) ({ cls := "Twocoin", name := "market", desc := "(I)I" } : Jvm.MethodName)) ∈ TW := tw_m (tw_in3 (i := 34) rfl) rfl
theorem w_591 : (Jvm.Cond.code ({ cls := "Twocoin", name := "market", desc := "(I)I" } : Jvm.MethodName) prog_1_method_5_code (3 : Nat) (Option.some Jvm.ClassFile.FieldType.int)) ∈ TW := tw_m (tw_in3 (i := 35) rfl) rfl
theorem w_592 : (Jvm.Cond.methodLink "TwocoinLaw" (130 : Nat) ({ cls := "TwocoinLaw", name := "road", desc := "(LTwocoin;IIIILTwocoinLaw$Out;)I" } : Jvm.MethodName)) ∈ TW := tw_m (tw_in3 (i := 36) rfl) rfl
theorem w_593 : (Jvm.Cond.static ({ cls := "TwocoinLaw", name := "road", desc := "(LTwocoin;IIIILTwocoinLaw$Out;)I" } : Jvm.MethodName)) ∈ TW := tw_m (tw_in3 (i := 37) rfl) rfl
theorem w_594 : (Jvm.Cond.codeWith ({ cls := "TwocoinLaw", name := "road", desc := "(LTwocoin;IIIILTwocoinLaw$Out;)I" } : Jvm.MethodName) method_6_code (7 : Nat) (Option.some Jvm.ClassFile.FieldType.int) [((0 : Nat), (15 : Nat), (18 : Nat), (27 : Nat)), ((0 : Nat), (15 : Nat), (22 : Nat), (19 : Nat))]) ∈ TW := tw_m (tw_in3 (i := 38) rfl) rfl
theorem w_595 : (Jvm.Cond.methodLink "TwocoinLaw" (37 : Nat) ({ cls := "Twocoin", name := "road", desc := "(IIII)I" } : Jvm.MethodName)) ∈ TW := tw_m (tw_in3 (i := 39) rfl) rfl
theorem w_596 : (Jvm.Cond.instanceMethod ({ cls := "Twocoin", name := "road", desc := "(IIII)I" } : Jvm.MethodName)) ∈ TW := tw_m (tw_in3 (i := 40) rfl) rfl
theorem w_597 : (Jvm.Cond.selects "Twocoin" ({ cls := "Twocoin", name := "road", desc := "(IIII)I" } : Jvm.MethodName) ({ cls := "Twocoin", name := "road", desc := "(IIII)I" } : Jvm.MethodName)) ∈ TW := tw_m (tw_in3 (i := 41) rfl) rfl
theorem w_598 : (Jvm.Cond.code ({ cls := "Twocoin", name := "road", desc := "(IIII)I" } : Jvm.MethodName) prog_1_method_6_code (8 : Nat) (Option.some Jvm.ClassFile.FieldType.int)) ∈ TW := tw_m (tw_in3 (i := 42) rfl) rfl
theorem w_599 : (Jvm.Cond.methodLink "Twocoin" (95 : Nat) ({ cls := "Twocoin", name := "needDifferent", desc := "(II)V" } : Jvm.MethodName)) ∈ TW := tw_m (tw_in3 (i := 43) rfl) rfl
theorem w_600 : (Jvm.Cond.static ({ cls := "Twocoin", name := "needDifferent", desc := "(II)V" } : Jvm.MethodName)) ∈ TW := tw_m (tw_in3 (i := 44) rfl) rfl
theorem w_601 : (Jvm.Cond.code ({ cls := "Twocoin", name := "needDifferent", desc := "(II)V" } : Jvm.MethodName) prog_1_method_63_code (2 : Nat) (Option.none : Option Jvm.ClassFile.FieldType)) ∈ TW := tw_m (tw_in3 (i := 45) rfl) rfl
theorem w_602 : (Jvm.Cond.stringRef "Twocoin" (404 : Nat) "both are the same") ∈ lw_tbl := tw_in3 (i := 46) rfl
theorem w_603 : (Jvm.Cond.methodLinkNest "Twocoin" (105 : Nat) ({ cls := "Twocoin$Country", name := "setRoadTo", desc := "(III)V" } : Jvm.MethodName) "Twocoin") ∈ tw_NG := tw_n (tw_in3 (i := 47) rfl) rfl
theorem w_604 : (Jvm.Cond.privateMethod ({ cls := "Twocoin$Country", name := "setRoadTo", desc := "(III)V" } : Jvm.MethodName)) ∈ lw_tbl := tw_in3 (i := 48) rfl
theorem w_605 : (Jvm.Cond.instanceMethod ({ cls := "Twocoin$Country", name := "setRoadTo", desc := "(III)V" } : Jvm.MethodName)) ∈ TW := tw_m (tw_in3 (i := 49) rfl) rfl
theorem w_606 : (Jvm.Cond.code ({ cls := "Twocoin$Country", name := "setRoadTo", desc := "(III)V" } : Jvm.MethodName) prog_2_method_11_code (4 : Nat) (Option.none : Option Jvm.ClassFile.FieldType)) ∈ TW := tw_m (tw_in3 (i := 50) rfl) rfl
theorem w_607 : (Jvm.Cond.methodLink "TwocoinLaw" (133 : Nat) ({ cls := "TwocoinLaw", name := "mine", desc := "(LTwocoin;IIILTwocoinLaw$Out;)I" } : Jvm.MethodName)) ∈ TW := tw_m (tw_in3 (i := 51) rfl) rfl
theorem w_608 : (Jvm.Cond.static ({ cls := "TwocoinLaw", name := "mine", desc := "(LTwocoin;IIILTwocoinLaw$Out;)I" } : Jvm.MethodName)) ∈ TW := tw_m (tw_in3 (i := 52) rfl) rfl
theorem w_609 : (Jvm.Cond.codeWith ({ cls := "TwocoinLaw", name := "mine", desc := "(LTwocoin;IIILTwocoinLaw$Out;)I" } : Jvm.MethodName) method_7_code (6 : Nat) (Option.some Jvm.ClassFile.FieldType.int) [((0 : Nat), (13 : Nat), (16 : Nat), (27 : Nat)), ((0 : Nat), (13 : Nat), (20 : Nat), (19 : Nat)), ((0 : Nat), (13 : Nat), (24 : Nat), (21 : Nat))]) ∈ TW := tw_m (tw_in3 (i := 53) rfl) rfl
theorem w_610 : (Jvm.Cond.methodLink "TwocoinLaw" (40 : Nat) ({ cls := "Twocoin", name := "mine", desc := "(III)I" } : Jvm.MethodName)) ∈ TW := tw_m (tw_in3 (i := 54) rfl) rfl
theorem w_611 : (Jvm.Cond.instanceMethod ({ cls := "Twocoin", name := "mine", desc := "(III)I" } : Jvm.MethodName)) ∈ TW := tw_m (tw_in3 (i := 55) rfl) rfl
theorem w_612 : (Jvm.Cond.selects "Twocoin" ({ cls := "Twocoin", name := "mine", desc := "(III)I" } : Jvm.MethodName) ({ cls := "Twocoin", name := "mine", desc := "(III)I" } : Jvm.MethodName)) ∈ TW := tw_m (tw_in3 (i := 56) rfl) rfl
theorem w_613 : (Jvm.Cond.code ({ cls := "Twocoin", name := "mine", desc := "(III)I" } : Jvm.MethodName) prog_1_method_7_code (5 : Nat) (Option.some Jvm.ClassFile.FieldType.int)) ∈ TW := tw_m (tw_in3 (i := 57) rfl) rfl
theorem w_614 : (Jvm.Cond.constant "Twocoin" (114 : Nat) (999999 : Int32)) ∈ TW := tw_m (tw_in3 (i := 58) rfl) rfl
theorem w_615 : (Jvm.Cond.stringRef "Twocoin" (115 : Nat) "the vault would have too much") ∈ lw_tbl := tw_in3 (i := 59) rfl
theorem w_616 : (Jvm.Cond.methodLink "TwocoinLaw" (136 : Nat) ({ cls := "TwocoinLaw", name := "use", desc := "(LTwocoin;IIILTwocoinLaw$Out;)I" } : Jvm.MethodName)) ∈ TW := tw_m (tw_in3 (i := 60) rfl) rfl
theorem w_617 : (Jvm.Cond.static ({ cls := "TwocoinLaw", name := "use", desc := "(LTwocoin;IIILTwocoinLaw$Out;)I" } : Jvm.MethodName)) ∈ TW := tw_m (tw_in3 (i := 61) rfl) rfl
theorem w_618 : (Jvm.Cond.codeWith ({ cls := "TwocoinLaw", name := "use", desc := "(LTwocoin;IIILTwocoinLaw$Out;)I" } : Jvm.MethodName) method_8_code (6 : Nat) (Option.some Jvm.ClassFile.FieldType.int) [((0 : Nat), (13 : Nat), (16 : Nat), (27 : Nat)), ((0 : Nat), (13 : Nat), (20 : Nat), (19 : Nat)), ((0 : Nat), (13 : Nat), (24 : Nat), (21 : Nat))]) ∈ TW := tw_m (tw_in3 (i := 62) rfl) rfl
theorem w_619 : (Jvm.Cond.methodLink "TwocoinLaw" (43 : Nat) ({ cls := "Twocoin", name := "use", desc := "(III)I" } : Jvm.MethodName)) ∈ TW := tw_m (tw_in3 (i := 63) rfl) rfl
theorem w_620 : (Jvm.Cond.instanceMethod ({ cls := "Twocoin", name := "use", desc := "(III)I" } : Jvm.MethodName)) ∈ TW := tw_m (tw_in3 (i := 64) rfl) rfl
theorem w_621 : (Jvm.Cond.selects "Twocoin" ({ cls := "Twocoin", name := "use", desc := "(III)I" } : Jvm.MethodName) ({ cls := "Twocoin", name := "use", desc := "(III)I" } : Jvm.MethodName)) ∈ TW := tw_m (tw_in3 (i := 65) rfl) rfl
theorem w_622 : (Jvm.Cond.code ({ cls := "Twocoin", name := "use", desc := "(III)I" } : Jvm.MethodName) prog_1_method_8_code (5 : Nat) (Option.some Jvm.ClassFile.FieldType.int)) ∈ TW := tw_m (tw_in3 (i := 66) rfl) rfl
theorem w_623 : (Jvm.Cond.stringRef "Twocoin" (117 : Nat) "the vault has less") ∈ lw_tbl := tw_in3 (i := 67) rfl
theorem w_624 : (Jvm.Cond.methodLink "TwocoinLaw" (139 : Nat) ({ cls := "TwocoinLaw", name := "house", desc := "(LTwocoin;IIILTwocoinLaw$Out;)I" } : Jvm.MethodName)) ∈ TW := tw_m (tw_in3 (i := 68) rfl) rfl
theorem w_625 : (Jvm.Cond.static ({ cls := "TwocoinLaw", name := "house", desc := "(LTwocoin;IIILTwocoinLaw$Out;)I" } : Jvm.MethodName)) ∈ TW := tw_m (tw_in3 (i := 69) rfl) rfl
theorem w_626 : (Jvm.Cond.codeWith ({ cls := "TwocoinLaw", name := "house", desc := "(LTwocoin;IIILTwocoinLaw$Out;)I" } : Jvm.MethodName) method_9_code (6 : Nat) (Option.some Jvm.ClassFile.FieldType.int) [((0 : Nat), (13 : Nat), (16 : Nat), (27 : Nat)), ((0 : Nat), (13 : Nat), (20 : Nat), (19 : Nat)), ((0 : Nat), (13 : Nat), (24 : Nat), (21 : Nat))]) ∈ TW := tw_m (tw_in3 (i := 70) rfl) rfl
theorem w_627 : (Jvm.Cond.methodLink "TwocoinLaw" (46 : Nat) ({ cls := "Twocoin", name := "house", desc := "(III)I" } : Jvm.MethodName)) ∈ TW := tw_m (tw_in3 (i := 71) rfl) rfl
theorem w_628 : (Jvm.Cond.instanceMethod ({ cls := "Twocoin", name := "house", desc := "(III)I" } : Jvm.MethodName)) ∈ TW := tw_m (tw_in3 (i := 72) rfl) rfl
theorem w_629 : (Jvm.Cond.selects "Twocoin" ({ cls := "Twocoin", name := "house", desc := "(III)I" } : Jvm.MethodName) ({ cls := "Twocoin", name := "house", desc := "(III)I" } : Jvm.MethodName)) ∈ TW := tw_m (tw_in3 (i := 73) rfl) rfl
theorem w_630 : (Jvm.Cond.code ({ cls := "Twocoin", name := "house", desc := "(III)I" } : Jvm.MethodName) prog_1_method_9_code (6 : Nat) (Option.some Jvm.ClassFile.FieldType.int)) ∈ TW := tw_m (tw_in3 (i := 74) rfl) rfl
theorem w_631 : (Jvm.Cond.stringRef "Twocoin" (122 : Nat) "no room for another house") ∈ lw_tbl := tw_in3 (i := 75) rfl
theorem w_632 : (Jvm.Cond.methodLinkNest "Twocoin" (124 : Nat) ({ cls := "Twocoin$House", name := "<init>", desc := "(ILTwocoin$Country;LTwocoin$Metals;)V" } : Jvm.MethodName) "Twocoin") ∈ tw_NG := tw_n (tw_in3 (i := 76) rfl) rfl
theorem w_633 : (Jvm.Cond.instanceMethod ({ cls := "Twocoin$House", name := "<init>", desc := "(ILTwocoin$Country;LTwocoin$Metals;)V" } : Jvm.MethodName)) ∈ TW := tw_m (tw_in3 (i := 77) rfl) rfl
theorem w_634 : (Jvm.Cond.code ({ cls := "Twocoin$House", name := "<init>", desc := "(ILTwocoin$Country;LTwocoin$Metals;)V" } : Jvm.MethodName) prog_4_method_1_code (4 : Nat) (Option.none : Option Jvm.ClassFile.FieldType)) ∈ TW := tw_m (tw_in3 (i := 78) rfl) rfl
theorem w_635 : (Jvm.Cond.methodLink "Twocoin$House" (3 : Nat) ({ cls := "java/lang/Object", name := "<init>", desc := "()V" } : Jvm.MethodName)) ∈ TW := tw_m (tw_in3 (i := 79) rfl) rfl
theorem w_636 : (Jvm.Cond.fieldLink "Twocoin$House" (9 : Nat) "Twocoin$House" "number" "I") ∈ TW := tw_m (tw_in3 (i := 80) rfl) rfl
theorem w_637 : (Jvm.Cond.fieldLinkNest "Twocoin" (291 : Nat) "Twocoin$House" "number" "I" "Twocoin") ∈ tw_NG := tw_n (tw_in3 (i := 81) rfl) rfl
theorem w_638 : (Jvm.Cond.fieldLink "Twocoin$House" (19 : Nat) "Twocoin$House" "purse" "LTwocoin$Metals;") ∈ TW := tw_m (tw_in3 (i := 82) rfl) rfl
theorem w_639 : (Jvm.Cond.fieldLinkNest "Twocoin" (135 : Nat) "Twocoin$House" "purse" "LTwocoin$Metals;" "Twocoin") ∈ tw_NG := tw_n (tw_in3 (i := 83) rfl) rfl
theorem w_640 : (Jvm.Cond.fieldLink "Twocoin$House" (15 : Nat) "Twocoin$House" "place" "LTwocoin$Country;") ∈ TW := tw_m (tw_in3 (i := 84) rfl) rfl
theorem w_641 : (Jvm.Cond.fieldLinkNest "Twocoin" (131 : Nat) "Twocoin$House" "place" "LTwocoin$Country;" "Twocoin") ∈ tw_NG := tw_n (tw_in3 (i := 85) rfl) rfl
theorem w_642 : (Jvm.Cond.fieldLink "Twocoin$House" (23 : Nat) "Twocoin$House" "goal" "LTwocoin$Country;") ∈ TW := tw_m (tw_in3 (i := 86) rfl) rfl
theorem w_643 : (Jvm.Cond.fieldLinkNest "Twocoin" (277 : Nat) "Twocoin$House" "goal" "LTwocoin$Country;" "Twocoin") ∈ tw_NG := tw_n (tw_in3 (i := 87) rfl) rfl
theorem w_644 : (Jvm.Cond.fieldLink "Twocoin$House" (26 : Nat) "Twocoin$House" "arrival" "I") ∈ TW := tw_m (tw_in3 (i := 88) rfl) rfl
theorem w_645 : (Jvm.Cond.fieldLinkNest "Twocoin" (165 : Nat) "Twocoin$House" "arrival" "I" "Twocoin") ∈ tw_NG := tw_n (tw_in3 (i := 89) rfl) rfl
theorem w_646 : (Jvm.Cond.laysFinal "Twocoin$House" "Twocoin$House" "number" "I") ∈ TW := tw_m (tw_in3 (i := 90) rfl) rfl
theorem w_647 : (Jvm.Cond.soleField "Twocoin$House" "number") ∈ TW := tw_m (tw_in3 (i := 91) rfl) rfl
theorem w_648 : (Jvm.Cond.laysFinal "Twocoin$House" "Twocoin$House" "purse" "LTwocoin$Metals;") ∈ TW := tw_m (tw_in3 (i := 92) rfl) rfl
theorem w_649 : (Jvm.Cond.soleField "Twocoin$House" "purse") ∈ TW := tw_m (tw_in3 (i := 93) rfl) rfl
theorem w_650 : (Jvm.Cond.lays "Twocoin$House" "Twocoin$House" "place" "LTwocoin$Country;") ∈ TW := tw_m (tw_in3 (i := 94) rfl) rfl
theorem w_651 : (Jvm.Cond.soleField "Twocoin$House" "place") ∈ TW := tw_m (tw_in3 (i := 95) rfl) rfl
theorem w_652 : (Jvm.Cond.lays "Twocoin$House" "Twocoin$House" "goal" "LTwocoin$Country;") ∈ TW := tw_m (tw_in3 (i := 96) rfl) rfl
theorem w_653 : (Jvm.Cond.soleField "Twocoin$House" "goal") ∈ TW := tw_m (tw_in3 (i := 97) rfl) rfl
theorem w_654 : (Jvm.Cond.lays "Twocoin$House" "Twocoin$House" "arrival" "I") ∈ TW := tw_m (tw_in3 (i := 98) rfl) rfl
theorem w_655 : (Jvm.Cond.soleField "Twocoin$House" "arrival") ∈ TW := tw_m (tw_in3 (i := 99) rfl) rfl
theorem w_656 : (Jvm.Cond.superclass "Twocoin$House" "java/lang/Object") ∈ TW := tw_m (tw_in3 (i := 100) rfl) rfl
theorem w_657 : (Jvm.Cond.methodLink "TwocoinLaw" (142 : Nat) ({ cls := "TwocoinLaw", name := "change", desc := "(LTwocoin;IIILTwocoinLaw$Out;)I" } : Jvm.MethodName)) ∈ TW := tw_m (tw_in3 (i := 101) rfl) rfl
theorem w_658 : (Jvm.Cond.static ({ cls := "TwocoinLaw", name := "change", desc := "(LTwocoin;IIILTwocoinLaw$Out;)I" } : Jvm.MethodName)) ∈ TW := tw_m (tw_in3 (i := 102) rfl) rfl
theorem w_659 : (Jvm.Cond.codeWith ({ cls := "TwocoinLaw", name := "change", desc := "(LTwocoin;IIILTwocoinLaw$Out;)I" } : Jvm.MethodName) method_10_code (6 : Nat) (Option.some Jvm.ClassFile.FieldType.int) [((0 : Nat), (13 : Nat), (16 : Nat), (27 : Nat)), ((0 : Nat), (13 : Nat), (20 : Nat), (19 : Nat)), ((0 : Nat), (13 : Nat), (24 : Nat), (21 : Nat))]) ∈ TW := tw_m (tw_in3 (i := 103) rfl) rfl
theorem w_660 : (Jvm.Cond.methodLink "TwocoinLaw" (49 : Nat) ({ cls := "Twocoin", name := "change", desc := "(III)I" } : Jvm.MethodName)) ∈ TW := tw_m (tw_in3 (i := 104) rfl) rfl
theorem w_661 : (Jvm.Cond.instanceMethod ({ cls := "Twocoin", name := "change", desc := "(III)I" } : Jvm.MethodName)) ∈ TW := tw_m (tw_in3 (i := 105) rfl) rfl
theorem w_662 : (Jvm.Cond.selects "Twocoin" ({ cls := "Twocoin", name := "change", desc := "(III)I" } : Jvm.MethodName) ({ cls := "Twocoin", name := "change", desc := "(III)I" } : Jvm.MethodName)) ∈ TW := tw_m (tw_in3 (i := 106) rfl) rfl
theorem w_663 : (Jvm.Cond.code ({ cls := "Twocoin", name := "change", desc := "(III)I" } : Jvm.MethodName) prog_1_method_10_code (8 : Nat) (Option.some Jvm.ClassFile.FieldType.int)) ∈ TW := tw_m (tw_in3 (i := 107) rfl) rfl
theorem w_664 : (Jvm.Cond.methodLink "Twocoin" (127 : Nat) ({ cls := "Twocoin", name := "houseAt", desc := "(I)LTwocoin$House;" } : Jvm.MethodName)) ∈ TW := tw_m (tw_in3 (i := 108) rfl) rfl
theorem w_665 : (Jvm.Cond.privateMethod ({ cls := "Twocoin", name := "houseAt", desc := "(I)LTwocoin$House;" } : Jvm.MethodName)) ∈ lw_tbl := tw_in3 (i := 109) rfl
theorem w_666 : (Jvm.Cond.instanceMethod ({ cls := "Twocoin", name := "houseAt", desc := "(I)LTwocoin$House;" } : Jvm.MethodName)) ∈ TW := tw_m (tw_in3 (i := 110) rfl) rfl
theorem w_667 : (Jvm.Cond.code ({ cls := "Twocoin", name := "houseAt", desc := "(I)LTwocoin$House;" } : Jvm.MethodName) prog_1_method_58_code (2 : Nat) (Option.some (Jvm.ClassFile.FieldType.object "Twocoin$House"))) ∈ TW := tw_m (tw_in3 (i := 111) rfl) rfl
theorem w_668 : (Jvm.Cond.stringRef "Twocoin" (393 : Nat) "no such house") ∈ lw_tbl := tw_in3 (i := 112) rfl
theorem w_669 : (Jvm.Cond.stringRef "Twocoin" (138 : Nat) "on the road, or has less") ∈ lw_tbl := tw_in3 (i := 113) rfl
theorem w_670 : (Jvm.Cond.stringRef "Twocoin" (147 : Nat) "the mint cannot") ∈ lw_tbl := tw_in3 (i := 114) rfl
theorem w_671 : (Jvm.Cond.methodLink "TwocoinLaw" (145 : Nat) ({ cls := "TwocoinLaw", name := "send", desc := "(LTwocoin;IILTwocoinLaw$Out;)I" } : Jvm.MethodName)) ∈ TW := tw_m (tw_in3 (i := 115) rfl) rfl
theorem w_672 : (Jvm.Cond.static ({ cls := "TwocoinLaw", name := "send", desc := "(LTwocoin;IILTwocoinLaw$Out;)I" } : Jvm.MethodName)) ∈ TW := tw_m (tw_in3 (i := 116) rfl) rfl
theorem w_673 : (Jvm.Cond.codeWith ({ cls := "TwocoinLaw", name := "send", desc := "(LTwocoin;IILTwocoinLaw$Out;)I" } : Jvm.MethodName) method_11_code (5 : Nat) (Option.some Jvm.ClassFile.FieldType.int) [((0 : Nat), (11 : Nat), (14 : Nat), (27 : Nat)), ((0 : Nat), (11 : Nat), (18 : Nat), (21 : Nat))]) ∈ TW := tw_m (tw_in3 (i := 117) rfl) rfl
theorem w_674 : (Jvm.Cond.methodLink "TwocoinLaw" (52 : Nat) ({ cls := "Twocoin", name := "send", desc := "(II)I" } : Jvm.MethodName)) ∈ TW := tw_m (tw_in3 (i := 118) rfl) rfl
theorem w_675 : (Jvm.Cond.instanceMethod ({ cls := "Twocoin", name := "send", desc := "(II)I" } : Jvm.MethodName)) ∈ TW := tw_m (tw_in3 (i := 119) rfl) rfl
theorem w_676 : (Jvm.Cond.selects "Twocoin" ({ cls := "Twocoin", name := "send", desc := "(II)I" } : Jvm.MethodName) ({ cls := "Twocoin", name := "send", desc := "(II)I" } : Jvm.MethodName)) ∈ TW := tw_m (tw_in3 (i := 120) rfl) rfl
theorem w_677 : (Jvm.Cond.code ({ cls := "Twocoin", name := "send", desc := "(II)I" } : Jvm.MethodName) prog_1_method_11_code (6 : Nat) (Option.some Jvm.ClassFile.FieldType.int)) ∈ TW := tw_m (tw_in3 (i := 121) rfl) rfl
theorem w_678 : (Jvm.Cond.stringRef "Twocoin" (149 : Nat) "on the road, or there already") ∈ lw_tbl := tw_in3 (i := 122) rfl
theorem w_679 : (Jvm.Cond.methodLink "Twocoin" (154 : Nat) ({ cls := "Twocoin", name := "payFreight", desc := "(LTwocoin$Metals;II)V" } : Jvm.MethodName)) ∈ TW := tw_m (tw_in3 (i := 123) rfl) rfl
theorem w_680 : (Jvm.Cond.privateMethod ({ cls := "Twocoin", name := "payFreight", desc := "(LTwocoin$Metals;II)V" } : Jvm.MethodName)) ∈ lw_tbl := tw_in3 (i := 124) rfl
theorem w_681 : (Jvm.Cond.instanceMethod ({ cls := "Twocoin", name := "payFreight", desc := "(LTwocoin$Metals;II)V" } : Jvm.MethodName)) ∈ TW := tw_m (tw_in3 (i := 125) rfl) rfl
theorem w_682 : (Jvm.Cond.code ({ cls := "Twocoin", name := "payFreight", desc := "(LTwocoin$Metals;II)V" } : Jvm.MethodName) prog_1_method_12_code (5 : Nat) (Option.none : Option Jvm.ClassFile.FieldType)) ∈ TW := tw_m (tw_in3 (i := 126) rfl) rfl
theorem w_683 : (Jvm.Cond.methodLinkNest "Twocoin" (161 : Nat) ({ cls := "Twocoin$House", name := "leaveFor", desc := "(LTwocoin$Country;I)V" } : Jvm.MethodName) "Twocoin") ∈ tw_NG := tw_n (tw_in3 (i := 127) rfl) rfl
theorem w_684 : (Jvm.Cond.privateMethod ({ cls := "Twocoin$House", name := "leaveFor", desc := "(LTwocoin$Country;I)V" } : Jvm.MethodName)) ∈ lw_tbl := tw_in3 (i := 128) rfl
theorem w_685 : (Jvm.Cond.instanceMethod ({ cls := "Twocoin$House", name := "leaveFor", desc := "(LTwocoin$Country;I)V" } : Jvm.MethodName)) ∈ TW := tw_m (tw_in3 (i := 129) rfl) rfl
theorem w_686 : (Jvm.Cond.code ({ cls := "Twocoin$House", name := "leaveFor", desc := "(LTwocoin$Country;I)V" } : Jvm.MethodName) prog_4_method_2_code (3 : Nat) (Option.none : Option Jvm.ClassFile.FieldType)) ∈ TW := tw_m (tw_in3 (i := 130) rfl) rfl
theorem w_687 : (Jvm.Cond.methodLink "TwocoinLaw" (149 : Nat) ({ cls := "TwocoinLaw", name := "pass", desc := "(LTwocoin;ILTwocoinLaw$Out;)I" } : Jvm.MethodName)) ∈ TW := tw_m (tw_in3 (i := 131) rfl) rfl
theorem w_688 : (Jvm.Cond.static ({ cls := "TwocoinLaw", name := "pass", desc := "(LTwocoin;ILTwocoinLaw$Out;)I" } : Jvm.MethodName)) ∈ TW := tw_m (tw_in3 (i := 132) rfl) rfl
theorem w_689 : (Jvm.Cond.codeWith ({ cls := "TwocoinLaw", name := "pass", desc := "(LTwocoin;ILTwocoinLaw$Out;)I" } : Jvm.MethodName) method_12_code (4 : Nat) (Option.some Jvm.ClassFile.FieldType.int) [((0 : Nat), (10 : Nat), (13 : Nat), (19 : Nat)), ((0 : Nat), (10 : Nat), (16 : Nat), (21 : Nat))]) ∈ TW := tw_m (tw_in3 (i := 133) rfl) rfl
theorem w_690 : (Jvm.Cond.methodLink "TwocoinLaw" (56 : Nat) ({ cls := "Twocoin", name := "pass", desc := "(I)I" } : Jvm.MethodName)) ∈ TW := tw_m (tw_in3 (i := 134) rfl) rfl
theorem w_691 : (Jvm.Cond.instanceMethod ({ cls := "Twocoin", name := "pass", desc := "(I)I" } : Jvm.MethodName)) ∈ TW := tw_m (tw_in3 (i := 135) rfl) rfl
theorem w_692 : (Jvm.Cond.selects "Twocoin" ({ cls := "Twocoin", name := "pass", desc := "(I)I" } : Jvm.MethodName) ({ cls := "Twocoin", name := "pass", desc := "(I)I" } : Jvm.MethodName)) ∈ TW := tw_m (tw_in3 (i := 136) rfl) rfl
theorem w_693 : (Jvm.Cond.code ({ cls := "Twocoin", name := "pass", desc := "(I)I" } : Jvm.MethodName) prog_1_method_13_code (3 : Nat) (Option.some Jvm.ClassFile.FieldType.int)) ∈ TW := tw_m (tw_in3 (i := 137) rfl) rfl
theorem w_694 : (Jvm.Cond.stringRef "Twocoin" (171 : Nat) "that is behind the last day") ∈ lw_tbl := tw_in3 (i := 138) rfl
theorem w_695 : (Jvm.Cond.methodLink "Twocoin" (173 : Nat) ({ cls := "Twocoin", name := "beginDay", desc := "()V" } : Jvm.MethodName)) ∈ TW := tw_m (tw_in3 (i := 139) rfl) rfl
theorem w_696 : (Jvm.Cond.privateMethod ({ cls := "Twocoin", name := "beginDay", desc := "()V" } : Jvm.MethodName)) ∈ lw_tbl := tw_in3 (i := 140) rfl
theorem w_697 : (Jvm.Cond.instanceMethod ({ cls := "Twocoin", name := "beginDay", desc := "()V" } : Jvm.MethodName)) ∈ TW := tw_m (tw_in3 (i := 141) rfl) rfl
theorem w_698 : (Jvm.Cond.code ({ cls := "Twocoin", name := "beginDay", desc := "()V" } : Jvm.MethodName) prog_1_method_14_code (5 : Nat) (Option.none : Option Jvm.ClassFile.FieldType)) ∈ TW := tw_m (tw_in3 (i := 142) rfl) rfl
theorem w_699 : (Jvm.Cond.methodLinkNest "Twocoin" (176 : Nat) ({ cls := "Twocoin$House", name := "arriveBy", desc := "(I)V" } : Jvm.MethodName) "Twocoin") ∈ tw_NG := tw_n (tw_in3 (i := 143) rfl) rfl
