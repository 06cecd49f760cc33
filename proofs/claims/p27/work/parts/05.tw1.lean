theorem w_700 : (Jvm.Cond.privateMethod ({ cls := "Twocoin$House", name := "arriveBy", desc := "(I)V" } : Jvm.MethodName)) ∈ lw_tbl := tw_in3 (i := 144) rfl
theorem w_701 : (Jvm.Cond.instanceMethod ({ cls := "Twocoin$House", name := "arriveBy", desc := "(I)V" } : Jvm.MethodName)) ∈ TW := tw_m (tw_in3 (i := 145) rfl) rfl
theorem w_702 : (Jvm.Cond.code ({ cls := "Twocoin$House", name := "arriveBy", desc := "(I)V" } : Jvm.MethodName) prog_4_method_3_code (2 : Nat) (Option.none : Option Jvm.ClassFile.FieldType)) ∈ TW := tw_m (tw_in3 (i := 146) rfl) rfl
theorem w_703 : (Jvm.Cond.methodLink "Twocoin" (182 : Nat) ({ cls := "Twocoin", name := "wearVaults", desc := "()V" } : Jvm.MethodName)) ∈ TW := tw_m (tw_in3 (i := 147) rfl) rfl
theorem w_704 : (Jvm.Cond.privateMethod ({ cls := "Twocoin", name := "wearVaults", desc := "()V" } : Jvm.MethodName)) ∈ lw_tbl := tw_in3 (i := 148) rfl
theorem w_705 : (Jvm.Cond.instanceMethod ({ cls := "Twocoin", name := "wearVaults", desc := "()V" } : Jvm.MethodName)) ∈ TW := tw_m (tw_in3 (i := 149) rfl) rfl
theorem w_706 : (Jvm.Cond.code ({ cls := "Twocoin", name := "wearVaults", desc := "()V" } : Jvm.MethodName) prog_1_method_15_code (6 : Nat) (Option.none : Option Jvm.ClassFile.FieldType)) ∈ TW := tw_m (tw_in3 (i := 150) rfl) rfl
theorem w_707 : (Jvm.Cond.methodLink "TwocoinLaw" (152 : Nat) ({ cls := "TwocoinLaw", name := "owe", desc := "(LTwocoin;IIIILTwocoinLaw$Out;)I" } : Jvm.MethodName)) ∈ TW := tw_m (tw_in3 (i := 151) rfl) rfl
theorem w_708 : (Jvm.Cond.static ({ cls := "TwocoinLaw", name := "owe", desc := "(LTwocoin;IIIILTwocoinLaw$Out;)I" } : Jvm.MethodName)) ∈ TW := tw_m (tw_in3 (i := 152) rfl) rfl
theorem w_709 : (Jvm.Cond.codeWith ({ cls := "TwocoinLaw", name := "owe", desc := "(LTwocoin;IIIILTwocoinLaw$Out;)I" } : Jvm.MethodName) method_13_code (7 : Nat) (Option.some Jvm.ClassFile.FieldType.int) [((0 : Nat), (15 : Nat), (18 : Nat), (27 : Nat)), ((0 : Nat), (15 : Nat), (22 : Nat), (19 : Nat)), ((0 : Nat), (15 : Nat), (26 : Nat), (21 : Nat))]) ∈ TW := tw_m (tw_in3 (i := 153) rfl) rfl
theorem w_710 : (Jvm.Cond.methodLink "TwocoinLaw" (59 : Nat) ({ cls := "Twocoin", name := "owe", desc := "(IIII)I" } : Jvm.MethodName)) ∈ TW := tw_m (tw_in3 (i := 154) rfl) rfl
theorem w_711 : (Jvm.Cond.instanceMethod ({ cls := "Twocoin", name := "owe", desc := "(IIII)I" } : Jvm.MethodName)) ∈ TW := tw_m (tw_in3 (i := 155) rfl) rfl
theorem w_712 : (Jvm.Cond.selects "Twocoin" ({ cls := "Twocoin", name := "owe", desc := "(IIII)I" } : Jvm.MethodName) ({ cls := "Twocoin", name := "owe", desc := "(IIII)I" } : Jvm.MethodName)) ∈ TW := tw_m (tw_in3 (i := 156) rfl) rfl
theorem w_713 : (Jvm.Cond.code ({ cls := "Twocoin", name := "owe", desc := "(IIII)I" } : Jvm.MethodName) prog_1_method_16_code (8 : Nat) (Option.some Jvm.ClassFile.FieldType.int)) ∈ TW := tw_m (tw_in3 (i := 157) rfl) rfl
theorem w_714 : (Jvm.Cond.stringRef "Twocoin" (191 : Nat) "no room for another debt") ∈ lw_tbl := tw_in3 (i := 158) rfl
theorem w_715 : (Jvm.Cond.methodLinkNest "Twocoin" (193 : Nat) ({ cls := "Twocoin$Debt", name := "<init>", desc := "(LTwocoin$House;LTwocoin$House;II)V" } : Jvm.MethodName) "Twocoin") ∈ tw_NG := tw_n (tw_in3 (i := 159) rfl) rfl
theorem w_716 : (Jvm.Cond.instanceMethod ({ cls := "Twocoin$Debt", name := "<init>", desc := "(LTwocoin$House;LTwocoin$House;II)V" } : Jvm.MethodName)) ∈ TW := tw_m (tw_in3 (i := 160) rfl) rfl
theorem w_717 : (Jvm.Cond.code ({ cls := "Twocoin$Debt", name := "<init>", desc := "(LTwocoin$House;LTwocoin$House;II)V" } : Jvm.MethodName) prog_3_method_1_code (5 : Nat) (Option.none : Option Jvm.ClassFile.FieldType)) ∈ TW := tw_m (tw_in3 (i := 161) rfl) rfl
theorem w_718 : (Jvm.Cond.methodLink "Twocoin$Debt" (3 : Nat) ({ cls := "java/lang/Object", name := "<init>", desc := "()V" } : Jvm.MethodName)) ∈ TW := tw_m (tw_in3 (i := 162) rfl) rfl
theorem w_719 : (Jvm.Cond.fieldLink "Twocoin$Debt" (9 : Nat) "Twocoin$Debt" "debtor" "LTwocoin$House;") ∈ TW := tw_m (tw_in3 (i := 163) rfl) rfl
theorem w_720 : (Jvm.Cond.fieldLinkNest "Twocoin" (200 : Nat) "Twocoin$Debt" "debtor" "LTwocoin$House;" "Twocoin") ∈ tw_NG := tw_n (tw_in3 (i := 164) rfl) rfl
theorem w_721 : (Jvm.Cond.fieldLink "Twocoin$Debt" (15 : Nat) "Twocoin$Debt" "creditor" "LTwocoin$House;") ∈ TW := tw_m (tw_in3 (i := 165) rfl) rfl
theorem w_722 : (Jvm.Cond.fieldLinkNest "Twocoin" (208 : Nat) "Twocoin$Debt" "creditor" "LTwocoin$House;" "Twocoin") ∈ tw_NG := tw_n (tw_in3 (i := 166) rfl) rfl
theorem w_723 : (Jvm.Cond.fieldLink "Twocoin$Debt" (18 : Nat) "Twocoin$Debt" "value" "I") ∈ TW := tw_m (tw_in3 (i := 167) rfl) rfl
theorem w_724 : (Jvm.Cond.fieldLinkNest "Twocoin" (292 : Nat) "Twocoin$Debt" "value" "I" "Twocoin") ∈ tw_NG := tw_n (tw_in3 (i := 168) rfl) rfl
theorem w_725 : (Jvm.Cond.fieldLink "Twocoin$Debt" (22 : Nat) "Twocoin$Debt" "day" "I") ∈ TW := tw_m (tw_in3 (i := 169) rfl) rfl
theorem w_726 : (Jvm.Cond.fieldLinkNest "Twocoin" (295 : Nat) "Twocoin$Debt" "day" "I" "Twocoin") ∈ tw_NG := tw_n (tw_in3 (i := 170) rfl) rfl
theorem w_727 : (Jvm.Cond.fieldLink "Twocoin$Debt" (25 : Nat) "Twocoin$Debt" "isPaid" "Z") ∈ TW := tw_m (tw_in3 (i := 171) rfl) rfl
theorem w_728 : (Jvm.Cond.fieldLinkNest "Twocoin" (204 : Nat) "Twocoin$Debt" "isPaid" "Z" "Twocoin") ∈ tw_NG := tw_n (tw_in3 (i := 172) rfl) rfl
theorem w_729 : (Jvm.Cond.laysFinal "Twocoin$Debt" "Twocoin$Debt" "debtor" "LTwocoin$House;") ∈ TW := tw_m (tw_in3 (i := 173) rfl) rfl
theorem w_730 : (Jvm.Cond.soleField "Twocoin$Debt" "debtor") ∈ TW := tw_m (tw_in3 (i := 174) rfl) rfl
theorem w_731 : (Jvm.Cond.laysFinal "Twocoin$Debt" "Twocoin$Debt" "creditor" "LTwocoin$House;") ∈ TW := tw_m (tw_in3 (i := 175) rfl) rfl
theorem w_732 : (Jvm.Cond.soleField "Twocoin$Debt" "creditor") ∈ TW := tw_m (tw_in3 (i := 176) rfl) rfl
theorem w_733 : (Jvm.Cond.laysFinal "Twocoin$Debt" "Twocoin$Debt" "value" "I") ∈ TW := tw_m (tw_in3 (i := 177) rfl) rfl
theorem w_734 : (Jvm.Cond.soleField "Twocoin$Debt" "value") ∈ TW := tw_m (tw_in3 (i := 178) rfl) rfl
theorem w_735 : (Jvm.Cond.laysFinal "Twocoin$Debt" "Twocoin$Debt" "day" "I") ∈ TW := tw_m (tw_in3 (i := 179) rfl) rfl
theorem w_736 : (Jvm.Cond.soleField "Twocoin$Debt" "day") ∈ TW := tw_m (tw_in3 (i := 180) rfl) rfl
theorem w_737 : (Jvm.Cond.lays "Twocoin$Debt" "Twocoin$Debt" "isPaid" "Z") ∈ TW := tw_m (tw_in3 (i := 181) rfl) rfl
theorem w_738 : (Jvm.Cond.soleField "Twocoin$Debt" "isPaid") ∈ TW := tw_m (tw_in3 (i := 182) rfl) rfl
theorem w_739 : (Jvm.Cond.superclass "Twocoin$Debt" "java/lang/Object") ∈ TW := tw_m (tw_in3 (i := 183) rfl) rfl
theorem w_740 : (Jvm.Cond.methodLink "TwocoinLaw" (155 : Nat) ({ cls := "TwocoinLaw", name := "settle", desc := "(LTwocoin;IILTwocoinLaw$Out;)I" } : Jvm.MethodName)) ∈ TW := tw_m (tw_in3 (i := 184) rfl) rfl
theorem w_741 : (Jvm.Cond.static ({ cls := "TwocoinLaw", name := "settle", desc := "(LTwocoin;IILTwocoinLaw$Out;)I" } : Jvm.MethodName)) ∈ TW := tw_m (tw_in3 (i := 185) rfl) rfl
theorem w_742 : (Jvm.Cond.codeWith ({ cls := "TwocoinLaw", name := "settle", desc := "(LTwocoin;IILTwocoinLaw$Out;)I" } : Jvm.MethodName) method_14_code (5 : Nat) (Option.some Jvm.ClassFile.FieldType.int) [((0 : Nat), (11 : Nat), (14 : Nat), (27 : Nat)), ((0 : Nat), (11 : Nat), (18 : Nat), (19 : Nat)), ((0 : Nat), (11 : Nat), (22 : Nat), (21 : Nat))]) ∈ TW := tw_m (tw_in3 (i := 186) rfl) rfl
theorem w_743 : (Jvm.Cond.methodLink "TwocoinLaw" (62 : Nat) ({ cls := "Twocoin", name := "settle", desc := "(II)I" } : Jvm.MethodName)) ∈ TW := tw_m (tw_in3 (i := 187) rfl) rfl
theorem w_744 : (Jvm.Cond.instanceMethod ({ cls := "Twocoin", name := "settle", desc := "(II)I" } : Jvm.MethodName)) ∈ TW := tw_m (tw_in3 (i := 188) rfl) rfl
theorem w_745 : (Jvm.Cond.selects "Twocoin" ({ cls := "Twocoin", name := "settle", desc := "(II)I" } : Jvm.MethodName) ({ cls := "Twocoin", name := "settle", desc := "(II)I" } : Jvm.MethodName)) ∈ TW := tw_m (tw_in3 (i := 189) rfl) rfl
theorem w_746 : (Jvm.Cond.code ({ cls := "Twocoin", name := "settle", desc := "(II)I" } : Jvm.MethodName) prog_1_method_17_code (7 : Nat) (Option.some Jvm.ClassFile.FieldType.int)) ∈ TW := tw_m (tw_in3 (i := 190) rfl) rfl
theorem w_747 : (Jvm.Cond.methodLink "Twocoin" (196 : Nat) ({ cls := "Twocoin", name := "debtAt", desc := "(I)LTwocoin$Debt;" } : Jvm.MethodName)) ∈ TW := tw_m (tw_in3 (i := 191) rfl) rfl
theorem w_748 : (Jvm.Cond.privateMethod ({ cls := "Twocoin", name := "debtAt", desc := "(I)LTwocoin$Debt;" } : Jvm.MethodName)) ∈ lw_tbl := tw_in3 (i := 192) rfl
theorem w_749 : (Jvm.Cond.instanceMethod ({ cls := "Twocoin", name := "debtAt", desc := "(I)LTwocoin$Debt;" } : Jvm.MethodName)) ∈ TW := tw_m (tw_in3 (i := 193) rfl) rfl
theorem w_750 : (Jvm.Cond.code ({ cls := "Twocoin", name := "debtAt", desc := "(I)LTwocoin$Debt;" } : Jvm.MethodName) prog_1_method_59_code (2 : Nat) (Option.some (Jvm.ClassFile.FieldType.object "Twocoin$Debt"))) ∈ TW := tw_m (tw_in3 (i := 194) rfl) rfl
theorem w_751 : (Jvm.Cond.stringRef "Twocoin" (395 : Nat) "no such debt") ∈ lw_tbl := tw_in3 (i := 195) rfl
theorem w_752 : (Jvm.Cond.stringRef "Twocoin" (211 : Nat) "paid, or one of both is on the road") ∈ lw_tbl := tw_in3 (i := 196) rfl
theorem w_753 : (Jvm.Cond.stringRef "Twocoin" (219 : Nat) "the debtor has less") ∈ lw_tbl := tw_in3 (i := 197) rfl
theorem w_754 : (Jvm.Cond.methodLink "TwocoinLaw" (158 : Nat) ({ cls := "TwocoinLaw", name := "till", desc := "(LTwocoin;IIILTwocoinLaw$Out;)I" } : Jvm.MethodName)) ∈ TW := tw_m (tw_in3 (i := 198) rfl) rfl
theorem w_755 : (Jvm.Cond.static ({ cls := "TwocoinLaw", name := "till", desc := "(LTwocoin;IIILTwocoinLaw$Out;)I" } : Jvm.MethodName)) ∈ TW := tw_m (tw_in3 (i := 199) rfl) rfl
theorem w_756 : (Jvm.Cond.codeWith ({ cls := "TwocoinLaw", name := "till", desc := "(LTwocoin;IIILTwocoinLaw$Out;)I" } : Jvm.MethodName) method_15_code (6 : Nat) (Option.some Jvm.ClassFile.FieldType.int) [((0 : Nat), (13 : Nat), (16 : Nat), (27 : Nat)), ((0 : Nat), (13 : Nat), (20 : Nat), (19 : Nat))]) ∈ TW := tw_m (tw_in3 (i := 200) rfl) rfl
theorem w_757 : (Jvm.Cond.methodLink "TwocoinLaw" (65 : Nat) ({ cls := "Twocoin", name := "till", desc := "(III)I" } : Jvm.MethodName)) ∈ TW := tw_m (tw_in3 (i := 201) rfl) rfl
theorem w_758 : (Jvm.Cond.instanceMethod ({ cls := "Twocoin", name := "till", desc := "(III)I" } : Jvm.MethodName)) ∈ TW := tw_m (tw_in3 (i := 202) rfl) rfl
theorem w_759 : (Jvm.Cond.selects "Twocoin" ({ cls := "Twocoin", name := "till", desc := "(III)I" } : Jvm.MethodName) ({ cls := "Twocoin", name := "till", desc := "(III)I" } : Jvm.MethodName)) ∈ TW := tw_m (tw_in3 (i := 203) rfl) rfl
theorem w_760 : (Jvm.Cond.code ({ cls := "Twocoin", name := "till", desc := "(III)I" } : Jvm.MethodName) prog_1_method_18_code (6 : Nat) (Option.some Jvm.ClassFile.FieldType.int)) ∈ TW := tw_m (tw_in3 (i := 204) rfl) rfl
theorem w_761 : (Jvm.Cond.stringRef "Twocoin" (227 : Nat) "no such kind") ∈ lw_tbl := tw_in3 (i := 205) rfl
theorem w_762 : (Jvm.Cond.methodLinkNest "Twocoin" (230 : Nat) ({ cls := "Twocoin$Till", name := "manyOf", desc := "(I)I" } : Jvm.MethodName) "Twocoin") ∈ tw_NG := tw_n (tw_in3 (i := 206) rfl) rfl
theorem w_763 : (Jvm.Cond.methodLinkNest "Twocoin" (235 : Nat) ({ cls := "Twocoin$Till", name := "setMany", desc := "(II)V" } : Jvm.MethodName) "Twocoin") ∈ tw_NG := tw_n (tw_in3 (i := 207) rfl) rfl
theorem w_764 : (Jvm.Cond.privateMethod ({ cls := "Twocoin$Till", name := "setMany", desc := "(II)V" } : Jvm.MethodName)) ∈ lw_tbl := tw_in3 (i := 208) rfl
theorem w_765 : (Jvm.Cond.instanceMethod ({ cls := "Twocoin$Till", name := "setMany", desc := "(II)V" } : Jvm.MethodName)) ∈ TW := tw_m (tw_in3 (i := 209) rfl) rfl
theorem w_766 : (Jvm.Cond.code ({ cls := "Twocoin$Till", name := "setMany", desc := "(II)V" } : Jvm.MethodName) prog_6_method_3_code (3 : Nat) (Option.none : Option Jvm.ClassFile.FieldType)) ∈ TW := tw_m (tw_in3 (i := 210) rfl) rfl
theorem w_767 : (Jvm.Cond.methodLink "TwocoinLaw" (161 : Nat) ({ cls := "TwocoinLaw", name := "give", desc := "(LTwocoin;IILTwocoinLaw$Out;)I" } : Jvm.MethodName)) ∈ TW := tw_m (tw_in3 (i := 211) rfl) rfl
theorem w_768 : (Jvm.Cond.static ({ cls := "TwocoinLaw", name := "give", desc := "(LTwocoin;IILTwocoinLaw$Out;)I" } : Jvm.MethodName)) ∈ TW := tw_m (tw_in3 (i := 212) rfl) rfl
theorem w_769 : (Jvm.Cond.codeWith ({ cls := "TwocoinLaw", name := "give", desc := "(LTwocoin;IILTwocoinLaw$Out;)I" } : Jvm.MethodName) method_16_code (5 : Nat) (Option.some Jvm.ClassFile.FieldType.int) [((0 : Nat), (11 : Nat), (14 : Nat), (27 : Nat)), ((0 : Nat), (11 : Nat), (18 : Nat), (19 : Nat)), ((0 : Nat), (11 : Nat), (22 : Nat), (21 : Nat))]) ∈ TW := tw_m (tw_in3 (i := 213) rfl) rfl
theorem w_770 : (Jvm.Cond.methodLink "TwocoinLaw" (68 : Nat) ({ cls := "Twocoin", name := "give", desc := "(II)I" } : Jvm.MethodName)) ∈ TW := tw_m (tw_in3 (i := 214) rfl) rfl
theorem w_771 : (Jvm.Cond.instanceMethod ({ cls := "Twocoin", name := "give", desc := "(II)I" } : Jvm.MethodName)) ∈ TW := tw_m (tw_in3 (i := 215) rfl) rfl
theorem w_772 : (Jvm.Cond.selects "Twocoin" ({ cls := "Twocoin", name := "give", desc := "(II)I" } : Jvm.MethodName) ({ cls := "Twocoin", name := "give", desc := "(II)I" } : Jvm.MethodName)) ∈ TW := tw_m (tw_in3 (i := 216) rfl) rfl
theorem w_773 : (Jvm.Cond.code ({ cls := "Twocoin", name := "give", desc := "(II)I" } : Jvm.MethodName) prog_1_method_19_code (5 : Nat) (Option.some Jvm.ClassFile.FieldType.int)) ∈ TW := tw_m (tw_in3 (i := 217) rfl) rfl
theorem w_774 : (Jvm.Cond.stringRef "Twocoin" (241 : Nat) "the till cannot give that") ∈ lw_tbl := tw_in3 (i := 218) rfl
theorem w_775 : (Jvm.Cond.methodLinkNest "Twocoin" (243 : Nat) ({ cls := "Twocoin$Till", name := "takeOut", desc := "(I)I" } : Jvm.MethodName) "Twocoin") ∈ tw_NG := tw_n (tw_in3 (i := 219) rfl) rfl
theorem w_776 : (Jvm.Cond.privateMethod ({ cls := "Twocoin$Till", name := "takeOut", desc := "(I)I" } : Jvm.MethodName)) ∈ lw_tbl := tw_in3 (i := 220) rfl
theorem w_777 : (Jvm.Cond.instanceMethod ({ cls := "Twocoin$Till", name := "takeOut", desc := "(I)I" } : Jvm.MethodName)) ∈ TW := tw_m (tw_in3 (i := 221) rfl) rfl
theorem w_778 : (Jvm.Cond.code ({ cls := "Twocoin$Till", name := "takeOut", desc := "(I)I" } : Jvm.MethodName) prog_6_method_6_code (6 : Nat) (Option.some Jvm.ClassFile.FieldType.int)) ∈ TW := tw_m (tw_in3 (i := 222) rfl) rfl
theorem w_779 : (Jvm.Cond.methodLink "Twocoin$Till" (25 : Nat) ({ cls := "Twocoin$Till", name := "setMany", desc := "(II)V" } : Jvm.MethodName)) ∈ TW := tw_m (tw_in3 (i := 223) rfl) rfl
theorem w_780 : (Jvm.Cond.methodLink "TwocoinLaw" (164 : Nat) ({ cls := "TwocoinLaw", name := "coins", desc := "(LTwocoin;IILTwocoinLaw$Out;)I" } : Jvm.MethodName)) ∈ TW := tw_m (tw_in3 (i := 224) rfl) rfl
theorem w_781 : (Jvm.Cond.static ({ cls := "TwocoinLaw", name := "coins", desc := "(LTwocoin;IILTwocoinLaw$Out;)I" } : Jvm.MethodName)) ∈ TW := tw_m (tw_in3 (i := 225) rfl) rfl
theorem w_782 : (Jvm.Cond.codeWith ({ cls := "TwocoinLaw", name := "coins", desc := "(LTwocoin;IILTwocoinLaw$Out;)I" } : Jvm.MethodName) method_17_code (5 : Nat) (Option.some Jvm.ClassFile.FieldType.int) [((0 : Nat), (11 : Nat), (14 : Nat), (27 : Nat)), ((0 : Nat), (11 : Nat), (18 : Nat), (19 : Nat))]) ∈ TW := tw_m (tw_in3 (i := 226) rfl) rfl
theorem w_783 : (Jvm.Cond.methodLink "TwocoinLaw" (71 : Nat) ({ cls := "Twocoin", name := "coins", desc := "(II)I" } : Jvm.MethodName)) ∈ TW := tw_m (tw_in3 (i := 227) rfl) rfl
theorem w_784 : (Jvm.Cond.instanceMethod ({ cls := "Twocoin", name := "coins", desc := "(II)I" } : Jvm.MethodName)) ∈ TW := tw_m (tw_in3 (i := 228) rfl) rfl
theorem w_785 : (Jvm.Cond.selects "Twocoin" ({ cls := "Twocoin", name := "coins", desc := "(II)I" } : Jvm.MethodName) ({ cls := "Twocoin", name := "coins", desc := "(II)I" } : Jvm.MethodName)) ∈ TW := tw_m (tw_in3 (i := 229) rfl) rfl
theorem w_786 : (Jvm.Cond.code ({ cls := "Twocoin", name := "coins", desc := "(II)I" } : Jvm.MethodName) prog_1_method_20_code (4 : Nat) (Option.some Jvm.ClassFile.FieldType.int)) ∈ TW := tw_m (tw_in3 (i := 230) rfl) rfl
theorem w_787 : (Jvm.Cond.methodLink "TwocoinLaw" (167 : Nat) ({ cls := "TwocoinLaw", name := "ofCountry", desc := "(LTwocoin;IILTwocoinLaw$Out;)I" } : Jvm.MethodName)) ∈ TW := tw_m (tw_in3 (i := 231) rfl) rfl
theorem w_788 : (Jvm.Cond.static ({ cls := "TwocoinLaw", name := "ofCountry", desc := "(LTwocoin;IILTwocoinLaw$Out;)I" } : Jvm.MethodName)) ∈ TW := tw_m (tw_in3 (i := 232) rfl) rfl
theorem w_789 : (Jvm.Cond.codeWith ({ cls := "TwocoinLaw", name := "ofCountry", desc := "(LTwocoin;IILTwocoinLaw$Out;)I" } : Jvm.MethodName) method_18_code (5 : Nat) (Option.some Jvm.ClassFile.FieldType.int) [((0 : Nat), (11 : Nat), (14 : Nat), (27 : Nat)), ((0 : Nat), (11 : Nat), (18 : Nat), (19 : Nat))]) ∈ TW := tw_m (tw_in3 (i := 233) rfl) rfl
theorem w_790 : (Jvm.Cond.methodLink "TwocoinLaw" (74 : Nat) ({ cls := "Twocoin", name := "ofCountry", desc := "(II)I" } : Jvm.MethodName)) ∈ TW := tw_m (tw_in3 (i := 234) rfl) rfl
theorem w_791 : (Jvm.Cond.instanceMethod ({ cls := "Twocoin", name := "ofCountry", desc := "(II)I" } : Jvm.MethodName)) ∈ TW := tw_m (tw_in3 (i := 235) rfl) rfl
theorem w_792 : (Jvm.Cond.selects "Twocoin" ({ cls := "Twocoin", name := "ofCountry", desc := "(II)I" } : Jvm.MethodName) ({ cls := "Twocoin", name := "ofCountry", desc := "(II)I" } : Jvm.MethodName)) ∈ TW := tw_m (tw_in3 (i := 236) rfl) rfl
theorem w_793 : (Jvm.Cond.code ({ cls := "Twocoin", name := "ofCountry", desc := "(II)I" } : Jvm.MethodName) prog_1_method_21_code (4 : Nat) (Option.some Jvm.ClassFile.FieldType.int)) ∈ TW := tw_m (tw_in3 (i := 237) rfl) rfl
theorem w_794 : (Jvm.Cond.methodLink "TwocoinLaw" (170 : Nat) ({ cls := "TwocoinLaw", name := "ofHouse", desc := "(LTwocoin;IILTwocoinLaw$Out;)I" } : Jvm.MethodName)) ∈ TW := tw_m (tw_in3 (i := 238) rfl) rfl
theorem w_795 : (Jvm.Cond.static ({ cls := "TwocoinLaw", name := "ofHouse", desc := "(LTwocoin;IILTwocoinLaw$Out;)I" } : Jvm.MethodName)) ∈ TW := tw_m (tw_in3 (i := 239) rfl) rfl
theorem w_796 : (Jvm.Cond.codeWith ({ cls := "TwocoinLaw", name := "ofHouse", desc := "(LTwocoin;IILTwocoinLaw$Out;)I" } : Jvm.MethodName) method_19_code (5 : Nat) (Option.some Jvm.ClassFile.FieldType.int) [((0 : Nat), (11 : Nat), (14 : Nat), (27 : Nat)), ((0 : Nat), (11 : Nat), (18 : Nat), (19 : Nat))]) ∈ TW := tw_m (tw_in4 (i := 0) rfl) rfl
theorem w_797 : (Jvm.Cond.methodLink "TwocoinLaw" (77 : Nat) ({ cls := "Twocoin", name := "ofHouse", desc := "(II)I" } : Jvm.MethodName)) ∈ TW := tw_m (tw_in4 (i := 1) rfl) rfl
theorem w_798 : (Jvm.Cond.instanceMethod ({ cls := "Twocoin", name := "ofHouse", desc := "(II)I" } : Jvm.MethodName)) ∈ TW := tw_m (tw_in4 (i := 2) rfl) rfl
theorem w_799 : (Jvm.Cond.selects "Twocoin" ({ cls := "Twocoin", name := "ofHouse", desc := "(II)I" } : Jvm.MethodName) ({ cls := "Twocoin", name := "ofHouse", desc := "(II)I" } : Jvm.MethodName)) ∈ TW := tw_m (tw_in4 (i := 3) rfl) rfl
theorem w_800 : (Jvm.Cond.code ({ cls := "Twocoin", name := "ofHouse", desc := "(II)I" } : Jvm.MethodName) prog_1_method_25_code (4 : Nat) (Option.some Jvm.ClassFile.FieldType.int)) ∈ TW := tw_m (tw_in4 (i := 4) rfl) rfl
theorem w_801 : (Jvm.Cond.methodLink "TwocoinLaw" (173 : Nat) ({ cls := "TwocoinLaw", name := "ofDebt", desc := "(LTwocoin;IILTwocoinLaw$Out;)I" } : Jvm.MethodName)) ∈ TW := tw_m (tw_in4 (i := 5) rfl) rfl
theorem w_802 : (Jvm.Cond.static ({ cls := "TwocoinLaw", name := "ofDebt", desc := "(LTwocoin;IILTwocoinLaw$Out;)I" } : Jvm.MethodName)) ∈ TW := tw_m (tw_in4 (i := 6) rfl) rfl
theorem w_803 : (Jvm.Cond.codeWith ({ cls := "TwocoinLaw", name := "ofDebt", desc := "(LTwocoin;IILTwocoinLaw$Out;)I" } : Jvm.MethodName) method_20_code (5 : Nat) (Option.some Jvm.ClassFile.FieldType.int) [((0 : Nat), (11 : Nat), (14 : Nat), (27 : Nat)), ((0 : Nat), (11 : Nat), (18 : Nat), (19 : Nat))]) ∈ TW := tw_m (tw_in4 (i := 7) rfl) rfl
theorem w_804 : (Jvm.Cond.methodLink "TwocoinLaw" (80 : Nat) ({ cls := "Twocoin", name := "ofDebt", desc := "(II)I" } : Jvm.MethodName)) ∈ TW := tw_m (tw_in4 (i := 8) rfl) rfl
theorem w_805 : (Jvm.Cond.instanceMethod ({ cls := "Twocoin", name := "ofDebt", desc := "(II)I" } : Jvm.MethodName)) ∈ TW := tw_m (tw_in4 (i := 9) rfl) rfl
theorem w_806 : (Jvm.Cond.selects "Twocoin" ({ cls := "Twocoin", name := "ofDebt", desc := "(II)I" } : Jvm.MethodName) ({ cls := "Twocoin", name := "ofDebt", desc := "(II)I" } : Jvm.MethodName)) ∈ TW := tw_m (tw_in4 (i := 10) rfl) rfl
theorem w_807 : (Jvm.Cond.code ({ cls := "Twocoin", name := "ofDebt", desc := "(II)I" } : Jvm.MethodName) prog_1_method_30_code (4 : Nat) (Option.some Jvm.ClassFile.FieldType.int)) ∈ TW := tw_m (tw_in4 (i := 11) rfl) rfl
theorem w_808 : (Jvm.Cond.methodLink "TwocoinLaw" (176 : Nat) ({ cls := "TwocoinLaw", name := "world", desc := "(LTwocoin;IILTwocoinLaw$Out;)I" } : Jvm.MethodName)) ∈ TW := tw_m (tw_in4 (i := 12) rfl) rfl
theorem w_809 : (Jvm.Cond.static ({ cls := "TwocoinLaw", name := "world", desc := "(LTwocoin;IILTwocoinLaw$Out;)I" } : Jvm.MethodName)) ∈ TW := tw_m (tw_in4 (i := 13) rfl) rfl
theorem w_810 : (Jvm.Cond.codeWith ({ cls := "TwocoinLaw", name := "world", desc := "(LTwocoin;IILTwocoinLaw$Out;)I" } : Jvm.MethodName) method_21_code (5 : Nat) (Option.some Jvm.ClassFile.FieldType.int) [((0 : Nat), (11 : Nat), (14 : Nat), (19 : Nat))]) ∈ TW := tw_m (tw_in4 (i := 14) rfl) rfl
theorem w_811 : (Jvm.Cond.methodLink "TwocoinLaw" (83 : Nat) ({ cls := "Twocoin", name := "world", desc := "(II)I" } : Jvm.MethodName)) ∈ TW := tw_m (tw_in4 (i := 15) rfl) rfl
theorem w_812 : (Jvm.Cond.instanceMethod ({ cls := "Twocoin", name := "world", desc := "(II)I" } : Jvm.MethodName)) ∈ TW := tw_m (tw_in4 (i := 16) rfl) rfl
theorem w_813 : (Jvm.Cond.selects "Twocoin" ({ cls := "Twocoin", name := "world", desc := "(II)I" } : Jvm.MethodName) ({ cls := "Twocoin", name := "world", desc := "(II)I" } : Jvm.MethodName)) ∈ TW := tw_m (tw_in4 (i := 17) rfl) rfl
theorem w_814 : (Jvm.Cond.code ({ cls := "Twocoin", name := "world", desc := "(II)I" } : Jvm.MethodName) prog_1_method_33_code (3 : Nat) (Option.some Jvm.ClassFile.FieldType.int)) ∈ TW := tw_m (tw_in4 (i := 18) rfl) rfl
theorem w_815 : (Jvm.Cond.methodLink "TwocoinLaw" (179 : Nat) ({ cls := "TwocoinLaw", name := "sign", desc := "(LTwocoin;ILTwocoinLaw$Out;)I" } : Jvm.MethodName)) ∈ TW := tw_m (tw_in4 (i := 19) rfl) rfl
theorem w_816 : (Jvm.Cond.static ({ cls := "TwocoinLaw", name := "sign", desc := "(LTwocoin;ILTwocoinLaw$Out;)I" } : Jvm.MethodName)) ∈ TW := tw_m (tw_in4 (i := 20) rfl) rfl
theorem w_817 : (Jvm.Cond.codeWith ({ cls := "TwocoinLaw", name := "sign", desc := "(LTwocoin;ILTwocoinLaw$Out;)I" } : Jvm.MethodName) method_22_code (4 : Nat) (Option.some Jvm.ClassFile.FieldType.int) [((0 : Nat), (9 : Nat), (12 : Nat), (27 : Nat))]) ∈ TW := tw_m (tw_in4 (i := 21) rfl) rfl
theorem w_818 : (Jvm.Cond.methodLink "TwocoinLaw" (86 : Nat) ({ cls := "Twocoin", name := "sign", desc := "(I)Ljava/lang/String;" } : Jvm.MethodName)) ∈ TW := tw_m (tw_in4 (i := 22) rfl) rfl
theorem w_819 : (Jvm.Cond.instanceMethod ({ cls := "Twocoin", name := "sign", desc := "(I)Ljava/lang/String;" } : Jvm.MethodName)) ∈ TW := tw_m (tw_in4 (i := 23) rfl) rfl
theorem w_820 : (Jvm.Cond.selects "Twocoin" ({ cls := "Twocoin", name := "sign", desc := "(I)Ljava/lang/String;" } : Jvm.MethodName) ({ cls := "Twocoin", name := "sign", desc := "(I)Ljava/lang/String;" } : Jvm.MethodName)) ∈ TW := tw_m (tw_in4 (i := 24) rfl) rfl
theorem w_821 : (Jvm.Cond.code ({ cls := "Twocoin", name := "sign", desc := "(I)Ljava/lang/String;" } : Jvm.MethodName) prog_1_method_37_code (6 : Nat) (Option.some (Jvm.ClassFile.FieldType.object "java/lang/String"))) ∈ TW := tw_m (tw_in4 (i := 25) rfl) rfl
theorem w_822 : (Jvm.Cond.classLink "Twocoin" (315 : Nat) "java/lang/StringBuilder") ∈ TW := tw_m (tw_in4 (i := 26) rfl) rfl
theorem w_823 : (Jvm.Cond.instantiable "java/lang/StringBuilder" (4 : Nat)) ∈ TW := tw_m (tw_in4 (i := 27) rfl) rfl
theorem w_824 : (Jvm.Cond.methodLink "Twocoin" (317 : Nat) ({ cls := "java/lang/StringBuilder", name := "<init>", desc := "()V" } : Jvm.MethodName)) ∈ TW := tw_m (tw_in4 (i := 28) rfl) rfl
theorem w_825 : (Jvm.Cond.instanceMethod ({ cls := "java/lang/StringBuilder", name := "<init>", desc := "()V" } : Jvm.MethodName)) ∈ TW := tw_m (tw_in4 (i := 29) rfl) rfl
theorem w_826 : (Jvm.Cond.code ({ cls := "java/lang/StringBuilder", name := "<init>", desc := "()V" } : Jvm.MethodName) prog_29_method_1_code (1 : Nat) (Option.none : Option Jvm.ClassFile.FieldType)) ∈ TW := tw_m (tw_in4 (i := 30) rfl) rfl
theorem w_827 : (Jvm.Cond.methodLink "java/lang/StringBuilder" (1 : Nat) ({ cls := "java/lang/AbstractStringBuilder", name := "<init>", desc := "(I)V" } : Jvm.MethodName)) ∈ TW := tw_m (tw_in4 (i := 31) rfl) rfl
theorem w_828 : (Jvm.Cond.instanceMethod ({ cls := "java/lang/AbstractStringBuilder", name := "<init>", desc := "(I)V" } : Jvm.MethodName)) ∈ TW := tw_m (tw_in4 (i := 32) rfl) rfl
theorem w_829 : (Jvm.Cond.code ({ cls := "java/lang/AbstractStringBuilder", name := "<init>", desc := "(I)V" } : Jvm.MethodName) prog_14_method_2_code (2 : Nat) (Option.none : Option Jvm.ClassFile.FieldType)) ∈ TW := tw_m (tw_in4 (i := 33) rfl) rfl
theorem w_830 : (Jvm.Cond.methodLink "java/lang/AbstractStringBuilder" (3 : Nat) ({ cls := "java/lang/Object", name := "<init>", desc := "()V" } : Jvm.MethodName)) ∈ TW := tw_m (tw_in4 (i := 34) rfl) rfl
theorem w_831 : (Jvm.Cond.fieldLink "java/lang/AbstractStringBuilder" (18 : Nat) "java/lang/String" "COMPACT_STRINGS" "Z") ∈ TW := tw_m (tw_in4 (i := 35) rfl) rfl
theorem w_832 : (Jvm.Cond.laysStatic "java/lang/String" "COMPACT_STRINGS" "Z") ∈ lw_tbl := tw_in4 (i := 36) rfl
theorem w_833 : (Jvm.Cond.methodLink "java/lang/AbstractStringBuilder" (26 : Nat) ({ cls := "java/lang/StringUTF16", name := "newBytesFor", desc := "(I)[B" } : Jvm.MethodName)) ∈ TW := tw_m (tw_in4 (i := 37) rfl) rfl
theorem w_834 : (Jvm.Cond.static ({ cls := "java/lang/StringUTF16", name := "newBytesFor", desc := "(I)[B" } : Jvm.MethodName)) ∈ TW := tw_m (tw_in4 (i := 38) rfl) rfl
theorem w_835 : (Jvm.Cond.code ({ cls := "java/lang/StringUTF16", name := "newBytesFor", desc := "(I)[B" } : Jvm.MethodName) prog_31_method_2_code (1 : Nat) (Option.some (Jvm.ClassFile.FieldType.array Jvm.ClassFile.FieldType.byte))) ∈ TW := tw_m (tw_in4 (i := 39) rfl) rfl
theorem w_836 : (Jvm.Cond.methodLink "java/lang/StringUTF16" (11 : Nat) ({ cls := "java/lang/StringUTF16", name := "newBytesLength", desc := "(I)I" } : Jvm.MethodName)) ∈ TW := tw_m (tw_in4 (i := 40) rfl) rfl
theorem w_837 : (Jvm.Cond.static ({ cls := "java/lang/StringUTF16", name := "newBytesLength", desc := "(I)I" } : Jvm.MethodName)) ∈ TW := tw_m (tw_in4 (i := 41) rfl) rfl
theorem w_838 : (Jvm.Cond.code ({ cls := "java/lang/StringUTF16", name := "newBytesLength", desc := "(I)I" } : Jvm.MethodName) prog_31_method_3_code (1 : Nat) (Option.some Jvm.ClassFile.FieldType.int)) ∈ TW := tw_m (tw_in4 (i := 42) rfl) rfl
theorem w_839 : (Jvm.Cond.constant "java/lang/StringUTF16" (20 : Nat) (1073741823 : Int32)) ∈ TW := tw_m (tw_in4 (i := 43) rfl) rfl
theorem w_840 : (Jvm.Cond.fieldLink "java/lang/AbstractStringBuilder" (15 : Nat) "java/lang/AbstractStringBuilder" "value" "[B") ∈ TW := tw_m (tw_in4 (i := 44) rfl) rfl
theorem w_841 : (Jvm.Cond.fieldLink "java/lang/AbstractStringBuilder" (22 : Nat) "java/lang/AbstractStringBuilder" "coder" "B") ∈ TW := tw_m (tw_in4 (i := 45) rfl) rfl
theorem w_842 : (Jvm.Cond.fieldLink "java/lang/String" (1048 : Nat) "java/lang/AbstractStringBuilder" "maybeLatin1" "Z") ∈ TW := tw_m (tw_in4 (i := 46) rfl) rfl
theorem w_843 : (Jvm.Cond.fieldLink "java/lang/AbstractStringBuilder" (79 : Nat) "java/lang/AbstractStringBuilder" "count" "I") ∈ TW := tw_m (tw_in4 (i := 47) rfl) rfl
theorem w_844 : (Jvm.Cond.lays "java/lang/StringBuilder" "java/lang/AbstractStringBuilder" "value" "[B") ∈ TW := tw_m (tw_in4 (i := 48) rfl) rfl
theorem w_845 : (Jvm.Cond.soleField "java/lang/AbstractStringBuilder" "value") ∈ TW := tw_m (tw_in4 (i := 49) rfl) rfl
theorem w_846 : (Jvm.Cond.lays "java/lang/StringBuilder" "java/lang/AbstractStringBuilder" "coder" "B") ∈ TW := tw_m (tw_in4 (i := 50) rfl) rfl
theorem w_847 : (Jvm.Cond.soleField "java/lang/AbstractStringBuilder" "coder") ∈ TW := tw_m (tw_in4 (i := 51) rfl) rfl
theorem w_848 : (Jvm.Cond.lays "java/lang/StringBuilder" "java/lang/AbstractStringBuilder" "maybeLatin1" "Z") ∈ TW := tw_m (tw_in4 (i := 52) rfl) rfl
theorem w_849 : (Jvm.Cond.soleField "java/lang/AbstractStringBuilder" "maybeLatin1") ∈ TW := tw_m (tw_in4 (i := 53) rfl) rfl
theorem w_850 : (Jvm.Cond.lays "java/lang/StringBuilder" "java/lang/AbstractStringBuilder" "count" "I") ∈ TW := tw_m (tw_in4 (i := 54) rfl) rfl
theorem w_851 : (Jvm.Cond.soleField "java/lang/AbstractStringBuilder" "count") ∈ TW := tw_m (tw_in4 (i := 55) rfl) rfl
theorem w_852 : (Jvm.Cond.superclass "java/lang/StringBuilder" "java/lang/AbstractStringBuilder") ∈ TW := tw_m (tw_in4 (i := 56) rfl) rfl
theorem w_853 : (Jvm.Cond.methodLink "Twocoin" (318 : Nat) ({ cls := "java/lang/StringBuilder", name := "append", desc := "(I)Ljava/lang/StringBuilder;" } : Jvm.MethodName)) ∈ TW := tw_m (tw_in4 (i := 57) rfl) rfl
theorem w_854 : (Jvm.Cond.instanceMethod ({ cls := "java/lang/StringBuilder", name := "append", desc := "(I)Ljava/lang/StringBuilder;" } : Jvm.MethodName)) ∈ TW := tw_m (tw_in4 (i := 58) rfl) rfl
theorem w_855 : (Jvm.Cond.selects "java/lang/StringBuilder" ({ cls := "java/lang/StringBuilder", name := "append", desc := "(I)Ljava/lang/StringBuilder;" } : Jvm.MethodName) ({ cls := "java/lang/StringBuilder", name := "append", desc := "(I)Ljava/lang/StringBuilder;" } : Jvm.MethodName)) ∈ TW := tw_m (tw_in4 (i := 59) rfl) rfl
theorem w_856 : (Jvm.Cond.code ({ cls := "java/lang/StringBuilder", name := "append", desc := "(I)Ljava/lang/StringBuilder;" } : Jvm.MethodName) prog_29_method_15_code (2 : Nat) (Option.some (Jvm.ClassFile.FieldType.object "java/lang/StringBuilder"))) ∈ TW := tw_m (tw_in4 (i := 60) rfl) rfl
theorem w_857 : (Jvm.Cond.methodLink "java/lang/StringBuilder" (53 : Nat) ({ cls := "java/lang/AbstractStringBuilder", name := "append", desc := "(I)Ljava/lang/AbstractStringBuilder;" } : Jvm.MethodName)) ∈ TW := tw_m (tw_in4 (i := 61) rfl) rfl
theorem w_858 : (Jvm.Cond.instanceMethod ({ cls := "java/lang/AbstractStringBuilder", name := "append", desc := "(I)Ljava/lang/AbstractStringBuilder;" } : Jvm.MethodName)) ∈ TW := tw_m (tw_in4 (i := 62) rfl) rfl
theorem w_859 : (Jvm.Cond.code ({ cls := "java/lang/AbstractStringBuilder", name := "append", desc := "(I)Ljava/lang/AbstractStringBuilder;" } : Jvm.MethodName) prog_14_method_32_code (4 : Nat) (Option.some (Jvm.ClassFile.FieldType.object "java/lang/AbstractStringBuilder"))) ∈ TW := tw_m (tw_in4 (i := 63) rfl) rfl
theorem w_860 : (Jvm.Cond.methodLink "java/lang/AbstractStringBuilder" (245 : Nat) ({ cls := "java/lang/Integer", name := "stringSize", desc := "(I)I" } : Jvm.MethodName)) ∈ TW := tw_m (tw_in4 (i := 64) rfl) rfl
theorem w_861 : (Jvm.Cond.static ({ cls := "java/lang/Integer", name := "stringSize", desc := "(I)I" } : Jvm.MethodName)) ∈ TW := tw_m (tw_in4 (i := 65) rfl) rfl
theorem w_862 : (Jvm.Cond.code ({ cls := "java/lang/Integer", name := "stringSize", desc := "(I)I" } : Jvm.MethodName) prog_23_method_13_code (4 : Nat) (Option.some Jvm.ClassFile.FieldType.int)) ∈ TW := tw_m (tw_in4 (i := 66) rfl) rfl
theorem w_863 : (Jvm.Cond.methodLink "java/lang/AbstractStringBuilder" (100 : Nat) ({ cls := "java/lang/AbstractStringBuilder", name := "ensureCapacityInternal", desc := "(I)V" } : Jvm.MethodName)) ∈ TW := tw_m (tw_in4 (i := 67) rfl) rfl
theorem w_864 : (Jvm.Cond.privateMethod ({ cls := "java/lang/AbstractStringBuilder", name := "ensureCapacityInternal", desc := "(I)V" } : Jvm.MethodName)) ∈ lw_tbl := tw_in4 (i := 68) rfl
theorem w_865 : (Jvm.Cond.instanceMethod ({ cls := "java/lang/AbstractStringBuilder", name := "ensureCapacityInternal", desc := "(I)V" } : Jvm.MethodName)) ∈ TW := tw_m (tw_in4 (i := 69) rfl) rfl
theorem w_866 : (Jvm.Cond.code ({ cls := "java/lang/AbstractStringBuilder", name := "ensureCapacityInternal", desc := "(I)V" } : Jvm.MethodName) prog_14_method_9_code (3 : Nat) (Option.none : Option Jvm.ClassFile.FieldType)) ∈ TW := tw_m (tw_in4 (i := 70) rfl) rfl
theorem w_867 : (Jvm.Cond.methodLink "java/lang/AbstractStringBuilder" (104 : Nat) ({ cls := "java/lang/AbstractStringBuilder", name := "newCapacity", desc := "(I)I" } : Jvm.MethodName)) ∈ TW := tw_m (tw_in4 (i := 71) rfl) rfl
theorem w_868 : (Jvm.Cond.privateMethod ({ cls := "java/lang/AbstractStringBuilder", name := "newCapacity", desc := "(I)I" } : Jvm.MethodName)) ∈ lw_tbl := tw_in4 (i := 72) rfl
theorem w_869 : (Jvm.Cond.instanceMethod ({ cls := "java/lang/AbstractStringBuilder", name := "newCapacity", desc := "(I)I" } : Jvm.MethodName)) ∈ TW := tw_m (tw_in4 (i := 73) rfl) rfl
theorem w_870 : (Jvm.Cond.code ({ cls := "java/lang/AbstractStringBuilder", name := "newCapacity", desc := "(I)I" } : Jvm.MethodName) prog_14_method_10_code (6 : Nat) (Option.some Jvm.ClassFile.FieldType.int)) ∈ TW := tw_m (tw_in4 (i := 74) rfl) rfl
theorem w_871 : (Jvm.Cond.methodLink "java/lang/AbstractStringBuilder" (114 : Nat) ({ cls := "jdk/internal/util/ArraysSupport", name := "newLength", desc := "(III)I" } : Jvm.MethodName)) ∈ TW := tw_m (tw_in4 (i := 75) rfl) rfl
theorem w_872 : (Jvm.Cond.static ({ cls := "jdk/internal/util/ArraysSupport", name := "newLength", desc := "(III)I" } : Jvm.MethodName)) ∈ TW := tw_m (tw_in4 (i := 76) rfl) rfl
theorem w_873 : (Jvm.Cond.code ({ cls := "jdk/internal/util/ArraysSupport", name := "newLength", desc := "(III)I" } : Jvm.MethodName) prog_47_method_27_code (4 : Nat) (Option.some Jvm.ClassFile.FieldType.int)) ∈ TW := tw_m (tw_in4 (i := 77) rfl) rfl
theorem w_874 : (Jvm.Cond.methodLink "jdk/internal/util/ArraysSupport" (194 : Nat) ({ cls := "java/lang/Math", name := "max", desc := "(II)I" } : Jvm.MethodName)) ∈ TW := tw_m (tw_in4 (i := 78) rfl) rfl
theorem w_875 : (Jvm.Cond.static ({ cls := "java/lang/Math", name := "max", desc := "(II)I" } : Jvm.MethodName)) ∈ TW := tw_m (tw_in4 (i := 79) rfl) rfl
theorem w_876 : (Jvm.Cond.code ({ cls := "java/lang/Math", name := "max", desc := "(II)I" } : Jvm.MethodName) prog_25_method_65_code (2 : Nat) (Option.some Jvm.ClassFile.FieldType.int)) ∈ TW := tw_m (tw_in4 (i := 80) rfl) rfl
theorem w_877 : (Jvm.Cond.constant "jdk/internal/util/ArraysSupport" (200 : Nat) (2147483639 : Int32)) ∈ TW := tw_m (tw_in4 (i := 81) rfl) rfl
theorem w_878 : (Jvm.Cond.methodLink "jdk/internal/util/ArraysSupport" (201 : Nat) ({ cls := "jdk/internal/util/ArraysSupport", name := "hugeLength", desc := "(II)I" } : Jvm.MethodName)) ∈ TW := tw_m (tw_in4 (i := 82) rfl) rfl
theorem w_879 : (Jvm.Cond.static ({ cls := "jdk/internal/util/ArraysSupport", name := "hugeLength", desc := "(II)I" } : Jvm.MethodName)) ∈ TW := tw_m (tw_in4 (i := 83) rfl) rfl
theorem w_880 : (Jvm.Cond.code ({ cls := "jdk/internal/util/ArraysSupport", name := "hugeLength", desc := "(II)I" } : Jvm.MethodName) prog_47_method_28_code (3 : Nat) (Option.some Jvm.ClassFile.FieldType.int)) ∈ TW := tw_m (tw_in4 (i := 84) rfl) rfl
theorem w_881 : (Jvm.Cond.constant "java/lang/AbstractStringBuilder" (39 : Nat) (2147483647 : Int32)) ∈ TW := tw_m (tw_in4 (i := 85) rfl) rfl
theorem w_882 : (Jvm.Cond.methodLink "java/lang/AbstractStringBuilder" (108 : Nat) ({ cls := "java/util/Arrays", name := "copyOf", desc := "([BI)[B" } : Jvm.MethodName)) ∈ TW := tw_m (tw_in4 (i := 86) rfl) rfl
theorem w_883 : (Jvm.Cond.static ({ cls := "java/util/Arrays", name := "copyOf", desc := "([BI)[B" } : Jvm.MethodName)) ∈ TW := tw_m (tw_in4 (i := 87) rfl) rfl
theorem w_884 : (Jvm.Cond.code ({ cls := "java/util/Arrays", name := "copyOf", desc := "([BI)[B" } : Jvm.MethodName) prog_40_method_121_code (3 : Nat) (Option.some (Jvm.ClassFile.FieldType.array Jvm.ClassFile.FieldType.byte))) ∈ TW := tw_m (tw_in4 (i := 88) rfl) rfl
theorem w_885 : (Jvm.Cond.methodLink "java/util/Arrays" (310 : Nat) ({ cls := "[B", name := "clone", desc := "()Ljava/lang/Object;" } : Jvm.MethodName)) ∈ TW := tw_m (tw_in4 (i := 89) rfl) rfl
theorem w_886 : (Jvm.Cond.sameMethod "[B" "java/lang/Object" "clone" "()Ljava/lang/Object;") ∈ TW := tw_m (tw_in4 (i := 90) rfl) rfl
theorem w_887 : (Jvm.Cond.native ({ cls := "java/lang/Object", name := "clone", desc := "()Ljava/lang/Object;" } : Jvm.MethodName)) ∈ TW := tw_m (tw_in4 (i := 91) rfl) rfl
theorem w_888 : (Jvm.Cond.instanceMethod ({ cls := "java/lang/Object", name := "clone", desc := "()Ljava/lang/Object;" } : Jvm.MethodName)) ∈ TW := tw_m (tw_in4 (i := 92) rfl) rfl
theorem w_889 : (Jvm.Cond.selects "[B" ({ cls := "[B", name := "clone", desc := "()Ljava/lang/Object;" } : Jvm.MethodName) ({ cls := "java/lang/Object", name := "clone", desc := "()Ljava/lang/Object;" } : Jvm.MethodName)) ∈ TW := tw_m (tw_in4 (i := 93) rfl) rfl
theorem w_890 : (Jvm.Cond.castable "[B" "java/lang/Cloneable") ∈ tw_NG := tw_n (tw_in4 (i := 94) rfl) rfl
theorem w_891 : (Jvm.Cond.classLink "java/util/Arrays" (311 : Nat) "[B") ∈ TW := tw_m (tw_in4 (i := 95) rfl) rfl
theorem w_892 : (Jvm.Cond.methodLink "java/util/Arrays" (304 : Nat) ({ cls := "java/lang/Math", name := "min", desc := "(II)I" } : Jvm.MethodName)) ∈ TW := tw_m (tw_in4 (i := 96) rfl) rfl
theorem w_893 : (Jvm.Cond.methodLink "java/util/Arrays" (150 : Nat) ({ cls := "java/lang/System", name := "arraycopy", desc := "(Ljava/lang/Object;ILjava/lang/Object;II)V" } : Jvm.MethodName)) ∈ TW := tw_m (tw_in4 (i := 97) rfl) rfl
theorem w_894 : (Jvm.Cond.static ({ cls := "java/lang/System", name := "arraycopy", desc := "(Ljava/lang/Object;ILjava/lang/Object;II)V" } : Jvm.MethodName)) ∈ TW := tw_m (tw_in4 (i := 98) rfl) rfl
theorem w_895 : (Jvm.Cond.native ({ cls := "java/lang/System", name := "arraycopy", desc := "(Ljava/lang/Object;ILjava/lang/Object;II)V" } : Jvm.MethodName)) ∈ TW := tw_m (tw_in4 (i := 99) rfl) rfl
theorem w_896 : (Jvm.Cond.methodLink "java/lang/AbstractStringBuilder" (83 : Nat) ({ cls := "java/lang/AbstractStringBuilder", name := "isLatin1", desc := "()Z" } : Jvm.MethodName)) ∈ TW := tw_m (tw_in4 (i := 100) rfl) rfl
theorem w_897 : (Jvm.Cond.instanceMethod ({ cls := "java/lang/AbstractStringBuilder", name := "isLatin1", desc := "()Z" } : Jvm.MethodName)) ∈ TW := tw_m (tw_in4 (i := 101) rfl) rfl
theorem w_898 : (Jvm.Cond.sameMethod "java/lang/AbstractStringBuilder" "java/lang/AbstractStringBuilder" "isLatin1" "()Z") ∈ TW := tw_m (tw_in4 (i := 102) rfl) rfl
theorem w_899 : (Jvm.Cond.selects "java/lang/StringBuilder" ({ cls := "java/lang/AbstractStringBuilder", name := "isLatin1", desc := "()Z" } : Jvm.MethodName) ({ cls := "java/lang/AbstractStringBuilder", name := "isLatin1", desc := "()Z" } : Jvm.MethodName)) ∈ TW := tw_m (tw_in4 (i := 103) rfl) rfl
theorem w_900 : (Jvm.Cond.code ({ cls := "java/lang/AbstractStringBuilder", name := "isLatin1", desc := "()Z" } : Jvm.MethodName) prog_14_method_68_code (1 : Nat) (Option.some Jvm.ClassFile.FieldType.boolean)) ∈ TW := tw_m (tw_in4 (i := 104) rfl) rfl
theorem w_901 : (Jvm.Cond.methodLink "java/lang/AbstractStringBuilder" (248 : Nat) ({ cls := "java/lang/Integer", name := "getChars", desc := "(II[B)I" } : Jvm.MethodName)) ∈ TW := tw_m (tw_in4 (i := 105) rfl) rfl
theorem w_902 : (Jvm.Cond.static ({ cls := "java/lang/Integer", name := "getChars", desc := "(II[B)I" } : Jvm.MethodName)) ∈ TW := tw_m (tw_in4 (i := 106) rfl) rfl
theorem w_903 : (Jvm.Cond.code ({ cls := "java/lang/Integer", name := "getChars", desc := "(II[B)I" } : Jvm.MethodName) prog_23_method_12_code (7 : Nat) (Option.some Jvm.ClassFile.FieldType.int)) ∈ TW := tw_m (tw_in4 (i := 107) rfl) rfl
theorem w_904 : (Jvm.Cond.fieldLink "java/lang/Integer" (83 : Nat) "java/lang/Integer" "DigitOnes" "[B") ∈ TW := tw_m (tw_in4 (i := 108) rfl) rfl
theorem w_905 : (Jvm.Cond.laysStatic "java/lang/Integer" "DigitOnes" "[B") ∈ lw_tbl := tw_in4 (i := 109) rfl
theorem w_906 : (Jvm.Cond.fieldLink "java/lang/Integer" (87 : Nat) "java/lang/Integer" "DigitTens" "[B") ∈ TW := tw_m (tw_in4 (i := 110) rfl) rfl
theorem w_907 : (Jvm.Cond.laysStatic "java/lang/Integer" "DigitTens" "[B") ∈ lw_tbl := tw_in4 (i := 111) rfl
theorem w_908 : (Jvm.Cond.methodLink "java/lang/AbstractStringBuilder" (251 : Nat) ({ cls := "java/lang/StringUTF16", name := "getChars", desc := "(III[B)I" } : Jvm.MethodName)) ∈ TW := tw_m (tw_in4 (i := 112) rfl) rfl
theorem w_909 : (Jvm.Cond.static ({ cls := "java/lang/StringUTF16", name := "getChars", desc := "(III[B)I" } : Jvm.MethodName)) ∈ TW := tw_m (tw_in4 (i := 113) rfl) rfl
theorem w_910 : (Jvm.Cond.code ({ cls := "java/lang/StringUTF16", name := "getChars", desc := "(III[B)I" } : Jvm.MethodName) prog_31_method_77_code (5 : Nat) (Option.some Jvm.ClassFile.FieldType.int)) ∈ TW := tw_m (tw_in4 (i := 114) rfl) rfl
theorem w_911 : (Jvm.Cond.methodLink "java/lang/StringUTF16" (96 : Nat) ({ cls := "java/lang/StringUTF16", name := "checkBoundsBeginEnd", desc := "(II[B)V" } : Jvm.MethodName)) ∈ TW := tw_m (tw_in4 (i := 115) rfl) rfl
theorem w_912 : (Jvm.Cond.static ({ cls := "java/lang/StringUTF16", name := "checkBoundsBeginEnd", desc := "(II[B)V" } : Jvm.MethodName)) ∈ TW := tw_m (tw_in4 (i := 116) rfl) rfl
theorem w_913 : (Jvm.Cond.code ({ cls := "java/lang/StringUTF16", name := "checkBoundsBeginEnd", desc := "(II[B)V" } : Jvm.MethodName) prog_31_method_93_code (3 : Nat) (Option.none : Option Jvm.ClassFile.FieldType)) ∈ TW := tw_m (tw_in4 (i := 117) rfl) rfl
theorem w_914 : (Jvm.Cond.methodLink "java/lang/StringUTF16" (48 : Nat) ({ cls := "java/lang/StringUTF16", name := "length", desc := "([B)I" } : Jvm.MethodName)) ∈ TW := tw_m (tw_in4 (i := 118) rfl) rfl
theorem w_915 : (Jvm.Cond.static ({ cls := "java/lang/StringUTF16", name := "length", desc := "([B)I" } : Jvm.MethodName)) ∈ TW := tw_m (tw_in4 (i := 119) rfl) rfl
theorem w_916 : (Jvm.Cond.code ({ cls := "java/lang/StringUTF16", name := "length", desc := "([B)I" } : Jvm.MethodName) prog_31_method_6_code (1 : Nat) (Option.some Jvm.ClassFile.FieldType.int)) ∈ TW := tw_m (tw_in4 (i := 120) rfl) rfl
theorem w_917 : (Jvm.Cond.methodLink "java/lang/StringUTF16" (241 : Nat) ({ cls := "java/lang/String", name := "checkBoundsBeginEnd", desc := "(III)V" } : Jvm.MethodName)) ∈ TW := tw_m (tw_in4 (i := 121) rfl) rfl
theorem w_918 : (Jvm.Cond.static ({ cls := "java/lang/String", name := "checkBoundsBeginEnd", desc := "(III)V" } : Jvm.MethodName)) ∈ TW := tw_m (tw_in4 (i := 122) rfl) rfl
theorem w_919 : (Jvm.Cond.code ({ cls := "java/lang/String", name := "checkBoundsBeginEnd", desc := "(III)V" } : Jvm.MethodName) prog_28_method_158_code (3 : Nat) (Option.none : Option Jvm.ClassFile.FieldType)) ∈ TW := tw_m (tw_in4 (i := 123) rfl) rfl
theorem w_920 : (Jvm.Cond.fieldLink "java/lang/String" (1053 : Nat) "jdk/internal/util/Preconditions" "SIOOBE_FORMATTER" "Ljava/util/function/BiFunction;") ∈ TW := tw_m (tw_in4 (i := 124) rfl) rfl
theorem w_921 : (Jvm.Cond.laysStatic "jdk/internal/util/Preconditions" "SIOOBE_FORMATTER" "Ljava/util/function/BiFunction;") ∈ lw_tbl := tw_in4 (i := 125) rfl
theorem w_922 : (Jvm.Cond.methodLink "java/lang/String" (1062 : Nat) ({ cls := "jdk/internal/util/Preconditions", name := "checkFromToIndex", desc := "(IIILjava/util/function/BiFunction;)I" } : Jvm.MethodName)) ∈ TW := tw_m (tw_in4 (i := 126) rfl) rfl
theorem w_923 : (Jvm.Cond.static ({ cls := "jdk/internal/util/Preconditions", name := "checkFromToIndex", desc := "(IIILjava/util/function/BiFunction;)I" } : Jvm.MethodName)) ∈ TW := tw_m (tw_in4 (i := 127) rfl) rfl
theorem w_924 : (Jvm.Cond.code ({ cls := "jdk/internal/util/Preconditions", name := "checkFromToIndex", desc := "(IIILjava/util/function/BiFunction;)I" } : Jvm.MethodName) prog_48_method_12_code (4 : Nat) (Option.some Jvm.ClassFile.FieldType.int)) ∈ TW := tw_m (tw_in4 (i := 128) rfl) rfl
theorem w_925 : (Jvm.Cond.methodLink "java/lang/StringUTF16" (393 : Nat) ({ cls := "java/lang/StringUTF16", name := "getChars", desc := "(II[B)I" } : Jvm.MethodName)) ∈ TW := tw_m (tw_in4 (i := 129) rfl) rfl
theorem w_926 : (Jvm.Cond.static ({ cls := "java/lang/StringUTF16", name := "getChars", desc := "(II[B)I" } : Jvm.MethodName)) ∈ TW := tw_m (tw_in4 (i := 130) rfl) rfl
theorem w_927 : (Jvm.Cond.code ({ cls := "java/lang/StringUTF16", name := "getChars", desc := "(II[B)I" } : Jvm.MethodName) prog_31_method_89_code (7 : Nat) (Option.some Jvm.ClassFile.FieldType.int)) ∈ TW := tw_m (tw_in4 (i := 131) rfl) rfl
theorem w_928 : (Jvm.Cond.fieldLink "java/lang/StringUTF16" (403 : Nat) "java/lang/Integer" "DigitOnes" "[B") ∈ TW := tw_m (tw_in4 (i := 132) rfl) rfl
theorem w_929 : (Jvm.Cond.methodLink "java/lang/StringUTF16" (111 : Nat) ({ cls := "java/lang/StringUTF16", name := "putChar", desc := "([BII)V" } : Jvm.MethodName)) ∈ TW := tw_m (tw_in4 (i := 133) rfl) rfl
theorem w_930 : (Jvm.Cond.static ({ cls := "java/lang/StringUTF16", name := "putChar", desc := "([BII)V" } : Jvm.MethodName)) ∈ TW := tw_m (tw_in4 (i := 134) rfl) rfl
theorem w_931 : (Jvm.Cond.code ({ cls := "java/lang/StringUTF16", name := "putChar", desc := "([BII)V" } : Jvm.MethodName) prog_31_method_4_code (3 : Nat) (Option.none : Option Jvm.ClassFile.FieldType)) ∈ TW := tw_m (tw_in4 (i := 135) rfl) rfl
theorem w_932 : (Jvm.Cond.fieldLink "java/lang/StringUTF16" (44 : Nat) "java/lang/StringUTF16" "$assertionsDisabled" "Z") ∈ TW := tw_m (tw_in4 (i := 136) rfl) rfl
theorem w_933 : (Jvm.Cond.laysStatic "java/lang/StringUTF16" "$assertionsDisabled" "Z") ∈ lw_tbl := tw_in4 (i := 137) rfl
theorem w_934 : (Jvm.Cond.fieldLink "java/lang/StringUTF16" (59 : Nat) "java/lang/StringUTF16" "HI_BYTE_SHIFT" "I") ∈ TW := tw_m (tw_in4 (i := 138) rfl) rfl
theorem w_935 : (Jvm.Cond.laysStatic "java/lang/StringUTF16" "HI_BYTE_SHIFT" "I") ∈ lw_tbl := tw_in4 (i := 139) rfl
theorem w_936 : (Jvm.Cond.fieldLink "java/lang/StringUTF16" (63 : Nat) "java/lang/StringUTF16" "LO_BYTE_SHIFT" "I") ∈ TW := tw_m (tw_in4 (i := 140) rfl) rfl
theorem w_937 : (Jvm.Cond.laysStatic "java/lang/StringUTF16" "LO_BYTE_SHIFT" "I") ∈ lw_tbl := tw_in4 (i := 141) rfl
theorem w_938 : (Jvm.Cond.fieldLink "java/lang/StringUTF16" (407 : Nat) "java/lang/Integer" "DigitTens" "[B") ∈ TW := tw_m (tw_in4 (i := 142) rfl) rfl
theorem w_939 : (Jvm.Cond.methodLink "Twocoin" (322 : Nat) ({ cls := "java/lang/StringBuilder", name := "append", desc := "(C)Ljava/lang/StringBuilder;" } : Jvm.MethodName)) ∈ TW := tw_m (tw_in4 (i := 143) rfl) rfl
theorem w_940 : (Jvm.Cond.instanceMethod ({ cls := "java/lang/StringBuilder", name := "append", desc := "(C)Ljava/lang/StringBuilder;" } : Jvm.MethodName)) ∈ TW := tw_m (tw_in4 (i := 144) rfl) rfl
theorem w_941 : (Jvm.Cond.selects "java/lang/StringBuilder" ({ cls := "java/lang/StringBuilder", name := "append", desc := "(C)Ljava/lang/StringBuilder;" } : Jvm.MethodName) ({ cls := "java/lang/StringBuilder", name := "append", desc := "(C)Ljava/lang/StringBuilder;" } : Jvm.MethodName)) ∈ TW := tw_m (tw_in4 (i := 145) rfl) rfl
theorem w_942 : (Jvm.Cond.code ({ cls := "java/lang/StringBuilder", name := "append", desc := "(C)Ljava/lang/StringBuilder;" } : Jvm.MethodName) prog_29_method_14_code (2 : Nat) (Option.some (Jvm.ClassFile.FieldType.object "java/lang/StringBuilder"))) ∈ TW := tw_m (tw_in4 (i := 146) rfl) rfl
theorem w_943 : (Jvm.Cond.methodLink "java/lang/StringBuilder" (50 : Nat) ({ cls := "java/lang/AbstractStringBuilder", name := "append", desc := "(C)Ljava/lang/AbstractStringBuilder;" } : Jvm.MethodName)) ∈ TW := tw_m (tw_in4 (i := 147) rfl) rfl
theorem w_944 : (Jvm.Cond.instanceMethod ({ cls := "java/lang/AbstractStringBuilder", name := "append", desc := "(C)Ljava/lang/AbstractStringBuilder;" } : Jvm.MethodName)) ∈ TW := tw_m (tw_in4 (i := 148) rfl) rfl
theorem w_945 : (Jvm.Cond.code ({ cls := "java/lang/AbstractStringBuilder", name := "append", desc := "(C)Ljava/lang/AbstractStringBuilder;" } : Jvm.MethodName) prog_14_method_31_code (2 : Nat) (Option.some (Jvm.ClassFile.FieldType.object "java/lang/AbstractStringBuilder"))) ∈ TW := tw_m (tw_in4 (i := 149) rfl) rfl
theorem w_946 : (Jvm.Cond.methodLink "java/lang/AbstractStringBuilder" (191 : Nat) ({ cls := "java/lang/StringLatin1", name := "canEncode", desc := "(C)Z" } : Jvm.MethodName)) ∈ TW := tw_m (tw_in4 (i := 150) rfl) rfl
theorem w_947 : (Jvm.Cond.static ({ cls := "java/lang/StringLatin1", name := "canEncode", desc := "(C)Z" } : Jvm.MethodName)) ∈ TW := tw_m (tw_in4 (i := 151) rfl) rfl
theorem w_948 : (Jvm.Cond.code ({ cls := "java/lang/StringLatin1", name := "canEncode", desc := "(C)Z" } : Jvm.MethodName) prog_30_method_3_code (1 : Nat) (Option.some Jvm.ClassFile.FieldType.boolean)) ∈ TW := tw_m (tw_in4 (i := 152) rfl) rfl
theorem w_949 : (Jvm.Cond.methodLink "java/lang/AbstractStringBuilder" (195 : Nat) ({ cls := "java/lang/AbstractStringBuilder", name := "inflate", desc := "()V" } : Jvm.MethodName)) ∈ TW := tw_m (tw_in4 (i := 153) rfl) rfl
theorem w_950 : (Jvm.Cond.privateMethod ({ cls := "java/lang/AbstractStringBuilder", name := "inflate", desc := "()V" } : Jvm.MethodName)) ∈ lw_tbl := tw_in4 (i := 154) rfl
theorem w_951 : (Jvm.Cond.instanceMethod ({ cls := "java/lang/AbstractStringBuilder", name := "inflate", desc := "()V" } : Jvm.MethodName)) ∈ TW := tw_m (tw_in4 (i := 155) rfl) rfl
theorem w_952 : (Jvm.Cond.code ({ cls := "java/lang/AbstractStringBuilder", name := "inflate", desc := "()V" } : Jvm.MethodName) prog_14_method_11_code (2 : Nat) (Option.none : Option Jvm.ClassFile.FieldType)) ∈ TW := tw_m (tw_in4 (i := 156) rfl) rfl
theorem w_953 : (Jvm.Cond.methodLink "java/lang/AbstractStringBuilder" (125 : Nat) ({ cls := "java/lang/StringLatin1", name := "inflate", desc := "([BI[BII)V" } : Jvm.MethodName)) ∈ TW := tw_m (tw_in4 (i := 157) rfl) rfl
theorem w_954 : (Jvm.Cond.static ({ cls := "java/lang/StringLatin1", name := "inflate", desc := "([BI[BII)V" } : Jvm.MethodName)) ∈ TW := tw_m (tw_in4 (i := 158) rfl) rfl
theorem w_955 : (Jvm.Cond.code ({ cls := "java/lang/StringLatin1", name := "inflate", desc := "([BI[BII)V" } : Jvm.MethodName) prog_30_method_50_code (5 : Nat) (Option.none : Option Jvm.ClassFile.FieldType)) ∈ TW := tw_m (tw_in4 (i := 159) rfl) rfl
theorem w_956 : (Jvm.Cond.methodLink "java/lang/StringLatin1" (240 : Nat) ({ cls := "java/lang/StringUTF16", name := "inflate", desc := "([BI[BII)V" } : Jvm.MethodName)) ∈ TW := tw_m (tw_in4 (i := 160) rfl) rfl
theorem w_957 : (Jvm.Cond.static ({ cls := "java/lang/StringUTF16", name := "inflate", desc := "([BI[BII)V" } : Jvm.MethodName)) ∈ TW := tw_m (tw_in4 (i := 161) rfl) rfl
theorem w_958 : (Jvm.Cond.code ({ cls := "java/lang/StringUTF16", name := "inflate", desc := "([BI[BII)V" } : Jvm.MethodName) prog_31_method_86_code (6 : Nat) (Option.none : Option Jvm.ClassFile.FieldType)) ∈ TW := tw_m (tw_in4 (i := 162) rfl) rfl
theorem w_959 : (Jvm.Cond.methodLink "java/lang/StringUTF16" (173 : Nat) ({ cls := "java/lang/StringUTF16", name := "checkBoundsOffCount", desc := "(II[B)V" } : Jvm.MethodName)) ∈ TW := tw_m (tw_in4 (i := 163) rfl) rfl
theorem w_960 : (Jvm.Cond.static ({ cls := "java/lang/StringUTF16", name := "checkBoundsOffCount", desc := "(II[B)V" } : Jvm.MethodName)) ∈ TW := tw_m (tw_in4 (i := 164) rfl) rfl
theorem w_961 : (Jvm.Cond.code ({ cls := "java/lang/StringUTF16", name := "checkBoundsOffCount", desc := "(II[B)V" } : Jvm.MethodName) prog_31_method_94_code (3 : Nat) (Option.none : Option Jvm.ClassFile.FieldType)) ∈ TW := tw_m (tw_in4 (i := 165) rfl) rfl
theorem w_962 : (Jvm.Cond.methodLink "java/lang/StringUTF16" (419 : Nat) ({ cls := "java/lang/String", name := "checkBoundsOffCount", desc := "(III)I" } : Jvm.MethodName)) ∈ TW := tw_m (tw_in4 (i := 166) rfl) rfl
theorem w_963 : (Jvm.Cond.static ({ cls := "java/lang/String", name := "checkBoundsOffCount", desc := "(III)I" } : Jvm.MethodName)) ∈ TW := tw_m (tw_in4 (i := 167) rfl) rfl
theorem w_964 : (Jvm.Cond.code ({ cls := "java/lang/String", name := "checkBoundsOffCount", desc := "(III)I" } : Jvm.MethodName) prog_28_method_157_code (3 : Nat) (Option.some Jvm.ClassFile.FieldType.int)) ∈ TW := tw_m (tw_in4 (i := 168) rfl) rfl
theorem w_965 : (Jvm.Cond.methodLink "java/lang/String" (1065 : Nat) ({ cls := "jdk/internal/util/Preconditions", name := "checkFromIndexSize", desc := "(IIILjava/util/function/BiFunction;)I" } : Jvm.MethodName)) ∈ TW := tw_m (tw_in4 (i := 169) rfl) rfl
theorem w_966 : (Jvm.Cond.static ({ cls := "jdk/internal/util/Preconditions", name := "checkFromIndexSize", desc := "(IIILjava/util/function/BiFunction;)I" } : Jvm.MethodName)) ∈ TW := tw_m (tw_in4 (i := 170) rfl) rfl
theorem w_967 : (Jvm.Cond.code ({ cls := "jdk/internal/util/Preconditions", name := "checkFromIndexSize", desc := "(IIILjava/util/function/BiFunction;)I" } : Jvm.MethodName) prog_48_method_13_code (4 : Nat) (Option.some Jvm.ClassFile.FieldType.int)) ∈ TW := tw_m (tw_in4 (i := 171) rfl) rfl
theorem w_968 : (Jvm.Cond.methodLink "java/lang/AbstractStringBuilder" (197 : Nat) ({ cls := "java/lang/StringUTF16", name := "putCharSB", desc := "([BII)V" } : Jvm.MethodName)) ∈ TW := tw_m (tw_in4 (i := 172) rfl) rfl
theorem w_969 : (Jvm.Cond.static ({ cls := "java/lang/StringUTF16", name := "putCharSB", desc := "([BII)V" } : Jvm.MethodName)) ∈ TW := tw_m (tw_in4 (i := 173) rfl) rfl
theorem w_970 : (Jvm.Cond.code ({ cls := "java/lang/StringUTF16", name := "putCharSB", desc := "([BII)V" } : Jvm.MethodName) prog_31_method_71_code (3 : Nat) (Option.none : Option Jvm.ClassFile.FieldType)) ∈ TW := tw_m (tw_in4 (i := 174) rfl) rfl
theorem w_971 : (Jvm.Cond.methodLink "java/lang/StringUTF16" (67 : Nat) ({ cls := "java/lang/StringUTF16", name := "checkIndex", desc := "(I[B)V" } : Jvm.MethodName)) ∈ TW := tw_m (tw_in4 (i := 175) rfl) rfl
theorem w_972 : (Jvm.Cond.static ({ cls := "java/lang/StringUTF16", name := "checkIndex", desc := "(I[B)V" } : Jvm.MethodName)) ∈ TW := tw_m (tw_in4 (i := 176) rfl) rfl
theorem w_973 : (Jvm.Cond.code ({ cls := "java/lang/StringUTF16", name := "checkIndex", desc := "(I[B)V" } : Jvm.MethodName) prog_31_method_91_code (2 : Nat) (Option.none : Option Jvm.ClassFile.FieldType)) ∈ TW := tw_m (tw_in4 (i := 177) rfl) rfl
theorem w_974 : (Jvm.Cond.methodLink "java/lang/StringUTF16" (414 : Nat) ({ cls := "java/lang/String", name := "checkIndex", desc := "(II)V" } : Jvm.MethodName)) ∈ TW := tw_m (tw_in4 (i := 178) rfl) rfl
theorem w_975 : (Jvm.Cond.static ({ cls := "java/lang/String", name := "checkIndex", desc := "(II)V" } : Jvm.MethodName)) ∈ TW := tw_m (tw_in4 (i := 179) rfl) rfl
theorem w_976 : (Jvm.Cond.code ({ cls := "java/lang/String", name := "checkIndex", desc := "(II)V" } : Jvm.MethodName) prog_28_method_155_code (2 : Nat) (Option.none : Option Jvm.ClassFile.FieldType)) ∈ TW := tw_m (tw_in4 (i := 180) rfl) rfl
theorem w_977 : (Jvm.Cond.methodLink "java/lang/String" (1059 : Nat) ({ cls := "jdk/internal/util/Preconditions", name := "checkIndex", desc := "(IILjava/util/function/BiFunction;)I" } : Jvm.MethodName)) ∈ TW := tw_m (tw_in4 (i := 181) rfl) rfl
theorem w_978 : (Jvm.Cond.static ({ cls := "jdk/internal/util/Preconditions", name := "checkIndex", desc := "(IILjava/util/function/BiFunction;)I" } : Jvm.MethodName)) ∈ TW := tw_m (tw_in4 (i := 182) rfl) rfl
theorem w_979 : (Jvm.Cond.code ({ cls := "jdk/internal/util/Preconditions", name := "checkIndex", desc := "(IILjava/util/function/BiFunction;)I" } : Jvm.MethodName) prog_48_method_11_code (3 : Nat) (Option.some Jvm.ClassFile.FieldType.int)) ∈ TW := tw_m (tw_in4 (i := 183) rfl) rfl
theorem w_980 : (Jvm.Cond.methodLink "Twocoin" (325 : Nat) ({ cls := "java/lang/StringBuilder", name := "toString", desc := "()Ljava/lang/String;" } : Jvm.MethodName)) ∈ TW := tw_m (tw_in4 (i := 184) rfl) rfl
theorem w_981 : (Jvm.Cond.instanceMethod ({ cls := "java/lang/StringBuilder", name := "toString", desc := "()Ljava/lang/String;" } : Jvm.MethodName)) ∈ TW := tw_m (tw_in4 (i := 185) rfl) rfl
theorem w_982 : (Jvm.Cond.selects "java/lang/StringBuilder" ({ cls := "java/lang/StringBuilder", name := "toString", desc := "()Ljava/lang/String;" } : Jvm.MethodName) ({ cls := "java/lang/StringBuilder", name := "toString", desc := "()Ljava/lang/String;" } : Jvm.MethodName)) ∈ TW := tw_m (tw_in4 (i := 186) rfl) rfl
theorem w_983 : (Jvm.Cond.code ({ cls := "java/lang/StringBuilder", name := "toString", desc := "()Ljava/lang/String;" } : Jvm.MethodName) prog_29_method_42_code (1 : Nat) (Option.some (Jvm.ClassFile.FieldType.object "java/lang/String"))) ∈ TW := tw_m (tw_in4 (i := 187) rfl) rfl
theorem w_984 : (Jvm.Cond.classLink "java/lang/StringBuilder" (18 : Nat) "java/lang/String") ∈ TW := tw_m (tw_in4 (i := 188) rfl) rfl
theorem w_985 : (Jvm.Cond.instantiable "java/lang/String" (4 : Nat)) ∈ TW := tw_m (tw_in4 (i := 189) rfl) rfl
theorem w_986 : (Jvm.Cond.methodLink "java/lang/StringBuilder" (137 : Nat) ({ cls := "java/lang/String", name := "<init>", desc := "(Ljava/lang/StringBuilder;)V" } : Jvm.MethodName)) ∈ TW := tw_m (tw_in4 (i := 190) rfl) rfl
theorem w_987 : (Jvm.Cond.instanceMethod ({ cls := "java/lang/String", name := "<init>", desc := "(Ljava/lang/StringBuilder;)V" } : Jvm.MethodName)) ∈ TW := tw_m (tw_in4 (i := 191) rfl) rfl
theorem w_988 : (Jvm.Cond.code ({ cls := "java/lang/String", name := "<init>", desc := "(Ljava/lang/StringBuilder;)V" } : Jvm.MethodName) prog_28_method_53_code (2 : Nat) (Option.none : Option Jvm.ClassFile.FieldType)) ∈ TW := tw_m (tw_in4 (i := 192) rfl) rfl
theorem w_989 : (Jvm.Cond.methodLink "java/lang/String" (489 : Nat) ({ cls := "java/lang/String", name := "<init>", desc := "(Ljava/lang/AbstractStringBuilder;Ljava/lang/Void;)V" } : Jvm.MethodName)) ∈ TW := tw_m (tw_in4 (i := 193) rfl) rfl
theorem w_990 : (Jvm.Cond.instanceMethod ({ cls := "java/lang/String", name := "<init>", desc := "(Ljava/lang/AbstractStringBuilder;Ljava/lang/Void;)V" } : Jvm.MethodName)) ∈ TW := tw_m (tw_in4 (i := 194) rfl) rfl
theorem w_991 : (Jvm.Cond.code ({ cls := "java/lang/String", name := "<init>", desc := "(Ljava/lang/AbstractStringBuilder;Ljava/lang/Void;)V" } : Jvm.MethodName) prog_28_method_150_code (5 : Nat) (Option.none : Option Jvm.ClassFile.FieldType)) ∈ TW := tw_m (tw_in4 (i := 195) rfl) rfl
theorem w_992 : (Jvm.Cond.methodLink "java/lang/String" (1 : Nat) ({ cls := "java/lang/Object", name := "<init>", desc := "()V" } : Jvm.MethodName)) ∈ TW := tw_m (tw_in4 (i := 196) rfl) rfl
theorem w_993 : (Jvm.Cond.methodLink "java/lang/String" (552 : Nat) ({ cls := "java/lang/AbstractStringBuilder", name := "getValue", desc := "()[B" } : Jvm.MethodName)) ∈ TW := tw_m (tw_in4 (i := 197) rfl) rfl
theorem w_994 : (Jvm.Cond.instanceMethod ({ cls := "java/lang/AbstractStringBuilder", name := "getValue", desc := "()[B" } : Jvm.MethodName)) ∈ TW := tw_m (tw_in4 (i := 198) rfl) rfl
theorem w_995 : (Jvm.Cond.sameMethod "java/lang/AbstractStringBuilder" "java/lang/AbstractStringBuilder" "getValue" "()[B") ∈ TW := tw_m (tw_in4 (i := 199) rfl) rfl
theorem w_996 : (Jvm.Cond.selects "java/lang/StringBuilder" ({ cls := "java/lang/AbstractStringBuilder", name := "getValue", desc := "()[B" } : Jvm.MethodName) ({ cls := "java/lang/AbstractStringBuilder", name := "getValue", desc := "()[B" } : Jvm.MethodName)) ∈ TW := tw_m (tw_in4 (i := 200) rfl) rfl
theorem w_997 : (Jvm.Cond.code ({ cls := "java/lang/AbstractStringBuilder", name := "getValue", desc := "()[B" } : Jvm.MethodName) prog_14_method_64_code (1 : Nat) (Option.some (Jvm.ClassFile.FieldType.array Jvm.ClassFile.FieldType.byte))) ∈ TW := tw_m (tw_in4 (i := 201) rfl) rfl
theorem w_998 : (Jvm.Cond.methodLink "java/lang/String" (549 : Nat) ({ cls := "java/lang/AbstractStringBuilder", name := "length", desc := "()I" } : Jvm.MethodName)) ∈ TW := tw_m (tw_in4 (i := 202) rfl) rfl
theorem w_999 : (Jvm.Cond.instanceMethod ({ cls := "java/lang/AbstractStringBuilder", name := "length", desc := "()I" } : Jvm.MethodName)) ∈ TW := tw_m (tw_in4 (i := 203) rfl) rfl
theorem w_1000 : (Jvm.Cond.sameMethod "java/lang/AbstractStringBuilder" "java/lang/AbstractStringBuilder" "length" "()I") ∈ TW := tw_m (tw_in4 (i := 204) rfl) rfl
theorem w_1001 : (Jvm.Cond.selects "java/lang/StringBuilder" ({ cls := "java/lang/AbstractStringBuilder", name := "length", desc := "()I" } : Jvm.MethodName) ({ cls := "java/lang/StringBuilder", name := "length", desc := "()I" } : Jvm.MethodName)) ∈ TW := tw_m (tw_in4 (i := 205) rfl) rfl
theorem w_1002 : (Jvm.Cond.instanceMethod ({ cls := "java/lang/StringBuilder", name := "length", desc := "()I" } : Jvm.MethodName)) ∈ TW := tw_m (tw_in4 (i := 206) rfl) rfl
theorem w_1003 : (Jvm.Cond.code ({ cls := "java/lang/StringBuilder", name := "length", desc := "()I" } : Jvm.MethodName) prog_29_method_93_code (1 : Nat) (Option.some Jvm.ClassFile.FieldType.int)) ∈ TW := tw_m (tw_in4 (i := 207) rfl) rfl
theorem w_1004 : (Jvm.Cond.methodLink "java/lang/StringBuilder" (343 : Nat) ({ cls := "java/lang/AbstractStringBuilder", name := "length", desc := "()I" } : Jvm.MethodName)) ∈ TW := tw_m (tw_in4 (i := 208) rfl) rfl
theorem w_1005 : (Jvm.Cond.code ({ cls := "java/lang/AbstractStringBuilder", name := "length", desc := "()I" } : Jvm.MethodName) prog_14_method_6_code (1 : Nat) (Option.some Jvm.ClassFile.FieldType.int)) ∈ TW := tw_m (tw_in4 (i := 209) rfl) rfl
theorem w_1006 : (Jvm.Cond.methodLink "java/lang/String" (1047 : Nat) ({ cls := "java/lang/AbstractStringBuilder", name := "isLatin1", desc := "()Z" } : Jvm.MethodName)) ∈ TW := tw_m (tw_in4 (i := 210) rfl) rfl
theorem w_1007 : (Jvm.Cond.methodLink "java/lang/String" (54 : Nat) ({ cls := "java/util/Arrays", name := "copyOfRange", desc := "([BII)[B" } : Jvm.MethodName)) ∈ TW := tw_m (tw_in4 (i := 211) rfl) rfl
theorem w_1008 : (Jvm.Cond.static ({ cls := "java/util/Arrays", name := "copyOfRange", desc := "([BII)[B" } : Jvm.MethodName)) ∈ TW := tw_m (tw_in4 (i := 212) rfl) rfl
theorem w_1009 : (Jvm.Cond.code ({ cls := "java/util/Arrays", name := "copyOfRange", desc := "([BII)[B" } : Jvm.MethodName) prog_40_method_132_code (3 : Nat) (Option.some (Jvm.ClassFile.FieldType.array Jvm.ClassFile.FieldType.byte))) ∈ TW := tw_m (tw_in4 (i := 213) rfl) rfl
theorem w_1010 : (Jvm.Cond.methodLink "java/util/Arrays" (339 : Nat) ({ cls := "java/util/Arrays", name := "copyOfRangeByte", desc := "([BII)[B" } : Jvm.MethodName)) ∈ TW := tw_m (tw_in4 (i := 214) rfl) rfl
theorem w_1011 : (Jvm.Cond.static ({ cls := "java/util/Arrays", name := "copyOfRangeByte", desc := "([BII)[B" } : Jvm.MethodName)) ∈ TW := tw_m (tw_in4 (i := 215) rfl) rfl
theorem w_1012 : (Jvm.Cond.code ({ cls := "java/util/Arrays", name := "copyOfRangeByte", desc := "([BII)[B" } : Jvm.MethodName) prog_40_method_133_code (5 : Nat) (Option.some (Jvm.ClassFile.FieldType.array Jvm.ClassFile.FieldType.byte))) ∈ TW := tw_m (tw_in4 (i := 216) rfl) rfl
theorem w_1013 : (Jvm.Cond.methodLink "java/util/Arrays" (343 : Nat) ({ cls := "java/util/Arrays", name := "checkLength", desc := "(II)V" } : Jvm.MethodName)) ∈ TW := tw_m (tw_in4 (i := 217) rfl) rfl
theorem w_1014 : (Jvm.Cond.static ({ cls := "java/util/Arrays", name := "checkLength", desc := "(II)V" } : Jvm.MethodName)) ∈ TW := tw_m (tw_in4 (i := 218) rfl) rfl
theorem w_1015 : (Jvm.Cond.code ({ cls := "java/util/Arrays", name := "checkLength", desc := "(II)V" } : Jvm.MethodName) prog_40_method_131_code (2 : Nat) (Option.none : Option Jvm.ClassFile.FieldType)) ∈ TW := tw_m (tw_in4 (i := 219) rfl) rfl
theorem w_1016 : (Jvm.Cond.classLink "java/util/Arrays" (43 : Nat) "java/lang/IllegalArgumentException") ∈ TW := tw_m (tw_in4 (i := 220) rfl) rfl
theorem w_1017 : (Jvm.Cond.classLink "java/util/Arrays" (45 : Nat) "java/lang/StringBuilder") ∈ TW := tw_m (tw_in4 (i := 221) rfl) rfl
theorem w_1018 : (Jvm.Cond.methodLink "java/util/Arrays" (47 : Nat) ({ cls := "java/lang/StringBuilder", name := "<init>", desc := "()V" } : Jvm.MethodName)) ∈ TW := tw_m (tw_in4 (i := 222) rfl) rfl
theorem w_1019 : (Jvm.Cond.methodLink "java/util/Arrays" (54 : Nat) ({ cls := "java/lang/StringBuilder", name := "append", desc := "(I)Ljava/lang/StringBuilder;" } : Jvm.MethodName)) ∈ TW := tw_m (tw_in4 (i := 223) rfl) rfl
theorem w_1020 : (Jvm.Cond.stringRef "java/util/Arrays" (337 : Nat) " > ") ∈ lw_tbl := tw_in4 (i := 224) rfl
theorem w_1021 : (Jvm.Cond.methodLink "java/util/Arrays" (50 : Nat) ({ cls := "java/lang/StringBuilder", name := "append", desc := "(Ljava/lang/String;)Ljava/lang/StringBuilder;" } : Jvm.MethodName)) ∈ TW := tw_m (tw_in4 (i := 225) rfl) rfl
theorem w_1022 : (Jvm.Cond.instanceMethod ({ cls := "java/lang/StringBuilder", name := "append", desc := "(Ljava/lang/String;)Ljava/lang/StringBuilder;" } : Jvm.MethodName)) ∈ TW := tw_m (tw_in4 (i := 226) rfl) rfl
theorem w_1023 : (Jvm.Cond.selects "java/lang/StringBuilder" ({ cls := "java/lang/StringBuilder", name := "append", desc := "(Ljava/lang/String;)Ljava/lang/StringBuilder;" } : Jvm.MethodName) ({ cls := "java/lang/StringBuilder", name := "append", desc := "(Ljava/lang/String;)Ljava/lang/StringBuilder;" } : Jvm.MethodName)) ∈ TW := tw_m (tw_in4 (i := 227) rfl) rfl
theorem w_1024 : (Jvm.Cond.code ({ cls := "java/lang/StringBuilder", name := "append", desc := "(Ljava/lang/String;)Ljava/lang/StringBuilder;" } : Jvm.MethodName) prog_29_method_7_code (2 : Nat) (Option.some (Jvm.ClassFile.FieldType.object "java/lang/StringBuilder"))) ∈ TW := tw_m (tw_in4 (i := 228) rfl) rfl
theorem w_1025 : (Jvm.Cond.methodLink "java/lang/StringBuilder" (29 : Nat) ({ cls := "java/lang/AbstractStringBuilder", name := "append", desc := "(Ljava/lang/String;)Ljava/lang/AbstractStringBuilder;" } : Jvm.MethodName)) ∈ TW := tw_m (tw_in4 (i := 229) rfl) rfl
theorem w_1026 : (Jvm.Cond.instanceMethod ({ cls := "java/lang/AbstractStringBuilder", name := "append", desc := "(Ljava/lang/String;)Ljava/lang/AbstractStringBuilder;" } : Jvm.MethodName)) ∈ TW := tw_m (tw_in4 (i := 230) rfl) rfl
theorem w_1027 : (Jvm.Cond.code ({ cls := "java/lang/AbstractStringBuilder", name := "append", desc := "(Ljava/lang/String;)Ljava/lang/AbstractStringBuilder;" } : Jvm.MethodName) prog_14_method_22_code (3 : Nat) (Option.some (Jvm.ClassFile.FieldType.object "java/lang/AbstractStringBuilder"))) ∈ TW := tw_m (tw_in4 (i := 231) rfl) rfl
theorem w_1028 : (Jvm.Cond.methodLink "java/lang/AbstractStringBuilder" (204 : Nat) ({ cls := "java/lang/AbstractStringBuilder", name := "appendNull", desc := "()Ljava/lang/AbstractStringBuilder;" } : Jvm.MethodName)) ∈ TW := tw_m (tw_in4 (i := 232) rfl) rfl
theorem w_1029 : (Jvm.Cond.privateMethod ({ cls := "java/lang/AbstractStringBuilder", name := "appendNull", desc := "()Ljava/lang/AbstractStringBuilder;" } : Jvm.MethodName)) ∈ lw_tbl := tw_in4 (i := 233) rfl
theorem w_1030 : (Jvm.Cond.instanceMethod ({ cls := "java/lang/AbstractStringBuilder", name := "appendNull", desc := "()Ljava/lang/AbstractStringBuilder;" } : Jvm.MethodName)) ∈ TW := tw_m (tw_in4 (i := 234) rfl) rfl
theorem w_1031 : (Jvm.Cond.code ({ cls := "java/lang/AbstractStringBuilder", name := "appendNull", desc := "()Ljava/lang/AbstractStringBuilder;" } : Jvm.MethodName) prog_14_method_26_code (3 : Nat) (Option.some (Jvm.ClassFile.FieldType.object "java/lang/AbstractStringBuilder"))) ∈ TW := tw_m (tw_in4 (i := 235) rfl) rfl
theorem w_1032 : (Jvm.Cond.methodLink "java/lang/AbstractStringBuilder" (226 : Nat) ({ cls := "java/lang/StringUTF16", name := "putCharsAt", desc := "([BICCCC)I" } : Jvm.MethodName)) ∈ TW := tw_m (tw_in4 (i := 236) rfl) rfl
theorem w_1033 : (Jvm.Cond.static ({ cls := "java/lang/StringUTF16", name := "putCharsAt", desc := "([BICCCC)I" } : Jvm.MethodName)) ∈ TW := tw_m (tw_in4 (i := 237) rfl) rfl
theorem w_1034 : (Jvm.Cond.code ({ cls := "java/lang/StringUTF16", name := "putCharsAt", desc := "([BICCCC)I" } : Jvm.MethodName) prog_31_method_81_code (7 : Nat) (Option.some Jvm.ClassFile.FieldType.int)) ∈ TW := tw_m (tw_in4 (i := 238) rfl) rfl
theorem w_1035 : (Jvm.Cond.methodLink "java/lang/AbstractStringBuilder" (32 : Nat) ({ cls := "java/lang/String", name := "length", desc := "()I" } : Jvm.MethodName)) ∈ TW := tw_m (tw_in4 (i := 239) rfl) rfl
theorem w_1036 : (Jvm.Cond.instanceMethod ({ cls := "java/lang/String", name := "length", desc := "()I" } : Jvm.MethodName)) ∈ TW := tw_m (tw_in5 (i := 0) rfl) rfl
theorem w_1037 : (Jvm.Cond.selects "java/lang/String" ({ cls := "java/lang/String", name := "length", desc := "()I" } : Jvm.MethodName) ({ cls := "java/lang/String", name := "length", desc := "()I" } : Jvm.MethodName)) ∈ TW := tw_m (tw_in5 (i := 1) rfl) rfl
theorem w_1038 : (Jvm.Cond.code ({ cls := "java/lang/String", name := "length", desc := "()I" } : Jvm.MethodName) prog_28_method_54_code (1 : Nat) (Option.some Jvm.ClassFile.FieldType.int)) ∈ TW := tw_m (tw_in5 (i := 2) rfl) rfl
theorem w_1039 : (Jvm.Cond.methodLink "java/lang/String" (335 : Nat) ({ cls := "java/lang/String", name := "coder", desc := "()B" } : Jvm.MethodName)) ∈ TW := tw_m (tw_in5 (i := 3) rfl) rfl
theorem w_1040 : (Jvm.Cond.instanceMethod ({ cls := "java/lang/String", name := "coder", desc := "()B" } : Jvm.MethodName)) ∈ TW := tw_m (tw_in5 (i := 4) rfl) rfl
theorem w_1041 : (Jvm.Cond.selects "java/lang/String" ({ cls := "java/lang/String", name := "coder", desc := "()B" } : Jvm.MethodName) ({ cls := "java/lang/String", name := "coder", desc := "()B" } : Jvm.MethodName)) ∈ TW := tw_m (tw_in5 (i := 5) rfl) rfl
theorem w_1042 : (Jvm.Cond.code ({ cls := "java/lang/String", name := "coder", desc := "()B" } : Jvm.MethodName) prog_28_method_152_code (1 : Nat) (Option.some Jvm.ClassFile.FieldType.byte)) ∈ TW := tw_m (tw_in5 (i := 6) rfl) rfl
theorem w_1043 : (Jvm.Cond.fieldLink "java/lang/String" (38 : Nat) "java/lang/String" "COMPACT_STRINGS" "Z") ∈ TW := tw_m (tw_in5 (i := 7) rfl) rfl
theorem w_1044 : (Jvm.Cond.methodLink "java/lang/AbstractStringBuilder" (208 : Nat) ({ cls := "java/lang/AbstractStringBuilder", name := "putStringAt", desc := "(ILjava/lang/String;)V" } : Jvm.MethodName)) ∈ TW := tw_m (tw_in5 (i := 8) rfl) rfl
theorem w_1045 : (Jvm.Cond.privateMethod ({ cls := "java/lang/AbstractStringBuilder", name := "putStringAt", desc := "(ILjava/lang/String;)V" } : Jvm.MethodName)) ∈ lw_tbl := tw_in5 (i := 9) rfl
theorem w_1046 : (Jvm.Cond.instanceMethod ({ cls := "java/lang/AbstractStringBuilder", name := "putStringAt", desc := "(ILjava/lang/String;)V" } : Jvm.MethodName)) ∈ TW := tw_m (tw_in5 (i := 10) rfl) rfl
theorem w_1047 : (Jvm.Cond.code ({ cls := "java/lang/AbstractStringBuilder", name := "putStringAt", desc := "(ILjava/lang/String;)V" } : Jvm.MethodName) prog_14_method_73_code (3 : Nat) (Option.none : Option Jvm.ClassFile.FieldType)) ∈ TW := tw_m (tw_in5 (i := 11) rfl) rfl
theorem w_1048 : (Jvm.Cond.methodLink "java/lang/AbstractStringBuilder" (397 : Nat) ({ cls := "java/lang/AbstractStringBuilder", name := "inflateIfNeededFor", desc := "(Ljava/lang/String;)V" } : Jvm.MethodName)) ∈ TW := tw_m (tw_in5 (i := 12) rfl) rfl
theorem w_1049 : (Jvm.Cond.privateMethod ({ cls := "java/lang/AbstractStringBuilder", name := "inflateIfNeededFor", desc := "(Ljava/lang/String;)V" } : Jvm.MethodName)) ∈ lw_tbl := tw_in5 (i := 13) rfl
theorem w_1050 : (Jvm.Cond.instanceMethod ({ cls := "java/lang/AbstractStringBuilder", name := "inflateIfNeededFor", desc := "(Ljava/lang/String;)V" } : Jvm.MethodName)) ∈ TW := tw_m (tw_in5 (i := 14) rfl) rfl
theorem w_1051 : (Jvm.Cond.code ({ cls := "java/lang/AbstractStringBuilder", name := "inflateIfNeededFor", desc := "(Ljava/lang/String;)V" } : Jvm.MethodName) prog_14_method_71_code (2 : Nat) (Option.none : Option Jvm.ClassFile.FieldType)) ∈ TW := tw_m (tw_in5 (i := 15) rfl) rfl
theorem w_1052 : (Jvm.Cond.methodLink "java/lang/AbstractStringBuilder" (40 : Nat) ({ cls := "java/lang/String", name := "coder", desc := "()B" } : Jvm.MethodName)) ∈ TW := tw_m (tw_in5 (i := 16) rfl) rfl
theorem w_1053 : (Jvm.Cond.methodLink "java/lang/AbstractStringBuilder" (399 : Nat) ({ cls := "java/lang/String", name := "getBytes", desc := "([BIB)V" } : Jvm.MethodName)) ∈ TW := tw_m (tw_in5 (i := 17) rfl) rfl
theorem w_1054 : (Jvm.Cond.instanceMethod ({ cls := "java/lang/String", name := "getBytes", desc := "([BIB)V" } : Jvm.MethodName)) ∈ TW := tw_m (tw_in5 (i := 18) rfl) rfl
theorem w_1055 : (Jvm.Cond.selects "java/lang/String" ({ cls := "java/lang/String", name := "getBytes", desc := "([BIB)V" } : Jvm.MethodName) ({ cls := "java/lang/String", name := "getBytes", desc := "([BIB)V" } : Jvm.MethodName)) ∈ TW := tw_m (tw_in5 (i := 19) rfl) rfl
theorem w_1056 : (Jvm.Cond.code ({ cls := "java/lang/String", name := "getBytes", desc := "([BIB)V" } : Jvm.MethodName) prog_28_method_147_code (4 : Nat) (Option.none : Option Jvm.ClassFile.FieldType)) ∈ TW := tw_m (tw_in5 (i := 20) rfl) rfl
theorem w_1057 : (Jvm.Cond.methodLink "java/lang/String" (212 : Nat) ({ cls := "java/lang/System", name := "arraycopy", desc := "(Ljava/lang/Object;ILjava/lang/Object;II)V" } : Jvm.MethodName)) ∈ TW := tw_m (tw_in5 (i := 21) rfl) rfl
theorem w_1058 : (Jvm.Cond.methodLink "java/lang/String" (106 : Nat) ({ cls := "java/lang/StringLatin1", name := "inflate", desc := "([BI[BII)V" } : Jvm.MethodName)) ∈ TW := tw_m (tw_in5 (i := 22) rfl) rfl
theorem w_1059 : (Jvm.Cond.methodLink "java/util/Arrays" (61 : Nat) ({ cls := "java/lang/StringBuilder", name := "toString", desc := "()Ljava/lang/String;" } : Jvm.MethodName)) ∈ TW := tw_m (tw_in5 (i := 23) rfl) rfl
theorem w_1060 : (Jvm.Cond.methodLink "java/util/Arrays" (65 : Nat) ({ cls := "java/lang/IllegalArgumentException", name := "<init>", desc := "(Ljava/lang/String;)V" } : Jvm.MethodName)) ∈ TW := tw_m (tw_in5 (i := 24) rfl) rfl
theorem w_1061 : (Jvm.Cond.methodLink "java/lang/String" (1051 : Nat) ({ cls := "java/lang/StringUTF16", name := "compress", desc := "([BII)[B" } : Jvm.MethodName)) ∈ TW := tw_m (tw_in5 (i := 25) rfl) rfl
theorem w_1062 : (Jvm.Cond.static ({ cls := "java/lang/StringUTF16", name := "compress", desc := "([BII)[B" } : Jvm.MethodName)) ∈ TW := tw_m (tw_in5 (i := 26) rfl) rfl
theorem w_1063 : (Jvm.Cond.code ({ cls := "java/lang/StringUTF16", name := "compress", desc := "([BII)[B" } : Jvm.MethodName) prog_31_method_17_code (6 : Nat) (Option.some (Jvm.ClassFile.FieldType.array Jvm.ClassFile.FieldType.byte))) ∈ TW := tw_m (tw_in5 (i := 27) rfl) rfl
theorem w_1064 : (Jvm.Cond.methodLink "java/lang/StringUTF16" (123 : Nat) ({ cls := "java/lang/StringUTF16", name := "compress", desc := "([BI[BII)I" } : Jvm.MethodName)) ∈ TW := tw_m (tw_in5 (i := 28) rfl) rfl
theorem w_1065 : (Jvm.Cond.static ({ cls := "java/lang/StringUTF16", name := "compress", desc := "([BI[BII)I" } : Jvm.MethodName)) ∈ TW := tw_m (tw_in5 (i := 29) rfl) rfl
theorem w_1066 : (Jvm.Cond.code ({ cls := "java/lang/StringUTF16", name := "compress", desc := "([BI[BII)I" } : Jvm.MethodName) prog_31_method_22_code (7 : Nat) (Option.some Jvm.ClassFile.FieldType.int)) ∈ TW := tw_m (tw_in5 (i := 30) rfl) rfl
theorem w_1067 : (Jvm.Cond.methodLink "java/lang/StringUTF16" (71 : Nat) ({ cls := "java/lang/StringUTF16", name := "getChar", desc := "([BI)C" } : Jvm.MethodName)) ∈ TW := tw_m (tw_in5 (i := 31) rfl) rfl
theorem w_1068 : (Jvm.Cond.static ({ cls := "java/lang/StringUTF16", name := "getChar", desc := "([BI)C" } : Jvm.MethodName)) ∈ TW := tw_m (tw_in5 (i := 32) rfl) rfl
theorem w_1069 : (Jvm.Cond.code ({ cls := "java/lang/StringUTF16", name := "getChar", desc := "([BI)C" } : Jvm.MethodName) prog_31_method_5_code (2 : Nat) (Option.some Jvm.ClassFile.FieldType.char)) ∈ TW := tw_m (tw_in5 (i := 33) rfl) rfl
theorem w_1070 : (Jvm.Cond.methodLink "java/lang/StringUTF16" (126 : Nat) ({ cls := "java/util/Arrays", name := "copyOfRange", desc := "([BII)[B" } : Jvm.MethodName)) ∈ TW := tw_m (tw_in5 (i := 34) rfl) rfl
theorem w_1071 : (Jvm.Cond.methodLink "java/lang/String" (47 : Nat) ({ cls := "java/lang/StringUTF16", name := "coderFromArrayLen", desc := "([BI)B" } : Jvm.MethodName)) ∈ TW := tw_m (tw_in5 (i := 35) rfl) rfl
theorem w_1072 : (Jvm.Cond.static ({ cls := "java/lang/StringUTF16", name := "coderFromArrayLen", desc := "([BI)B" } : Jvm.MethodName)) ∈ TW := tw_m (tw_in5 (i := 36) rfl) rfl
theorem w_1073 : (Jvm.Cond.code ({ cls := "java/lang/StringUTF16", name := "coderFromArrayLen", desc := "([BI)B" } : Jvm.MethodName) prog_31_method_15_code (2 : Nat) (Option.some Jvm.ClassFile.FieldType.byte)) ∈ TW := tw_m (tw_in5 (i := 37) rfl) rfl
theorem w_1074 : (Jvm.Cond.fieldLink "java/lang/String" (9 : Nat) "java/lang/String" "value" "[B") ∈ TW := tw_m (tw_in5 (i := 38) rfl) rfl
theorem w_1075 : (Jvm.Cond.fieldLink "java/lang/String" (15 : Nat) "java/lang/String" "coder" "B") ∈ TW := tw_m (tw_in5 (i := 39) rfl) rfl
theorem w_1076 : (Jvm.Cond.laysFinal "java/lang/String" "java/lang/String" "value" "[B") ∈ TW := tw_m (tw_in5 (i := 40) rfl) rfl
theorem w_1077 : (Jvm.Cond.soleField "java/lang/String" "value") ∈ TW := tw_m (tw_in5 (i := 41) rfl) rfl
theorem w_1078 : (Jvm.Cond.laysFinal "java/lang/String" "java/lang/String" "coder" "B") ∈ TW := tw_m (tw_in5 (i := 42) rfl) rfl
theorem w_1079 : (Jvm.Cond.soleField "java/lang/String" "coder") ∈ TW := tw_m (tw_in5 (i := 43) rfl) rfl
theorem w_1080 : (Jvm.Cond.lays "java/lang/String" "java/lang/String" "hash" "I") ∈ TW := tw_m (tw_in5 (i := 44) rfl) rfl
theorem w_1081 : (Jvm.Cond.soleField "java/lang/String" "hash") ∈ TW := tw_m (tw_in5 (i := 45) rfl) rfl
theorem w_1082 : (Jvm.Cond.lays "java/lang/String" "java/lang/String" "hashIsZero" "Z") ∈ TW := tw_m (tw_in5 (i := 46) rfl) rfl
theorem w_1083 : (Jvm.Cond.soleField "java/lang/String" "hashIsZero") ∈ TW := tw_m (tw_in5 (i := 47) rfl) rfl
theorem w_1084 : (Jvm.Cond.superclass "java/lang/String" "java/lang/Object") ∈ TW := tw_m (tw_in5 (i := 48) rfl) rfl
theorem w_1085 : (Jvm.Cond.methodLink "TwocoinLaw" (182 : Nat) ({ cls := "TwocoinLaw", name := "trip", desc := "(LTwocoin;IIIILTwocoinLaw$Out;)I" } : Jvm.MethodName)) ∈ TW := tw_m (tw_in5 (i := 49) rfl) rfl
theorem w_1086 : (Jvm.Cond.static ({ cls := "TwocoinLaw", name := "trip", desc := "(LTwocoin;IIIILTwocoinLaw$Out;)I" } : Jvm.MethodName)) ∈ TW := tw_m (tw_in5 (i := 50) rfl) rfl
theorem w_1087 : (Jvm.Cond.codeWith ({ cls := "TwocoinLaw", name := "trip", desc := "(LTwocoin;IIIILTwocoinLaw$Out;)I" } : Jvm.MethodName) method_23_code (7 : Nat) (Option.some Jvm.ClassFile.FieldType.int) [((0 : Nat), (15 : Nat), (18 : Nat), (27 : Nat)), ((0 : Nat), (15 : Nat), (22 : Nat), (19 : Nat))]) ∈ TW := tw_m (tw_in5 (i := 51) rfl) rfl
theorem w_1088 : (Jvm.Cond.methodLink "TwocoinLaw" (94 : Nat) ({ cls := "Twocoin", name := "trip", desc := "(IIII)I" } : Jvm.MethodName)) ∈ TW := tw_m (tw_in5 (i := 52) rfl) rfl
theorem w_1089 : (Jvm.Cond.instanceMethod ({ cls := "Twocoin", name := "trip", desc := "(IIII)I" } : Jvm.MethodName)) ∈ TW := tw_m (tw_in5 (i := 53) rfl) rfl
theorem w_1090 : (Jvm.Cond.selects "Twocoin" ({ cls := "Twocoin", name := "trip", desc := "(IIII)I" } : Jvm.MethodName) ({ cls := "Twocoin", name := "trip", desc := "(IIII)I" } : Jvm.MethodName)) ∈ TW := tw_m (tw_in5 (i := 54) rfl) rfl
theorem w_1091 : (Jvm.Cond.code ({ cls := "Twocoin", name := "trip", desc := "(IIII)I" } : Jvm.MethodName) prog_1_method_38_code (7 : Nat) (Option.some Jvm.ClassFile.FieldType.int)) ∈ TW := tw_m (tw_in5 (i := 55) rfl) rfl
theorem w_1092 : (Jvm.Cond.methodLink "TwocoinLaw" (185 : Nat) ({ cls := "TwocoinLaw", name := "bestTrip", desc := "(LTwocoin;IIILTwocoinLaw$Out;)I" } : Jvm.MethodName)) ∈ TW := tw_m (tw_in5 (i := 56) rfl) rfl
theorem w_1093 : (Jvm.Cond.static ({ cls := "TwocoinLaw", name := "bestTrip", desc := "(LTwocoin;IIILTwocoinLaw$Out;)I" } : Jvm.MethodName)) ∈ TW := tw_m (tw_in5 (i := 57) rfl) rfl
theorem w_1094 : (Jvm.Cond.codeWith ({ cls := "TwocoinLaw", name := "bestTrip", desc := "(LTwocoin;IIILTwocoinLaw$Out;)I" } : Jvm.MethodName) method_24_code (6 : Nat) (Option.some Jvm.ClassFile.FieldType.int) [((0 : Nat), (13 : Nat), (16 : Nat), (27 : Nat)), ((0 : Nat), (13 : Nat), (20 : Nat), (19 : Nat))]) ∈ TW := tw_m (tw_in5 (i := 58) rfl) rfl
theorem w_1095 : (Jvm.Cond.methodLink "TwocoinLaw" (97 : Nat) ({ cls := "Twocoin", name := "bestTrip", desc := "(III)I" } : Jvm.MethodName)) ∈ TW := tw_m (tw_in5 (i := 59) rfl) rfl
theorem w_1096 : (Jvm.Cond.instanceMethod ({ cls := "Twocoin", name := "bestTrip", desc := "(III)I" } : Jvm.MethodName)) ∈ TW := tw_m (tw_in5 (i := 60) rfl) rfl
theorem w_1097 : (Jvm.Cond.selects "Twocoin" ({ cls := "Twocoin", name := "bestTrip", desc := "(III)I" } : Jvm.MethodName) ({ cls := "Twocoin", name := "bestTrip", desc := "(III)I" } : Jvm.MethodName)) ∈ TW := tw_m (tw_in5 (i := 61) rfl) rfl
theorem w_1098 : (Jvm.Cond.code ({ cls := "Twocoin", name := "bestTrip", desc := "(III)I" } : Jvm.MethodName) prog_1_method_40_code (5 : Nat) (Option.some Jvm.ClassFile.FieldType.int)) ∈ TW := tw_m (tw_in5 (i := 62) rfl) rfl
theorem w_1099 : (Jvm.Cond.methodLink "TwocoinLaw" (188 : Nat) ({ cls := "TwocoinLaw", name := "rest", desc := "(LTwocoin;ILTwocoinLaw$Out;)I" } : Jvm.MethodName)) ∈ TW := tw_m (tw_in5 (i := 63) rfl) rfl
theorem w_1100 : (Jvm.Cond.static ({ cls := "TwocoinLaw", name := "rest", desc := "(LTwocoin;ILTwocoinLaw$Out;)I" } : Jvm.MethodName)) ∈ TW := tw_m (tw_in5 (i := 64) rfl) rfl
theorem w_1101 : (Jvm.Cond.codeWith ({ cls := "TwocoinLaw", name := "rest", desc := "(LTwocoin;ILTwocoinLaw$Out;)I" } : Jvm.MethodName) method_25_code (4 : Nat) (Option.some Jvm.ClassFile.FieldType.int) [((0 : Nat), (17 : Nat), (20 : Nat), (19 : Nat))]) ∈ TW := tw_m (tw_in5 (i := 65) rfl) rfl
theorem w_1102 : (Jvm.Cond.methodLink "TwocoinLaw" (100 : Nat) ({ cls := "Twocoin", name := "rest", desc := "(I)Z" } : Jvm.MethodName)) ∈ TW := tw_m (tw_in5 (i := 66) rfl) rfl
theorem w_1103 : (Jvm.Cond.instanceMethod ({ cls := "Twocoin", name := "rest", desc := "(I)Z" } : Jvm.MethodName)) ∈ TW := tw_m (tw_in5 (i := 67) rfl) rfl
theorem w_1104 : (Jvm.Cond.selects "Twocoin" ({ cls := "Twocoin", name := "rest", desc := "(I)Z" } : Jvm.MethodName) ({ cls := "Twocoin", name := "rest", desc := "(I)Z" } : Jvm.MethodName)) ∈ TW := tw_m (tw_in5 (i := 68) rfl) rfl
theorem w_1105 : (Jvm.Cond.code ({ cls := "Twocoin", name := "rest", desc := "(I)Z" } : Jvm.MethodName) prog_1_method_42_code (2 : Nat) (Option.some Jvm.ClassFile.FieldType.boolean)) ∈ TW := tw_m (tw_in5 (i := 69) rfl) rfl
theorem w_1106 : (Jvm.Cond.methodLink "TwocoinLaw" (191 : Nat) ({ cls := "TwocoinLaw", name := "last", desc := "(LTwocoin;IIILTwocoinLaw$Out;)I" } : Jvm.MethodName)) ∈ TW := tw_m (tw_in5 (i := 70) rfl) rfl
theorem w_1107 : (Jvm.Cond.static ({ cls := "TwocoinLaw", name := "last", desc := "(LTwocoin;IIILTwocoinLaw$Out;)I" } : Jvm.MethodName)) ∈ TW := tw_m (tw_in5 (i := 71) rfl) rfl
theorem w_1108 : (Jvm.Cond.codeWith ({ cls := "TwocoinLaw", name := "last", desc := "(LTwocoin;IIILTwocoinLaw$Out;)I" } : Jvm.MethodName) method_26_code (6 : Nat) (Option.some Jvm.ClassFile.FieldType.int) [((0 : Nat), (13 : Nat), (16 : Nat), (27 : Nat)), ((0 : Nat), (13 : Nat), (20 : Nat), (19 : Nat))]) ∈ TW := tw_m (tw_in5 (i := 72) rfl) rfl
theorem w_1109 : (Jvm.Cond.methodLink "TwocoinLaw" (104 : Nat) ({ cls := "Twocoin", name := "last", desc := "(III)I" } : Jvm.MethodName)) ∈ TW := tw_m (tw_in5 (i := 73) rfl) rfl
theorem w_1110 : (Jvm.Cond.instanceMethod ({ cls := "Twocoin", name := "last", desc := "(III)I" } : Jvm.MethodName)) ∈ TW := tw_m (tw_in5 (i := 74) rfl) rfl
theorem w_1111 : (Jvm.Cond.selects "Twocoin" ({ cls := "Twocoin", name := "last", desc := "(III)I" } : Jvm.MethodName) ({ cls := "Twocoin", name := "last", desc := "(III)I" } : Jvm.MethodName)) ∈ TW := tw_m (tw_in5 (i := 75) rfl) rfl
theorem w_1112 : (Jvm.Cond.code ({ cls := "Twocoin", name := "last", desc := "(III)I" } : Jvm.MethodName) prog_1_method_44_code (5 : Nat) (Option.some Jvm.ClassFile.FieldType.int)) ∈ TW := tw_m (tw_in5 (i := 76) rfl) rfl
theorem w_1113 : (Jvm.Cond.classLink "TwocoinLaw" (108 : Nat) "TwocoinModel") ∈ TW := tw_m (tw_in5 (i := 77) rfl) rfl
theorem w_1114 : (Jvm.Cond.instantiable "TwocoinModel" (12 : Nat)) ∈ TW := tw_m (tw_in5 (i := 78) rfl) rfl
theorem w_1115 : (Jvm.Cond.methodLink "TwocoinLaw" (110 : Nat) ({ cls := "TwocoinModel", name := "<init>", desc := "()V" } : Jvm.MethodName)) ∈ TW := tw_m (tw_in5 (i := 79) rfl) rfl
theorem w_1116 : (Jvm.Cond.instanceMethod ({ cls := "TwocoinModel", name := "<init>", desc := "()V" } : Jvm.MethodName)) ∈ TW := tw_m (tw_in5 (i := 80) rfl) rfl
theorem w_1117 : (Jvm.Cond.code ({ cls := "TwocoinModel", name := "<init>", desc := "()V" } : Jvm.MethodName) prog_9_method_1_code (3 : Nat) (Option.none : Option Jvm.ClassFile.FieldType)) ∈ TW := tw_m (tw_in5 (i := 81) rfl) rfl
theorem w_1118 : (Jvm.Cond.methodLink "TwocoinModel" (1 : Nat) ({ cls := "java/lang/Object", name := "<init>", desc := "()V" } : Jvm.MethodName)) ∈ TW := tw_m (tw_in5 (i := 82) rfl) rfl
theorem w_1119 : (Jvm.Cond.classLink "TwocoinModel" (13 : Nat) "[[I") ∈ TW := tw_m (tw_in5 (i := 83) rfl) rfl
theorem w_1120 : (Jvm.Cond.arrayOver (Jvm.ClassFile.FieldType.array Jvm.ClassFile.FieldType.int)) ∈ lw_tbl := tw_in5 (i := 84) rfl
theorem w_1121 : (Jvm.Cond.classLink "TwocoinModel" (34 : Nat) "java/util/ArrayList") ∈ TW := tw_m (tw_in5 (i := 85) rfl) rfl
theorem w_1122 : (Jvm.Cond.instantiable "java/util/ArrayList" (3 : Nat)) ∈ TW := tw_m (tw_in5 (i := 86) rfl) rfl
theorem w_1123 : (Jvm.Cond.methodLink "TwocoinModel" (36 : Nat) ({ cls := "java/util/ArrayList", name := "<init>", desc := "()V" } : Jvm.MethodName)) ∈ TW := tw_m (tw_in5 (i := 87) rfl) rfl
theorem w_1124 : (Jvm.Cond.instanceMethod ({ cls := "java/util/ArrayList", name := "<init>", desc := "()V" } : Jvm.MethodName)) ∈ TW := tw_m (tw_in5 (i := 88) rfl) rfl
theorem w_1125 : (Jvm.Cond.code ({ cls := "java/util/ArrayList", name := "<init>", desc := "()V" } : Jvm.MethodName) prog_38_method_2_code (1 : Nat) (Option.none : Option Jvm.ClassFile.FieldType)) ∈ TW := tw_m (tw_in5 (i := 89) rfl) rfl
theorem w_1126 : (Jvm.Cond.methodLink "java/util/ArrayList" (1 : Nat) ({ cls := "java/util/AbstractList", name := "<init>", desc := "()V" } : Jvm.MethodName)) ∈ TW := tw_m (tw_in5 (i := 90) rfl) rfl
theorem w_1127 : (Jvm.Cond.instanceMethod ({ cls := "java/util/AbstractList", name := "<init>", desc := "()V" } : Jvm.MethodName)) ∈ TW := tw_m (tw_in5 (i := 91) rfl) rfl
theorem w_1128 : (Jvm.Cond.code ({ cls := "java/util/AbstractList", name := "<init>", desc := "()V" } : Jvm.MethodName) prog_37_method_1_code (1 : Nat) (Option.none : Option Jvm.ClassFile.FieldType)) ∈ TW := tw_m (tw_in5 (i := 92) rfl) rfl
theorem w_1129 : (Jvm.Cond.methodLink "java/util/AbstractList" (1 : Nat) ({ cls := "java/util/AbstractCollection", name := "<init>", desc := "()V" } : Jvm.MethodName)) ∈ TW := tw_m (tw_in5 (i := 93) rfl) rfl
theorem w_1130 : (Jvm.Cond.instanceMethod ({ cls := "java/util/AbstractCollection", name := "<init>", desc := "()V" } : Jvm.MethodName)) ∈ TW := tw_m (tw_in5 (i := 94) rfl) rfl
theorem w_1131 : (Jvm.Cond.code ({ cls := "java/util/AbstractCollection", name := "<init>", desc := "()V" } : Jvm.MethodName) prog_36_method_1_code (1 : Nat) (Option.none : Option Jvm.ClassFile.FieldType)) ∈ TW := tw_m (tw_in5 (i := 95) rfl) rfl
theorem w_1132 : (Jvm.Cond.methodLink "java/util/AbstractCollection" (1 : Nat) ({ cls := "java/lang/Object", name := "<init>", desc := "()V" } : Jvm.MethodName)) ∈ TW := tw_m (tw_in5 (i := 96) rfl) rfl
theorem w_1133 : (Jvm.Cond.fieldLink "java/util/ArrayList" (39 : Nat) "java/util/ArrayList" "DEFAULTCAPACITY_EMPTY_ELEMENTDATA" "[Ljava/lang/Object;") ∈ TW := tw_m (tw_in5 (i := 97) rfl) rfl
theorem w_1134 : (Jvm.Cond.laysStatic "java/util/ArrayList" "DEFAULTCAPACITY_EMPTY_ELEMENTDATA" "[Ljava/lang/Object;") ∈ lw_tbl := tw_in5 (i := 98) rfl
theorem w_1135 : (Jvm.Cond.fieldLink "java/util/ArrayList" (9 : Nat) "java/util/ArrayList" "elementData" "[Ljava/lang/Object;") ∈ TW := tw_m (tw_in5 (i := 99) rfl) rfl
theorem w_1136 : (Jvm.Cond.fieldLink "java/util/ArrayList$Itr" (37 : Nat) "java/util/ArrayList" "elementData" "[Ljava/lang/Object;") ∈ TW := tw_m (tw_in5 (i := 100) rfl) rfl
theorem w_1137 : (Jvm.Cond.fieldLinkNest "java/util/ArrayList$Itr" (28 : Nat) "java/util/ArrayList" "size" "I" "java/util/ArrayList") ∈ tw_NG := tw_n (tw_in5 (i := 101) rfl) rfl
theorem w_1138 : (Jvm.Cond.fieldLink "java/util/ArrayList" (48 : Nat) "java/util/ArrayList" "size" "I") ∈ TW := tw_m (tw_in5 (i := 102) rfl) rfl
theorem w_1139 : (Jvm.Cond.fieldLink "java/util/AbstractList" (7 : Nat) "java/util/AbstractList" "modCount" "I") ∈ TW := tw_m (tw_in5 (i := 103) rfl) rfl
theorem w_1140 : (Jvm.Cond.fieldLink "java/util/ArrayList$Itr" (17 : Nat) "java/util/ArrayList" "modCount" "I") ∈ TW := tw_m (tw_in5 (i := 104) rfl) rfl
theorem w_1141 : (Jvm.Cond.sameField "java/util/ArrayList" "java/util/AbstractList" "modCount" "I") ∈ TW := tw_m (tw_in5 (i := 105) rfl) rfl
theorem w_1142 : (Jvm.Cond.fieldLink "java/util/ArrayList" (63 : Nat) "java/util/ArrayList" "modCount" "I") ∈ TW := tw_m (tw_in5 (i := 106) rfl) rfl
theorem w_1143 : (Jvm.Cond.lays "java/util/ArrayList" "java/util/ArrayList" "elementData" "[Ljava/lang/Object;") ∈ TW := tw_m (tw_in5 (i := 107) rfl) rfl
theorem w_1144 : (Jvm.Cond.soleField "java/util/ArrayList" "elementData") ∈ TW := tw_m (tw_in5 (i := 108) rfl) rfl
theorem w_1145 : (Jvm.Cond.lays "java/util/ArrayList" "java/util/ArrayList" "size" "I") ∈ TW := tw_m (tw_in5 (i := 109) rfl) rfl
theorem w_1146 : (Jvm.Cond.soleField "java/util/ArrayList" "size") ∈ TW := tw_m (tw_in5 (i := 110) rfl) rfl
theorem w_1147 : (Jvm.Cond.lays "java/util/ArrayList" "java/util/AbstractList" "modCount" "I") ∈ TW := tw_m (tw_in5 (i := 111) rfl) rfl
theorem w_1148 : (Jvm.Cond.soleField "java/util/AbstractList" "modCount") ∈ TW := tw_m (tw_in5 (i := 112) rfl) rfl
theorem w_1149 : (Jvm.Cond.superclass "java/util/ArrayList" "java/util/AbstractList") ∈ TW := tw_m (tw_in5 (i := 113) rfl) rfl
theorem w_1150 : (Jvm.Cond.arrayClass Jvm.ClassFile.FieldType.long) ∈ TW := tw_m (tw_in5 (i := 114) rfl) rfl
theorem w_1151 : (Jvm.Cond.fieldLink "TwocoinModel" (47 : Nat) "TwocoinModel" "thrown" "I") ∈ TW := tw_m (tw_in5 (i := 115) rfl) rfl
theorem w_1152 : (Jvm.Cond.fieldLink "TwocoinModel" (127 : Nat) "TwocoinModel" "today" "I") ∈ TW := tw_m (tw_in5 (i := 116) rfl) rfl
theorem w_1153 : (Jvm.Cond.fieldLink "TwocoinModel" (7 : Nat) "TwocoinModel" "market" "I") ∈ TW := tw_m (tw_in5 (i := 117) rfl) rfl
theorem w_1154 : (Jvm.Cond.fieldLink "TwocoinModel" (15 : Nat) "TwocoinModel" "days" "[[I") ∈ TW := tw_m (tw_in5 (i := 118) rfl) rfl
theorem w_1155 : (Jvm.Cond.fieldLink "TwocoinModel" (18 : Nat) "TwocoinModel" "freights" "[[I") ∈ TW := tw_m (tw_in5 (i := 119) rfl) rfl
theorem w_1156 : (Jvm.Cond.fieldLink "TwocoinModel" (21 : Nat) "TwocoinModel" "carried" "[J") ∈ TW := tw_m (tw_in5 (i := 120) rfl) rfl
theorem w_1157 : (Jvm.Cond.fieldLink "TwocoinModel" (25 : Nat) "TwocoinModel" "used" "[J") ∈ TW := tw_m (tw_in5 (i := 121) rfl) rfl
theorem w_1158 : (Jvm.Cond.fieldLink "TwocoinModel" (28 : Nat) "TwocoinModel" "worn" "[J") ∈ TW := tw_m (tw_in5 (i := 122) rfl) rfl
theorem w_1159 : (Jvm.Cond.fieldLink "TwocoinModel" (31 : Nat) "TwocoinModel" "came" "[J") ∈ TW := tw_m (tw_in5 (i := 123) rfl) rfl
theorem w_1160 : (Jvm.Cond.fieldLink "TwocoinModel" (37 : Nat) "TwocoinModel" "countries" "Ljava/util/ArrayList;") ∈ TW := tw_m (tw_in5 (i := 124) rfl) rfl
theorem w_1161 : (Jvm.Cond.fieldLink "TwocoinModel" (41 : Nat) "TwocoinModel" "houses" "Ljava/util/ArrayList;") ∈ TW := tw_m (tw_in5 (i := 125) rfl) rfl
theorem w_1162 : (Jvm.Cond.fieldLink "TwocoinModel" (44 : Nat) "TwocoinModel" "debts" "Ljava/util/ArrayList;") ∈ TW := tw_m (tw_in5 (i := 126) rfl) rfl
theorem w_1163 : (Jvm.Cond.lays "TwocoinModel" "TwocoinModel" "thrown" "I") ∈ TW := tw_m (tw_in5 (i := 127) rfl) rfl
theorem w_1164 : (Jvm.Cond.soleField "TwocoinModel" "thrown") ∈ TW := tw_m (tw_in5 (i := 128) rfl) rfl
theorem w_1165 : (Jvm.Cond.lays "TwocoinModel" "TwocoinModel" "today" "I") ∈ TW := tw_m (tw_in5 (i := 129) rfl) rfl
theorem w_1166 : (Jvm.Cond.soleField "TwocoinModel" "today") ∈ TW := tw_m (tw_in5 (i := 130) rfl) rfl
theorem w_1167 : (Jvm.Cond.lays "TwocoinModel" "TwocoinModel" "market" "I") ∈ TW := tw_m (tw_in5 (i := 131) rfl) rfl
theorem w_1168 : (Jvm.Cond.soleField "TwocoinModel" "market") ∈ TW := tw_m (tw_in5 (i := 132) rfl) rfl
theorem w_1169 : (Jvm.Cond.laysFinal "TwocoinModel" "TwocoinModel" "days" "[[I") ∈ TW := tw_m (tw_in5 (i := 133) rfl) rfl
theorem w_1170 : (Jvm.Cond.soleField "TwocoinModel" "days") ∈ TW := tw_m (tw_in5 (i := 134) rfl) rfl
theorem w_1171 : (Jvm.Cond.laysFinal "TwocoinModel" "TwocoinModel" "freights" "[[I") ∈ TW := tw_m (tw_in5 (i := 135) rfl) rfl
theorem w_1172 : (Jvm.Cond.soleField "TwocoinModel" "freights") ∈ TW := tw_m (tw_in5 (i := 136) rfl) rfl
theorem w_1173 : (Jvm.Cond.laysFinal "TwocoinModel" "TwocoinModel" "carried" "[J") ∈ TW := tw_m (tw_in5 (i := 137) rfl) rfl
theorem w_1174 : (Jvm.Cond.soleField "TwocoinModel" "carried") ∈ TW := tw_m (tw_in5 (i := 138) rfl) rfl
theorem w_1175 : (Jvm.Cond.laysFinal "TwocoinModel" "TwocoinModel" "used" "[J") ∈ TW := tw_m (tw_in5 (i := 139) rfl) rfl
theorem w_1176 : (Jvm.Cond.soleField "TwocoinModel" "used") ∈ TW := tw_m (tw_in5 (i := 140) rfl) rfl
theorem w_1177 : (Jvm.Cond.laysFinal "TwocoinModel" "TwocoinModel" "worn" "[J") ∈ TW := tw_m (tw_in5 (i := 141) rfl) rfl
theorem w_1178 : (Jvm.Cond.soleField "TwocoinModel" "worn") ∈ TW := tw_m (tw_in5 (i := 142) rfl) rfl
theorem w_1179 : (Jvm.Cond.laysFinal "TwocoinModel" "TwocoinModel" "came" "[J") ∈ TW := tw_m (tw_in5 (i := 143) rfl) rfl
theorem w_1180 : (Jvm.Cond.soleField "TwocoinModel" "came") ∈ TW := tw_m (tw_in5 (i := 144) rfl) rfl
theorem w_1181 : (Jvm.Cond.laysFinal "TwocoinModel" "TwocoinModel" "countries" "Ljava/util/ArrayList;") ∈ TW := tw_m (tw_in5 (i := 145) rfl) rfl
theorem w_1182 : (Jvm.Cond.soleField "TwocoinModel" "countries") ∈ TW := tw_m (tw_in5 (i := 146) rfl) rfl
theorem w_1183 : (Jvm.Cond.laysFinal "TwocoinModel" "TwocoinModel" "houses" "Ljava/util/ArrayList;") ∈ TW := tw_m (tw_in5 (i := 147) rfl) rfl
theorem w_1184 : (Jvm.Cond.soleField "TwocoinModel" "houses") ∈ TW := tw_m (tw_in5 (i := 148) rfl) rfl
theorem w_1185 : (Jvm.Cond.laysFinal "TwocoinModel" "TwocoinModel" "debts" "Ljava/util/ArrayList;") ∈ TW := tw_m (tw_in5 (i := 149) rfl) rfl
theorem w_1186 : (Jvm.Cond.soleField "TwocoinModel" "debts") ∈ TW := tw_m (tw_in5 (i := 150) rfl) rfl
theorem w_1187 : (Jvm.Cond.superclass "TwocoinModel" "java/lang/Object") ∈ TW := tw_m (tw_in5 (i := 151) rfl) rfl
theorem w_1188 : (Jvm.Cond.methodLink "TwocoinLaw" (117 : Nat) ({ cls := "TwocoinModel", name := "country", desc := "(IIII)I" } : Jvm.MethodName)) ∈ TW := tw_m (tw_in5 (i := 152) rfl) rfl
theorem w_1189 : (Jvm.Cond.instanceMethod ({ cls := "TwocoinModel", name := "country", desc := "(IIII)I" } : Jvm.MethodName)) ∈ TW := tw_m (tw_in5 (i := 153) rfl) rfl
theorem w_1190 : (Jvm.Cond.selects "TwocoinModel" ({ cls := "TwocoinModel", name := "country", desc := "(IIII)I" } : Jvm.MethodName) ({ cls := "TwocoinModel", name := "country", desc := "(IIII)I" } : Jvm.MethodName)) ∈ TW := tw_m (tw_in5 (i := 154) rfl) rfl
theorem w_1191 : (Jvm.Cond.code ({ cls := "TwocoinModel", name := "country", desc := "(IIII)I" } : Jvm.MethodName) prog_9_method_12_code (6 : Nat) (Option.some Jvm.ClassFile.FieldType.int)) ∈ TW := tw_m (tw_in5 (i := 155) rfl) rfl
theorem w_1192 : (Jvm.Cond.methodLink "TwocoinModel" (58 : Nat) ({ cls := "TwocoinModel", name := "isIn", desc := "(III)Z" } : Jvm.MethodName)) ∈ TW := tw_m (tw_in5 (i := 156) rfl) rfl
theorem w_1193 : (Jvm.Cond.static ({ cls := "TwocoinModel", name := "isIn", desc := "(III)Z" } : Jvm.MethodName)) ∈ TW := tw_m (tw_in5 (i := 157) rfl) rfl
theorem w_1194 : (Jvm.Cond.code ({ cls := "TwocoinModel", name := "isIn", desc := "(III)Z" } : Jvm.MethodName) prog_9_method_3_code (3 : Nat) (Option.some Jvm.ClassFile.FieldType.boolean)) ∈ TW := tw_m (tw_in5 (i := 158) rfl) rfl
theorem w_1195 : (Jvm.Cond.constant "TwocoinModel" (78 : Nat) (99999 : Int32)) ∈ TW := tw_m (tw_in5 (i := 159) rfl) rfl
theorem w_1196 : (Jvm.Cond.methodLink "TwocoinModel" (79 : Nat) ({ cls := "TwocoinModel", name := "start", desc := "(ZI)Z" } : Jvm.MethodName)) ∈ TW := tw_m (tw_in5 (i := 160) rfl) rfl
theorem w_1197 : (Jvm.Cond.privateMethod ({ cls := "TwocoinModel", name := "start", desc := "(ZI)Z" } : Jvm.MethodName)) ∈ lw_tbl := tw_in5 (i := 161) rfl
theorem w_1198 : (Jvm.Cond.instanceMethod ({ cls := "TwocoinModel", name := "start", desc := "(ZI)Z" } : Jvm.MethodName)) ∈ TW := tw_m (tw_in5 (i := 162) rfl) rfl
theorem w_1199 : (Jvm.Cond.code ({ cls := "TwocoinModel", name := "start", desc := "(ZI)Z" } : Jvm.MethodName) prog_9_method_5_code (3 : Nat) (Option.some Jvm.ClassFile.FieldType.boolean)) ∈ TW := tw_m (tw_in5 (i := 163) rfl) rfl
theorem w_1200 : (Jvm.Cond.methodLink "TwocoinModel" (50 : Nat) ({ cls := "TwocoinModel", name := "refuse", desc := "(ZI)Z" } : Jvm.MethodName)) ∈ TW := tw_m (tw_in5 (i := 164) rfl) rfl
theorem w_1201 : (Jvm.Cond.privateMethod ({ cls := "TwocoinModel", name := "refuse", desc := "(ZI)Z" } : Jvm.MethodName)) ∈ lw_tbl := tw_in5 (i := 165) rfl
theorem w_1202 : (Jvm.Cond.instanceMethod ({ cls := "TwocoinModel", name := "refuse", desc := "(ZI)Z" } : Jvm.MethodName)) ∈ TW := tw_m (tw_in5 (i := 166) rfl) rfl
theorem w_1203 : (Jvm.Cond.code ({ cls := "TwocoinModel", name := "refuse", desc := "(ZI)Z" } : Jvm.MethodName) prog_9_method_4_code (3 : Nat) (Option.some Jvm.ClassFile.FieldType.boolean)) ∈ TW := tw_m (tw_in5 (i := 167) rfl) rfl
theorem w_1204 : (Jvm.Cond.methodLink "TwocoinModel" (54 : Nat) ({ cls := "java/util/ArrayList", name := "size", desc := "()I" } : Jvm.MethodName)) ∈ TW := tw_m (tw_in5 (i := 168) rfl) rfl
theorem w_1205 : (Jvm.Cond.instanceMethod ({ cls := "java/util/ArrayList", name := "size", desc := "()I" } : Jvm.MethodName)) ∈ TW := tw_m (tw_in5 (i := 169) rfl) rfl
theorem w_1206 : (Jvm.Cond.selects "java/util/ArrayList" ({ cls := "java/util/ArrayList", name := "size", desc := "()I" } : Jvm.MethodName) ({ cls := "java/util/ArrayList", name := "size", desc := "()I" } : Jvm.MethodName)) ∈ TW := tw_m (tw_in5 (i := 170) rfl) rfl
theorem w_1207 : (Jvm.Cond.code ({ cls := "java/util/ArrayList", name := "size", desc := "()I" } : Jvm.MethodName) prog_38_method_8_code (1 : Nat) (Option.some Jvm.ClassFile.FieldType.int)) ∈ TW := tw_m (tw_in5 (i := 171) rfl) rfl
theorem w_1208 : (Jvm.Cond.classLink "TwocoinModel" (63 : Nat) "TwocoinModel$Country") ∈ TW := tw_m (tw_in5 (i := 172) rfl) rfl
theorem w_1209 : (Jvm.Cond.instantiable "TwocoinModel$Country" (5 : Nat)) ∈ TW := tw_m (tw_in5 (i := 173) rfl) rfl
theorem w_1210 : (Jvm.Cond.methodLinkNest "TwocoinModel" (82 : Nat) ({ cls := "TwocoinModel$Country", name := "<init>", desc := "()V" } : Jvm.MethodName) "TwocoinModel") ∈ tw_NG := tw_n (tw_in5 (i := 174) rfl) rfl
theorem w_1211 : (Jvm.Cond.instanceMethod ({ cls := "TwocoinModel$Country", name := "<init>", desc := "()V" } : Jvm.MethodName)) ∈ TW := tw_m (tw_in5 (i := 175) rfl) rfl
theorem w_1212 : (Jvm.Cond.code ({ cls := "TwocoinModel$Country", name := "<init>", desc := "()V" } : Jvm.MethodName) prog_10_method_1_code (1 : Nat) (Option.none : Option Jvm.ClassFile.FieldType)) ∈ TW := tw_m (tw_in5 (i := 176) rfl) rfl
theorem w_1213 : (Jvm.Cond.methodLink "TwocoinModel$Country" (1 : Nat) ({ cls := "java/lang/Object", name := "<init>", desc := "()V" } : Jvm.MethodName)) ∈ TW := tw_m (tw_in5 (i := 177) rfl) rfl
theorem w_1214 : (Jvm.Cond.fieldLink "TwocoinModel" (62 : Nat) "TwocoinModel$Country" "rate" "I") ∈ TW := tw_m (tw_in5 (i := 178) rfl) rfl
theorem w_1215 : (Jvm.Cond.fieldLink "TwocoinModel" (69 : Nat) "TwocoinModel$Country" "cut" "I") ∈ TW := tw_m (tw_in5 (i := 179) rfl) rfl
theorem w_1216 : (Jvm.Cond.fieldLink "TwocoinModel$Country" (7 : Nat) "TwocoinModel$Country" "vault" "[J") ∈ TW := tw_m (tw_in5 (i := 180) rfl) rfl
theorem w_1217 : (Jvm.Cond.fieldLink "TwocoinModel" (83 : Nat) "TwocoinModel$Country" "vault" "[J") ∈ TW := tw_m (tw_in5 (i := 181) rfl) rfl
theorem w_1218 : (Jvm.Cond.fieldLink "TwocoinModel$Country" (13 : Nat) "TwocoinModel$Country" "isOpen" "[Z") ∈ TW := tw_m (tw_in5 (i := 182) rfl) rfl
theorem w_1219 : (Jvm.Cond.fieldLink "TwocoinModel" (101 : Nat) "TwocoinModel$Country" "isOpen" "[Z") ∈ TW := tw_m (tw_in5 (i := 183) rfl) rfl
theorem w_1220 : (Jvm.Cond.fieldLink "TwocoinModel$Country" (17 : Nat) "TwocoinModel$Country" "till" "[I") ∈ TW := tw_m (tw_in5 (i := 184) rfl) rfl
theorem w_1221 : (Jvm.Cond.fieldLink "TwocoinModel" (185 : Nat) "TwocoinModel$Country" "till" "[I") ∈ TW := tw_m (tw_in5 (i := 185) rfl) rfl
theorem w_1222 : (Jvm.Cond.lays "TwocoinModel$Country" "TwocoinModel$Country" "rate" "I") ∈ TW := tw_m (tw_in5 (i := 186) rfl) rfl
theorem w_1223 : (Jvm.Cond.soleField "TwocoinModel$Country" "rate") ∈ TW := tw_m (tw_in5 (i := 187) rfl) rfl
theorem w_1224 : (Jvm.Cond.lays "TwocoinModel$Country" "TwocoinModel$Country" "cut" "I") ∈ TW := tw_m (tw_in5 (i := 188) rfl) rfl
theorem w_1225 : (Jvm.Cond.soleField "TwocoinModel$Country" "cut") ∈ TW := tw_m (tw_in5 (i := 189) rfl) rfl
theorem w_1226 : (Jvm.Cond.lays "TwocoinModel$Country" "TwocoinModel$Country" "vault" "[J") ∈ TW := tw_m (tw_in5 (i := 190) rfl) rfl
theorem w_1227 : (Jvm.Cond.soleField "TwocoinModel$Country" "vault") ∈ TW := tw_m (tw_in5 (i := 191) rfl) rfl
theorem w_1228 : (Jvm.Cond.lays "TwocoinModel$Country" "TwocoinModel$Country" "isOpen" "[Z") ∈ TW := tw_m (tw_in5 (i := 192) rfl) rfl
theorem w_1229 : (Jvm.Cond.soleField "TwocoinModel$Country" "isOpen") ∈ TW := tw_m (tw_in5 (i := 193) rfl) rfl
theorem w_1230 : (Jvm.Cond.lays "TwocoinModel$Country" "TwocoinModel$Country" "till" "[I") ∈ TW := tw_m (tw_in5 (i := 194) rfl) rfl
theorem w_1231 : (Jvm.Cond.soleField "TwocoinModel$Country" "till") ∈ TW := tw_m (tw_in5 (i := 195) rfl) rfl
theorem w_1232 : (Jvm.Cond.superclass "TwocoinModel$Country" "java/lang/Object") ∈ TW := tw_m (tw_in5 (i := 196) rfl) rfl
theorem w_1233 : (Jvm.Cond.arrayClass Jvm.ClassFile.FieldType.boolean) ∈ TW := tw_m (tw_in5 (i := 197) rfl) rfl
theorem w_1234 : (Jvm.Cond.methodLink "TwocoinModel" (86 : Nat) ({ cls := "java/util/ArrayList", name := "add", desc := "(Ljava/lang/Object;)Z" } : Jvm.MethodName)) ∈ TW := tw_m (tw_in5 (i := 198) rfl) rfl
theorem w_1235 : (Jvm.Cond.instanceMethod ({ cls := "java/util/ArrayList", name := "add", desc := "(Ljava/lang/Object;)Z" } : Jvm.MethodName)) ∈ TW := tw_m (tw_in5 (i := 199) rfl) rfl
theorem w_1236 : (Jvm.Cond.selects "java/util/ArrayList" ({ cls := "java/util/ArrayList", name := "add", desc := "(Ljava/lang/Object;)Z" } : Jvm.MethodName) ({ cls := "java/util/ArrayList", name := "add", desc := "(Ljava/lang/Object;)Z" } : Jvm.MethodName)) ∈ TW := tw_m (tw_in5 (i := 200) rfl) rfl
theorem w_1237 : (Jvm.Cond.code ({ cls := "java/util/ArrayList", name := "add", desc := "(Ljava/lang/Object;)Z" } : Jvm.MethodName) prog_38_method_25_code (2 : Nat) (Option.some Jvm.ClassFile.FieldType.boolean)) ∈ TW := tw_m (tw_in5 (i := 201) rfl) rfl
theorem w_1238 : (Jvm.Cond.methodLink "java/util/ArrayList" (131 : Nat) ({ cls := "java/util/ArrayList", name := "add", desc := "(Ljava/lang/Object;[Ljava/lang/Object;I)V" } : Jvm.MethodName)) ∈ TW := tw_m (tw_in5 (i := 202) rfl) rfl
theorem w_1239 : (Jvm.Cond.privateMethod ({ cls := "java/util/ArrayList", name := "add", desc := "(Ljava/lang/Object;[Ljava/lang/Object;I)V" } : Jvm.MethodName)) ∈ lw_tbl := tw_in5 (i := 203) rfl
theorem w_1240 : (Jvm.Cond.instanceMethod ({ cls := "java/util/ArrayList", name := "add", desc := "(Ljava/lang/Object;[Ljava/lang/Object;I)V" } : Jvm.MethodName)) ∈ TW := tw_m (tw_in5 (i := 204) rfl) rfl
theorem w_1241 : (Jvm.Cond.code ({ cls := "java/util/ArrayList", name := "add", desc := "(Ljava/lang/Object;[Ljava/lang/Object;I)V" } : Jvm.MethodName) prog_38_method_24_code (4 : Nat) (Option.none : Option Jvm.ClassFile.FieldType)) ∈ TW := tw_m (tw_in5 (i := 205) rfl) rfl
theorem w_1242 : (Jvm.Cond.methodLink "java/util/ArrayList" (129 : Nat) ({ cls := "java/util/ArrayList", name := "grow", desc := "()[Ljava/lang/Object;" } : Jvm.MethodName)) ∈ TW := tw_m (tw_in5 (i := 206) rfl) rfl
theorem w_1243 : (Jvm.Cond.privateMethod ({ cls := "java/util/ArrayList", name := "grow", desc := "()[Ljava/lang/Object;" } : Jvm.MethodName)) ∈ lw_tbl := tw_in5 (i := 207) rfl
theorem w_1244 : (Jvm.Cond.instanceMethod ({ cls := "java/util/ArrayList", name := "grow", desc := "()[Ljava/lang/Object;" } : Jvm.MethodName)) ∈ TW := tw_m (tw_in5 (i := 208) rfl) rfl
theorem w_1245 : (Jvm.Cond.code ({ cls := "java/util/ArrayList", name := "grow", desc := "()[Ljava/lang/Object;" } : Jvm.MethodName) prog_38_method_7_code (1 : Nat) (Option.some (Jvm.ClassFile.FieldType.array (Jvm.ClassFile.FieldType.object "java/lang/Object")))) ∈ TW := tw_m (tw_in5 (i := 209) rfl) rfl
theorem w_1246 : (Jvm.Cond.methodLink "java/util/ArrayList" (69 : Nat) ({ cls := "java/util/ArrayList", name := "grow", desc := "(I)[Ljava/lang/Object;" } : Jvm.MethodName)) ∈ TW := tw_m (tw_in5 (i := 210) rfl) rfl
theorem w_1247 : (Jvm.Cond.privateMethod ({ cls := "java/util/ArrayList", name := "grow", desc := "(I)[Ljava/lang/Object;" } : Jvm.MethodName)) ∈ lw_tbl := tw_in5 (i := 211) rfl
theorem w_1248 : (Jvm.Cond.instanceMethod ({ cls := "java/util/ArrayList", name := "grow", desc := "(I)[Ljava/lang/Object;" } : Jvm.MethodName)) ∈ TW := tw_m (tw_in5 (i := 212) rfl) rfl
theorem w_1249 : (Jvm.Cond.code ({ cls := "java/util/ArrayList", name := "grow", desc := "(I)[Ljava/lang/Object;" } : Jvm.MethodName) prog_38_method_6_code (4 : Nat) (Option.some (Jvm.ClassFile.FieldType.array (Jvm.ClassFile.FieldType.object "java/lang/Object")))) ∈ TW := tw_m (tw_in5 (i := 213) rfl) rfl
theorem w_1250 : (Jvm.Cond.methodLink "java/util/ArrayList" (73 : Nat) ({ cls := "jdk/internal/util/ArraysSupport", name := "newLength", desc := "(III)I" } : Jvm.MethodName)) ∈ TW := tw_m (tw_in5 (i := 214) rfl) rfl
theorem w_1251 : (Jvm.Cond.methodLink "java/util/ArrayList" (66 : Nat) ({ cls := "java/util/Arrays", name := "copyOf", desc := "([Ljava/lang/Object;I)[Ljava/lang/Object;" } : Jvm.MethodName)) ∈ TW := tw_m (tw_in5 (i := 215) rfl) rfl
theorem w_1252 : (Jvm.Cond.static ({ cls := "java/util/Arrays", name := "copyOf", desc := "([Ljava/lang/Object;I)[Ljava/lang/Object;" } : Jvm.MethodName)) ∈ TW := tw_m (tw_in5 (i := 216) rfl) rfl
theorem w_1253 : (Jvm.Cond.code ({ cls := "java/util/Arrays", name := "copyOf", desc := "([Ljava/lang/Object;I)[Ljava/lang/Object;" } : Jvm.MethodName) prog_40_method_119_code (2 : Nat) (Option.some (Jvm.ClassFile.FieldType.array (Jvm.ClassFile.FieldType.object "java/lang/Object")))) ∈ TW := tw_m (tw_in5 (i := 217) rfl) rfl
theorem w_1254 : (Jvm.Cond.methodLink "java/util/Arrays" (86 : Nat) ({ cls := "java/lang/Object", name := "getClass", desc := "()Ljava/lang/Class;" } : Jvm.MethodName)) ∈ TW := tw_m (tw_in5 (i := 218) rfl) rfl
theorem w_1255 : (Jvm.Cond.instanceMethod ({ cls := "java/lang/Object", name := "getClass", desc := "()Ljava/lang/Class;" } : Jvm.MethodName)) ∈ TW := tw_m (tw_in5 (i := 219) rfl) rfl
theorem w_1256 : (Jvm.Cond.sameMethod "java/lang/Object" "java/lang/Object" "getClass" "()Ljava/lang/Class;") ∈ TW := tw_m (tw_in5 (i := 220) rfl) rfl
theorem w_1257 : (Jvm.Cond.selects "Twocoin" ({ cls := "java/lang/Object", name := "getClass", desc := "()Ljava/lang/Class;" } : Jvm.MethodName) ({ cls := "java/lang/Object", name := "getClass", desc := "()Ljava/lang/Class;" } : Jvm.MethodName)) ∈ TW := tw_m (tw_in5 (i := 221) rfl) rfl
theorem w_1258 : (Jvm.Cond.selects "Twocoin$Country" ({ cls := "java/lang/Object", name := "getClass", desc := "()Ljava/lang/Class;" } : Jvm.MethodName) ({ cls := "java/lang/Object", name := "getClass", desc := "()Ljava/lang/Class;" } : Jvm.MethodName)) ∈ TW := tw_m (tw_in5 (i := 222) rfl) rfl
theorem w_1259 : (Jvm.Cond.selects "Twocoin$Debt" ({ cls := "java/lang/Object", name := "getClass", desc := "()Ljava/lang/Class;" } : Jvm.MethodName) ({ cls := "java/lang/Object", name := "getClass", desc := "()Ljava/lang/Class;" } : Jvm.MethodName)) ∈ TW := tw_m (tw_in5 (i := 223) rfl) rfl
theorem w_1260 : (Jvm.Cond.selects "Twocoin$House" ({ cls := "java/lang/Object", name := "getClass", desc := "()Ljava/lang/Class;" } : Jvm.MethodName) ({ cls := "java/lang/Object", name := "getClass", desc := "()Ljava/lang/Class;" } : Jvm.MethodName)) ∈ TW := tw_m (tw_in5 (i := 224) rfl) rfl
theorem w_1261 : (Jvm.Cond.selects "Twocoin$Metals" ({ cls := "java/lang/Object", name := "getClass", desc := "()Ljava/lang/Class;" } : Jvm.MethodName) ({ cls := "java/lang/Object", name := "getClass", desc := "()Ljava/lang/Class;" } : Jvm.MethodName)) ∈ TW := tw_m (tw_in5 (i := 225) rfl) rfl
theorem w_1262 : (Jvm.Cond.selects "Twocoin$Till" ({ cls := "java/lang/Object", name := "getClass", desc := "()Ljava/lang/Class;" } : Jvm.MethodName) ({ cls := "java/lang/Object", name := "getClass", desc := "()Ljava/lang/Class;" } : Jvm.MethodName)) ∈ TW := tw_m (tw_in5 (i := 226) rfl) rfl
theorem w_1263 : (Jvm.Cond.selects "TwocoinLaw$Out" ({ cls := "java/lang/Object", name := "getClass", desc := "()Ljava/lang/Class;" } : Jvm.MethodName) ({ cls := "java/lang/Object", name := "getClass", desc := "()Ljava/lang/Class;" } : Jvm.MethodName)) ∈ TW := tw_m (tw_in5 (i := 227) rfl) rfl
theorem w_1264 : (Jvm.Cond.selects "TwocoinModel" ({ cls := "java/lang/Object", name := "getClass", desc := "()Ljava/lang/Class;" } : Jvm.MethodName) ({ cls := "java/lang/Object", name := "getClass", desc := "()Ljava/lang/Class;" } : Jvm.MethodName)) ∈ TW := tw_m (tw_in5 (i := 228) rfl) rfl
theorem w_1265 : (Jvm.Cond.selects "TwocoinModel$Country" ({ cls := "java/lang/Object", name := "getClass", desc := "()Ljava/lang/Class;" } : Jvm.MethodName) ({ cls := "java/lang/Object", name := "getClass", desc := "()Ljava/lang/Class;" } : Jvm.MethodName)) ∈ TW := tw_m (tw_in5 (i := 229) rfl) rfl
theorem w_1266 : (Jvm.Cond.selects "TwocoinModel$Debt" ({ cls := "java/lang/Object", name := "getClass", desc := "()Ljava/lang/Class;" } : Jvm.MethodName) ({ cls := "java/lang/Object", name := "getClass", desc := "()Ljava/lang/Class;" } : Jvm.MethodName)) ∈ TW := tw_m (tw_in5 (i := 230) rfl) rfl
theorem w_1267 : (Jvm.Cond.selects "TwocoinModel$House" ({ cls := "java/lang/Object", name := "getClass", desc := "()Ljava/lang/Class;" } : Jvm.MethodName) ({ cls := "java/lang/Object", name := "getClass", desc := "()Ljava/lang/Class;" } : Jvm.MethodName)) ∈ TW := tw_m (tw_in5 (i := 231) rfl) rfl
theorem w_1268 : (Jvm.Cond.selects "java/lang/IllegalArgumentException" ({ cls := "java/lang/Object", name := "getClass", desc := "()Ljava/lang/Class;" } : Jvm.MethodName) ({ cls := "java/lang/Object", name := "getClass", desc := "()Ljava/lang/Class;" } : Jvm.MethodName)) ∈ TW := tw_m (tw_in5 (i := 232) rfl) rfl
theorem w_1269 : (Jvm.Cond.selects "java/lang/IllegalStateException" ({ cls := "java/lang/Object", name := "getClass", desc := "()Ljava/lang/Class;" } : Jvm.MethodName) ({ cls := "java/lang/Object", name := "getClass", desc := "()Ljava/lang/Class;" } : Jvm.MethodName)) ∈ TW := tw_m (tw_in5 (i := 233) rfl) rfl
theorem w_1270 : (Jvm.Cond.selects "java/lang/IndexOutOfBoundsException" ({ cls := "java/lang/Object", name := "getClass", desc := "()Ljava/lang/Class;" } : Jvm.MethodName) ({ cls := "java/lang/Object", name := "getClass", desc := "()Ljava/lang/Class;" } : Jvm.MethodName)) ∈ TW := tw_m (tw_in5 (i := 234) rfl) rfl
theorem w_1271 : (Jvm.Cond.selects "java/lang/String" ({ cls := "java/lang/Object", name := "getClass", desc := "()Ljava/lang/Class;" } : Jvm.MethodName) ({ cls := "java/lang/Object", name := "getClass", desc := "()Ljava/lang/Class;" } : Jvm.MethodName)) ∈ TW := tw_m (tw_in5 (i := 235) rfl) rfl
theorem w_1272 : (Jvm.Cond.selects "java/lang/StringBuilder" ({ cls := "java/lang/Object", name := "getClass", desc := "()Ljava/lang/Class;" } : Jvm.MethodName) ({ cls := "java/lang/Object", name := "getClass", desc := "()Ljava/lang/Class;" } : Jvm.MethodName)) ∈ TW := tw_m (tw_in5 (i := 236) rfl) rfl
theorem w_1273 : (Jvm.Cond.selects "java/util/ArrayList" ({ cls := "java/lang/Object", name := "getClass", desc := "()Ljava/lang/Class;" } : Jvm.MethodName) ({ cls := "java/lang/Object", name := "getClass", desc := "()Ljava/lang/Class;" } : Jvm.MethodName)) ∈ TW := tw_m (tw_in5 (i := 237) rfl) rfl
theorem w_1274 : (Jvm.Cond.selects "java/util/ArrayList$Itr" ({ cls := "java/lang/Object", name := "getClass", desc := "()Ljava/lang/Class;" } : Jvm.MethodName) ({ cls := "java/lang/Object", name := "getClass", desc := "()Ljava/lang/Class;" } : Jvm.MethodName)) ∈ TW := tw_m (tw_in5 (i := 238) rfl) rfl
theorem w_1275 : (Jvm.Cond.native ({ cls := "java/lang/Object", name := "getClass", desc := "()Ljava/lang/Class;" } : Jvm.MethodName)) ∈ TW := tw_m (tw_in5 (i := 239) rfl) rfl
theorem w_1276 : (Jvm.Cond.methodLink "java/util/Arrays" (300 : Nat) ({ cls := "java/util/Arrays", name := "copyOf", desc := "([Ljava/lang/Object;ILjava/lang/Class;)[Ljava/lang/Object;" } : Jvm.MethodName)) ∈ TW := tw_m (tw_in6 (i := 0) rfl) rfl
theorem w_1277 : (Jvm.Cond.static ({ cls := "java/util/Arrays", name := "copyOf", desc := "([Ljava/lang/Object;ILjava/lang/Class;)[Ljava/lang/Object;" } : Jvm.MethodName)) ∈ TW := tw_m (tw_in6 (i := 1) rfl) rfl
theorem w_1278 : (Jvm.Cond.code ({ cls := "java/util/Arrays", name := "copyOf", desc := "([Ljava/lang/Object;ILjava/lang/Class;)[Ljava/lang/Object;" } : Jvm.MethodName) prog_40_method_120_code (4 : Nat) (Option.some (Jvm.ClassFile.FieldType.array (Jvm.ClassFile.FieldType.object "java/lang/Object")))) ∈ TW := tw_m (tw_in6 (i := 2) rfl) rfl
theorem w_1279 : (Jvm.Cond.classLink "java/util/Arrays" (110 : Nat) "[Ljava/lang/Object;") ∈ TW := tw_m (tw_in6 (i := 3) rfl) rfl
theorem w_1280 : (Jvm.Cond.arrayOver (Jvm.ClassFile.FieldType.object "java/lang/Object")) ∈ lw_tbl := tw_in6 (i := 4) rfl
theorem w_1281 : (Jvm.Cond.classLink "java/util/Arrays" (2 : Nat) "java/lang/Object") ∈ TW := tw_m (tw_in6 (i := 5) rfl) rfl
theorem w_1282 : (Jvm.Cond.methodLink "java/util/ArrayList" (79 : Nat) ({ cls := "java/lang/Math", name := "max", desc := "(II)I" } : Jvm.MethodName)) ∈ TW := tw_m (tw_in6 (i := 6) rfl) rfl
theorem w_1283 : (Jvm.Cond.classLink "java/util/ArrayList" (7 : Nat) "java/lang/Object") ∈ TW := tw_m (tw_in6 (i := 7) rfl) rfl
theorem w_1284 : (Jvm.Cond.methodLink "TwocoinLaw" (121 : Nat) ({ cls := "TwocoinModel", name := "law", desc := "(III)I" } : Jvm.MethodName)) ∈ TW := tw_m (tw_in6 (i := 8) rfl) rfl
theorem w_1285 : (Jvm.Cond.instanceMethod ({ cls := "TwocoinModel", name := "law", desc := "(III)I" } : Jvm.MethodName)) ∈ TW := tw_m (tw_in6 (i := 9) rfl) rfl
theorem w_1286 : (Jvm.Cond.selects "TwocoinModel" ({ cls := "TwocoinModel", name := "law", desc := "(III)I" } : Jvm.MethodName) ({ cls := "TwocoinModel", name := "law", desc := "(III)I" } : Jvm.MethodName)) ∈ TW := tw_m (tw_in6 (i := 10) rfl) rfl
theorem w_1287 : (Jvm.Cond.code ({ cls := "TwocoinModel", name := "law", desc := "(III)I" } : Jvm.MethodName) prog_9_method_13_code (6 : Nat) (Option.some Jvm.ClassFile.FieldType.int)) ∈ TW := tw_m (tw_in6 (i := 11) rfl) rfl
theorem w_1288 : (Jvm.Cond.methodLink "TwocoinModel" (90 : Nat) ({ cls := "TwocoinModel", name := "isNoCountry", desc := "(I)Z" } : Jvm.MethodName)) ∈ TW := tw_m (tw_in6 (i := 12) rfl) rfl
theorem w_1289 : (Jvm.Cond.privateMethod ({ cls := "TwocoinModel", name := "isNoCountry", desc := "(I)Z" } : Jvm.MethodName)) ∈ lw_tbl := tw_in6 (i := 13) rfl
theorem w_1290 : (Jvm.Cond.instanceMethod ({ cls := "TwocoinModel", name := "isNoCountry", desc := "(I)Z" } : Jvm.MethodName)) ∈ TW := tw_m (tw_in6 (i := 14) rfl) rfl
theorem w_1291 : (Jvm.Cond.code ({ cls := "TwocoinModel", name := "isNoCountry", desc := "(I)Z" } : Jvm.MethodName) prog_9_method_6_code (2 : Nat) (Option.some Jvm.ClassFile.FieldType.boolean)) ∈ TW := tw_m (tw_in6 (i := 15) rfl) rfl
theorem w_1292 : (Jvm.Cond.methodLink "TwocoinModel" (94 : Nat) ({ cls := "java/util/ArrayList", name := "get", desc := "(I)Ljava/lang/Object;" } : Jvm.MethodName)) ∈ TW := tw_m (tw_in6 (i := 16) rfl) rfl
theorem w_1293 : (Jvm.Cond.instanceMethod ({ cls := "java/util/ArrayList", name := "get", desc := "(I)Ljava/lang/Object;" } : Jvm.MethodName)) ∈ TW := tw_m (tw_in6 (i := 17) rfl) rfl
theorem w_1294 : (Jvm.Cond.selects "java/util/ArrayList" ({ cls := "java/util/ArrayList", name := "get", desc := "(I)Ljava/lang/Object;" } : Jvm.MethodName) ({ cls := "java/util/ArrayList", name := "get", desc := "(I)Ljava/lang/Object;" } : Jvm.MethodName)) ∈ TW := tw_m (tw_in6 (i := 18) rfl) rfl
theorem w_1295 : (Jvm.Cond.code ({ cls := "java/util/ArrayList", name := "get", desc := "(I)Ljava/lang/Object;" } : Jvm.MethodName) prog_38_method_20_code (2 : Nat) (Option.some (Jvm.ClassFile.FieldType.object "java/lang/Object"))) ∈ TW := tw_m (tw_in6 (i := 19) rfl) rfl
theorem w_1296 : (Jvm.Cond.methodLink "java/util/ArrayList" (118 : Nat) ({ cls := "java/util/Objects", name := "checkIndex", desc := "(II)I" } : Jvm.MethodName)) ∈ TW := tw_m (tw_in6 (i := 20) rfl) rfl
theorem w_1297 : (Jvm.Cond.static ({ cls := "java/util/Objects", name := "checkIndex", desc := "(II)I" } : Jvm.MethodName)) ∈ TW := tw_m (tw_in6 (i := 21) rfl) rfl
theorem w_1298 : (Jvm.Cond.code ({ cls := "java/util/Objects", name := "checkIndex", desc := "(II)I" } : Jvm.MethodName) prog_44_method_17_code (2 : Nat) (Option.some Jvm.ClassFile.FieldType.int)) ∈ TW := tw_m (tw_in6 (i := 22) rfl) rfl
theorem w_1299 : (Jvm.Cond.methodLink "java/util/Objects" (105 : Nat) ({ cls := "jdk/internal/util/Preconditions", name := "checkIndex", desc := "(IILjava/util/function/BiFunction;)I" } : Jvm.MethodName)) ∈ TW := tw_m (tw_in6 (i := 23) rfl) rfl
theorem w_1300 : (Jvm.Cond.methodLink "java/util/ArrayList" (123 : Nat) ({ cls := "java/util/ArrayList", name := "elementData", desc := "(I)Ljava/lang/Object;" } : Jvm.MethodName)) ∈ TW := tw_m (tw_in6 (i := 24) rfl) rfl
theorem w_1301 : (Jvm.Cond.instanceMethod ({ cls := "java/util/ArrayList", name := "elementData", desc := "(I)Ljava/lang/Object;" } : Jvm.MethodName)) ∈ TW := tw_m (tw_in6 (i := 25) rfl) rfl
theorem w_1302 : (Jvm.Cond.selects "java/util/ArrayList" ({ cls := "java/util/ArrayList", name := "elementData", desc := "(I)Ljava/lang/Object;" } : Jvm.MethodName) ({ cls := "java/util/ArrayList", name := "elementData", desc := "(I)Ljava/lang/Object;" } : Jvm.MethodName)) ∈ TW := tw_m (tw_in6 (i := 26) rfl) rfl
theorem w_1303 : (Jvm.Cond.code ({ cls := "java/util/ArrayList", name := "elementData", desc := "(I)Ljava/lang/Object;" } : Jvm.MethodName) prog_38_method_18_code (2 : Nat) (Option.some (Jvm.ClassFile.FieldType.object "java/lang/Object"))) ∈ TW := tw_m (tw_in6 (i := 27) rfl) rfl
theorem w_1304 : (Jvm.Cond.methodLink "TwocoinLaw" (125 : Nat) ({ cls := "TwocoinModel", name := "gate", desc := "(IIZ)Z" } : Jvm.MethodName)) ∈ TW := tw_m (tw_in6 (i := 28) rfl) rfl
theorem w_1305 : (Jvm.Cond.instanceMethod ({ cls := "TwocoinModel", name := "gate", desc := "(IIZ)Z" } : Jvm.MethodName)) ∈ TW := tw_m (tw_in6 (i := 29) rfl) rfl
theorem w_1306 : (Jvm.Cond.selects "TwocoinModel" ({ cls := "TwocoinModel", name := "gate", desc := "(IIZ)Z" } : Jvm.MethodName) ({ cls := "TwocoinModel", name := "gate", desc := "(IIZ)Z" } : Jvm.MethodName)) ∈ TW := tw_m (tw_in6 (i := 30) rfl) rfl
theorem w_1307 : (Jvm.Cond.code ({ cls := "TwocoinModel", name := "gate", desc := "(IIZ)Z" } : Jvm.MethodName) prog_9_method_14_code (5 : Nat) (Option.some Jvm.ClassFile.FieldType.boolean)) ∈ TW := tw_m (tw_in6 (i := 31) rfl) rfl
theorem w_1308 : (Jvm.Cond.methodLink "TwocoinModel" (98 : Nat) ({ cls := "TwocoinModel", name := "isNoMetal", desc := "(I)Z" } : Jvm.MethodName)) ∈ TW := tw_m (tw_in6 (i := 32) rfl) rfl
theorem w_1309 : (Jvm.Cond.static ({ cls := "TwocoinModel", name := "isNoMetal", desc := "(I)Z" } : Jvm.MethodName)) ∈ TW := tw_m (tw_in6 (i := 33) rfl) rfl
theorem w_1310 : (Jvm.Cond.code ({ cls := "TwocoinModel", name := "isNoMetal", desc := "(I)Z" } : Jvm.MethodName) prog_9_method_8_code (1 : Nat) (Option.some Jvm.ClassFile.FieldType.boolean)) ∈ TW := tw_m (tw_in6 (i := 34) rfl) rfl
theorem w_1311 : (Jvm.Cond.methodLink "TwocoinLaw" (129 : Nat) ({ cls := "TwocoinModel", name := "market", desc := "(I)I" } : Jvm.MethodName)) ∈ TW := tw_m (tw_in6 (i := 35) rfl) rfl
theorem w_1312 : (Jvm.Cond.instanceMethod ({ cls := "TwocoinModel", name := "market", desc := "(I)I" } : Jvm.MethodName)) ∈ TW := tw_m (tw_in6 (i := 36) rfl) rfl
theorem w_1313 : (Jvm.Cond.selects "TwocoinModel" ({ cls := "TwocoinModel", name := "market", desc := "(I)I" } : Jvm.MethodName) ({ cls := "TwocoinModel", name := "market", desc := "(I)I" } : Jvm.MethodName)) ∈ TW := tw_m (tw_in6 (i := 37) rfl) rfl
theorem w_1314 : (Jvm.Cond.code ({ cls := "TwocoinModel", name := "market", desc := "(I)I" } : Jvm.MethodName) prog_9_method_15_code (3 : Nat) (Option.some Jvm.ClassFile.FieldType.int)) ∈ TW := tw_m (tw_in6 (i := 38) rfl) rfl
theorem w_1315 : (Jvm.Cond.methodLink "TwocoinLaw" (132 : Nat) ({ cls := "TwocoinModel", name := "road", desc := "(IIII)I" } : Jvm.MethodName)) ∈ TW := tw_m (tw_in6 (i := 39) rfl) rfl
theorem w_1316 : (Jvm.Cond.instanceMethod ({ cls := "TwocoinModel", name := "road", desc := "(IIII)I" } : Jvm.MethodName)) ∈ TW := tw_m (tw_in6 (i := 40) rfl) rfl
theorem w_1317 : (Jvm.Cond.selects "TwocoinModel" ({ cls := "TwocoinModel", name := "road", desc := "(IIII)I" } : Jvm.MethodName) ({ cls := "TwocoinModel", name := "road", desc := "(IIII)I" } : Jvm.MethodName)) ∈ TW := tw_m (tw_in6 (i := 41) rfl) rfl
theorem w_1318 : (Jvm.Cond.code ({ cls := "TwocoinModel", name := "road", desc := "(IIII)I" } : Jvm.MethodName) prog_9_method_16_code (6 : Nat) (Option.some Jvm.ClassFile.FieldType.int)) ∈ TW := tw_m (tw_in6 (i := 42) rfl) rfl
theorem w_1319 : (Jvm.Cond.methodLink "TwocoinLaw" (135 : Nat) ({ cls := "TwocoinModel", name := "mine", desc := "(III)I" } : Jvm.MethodName)) ∈ TW := tw_m (tw_in6 (i := 43) rfl) rfl
theorem w_1320 : (Jvm.Cond.instanceMethod ({ cls := "TwocoinModel", name := "mine", desc := "(III)I" } : Jvm.MethodName)) ∈ TW := tw_m (tw_in6 (i := 44) rfl) rfl
theorem w_1321 : (Jvm.Cond.selects "TwocoinModel" ({ cls := "TwocoinModel", name := "mine", desc := "(III)I" } : Jvm.MethodName) ({ cls := "TwocoinModel", name := "mine", desc := "(III)I" } : Jvm.MethodName)) ∈ TW := tw_m (tw_in6 (i := 45) rfl) rfl
theorem w_1322 : (Jvm.Cond.code ({ cls := "TwocoinModel", name := "mine", desc := "(III)I" } : Jvm.MethodName) prog_9_method_17_code (4 : Nat) (Option.some Jvm.ClassFile.FieldType.int)) ∈ TW := tw_m (tw_in6 (i := 46) rfl) rfl
theorem w_1323 : (Jvm.Cond.constantLong "TwocoinModel" (105 : Nat) (999999 : Int64)) ∈ TW := tw_m (tw_in6 (i := 47) rfl) rfl
theorem w_1324 : (Jvm.Cond.methodLink "TwocoinLaw" (138 : Nat) ({ cls := "TwocoinModel", name := "use", desc := "(III)I" } : Jvm.MethodName)) ∈ TW := tw_m (tw_in6 (i := 48) rfl) rfl
theorem w_1325 : (Jvm.Cond.instanceMethod ({ cls := "TwocoinModel", name := "use", desc := "(III)I" } : Jvm.MethodName)) ∈ TW := tw_m (tw_in6 (i := 49) rfl) rfl
theorem w_1326 : (Jvm.Cond.selects "TwocoinModel" ({ cls := "TwocoinModel", name := "use", desc := "(III)I" } : Jvm.MethodName) ({ cls := "TwocoinModel", name := "use", desc := "(III)I" } : Jvm.MethodName)) ∈ TW := tw_m (tw_in6 (i := 50) rfl) rfl
theorem w_1327 : (Jvm.Cond.code ({ cls := "TwocoinModel", name := "use", desc := "(III)I" } : Jvm.MethodName) prog_9_method_18_code (4 : Nat) (Option.some Jvm.ClassFile.FieldType.int)) ∈ TW := tw_m (tw_in6 (i := 51) rfl) rfl
theorem w_1328 : (Jvm.Cond.methodLink "TwocoinLaw" (141 : Nat) ({ cls := "TwocoinModel", name := "house", desc := "(III)I" } : Jvm.MethodName)) ∈ TW := tw_m (tw_in6 (i := 52) rfl) rfl
theorem w_1329 : (Jvm.Cond.instanceMethod ({ cls := "TwocoinModel", name := "house", desc := "(III)I" } : Jvm.MethodName)) ∈ TW := tw_m (tw_in6 (i := 53) rfl) rfl
theorem w_1330 : (Jvm.Cond.selects "TwocoinModel" ({ cls := "TwocoinModel", name := "house", desc := "(III)I" } : Jvm.MethodName) ({ cls := "TwocoinModel", name := "house", desc := "(III)I" } : Jvm.MethodName)) ∈ TW := tw_m (tw_in6 (i := 54) rfl) rfl
theorem w_1331 : (Jvm.Cond.code ({ cls := "TwocoinModel", name := "house", desc := "(III)I" } : Jvm.MethodName) prog_9_method_19_code (5 : Nat) (Option.some Jvm.ClassFile.FieldType.int)) ∈ TW := tw_m (tw_in6 (i := 55) rfl) rfl
theorem w_1332 : (Jvm.Cond.classLink "TwocoinModel" (107 : Nat) "TwocoinModel$House") ∈ TW := tw_m (tw_in6 (i := 56) rfl) rfl
theorem w_1333 : (Jvm.Cond.instantiable "TwocoinModel$House" (4 : Nat)) ∈ TW := tw_m (tw_in6 (i := 57) rfl) rfl
theorem w_1334 : (Jvm.Cond.methodLinkNest "TwocoinModel" (109 : Nat) ({ cls := "TwocoinModel$House", name := "<init>", desc := "()V" } : Jvm.MethodName) "TwocoinModel") ∈ tw_NG := tw_n (tw_in6 (i := 58) rfl) rfl
theorem w_1335 : (Jvm.Cond.instanceMethod ({ cls := "TwocoinModel$House", name := "<init>", desc := "()V" } : Jvm.MethodName)) ∈ TW := tw_m (tw_in6 (i := 59) rfl) rfl
theorem w_1336 : (Jvm.Cond.code ({ cls := "TwocoinModel$House", name := "<init>", desc := "()V" } : Jvm.MethodName) prog_12_method_1_code (1 : Nat) (Option.none : Option Jvm.ClassFile.FieldType)) ∈ TW := tw_m (tw_in6 (i := 60) rfl) rfl
theorem w_1337 : (Jvm.Cond.methodLink "TwocoinModel$House" (3 : Nat) ({ cls := "java/lang/Object", name := "<init>", desc := "()V" } : Jvm.MethodName)) ∈ TW := tw_m (tw_in6 (i := 61) rfl) rfl
theorem w_1338 : (Jvm.Cond.fieldLink "TwocoinModel" (110 : Nat) "TwocoinModel$House" "at" "I") ∈ TW := tw_m (tw_in6 (i := 62) rfl) rfl
theorem w_1339 : (Jvm.Cond.fieldLink "TwocoinModel$House" (9 : Nat) "TwocoinModel$House" "to" "I") ∈ TW := tw_m (tw_in6 (i := 63) rfl) rfl
theorem w_1340 : (Jvm.Cond.fieldLink "TwocoinModel" (133 : Nat) "TwocoinModel$House" "to" "I") ∈ TW := tw_m (tw_in6 (i := 64) rfl) rfl
theorem w_1341 : (Jvm.Cond.fieldLink "TwocoinModel$House" (15 : Nat) "TwocoinModel$House" "day" "I") ∈ TW := tw_m (tw_in6 (i := 65) rfl) rfl
theorem w_1342 : (Jvm.Cond.fieldLink "TwocoinModel" (130 : Nat) "TwocoinModel$House" "day" "I") ∈ TW := tw_m (tw_in6 (i := 66) rfl) rfl
theorem w_1343 : (Jvm.Cond.fieldLink "TwocoinModel$House" (18 : Nat) "TwocoinModel$House" "purse" "[J") ∈ TW := tw_m (tw_in6 (i := 67) rfl) rfl
theorem w_1344 : (Jvm.Cond.fieldLink "TwocoinModel" (113 : Nat) "TwocoinModel$House" "purse" "[J") ∈ TW := tw_m (tw_in6 (i := 68) rfl) rfl
theorem w_1345 : (Jvm.Cond.lays "TwocoinModel$House" "TwocoinModel$House" "at" "I") ∈ TW := tw_m (tw_in6 (i := 69) rfl) rfl
theorem w_1346 : (Jvm.Cond.soleField "TwocoinModel$House" "at") ∈ TW := tw_m (tw_in6 (i := 70) rfl) rfl
theorem w_1347 : (Jvm.Cond.lays "TwocoinModel$House" "TwocoinModel$House" "to" "I") ∈ TW := tw_m (tw_in6 (i := 71) rfl) rfl
theorem w_1348 : (Jvm.Cond.soleField "TwocoinModel$House" "to") ∈ TW := tw_m (tw_in6 (i := 72) rfl) rfl
theorem w_1349 : (Jvm.Cond.lays "TwocoinModel$House" "TwocoinModel$House" "day" "I") ∈ TW := tw_m (tw_in6 (i := 73) rfl) rfl
theorem w_1350 : (Jvm.Cond.soleField "TwocoinModel$House" "day") ∈ TW := tw_m (tw_in6 (i := 74) rfl) rfl
theorem w_1351 : (Jvm.Cond.lays "TwocoinModel$House" "TwocoinModel$House" "purse" "[J") ∈ TW := tw_m (tw_in6 (i := 75) rfl) rfl
theorem w_1352 : (Jvm.Cond.soleField "TwocoinModel$House" "purse") ∈ TW := tw_m (tw_in6 (i := 76) rfl) rfl
theorem w_1353 : (Jvm.Cond.superclass "TwocoinModel$House" "java/lang/Object") ∈ TW := tw_m (tw_in6 (i := 77) rfl) rfl
theorem w_1354 : (Jvm.Cond.methodLink "TwocoinLaw" (144 : Nat) ({ cls := "TwocoinModel", name := "change", desc := "(III)I" } : Jvm.MethodName)) ∈ TW := tw_m (tw_in6 (i := 78) rfl) rfl
theorem w_1355 : (Jvm.Cond.instanceMethod ({ cls := "TwocoinModel", name := "change", desc := "(III)I" } : Jvm.MethodName)) ∈ TW := tw_m (tw_in6 (i := 79) rfl) rfl
theorem w_1356 : (Jvm.Cond.selects "TwocoinModel" ({ cls := "TwocoinModel", name := "change", desc := "(III)I" } : Jvm.MethodName) ({ cls := "TwocoinModel", name := "change", desc := "(III)I" } : Jvm.MethodName)) ∈ TW := tw_m (tw_in6 (i := 80) rfl) rfl
theorem w_1357 : (Jvm.Cond.code ({ cls := "TwocoinModel", name := "change", desc := "(III)I" } : Jvm.MethodName) prog_9_method_21_code (8 : Nat) (Option.some Jvm.ClassFile.FieldType.int)) ∈ TW := tw_m (tw_in6 (i := 81) rfl) rfl
theorem w_1358 : (Jvm.Cond.methodLink "TwocoinModel" (120 : Nat) ({ cls := "TwocoinModel", name := "isNoHouse", desc := "(I)Z" } : Jvm.MethodName)) ∈ TW := tw_m (tw_in6 (i := 82) rfl) rfl
theorem w_1359 : (Jvm.Cond.privateMethod ({ cls := "TwocoinModel", name := "isNoHouse", desc := "(I)Z" } : Jvm.MethodName)) ∈ lw_tbl := tw_in6 (i := 83) rfl
theorem w_1360 : (Jvm.Cond.instanceMethod ({ cls := "TwocoinModel", name := "isNoHouse", desc := "(I)Z" } : Jvm.MethodName)) ∈ TW := tw_m (tw_in6 (i := 84) rfl) rfl
theorem w_1361 : (Jvm.Cond.code ({ cls := "TwocoinModel", name := "isNoHouse", desc := "(I)Z" } : Jvm.MethodName) prog_9_method_7_code (2 : Nat) (Option.some Jvm.ClassFile.FieldType.boolean)) ∈ TW := tw_m (tw_in6 (i := 85) rfl) rfl
theorem w_1362 : (Jvm.Cond.methodLink "TwocoinModel" (123 : Nat) ({ cls := "TwocoinModel", name := "isNoChange", desc := "(LTwocoinModel$House;II)Z" } : Jvm.MethodName)) ∈ TW := tw_m (tw_in6 (i := 86) rfl) rfl
theorem w_1363 : (Jvm.Cond.privateMethod ({ cls := "TwocoinModel", name := "isNoChange", desc := "(LTwocoinModel$House;II)Z" } : Jvm.MethodName)) ∈ lw_tbl := tw_in6 (i := 87) rfl
theorem w_1364 : (Jvm.Cond.instanceMethod ({ cls := "TwocoinModel", name := "isNoChange", desc := "(LTwocoinModel$House;II)Z" } : Jvm.MethodName)) ∈ TW := tw_m (tw_in6 (i := 88) rfl) rfl
theorem w_1365 : (Jvm.Cond.code ({ cls := "TwocoinModel", name := "isNoChange", desc := "(LTwocoinModel$House;II)Z" } : Jvm.MethodName) prog_9_method_20_code (5 : Nat) (Option.some Jvm.ClassFile.FieldType.boolean)) ∈ TW := tw_m (tw_in6 (i := 89) rfl) rfl
theorem w_1366 : (Jvm.Cond.methodLink "TwocoinModel" (116 : Nat) ({ cls := "TwocoinModel", name := "given", desc := "(LTwocoinModel$Country;IJ)J" } : Jvm.MethodName)) ∈ TW := tw_m (tw_in6 (i := 90) rfl) rfl
theorem w_1367 : (Jvm.Cond.static ({ cls := "TwocoinModel", name := "given", desc := "(LTwocoinModel$Country;IJ)J" } : Jvm.MethodName)) ∈ TW := tw_m (tw_in6 (i := 91) rfl) rfl
theorem w_1368 : (Jvm.Cond.code ({ cls := "TwocoinModel", name := "given", desc := "(LTwocoinModel$Country;IJ)J" } : Jvm.MethodName) prog_9_method_10_code (6 : Nat) (Option.some Jvm.ClassFile.FieldType.long)) ∈ TW := tw_m (tw_in6 (i := 92) rfl) rfl
theorem w_1369 : (Jvm.Cond.constantLong "TwocoinModel" (67 : Nat) (10 : Int64)) ∈ TW := tw_m (tw_in6 (i := 93) rfl) rfl
theorem w_1370 : (Jvm.Cond.constantLong "TwocoinModel" (72 : Nat) (1000 : Int64)) ∈ TW := tw_m (tw_in6 (i := 94) rfl) rfl
theorem w_1371 : (Jvm.Cond.methodLink "TwocoinModel" (74 : Nat) ({ cls := "TwocoinModel", name := "up", desc := "(JJ)J" } : Jvm.MethodName)) ∈ TW := tw_m (tw_in6 (i := 95) rfl) rfl
theorem w_1372 : (Jvm.Cond.static ({ cls := "TwocoinModel", name := "up", desc := "(JJ)J" } : Jvm.MethodName)) ∈ TW := tw_m (tw_in6 (i := 96) rfl) rfl
theorem w_1373 : (Jvm.Cond.code ({ cls := "TwocoinModel", name := "up", desc := "(JJ)J" } : Jvm.MethodName) prog_9_method_9_code (4 : Nat) (Option.some Jvm.ClassFile.FieldType.long)) ∈ TW := tw_m (tw_in6 (i := 97) rfl) rfl
theorem w_1374 : (Jvm.Cond.methodLink "TwocoinLaw" (148 : Nat) ({ cls := "TwocoinModel", name := "send", desc := "(II)I" } : Jvm.MethodName)) ∈ TW := tw_m (tw_in6 (i := 98) rfl) rfl
theorem w_1375 : (Jvm.Cond.instanceMethod ({ cls := "TwocoinModel", name := "send", desc := "(II)I" } : Jvm.MethodName)) ∈ TW := tw_m (tw_in6 (i := 99) rfl) rfl
theorem w_1376 : (Jvm.Cond.selects "TwocoinModel" ({ cls := "TwocoinModel", name := "send", desc := "(II)I" } : Jvm.MethodName) ({ cls := "TwocoinModel", name := "send", desc := "(II)I" } : Jvm.MethodName)) ∈ TW := tw_m (tw_in6 (i := 100) rfl) rfl
theorem w_1377 : (Jvm.Cond.code ({ cls := "TwocoinModel", name := "send", desc := "(II)I" } : Jvm.MethodName) prog_9_method_22_code (7 : Nat) (Option.some Jvm.ClassFile.FieldType.int)) ∈ TW := tw_m (tw_in6 (i := 101) rfl) rfl
theorem w_1378 : (Jvm.Cond.methodLink "TwocoinLaw" (151 : Nat) ({ cls := "TwocoinModel", name := "pass", desc := "(I)I" } : Jvm.MethodName)) ∈ TW := tw_m (tw_in6 (i := 102) rfl) rfl
theorem w_1379 : (Jvm.Cond.instanceMethod ({ cls := "TwocoinModel", name := "pass", desc := "(I)I" } : Jvm.MethodName)) ∈ TW := tw_m (tw_in6 (i := 103) rfl) rfl
theorem w_1380 : (Jvm.Cond.selects "TwocoinModel" ({ cls := "TwocoinModel", name := "pass", desc := "(I)I" } : Jvm.MethodName) ({ cls := "TwocoinModel", name := "pass", desc := "(I)I" } : Jvm.MethodName)) ∈ TW := tw_m (tw_in6 (i := 104) rfl) rfl
theorem w_1381 : (Jvm.Cond.code ({ cls := "TwocoinModel", name := "pass", desc := "(I)I" } : Jvm.MethodName) prog_9_method_23_code (7 : Nat) (Option.some Jvm.ClassFile.FieldType.int)) ∈ TW := tw_m (tw_in6 (i := 105) rfl) rfl
theorem w_1382 : (Jvm.Cond.methodLink "TwocoinModel" (136 : Nat) ({ cls := "java/util/ArrayList", name := "iterator", desc := "()Ljava/util/Iterator;" } : Jvm.MethodName)) ∈ TW := tw_m (tw_in6 (i := 106) rfl) rfl
theorem w_1383 : (Jvm.Cond.instanceMethod ({ cls := "java/util/ArrayList", name := "iterator", desc := "()Ljava/util/Iterator;" } : Jvm.MethodName)) ∈ TW := tw_m (tw_in6 (i := 107) rfl) rfl
theorem w_1384 : (Jvm.Cond.selects "java/util/ArrayList" ({ cls := "java/util/ArrayList", name := "iterator", desc := "()Ljava/util/Iterator;" } : Jvm.MethodName) ({ cls := "java/util/ArrayList", name := "iterator", desc := "()Ljava/util/Iterator;" } : Jvm.MethodName)) ∈ TW := tw_m (tw_in6 (i := 108) rfl) rfl
theorem w_1385 : (Jvm.Cond.code ({ cls := "java/util/ArrayList", name := "iterator", desc := "()Ljava/util/Iterator;" } : Jvm.MethodName) prog_38_method_55_code (1 : Nat) (Option.some (Jvm.ClassFile.FieldType.object "java/util/Iterator"))) ∈ TW := tw_m (tw_in6 (i := 109) rfl) rfl
theorem w_1386 : (Jvm.Cond.classLink "java/util/ArrayList" (267 : Nat) "java/util/ArrayList$Itr") ∈ TW := tw_m (tw_in6 (i := 110) rfl) rfl
theorem w_1387 : (Jvm.Cond.instantiable "java/util/ArrayList$Itr" (4 : Nat)) ∈ TW := tw_m (tw_in6 (i := 111) rfl) rfl
theorem w_1388 : (Jvm.Cond.methodLink "java/util/ArrayList" (269 : Nat) ({ cls := "java/util/ArrayList$Itr", name := "<init>", desc := "(Ljava/util/ArrayList;)V" } : Jvm.MethodName)) ∈ TW := tw_m (tw_in6 (i := 112) rfl) rfl
theorem w_1389 : (Jvm.Cond.instanceMethod ({ cls := "java/util/ArrayList$Itr", name := "<init>", desc := "(Ljava/util/ArrayList;)V" } : Jvm.MethodName)) ∈ TW := tw_m (tw_in6 (i := 113) rfl) rfl
theorem w_1390 : (Jvm.Cond.code ({ cls := "java/util/ArrayList$Itr", name := "<init>", desc := "(Ljava/util/ArrayList;)V" } : Jvm.MethodName) prog_39_method_1_code (2 : Nat) (Option.none : Option Jvm.ClassFile.FieldType)) ∈ TW := tw_m (tw_in6 (i := 114) rfl) rfl
theorem w_1391 : (Jvm.Cond.methodLink "java/util/ArrayList$Itr" (7 : Nat) ({ cls := "java/lang/Object", name := "<init>", desc := "()V" } : Jvm.MethodName)) ∈ TW := tw_m (tw_in6 (i := 115) rfl) rfl
theorem w_1392 : (Jvm.Cond.fieldLink "java/util/ArrayList$Itr" (25 : Nat) "java/util/ArrayList$Itr" "cursor" "I") ∈ TW := tw_m (tw_in6 (i := 116) rfl) rfl
theorem w_1393 : (Jvm.Cond.fieldLink "java/util/ArrayList$Itr" (13 : Nat) "java/util/ArrayList$Itr" "lastRet" "I") ∈ TW := tw_m (tw_in6 (i := 117) rfl) rfl
theorem w_1394 : (Jvm.Cond.fieldLink "java/util/ArrayList$Itr" (22 : Nat) "java/util/ArrayList$Itr" "expectedModCount" "I") ∈ TW := tw_m (tw_in6 (i := 118) rfl) rfl
theorem w_1395 : (Jvm.Cond.fieldLink "java/util/ArrayList$Itr" (1 : Nat) "java/util/ArrayList$Itr" "this$0" "Ljava/util/ArrayList;") ∈ TW := tw_m (tw_in6 (i := 119) rfl) rfl
theorem w_1396 : (Jvm.Cond.lays "java/util/ArrayList$Itr" "java/util/ArrayList$Itr" "cursor" "I") ∈ TW := tw_m (tw_in6 (i := 120) rfl) rfl
theorem w_1397 : (Jvm.Cond.soleField "java/util/ArrayList$Itr" "cursor") ∈ TW := tw_m (tw_in6 (i := 121) rfl) rfl
theorem w_1398 : (Jvm.Cond.lays "java/util/ArrayList$Itr" "java/util/ArrayList$Itr" "lastRet" "I") ∈ TW := tw_m (tw_in6 (i := 122) rfl) rfl
theorem w_1399 : (Jvm.Cond.soleField "java/util/ArrayList$Itr" "lastRet") ∈ TW := tw_m (tw_in6 (i := 123) rfl) rfl
theorem w_1400 : (Jvm.Cond.lays "java/util/ArrayList$Itr" "java/util/ArrayList$Itr" "expectedModCount" "I") ∈ TW := tw_m (tw_in6 (i := 124) rfl) rfl
theorem w_1401 : (Jvm.Cond.soleField "java/util/ArrayList$Itr" "expectedModCount") ∈ TW := tw_m (tw_in6 (i := 125) rfl) rfl
theorem w_1402 : (Jvm.Cond.laysFinal "java/util/ArrayList$Itr" "java/util/ArrayList$Itr" "this$0" "Ljava/util/ArrayList;") ∈ TW := tw_m (tw_in6 (i := 126) rfl) rfl
theorem w_1403 : (Jvm.Cond.soleField "java/util/ArrayList$Itr" "this$0") ∈ TW := tw_m (tw_in6 (i := 127) rfl) rfl
theorem w_1404 : (Jvm.Cond.superclass "java/util/ArrayList$Itr" "java/lang/Object") ∈ TW := tw_m (tw_in6 (i := 128) rfl) rfl
theorem w_1405 : (Jvm.Cond.interfaceEntry "TwocoinModel" (140 : Nat)) ∈ lw_tbl := tw_in6 (i := 129) rfl
theorem w_1406 : (Jvm.Cond.methodLink "TwocoinModel" (140 : Nat) ({ cls := "java/util/Iterator", name := "hasNext", desc := "()Z" } : Jvm.MethodName)) ∈ TW := tw_m (tw_in6 (i := 130) rfl) rfl
theorem w_1407 : (Jvm.Cond.interfaceMethod "java/util/Iterator" "java/util/Iterator" "hasNext" "()Z") ∈ lw_tbl := tw_in6 (i := 131) rfl
theorem w_1408 : (Jvm.Cond.declares ({ cls := "java/util/Iterator", name := "hasNext", desc := "()Z" } : Jvm.MethodName)) ∈ tw_NG := tw_n (tw_in6 (i := 132) rfl) rfl
theorem w_1409 : (Jvm.Cond.castable "java/util/ArrayList$Itr" "java/util/Iterator") ∈ tw_NG := tw_n (tw_in6 (i := 133) rfl) rfl
theorem w_1410 : (Jvm.Cond.selects "java/util/ArrayList$Itr" ({ cls := "java/util/Iterator", name := "hasNext", desc := "()Z" } : Jvm.MethodName) ({ cls := "java/util/ArrayList$Itr", name := "hasNext", desc := "()Z" } : Jvm.MethodName)) ∈ TW := tw_m (tw_in6 (i := 134) rfl) rfl
theorem w_1411 : (Jvm.Cond.unhidden "java/util/ArrayList$Itr" "hasNext" "()Z") ∈ lw_tbl := tw_in6 (i := 135) rfl
theorem w_1412 : (Jvm.Cond.instanceMethod ({ cls := "java/util/ArrayList$Itr", name := "hasNext", desc := "()Z" } : Jvm.MethodName)) ∈ TW := tw_m (tw_in6 (i := 136) rfl) rfl
theorem w_1413 : (Jvm.Cond.publicMethod ({ cls := "java/util/ArrayList$Itr", name := "hasNext", desc := "()Z" } : Jvm.MethodName)) ∈ lw_tbl := tw_in6 (i := 137) rfl
theorem w_1414 : (Jvm.Cond.code ({ cls := "java/util/ArrayList$Itr", name := "hasNext", desc := "()Z" } : Jvm.MethodName) prog_39_method_2_code (1 : Nat) (Option.some Jvm.ClassFile.FieldType.boolean)) ∈ TW := tw_m (tw_in6 (i := 138) rfl) rfl
theorem w_1415 : (Jvm.Cond.interfaceEntry "TwocoinModel" (146 : Nat)) ∈ lw_tbl := tw_in6 (i := 139) rfl
theorem w_1416 : (Jvm.Cond.methodLink "TwocoinModel" (146 : Nat) ({ cls := "java/util/Iterator", name := "next", desc := "()Ljava/lang/Object;" } : Jvm.MethodName)) ∈ TW := tw_m (tw_in6 (i := 140) rfl) rfl
theorem w_1417 : (Jvm.Cond.interfaceMethod "java/util/Iterator" "java/util/Iterator" "next" "()Ljava/lang/Object;") ∈ lw_tbl := tw_in6 (i := 141) rfl
theorem w_1418 : (Jvm.Cond.declares ({ cls := "java/util/Iterator", name := "next", desc := "()Ljava/lang/Object;" } : Jvm.MethodName)) ∈ tw_NG := tw_n (tw_in6 (i := 142) rfl) rfl
theorem w_1419 : (Jvm.Cond.selects "java/util/ArrayList$Itr" ({ cls := "java/util/Iterator", name := "next", desc := "()Ljava/lang/Object;" } : Jvm.MethodName) ({ cls := "java/util/ArrayList$Itr", name := "next", desc := "()Ljava/lang/Object;" } : Jvm.MethodName)) ∈ TW := tw_m (tw_in6 (i := 143) rfl) rfl
theorem w_1420 : (Jvm.Cond.unhidden "java/util/ArrayList$Itr" "next" "()Ljava/lang/Object;") ∈ lw_tbl := tw_in6 (i := 144) rfl
theorem w_1421 : (Jvm.Cond.instanceMethod ({ cls := "java/util/ArrayList$Itr", name := "next", desc := "()Ljava/lang/Object;" } : Jvm.MethodName)) ∈ TW := tw_m (tw_in6 (i := 145) rfl) rfl
theorem w_1422 : (Jvm.Cond.publicMethod ({ cls := "java/util/ArrayList$Itr", name := "next", desc := "()Ljava/lang/Object;" } : Jvm.MethodName)) ∈ lw_tbl := tw_in6 (i := 146) rfl
theorem w_1423 : (Jvm.Cond.code ({ cls := "java/util/ArrayList$Itr", name := "next", desc := "()Ljava/lang/Object;" } : Jvm.MethodName) prog_39_method_3_code (3 : Nat) (Option.some (Jvm.ClassFile.FieldType.object "java/lang/Object"))) ∈ TW := tw_m (tw_in6 (i := 147) rfl) rfl
theorem w_1424 : (Jvm.Cond.methodLink "java/util/ArrayList$Itr" (31 : Nat) ({ cls := "java/util/ArrayList$Itr", name := "checkForComodification", desc := "()V" } : Jvm.MethodName)) ∈ TW := tw_m (tw_in6 (i := 148) rfl) rfl
theorem w_1425 : (Jvm.Cond.instanceMethod ({ cls := "java/util/ArrayList$Itr", name := "checkForComodification", desc := "()V" } : Jvm.MethodName)) ∈ TW := tw_m (tw_in6 (i := 149) rfl) rfl
theorem w_1426 : (Jvm.Cond.selects "java/util/ArrayList$Itr" ({ cls := "java/util/ArrayList$Itr", name := "checkForComodification", desc := "()V" } : Jvm.MethodName) ({ cls := "java/util/ArrayList$Itr", name := "checkForComodification", desc := "()V" } : Jvm.MethodName)) ∈ TW := tw_m (tw_in6 (i := 150) rfl) rfl
theorem w_1427 : (Jvm.Cond.code ({ cls := "java/util/ArrayList$Itr", name := "checkForComodification", desc := "()V" } : Jvm.MethodName) prog_39_method_6_code (1 : Nat) (Option.none : Option Jvm.ClassFile.FieldType)) ∈ TW := tw_m (tw_in6 (i := 151) rfl) rfl
theorem w_1428 : (Jvm.Cond.constantLong "TwocoinModel" (150 : Nat) (10000 : Int64)) ∈ TW := tw_m (tw_in6 (i := 152) rfl) rfl
theorem w_1429 : (Jvm.Cond.methodLink "TwocoinLaw" (154 : Nat) ({ cls := "TwocoinModel", name := "owe", desc := "(IIII)I" } : Jvm.MethodName)) ∈ TW := tw_m (tw_in6 (i := 153) rfl) rfl
theorem w_1430 : (Jvm.Cond.instanceMethod ({ cls := "TwocoinModel", name := "owe", desc := "(IIII)I" } : Jvm.MethodName)) ∈ TW := tw_m (tw_in6 (i := 154) rfl) rfl
theorem w_1431 : (Jvm.Cond.selects "TwocoinModel" ({ cls := "TwocoinModel", name := "owe", desc := "(IIII)I" } : Jvm.MethodName) ({ cls := "TwocoinModel", name := "owe", desc := "(IIII)I" } : Jvm.MethodName)) ∈ TW := tw_m (tw_in6 (i := 155) rfl) rfl
theorem w_1432 : (Jvm.Cond.code ({ cls := "TwocoinModel", name := "owe", desc := "(IIII)I" } : Jvm.MethodName) prog_9_method_24_code (6 : Nat) (Option.some Jvm.ClassFile.FieldType.int)) ∈ TW := tw_m (tw_in6 (i := 156) rfl) rfl
theorem w_1433 : (Jvm.Cond.classLink "TwocoinModel" (152 : Nat) "TwocoinModel$Debt") ∈ TW := tw_m (tw_in6 (i := 157) rfl) rfl
theorem w_1434 : (Jvm.Cond.instantiable "TwocoinModel$Debt" (5 : Nat)) ∈ TW := tw_m (tw_in6 (i := 158) rfl) rfl
theorem w_1435 : (Jvm.Cond.methodLinkNest "TwocoinModel" (154 : Nat) ({ cls := "TwocoinModel$Debt", name := "<init>", desc := "()V" } : Jvm.MethodName) "TwocoinModel") ∈ tw_NG := tw_n (tw_in6 (i := 159) rfl) rfl
theorem w_1436 : (Jvm.Cond.instanceMethod ({ cls := "TwocoinModel$Debt", name := "<init>", desc := "()V" } : Jvm.MethodName)) ∈ TW := tw_m (tw_in6 (i := 160) rfl) rfl
theorem w_1437 : (Jvm.Cond.code ({ cls := "TwocoinModel$Debt", name := "<init>", desc := "()V" } : Jvm.MethodName) prog_11_method_1_code (1 : Nat) (Option.none : Option Jvm.ClassFile.FieldType)) ∈ TW := tw_m (tw_in6 (i := 161) rfl) rfl
theorem w_1438 : (Jvm.Cond.methodLink "TwocoinModel$Debt" (1 : Nat) ({ cls := "java/lang/Object", name := "<init>", desc := "()V" } : Jvm.MethodName)) ∈ TW := tw_m (tw_in6 (i := 162) rfl) rfl
theorem w_1439 : (Jvm.Cond.fieldLink "TwocoinModel" (155 : Nat) "TwocoinModel$Debt" "from" "I") ∈ TW := tw_m (tw_in6 (i := 163) rfl) rfl
theorem w_1440 : (Jvm.Cond.fieldLink "TwocoinModel" (158 : Nat) "TwocoinModel$Debt" "to" "I") ∈ TW := tw_m (tw_in6 (i := 164) rfl) rfl
theorem w_1441 : (Jvm.Cond.fieldLink "TwocoinModel" (159 : Nat) "TwocoinModel$Debt" "value" "I") ∈ TW := tw_m (tw_in6 (i := 165) rfl) rfl
theorem w_1442 : (Jvm.Cond.fieldLink "TwocoinModel" (162 : Nat) "TwocoinModel$Debt" "day" "I") ∈ TW := tw_m (tw_in6 (i := 166) rfl) rfl
theorem w_1443 : (Jvm.Cond.fieldLink "TwocoinModel" (163 : Nat) "TwocoinModel$Debt" "isPaid" "Z") ∈ TW := tw_m (tw_in6 (i := 167) rfl) rfl
theorem w_1444 : (Jvm.Cond.lays "TwocoinModel$Debt" "TwocoinModel$Debt" "from" "I") ∈ TW := tw_m (tw_in6 (i := 168) rfl) rfl
theorem w_1445 : (Jvm.Cond.soleField "TwocoinModel$Debt" "from") ∈ TW := tw_m (tw_in6 (i := 169) rfl) rfl
theorem w_1446 : (Jvm.Cond.lays "TwocoinModel$Debt" "TwocoinModel$Debt" "to" "I") ∈ TW := tw_m (tw_in6 (i := 170) rfl) rfl
theorem w_1447 : (Jvm.Cond.soleField "TwocoinModel$Debt" "to") ∈ TW := tw_m (tw_in6 (i := 171) rfl) rfl
theorem w_1448 : (Jvm.Cond.lays "TwocoinModel$Debt" "TwocoinModel$Debt" "value" "I") ∈ TW := tw_m (tw_in6 (i := 172) rfl) rfl
theorem w_1449 : (Jvm.Cond.soleField "TwocoinModel$Debt" "value") ∈ TW := tw_m (tw_in6 (i := 173) rfl) rfl
theorem w_1450 : (Jvm.Cond.lays "TwocoinModel$Debt" "TwocoinModel$Debt" "day" "I") ∈ TW := tw_m (tw_in6 (i := 174) rfl) rfl
theorem w_1451 : (Jvm.Cond.soleField "TwocoinModel$Debt" "day") ∈ TW := tw_m (tw_in6 (i := 175) rfl) rfl
theorem w_1452 : (Jvm.Cond.lays "TwocoinModel$Debt" "TwocoinModel$Debt" "isPaid" "Z") ∈ TW := tw_m (tw_in6 (i := 176) rfl) rfl
theorem w_1453 : (Jvm.Cond.soleField "TwocoinModel$Debt" "isPaid") ∈ TW := tw_m (tw_in6 (i := 177) rfl) rfl
theorem w_1454 : (Jvm.Cond.superclass "TwocoinModel$Debt" "java/lang/Object") ∈ TW := tw_m (tw_in6 (i := 178) rfl) rfl
theorem w_1455 : (Jvm.Cond.methodLink "TwocoinLaw" (157 : Nat) ({ cls := "TwocoinModel", name := "settle", desc := "(II)I" } : Jvm.MethodName)) ∈ TW := tw_m (tw_in6 (i := 179) rfl) rfl
theorem w_1456 : (Jvm.Cond.instanceMethod ({ cls := "TwocoinModel", name := "settle", desc := "(II)I" } : Jvm.MethodName)) ∈ TW := tw_m (tw_in6 (i := 180) rfl) rfl
theorem w_1457 : (Jvm.Cond.selects "TwocoinModel" ({ cls := "TwocoinModel", name := "settle", desc := "(II)I" } : Jvm.MethodName) ({ cls := "TwocoinModel", name := "settle", desc := "(II)I" } : Jvm.MethodName)) ∈ TW := tw_m (tw_in6 (i := 181) rfl) rfl
theorem w_1458 : (Jvm.Cond.code ({ cls := "TwocoinModel", name := "settle", desc := "(II)I" } : Jvm.MethodName) prog_9_method_28_code (6 : Nat) (Option.some Jvm.ClassFile.FieldType.int)) ∈ TW := tw_m (tw_in6 (i := 182) rfl) rfl
theorem w_1459 : (Jvm.Cond.methodLink "TwocoinModel" (181 : Nat) ({ cls := "TwocoinModel", name := "isNoPay", desc := "(LTwocoinModel$Debt;I)Z" } : Jvm.MethodName)) ∈ TW := tw_m (tw_in6 (i := 183) rfl) rfl
theorem w_1460 : (Jvm.Cond.privateMethod ({ cls := "TwocoinModel", name := "isNoPay", desc := "(LTwocoinModel$Debt;I)Z" } : Jvm.MethodName)) ∈ lw_tbl := tw_in6 (i := 184) rfl
theorem w_1461 : (Jvm.Cond.instanceMethod ({ cls := "TwocoinModel", name := "isNoPay", desc := "(LTwocoinModel$Debt;I)Z" } : Jvm.MethodName)) ∈ TW := tw_m (tw_in6 (i := 185) rfl) rfl
theorem w_1462 : (Jvm.Cond.code ({ cls := "TwocoinModel", name := "isNoPay", desc := "(LTwocoinModel$Debt;I)Z" } : Jvm.MethodName) prog_9_method_27_code (4 : Nat) (Option.some Jvm.ClassFile.FieldType.boolean)) ∈ TW := tw_m (tw_in6 (i := 186) rfl) rfl
theorem w_1463 : (Jvm.Cond.methodLink "TwocoinModel" (177 : Nat) ({ cls := "TwocoinModel", name := "toPay", desc := "(LTwocoinModel$Debt;I)J" } : Jvm.MethodName)) ∈ TW := tw_m (tw_in6 (i := 187) rfl) rfl
theorem w_1464 : (Jvm.Cond.privateMethod ({ cls := "TwocoinModel", name := "toPay", desc := "(LTwocoinModel$Debt;I)J" } : Jvm.MethodName)) ∈ lw_tbl := tw_in6 (i := 188) rfl
theorem w_1465 : (Jvm.Cond.instanceMethod ({ cls := "TwocoinModel", name := "toPay", desc := "(LTwocoinModel$Debt;I)J" } : Jvm.MethodName)) ∈ TW := tw_m (tw_in6 (i := 189) rfl) rfl
theorem w_1466 : (Jvm.Cond.code ({ cls := "TwocoinModel", name := "toPay", desc := "(LTwocoinModel$Debt;I)J" } : Jvm.MethodName) prog_9_method_26_code (3 : Nat) (Option.some Jvm.ClassFile.FieldType.long)) ∈ TW := tw_m (tw_in6 (i := 190) rfl) rfl
theorem w_1467 : (Jvm.Cond.methodLink "TwocoinModel" (173 : Nat) ({ cls := "TwocoinModel", name := "due", desc := "(LTwocoinModel$Debt;)I" } : Jvm.MethodName)) ∈ TW := tw_m (tw_in6 (i := 191) rfl) rfl
theorem w_1468 : (Jvm.Cond.privateMethod ({ cls := "TwocoinModel", name := "due", desc := "(LTwocoinModel$Debt;)I" } : Jvm.MethodName)) ∈ lw_tbl := tw_in6 (i := 192) rfl
theorem w_1469 : (Jvm.Cond.instanceMethod ({ cls := "TwocoinModel", name := "due", desc := "(LTwocoinModel$Debt;)I" } : Jvm.MethodName)) ∈ TW := tw_m (tw_in6 (i := 193) rfl) rfl
theorem w_1470 : (Jvm.Cond.code ({ cls := "TwocoinModel", name := "due", desc := "(LTwocoinModel$Debt;)I" } : Jvm.MethodName) prog_9_method_25_code (2 : Nat) (Option.some Jvm.ClassFile.FieldType.int)) ∈ TW := tw_m (tw_in6 (i := 194) rfl) rfl
theorem w_1471 : (Jvm.Cond.methodLink "TwocoinModel" (167 : Nat) ({ cls := "java/lang/Math", name := "max", desc := "(II)I" } : Jvm.MethodName)) ∈ TW := tw_m (tw_in6 (i := 195) rfl) rfl
theorem w_1472 : (Jvm.Cond.methodLink "TwocoinLaw" (160 : Nat) ({ cls := "TwocoinModel", name := "till", desc := "(III)I" } : Jvm.MethodName)) ∈ TW := tw_m (tw_in6 (i := 196) rfl) rfl
theorem w_1473 : (Jvm.Cond.instanceMethod ({ cls := "TwocoinModel", name := "till", desc := "(III)I" } : Jvm.MethodName)) ∈ TW := tw_m (tw_in6 (i := 197) rfl) rfl
theorem w_1474 : (Jvm.Cond.selects "TwocoinModel" ({ cls := "TwocoinModel", name := "till", desc := "(III)I" } : Jvm.MethodName) ({ cls := "TwocoinModel", name := "till", desc := "(III)I" } : Jvm.MethodName)) ∈ TW := tw_m (tw_in6 (i := 198) rfl) rfl
theorem w_1475 : (Jvm.Cond.code ({ cls := "TwocoinModel", name := "till", desc := "(III)I" } : Jvm.MethodName) prog_9_method_29_code (5 : Nat) (Option.some Jvm.ClassFile.FieldType.int)) ∈ TW := tw_m (tw_in6 (i := 199) rfl) rfl
theorem w_1476 : (Jvm.Cond.methodLink "TwocoinLaw" (163 : Nat) ({ cls := "TwocoinModel", name := "give", desc := "(II)I" } : Jvm.MethodName)) ∈ TW := tw_m (tw_in6 (i := 200) rfl) rfl
theorem w_1477 : (Jvm.Cond.instanceMethod ({ cls := "TwocoinModel", name := "give", desc := "(II)I" } : Jvm.MethodName)) ∈ TW := tw_m (tw_in6 (i := 201) rfl) rfl
theorem w_1478 : (Jvm.Cond.selects "TwocoinModel" ({ cls := "TwocoinModel", name := "give", desc := "(II)I" } : Jvm.MethodName) ({ cls := "TwocoinModel", name := "give", desc := "(II)I" } : Jvm.MethodName)) ∈ TW := tw_m (tw_in6 (i := 202) rfl) rfl
theorem w_1479 : (Jvm.Cond.code ({ cls := "TwocoinModel", name := "give", desc := "(II)I" } : Jvm.MethodName) prog_9_method_32_code (5 : Nat) (Option.some Jvm.ClassFile.FieldType.int)) ∈ TW := tw_m (tw_in6 (i := 203) rfl) rfl
theorem w_1480 : (Jvm.Cond.methodLink "TwocoinModel" (195 : Nat) ({ cls := "TwocoinModel", name := "best", desc := "([III)[I" } : Jvm.MethodName)) ∈ TW := tw_m (tw_in6 (i := 204) rfl) rfl
theorem w_1481 : (Jvm.Cond.static ({ cls := "TwocoinModel", name := "best", desc := "([III)[I" } : Jvm.MethodName)) ∈ TW := tw_m (tw_in6 (i := 205) rfl) rfl
theorem w_1482 : (Jvm.Cond.code ({ cls := "TwocoinModel", name := "best", desc := "([III)[I" } : Jvm.MethodName) prog_9_method_30_code (6 : Nat) (Option.some (Jvm.ClassFile.FieldType.array Jvm.ClassFile.FieldType.int))) ∈ TW := tw_m (tw_in6 (i := 206) rfl) rfl
theorem w_1483 : (Jvm.Cond.fieldLink "TwocoinModel" (189 : Nat) "TwocoinModel" "POUNDS" "[I") ∈ TW := tw_m (tw_in6 (i := 207) rfl) rfl
theorem w_1484 : (Jvm.Cond.laysStatic "TwocoinModel" "POUNDS" "[I") ∈ lw_tbl := tw_in6 (i := 208) rfl
theorem w_1485 : (Jvm.Cond.methodLink "TwocoinModel" (192 : Nat) ({ cls := "java/lang/Math", name := "min", desc := "(II)I" } : Jvm.MethodName)) ∈ TW := tw_m (tw_in6 (i := 209) rfl) rfl
theorem w_1486 : (Jvm.Cond.methodLink "TwocoinModel" (199 : Nat) ({ cls := "TwocoinModel", name := "all", desc := "([I)I" } : Jvm.MethodName)) ∈ TW := tw_m (tw_in6 (i := 210) rfl) rfl
theorem w_1487 : (Jvm.Cond.static ({ cls := "TwocoinModel", name := "all", desc := "([I)I" } : Jvm.MethodName)) ∈ TW := tw_m (tw_in6 (i := 211) rfl) rfl
theorem w_1488 : (Jvm.Cond.code ({ cls := "TwocoinModel", name := "all", desc := "([I)I" } : Jvm.MethodName) prog_9_method_31_code (6 : Nat) (Option.some Jvm.ClassFile.FieldType.int)) ∈ TW := tw_m (tw_in6 (i := 212) rfl) rfl
theorem w_1489 : (Jvm.Cond.methodLink "TwocoinLaw" (166 : Nat) ({ cls := "TwocoinModel", name := "coins", desc := "(II)I" } : Jvm.MethodName)) ∈ TW := tw_m (tw_in6 (i := 213) rfl) rfl
theorem w_1490 : (Jvm.Cond.instanceMethod ({ cls := "TwocoinModel", name := "coins", desc := "(II)I" } : Jvm.MethodName)) ∈ TW := tw_m (tw_in6 (i := 214) rfl) rfl
theorem w_1491 : (Jvm.Cond.selects "TwocoinModel" ({ cls := "TwocoinModel", name := "coins", desc := "(II)I" } : Jvm.MethodName) ({ cls := "TwocoinModel", name := "coins", desc := "(II)I" } : Jvm.MethodName)) ∈ TW := tw_m (tw_in6 (i := 215) rfl) rfl
theorem w_1492 : (Jvm.Cond.code ({ cls := "TwocoinModel", name := "coins", desc := "(II)I" } : Jvm.MethodName) prog_9_method_34_code (3 : Nat) (Option.some Jvm.ClassFile.FieldType.int)) ∈ TW := tw_m (tw_in6 (i := 216) rfl) rfl
theorem w_1493 : (Jvm.Cond.methodLink "TwocoinModel" (203 : Nat) ({ cls := "TwocoinModel", name := "coinsNow", desc := "(II)I" } : Jvm.MethodName)) ∈ TW := tw_m (tw_in6 (i := 217) rfl) rfl
theorem w_1494 : (Jvm.Cond.privateMethod ({ cls := "TwocoinModel", name := "coinsNow", desc := "(II)I" } : Jvm.MethodName)) ∈ lw_tbl := tw_in6 (i := 218) rfl
theorem w_1495 : (Jvm.Cond.instanceMethod ({ cls := "TwocoinModel", name := "coinsNow", desc := "(II)I" } : Jvm.MethodName)) ∈ TW := tw_m (tw_in6 (i := 219) rfl) rfl
theorem w_1496 : (Jvm.Cond.code ({ cls := "TwocoinModel", name := "coinsNow", desc := "(II)I" } : Jvm.MethodName) prog_9_method_33_code (9 : Nat) (Option.some Jvm.ClassFile.FieldType.int)) ∈ TW := tw_m (tw_in6 (i := 220) rfl) rfl
theorem w_1497 : (Jvm.Cond.methodLink "TwocoinLaw" (169 : Nat) ({ cls := "TwocoinModel", name := "ofCountry", desc := "(II)I" } : Jvm.MethodName)) ∈ TW := tw_m (tw_in6 (i := 221) rfl) rfl
theorem w_1498 : (Jvm.Cond.instanceMethod ({ cls := "TwocoinModel", name := "ofCountry", desc := "(II)I" } : Jvm.MethodName)) ∈ TW := tw_m (tw_in6 (i := 222) rfl) rfl
theorem w_1499 : (Jvm.Cond.selects "TwocoinModel" ({ cls := "TwocoinModel", name := "ofCountry", desc := "(II)I" } : Jvm.MethodName) ({ cls := "TwocoinModel", name := "ofCountry", desc := "(II)I" } : Jvm.MethodName)) ∈ TW := tw_m (tw_in6 (i := 223) rfl) rfl
theorem w_1500 : (Jvm.Cond.code ({ cls := "TwocoinModel", name := "ofCountry", desc := "(II)I" } : Jvm.MethodName) prog_9_method_36_code (3 : Nat) (Option.some Jvm.ClassFile.FieldType.int)) ∈ TW := tw_m (tw_in6 (i := 224) rfl) rfl
theorem w_1501 : (Jvm.Cond.methodLink "TwocoinModel" (210 : Nat) ({ cls := "TwocoinModel", name := "ofCountryNow", desc := "(II)I" } : Jvm.MethodName)) ∈ TW := tw_m (tw_in6 (i := 225) rfl) rfl
theorem w_1502 : (Jvm.Cond.privateMethod ({ cls := "TwocoinModel", name := "ofCountryNow", desc := "(II)I" } : Jvm.MethodName)) ∈ lw_tbl := tw_in6 (i := 226) rfl
theorem w_1503 : (Jvm.Cond.instanceMethod ({ cls := "TwocoinModel", name := "ofCountryNow", desc := "(II)I" } : Jvm.MethodName)) ∈ TW := tw_m (tw_in6 (i := 227) rfl) rfl
theorem w_1504 : (Jvm.Cond.code ({ cls := "TwocoinModel", name := "ofCountryNow", desc := "(II)I" } : Jvm.MethodName) prog_9_method_35_code (9 : Nat) (Option.some Jvm.ClassFile.FieldType.int)) ∈ TW := tw_m (tw_in6 (i := 228) rfl) rfl
theorem w_1505 : (Jvm.Cond.methodLink "TwocoinModel" (206 : Nat) ({ cls := "TwocoinModel", name := "worth", desc := "([J)J" } : Jvm.MethodName)) ∈ TW := tw_m (tw_in6 (i := 229) rfl) rfl
theorem w_1506 : (Jvm.Cond.privateMethod ({ cls := "TwocoinModel", name := "worth", desc := "([J)J" } : Jvm.MethodName)) ∈ lw_tbl := tw_in6 (i := 230) rfl
theorem w_1507 : (Jvm.Cond.instanceMethod ({ cls := "TwocoinModel", name := "worth", desc := "([J)J" } : Jvm.MethodName)) ∈ TW := tw_m (tw_in6 (i := 231) rfl) rfl
theorem w_1508 : (Jvm.Cond.code ({ cls := "TwocoinModel", name := "worth", desc := "([J)J" } : Jvm.MethodName) prog_9_method_11_code (2 : Nat) (Option.some Jvm.ClassFile.FieldType.long)) ∈ TW := tw_m (tw_in6 (i := 232) rfl) rfl
theorem w_1509 : (Jvm.Cond.methodLink "TwocoinLaw" (172 : Nat) ({ cls := "TwocoinModel", name := "ofHouse", desc := "(II)I" } : Jvm.MethodName)) ∈ TW := tw_m (tw_in6 (i := 233) rfl) rfl
theorem w_1510 : (Jvm.Cond.instanceMethod ({ cls := "TwocoinModel", name := "ofHouse", desc := "(II)I" } : Jvm.MethodName)) ∈ TW := tw_m (tw_in6 (i := 234) rfl) rfl
theorem w_1511 : (Jvm.Cond.selects "TwocoinModel" ({ cls := "TwocoinModel", name := "ofHouse", desc := "(II)I" } : Jvm.MethodName) ({ cls := "TwocoinModel", name := "ofHouse", desc := "(II)I" } : Jvm.MethodName)) ∈ TW := tw_m (tw_in6 (i := 235) rfl) rfl
theorem w_1512 : (Jvm.Cond.code ({ cls := "TwocoinModel", name := "ofHouse", desc := "(II)I" } : Jvm.MethodName) prog_9_method_38_code (3 : Nat) (Option.some Jvm.ClassFile.FieldType.int)) ∈ TW := tw_m (tw_in6 (i := 236) rfl) rfl
theorem w_1513 : (Jvm.Cond.methodLink "TwocoinModel" (213 : Nat) ({ cls := "TwocoinModel", name := "ofHouseNow", desc := "(II)I" } : Jvm.MethodName)) ∈ TW := tw_m (tw_in6 (i := 237) rfl) rfl
theorem w_1514 : (Jvm.Cond.privateMethod ({ cls := "TwocoinModel", name := "ofHouseNow", desc := "(II)I" } : Jvm.MethodName)) ∈ lw_tbl := tw_in6 (i := 238) rfl
theorem w_1515 : (Jvm.Cond.instanceMethod ({ cls := "TwocoinModel", name := "ofHouseNow", desc := "(II)I" } : Jvm.MethodName)) ∈ TW := tw_m (tw_in6 (i := 239) rfl) rfl
theorem w_1516 : (Jvm.Cond.code ({ cls := "TwocoinModel", name := "ofHouseNow", desc := "(II)I" } : Jvm.MethodName) prog_9_method_37_code (8 : Nat) (Option.some Jvm.ClassFile.FieldType.int)) ∈ TW := tw_m (tw_in7 (i := 0) rfl) rfl
theorem w_1517 : (Jvm.Cond.methodLink "TwocoinLaw" (175 : Nat) ({ cls := "TwocoinModel", name := "ofDebt", desc := "(II)I" } : Jvm.MethodName)) ∈ TW := tw_m (tw_in7 (i := 1) rfl) rfl
theorem w_1518 : (Jvm.Cond.instanceMethod ({ cls := "TwocoinModel", name := "ofDebt", desc := "(II)I" } : Jvm.MethodName)) ∈ TW := tw_m (tw_in7 (i := 2) rfl) rfl
theorem w_1519 : (Jvm.Cond.selects "TwocoinModel" ({ cls := "TwocoinModel", name := "ofDebt", desc := "(II)I" } : Jvm.MethodName) ({ cls := "TwocoinModel", name := "ofDebt", desc := "(II)I" } : Jvm.MethodName)) ∈ TW := tw_m (tw_in7 (i := 3) rfl) rfl
theorem w_1520 : (Jvm.Cond.code ({ cls := "TwocoinModel", name := "ofDebt", desc := "(II)I" } : Jvm.MethodName) prog_9_method_41_code (3 : Nat) (Option.some Jvm.ClassFile.FieldType.int)) ∈ TW := tw_m (tw_in7 (i := 4) rfl) rfl
theorem w_1521 : (Jvm.Cond.methodLink "TwocoinModel" (219 : Nat) ({ cls := "TwocoinModel", name := "ofDebtNow", desc := "(LTwocoinModel$Debt;I)I" } : Jvm.MethodName)) ∈ TW := tw_m (tw_in7 (i := 5) rfl) rfl
theorem w_1522 : (Jvm.Cond.privateMethod ({ cls := "TwocoinModel", name := "ofDebtNow", desc := "(LTwocoinModel$Debt;I)I" } : Jvm.MethodName)) ∈ lw_tbl := tw_in7 (i := 6) rfl
theorem w_1523 : (Jvm.Cond.instanceMethod ({ cls := "TwocoinModel", name := "ofDebtNow", desc := "(LTwocoinModel$Debt;I)I" } : Jvm.MethodName)) ∈ TW := tw_m (tw_in7 (i := 7) rfl) rfl
theorem w_1524 : (Jvm.Cond.code ({ cls := "TwocoinModel", name := "ofDebtNow", desc := "(LTwocoinModel$Debt;I)I" } : Jvm.MethodName) prog_9_method_40_code (4 : Nat) (Option.some Jvm.ClassFile.FieldType.int)) ∈ TW := tw_m (tw_in7 (i := 8) rfl) rfl
theorem w_1525 : (Jvm.Cond.methodLink "TwocoinModel" (216 : Nat) ({ cls := "TwocoinModel", name := "cheaper", desc := "(LTwocoinModel$Debt;)I" } : Jvm.MethodName)) ∈ TW := tw_m (tw_in7 (i := 9) rfl) rfl
theorem w_1526 : (Jvm.Cond.privateMethod ({ cls := "TwocoinModel", name := "cheaper", desc := "(LTwocoinModel$Debt;)I" } : Jvm.MethodName)) ∈ lw_tbl := tw_in7 (i := 10) rfl
theorem w_1527 : (Jvm.Cond.instanceMethod ({ cls := "TwocoinModel", name := "cheaper", desc := "(LTwocoinModel$Debt;)I" } : Jvm.MethodName)) ∈ TW := tw_m (tw_in7 (i := 11) rfl) rfl
theorem w_1528 : (Jvm.Cond.code ({ cls := "TwocoinModel", name := "cheaper", desc := "(LTwocoinModel$Debt;)I" } : Jvm.MethodName) prog_9_method_39_code (2 : Nat) (Option.some Jvm.ClassFile.FieldType.int)) ∈ TW := tw_m (tw_in7 (i := 12) rfl) rfl
theorem w_1529 : (Jvm.Cond.methodLink "TwocoinLaw" (178 : Nat) ({ cls := "TwocoinModel", name := "world", desc := "(II)I" } : Jvm.MethodName)) ∈ TW := tw_m (tw_in7 (i := 13) rfl) rfl
theorem w_1530 : (Jvm.Cond.instanceMethod ({ cls := "TwocoinModel", name := "world", desc := "(II)I" } : Jvm.MethodName)) ∈ TW := tw_m (tw_in7 (i := 14) rfl) rfl
theorem w_1531 : (Jvm.Cond.selects "TwocoinModel" ({ cls := "TwocoinModel", name := "world", desc := "(II)I" } : Jvm.MethodName) ({ cls := "TwocoinModel", name := "world", desc := "(II)I" } : Jvm.MethodName)) ∈ TW := tw_m (tw_in7 (i := 15) rfl) rfl
theorem w_1532 : (Jvm.Cond.code ({ cls := "TwocoinModel", name := "world", desc := "(II)I" } : Jvm.MethodName) prog_9_method_43_code (3 : Nat) (Option.some Jvm.ClassFile.FieldType.int)) ∈ TW := tw_m (tw_in7 (i := 16) rfl) rfl
theorem w_1533 : (Jvm.Cond.methodLink "TwocoinModel" (223 : Nat) ({ cls := "TwocoinModel", name := "worldNow", desc := "(II)I" } : Jvm.MethodName)) ∈ TW := tw_m (tw_in7 (i := 17) rfl) rfl
theorem w_1534 : (Jvm.Cond.privateMethod ({ cls := "TwocoinModel", name := "worldNow", desc := "(II)I" } : Jvm.MethodName)) ∈ lw_tbl := tw_in7 (i := 18) rfl
theorem w_1535 : (Jvm.Cond.instanceMethod ({ cls := "TwocoinModel", name := "worldNow", desc := "(II)I" } : Jvm.MethodName)) ∈ TW := tw_m (tw_in7 (i := 19) rfl) rfl
theorem w_1536 : (Jvm.Cond.code ({ cls := "TwocoinModel", name := "worldNow", desc := "(II)I" } : Jvm.MethodName) prog_9_method_42_code (9 : Nat) (Option.some Jvm.ClassFile.FieldType.int)) ∈ TW := tw_m (tw_in7 (i := 20) rfl) rfl
theorem w_1537 : (Jvm.Cond.methodLink "TwocoinLaw" (181 : Nat) ({ cls := "TwocoinModel", name := "sign", desc := "(I)Ljava/lang/String;" } : Jvm.MethodName)) ∈ TW := tw_m (tw_in7 (i := 21) rfl) rfl
theorem w_1538 : (Jvm.Cond.instanceMethod ({ cls := "TwocoinModel", name := "sign", desc := "(I)Ljava/lang/String;" } : Jvm.MethodName)) ∈ TW := tw_m (tw_in7 (i := 22) rfl) rfl
theorem w_1539 : (Jvm.Cond.selects "TwocoinModel" ({ cls := "TwocoinModel", name := "sign", desc := "(I)Ljava/lang/String;" } : Jvm.MethodName) ({ cls := "TwocoinModel", name := "sign", desc := "(I)Ljava/lang/String;" } : Jvm.MethodName)) ∈ TW := tw_m (tw_in7 (i := 23) rfl) rfl
theorem w_1540 : (Jvm.Cond.code ({ cls := "TwocoinModel", name := "sign", desc := "(I)Ljava/lang/String;" } : Jvm.MethodName) prog_9_method_44_code (6 : Nat) (Option.some (Jvm.ClassFile.FieldType.object "java/lang/String"))) ∈ TW := tw_m (tw_in7 (i := 24) rfl) rfl
theorem w_1541 : (Jvm.Cond.stringRef "TwocoinModel" (226 : Nat) "") ∈ lw_tbl := tw_in7 (i := 25) rfl
theorem w_1542 : (Jvm.Cond.classLink "TwocoinModel" (228 : Nat) "java/lang/StringBuilder") ∈ TW := tw_m (tw_in7 (i := 26) rfl) rfl
theorem w_1543 : (Jvm.Cond.methodLink "TwocoinModel" (230 : Nat) ({ cls := "java/lang/StringBuilder", name := "<init>", desc := "()V" } : Jvm.MethodName)) ∈ TW := tw_m (tw_in7 (i := 27) rfl) rfl
theorem w_1544 : (Jvm.Cond.methodLink "TwocoinModel" (231 : Nat) ({ cls := "java/lang/StringBuilder", name := "append", desc := "(I)Ljava/lang/StringBuilder;" } : Jvm.MethodName)) ∈ TW := tw_m (tw_in7 (i := 28) rfl) rfl
theorem w_1545 : (Jvm.Cond.methodLink "TwocoinModel" (235 : Nat) ({ cls := "java/lang/StringBuilder", name := "append", desc := "(C)Ljava/lang/StringBuilder;" } : Jvm.MethodName)) ∈ TW := tw_m (tw_in7 (i := 29) rfl) rfl
theorem w_1546 : (Jvm.Cond.stringRef "TwocoinModel" (238 : Nat) "*") ∈ lw_tbl := tw_in7 (i := 30) rfl
theorem w_1547 : (Jvm.Cond.methodLink "TwocoinModel" (240 : Nat) ({ cls := "java/lang/StringBuilder", name := "append", desc := "(Ljava/lang/String;)Ljava/lang/StringBuilder;" } : Jvm.MethodName)) ∈ TW := tw_m (tw_in7 (i := 31) rfl) rfl
theorem w_1548 : (Jvm.Cond.methodLink "TwocoinModel" (243 : Nat) ({ cls := "java/lang/StringBuilder", name := "toString", desc := "()Ljava/lang/String;" } : Jvm.MethodName)) ∈ TW := tw_m (tw_in7 (i := 32) rfl) rfl
theorem w_1549 : (Jvm.Cond.methodLink "TwocoinLaw" (184 : Nat) ({ cls := "TwocoinModel", name := "trip", desc := "(IIII)I" } : Jvm.MethodName)) ∈ TW := tw_m (tw_in7 (i := 33) rfl) rfl
theorem w_1550 : (Jvm.Cond.instanceMethod ({ cls := "TwocoinModel", name := "trip", desc := "(IIII)I" } : Jvm.MethodName)) ∈ TW := tw_m (tw_in7 (i := 34) rfl) rfl
theorem w_1551 : (Jvm.Cond.selects "TwocoinModel" ({ cls := "TwocoinModel", name := "trip", desc := "(IIII)I" } : Jvm.MethodName) ({ cls := "TwocoinModel", name := "trip", desc := "(IIII)I" } : Jvm.MethodName)) ∈ TW := tw_m (tw_in7 (i := 35) rfl) rfl
theorem w_1552 : (Jvm.Cond.code ({ cls := "TwocoinModel", name := "trip", desc := "(IIII)I" } : Jvm.MethodName) prog_9_method_46_code (5 : Nat) (Option.some Jvm.ClassFile.FieldType.int)) ∈ TW := tw_m (tw_in7 (i := 36) rfl) rfl
theorem w_1553 : (Jvm.Cond.methodLink "TwocoinModel" (247 : Nat) ({ cls := "TwocoinModel", name := "tripNow", desc := "(IIIJ)J" } : Jvm.MethodName)) ∈ TW := tw_m (tw_in7 (i := 37) rfl) rfl
theorem w_1554 : (Jvm.Cond.privateMethod ({ cls := "TwocoinModel", name := "tripNow", desc := "(IIIJ)J" } : Jvm.MethodName)) ∈ lw_tbl := tw_in7 (i := 38) rfl
theorem w_1555 : (Jvm.Cond.instanceMethod ({ cls := "TwocoinModel", name := "tripNow", desc := "(IIIJ)J" } : Jvm.MethodName)) ∈ TW := tw_m (tw_in7 (i := 39) rfl) rfl
theorem w_1556 : (Jvm.Cond.code ({ cls := "TwocoinModel", name := "tripNow", desc := "(IIIJ)J" } : Jvm.MethodName) prog_9_method_45_code (10 : Nat) (Option.some Jvm.ClassFile.FieldType.long)) ∈ TW := tw_m (tw_in7 (i := 40) rfl) rfl
theorem w_1557 : (Jvm.Cond.methodLink "TwocoinLaw" (187 : Nat) ({ cls := "TwocoinModel", name := "bestTrip", desc := "(III)I" } : Jvm.MethodName)) ∈ TW := tw_m (tw_in7 (i := 41) rfl) rfl
theorem w_1558 : (Jvm.Cond.instanceMethod ({ cls := "TwocoinModel", name := "bestTrip", desc := "(III)I" } : Jvm.MethodName)) ∈ TW := tw_m (tw_in7 (i := 42) rfl) rfl
theorem w_1559 : (Jvm.Cond.selects "TwocoinModel" ({ cls := "TwocoinModel", name := "bestTrip", desc := "(III)I" } : Jvm.MethodName) ({ cls := "TwocoinModel", name := "bestTrip", desc := "(III)I" } : Jvm.MethodName)) ∈ TW := tw_m (tw_in7 (i := 43) rfl) rfl
theorem w_1560 : (Jvm.Cond.code ({ cls := "TwocoinModel", name := "bestTrip", desc := "(III)I" } : Jvm.MethodName) prog_9_method_48_code (4 : Nat) (Option.some Jvm.ClassFile.FieldType.int)) ∈ TW := tw_m (tw_in7 (i := 44) rfl) rfl
theorem w_1561 : (Jvm.Cond.methodLink "TwocoinModel" (251 : Nat) ({ cls := "TwocoinModel", name := "bestTripNow", desc := "(III)I" } : Jvm.MethodName)) ∈ TW := tw_m (tw_in7 (i := 45) rfl) rfl
theorem w_1562 : (Jvm.Cond.privateMethod ({ cls := "TwocoinModel", name := "bestTripNow", desc := "(III)I" } : Jvm.MethodName)) ∈ lw_tbl := tw_in7 (i := 46) rfl
theorem w_1563 : (Jvm.Cond.instanceMethod ({ cls := "TwocoinModel", name := "bestTripNow", desc := "(III)I" } : Jvm.MethodName)) ∈ TW := tw_m (tw_in7 (i := 47) rfl) rfl
theorem w_1564 : (Jvm.Cond.code ({ cls := "TwocoinModel", name := "bestTripNow", desc := "(III)I" } : Jvm.MethodName) prog_9_method_47_code (6 : Nat) (Option.some Jvm.ClassFile.FieldType.int)) ∈ TW := tw_m (tw_in7 (i := 48) rfl) rfl
theorem w_1565 : (Jvm.Cond.methodLink "TwocoinLaw" (190 : Nat) ({ cls := "TwocoinModel", name := "rest", desc := "(I)Z" } : Jvm.MethodName)) ∈ TW := tw_m (tw_in7 (i := 49) rfl) rfl
theorem w_1566 : (Jvm.Cond.instanceMethod ({ cls := "TwocoinModel", name := "rest", desc := "(I)Z" } : Jvm.MethodName)) ∈ TW := tw_m (tw_in7 (i := 50) rfl) rfl
theorem w_1567 : (Jvm.Cond.selects "TwocoinModel" ({ cls := "TwocoinModel", name := "rest", desc := "(I)Z" } : Jvm.MethodName) ({ cls := "TwocoinModel", name := "rest", desc := "(I)Z" } : Jvm.MethodName)) ∈ TW := tw_m (tw_in7 (i := 51) rfl) rfl
theorem w_1568 : (Jvm.Cond.code ({ cls := "TwocoinModel", name := "rest", desc := "(I)Z" } : Jvm.MethodName) prog_9_method_50_code (2 : Nat) (Option.some Jvm.ClassFile.FieldType.boolean)) ∈ TW := tw_m (tw_in7 (i := 52) rfl) rfl
theorem w_1569 : (Jvm.Cond.methodLink "TwocoinModel" (255 : Nat) ({ cls := "TwocoinModel", name := "restNow", desc := "(I)Z" } : Jvm.MethodName)) ∈ TW := tw_m (tw_in7 (i := 53) rfl) rfl
theorem w_1570 : (Jvm.Cond.privateMethod ({ cls := "TwocoinModel", name := "restNow", desc := "(I)Z" } : Jvm.MethodName)) ∈ lw_tbl := tw_in7 (i := 54) rfl
theorem w_1571 : (Jvm.Cond.instanceMethod ({ cls := "TwocoinModel", name := "restNow", desc := "(I)Z" } : Jvm.MethodName)) ∈ TW := tw_m (tw_in7 (i := 55) rfl) rfl
theorem w_1572 : (Jvm.Cond.code ({ cls := "TwocoinModel", name := "restNow", desc := "(I)Z" } : Jvm.MethodName) prog_9_method_49_code (4 : Nat) (Option.some Jvm.ClassFile.FieldType.boolean)) ∈ TW := tw_m (tw_in7 (i := 56) rfl) rfl
theorem w_1573 : (Jvm.Cond.methodLink "TwocoinLaw" (193 : Nat) ({ cls := "TwocoinModel", name := "last", desc := "(III)I" } : Jvm.MethodName)) ∈ TW := tw_m (tw_in7 (i := 57) rfl) rfl
theorem w_1574 : (Jvm.Cond.instanceMethod ({ cls := "TwocoinModel", name := "last", desc := "(III)I" } : Jvm.MethodName)) ∈ TW := tw_m (tw_in7 (i := 58) rfl) rfl
theorem w_1575 : (Jvm.Cond.selects "TwocoinModel" ({ cls := "TwocoinModel", name := "last", desc := "(III)I" } : Jvm.MethodName) ({ cls := "TwocoinModel", name := "last", desc := "(III)I" } : Jvm.MethodName)) ∈ TW := tw_m (tw_in7 (i := 59) rfl) rfl
theorem w_1576 : (Jvm.Cond.code ({ cls := "TwocoinModel", name := "last", desc := "(III)I" } : Jvm.MethodName) prog_9_method_52_code (4 : Nat) (Option.some Jvm.ClassFile.FieldType.int)) ∈ TW := tw_m (tw_in7 (i := 60) rfl) rfl
theorem w_1577 : (Jvm.Cond.methodLink "TwocoinModel" (258 : Nat) ({ cls := "TwocoinModel", name := "lastNow", desc := "(III)I" } : Jvm.MethodName)) ∈ TW := tw_m (tw_in7 (i := 61) rfl) rfl
theorem w_1578 : (Jvm.Cond.privateMethod ({ cls := "TwocoinModel", name := "lastNow", desc := "(III)I" } : Jvm.MethodName)) ∈ lw_tbl := tw_in7 (i := 62) rfl
theorem w_1579 : (Jvm.Cond.instanceMethod ({ cls := "TwocoinModel", name := "lastNow", desc := "(III)I" } : Jvm.MethodName)) ∈ TW := tw_m (tw_in7 (i := 63) rfl) rfl
theorem w_1580 : (Jvm.Cond.code ({ cls := "TwocoinModel", name := "lastNow", desc := "(III)I" } : Jvm.MethodName) prog_9_method_51_code (7 : Nat) (Option.some Jvm.ClassFile.FieldType.int)) ∈ TW := tw_m (tw_in7 (i := 64) rfl) rfl
theorem w_1581 : (Jvm.Cond.methodLink "TwocoinLaw" (198 : Nat) ({ cls := "TwocoinModel", name := "isSound", desc := "()Z" } : Jvm.MethodName)) ∈ TW := tw_m (tw_in7 (i := 65) rfl) rfl
theorem w_1582 : (Jvm.Cond.instanceMethod ({ cls := "TwocoinModel", name := "isSound", desc := "()Z" } : Jvm.MethodName)) ∈ TW := tw_m (tw_in7 (i := 66) rfl) rfl
theorem w_1583 : (Jvm.Cond.selects "TwocoinModel" ({ cls := "TwocoinModel", name := "isSound", desc := "()Z" } : Jvm.MethodName) ({ cls := "TwocoinModel", name := "isSound", desc := "()Z" } : Jvm.MethodName)) ∈ TW := tw_m (tw_in7 (i := 67) rfl) rfl
theorem w_1584 : (Jvm.Cond.code ({ cls := "TwocoinModel", name := "isSound", desc := "()Z" } : Jvm.MethodName) prog_9_method_54_code (1 : Nat) (Option.some Jvm.ClassFile.FieldType.boolean)) ∈ TW := tw_m (tw_in7 (i := 68) rfl) rfl
theorem w_1585 : (Jvm.Cond.methodLink "TwocoinModel" (261 : Nat) ({ cls := "TwocoinModel", name := "isSoundNow", desc := "()Z" } : Jvm.MethodName)) ∈ TW := tw_m (tw_in7 (i := 69) rfl) rfl
theorem w_1586 : (Jvm.Cond.privateMethod ({ cls := "TwocoinModel", name := "isSoundNow", desc := "()Z" } : Jvm.MethodName)) ∈ lw_tbl := tw_in7 (i := 70) rfl
theorem w_1587 : (Jvm.Cond.instanceMethod ({ cls := "TwocoinModel", name := "isSoundNow", desc := "()Z" } : Jvm.MethodName)) ∈ TW := tw_m (tw_in7 (i := 71) rfl) rfl
theorem w_1588 : (Jvm.Cond.code ({ cls := "TwocoinModel", name := "isSoundNow", desc := "()Z" } : Jvm.MethodName) prog_9_method_53_code (7 : Nat) (Option.some Jvm.ClassFile.FieldType.boolean)) ∈ TW := tw_m (tw_in7 (i := 72) rfl) rfl
theorem w_1589 : (Jvm.Cond.methodLink "TwocoinLaw" (203 : Nat) ({ cls := "TwocoinModel", name := "digest", desc := "()J" } : Jvm.MethodName)) ∈ TW := tw_m (tw_in7 (i := 73) rfl) rfl
theorem w_1590 : (Jvm.Cond.instanceMethod ({ cls := "TwocoinModel", name := "digest", desc := "()J" } : Jvm.MethodName)) ∈ TW := tw_m (tw_in7 (i := 74) rfl) rfl
theorem w_1591 : (Jvm.Cond.selects "TwocoinModel" ({ cls := "TwocoinModel", name := "digest", desc := "()J" } : Jvm.MethodName) ({ cls := "TwocoinModel", name := "digest", desc := "()J" } : Jvm.MethodName)) ∈ TW := tw_m (tw_in7 (i := 75) rfl) rfl
theorem w_1592 : (Jvm.Cond.code ({ cls := "TwocoinModel", name := "digest", desc := "()J" } : Jvm.MethodName) prog_9_method_55_code (6 : Nat) (Option.some Jvm.ClassFile.FieldType.long)) ∈ TW := tw_m (tw_in7 (i := 76) rfl) rfl
theorem w_1593 : (Jvm.Cond.constantLong "TwocoinModel" (264 : Nat) (5573 : Int64)) ∈ TW := tw_m (tw_in7 (i := 77) rfl) rfl
theorem w_1594 : (Jvm.Cond.constantLong "TwocoinModel" (266 : Nat) (31 : Int64)) ∈ TW := tw_m (tw_in7 (i := 78) rfl) rfl
theorem w_1595 : (Jvm.Cond.sameMethod "java/lang/Throwable" "java/lang/Throwable" "fillInStackTrace" "(I)Ljava/lang/Throwable;") ∈ TW := tw_m (tw_in7 (i := 79) rfl) rfl
theorem w_1596 : (Jvm.Cond.sameMethod "java/lang/AbstractStringBuilder" "java/lang/AbstractStringBuilder" "append" "(I)Ljava/lang/AbstractStringBuilder;") ∈ TW := tw_m (tw_in7 (i := 80) rfl) rfl
theorem w_1597 : (Jvm.Cond.sameMethod "java/lang/AbstractStringBuilder" "java/lang/AbstractStringBuilder" "ensureCapacityInternal" "(I)V") ∈ TW := tw_m (tw_in7 (i := 81) rfl) rfl
theorem w_1598 : (Jvm.Cond.sameMethod "java/lang/AbstractStringBuilder" "java/lang/AbstractStringBuilder" "newCapacity" "(I)I") ∈ TW := tw_m (tw_in7 (i := 82) rfl) rfl
theorem w_1599 : (Jvm.Cond.sameMethod "java/lang/AbstractStringBuilder" "java/lang/AbstractStringBuilder" "append" "(C)Ljava/lang/AbstractStringBuilder;") ∈ TW := tw_m (tw_in7 (i := 83) rfl) rfl
theorem w_1600 : (Jvm.Cond.sameMethod "java/lang/AbstractStringBuilder" "java/lang/AbstractStringBuilder" "inflate" "()V") ∈ TW := tw_m (tw_in7 (i := 84) rfl) rfl
theorem w_1601 : (Jvm.Cond.sameMethod "java/lang/AbstractStringBuilder" "java/lang/AbstractStringBuilder" "append" "(Ljava/lang/String;)Ljava/lang/AbstractStringBuilder;") ∈ TW := tw_m (tw_in7 (i := 85) rfl) rfl
theorem w_1602 : (Jvm.Cond.sameMethod "java/lang/AbstractStringBuilder" "java/lang/AbstractStringBuilder" "appendNull" "()Ljava/lang/AbstractStringBuilder;") ∈ TW := tw_m (tw_in7 (i := 86) rfl) rfl
theorem w_1603 : (Jvm.Cond.sameMethod "java/lang/AbstractStringBuilder" "java/lang/AbstractStringBuilder" "putStringAt" "(ILjava/lang/String;)V") ∈ TW := tw_m (tw_in7 (i := 87) rfl) rfl
theorem w_1604 : (Jvm.Cond.sameMethod "java/lang/AbstractStringBuilder" "java/lang/AbstractStringBuilder" "inflateIfNeededFor" "(Ljava/lang/String;)V") ∈ TW := tw_m (tw_in7 (i := 88) rfl) rfl
theorem w_1605 : (Jvm.Cond.castable "Twocoin$Country" "java/lang/Object") ∈ tw_NG := tw_n (tw_in7 (i := 89) rfl) rfl
theorem w_1606 : (Jvm.Cond.castable "Twocoin$House" "java/lang/Object") ∈ tw_NG := tw_n (tw_in7 (i := 90) rfl) rfl
theorem w_1607 : (Jvm.Cond.castable "Twocoin$Debt" "java/lang/Object") ∈ tw_NG := tw_n (tw_in7 (i := 91) rfl) rfl
theorem w_1608 : (Jvm.Cond.castable "Twocoin" "java/lang/Object") ∈ tw_NG := tw_n (tw_in7 (i := 92) rfl) rfl
theorem w_1609 : (Jvm.Cond.castable "Twocoin$Metals" "java/lang/Object") ∈ tw_NG := tw_n (tw_in7 (i := 93) rfl) rfl
theorem w_1610 : (Jvm.Cond.castable "TwocoinModel" "java/lang/Object") ∈ tw_NG := tw_n (tw_in7 (i := 94) rfl) rfl
theorem w_1611 : (Jvm.Cond.castable "java/util/ArrayList" "java/lang/Object") ∈ tw_NG := tw_n (tw_in7 (i := 95) rfl) rfl
theorem w_1612 : (Jvm.Cond.castable "TwocoinLaw$Out" "java/lang/Object") ∈ tw_NG := tw_n (tw_in7 (i := 96) rfl) rfl
theorem w_1613 : (Jvm.Cond.castable "java/lang/IllegalArgumentException" "java/lang/Object") ∈ tw_NG := tw_n (tw_in7 (i := 97) rfl) rfl
theorem w_1614 : (Jvm.Cond.castable "java/lang/IllegalStateException" "java/lang/Object") ∈ tw_NG := tw_n (tw_in7 (i := 98) rfl) rfl
theorem w_1615 : (Jvm.Cond.castable "Twocoin$Till" "java/lang/Object") ∈ tw_NG := tw_n (tw_in7 (i := 99) rfl) rfl
theorem w_1616 : (Jvm.Cond.castable "TwocoinModel$Country" "java/lang/Object") ∈ tw_NG := tw_n (tw_in7 (i := 100) rfl) rfl
theorem w_1617 : (Jvm.Cond.castable "java/lang/IndexOutOfBoundsException" "java/lang/Object") ∈ tw_NG := tw_n (tw_in7 (i := 101) rfl) rfl
theorem w_1618 : (Jvm.Cond.castable "TwocoinModel$House" "java/lang/Object") ∈ tw_NG := tw_n (tw_in7 (i := 102) rfl) rfl
theorem w_1619 : (Jvm.Cond.castable "java/util/ArrayList$Itr" "java/lang/Object") ∈ tw_NG := tw_n (tw_in7 (i := 103) rfl) rfl
theorem w_1620 : (Jvm.Cond.castable "TwocoinModel$Debt" "java/lang/Object") ∈ tw_NG := tw_n (tw_in7 (i := 104) rfl) rfl
theorem w_1621 : (Jvm.Cond.castable "java/lang/StringBuilder" "java/lang/Object") ∈ tw_NG := tw_n (tw_in7 (i := 105) rfl) rfl
theorem w_1622 : (Jvm.Cond.castable "java/lang/String" "java/lang/Object") ∈ tw_NG := tw_n (tw_in7 (i := 106) rfl) rfl
theorem w_1623 : (Jvm.Cond.castable "java/lang/Throwable" "java/lang/Object") ∈ tw_NG := tw_n (tw_in7 (i := 107) rfl) rfl
theorem w_1624 : (Jvm.Cond.sameMethod "[Ljava/lang/Object;" "java/lang/Object" "getClass" "()Ljava/lang/Class;") ∈ TW := tw_m (tw_in7 (i := 108) rfl) rfl
theorem w_1625 : (Jvm.Cond.selects "[Ljava/lang/Object;" ({ cls := "java/lang/Object", name := "getClass", desc := "()Ljava/lang/Class;" } : Jvm.MethodName) ({ cls := "java/lang/Object", name := "getClass", desc := "()Ljava/lang/Class;" } : Jvm.MethodName)) ∈ TW := tw_m (tw_in7 (i := 109) rfl) rfl
theorem w_1626 : (Jvm.Cond.declares ({ cls := "java/lang/Object", name := "getClass", desc := "()Ljava/lang/Class;" } : Jvm.MethodName)) ∈ tw_NG := tw_n (tw_in7 (i := 110) rfl) rfl
theorem w_1627 : (Jvm.Cond.castable "[LTwocoin$Country;" "java/lang/Object") ∈ tw_NG := tw_n (tw_in7 (i := 111) rfl) rfl
theorem w_1628 : (Jvm.Cond.castable "[LTwocoin$House;" "java/lang/Object") ∈ tw_NG := tw_n (tw_in7 (i := 112) rfl) rfl
theorem w_1629 : (Jvm.Cond.castable "[LTwocoin$Debt;" "java/lang/Object") ∈ tw_NG := tw_n (tw_in7 (i := 113) rfl) rfl
theorem w_1630 : (Jvm.Cond.castable "[B" "java/lang/Object") ∈ tw_NG := tw_n (tw_in7 (i := 114) rfl) rfl
theorem w_1631 : (Jvm.Cond.castable "[I" "java/lang/Object") ∈ tw_NG := tw_n (tw_in7 (i := 115) rfl) rfl
theorem w_1632 : (Jvm.Cond.castable "[[I" "java/lang/Object") ∈ tw_NG := tw_n (tw_in7 (i := 116) rfl) rfl
theorem w_1633 : (Jvm.Cond.castable "[J" "java/lang/Object") ∈ tw_NG := tw_n (tw_in7 (i := 117) rfl) rfl
theorem w_1634 : (Jvm.Cond.castable "[Z" "java/lang/Object") ∈ tw_NG := tw_n (tw_in7 (i := 118) rfl) rfl
theorem w_1635 : (Jvm.Cond.castable "[Ljava/lang/Object;" "java/lang/Object") ∈ tw_NG := tw_n (tw_in7 (i := 119) rfl) rfl
