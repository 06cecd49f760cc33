theorem dX5_settle_77 : decode cX5_settle 77 = .ok (.istore 6, 2) := by decide +kernel
theorem dX5_settle_79 : decode cX5_settle 79 = .ok (.aload_n 3, 1) := by decide +kernel
theorem dX5_settle_80 : decode cX5_settle 80 = .ok (.getfield 200, 3) := by decide +kernel
theorem dX5_settle_83 : decode cX5_settle 83 = .ok (.getfield 135, 3) := by decide +kernel
theorem dX5_settle_86 : decode cX5_settle 86 = .ok (.iload_n 2, 1) := by decide +kernel
theorem dX5_settle_87 : decode cX5_settle 87 = .ok (.invokevirtual 111, 3) := by decide +kernel
theorem dX5_settle_90 : decode cX5_settle 90 = .ok (.iload 6, 2) := by decide +kernel
theorem dX5_settle_92 : decode cX5_settle 92 = .ok (.if_icmp .ge 13, 3) := by decide +kernel
theorem dX5_settle_95 : decode cX5_settle 95 = .ok (.new 60, 3) := by decide +kernel
theorem dX5_settle_98 : decode cX5_settle 98 = .ok (.dup, 1) := by decide +kernel
theorem dX5_settle_99 : decode cX5_settle 99 = .ok (.ldc 219, 2) := by decide +kernel
theorem dX5_settle_101 : decode cX5_settle 101 = .ok (.invokespecial 64, 3) := by decide +kernel
theorem dX5_settle_104 : decode cX5_settle 104 = .ok (.athrow, 1) := by decide +kernel
theorem dX5_settle_105 : decode cX5_settle 105 = .ok (.aload_n 3, 1) := by decide +kernel
theorem dX5_settle_106 : decode cX5_settle 106 = .ok (.getfield 200, 3) := by decide +kernel
theorem dX5_settle_109 : decode cX5_settle 109 = .ok (.getfield 135, 3) := by decide +kernel
theorem dX5_settle_112 : decode cX5_settle 112 = .ok (.iload_n 2, 1) := by decide +kernel
theorem dX5_settle_113 : decode cX5_settle 113 = .ok (.iload 6, 2) := by decide +kernel
theorem dX5_settle_115 : decode cX5_settle 115 = .ok (.ineg, 1) := by decide +kernel
theorem dX5_settle_116 : decode cX5_settle 116 = .ok (.invokevirtual 70, 3) := by decide +kernel
theorem dX5_settle_119 : decode cX5_settle 119 = .ok (.aload_n 3, 1) := by decide +kernel
theorem dX5_settle_120 : decode cX5_settle 120 = .ok (.getfield 208, 3) := by decide +kernel
theorem dX5_settle_123 : decode cX5_settle 123 = .ok (.getfield 135, 3) := by decide +kernel
theorem dX5_settle_126 : decode cX5_settle 126 = .ok (.iload_n 2, 1) := by decide +kernel
theorem dX5_settle_127 : decode cX5_settle 127 = .ok (.iload 6, 2) := by decide +kernel
theorem dX5_settle_129 : decode cX5_settle 129 = .ok (.invokevirtual 70, 3) := by decide +kernel
theorem dX5_settle_132 : decode cX5_settle 132 = .ok (.aload_n 3, 1) := by decide +kernel
theorem dX5_settle_133 : decode cX5_settle 133 = .ok (.iconst 1, 1) := by decide +kernel
theorem dX5_settle_134 : decode cX5_settle 134 = .ok (.putfield 204, 3) := by decide +kernel
theorem dX5_settle_137 : decode cX5_settle 137 = .ok (.iload 6, 2) := by decide +kernel
theorem dX5_settle_139 : decode cX5_settle 139 = .ok (.ireturn, 1) := by decide +kernel
theorem dX5_coins_0 : decode cX5_coins 0 = .ok (.aload_n 0, 1) := by decide +kernel
theorem dX5_coins_1 : decode cX5_coins 1 = .ok (.iload_n 1, 1) := by decide +kernel
theorem dX5_coins_2 : decode cX5_coins 2 = .ok (.invokevirtual 73, 3) := by decide +kernel
theorem dX5_coins_5 : decode cX5_coins 5 = .ok (.getfield 221, 3) := by decide +kernel
theorem dX5_coins_8 : decode cX5_coins 8 = .ok (.astore_n 3, 1) := by decide +kernel
theorem dX5_coins_9 : decode cX5_coins 9 = .ok (.iload_n 2, 1) := by decide +kernel
theorem dX5_coins_10 : decode cX5_coins 10 = .ok (.iconst 1, 1) := by decide +kernel
theorem dX5_coins_11 : decode cX5_coins 11 = .ok (.sipush 400, 3) := by decide +kernel
theorem dX5_coins_14 : decode cX5_coins 14 = .ok (.invokestatic 53, 3) := by decide +kernel
theorem dX5_coins_17 : decode cX5_coins 17 = .ok (.aload_n 3, 1) := by decide +kernel
theorem dX5_coins_18 : decode cX5_coins 18 = .ok (.iload_n 2, 1) := by decide +kernel
theorem dX5_coins_19 : decode cX5_coins 19 = .ok (.invokevirtual 238, 3) := by decide +kernel
theorem dX5_coins_22 : decode cX5_coins 22 = .ok (.ireturn, 1) := by decide +kernel
theorem dX5_countryFact_0 : decode cX5_countryFact 0 = .ok (.iload_n 2, 1) := by decide +kernel
theorem dX5_countryFact_1 : decode cX5_countryFact 1 = .ok (.tableswitch 104 0 7 #[47, 52, 57, 65, 73, 78, 84, 96], 47) := by decide +kernel
theorem dX5_countryFact_48 : decode cX5_countryFact 48 = .ok (.aload_n 1, 1) := by decide +kernel
theorem dX5_countryFact_49 : decode cX5_countryFact 49 = .ok (.getfield 77, 3) := by decide +kernel
theorem dX5_countryFact_52 : decode cX5_countryFact 52 = .ok (.ireturn, 1) := by decide +kernel
theorem dX5_countryFact_53 : decode cX5_countryFact 53 = .ok (.aload_n 1, 1) := by decide +kernel
theorem dX5_countryFact_54 : decode cX5_countryFact 54 = .ok (.getfield 80, 3) := by decide +kernel
theorem dX5_countryFact_57 : decode cX5_countryFact 57 = .ok (.ireturn, 1) := by decide +kernel
theorem dX5_countryFact_58 : decode cX5_countryFact 58 = .ok (.aload_n 1, 1) := by decide +kernel
theorem dX5_countryFact_59 : decode cX5_countryFact 59 = .ok (.getfield 108, 3) := by decide +kernel
theorem dX5_countryFact_62 : decode cX5_countryFact 62 = .ok (.getfield 250, 3) := by decide +kernel
theorem dX5_countryFact_65 : decode cX5_countryFact 65 = .ok (.ireturn, 1) := by decide +kernel
theorem dX5_countryFact_66 : decode cX5_countryFact 66 = .ok (.aload_n 1, 1) := by decide +kernel
theorem dX5_countryFact_67 : decode cX5_countryFact 67 = .ok (.getfield 108, 3) := by decide +kernel
theorem dX5_countryFact_70 : decode cX5_countryFact 70 = .ok (.getfield 185, 3) := by decide +kernel
theorem dX5_countryFact_73 : decode cX5_countryFact 73 = .ok (.ireturn, 1) := by decide +kernel
theorem dX5_countryFact_74 : decode cX5_countryFact 74 = .ok (.aload_n 1, 1) := by decide +kernel
theorem dX5_countryFact_75 : decode cX5_countryFact 75 = .ok (.invokevirtual 253, 3) := by decide +kernel
theorem dX5_countryFact_78 : decode cX5_countryFact 78 = .ok (.ireturn, 1) := by decide +kernel
theorem dX5_countryFact_79 : decode cX5_countryFact 79 = .ok (.aload_n 0, 1) := by decide +kernel
theorem dX5_countryFact_80 : decode cX5_countryFact 80 = .ok (.aload_n 1, 1) := by decide +kernel
theorem dX5_countryFact_81 : decode cX5_countryFact 81 = .ok (.invokevirtual 257, 3) := by decide +kernel
theorem dX5_countryFact_84 : decode cX5_countryFact 84 = .ok (.ireturn, 1) := by decide +kernel
theorem dX5_countryFact_85 : decode cX5_countryFact 85 = .ok (.aload_n 1, 1) := by decide +kernel
theorem dX5_countryFact_86 : decode cX5_countryFact 86 = .ok (.getfield 108, 3) := by decide +kernel
theorem dX5_countryFact_89 : decode cX5_countryFact 89 = .ok (.aload_n 0, 1) := by decide +kernel
theorem dX5_countryFact_90 : decode cX5_countryFact 90 = .ok (.getfield 9, 3) := by decide +kernel
theorem dX5_countryFact_93 : decode cX5_countryFact 93 = .ok (.invokevirtual 261, 3) := by decide +kernel
theorem dX5_countryFact_96 : decode cX5_countryFact 96 = .ok (.ireturn, 1) := by decide +kernel
theorem dX5_countryFact_97 : decode cX5_countryFact 97 = .ok (.aload_n 1, 1) := by decide +kernel
theorem dX5_countryFact_98 : decode cX5_countryFact 98 = .ok (.getfield 221, 3) := by decide +kernel
theorem dX5_countryFact_101 : decode cX5_countryFact 101 = .ok (.invokevirtual 264, 3) := by decide +kernel
theorem dX5_countryFact_104 : decode cX5_countryFact 104 = .ok (.ireturn, 1) := by decide +kernel
theorem dX5_countryFact_105 : decode cX5_countryFact 105 = .ok (.aload_n 0, 1) := by decide +kernel
theorem dX5_countryFact_106 : decode cX5_countryFact 106 = .ok (.aload_n 1, 1) := by decide +kernel
theorem dX5_countryFact_107 : decode cX5_countryFact 107 = .ok (.getfield 77, 3) := by decide +kernel
theorem dX5_countryFact_110 : decode cX5_countryFact 110 = .ok (.invokevirtual 267, 3) := by decide +kernel
theorem dX5_countryFact_113 : decode cX5_countryFact 113 = .ok (.ireturn, 1) := by decide +kernel
theorem dX5_housesIn_0 : decode cX5_housesIn 0 = .ok (.iconst 0, 1) := by decide +kernel
theorem dX5_housesIn_1 : decode cX5_housesIn 1 = .ok (.istore_n 2, 1) := by decide +kernel
theorem dX5_housesIn_2 : decode cX5_housesIn 2 = .ok (.aload_n 0, 1) := by decide +kernel
theorem dX5_housesIn_3 : decode cX5_housesIn 3 = .ok (.getfield 21, 3) := by decide +kernel
theorem dX5_housesIn_6 : decode cX5_housesIn 6 = .ok (.astore_n 3, 1) := by decide +kernel
theorem dX5_housesIn_7 : decode cX5_housesIn 7 = .ok (.aload_n 3, 1) := by decide +kernel
theorem dX5_housesIn_8 : decode cX5_housesIn 8 = .ok (.arraylength, 1) := by decide +kernel
theorem dX5_housesIn_9 : decode cX5_housesIn 9 = .ok (.istore 4, 2) := by decide +kernel
theorem dX5_housesIn_11 : decode cX5_housesIn 11 = .ok (.iconst 0, 1) := by decide +kernel
theorem dX5_housesIn_12 : decode cX5_housesIn 12 = .ok (.istore 5, 2) := by decide +kernel
theorem dX5_housesIn_14 : decode cX5_housesIn 14 = .ok (.iload 5, 2) := by decide +kernel
theorem dX5_housesIn_16 : decode cX5_housesIn 16 = .ok (.iload 4, 2) := by decide +kernel
theorem dX5_housesIn_18 : decode cX5_housesIn 18 = .ok (.if_icmp .ge 32, 3) := by decide +kernel
theorem dX5_housesIn_21 : decode cX5_housesIn 21 = .ok (.aload_n 3, 1) := by decide +kernel
theorem dX5_housesIn_22 : decode cX5_housesIn 22 = .ok (.iload 5, 2) := by decide +kernel
theorem dX5_housesIn_24 : decode cX5_housesIn 24 = .ok (.aaload, 1) := by decide +kernel
theorem dX5_housesIn_25 : decode cX5_housesIn 25 = .ok (.astore 6, 2) := by decide +kernel
theorem dX5_housesIn_27 : decode cX5_housesIn 27 = .ok (.aload 6, 2) := by decide +kernel
theorem dX5_housesIn_29 : decode cX5_housesIn 29 = .ok (.ifnull 15, 3) := by decide +kernel
theorem dX5_housesIn_32 : decode cX5_housesIn 32 = .ok (.aload 6, 2) := by decide +kernel
theorem dX5_housesIn_34 : decode cX5_housesIn 34 = .ok (.getfield 131, 3) := by decide +kernel
theorem dX5_housesIn_37 : decode cX5_housesIn 37 = .ok (.aload_n 1, 1) := by decide +kernel
theorem dX5_housesIn_38 : decode cX5_housesIn 38 = .ok (.if_acmp .ne 6, 3) := by decide +kernel
theorem dX5_housesIn_41 : decode cX5_housesIn 41 = .ok (.iinc 2 1, 3) := by decide +kernel
theorem dX5_housesIn_44 : decode cX5_housesIn 44 = .ok (.iinc 5 1, 3) := by decide +kernel
theorem dX5_housesIn_47 : decode cX5_housesIn 47 = .ok (.goto (-33), 3) := by decide +kernel
theorem dX5_housesIn_50 : decode cX5_housesIn 50 = .ok (.iload_n 2, 1) := by decide +kernel
theorem dX5_housesIn_51 : decode cX5_housesIn 51 = .ok (.ireturn, 1) := by decide +kernel
theorem dX5_countriesWithRate_0 : decode cX5_countriesWithRate 0 = .ok (.iconst 0, 1) := by decide +kernel
theorem dX5_countriesWithRate_1 : decode cX5_countriesWithRate 1 = .ok (.istore_n 2, 1) := by decide +kernel
theorem dX5_countriesWithRate_2 : decode cX5_countriesWithRate 2 = .ok (.aload_n 0, 1) := by decide +kernel
theorem dX5_countriesWithRate_3 : decode cX5_countriesWithRate 3 = .ok (.getfield 15, 3) := by decide +kernel
theorem dX5_countriesWithRate_6 : decode cX5_countriesWithRate 6 = .ok (.astore_n 3, 1) := by decide +kernel
theorem dX5_countriesWithRate_7 : decode cX5_countriesWithRate 7 = .ok (.aload_n 3, 1) := by decide +kernel
theorem dX5_countriesWithRate_8 : decode cX5_countriesWithRate 8 = .ok (.arraylength, 1) := by decide +kernel
theorem dX5_countriesWithRate_9 : decode cX5_countriesWithRate 9 = .ok (.istore 4, 2) := by decide +kernel
theorem dX5_countriesWithRate_11 : decode cX5_countriesWithRate 11 = .ok (.iconst 0, 1) := by decide +kernel
theorem dX5_countriesWithRate_12 : decode cX5_countriesWithRate 12 = .ok (.istore 5, 2) := by decide +kernel
theorem dX5_countriesWithRate_14 : decode cX5_countriesWithRate 14 = .ok (.iload 5, 2) := by decide +kernel
theorem dX5_countriesWithRate_16 : decode cX5_countriesWithRate 16 = .ok (.iload 4, 2) := by decide +kernel
theorem dX5_countriesWithRate_18 : decode cX5_countriesWithRate 18 = .ok (.if_icmp .ge 32, 3) := by decide +kernel
theorem dX5_countriesWithRate_21 : decode cX5_countriesWithRate 21 = .ok (.aload_n 3, 1) := by decide +kernel
theorem dX5_countriesWithRate_22 : decode cX5_countriesWithRate 22 = .ok (.iload 5, 2) := by decide +kernel
theorem dX5_countriesWithRate_24 : decode cX5_countriesWithRate 24 = .ok (.aaload, 1) := by decide +kernel
theorem dX5_countriesWithRate_25 : decode cX5_countriesWithRate 25 = .ok (.astore 6, 2) := by decide +kernel
theorem dX5_countriesWithRate_27 : decode cX5_countriesWithRate 27 = .ok (.aload 6, 2) := by decide +kernel
theorem dX5_countriesWithRate_29 : decode cX5_countriesWithRate 29 = .ok (.ifnull 15, 3) := by decide +kernel
theorem dX5_countriesWithRate_32 : decode cX5_countriesWithRate 32 = .ok (.aload 6, 2) := by decide +kernel
theorem dX5_countriesWithRate_34 : decode cX5_countriesWithRate 34 = .ok (.getfield 77, 3) := by decide +kernel
theorem dX5_countriesWithRate_37 : decode cX5_countriesWithRate 37 = .ok (.iload_n 1, 1) := by decide +kernel
theorem dX5_countriesWithRate_38 : decode cX5_countriesWithRate 38 = .ok (.if_icmp .ne 6, 3) := by decide +kernel
theorem dX5_countriesWithRate_41 : decode cX5_countriesWithRate 41 = .ok (.iinc 2 1, 3) := by decide +kernel
theorem dX5_countriesWithRate_44 : decode cX5_countriesWithRate 44 = .ok (.iinc 5 1, 3) := by decide +kernel
theorem dX5_countriesWithRate_47 : decode cX5_countriesWithRate 47 = .ok (.goto (-33), 3) := by decide +kernel
theorem dX5_countriesWithRate_50 : decode cX5_countriesWithRate 50 = .ok (.iload_n 2, 1) := by decide +kernel
theorem dX5_countriesWithRate_51 : decode cX5_countriesWithRate 51 = .ok (.ireturn, 1) := by decide +kernel
theorem dX5_houseFact_0 : decode cX5_houseFact 0 = .ok (.iload_n 2, 1) := by decide +kernel
theorem dX5_houseFact_1 : decode cX5_houseFact 1 = .ok (.tableswitch 98 0 6 #[43, 51, 59, 64, 72, 80, 92], 43) := by decide +kernel
theorem dX5_houseFact_44 : decode cX5_houseFact 44 = .ok (.aload_n 1, 1) := by decide +kernel
theorem dX5_houseFact_45 : decode cX5_houseFact 45 = .ok (.getfield 131, 3) := by decide +kernel
theorem dX5_houseFact_48 : decode cX5_houseFact 48 = .ok (.invokestatic 274, 3) := by decide +kernel
theorem dX5_houseFact_51 : decode cX5_houseFact 51 = .ok (.ireturn, 1) := by decide +kernel
theorem dX5_houseFact_52 : decode cX5_houseFact 52 = .ok (.aload_n 1, 1) := by decide +kernel
theorem dX5_houseFact_53 : decode cX5_houseFact 53 = .ok (.getfield 277, 3) := by decide +kernel
theorem dX5_houseFact_56 : decode cX5_houseFact 56 = .ok (.invokestatic 274, 3) := by decide +kernel
theorem dX5_houseFact_59 : decode cX5_houseFact 59 = .ok (.ireturn, 1) := by decide +kernel
theorem dX5_houseFact_60 : decode cX5_houseFact 60 = .ok (.aload_n 1, 1) := by decide +kernel
theorem dX5_houseFact_61 : decode cX5_houseFact 61 = .ok (.getfield 165, 3) := by decide +kernel
theorem dX5_houseFact_64 : decode cX5_houseFact 64 = .ok (.ireturn, 1) := by decide +kernel
theorem dX5_houseFact_65 : decode cX5_houseFact 65 = .ok (.aload_n 1, 1) := by decide +kernel
theorem dX5_houseFact_66 : decode cX5_houseFact 66 = .ok (.getfield 135, 3) := by decide +kernel
theorem dX5_houseFact_69 : decode cX5_houseFact 69 = .ok (.getfield 250, 3) := by decide +kernel
theorem dX5_houseFact_72 : decode cX5_houseFact 72 = .ok (.ireturn, 1) := by decide +kernel
theorem dX5_houseFact_73 : decode cX5_houseFact 73 = .ok (.aload_n 1, 1) := by decide +kernel
theorem dX5_houseFact_74 : decode cX5_houseFact 74 = .ok (.getfield 135, 3) := by decide +kernel
theorem dX5_houseFact_77 : decode cX5_houseFact 77 = .ok (.getfield 185, 3) := by decide +kernel
theorem dX5_houseFact_80 : decode cX5_houseFact 80 = .ok (.ireturn, 1) := by decide +kernel
theorem dX5_houseFact_81 : decode cX5_houseFact 81 = .ok (.aload_n 1, 1) := by decide +kernel
theorem dX5_houseFact_82 : decode cX5_houseFact 82 = .ok (.getfield 135, 3) := by decide +kernel
theorem dX5_houseFact_85 : decode cX5_houseFact 85 = .ok (.aload_n 0, 1) := by decide +kernel
theorem dX5_houseFact_86 : decode cX5_houseFact 86 = .ok (.getfield 9, 3) := by decide +kernel
theorem dX5_houseFact_89 : decode cX5_houseFact 89 = .ok (.invokevirtual 261, 3) := by decide +kernel
theorem dX5_houseFact_92 : decode cX5_houseFact 92 = .ok (.ireturn, 1) := by decide +kernel
theorem dX5_houseFact_93 : decode cX5_houseFact 93 = .ok (.aload_n 0, 1) := by decide +kernel
theorem dX5_houseFact_94 : decode cX5_houseFact 94 = .ok (.aload_n 1, 1) := by decide +kernel
theorem dX5_houseFact_95 : decode cX5_houseFact 95 = .ok (.invokevirtual 280, 3) := by decide +kernel
theorem dX5_houseFact_98 : decode cX5_houseFact 98 = .ok (.ireturn, 1) := by decide +kernel
theorem dX5_houseFact_99 : decode cX5_houseFact 99 = .ok (.aload_n 0, 1) := by decide +kernel
theorem dX5_houseFact_100 : decode cX5_houseFact 100 = .ok (.aload_n 1, 1) := by decide +kernel
theorem dX5_houseFact_101 : decode cX5_houseFact 101 = .ok (.invokevirtual 284, 3) := by decide +kernel
theorem dX5_houseFact_104 : decode cX5_houseFact 104 = .ok (.ireturn, 1) := by decide +kernel
theorem dX5_numberOf_0 : decode cX5_numberOf 0 = .ok (.aload_n 0, 1) := by decide +kernel
theorem dX5_numberOf_1 : decode cX5_numberOf 1 = .ok (.ifnonnull 7, 3) := by decide +kernel
theorem dX5_numberOf_4 : decode cX5_numberOf 4 = .ok (.iconst (-1), 1) := by decide +kernel
theorem dX5_numberOf_5 : decode cX5_numberOf 5 = .ok (.goto 7, 3) := by decide +kernel
theorem dX5_numberOf_8 : decode cX5_numberOf 8 = .ok (.aload_n 0, 1) := by decide +kernel
theorem dX5_numberOf_9 : decode cX5_numberOf 9 = .ok (.getfield 98, 3) := by decide +kernel
theorem dX5_numberOf_12 : decode cX5_numberOf 12 = .ok (.ireturn, 1) := by decide +kernel
theorem dX5_unpaidDebtsOf_0 : decode cX5_unpaidDebtsOf 0 = .ok (.iconst 0, 1) := by decide +kernel
theorem dX5_unpaidDebtsOf_1 : decode cX5_unpaidDebtsOf 1 = .ok (.istore_n 2, 1) := by decide +kernel
theorem dX5_unpaidDebtsOf_2 : decode cX5_unpaidDebtsOf 2 = .ok (.aload_n 0, 1) := by decide +kernel
theorem dX5_unpaidDebtsOf_3 : decode cX5_unpaidDebtsOf 3 = .ok (.getfield 27, 3) := by decide +kernel
theorem dX5_unpaidDebtsOf_6 : decode cX5_unpaidDebtsOf 6 = .ok (.astore_n 3, 1) := by decide +kernel
theorem dX5_unpaidDebtsOf_7 : decode cX5_unpaidDebtsOf 7 = .ok (.aload_n 3, 1) := by decide +kernel
theorem dX5_unpaidDebtsOf_8 : decode cX5_unpaidDebtsOf 8 = .ok (.arraylength, 1) := by decide +kernel
theorem dX5_unpaidDebtsOf_9 : decode cX5_unpaidDebtsOf 9 = .ok (.istore 4, 2) := by decide +kernel
theorem dX5_unpaidDebtsOf_11 : decode cX5_unpaidDebtsOf 11 = .ok (.iconst 0, 1) := by decide +kernel
theorem dX5_unpaidDebtsOf_12 : decode cX5_unpaidDebtsOf 12 = .ok (.istore 5, 2) := by decide +kernel
theorem dX5_unpaidDebtsOf_14 : decode cX5_unpaidDebtsOf 14 = .ok (.iload 5, 2) := by decide +kernel
theorem dX5_unpaidDebtsOf_16 : decode cX5_unpaidDebtsOf 16 = .ok (.iload 4, 2) := by decide +kernel
theorem dX5_unpaidDebtsOf_18 : decode cX5_unpaidDebtsOf 18 = .ok (.if_icmp .ge 40, 3) := by decide +kernel
theorem dX5_unpaidDebtsOf_21 : decode cX5_unpaidDebtsOf 21 = .ok (.aload_n 3, 1) := by decide +kernel
theorem dX5_unpaidDebtsOf_22 : decode cX5_unpaidDebtsOf 22 = .ok (.iload 5, 2) := by decide +kernel
theorem dX5_unpaidDebtsOf_24 : decode cX5_unpaidDebtsOf 24 = .ok (.aaload, 1) := by decide +kernel
theorem dX5_unpaidDebtsOf_25 : decode cX5_unpaidDebtsOf 25 = .ok (.astore 6, 2) := by decide +kernel
theorem dX5_unpaidDebtsOf_27 : decode cX5_unpaidDebtsOf 27 = .ok (.aload 6, 2) := by decide +kernel
theorem dX5_unpaidDebtsOf_29 : decode cX5_unpaidDebtsOf 29 = .ok (.ifnull 23, 3) := by decide +kernel
theorem dX5_unpaidDebtsOf_32 : decode cX5_unpaidDebtsOf 32 = .ok (.aload 6, 2) := by decide +kernel
theorem dX5_unpaidDebtsOf_34 : decode cX5_unpaidDebtsOf 34 = .ok (.getfield 204, 3) := by decide +kernel
theorem dX5_unpaidDebtsOf_37 : decode cX5_unpaidDebtsOf 37 = .ok (.ifCond .ne 15, 3) := by decide +kernel
theorem dX5_unpaidDebtsOf_40 : decode cX5_unpaidDebtsOf 40 = .ok (.aload 6, 2) := by decide +kernel
theorem dX5_unpaidDebtsOf_42 : decode cX5_unpaidDebtsOf 42 = .ok (.getfield 200, 3) := by decide +kernel
theorem dX5_unpaidDebtsOf_45 : decode cX5_unpaidDebtsOf 45 = .ok (.aload_n 1, 1) := by decide +kernel
theorem dX5_unpaidDebtsOf_46 : decode cX5_unpaidDebtsOf 46 = .ok (.if_acmp .ne 6, 3) := by decide +kernel
theorem dX5_unpaidDebtsOf_49 : decode cX5_unpaidDebtsOf 49 = .ok (.iinc 2 1, 3) := by decide +kernel
theorem dX5_unpaidDebtsOf_52 : decode cX5_unpaidDebtsOf 52 = .ok (.iinc 5 1, 3) := by decide +kernel
theorem dX5_unpaidDebtsOf_55 : decode cX5_unpaidDebtsOf 55 = .ok (.goto (-41), 3) := by decide +kernel
theorem dX5_unpaidDebtsOf_58 : decode cX5_unpaidDebtsOf 58 = .ok (.iload_n 2, 1) := by decide +kernel
theorem dX5_unpaidDebtsOf_59 : decode cX5_unpaidDebtsOf 59 = .ok (.ireturn, 1) := by decide +kernel
theorem dX5_unpaidDebtsTo_0 : decode cX5_unpaidDebtsTo 0 = .ok (.iconst 0, 1) := by decide +kernel
theorem dX5_unpaidDebtsTo_1 : decode cX5_unpaidDebtsTo 1 = .ok (.istore_n 2, 1) := by decide +kernel
theorem dX5_unpaidDebtsTo_2 : decode cX5_unpaidDebtsTo 2 = .ok (.aload_n 0, 1) := by decide +kernel
theorem dX5_unpaidDebtsTo_3 : decode cX5_unpaidDebtsTo 3 = .ok (.getfield 27, 3) := by decide +kernel
theorem dX5_unpaidDebtsTo_6 : decode cX5_unpaidDebtsTo 6 = .ok (.astore_n 3, 1) := by decide +kernel
theorem dX5_unpaidDebtsTo_7 : decode cX5_unpaidDebtsTo 7 = .ok (.aload_n 3, 1) := by decide +kernel
theorem dX5_unpaidDebtsTo_8 : decode cX5_unpaidDebtsTo 8 = .ok (.arraylength, 1) := by decide +kernel
theorem dX5_unpaidDebtsTo_9 : decode cX5_unpaidDebtsTo 9 = .ok (.istore 4, 2) := by decide +kernel
theorem dX5_unpaidDebtsTo_11 : decode cX5_unpaidDebtsTo 11 = .ok (.iconst 0, 1) := by decide +kernel
theorem dX5_unpaidDebtsTo_12 : decode cX5_unpaidDebtsTo 12 = .ok (.istore 5, 2) := by decide +kernel
theorem dX5_unpaidDebtsTo_14 : decode cX5_unpaidDebtsTo 14 = .ok (.iload 5, 2) := by decide +kernel
theorem dX5_unpaidDebtsTo_16 : decode cX5_unpaidDebtsTo 16 = .ok (.iload 4, 2) := by decide +kernel
theorem dX5_unpaidDebtsTo_18 : decode cX5_unpaidDebtsTo 18 = .ok (.if_icmp .ge 40, 3) := by decide +kernel
theorem dX5_unpaidDebtsTo_21 : decode cX5_unpaidDebtsTo 21 = .ok (.aload_n 3, 1) := by decide +kernel
theorem dX5_unpaidDebtsTo_22 : decode cX5_unpaidDebtsTo 22 = .ok (.iload 5, 2) := by decide +kernel
theorem dX5_unpaidDebtsTo_24 : decode cX5_unpaidDebtsTo 24 = .ok (.aaload, 1) := by decide +kernel
theorem dX5_unpaidDebtsTo_25 : decode cX5_unpaidDebtsTo 25 = .ok (.astore 6, 2) := by decide +kernel
theorem dX5_unpaidDebtsTo_27 : decode cX5_unpaidDebtsTo 27 = .ok (.aload 6, 2) := by decide +kernel
theorem dX5_unpaidDebtsTo_29 : decode cX5_unpaidDebtsTo 29 = .ok (.ifnull 23, 3) := by decide +kernel
theorem dX5_unpaidDebtsTo_32 : decode cX5_unpaidDebtsTo 32 = .ok (.aload 6, 2) := by decide +kernel
theorem dX5_unpaidDebtsTo_34 : decode cX5_unpaidDebtsTo 34 = .ok (.getfield 204, 3) := by decide +kernel
theorem dX5_unpaidDebtsTo_37 : decode cX5_unpaidDebtsTo 37 = .ok (.ifCond .ne 15, 3) := by decide +kernel
theorem dX5_unpaidDebtsTo_40 : decode cX5_unpaidDebtsTo 40 = .ok (.aload 6, 2) := by decide +kernel
theorem dX5_unpaidDebtsTo_42 : decode cX5_unpaidDebtsTo 42 = .ok (.getfield 208, 3) := by decide +kernel
theorem dX5_unpaidDebtsTo_45 : decode cX5_unpaidDebtsTo 45 = .ok (.aload_n 1, 1) := by decide +kernel
theorem dX5_unpaidDebtsTo_46 : decode cX5_unpaidDebtsTo 46 = .ok (.if_acmp .ne 6, 3) := by decide +kernel
theorem dX5_unpaidDebtsTo_49 : decode cX5_unpaidDebtsTo 49 = .ok (.iinc 2 1, 3) := by decide +kernel
theorem dX5_unpaidDebtsTo_52 : decode cX5_unpaidDebtsTo 52 = .ok (.iinc 5 1, 3) := by decide +kernel
theorem dX5_unpaidDebtsTo_55 : decode cX5_unpaidDebtsTo 55 = .ok (.goto (-41), 3) := by decide +kernel
theorem dX5_unpaidDebtsTo_58 : decode cX5_unpaidDebtsTo 58 = .ok (.iload_n 2, 1) := by decide +kernel
theorem dX5_unpaidDebtsTo_59 : decode cX5_unpaidDebtsTo 59 = .ok (.ireturn, 1) := by decide +kernel
theorem dX5_ofDebt_0 : decode cX5_ofDebt 0 = .ok (.aload_n 0, 1) := by decide +kernel
theorem dX5_ofDebt_1 : decode cX5_ofDebt 1 = .ok (.iload_n 1, 1) := by decide +kernel
theorem dX5_ofDebt_2 : decode cX5_ofDebt 2 = .ok (.invokevirtual 196, 3) := by decide +kernel
theorem dX5_ofDebt_5 : decode cX5_ofDebt 5 = .ok (.astore_n 3, 1) := by decide +kernel
theorem dX5_ofDebt_6 : decode cX5_ofDebt 6 = .ok (.iload_n 2, 1) := by decide +kernel
theorem dX5_ofDebt_7 : decode cX5_ofDebt 7 = .ok (.iconst 0, 1) := by decide +kernel
theorem dX5_ofDebt_8 : decode cX5_ofDebt 8 = .ok (.bipush 6, 2) := by decide +kernel
theorem dX5_ofDebt_10 : decode cX5_ofDebt 10 = .ok (.invokestatic 53, 3) := by decide +kernel
theorem dX5_ofDebt_13 : decode cX5_ofDebt 13 = .ok (.aload_n 0, 1) := by decide +kernel
theorem dX5_ofDebt_14 : decode cX5_ofDebt 14 = .ok (.aload_n 3, 1) := by decide +kernel
theorem dX5_ofDebt_15 : decode cX5_ofDebt 15 = .ok (.iload_n 2, 1) := by decide +kernel
theorem dX5_ofDebt_16 : decode cX5_ofDebt 16 = .ok (.invokevirtual 287, 3) := by decide +kernel
theorem dX5_ofDebt_19 : decode cX5_ofDebt 19 = .ok (.ireturn, 1) := by decide +kernel
theorem dX5_debtFact_0 : decode cX5_debtFact 0 = .ok (.iload_n 2, 1) := by decide +kernel
theorem dX5_debtFact_1 : decode cX5_debtFact 1 = .ok (.tableswitch 98 0 5 #[39, 47, 55, 60, 65, 85], 39) := by decide +kernel
theorem dX5_debtFact_40 : decode cX5_debtFact 40 = .ok (.aload_n 1, 1) := by decide +kernel
theorem dX5_debtFact_41 : decode cX5_debtFact 41 = .ok (.getfield 200, 3) := by decide +kernel
theorem dX5_debtFact_44 : decode cX5_debtFact 44 = .ok (.getfield 291, 3) := by decide +kernel
theorem dX5_debtFact_47 : decode cX5_debtFact 47 = .ok (.ireturn, 1) := by decide +kernel
theorem dX5_debtFact_48 : decode cX5_debtFact 48 = .ok (.aload_n 1, 1) := by decide +kernel
theorem dX5_debtFact_49 : decode cX5_debtFact 49 = .ok (.getfield 208, 3) := by decide +kernel
theorem dX5_debtFact_52 : decode cX5_debtFact 52 = .ok (.getfield 291, 3) := by decide +kernel
theorem dX5_debtFact_55 : decode cX5_debtFact 55 = .ok (.ireturn, 1) := by decide +kernel
theorem dX5_debtFact_56 : decode cX5_debtFact 56 = .ok (.aload_n 1, 1) := by decide +kernel
theorem dX5_debtFact_57 : decode cX5_debtFact 57 = .ok (.getfield 292, 3) := by decide +kernel
theorem dX5_debtFact_60 : decode cX5_debtFact 60 = .ok (.ireturn, 1) := by decide +kernel
theorem dX5_debtFact_61 : decode cX5_debtFact 61 = .ok (.aload_n 1, 1) := by decide +kernel
theorem dX5_debtFact_62 : decode cX5_debtFact 62 = .ok (.getfield 295, 3) := by decide +kernel
theorem dX5_debtFact_65 : decode cX5_debtFact 65 = .ok (.ireturn, 1) := by decide +kernel
theorem dX5_debtFact_66 : decode cX5_debtFact 66 = .ok (.aload_n 1, 1) := by decide +kernel
theorem dX5_debtFact_67 : decode cX5_debtFact 67 = .ok (.getfield 204, 3) := by decide +kernel
theorem dX5_debtFact_70 : decode cX5_debtFact 70 = .ok (.ifCond .eq 7, 3) := by decide +kernel
theorem dX5_debtFact_73 : decode cX5_debtFact 73 = .ok (.iconst 0, 1) := by decide +kernel
theorem dX5_debtFact_74 : decode cX5_debtFact 74 = .ok (.goto 11, 3) := by decide +kernel
theorem dX5_debtFact_77 : decode cX5_debtFact 77 = .ok (.aload_n 1, 1) := by decide +kernel
theorem dX5_debtFact_78 : decode cX5_debtFact 78 = .ok (.aload_n 0, 1) := by decide +kernel
theorem dX5_debtFact_79 : decode cX5_debtFact 79 = .ok (.getfield 158, 3) := by decide +kernel
theorem dX5_debtFact_82 : decode cX5_debtFact 82 = .ok (.invokevirtual 213, 3) := by decide +kernel
theorem dX5_debtFact_85 : decode cX5_debtFact 85 = .ok (.ireturn, 1) := by decide +kernel
theorem dX5_debtFact_86 : decode cX5_debtFact 86 = .ok (.aload_n 1, 1) := by decide +kernel
theorem dX5_debtFact_87 : decode cX5_debtFact 87 = .ok (.getfield 204, 3) := by decide +kernel
theorem dX5_debtFact_90 : decode cX5_debtFact 90 = .ok (.ifCond .eq 7, 3) := by decide +kernel
theorem dX5_debtFact_93 : decode cX5_debtFact 93 = .ok (.iconst 1, 1) := by decide +kernel
theorem dX5_debtFact_94 : decode cX5_debtFact 94 = .ok (.goto 4, 3) := by decide +kernel
theorem dX5_debtFact_97 : decode cX5_debtFact 97 = .ok (.iconst 0, 1) := by decide +kernel
theorem dX5_debtFact_98 : decode cX5_debtFact 98 = .ok (.ireturn, 1) := by decide +kernel
theorem dX5_debtFact_99 : decode cX5_debtFact 99 = .ok (.aload_n 0, 1) := by decide +kernel
theorem dX5_debtFact_100 : decode cX5_debtFact 100 = .ok (.aload_n 1, 1) := by decide +kernel
theorem dX5_debtFact_101 : decode cX5_debtFact 101 = .ok (.invokevirtual 298, 3) := by decide +kernel
theorem dX5_debtFact_104 : decode cX5_debtFact 104 = .ok (.ireturn, 1) := by decide +kernel
theorem dX5_cheaperMetal_0 : decode cX5_cheaperMetal 0 = .ok (.aload_n 1, 1) := by decide +kernel
theorem dX5_cheaperMetal_1 : decode cX5_cheaperMetal 1 = .ok (.getfield 200, 3) := by decide +kernel
theorem dX5_cheaperMetal_4 : decode cX5_cheaperMetal 4 = .ok (.getfield 131, 3) := by decide +kernel
theorem dX5_cheaperMetal_7 : decode cX5_cheaperMetal 7 = .ok (.astore_n 2, 1) := by decide +kernel
theorem dX5_cheaperMetal_8 : decode cX5_cheaperMetal 8 = .ok (.aload_n 1, 1) := by decide +kernel
theorem dX5_cheaperMetal_9 : decode cX5_cheaperMetal 9 = .ok (.getfield 204, 3) := by decide +kernel
theorem dX5_cheaperMetal_12 : decode cX5_cheaperMetal 12 = .ok (.ifCond .ne 7, 3) := by decide +kernel
theorem dX5_cheaperMetal_15 : decode cX5_cheaperMetal 15 = .ok (.aload_n 2, 1) := by decide +kernel
theorem dX5_cheaperMetal_16 : decode cX5_cheaperMetal 16 = .ok (.ifnonnull 5, 3) := by decide +kernel
theorem dX5_cheaperMetal_19 : decode cX5_cheaperMetal 19 = .ok (.iconst (-1), 1) := by decide +kernel
theorem dX5_cheaperMetal_20 : decode cX5_cheaperMetal 20 = .ok (.ireturn, 1) := by decide +kernel
theorem dX5_cheaperMetal_21 : decode cX5_cheaperMetal 21 = .ok (.aload_n 1, 1) := by decide +kernel
theorem dX5_cheaperMetal_22 : decode cX5_cheaperMetal 22 = .ok (.aload_n 0, 1) := by decide +kernel
theorem dX5_cheaperMetal_23 : decode cX5_cheaperMetal 23 = .ok (.getfield 158, 3) := by decide +kernel
theorem dX5_cheaperMetal_26 : decode cX5_cheaperMetal 26 = .ok (.invokevirtual 213, 3) := by decide +kernel
theorem dX5_cheaperMetal_29 : decode cX5_cheaperMetal 29 = .ok (.istore_n 3, 1) := by decide +kernel
theorem dX5_cheaperMetal_30 : decode cX5_cheaperMetal 30 = .ok (.aload_n 2, 1) := by decide +kernel
theorem dX5_cheaperMetal_31 : decode cX5_cheaperMetal 31 = .ok (.iload_n 3, 1) := by decide +kernel
theorem dX5_cheaperMetal_32 : decode cX5_cheaperMetal 32 = .ok (.invokevirtual 216, 3) := by decide +kernel
theorem dX5_cheaperMetal_35 : decode cX5_cheaperMetal 35 = .ok (.iconst 0, 1) := by decide +kernel
theorem dX5_cheaperMetal_36 : decode cX5_cheaperMetal 36 = .ok (.aload_n 0, 1) := by decide +kernel
theorem dX5_cheaperMetal_37 : decode cX5_cheaperMetal 37 = .ok (.getfield 9, 3) := by decide +kernel
theorem dX5_cheaperMetal_40 : decode cX5_cheaperMetal 40 = .ok (.invokestatic 302, 3) := by decide +kernel
theorem dX5_cheaperMetal_43 : decode cX5_cheaperMetal 43 = .ok (.iload_n 3, 1) := by decide +kernel
theorem dX5_cheaperMetal_44 : decode cX5_cheaperMetal 44 = .ok (.if_icmp .ge 7, 3) := by decide +kernel
theorem dX5_cheaperMetal_47 : decode cX5_cheaperMetal 47 = .ok (.iconst 0, 1) := by decide +kernel
theorem dX5_cheaperMetal_48 : decode cX5_cheaperMetal 48 = .ok (.goto 4, 3) := by decide +kernel
theorem dX5_cheaperMetal_51 : decode cX5_cheaperMetal 51 = .ok (.iconst 1, 1) := by decide +kernel
theorem dX5_cheaperMetal_52 : decode cX5_cheaperMetal 52 = .ok (.ireturn, 1) := by decide +kernel
theorem dX5_world_0 : decode cX5_world 0 = .ok (.iload_n 1, 1) := by decide +kernel
theorem dX5_world_1 : decode cX5_world 1 = .ok (.invokestatic 83, 3) := by decide +kernel
theorem dX5_world_4 : decode cX5_world 4 = .ok (.iload_n 2, 1) := by decide +kernel
theorem dX5_world_5 : decode cX5_world 5 = .ok (.iconst 0, 1) := by decide +kernel
theorem dX5_world_6 : decode cX5_world 6 = .ok (.iconst 5, 1) := by decide +kernel
theorem dX5_world_7 : decode cX5_world 7 = .ok (.invokestatic 53, 3) := by decide +kernel
theorem dX5_world_10 : decode cX5_world 10 = .ok (.aload_n 0, 1) := by decide +kernel
theorem dX5_world_11 : decode cX5_world 11 = .ok (.iload_n 1, 1) := by decide +kernel
theorem dX5_world_12 : decode cX5_world 12 = .ok (.iload_n 2, 1) := by decide +kernel
theorem dX5_world_13 : decode cX5_world 13 = .ok (.invokevirtual 306, 3) := by decide +kernel
theorem dX5_world_16 : decode cX5_world 16 = .ok (.ireturn, 1) := by decide +kernel
theorem dX5_worldFact_0 : decode cX5_worldFact 0 = .ok (.iload_n 2, 1) := by decide +kernel
theorem dX5_worldFact_1 : decode cX5_worldFact 1 = .ok (.tableswitch 74 0 4 #[35, 41, 47, 56, 65], 35) := by decide +kernel
theorem dX5_worldFact_36 : decode cX5_worldFact 36 = .ok (.aload_n 0, 1) := by decide +kernel
theorem dX5_worldFact_37 : decode cX5_worldFact 37 = .ok (.iload_n 1, 1) := by decide +kernel
theorem dX5_worldFact_38 : decode cX5_worldFact 38 = .ok (.invokevirtual 309, 3) := by decide +kernel
theorem dX5_worldFact_41 : decode cX5_worldFact 41 = .ok (.ireturn, 1) := by decide +kernel
theorem dX5_worldFact_42 : decode cX5_worldFact 42 = .ok (.aload_n 0, 1) := by decide +kernel
theorem dX5_worldFact_43 : decode cX5_worldFact 43 = .ok (.iload_n 1, 1) := by decide +kernel
theorem dX5_worldFact_44 : decode cX5_worldFact 44 = .ok (.invokevirtual 312, 3) := by decide +kernel
theorem dX5_worldFact_47 : decode cX5_worldFact 47 = .ok (.ireturn, 1) := by decide +kernel
theorem dX5_worldFact_48 : decode cX5_worldFact 48 = .ok (.aload_n 0, 1) := by decide +kernel
theorem dX5_worldFact_49 : decode cX5_worldFact 49 = .ok (.getfield 36, 3) := by decide +kernel
theorem dX5_worldFact_52 : decode cX5_worldFact 52 = .ok (.iload_n 1, 1) := by decide +kernel
theorem dX5_worldFact_53 : decode cX5_worldFact 53 = .ok (.invokevirtual 111, 3) := by decide +kernel
theorem dX5_worldFact_56 : decode cX5_worldFact 56 = .ok (.ireturn, 1) := by decide +kernel
theorem dX5_worldFact_57 : decode cX5_worldFact 57 = .ok (.aload_n 0, 1) := by decide +kernel
theorem dX5_worldFact_58 : decode cX5_worldFact 58 = .ok (.getfield 40, 3) := by decide +kernel
theorem dX5_worldFact_61 : decode cX5_worldFact 61 = .ok (.iload_n 1, 1) := by decide +kernel
theorem dX5_worldFact_62 : decode cX5_worldFact 62 = .ok (.invokevirtual 111, 3) := by decide +kernel
theorem dX5_worldFact_65 : decode cX5_worldFact 65 = .ok (.ireturn, 1) := by decide +kernel
theorem dX5_worldFact_66 : decode cX5_worldFact 66 = .ok (.aload_n 0, 1) := by decide +kernel
theorem dX5_worldFact_67 : decode cX5_worldFact 67 = .ok (.getfield 43, 3) := by decide +kernel
theorem dX5_worldFact_70 : decode cX5_worldFact 70 = .ok (.iload_n 1, 1) := by decide +kernel
theorem dX5_worldFact_71 : decode cX5_worldFact 71 = .ok (.invokevirtual 111, 3) := by decide +kernel
theorem dX5_worldFact_74 : decode cX5_worldFact 74 = .ok (.ireturn, 1) := by decide +kernel
theorem dX5_worldFact_75 : decode cX5_worldFact 75 = .ok (.aload_n 0, 1) := by decide +kernel
theorem dX5_worldFact_76 : decode cX5_worldFact 76 = .ok (.getfield 46, 3) := by decide +kernel
theorem dX5_worldFact_79 : decode cX5_worldFact 79 = .ok (.iload_n 1, 1) := by decide +kernel
theorem dX5_worldFact_80 : decode cX5_worldFact 80 = .ok (.invokevirtual 111, 3) := by decide +kernel
theorem dX5_worldFact_83 : decode cX5_worldFact 83 = .ok (.ireturn, 1) := by decide +kernel
theorem dX5_inVaults_0 : decode cX5_inVaults 0 = .ok (.iconst 0, 1) := by decide +kernel
theorem dX5_inVaults_1 : decode cX5_inVaults 1 = .ok (.istore_n 2, 1) := by decide +kernel
theorem dX5_inVaults_2 : decode cX5_inVaults 2 = .ok (.aload_n 0, 1) := by decide +kernel
theorem dX5_inVaults_3 : decode cX5_inVaults 3 = .ok (.getfield 15, 3) := by decide +kernel
theorem dX5_inVaults_6 : decode cX5_inVaults 6 = .ok (.astore_n 3, 1) := by decide +kernel
theorem dX5_inVaults_7 : decode cX5_inVaults 7 = .ok (.aload_n 3, 1) := by decide +kernel
theorem dX5_inVaults_8 : decode cX5_inVaults 8 = .ok (.arraylength, 1) := by decide +kernel
theorem dX5_inVaults_9 : decode cX5_inVaults 9 = .ok (.istore 4, 2) := by decide +kernel
theorem dX5_inVaults_11 : decode cX5_inVaults 11 = .ok (.iconst 0, 1) := by decide +kernel
theorem dX5_inVaults_12 : decode cX5_inVaults 12 = .ok (.istore 5, 2) := by decide +kernel
theorem dX5_inVaults_14 : decode cX5_inVaults 14 = .ok (.iload 5, 2) := by decide +kernel
theorem dX5_inVaults_16 : decode cX5_inVaults 16 = .ok (.iload 4, 2) := by decide +kernel
theorem dX5_inVaults_18 : decode cX5_inVaults 18 = .ok (.if_icmp .ge 32, 3) := by decide +kernel
theorem dX5_inVaults_21 : decode cX5_inVaults 21 = .ok (.aload_n 3, 1) := by decide +kernel
theorem dX5_inVaults_22 : decode cX5_inVaults 22 = .ok (.iload 5, 2) := by decide +kernel
theorem dX5_inVaults_24 : decode cX5_inVaults 24 = .ok (.aaload, 1) := by decide +kernel
theorem dX5_inVaults_25 : decode cX5_inVaults 25 = .ok (.astore 6, 2) := by decide +kernel
theorem dX5_inVaults_27 : decode cX5_inVaults 27 = .ok (.aload 6, 2) := by decide +kernel
theorem dX5_inVaults_29 : decode cX5_inVaults 29 = .ok (.ifnull 15, 3) := by decide +kernel
theorem dX5_inVaults_32 : decode cX5_inVaults 32 = .ok (.iload_n 2, 1) := by decide +kernel
theorem dX5_inVaults_33 : decode cX5_inVaults 33 = .ok (.aload 6, 2) := by decide +kernel
theorem dX5_inVaults_35 : decode cX5_inVaults 35 = .ok (.getfield 108, 3) := by decide +kernel
theorem dX5_inVaults_38 : decode cX5_inVaults 38 = .ok (.iload_n 1, 1) := by decide +kernel
theorem dX5_inVaults_39 : decode cX5_inVaults 39 = .ok (.invokevirtual 111, 3) := by decide +kernel
theorem dX5_inVaults_42 : decode cX5_inVaults 42 = .ok (.iadd, 1) := by decide +kernel
theorem dX5_inVaults_43 : decode cX5_inVaults 43 = .ok (.istore_n 2, 1) := by decide +kernel
theorem dX5_inVaults_44 : decode cX5_inVaults 44 = .ok (.iinc 5 1, 3) := by decide +kernel
theorem dX5_inVaults_47 : decode cX5_inVaults 47 = .ok (.goto (-33), 3) := by decide +kernel
theorem dX5_inVaults_50 : decode cX5_inVaults 50 = .ok (.iload_n 2, 1) := by decide +kernel
theorem dX5_inVaults_51 : decode cX5_inVaults 51 = .ok (.ireturn, 1) := by decide +kernel
theorem dX5_inPurses_0 : decode cX5_inPurses 0 = .ok (.iconst 0, 1) := by decide +kernel
theorem dX5_inPurses_1 : decode cX5_inPurses 1 = .ok (.istore_n 2, 1) := by decide +kernel
theorem dX5_inPurses_2 : decode cX5_inPurses 2 = .ok (.aload_n 0, 1) := by decide +kernel
theorem dX5_inPurses_3 : decode cX5_inPurses 3 = .ok (.getfield 21, 3) := by decide +kernel
theorem dX5_inPurses_6 : decode cX5_inPurses 6 = .ok (.astore_n 3, 1) := by decide +kernel
theorem dX5_inPurses_7 : decode cX5_inPurses 7 = .ok (.aload_n 3, 1) := by decide +kernel
theorem dX5_inPurses_8 : decode cX5_inPurses 8 = .ok (.arraylength, 1) := by decide +kernel
theorem dX5_inPurses_9 : decode cX5_inPurses 9 = .ok (.istore 4, 2) := by decide +kernel
theorem dX5_inPurses_11 : decode cX5_inPurses 11 = .ok (.iconst 0, 1) := by decide +kernel
theorem dX5_inPurses_12 : decode cX5_inPurses 12 = .ok (.istore 5, 2) := by decide +kernel
theorem dX5_inPurses_14 : decode cX5_inPurses 14 = .ok (.iload 5, 2) := by decide +kernel
theorem dX5_inPurses_16 : decode cX5_inPurses 16 = .ok (.iload 4, 2) := by decide +kernel
theorem dX5_inPurses_18 : decode cX5_inPurses 18 = .ok (.if_icmp .ge 32, 3) := by decide +kernel
theorem dX5_inPurses_21 : decode cX5_inPurses 21 = .ok (.aload_n 3, 1) := by decide +kernel
theorem dX5_inPurses_22 : decode cX5_inPurses 22 = .ok (.iload 5, 2) := by decide +kernel
theorem dX5_inPurses_24 : decode cX5_inPurses 24 = .ok (.aaload, 1) := by decide +kernel
theorem dX5_inPurses_25 : decode cX5_inPurses 25 = .ok (.astore 6, 2) := by decide +kernel
theorem dX5_inPurses_27 : decode cX5_inPurses 27 = .ok (.aload 6, 2) := by decide +kernel
theorem dX5_inPurses_29 : decode cX5_inPurses 29 = .ok (.ifnull 15, 3) := by decide +kernel
theorem dX5_inPurses_32 : decode cX5_inPurses 32 = .ok (.iload_n 2, 1) := by decide +kernel
theorem dX5_inPurses_33 : decode cX5_inPurses 33 = .ok (.aload 6, 2) := by decide +kernel
theorem dX5_inPurses_35 : decode cX5_inPurses 35 = .ok (.getfield 135, 3) := by decide +kernel
theorem dX5_inPurses_38 : decode cX5_inPurses 38 = .ok (.iload_n 1, 1) := by decide +kernel
theorem dX5_inPurses_39 : decode cX5_inPurses 39 = .ok (.invokevirtual 111, 3) := by decide +kernel
theorem dX5_inPurses_42 : decode cX5_inPurses 42 = .ok (.iadd, 1) := by decide +kernel
theorem dX5_inPurses_43 : decode cX5_inPurses 43 = .ok (.istore_n 2, 1) := by decide +kernel
theorem dX5_inPurses_44 : decode cX5_inPurses 44 = .ok (.iinc 5 1, 3) := by decide +kernel
theorem dX5_inPurses_47 : decode cX5_inPurses 47 = .ok (.goto (-33), 3) := by decide +kernel
theorem dX5_inPurses_50 : decode cX5_inPurses 50 = .ok (.iload_n 2, 1) := by decide +kernel
theorem dX5_inPurses_51 : decode cX5_inPurses 51 = .ok (.ireturn, 1) := by decide +kernel
theorem dX5_trip_0 : decode cX5_trip 0 = .ok (.aload_n 0, 1) := by decide +kernel
theorem dX5_trip_1 : decode cX5_trip 1 = .ok (.iload_n 1, 1) := by decide +kernel
theorem dX5_trip_2 : decode cX5_trip 2 = .ok (.invokevirtual 73, 3) := by decide +kernel
theorem dX5_trip_5 : decode cX5_trip 5 = .ok (.astore 5, 2) := by decide +kernel
theorem dX5_trip_7 : decode cX5_trip 7 = .ok (.aload_n 0, 1) := by decide +kernel
theorem dX5_trip_8 : decode cX5_trip 8 = .ok (.iload_n 2, 1) := by decide +kernel
theorem dX5_trip_9 : decode cX5_trip 9 = .ok (.invokevirtual 73, 3) := by decide +kernel
theorem dX5_trip_12 : decode cX5_trip 12 = .ok (.astore 6, 2) := by decide +kernel
theorem dX5_trip_14 : decode cX5_trip 14 = .ok (.iload_n 1, 1) := by decide +kernel
theorem dX5_trip_15 : decode cX5_trip 15 = .ok (.iload_n 2, 1) := by decide +kernel
theorem dX5_trip_16 : decode cX5_trip 16 = .ok (.invokestatic 95, 3) := by decide +kernel
theorem dX5_trip_19 : decode cX5_trip 19 = .ok (.iload_n 3, 1) := by decide +kernel
theorem dX5_trip_20 : decode cX5_trip 20 = .ok (.invokestatic 83, 3) := by decide +kernel
theorem dX5_trip_23 : decode cX5_trip 23 = .ok (.iload 4, 2) := by decide +kernel
theorem dX5_trip_25 : decode cX5_trip 25 = .ok (.iconst 0, 1) := by decide +kernel
theorem dX5_trip_26 : decode cX5_trip 26 = .ok (.ldc 52, 2) := by decide +kernel
theorem dX5_trip_28 : decode cX5_trip 28 = .ok (.invokestatic 53, 3) := by decide +kernel
theorem dX5_trip_31 : decode cX5_trip 31 = .ok (.aload 5, 2) := by decide +kernel
theorem dX5_trip_33 : decode cX5_trip 33 = .ok (.aload 6, 2) := by decide +kernel
theorem dX5_trip_35 : decode cX5_trip 35 = .ok (.iload_n 3, 1) := by decide +kernel
theorem dX5_trip_36 : decode cX5_trip 36 = .ok (.iload 4, 2) := by decide +kernel
theorem dX5_trip_38 : decode cX5_trip 38 = .ok (.invokestatic 329, 3) := by decide +kernel
theorem dX5_trip_41 : decode cX5_trip 41 = .ok (.ireturn, 1) := by decide +kernel
theorem dX5_comesOfTrip_0 : decode cX5_comesOfTrip 0 = .ok (.aload_n 0, 1) := by decide +kernel
theorem dX5_comesOfTrip_1 : decode cX5_comesOfTrip 1 = .ok (.aload_n 1, 1) := by decide +kernel
theorem dX5_comesOfTrip_2 : decode cX5_comesOfTrip 2 = .ok (.getfield 98, 3) := by decide +kernel
theorem dX5_comesOfTrip_5 : decode cX5_comesOfTrip 5 = .ok (.invokevirtual 151, 3) := by decide +kernel
theorem dX5_comesOfTrip_8 : decode cX5_comesOfTrip 8 = .ok (.istore 4, 2) := by decide +kernel
theorem dX5_comesOfTrip_10 : decode cX5_comesOfTrip 10 = .ok (.aload_n 0, 1) := by decide +kernel
theorem dX5_comesOfTrip_11 : decode cX5_comesOfTrip 11 = .ok (.iload_n 2, 1) := by decide +kernel
theorem dX5_comesOfTrip_12 : decode cX5_comesOfTrip 12 = .ok (.iload_n 3, 1) := by decide +kernel
theorem dX5_comesOfTrip_13 : decode cX5_comesOfTrip 13 = .ok (.invokevirtual 140, 3) := by decide +kernel
theorem dX5_comesOfTrip_16 : decode cX5_comesOfTrip 16 = .ok (.istore 5, 2) := by decide +kernel
theorem dX5_comesOfTrip_18 : decode cX5_comesOfTrip 18 = .ok (.iload 5, 2) := by decide +kernel
theorem dX5_comesOfTrip_20 : decode cX5_comesOfTrip 20 = .ok (.iload 5, 2) := by decide +kernel
theorem dX5_comesOfTrip_22 : decode cX5_comesOfTrip 22 = .ok (.iload 4, 2) := by decide +kernel
theorem dX5_comesOfTrip_24 : decode cX5_comesOfTrip 24 = .ok (.invokestatic 168, 3) := by decide +kernel
theorem dX5_comesOfTrip_27 : decode cX5_comesOfTrip 27 = .ok (.isub, 1) := by decide +kernel
theorem dX5_comesOfTrip_28 : decode cX5_comesOfTrip 28 = .ok (.istore 6, 2) := by decide +kernel
theorem dX5_comesOfTrip_30 : decode cX5_comesOfTrip 30 = .ok (.aload_n 1, 1) := by decide +kernel
theorem dX5_comesOfTrip_31 : decode cX5_comesOfTrip 31 = .ok (.iload_n 2, 1) := by decide +kernel
theorem dX5_comesOfTrip_32 : decode cX5_comesOfTrip 32 = .ok (.invokestatic 144, 3) := by decide +kernel
theorem dX5_comesOfTrip_35 : decode cX5_comesOfTrip 35 = .ok (.iload 6, 2) := by decide +kernel
theorem dX5_comesOfTrip_37 : decode cX5_comesOfTrip 37 = .ok (.invokevirtual 140, 3) := by decide +kernel
theorem dX5_comesOfTrip_40 : decode cX5_comesOfTrip 40 = .ok (.istore 7, 2) := by decide +kernel
theorem dX5_comesOfTrip_42 : decode cX5_comesOfTrip 42 = .ok (.iload 7, 2) := by decide +kernel
theorem dX5_comesOfTrip_44 : decode cX5_comesOfTrip 44 = .ok (.iload 7, 2) := by decide +kernel
theorem dX5_comesOfTrip_46 : decode cX5_comesOfTrip 46 = .ok (.iload 4, 2) := by decide +kernel
theorem dX5_comesOfTrip_48 : decode cX5_comesOfTrip 48 = .ok (.invokestatic 168, 3) := by decide +kernel
theorem dX5_comesOfTrip_51 : decode cX5_comesOfTrip 51 = .ok (.isub, 1) := by decide +kernel
theorem dX5_comesOfTrip_52 : decode cX5_comesOfTrip 52 = .ok (.ireturn, 1) := by decide +kernel
theorem dX5_bestTrip_0 : decode cX5_bestTrip 0 = .ok (.aload_n 0, 1) := by decide +kernel
theorem dX5_bestTrip_1 : decode cX5_bestTrip 1 = .ok (.iload_n 1, 1) := by decide +kernel
theorem dX5_bestTrip_2 : decode cX5_bestTrip 2 = .ok (.invokevirtual 73, 3) := by decide +kernel
theorem dX5_bestTrip_5 : decode cX5_bestTrip 5 = .ok (.astore 4, 2) := by decide +kernel
theorem dX5_bestTrip_7 : decode cX5_bestTrip 7 = .ok (.iload_n 2, 1) := by decide +kernel
theorem dX5_bestTrip_8 : decode cX5_bestTrip 8 = .ok (.invokestatic 83, 3) := by decide +kernel
theorem dX5_bestTrip_11 : decode cX5_bestTrip 11 = .ok (.iload_n 3, 1) := by decide +kernel
theorem dX5_bestTrip_12 : decode cX5_bestTrip 12 = .ok (.iconst 0, 1) := by decide +kernel
theorem dX5_bestTrip_13 : decode cX5_bestTrip 13 = .ok (.ldc 52, 2) := by decide +kernel
theorem dX5_bestTrip_15 : decode cX5_bestTrip 15 = .ok (.invokestatic 53, 3) := by decide +kernel
theorem dX5_bestTrip_18 : decode cX5_bestTrip 18 = .ok (.aload_n 0, 1) := by decide +kernel
theorem dX5_bestTrip_19 : decode cX5_bestTrip 19 = .ok (.aload 4, 2) := by decide +kernel
theorem dX5_bestTrip_21 : decode cX5_bestTrip 21 = .ok (.iload_n 2, 1) := by decide +kernel
theorem dX5_bestTrip_22 : decode cX5_bestTrip 22 = .ok (.iload_n 3, 1) := by decide +kernel
theorem dX5_bestTrip_23 : decode cX5_bestTrip 23 = .ok (.invokevirtual 333, 3) := by decide +kernel
theorem dX5_bestTrip_26 : decode cX5_bestTrip 26 = .ok (.ireturn, 1) := by decide +kernel
theorem dX5_bestOver_0 : decode cX5_bestOver 0 = .ok (.iconst (-1), 1) := by decide +kernel
theorem dX5_bestOver_1 : decode cX5_bestOver 1 = .ok (.istore 4, 2) := by decide +kernel
theorem dX5_bestOver_3 : decode cX5_bestOver 3 = .ok (.iload_n 3, 1) := by decide +kernel
theorem dX5_bestOver_4 : decode cX5_bestOver 4 = .ok (.istore 5, 2) := by decide +kernel
theorem dX5_bestOver_6 : decode cX5_bestOver 6 = .ok (.aload_n 0, 1) := by decide +kernel
theorem dX5_bestOver_7 : decode cX5_bestOver 7 = .ok (.getfield 15, 3) := by decide +kernel
theorem dX5_bestOver_10 : decode cX5_bestOver 10 = .ok (.astore 6, 2) := by decide +kernel
theorem dX5_bestOver_12 : decode cX5_bestOver 12 = .ok (.aload 6, 2) := by decide +kernel
theorem dX5_bestOver_14 : decode cX5_bestOver 14 = .ok (.arraylength, 1) := by decide +kernel
theorem dX5_bestOver_15 : decode cX5_bestOver 15 = .ok (.istore 7, 2) := by decide +kernel
theorem dX5_bestOver_17 : decode cX5_bestOver 17 = .ok (.iconst 0, 1) := by decide +kernel
theorem dX5_bestOver_18 : decode cX5_bestOver 18 = .ok (.istore 8, 2) := by decide +kernel
theorem dX5_bestOver_20 : decode cX5_bestOver 20 = .ok (.iload 8, 2) := by decide +kernel
theorem dX5_bestOver_22 : decode cX5_bestOver 22 = .ok (.iload 7, 2) := by decide +kernel
theorem dX5_bestOver_24 : decode cX5_bestOver 24 = .ok (.if_icmp .ge 55, 3) := by decide +kernel
theorem dX5_bestOver_27 : decode cX5_bestOver 27 = .ok (.aload 6, 2) := by decide +kernel
theorem dX5_bestOver_29 : decode cX5_bestOver 29 = .ok (.iload 8, 2) := by decide +kernel
theorem dX5_bestOver_31 : decode cX5_bestOver 31 = .ok (.aaload, 1) := by decide +kernel
theorem dX5_bestOver_32 : decode cX5_bestOver 32 = .ok (.astore 9, 2) := by decide +kernel
theorem dX5_bestOver_34 : decode cX5_bestOver 34 = .ok (.aload 9, 2) := by decide +kernel
theorem dX5_bestOver_36 : decode cX5_bestOver 36 = .ok (.ifnull 37, 3) := by decide +kernel
theorem dX5_bestOver_39 : decode cX5_bestOver 39 = .ok (.aload 9, 2) := by decide +kernel
theorem dX5_bestOver_41 : decode cX5_bestOver 41 = .ok (.aload_n 1, 1) := by decide +kernel
theorem dX5_bestOver_42 : decode cX5_bestOver 42 = .ok (.if_acmp .eq 31, 3) := by decide +kernel
theorem dX5_bestOver_45 : decode cX5_bestOver 45 = .ok (.aload_n 1, 1) := by decide +kernel
theorem dX5_bestOver_46 : decode cX5_bestOver 46 = .ok (.aload 9, 2) := by decide +kernel
theorem dX5_bestOver_48 : decode cX5_bestOver 48 = .ok (.iload_n 2, 1) := by decide +kernel
theorem dX5_bestOver_49 : decode cX5_bestOver 49 = .ok (.iload_n 3, 1) := by decide +kernel
theorem dX5_bestOver_50 : decode cX5_bestOver 50 = .ok (.invokestatic 329, 3) := by decide +kernel
theorem dX5_bestOver_53 : decode cX5_bestOver 53 = .ok (.istore 10, 2) := by decide +kernel
theorem dX5_bestOver_55 : decode cX5_bestOver 55 = .ok (.iload 10, 2) := by decide +kernel
theorem dX5_bestOver_57 : decode cX5_bestOver 57 = .ok (.iload 5, 2) := by decide +kernel
theorem dX5_bestOver_59 : decode cX5_bestOver 59 = .ok (.if_icmp .le 14, 3) := by decide +kernel
theorem dX5_bestOver_62 : decode cX5_bestOver 62 = .ok (.iload 10, 2) := by decide +kernel
theorem dX5_bestOver_64 : decode cX5_bestOver 64 = .ok (.istore 5, 2) := by decide +kernel
theorem dX5_bestOver_66 : decode cX5_bestOver 66 = .ok (.aload 9, 2) := by decide +kernel
theorem dX5_bestOver_68 : decode cX5_bestOver 68 = .ok (.getfield 98, 3) := by decide +kernel
theorem dX5_bestOver_71 : decode cX5_bestOver 71 = .ok (.istore 4, 2) := by decide +kernel
theorem dX5_bestOver_73 : decode cX5_bestOver 73 = .ok (.iinc 8 1, 3) := by decide +kernel
theorem dX5_bestOver_76 : decode cX5_bestOver 76 = .ok (.goto (-56), 3) := by decide +kernel
theorem dX5_bestOver_79 : decode cX5_bestOver 79 = .ok (.iload 4, 2) := by decide +kernel
theorem dX5_bestOver_81 : decode cX5_bestOver 81 = .ok (.ireturn, 1) := by decide +kernel
theorem dX5_rest_0 : decode cX5_rest 0 = .ok (.iload_n 1, 1) := by decide +kernel
theorem dX5_rest_1 : decode cX5_rest 1 = .ok (.iconst 0, 1) := by decide +kernel
theorem dX5_rest_2 : decode cX5_rest 2 = .ok (.ldc 52, 2) := by decide +kernel
theorem dX5_rest_4 : decode cX5_rest 4 = .ok (.invokestatic 53, 3) := by decide +kernel
theorem dX5_rest_7 : decode cX5_rest 7 = .ok (.aload_n 0, 1) := by decide +kernel
theorem dX5_rest_8 : decode cX5_rest 8 = .ok (.iload_n 1, 1) := by decide +kernel
theorem dX5_rest_9 : decode cX5_rest 9 = .ok (.invokevirtual 337, 3) := by decide +kernel
theorem dX5_rest_12 : decode cX5_rest 12 = .ok (.ireturn, 1) := by decide +kernel
theorem dX5_isRest_0 : decode cX5_isRest 0 = .ok (.aload_n 0, 1) := by decide +kernel
theorem dX5_isRest_1 : decode cX5_isRest 1 = .ok (.getfield 15, 3) := by decide +kernel
theorem dX5_isRest_4 : decode cX5_isRest 4 = .ok (.astore_n 2, 1) := by decide +kernel
theorem dX5_isRest_5 : decode cX5_isRest 5 = .ok (.aload_n 2, 1) := by decide +kernel
theorem dX5_isRest_6 : decode cX5_isRest 6 = .ok (.arraylength, 1) := by decide +kernel
theorem dX5_isRest_7 : decode cX5_isRest 7 = .ok (.istore_n 3, 1) := by decide +kernel
theorem dX5_isRest_8 : decode cX5_isRest 8 = .ok (.iconst 0, 1) := by decide +kernel
theorem dX5_isRest_9 : decode cX5_isRest 9 = .ok (.istore 4, 2) := by decide +kernel
theorem dX5_isRest_11 : decode cX5_isRest 11 = .ok (.iload 4, 2) := by decide +kernel
theorem dX5_isRest_13 : decode cX5_isRest 13 = .ok (.iload_n 3, 1) := by decide +kernel
theorem dX5_isRest_14 : decode cX5_isRest 14 = .ok (.if_icmp .ge 46, 3) := by decide +kernel
theorem dX5_isRest_17 : decode cX5_isRest 17 = .ok (.aload_n 2, 1) := by decide +kernel
theorem dX5_isRest_18 : decode cX5_isRest 18 = .ok (.iload 4, 2) := by decide +kernel
theorem dX5_isRest_20 : decode cX5_isRest 20 = .ok (.aaload, 1) := by decide +kernel
theorem dX5_isRest_21 : decode cX5_isRest 21 = .ok (.astore 5, 2) := by decide +kernel
theorem dX5_isRest_23 : decode cX5_isRest 23 = .ok (.aload 5, 2) := by decide +kernel
theorem dX5_isRest_25 : decode cX5_isRest 25 = .ok (.ifnull 29, 3) := by decide +kernel
theorem dX5_isRest_28 : decode cX5_isRest 28 = .ok (.aload_n 0, 1) := by decide +kernel
theorem dX5_isRest_29 : decode cX5_isRest 29 = .ok (.aload 5, 2) := by decide +kernel
theorem dX5_isRest_31 : decode cX5_isRest 31 = .ok (.iconst 0, 1) := by decide +kernel
theorem dX5_isRest_32 : decode cX5_isRest 32 = .ok (.iload_n 1, 1) := by decide +kernel
theorem dX5_isRest_33 : decode cX5_isRest 33 = .ok (.invokevirtual 333, 3) := by decide +kernel
theorem dX5_isRest_36 : decode cX5_isRest 36 = .ok (.iconst (-1), 1) := by decide +kernel
theorem dX5_isRest_37 : decode cX5_isRest 37 = .ok (.if_icmp .ne 15, 3) := by decide +kernel
theorem dX5_isRest_40 : decode cX5_isRest 40 = .ok (.aload_n 0, 1) := by decide +kernel
theorem dX5_isRest_41 : decode cX5_isRest 41 = .ok (.aload 5, 2) := by decide +kernel
theorem dX5_isRest_43 : decode cX5_isRest 43 = .ok (.iconst 1, 1) := by decide +kernel
theorem dX5_isRest_44 : decode cX5_isRest 44 = .ok (.iload_n 1, 1) := by decide +kernel
theorem dX5_isRest_45 : decode cX5_isRest 45 = .ok (.invokevirtual 333, 3) := by decide +kernel
theorem dX5_isRest_48 : decode cX5_isRest 48 = .ok (.iconst (-1), 1) := by decide +kernel
theorem dX5_isRest_49 : decode cX5_isRest 49 = .ok (.if_icmp .eq 5, 3) := by decide +kernel
theorem dX5_isRest_52 : decode cX5_isRest 52 = .ok (.iconst 0, 1) := by decide +kernel
theorem dX5_isRest_53 : decode cX5_isRest 53 = .ok (.ireturn, 1) := by decide +kernel
theorem dX5_isRest_54 : decode cX5_isRest 54 = .ok (.iinc 4 1, 3) := by decide +kernel
theorem dX5_isRest_57 : decode cX5_isRest 57 = .ok (.goto (-46), 3) := by decide +kernel
theorem dX5_isRest_60 : decode cX5_isRest 60 = .ok (.iconst 1, 1) := by decide +kernel
theorem dX5_isRest_61 : decode cX5_isRest 61 = .ok (.ireturn, 1) := by decide +kernel
theorem dX5_last_0 : decode cX5_last 0 = .ok (.aload_n 0, 1) := by decide +kernel
theorem dX5_last_1 : decode cX5_last 1 = .ok (.iload_n 1, 1) := by decide +kernel
theorem dX5_last_2 : decode cX5_last 2 = .ok (.invokevirtual 73, 3) := by decide +kernel
theorem dX5_last_5 : decode cX5_last 5 = .ok (.astore 4, 2) := by decide +kernel
theorem dX5_last_7 : decode cX5_last 7 = .ok (.iload_n 2, 1) := by decide +kernel
theorem dX5_last_8 : decode cX5_last 8 = .ok (.invokestatic 83, 3) := by decide +kernel
theorem dX5_last_11 : decode cX5_last 11 = .ok (.iload_n 3, 1) := by decide +kernel
theorem dX5_last_12 : decode cX5_last 12 = .ok (.iconst 1, 1) := by decide +kernel
theorem dX5_last_13 : decode cX5_last 13 = .ok (.ldc 52, 2) := by decide +kernel
theorem dX5_last_15 : decode cX5_last 15 = .ok (.invokestatic 53, 3) := by decide +kernel
