theorem dX5_last_18 : decode cX5_last 18 = .ok (.aload_n 0, 1) := by decide +kernel
theorem dX5_last_19 : decode cX5_last 19 = .ok (.aload 4, 2) := by decide +kernel
theorem dX5_last_21 : decode cX5_last 21 = .ok (.getfield 108, 3) := by decide +kernel
theorem dX5_last_24 : decode cX5_last 24 = .ok (.iload_n 2, 1) := by decide +kernel
theorem dX5_last_25 : decode cX5_last 25 = .ok (.iload_n 3, 1) := by decide +kernel
theorem dX5_last_26 : decode cX5_last 26 = .ok (.invokevirtual 340, 3) := by decide +kernel
theorem dX5_last_29 : decode cX5_last 29 = .ok (.ireturn, 1) := by decide +kernel
theorem dX5_firstDayShort_0 : decode cX5_firstDayShort 0 = .ok (.aload_n 1, 1) := by decide +kernel
theorem dX5_firstDayShort_1 : decode cX5_firstDayShort 1 = .ok (.iload_n 2, 1) := by decide +kernel
theorem dX5_firstDayShort_2 : decode cX5_firstDayShort 2 = .ok (.invokevirtual 111, 3) := by decide +kernel
theorem dX5_firstDayShort_5 : decode cX5_firstDayShort 5 = .ok (.istore 4, 2) := by decide +kernel
theorem dX5_firstDayShort_7 : decode cX5_firstDayShort 7 = .ok (.aload_n 0, 1) := by decide +kernel
theorem dX5_firstDayShort_8 : decode cX5_firstDayShort 8 = .ok (.getfield 158, 3) := by decide +kernel
theorem dX5_firstDayShort_11 : decode cX5_firstDayShort 11 = .ok (.istore 5, 2) := by decide +kernel
theorem dX5_firstDayShort_13 : decode cX5_firstDayShort 13 = .ok (.iload 5, 2) := by decide +kernel
theorem dX5_firstDayShort_15 : decode cX5_firstDayShort 15 = .ok (.sipush 3000, 3) := by decide +kernel
theorem dX5_firstDayShort_18 : decode cX5_firstDayShort 18 = .ok (.if_icmp .gt 57, 3) := by decide +kernel
theorem dX5_firstDayShort_21 : decode cX5_firstDayShort 21 = .ok (.iload_n 2, 1) := by decide +kernel
theorem dX5_firstDayShort_22 : decode cX5_firstDayShort 22 = .ok (.iconst 1, 1) := by decide +kernel
theorem dX5_firstDayShort_23 : decode cX5_firstDayShort 23 = .ok (.if_icmp .ne 31, 3) := by decide +kernel
theorem dX5_firstDayShort_26 : decode cX5_firstDayShort 26 = .ok (.iload 5, 2) := by decide +kernel
theorem dX5_firstDayShort_28 : decode cX5_firstDayShort 28 = .ok (.aload_n 0, 1) := by decide +kernel
theorem dX5_firstDayShort_29 : decode cX5_firstDayShort 29 = .ok (.getfield 158, 3) := by decide +kernel
theorem dX5_firstDayShort_32 : decode cX5_firstDayShort 32 = .ok (.if_icmp .le 22, 3) := by decide +kernel
theorem dX5_firstDayShort_35 : decode cX5_firstDayShort 35 = .ok (.iload 5, 2) := by decide +kernel
theorem dX5_firstDayShort_37 : decode cX5_firstDayShort 37 = .ok (.invokestatic 179, 3) := by decide +kernel
theorem dX5_firstDayShort_40 : decode cX5_firstDayShort 40 = .ok (.ifCond .eq 14, 3) := by decide +kernel
theorem dX5_firstDayShort_43 : decode cX5_firstDayShort 43 = .ok (.iload 4, 2) := by decide +kernel
theorem dX5_firstDayShort_45 : decode cX5_firstDayShort 45 = .ok (.iload 4, 2) := by decide +kernel
theorem dX5_firstDayShort_47 : decode cX5_firstDayShort 47 = .ok (.sipush 10000, 3) := by decide +kernel
theorem dX5_firstDayShort_50 : decode cX5_firstDayShort 50 = .ok (.idiv, 1) := by decide +kernel
theorem dX5_firstDayShort_51 : decode cX5_firstDayShort 51 = .ok (.isub, 1) := by decide +kernel
theorem dX5_firstDayShort_52 : decode cX5_firstDayShort 52 = .ok (.istore 4, 2) := by decide +kernel
theorem dX5_firstDayShort_54 : decode cX5_firstDayShort 54 = .ok (.iload 4, 2) := by decide +kernel
theorem dX5_firstDayShort_56 : decode cX5_firstDayShort 56 = .ok (.iload_n 3, 1) := by decide +kernel
theorem dX5_firstDayShort_57 : decode cX5_firstDayShort 57 = .ok (.if_icmp .ge 6, 3) := by decide +kernel
theorem dX5_firstDayShort_60 : decode cX5_firstDayShort 60 = .ok (.iload 5, 2) := by decide +kernel
theorem dX5_firstDayShort_62 : decode cX5_firstDayShort 62 = .ok (.ireturn, 1) := by decide +kernel
theorem dX5_firstDayShort_63 : decode cX5_firstDayShort 63 = .ok (.iload 4, 2) := by decide +kernel
theorem dX5_firstDayShort_65 : decode cX5_firstDayShort 65 = .ok (.iload_n 3, 1) := by decide +kernel
theorem dX5_firstDayShort_66 : decode cX5_firstDayShort 66 = .ok (.isub, 1) := by decide +kernel
theorem dX5_firstDayShort_67 : decode cX5_firstDayShort 67 = .ok (.istore 4, 2) := by decide +kernel
theorem dX5_firstDayShort_69 : decode cX5_firstDayShort 69 = .ok (.iinc 5 1, 3) := by decide +kernel
theorem dX5_firstDayShort_72 : decode cX5_firstDayShort 72 = .ok (.goto (-59), 3) := by decide +kernel
theorem dX5_firstDayShort_75 : decode cX5_firstDayShort 75 = .ok (.iconst (-1), 1) := by decide +kernel
theorem dX5_firstDayShort_76 : decode cX5_firstDayShort 76 = .ok (.ireturn, 1) := by decide +kernel
theorem dX5_isSound_0 : decode cX5_isSound 0 = .ok (.aload_n 0, 1) := by decide +kernel
theorem dX5_isSound_1 : decode cX5_isSound 1 = .ok (.iconst 0, 1) := by decide +kernel
theorem dX5_isSound_2 : decode cX5_isSound 2 = .ok (.invokevirtual 344, 3) := by decide +kernel
theorem dX5_isSound_5 : decode cX5_isSound 5 = .ok (.ifCond .eq 36, 3) := by decide +kernel
theorem dX5_isSound_8 : decode cX5_isSound 8 = .ok (.aload_n 0, 1) := by decide +kernel
theorem dX5_isSound_9 : decode cX5_isSound 9 = .ok (.iconst 1, 1) := by decide +kernel
theorem dX5_isSound_10 : decode cX5_isSound 10 = .ok (.invokevirtual 344, 3) := by decide +kernel
theorem dX5_isSound_13 : decode cX5_isSound 13 = .ok (.ifCond .eq 28, 3) := by decide +kernel
theorem dX5_isSound_16 : decode cX5_isSound 16 = .ok (.aload_n 0, 1) := by decide +kernel
theorem dX5_isSound_17 : decode cX5_isSound 17 = .ok (.invokevirtual 347, 3) := by decide +kernel
theorem dX5_isSound_20 : decode cX5_isSound 20 = .ok (.ifCond .eq 21, 3) := by decide +kernel
theorem dX5_isSound_23 : decode cX5_isSound 23 = .ok (.aload_n 0, 1) := by decide +kernel
theorem dX5_isSound_24 : decode cX5_isSound 24 = .ok (.invokevirtual 351, 3) := by decide +kernel
theorem dX5_isSound_27 : decode cX5_isSound 27 = .ok (.ifCond .eq 14, 3) := by decide +kernel
theorem dX5_isSound_30 : decode cX5_isSound 30 = .ok (.aload_n 0, 1) := by decide +kernel
theorem dX5_isSound_31 : decode cX5_isSound 31 = .ok (.invokevirtual 354, 3) := by decide +kernel
theorem dX5_isSound_34 : decode cX5_isSound 34 = .ok (.ifCond .eq 7, 3) := by decide +kernel
theorem dX5_isSound_37 : decode cX5_isSound 37 = .ok (.iconst 1, 1) := by decide +kernel
theorem dX5_isSound_38 : decode cX5_isSound 38 = .ok (.goto 4, 3) := by decide +kernel
theorem dX5_isSound_41 : decode cX5_isSound 41 = .ok (.iconst 0, 1) := by decide +kernel
theorem dX5_isSound_42 : decode cX5_isSound 42 = .ok (.ireturn, 1) := by decide +kernel
theorem dX5_isKept_0 : decode cX5_isKept 0 = .ok (.aload_n 0, 1) := by decide +kernel
theorem dX5_isKept_1 : decode cX5_isKept 1 = .ok (.iload_n 1, 1) := by decide +kernel
theorem dX5_isKept_2 : decode cX5_isKept 2 = .ok (.invokevirtual 309, 3) := by decide +kernel
theorem dX5_isKept_5 : decode cX5_isKept 5 = .ok (.aload_n 0, 1) := by decide +kernel
theorem dX5_isKept_6 : decode cX5_isKept 6 = .ok (.iload_n 1, 1) := by decide +kernel
theorem dX5_isKept_7 : decode cX5_isKept 7 = .ok (.invokevirtual 312, 3) := by decide +kernel
theorem dX5_isKept_10 : decode cX5_isKept 10 = .ok (.iadd, 1) := by decide +kernel
theorem dX5_isKept_11 : decode cX5_isKept 11 = .ok (.aload_n 0, 1) := by decide +kernel
theorem dX5_isKept_12 : decode cX5_isKept 12 = .ok (.getfield 36, 3) := by decide +kernel
theorem dX5_isKept_15 : decode cX5_isKept 15 = .ok (.iload_n 1, 1) := by decide +kernel
theorem dX5_isKept_16 : decode cX5_isKept 16 = .ok (.invokevirtual 111, 3) := by decide +kernel
theorem dX5_isKept_19 : decode cX5_isKept 19 = .ok (.iadd, 1) := by decide +kernel
theorem dX5_isKept_20 : decode cX5_isKept 20 = .ok (.aload_n 0, 1) := by decide +kernel
theorem dX5_isKept_21 : decode cX5_isKept 21 = .ok (.getfield 40, 3) := by decide +kernel
theorem dX5_isKept_24 : decode cX5_isKept 24 = .ok (.iload_n 1, 1) := by decide +kernel
theorem dX5_isKept_25 : decode cX5_isKept 25 = .ok (.invokevirtual 111, 3) := by decide +kernel
theorem dX5_isKept_28 : decode cX5_isKept 28 = .ok (.iadd, 1) := by decide +kernel
theorem dX5_isKept_29 : decode cX5_isKept 29 = .ok (.aload_n 0, 1) := by decide +kernel
theorem dX5_isKept_30 : decode cX5_isKept 30 = .ok (.getfield 43, 3) := by decide +kernel
theorem dX5_isKept_33 : decode cX5_isKept 33 = .ok (.iload_n 1, 1) := by decide +kernel
theorem dX5_isKept_34 : decode cX5_isKept 34 = .ok (.invokevirtual 111, 3) := by decide +kernel
theorem dX5_isKept_37 : decode cX5_isKept 37 = .ok (.iadd, 1) := by decide +kernel
theorem dX5_isKept_38 : decode cX5_isKept 38 = .ok (.istore_n 2, 1) := by decide +kernel
theorem dX5_isKept_39 : decode cX5_isKept 39 = .ok (.iload_n 2, 1) := by decide +kernel
theorem dX5_isKept_40 : decode cX5_isKept 40 = .ok (.aload_n 0, 1) := by decide +kernel
theorem dX5_isKept_41 : decode cX5_isKept 41 = .ok (.getfield 46, 3) := by decide +kernel
theorem dX5_isKept_44 : decode cX5_isKept 44 = .ok (.iload_n 1, 1) := by decide +kernel
theorem dX5_isKept_45 : decode cX5_isKept 45 = .ok (.invokevirtual 111, 3) := by decide +kernel
theorem dX5_isKept_48 : decode cX5_isKept 48 = .ok (.if_icmp .ne 7, 3) := by decide +kernel
theorem dX5_isKept_51 : decode cX5_isKept 51 = .ok (.iconst 1, 1) := by decide +kernel
theorem dX5_isKept_52 : decode cX5_isKept 52 = .ok (.goto 4, 3) := by decide +kernel
theorem dX5_isKept_55 : decode cX5_isKept 55 = .ok (.iconst 0, 1) := by decide +kernel
theorem dX5_isKept_56 : decode cX5_isKept 56 = .ok (.ireturn, 1) := by decide +kernel
theorem dX5_areCountriesSound_0 : decode cX5_areCountriesSound 0 = .ok (.aload_n 0, 1) := by decide +kernel
theorem dX5_areCountriesSound_1 : decode cX5_areCountriesSound 1 = .ok (.getfield 15, 3) := by decide +kernel
theorem dX5_areCountriesSound_4 : decode cX5_areCountriesSound 4 = .ok (.astore_n 1, 1) := by decide +kernel
theorem dX5_areCountriesSound_5 : decode cX5_areCountriesSound 5 = .ok (.aload_n 1, 1) := by decide +kernel
theorem dX5_areCountriesSound_6 : decode cX5_areCountriesSound 6 = .ok (.arraylength, 1) := by decide +kernel
theorem dX5_areCountriesSound_7 : decode cX5_areCountriesSound 7 = .ok (.istore_n 2, 1) := by decide +kernel
theorem dX5_areCountriesSound_8 : decode cX5_areCountriesSound 8 = .ok (.iconst 0, 1) := by decide +kernel
theorem dX5_areCountriesSound_9 : decode cX5_areCountriesSound 9 = .ok (.istore_n 3, 1) := by decide +kernel
theorem dX5_areCountriesSound_10 : decode cX5_areCountriesSound 10 = .ok (.iload_n 3, 1) := by decide +kernel
theorem dX5_areCountriesSound_11 : decode cX5_areCountriesSound 11 = .ok (.iload_n 2, 1) := by decide +kernel
theorem dX5_areCountriesSound_12 : decode cX5_areCountriesSound 12 = .ok (.if_icmp .ge 43, 3) := by decide +kernel
theorem dX5_areCountriesSound_15 : decode cX5_areCountriesSound 15 = .ok (.aload_n 1, 1) := by decide +kernel
theorem dX5_areCountriesSound_16 : decode cX5_areCountriesSound 16 = .ok (.iload_n 3, 1) := by decide +kernel
theorem dX5_areCountriesSound_17 : decode cX5_areCountriesSound 17 = .ok (.aaload, 1) := by decide +kernel
theorem dX5_areCountriesSound_18 : decode cX5_areCountriesSound 18 = .ok (.astore 4, 2) := by decide +kernel
theorem dX5_areCountriesSound_20 : decode cX5_areCountriesSound 20 = .ok (.aload 4, 2) := by decide +kernel
theorem dX5_areCountriesSound_22 : decode cX5_areCountriesSound 22 = .ok (.ifnull 27, 3) := by decide +kernel
theorem dX5_areCountriesSound_25 : decode cX5_areCountriesSound 25 = .ok (.aload 4, 2) := by decide +kernel
theorem dX5_areCountriesSound_27 : decode cX5_areCountriesSound 27 = .ok (.getfield 108, 3) := by decide +kernel
theorem dX5_areCountriesSound_30 : decode cX5_areCountriesSound 30 = .ok (.invokevirtual 357, 3) := by decide +kernel
theorem dX5_areCountriesSound_33 : decode cX5_areCountriesSound 33 = .ok (.ifCond .ne 14, 3) := by decide +kernel
theorem dX5_areCountriesSound_36 : decode cX5_areCountriesSound 36 = .ok (.aload 4, 2) := by decide +kernel
theorem dX5_areCountriesSound_38 : decode cX5_areCountriesSound 38 = .ok (.getfield 221, 3) := by decide +kernel
theorem dX5_areCountriesSound_41 : decode cX5_areCountriesSound 41 = .ok (.invokevirtual 360, 3) := by decide +kernel
theorem dX5_areCountriesSound_44 : decode cX5_areCountriesSound 44 = .ok (.ifCond .eq 5, 3) := by decide +kernel
theorem dX5_areCountriesSound_47 : decode cX5_areCountriesSound 47 = .ok (.iconst 0, 1) := by decide +kernel
theorem dX5_areCountriesSound_48 : decode cX5_areCountriesSound 48 = .ok (.ireturn, 1) := by decide +kernel
theorem dX5_areCountriesSound_49 : decode cX5_areCountriesSound 49 = .ok (.iinc 3 1, 3) := by decide +kernel
theorem dX5_areCountriesSound_52 : decode cX5_areCountriesSound 52 = .ok (.goto (-42), 3) := by decide +kernel
theorem dX5_areCountriesSound_55 : decode cX5_areCountriesSound 55 = .ok (.iconst 1, 1) := by decide +kernel
theorem dX5_areCountriesSound_56 : decode cX5_areCountriesSound 56 = .ok (.ireturn, 1) := by decide +kernel
theorem dX5_areHousesSound_0 : decode cX5_areHousesSound 0 = .ok (.aload_n 0, 1) := by decide +kernel
theorem dX5_areHousesSound_1 : decode cX5_areHousesSound 1 = .ok (.getfield 21, 3) := by decide +kernel
theorem dX5_areHousesSound_4 : decode cX5_areHousesSound 4 = .ok (.astore_n 1, 1) := by decide +kernel
theorem dX5_areHousesSound_5 : decode cX5_areHousesSound 5 = .ok (.aload_n 1, 1) := by decide +kernel
theorem dX5_areHousesSound_6 : decode cX5_areHousesSound 6 = .ok (.arraylength, 1) := by decide +kernel
theorem dX5_areHousesSound_7 : decode cX5_areHousesSound 7 = .ok (.istore_n 2, 1) := by decide +kernel
theorem dX5_areHousesSound_8 : decode cX5_areHousesSound 8 = .ok (.iconst 0, 1) := by decide +kernel
theorem dX5_areHousesSound_9 : decode cX5_areHousesSound 9 = .ok (.istore_n 3, 1) := by decide +kernel
theorem dX5_areHousesSound_10 : decode cX5_areHousesSound 10 = .ok (.iload_n 3, 1) := by decide +kernel
theorem dX5_areHousesSound_11 : decode cX5_areHousesSound 11 = .ok (.iload_n 2, 1) := by decide +kernel
theorem dX5_areHousesSound_12 : decode cX5_areHousesSound 12 = .ok (.if_icmp .ge 44, 3) := by decide +kernel
theorem dX5_areHousesSound_15 : decode cX5_areHousesSound 15 = .ok (.aload_n 1, 1) := by decide +kernel
theorem dX5_areHousesSound_16 : decode cX5_areHousesSound 16 = .ok (.iload_n 3, 1) := by decide +kernel
theorem dX5_areHousesSound_17 : decode cX5_areHousesSound 17 = .ok (.aaload, 1) := by decide +kernel
theorem dX5_areHousesSound_18 : decode cX5_areHousesSound 18 = .ok (.astore 4, 2) := by decide +kernel
theorem dX5_areHousesSound_20 : decode cX5_areHousesSound 20 = .ok (.aload 4, 2) := by decide +kernel
theorem dX5_areHousesSound_22 : decode cX5_areHousesSound 22 = .ok (.ifnull 28, 3) := by decide +kernel
theorem dX5_areHousesSound_25 : decode cX5_areHousesSound 25 = .ok (.aload 4, 2) := by decide +kernel
theorem dX5_areHousesSound_27 : decode cX5_areHousesSound 27 = .ok (.getfield 135, 3) := by decide +kernel
theorem dX5_areHousesSound_30 : decode cX5_areHousesSound 30 = .ok (.invokevirtual 357, 3) := by decide +kernel
theorem dX5_areHousesSound_33 : decode cX5_areHousesSound 33 = .ok (.ifCond .ne 15, 3) := by decide +kernel
theorem dX5_areHousesSound_36 : decode cX5_areHousesSound 36 = .ok (.aload 4, 2) := by decide +kernel
theorem dX5_areHousesSound_38 : decode cX5_areHousesSound 38 = .ok (.aload_n 0, 1) := by decide +kernel
theorem dX5_areHousesSound_39 : decode cX5_areHousesSound 39 = .ok (.getfield 158, 3) := by decide +kernel
theorem dX5_areHousesSound_42 : decode cX5_areHousesSound 42 = .ok (.invokevirtual 361, 3) := by decide +kernel
theorem dX5_areHousesSound_45 : decode cX5_areHousesSound 45 = .ok (.ifCond .eq 5, 3) := by decide +kernel
theorem dX5_areHousesSound_48 : decode cX5_areHousesSound 48 = .ok (.iconst 0, 1) := by decide +kernel
theorem dX5_areHousesSound_49 : decode cX5_areHousesSound 49 = .ok (.ireturn, 1) := by decide +kernel
theorem dX5_areHousesSound_50 : decode cX5_areHousesSound 50 = .ok (.iinc 3 1, 3) := by decide +kernel
theorem dX5_areHousesSound_53 : decode cX5_areHousesSound 53 = .ok (.goto (-43), 3) := by decide +kernel
theorem dX5_areHousesSound_56 : decode cX5_areHousesSound 56 = .ok (.iconst 1, 1) := by decide +kernel
theorem dX5_areHousesSound_57 : decode cX5_areHousesSound 57 = .ok (.ireturn, 1) := by decide +kernel
theorem dX5_areRoadsTheSame_0 : decode cX5_areRoadsTheSame 0 = .ok (.aload_n 0, 1) := by decide +kernel
theorem dX5_areRoadsTheSame_1 : decode cX5_areRoadsTheSame 1 = .ok (.getfield 15, 3) := by decide +kernel
theorem dX5_areRoadsTheSame_4 : decode cX5_areRoadsTheSame 4 = .ok (.astore_n 1, 1) := by decide +kernel
theorem dX5_areRoadsTheSame_5 : decode cX5_areRoadsTheSame 5 = .ok (.aload_n 1, 1) := by decide +kernel
theorem dX5_areRoadsTheSame_6 : decode cX5_areRoadsTheSame 6 = .ok (.arraylength, 1) := by decide +kernel
theorem dX5_areRoadsTheSame_7 : decode cX5_areRoadsTheSame 7 = .ok (.istore_n 2, 1) := by decide +kernel
theorem dX5_areRoadsTheSame_8 : decode cX5_areRoadsTheSame 8 = .ok (.iconst 0, 1) := by decide +kernel
theorem dX5_areRoadsTheSame_9 : decode cX5_areRoadsTheSame 9 = .ok (.istore_n 3, 1) := by decide +kernel
theorem dX5_areRoadsTheSame_10 : decode cX5_areRoadsTheSame 10 = .ok (.iload_n 3, 1) := by decide +kernel
theorem dX5_areRoadsTheSame_11 : decode cX5_areRoadsTheSame 11 = .ok (.iload_n 2, 1) := by decide +kernel
theorem dX5_areRoadsTheSame_12 : decode cX5_areRoadsTheSame 12 = .ok (.if_icmp .ge 70, 3) := by decide +kernel
theorem dX5_areRoadsTheSame_15 : decode cX5_areRoadsTheSame 15 = .ok (.aload_n 1, 1) := by decide +kernel
theorem dX5_areRoadsTheSame_16 : decode cX5_areRoadsTheSame 16 = .ok (.iload_n 3, 1) := by decide +kernel
theorem dX5_areRoadsTheSame_17 : decode cX5_areRoadsTheSame 17 = .ok (.aaload, 1) := by decide +kernel
theorem dX5_areRoadsTheSame_18 : decode cX5_areRoadsTheSame 18 = .ok (.astore 4, 2) := by decide +kernel
theorem dX5_areRoadsTheSame_20 : decode cX5_areRoadsTheSame 20 = .ok (.aload_n 0, 1) := by decide +kernel
theorem dX5_areRoadsTheSame_21 : decode cX5_areRoadsTheSame 21 = .ok (.getfield 15, 3) := by decide +kernel
theorem dX5_areRoadsTheSame_24 : decode cX5_areRoadsTheSame 24 = .ok (.astore 5, 2) := by decide +kernel
theorem dX5_areRoadsTheSame_26 : decode cX5_areRoadsTheSame 26 = .ok (.aload 5, 2) := by decide +kernel
theorem dX5_areRoadsTheSame_28 : decode cX5_areRoadsTheSame 28 = .ok (.arraylength, 1) := by decide +kernel
theorem dX5_areRoadsTheSame_29 : decode cX5_areRoadsTheSame 29 = .ok (.istore 6, 2) := by decide +kernel
theorem dX5_areRoadsTheSame_31 : decode cX5_areRoadsTheSame 31 = .ok (.iconst 0, 1) := by decide +kernel
theorem dX5_areRoadsTheSame_32 : decode cX5_areRoadsTheSame 32 = .ok (.istore 7, 2) := by decide +kernel
theorem dX5_areRoadsTheSame_34 : decode cX5_areRoadsTheSame 34 = .ok (.iload 7, 2) := by decide +kernel
theorem dX5_areRoadsTheSame_36 : decode cX5_areRoadsTheSame 36 = .ok (.iload 6, 2) := by decide +kernel
theorem dX5_areRoadsTheSame_38 : decode cX5_areRoadsTheSame 38 = .ok (.if_icmp .ge 38, 3) := by decide +kernel
theorem dX5_areRoadsTheSame_41 : decode cX5_areRoadsTheSame 41 = .ok (.aload 5, 2) := by decide +kernel
theorem dX5_areRoadsTheSame_43 : decode cX5_areRoadsTheSame 43 = .ok (.iload 7, 2) := by decide +kernel
theorem dX5_areRoadsTheSame_45 : decode cX5_areRoadsTheSame 45 = .ok (.aaload, 1) := by decide +kernel
theorem dX5_areRoadsTheSame_46 : decode cX5_areRoadsTheSame 46 = .ok (.astore 8, 2) := by decide +kernel
theorem dX5_areRoadsTheSame_48 : decode cX5_areRoadsTheSame 48 = .ok (.aload 4, 2) := by decide +kernel
theorem dX5_areRoadsTheSame_50 : decode cX5_areRoadsTheSame 50 = .ok (.ifnull 20, 3) := by decide +kernel
theorem dX5_areRoadsTheSame_53 : decode cX5_areRoadsTheSame 53 = .ok (.aload 8, 2) := by decide +kernel
theorem dX5_areRoadsTheSame_55 : decode cX5_areRoadsTheSame 55 = .ok (.ifnull 15, 3) := by decide +kernel
theorem dX5_areRoadsTheSame_58 : decode cX5_areRoadsTheSame 58 = .ok (.aload 4, 2) := by decide +kernel
theorem dX5_areRoadsTheSame_60 : decode cX5_areRoadsTheSame 60 = .ok (.aload 8, 2) := by decide +kernel
theorem dX5_areRoadsTheSame_62 : decode cX5_areRoadsTheSame 62 = .ok (.invokestatic 364, 3) := by decide +kernel
theorem dX5_areRoadsTheSame_65 : decode cX5_areRoadsTheSame 65 = .ok (.ifCond .ne 5, 3) := by decide +kernel
theorem dX5_areRoadsTheSame_68 : decode cX5_areRoadsTheSame 68 = .ok (.iconst 0, 1) := by decide +kernel
theorem dX5_areRoadsTheSame_69 : decode cX5_areRoadsTheSame 69 = .ok (.ireturn, 1) := by decide +kernel
theorem dX5_areRoadsTheSame_70 : decode cX5_areRoadsTheSame 70 = .ok (.iinc 7 1, 3) := by decide +kernel
theorem dX5_areRoadsTheSame_73 : decode cX5_areRoadsTheSame 73 = .ok (.goto (-39), 3) := by decide +kernel
theorem dX5_areRoadsTheSame_76 : decode cX5_areRoadsTheSame 76 = .ok (.iinc 3 1, 3) := by decide +kernel
theorem dX5_areRoadsTheSame_79 : decode cX5_areRoadsTheSame 79 = .ok (.goto (-69), 3) := by decide +kernel
theorem dX5_areRoadsTheSame_82 : decode cX5_areRoadsTheSame 82 = .ok (.iconst 1, 1) := by decide +kernel
theorem dX5_areRoadsTheSame_83 : decode cX5_areRoadsTheSame 83 = .ok (.ireturn, 1) := by decide +kernel
theorem dX5_hasSameRoads_0 : decode cX5_hasSameRoads 0 = .ok (.aload_n 0, 1) := by decide +kernel
theorem dX5_hasSameRoads_1 : decode cX5_hasSameRoads 1 = .ok (.aload_n 1, 1) := by decide +kernel
theorem dX5_hasSameRoads_2 : decode cX5_hasSameRoads 2 = .ok (.getfield 98, 3) := by decide +kernel
theorem dX5_hasSameRoads_5 : decode cX5_hasSameRoads 5 = .ok (.invokevirtual 101, 3) := by decide +kernel
theorem dX5_hasSameRoads_8 : decode cX5_hasSameRoads 8 = .ok (.aload_n 1, 1) := by decide +kernel
theorem dX5_hasSameRoads_9 : decode cX5_hasSameRoads 9 = .ok (.aload_n 0, 1) := by decide +kernel
theorem dX5_hasSameRoads_10 : decode cX5_hasSameRoads 10 = .ok (.getfield 98, 3) := by decide +kernel
theorem dX5_hasSameRoads_13 : decode cX5_hasSameRoads 13 = .ok (.invokevirtual 101, 3) := by decide +kernel
theorem dX5_hasSameRoads_16 : decode cX5_hasSameRoads 16 = .ok (.if_icmp .ne 26, 3) := by decide +kernel
theorem dX5_hasSameRoads_19 : decode cX5_hasSameRoads 19 = .ok (.aload_n 0, 1) := by decide +kernel
theorem dX5_hasSameRoads_20 : decode cX5_hasSameRoads 20 = .ok (.aload_n 1, 1) := by decide +kernel
theorem dX5_hasSameRoads_21 : decode cX5_hasSameRoads 21 = .ok (.getfield 98, 3) := by decide +kernel
theorem dX5_hasSameRoads_24 : decode cX5_hasSameRoads 24 = .ok (.invokevirtual 151, 3) := by decide +kernel
theorem dX5_hasSameRoads_27 : decode cX5_hasSameRoads 27 = .ok (.aload_n 1, 1) := by decide +kernel
theorem dX5_hasSameRoads_28 : decode cX5_hasSameRoads 28 = .ok (.aload_n 0, 1) := by decide +kernel
theorem dX5_hasSameRoads_29 : decode cX5_hasSameRoads 29 = .ok (.getfield 98, 3) := by decide +kernel
theorem dX5_hasSameRoads_32 : decode cX5_hasSameRoads 32 = .ok (.invokevirtual 151, 3) := by decide +kernel
theorem dX5_hasSameRoads_35 : decode cX5_hasSameRoads 35 = .ok (.if_icmp .ne 7, 3) := by decide +kernel
theorem dX5_hasSameRoads_38 : decode cX5_hasSameRoads 38 = .ok (.iconst 1, 1) := by decide +kernel
theorem dX5_hasSameRoads_39 : decode cX5_hasSameRoads 39 = .ok (.goto 4, 3) := by decide +kernel
theorem dX5_hasSameRoads_42 : decode cX5_hasSameRoads 42 = .ok (.iconst 0, 1) := by decide +kernel
theorem dX5_hasSameRoads_43 : decode cX5_hasSameRoads 43 = .ok (.ireturn, 1) := by decide +kernel
theorem dX5_digest_0 : decode cX5_digest 0 = .ok (.ldc2_w 368, 3) := by decide +kernel
theorem dX5_digest_3 : decode cX5_digest 3 = .ok (.lstore_n 1, 1) := by decide +kernel
theorem dX5_digest_4 : decode cX5_digest 4 = .ok (.lload_n 1, 1) := by decide +kernel
theorem dX5_digest_5 : decode cX5_digest 5 = .ok (.ldc2_w 370, 3) := by decide +kernel
theorem dX5_digest_8 : decode cX5_digest 8 = .ok (.lmul, 1) := by decide +kernel
theorem dX5_digest_9 : decode cX5_digest 9 = .ok (.aload_n 0, 1) := by decide +kernel
theorem dX5_digest_10 : decode cX5_digest 10 = .ok (.getfield 158, 3) := by decide +kernel
theorem dX5_digest_13 : decode cX5_digest 13 = .ok (.i2l, 1) := by decide +kernel
theorem dX5_digest_14 : decode cX5_digest 14 = .ok (.ladd, 1) := by decide +kernel
theorem dX5_digest_15 : decode cX5_digest 15 = .ok (.lstore_n 1, 1) := by decide +kernel
theorem dX5_digest_16 : decode cX5_digest 16 = .ok (.lload_n 1, 1) := by decide +kernel
theorem dX5_digest_17 : decode cX5_digest 17 = .ok (.ldc2_w 370, 3) := by decide +kernel
theorem dX5_digest_20 : decode cX5_digest 20 = .ok (.lmul, 1) := by decide +kernel
theorem dX5_digest_21 : decode cX5_digest 21 = .ok (.aload_n 0, 1) := by decide +kernel
theorem dX5_digest_22 : decode cX5_digest 22 = .ok (.getfield 9, 3) := by decide +kernel
theorem dX5_digest_25 : decode cX5_digest 25 = .ok (.i2l, 1) := by decide +kernel
theorem dX5_digest_26 : decode cX5_digest 26 = .ok (.ladd, 1) := by decide +kernel
theorem dX5_digest_27 : decode cX5_digest 27 = .ok (.lstore_n 1, 1) := by decide +kernel
theorem dX5_digest_28 : decode cX5_digest 28 = .ok (.aload_n 0, 1) := by decide +kernel
theorem dX5_digest_29 : decode cX5_digest 29 = .ok (.lload_n 1, 1) := by decide +kernel
theorem dX5_digest_30 : decode cX5_digest 30 = .ok (.iconst 0, 1) := by decide +kernel
theorem dX5_digest_31 : decode cX5_digest 31 = .ok (.invokevirtual 372, 3) := by decide +kernel
theorem dX5_digest_34 : decode cX5_digest 34 = .ok (.lstore_n 1, 1) := by decide +kernel
theorem dX5_digest_35 : decode cX5_digest 35 = .ok (.aload_n 0, 1) := by decide +kernel
theorem dX5_digest_36 : decode cX5_digest 36 = .ok (.lload_n 1, 1) := by decide +kernel
theorem dX5_digest_37 : decode cX5_digest 37 = .ok (.iconst 1, 1) := by decide +kernel
theorem dX5_digest_38 : decode cX5_digest 38 = .ok (.invokevirtual 372, 3) := by decide +kernel
theorem dX5_digest_41 : decode cX5_digest 41 = .ok (.lstore_n 1, 1) := by decide +kernel
theorem dX5_digest_42 : decode cX5_digest 42 = .ok (.aload_n 0, 1) := by decide +kernel
theorem dX5_digest_43 : decode cX5_digest 43 = .ok (.getfield 15, 3) := by decide +kernel
theorem dX5_digest_46 : decode cX5_digest 46 = .ok (.astore_n 3, 1) := by decide +kernel
theorem dX5_digest_47 : decode cX5_digest 47 = .ok (.aload_n 3, 1) := by decide +kernel
theorem dX5_digest_48 : decode cX5_digest 48 = .ok (.arraylength, 1) := by decide +kernel
theorem dX5_digest_49 : decode cX5_digest 49 = .ok (.istore 4, 2) := by decide +kernel
theorem dX5_digest_51 : decode cX5_digest 51 = .ok (.iconst 0, 1) := by decide +kernel
theorem dX5_digest_52 : decode cX5_digest 52 = .ok (.istore 5, 2) := by decide +kernel
theorem dX5_digest_54 : decode cX5_digest 54 = .ok (.iload 5, 2) := by decide +kernel
theorem dX5_digest_56 : decode cX5_digest 56 = .ok (.iload 4, 2) := by decide +kernel
theorem dX5_digest_58 : decode cX5_digest 58 = .ok (.if_icmp .ge 28, 3) := by decide +kernel
theorem dX5_digest_61 : decode cX5_digest 61 = .ok (.aload_n 3, 1) := by decide +kernel
theorem dX5_digest_62 : decode cX5_digest 62 = .ok (.iload 5, 2) := by decide +kernel
theorem dX5_digest_64 : decode cX5_digest 64 = .ok (.aaload, 1) := by decide +kernel
theorem dX5_digest_65 : decode cX5_digest 65 = .ok (.astore 6, 2) := by decide +kernel
theorem dX5_digest_67 : decode cX5_digest 67 = .ok (.aload 6, 2) := by decide +kernel
theorem dX5_digest_69 : decode cX5_digest 69 = .ok (.ifnull 11, 3) := by decide +kernel
theorem dX5_digest_72 : decode cX5_digest 72 = .ok (.aload_n 0, 1) := by decide +kernel
theorem dX5_digest_73 : decode cX5_digest 73 = .ok (.lload_n 1, 1) := by decide +kernel
theorem dX5_digest_74 : decode cX5_digest 74 = .ok (.aload 6, 2) := by decide +kernel
theorem dX5_digest_76 : decode cX5_digest 76 = .ok (.invokevirtual 376, 3) := by decide +kernel
theorem dX5_digest_79 : decode cX5_digest 79 = .ok (.lstore_n 1, 1) := by decide +kernel
theorem dX5_digest_80 : decode cX5_digest 80 = .ok (.iinc 5 1, 3) := by decide +kernel
theorem dX5_digest_83 : decode cX5_digest 83 = .ok (.goto (-29), 3) := by decide +kernel
theorem dX5_digest_86 : decode cX5_digest 86 = .ok (.aload_n 0, 1) := by decide +kernel
theorem dX5_digest_87 : decode cX5_digest 87 = .ok (.getfield 21, 3) := by decide +kernel
theorem dX5_digest_90 : decode cX5_digest 90 = .ok (.astore_n 3, 1) := by decide +kernel
theorem dX5_digest_91 : decode cX5_digest 91 = .ok (.aload_n 3, 1) := by decide +kernel
theorem dX5_digest_92 : decode cX5_digest 92 = .ok (.arraylength, 1) := by decide +kernel
theorem dX5_digest_93 : decode cX5_digest 93 = .ok (.istore 4, 2) := by decide +kernel
theorem dX5_digest_95 : decode cX5_digest 95 = .ok (.iconst 0, 1) := by decide +kernel
theorem dX5_digest_96 : decode cX5_digest 96 = .ok (.istore 5, 2) := by decide +kernel
theorem dX5_digest_98 : decode cX5_digest 98 = .ok (.iload 5, 2) := by decide +kernel
theorem dX5_digest_100 : decode cX5_digest 100 = .ok (.iload 4, 2) := by decide +kernel
theorem dX5_digest_102 : decode cX5_digest 102 = .ok (.if_icmp .ge 28, 3) := by decide +kernel
theorem dX5_digest_105 : decode cX5_digest 105 = .ok (.aload_n 3, 1) := by decide +kernel
theorem dX5_digest_106 : decode cX5_digest 106 = .ok (.iload 5, 2) := by decide +kernel
theorem dX5_digest_108 : decode cX5_digest 108 = .ok (.aaload, 1) := by decide +kernel
theorem dX5_digest_109 : decode cX5_digest 109 = .ok (.astore 6, 2) := by decide +kernel
theorem dX5_digest_111 : decode cX5_digest 111 = .ok (.aload 6, 2) := by decide +kernel
theorem dX5_digest_113 : decode cX5_digest 113 = .ok (.ifnull 11, 3) := by decide +kernel
theorem dX5_digest_116 : decode cX5_digest 116 = .ok (.aload_n 0, 1) := by decide +kernel
theorem dX5_digest_117 : decode cX5_digest 117 = .ok (.lload_n 1, 1) := by decide +kernel
theorem dX5_digest_118 : decode cX5_digest 118 = .ok (.aload 6, 2) := by decide +kernel
theorem dX5_digest_120 : decode cX5_digest 120 = .ok (.invokevirtual 380, 3) := by decide +kernel
theorem dX5_digest_123 : decode cX5_digest 123 = .ok (.lstore_n 1, 1) := by decide +kernel
theorem dX5_digest_124 : decode cX5_digest 124 = .ok (.iinc 5 1, 3) := by decide +kernel
theorem dX5_digest_127 : decode cX5_digest 127 = .ok (.goto (-29), 3) := by decide +kernel
theorem dX5_digest_130 : decode cX5_digest 130 = .ok (.aload_n 0, 1) := by decide +kernel
theorem dX5_digest_131 : decode cX5_digest 131 = .ok (.getfield 27, 3) := by decide +kernel
theorem dX5_digest_134 : decode cX5_digest 134 = .ok (.astore_n 3, 1) := by decide +kernel
theorem dX5_digest_135 : decode cX5_digest 135 = .ok (.aload_n 3, 1) := by decide +kernel
theorem dX5_digest_136 : decode cX5_digest 136 = .ok (.arraylength, 1) := by decide +kernel
theorem dX5_digest_137 : decode cX5_digest 137 = .ok (.istore 4, 2) := by decide +kernel
theorem dX5_digest_139 : decode cX5_digest 139 = .ok (.iconst 0, 1) := by decide +kernel
theorem dX5_digest_140 : decode cX5_digest 140 = .ok (.istore 5, 2) := by decide +kernel
theorem dX5_digest_142 : decode cX5_digest 142 = .ok (.iload 5, 2) := by decide +kernel
theorem dX5_digest_144 : decode cX5_digest 144 = .ok (.iload 4, 2) := by decide +kernel
theorem dX5_digest_146 : decode cX5_digest 146 = .ok (.if_icmp .ge 28, 3) := by decide +kernel
theorem dX5_digest_149 : decode cX5_digest 149 = .ok (.aload_n 3, 1) := by decide +kernel
theorem dX5_digest_150 : decode cX5_digest 150 = .ok (.iload 5, 2) := by decide +kernel
theorem dX5_digest_152 : decode cX5_digest 152 = .ok (.aaload, 1) := by decide +kernel
theorem dX5_digest_153 : decode cX5_digest 153 = .ok (.astore 6, 2) := by decide +kernel
theorem dX5_digest_155 : decode cX5_digest 155 = .ok (.aload 6, 2) := by decide +kernel
theorem dX5_digest_157 : decode cX5_digest 157 = .ok (.ifnull 11, 3) := by decide +kernel
theorem dX5_digest_160 : decode cX5_digest 160 = .ok (.aload_n 0, 1) := by decide +kernel
theorem dX5_digest_161 : decode cX5_digest 161 = .ok (.lload_n 1, 1) := by decide +kernel
theorem dX5_digest_162 : decode cX5_digest 162 = .ok (.aload 6, 2) := by decide +kernel
theorem dX5_digest_164 : decode cX5_digest 164 = .ok (.invokevirtual 384, 3) := by decide +kernel
theorem dX5_digest_167 : decode cX5_digest 167 = .ok (.lstore_n 1, 1) := by decide +kernel
theorem dX5_digest_168 : decode cX5_digest 168 = .ok (.iinc 5 1, 3) := by decide +kernel
theorem dX5_digest_171 : decode cX5_digest 171 = .ok (.goto (-29), 3) := by decide +kernel
theorem dX5_digest_174 : decode cX5_digest 174 = .ok (.lload_n 1, 1) := by decide +kernel
theorem dX5_digest_175 : decode cX5_digest 175 = .ok (.ldc2_w 370, 3) := by decide +kernel
theorem dX5_digest_178 : decode cX5_digest 178 = .ok (.lmul, 1) := by decide +kernel
theorem dX5_digest_179 : decode cX5_digest 179 = .ok (.aload_n 0, 1) := by decide +kernel
theorem dX5_digest_180 : decode cX5_digest 180 = .ok (.sipush 1000, 3) := by decide +kernel
theorem dX5_digest_183 : decode cX5_digest 183 = .ok (.invokevirtual 337, 3) := by decide +kernel
theorem dX5_digest_186 : decode cX5_digest 186 = .ok (.ifCond .eq 7, 3) := by decide +kernel
theorem dX5_digest_189 : decode cX5_digest 189 = .ok (.iconst 1, 1) := by decide +kernel
theorem dX5_digest_190 : decode cX5_digest 190 = .ok (.goto 4, 3) := by decide +kernel
theorem dX5_digest_193 : decode cX5_digest 193 = .ok (.iconst 0, 1) := by decide +kernel
theorem dX5_digest_194 : decode cX5_digest 194 = .ok (.i2l, 1) := by decide +kernel
theorem dX5_digest_195 : decode cX5_digest 195 = .ok (.ladd, 1) := by decide +kernel
theorem dX5_digest_196 : decode cX5_digest 196 = .ok (.lstore_n 1, 1) := by decide +kernel
theorem dX5_digest_197 : decode cX5_digest 197 = .ok (.lload_n 1, 1) := by decide +kernel
theorem dX5_digest_198 : decode cX5_digest 198 = .ok (.ldc2_w 370, 3) := by decide +kernel
theorem dX5_digest_201 : decode cX5_digest 201 = .ok (.lmul, 1) := by decide +kernel
theorem dX5_digest_202 : decode cX5_digest 202 = .ok (.aload_n 0, 1) := by decide +kernel
theorem dX5_digest_203 : decode cX5_digest 203 = .ok (.invokevirtual 388, 3) := by decide +kernel
theorem dX5_digest_206 : decode cX5_digest 206 = .ok (.ifCond .eq 7, 3) := by decide +kernel
theorem dX5_digest_209 : decode cX5_digest 209 = .ok (.iconst 1, 1) := by decide +kernel
theorem dX5_digest_210 : decode cX5_digest 210 = .ok (.goto 4, 3) := by decide +kernel
theorem dX5_digest_213 : decode cX5_digest 213 = .ok (.iconst 0, 1) := by decide +kernel
theorem dX5_digest_214 : decode cX5_digest 214 = .ok (.i2l, 1) := by decide +kernel
theorem dX5_digest_215 : decode cX5_digest 215 = .ok (.ladd, 1) := by decide +kernel
theorem dX5_digest_216 : decode cX5_digest 216 = .ok (.lstore_n 1, 1) := by decide +kernel
theorem dX5_digest_217 : decode cX5_digest 217 = .ok (.lload_n 1, 1) := by decide +kernel
theorem dX5_digest_218 : decode cX5_digest 218 = .ok (.lreturn, 1) := by decide +kernel
theorem dX5_digestWorld_0 : decode cX5_digestWorld 0 = .ok (.lload_n 1, 1) := by decide +kernel
theorem dX5_digestWorld_1 : decode cX5_digestWorld 1 = .ok (.lstore 4, 2) := by decide +kernel
theorem dX5_digestWorld_3 : decode cX5_digestWorld 3 = .ok (.iconst 0, 1) := by decide +kernel
theorem dX5_digestWorld_4 : decode cX5_digestWorld 4 = .ok (.istore 6, 2) := by decide +kernel
theorem dX5_digestWorld_6 : decode cX5_digestWorld 6 = .ok (.iload 6, 2) := by decide +kernel
theorem dX5_digestWorld_8 : decode cX5_digestWorld 8 = .ok (.bipush 6, 2) := by decide +kernel
theorem dX5_digestWorld_10 : decode cX5_digestWorld 10 = .ok (.if_icmp .ge 26, 3) := by decide +kernel
theorem dX5_digestWorld_13 : decode cX5_digestWorld 13 = .ok (.lload 4, 2) := by decide +kernel
theorem dX5_digestWorld_15 : decode cX5_digestWorld 15 = .ok (.ldc2_w 370, 3) := by decide +kernel
theorem dX5_digestWorld_18 : decode cX5_digestWorld 18 = .ok (.lmul, 1) := by decide +kernel
theorem dX5_digestWorld_19 : decode cX5_digestWorld 19 = .ok (.aload_n 0, 1) := by decide +kernel
theorem dX5_digestWorld_20 : decode cX5_digestWorld 20 = .ok (.iload_n 3, 1) := by decide +kernel
theorem dX5_digestWorld_21 : decode cX5_digestWorld 21 = .ok (.iload 6, 2) := by decide +kernel
theorem dX5_digestWorld_23 : decode cX5_digestWorld 23 = .ok (.invokevirtual 306, 3) := by decide +kernel
theorem dX5_digestWorld_26 : decode cX5_digestWorld 26 = .ok (.i2l, 1) := by decide +kernel
theorem dX5_digestWorld_27 : decode cX5_digestWorld 27 = .ok (.ladd, 1) := by decide +kernel
theorem dX5_digestWorld_28 : decode cX5_digestWorld 28 = .ok (.lstore 4, 2) := by decide +kernel
theorem dX5_digestWorld_30 : decode cX5_digestWorld 30 = .ok (.iinc 6 1, 3) := by decide +kernel
theorem dX5_digestWorld_33 : decode cX5_digestWorld 33 = .ok (.goto (-27), 3) := by decide +kernel
theorem dX5_digestWorld_36 : decode cX5_digestWorld 36 = .ok (.lload 4, 2) := by decide +kernel
theorem dX5_digestWorld_38 : decode cX5_digestWorld 38 = .ok (.lreturn, 1) := by decide +kernel
theorem dX5_digestCountry_0 : decode cX5_digestCountry 0 = .ok (.lload_n 1, 1) := by decide +kernel
theorem dX5_digestCountry_1 : decode cX5_digestCountry 1 = .ok (.lstore 4, 2) := by decide +kernel
theorem dX5_digestCountry_3 : decode cX5_digestCountry 3 = .ok (.iconst 0, 1) := by decide +kernel
theorem dX5_digestCountry_4 : decode cX5_digestCountry 4 = .ok (.istore 6, 2) := by decide +kernel
theorem dX5_digestCountry_6 : decode cX5_digestCountry 6 = .ok (.iload 6, 2) := by decide +kernel
theorem dX5_digestCountry_8 : decode cX5_digestCountry 8 = .ok (.bipush 9, 2) := by decide +kernel
theorem dX5_digestCountry_10 : decode cX5_digestCountry 10 = .ok (.if_icmp .ge 26, 3) := by decide +kernel
theorem dX5_digestCountry_13 : decode cX5_digestCountry 13 = .ok (.lload 4, 2) := by decide +kernel
theorem dX5_digestCountry_15 : decode cX5_digestCountry 15 = .ok (.ldc2_w 370, 3) := by decide +kernel
theorem dX5_digestCountry_18 : decode cX5_digestCountry 18 = .ok (.lmul, 1) := by decide +kernel
theorem dX5_digestCountry_19 : decode cX5_digestCountry 19 = .ok (.aload_n 0, 1) := by decide +kernel
theorem dX5_digestCountry_20 : decode cX5_digestCountry 20 = .ok (.aload_n 3, 1) := by decide +kernel
theorem dX5_digestCountry_21 : decode cX5_digestCountry 21 = .ok (.iload 6, 2) := by decide +kernel
theorem dX5_digestCountry_23 : decode cX5_digestCountry 23 = .ok (.invokevirtual 246, 3) := by decide +kernel
theorem dX5_digestCountry_26 : decode cX5_digestCountry 26 = .ok (.i2l, 1) := by decide +kernel
theorem dX5_digestCountry_27 : decode cX5_digestCountry 27 = .ok (.ladd, 1) := by decide +kernel
theorem dX5_digestCountry_28 : decode cX5_digestCountry 28 = .ok (.lstore 4, 2) := by decide +kernel
theorem dX5_digestCountry_30 : decode cX5_digestCountry 30 = .ok (.iinc 6 1, 3) := by decide +kernel
theorem dX5_digestCountry_33 : decode cX5_digestCountry 33 = .ok (.goto (-27), 3) := by decide +kernel
theorem dX5_digestCountry_36 : decode cX5_digestCountry 36 = .ok (.lload 4, 2) := by decide +kernel
theorem dX5_digestCountry_38 : decode cX5_digestCountry 38 = .ok (.ldc2_w 370, 3) := by decide +kernel
theorem dX5_digestCountry_41 : decode cX5_digestCountry 41 = .ok (.lmul, 1) := by decide +kernel
theorem dX5_digestCountry_42 : decode cX5_digestCountry 42 = .ok (.aload_n 3, 1) := by decide +kernel
theorem dX5_digestCountry_43 : decode cX5_digestCountry 43 = .ok (.getfield 221, 3) := by decide +kernel
theorem dX5_digestCountry_46 : decode cX5_digestCountry 46 = .ok (.bipush 37, 2) := by decide +kernel
theorem dX5_digestCountry_48 : decode cX5_digestCountry 48 = .ok (.invokevirtual 238, 3) := by decide +kernel
theorem dX5_digestCountry_51 : decode cX5_digestCountry 51 = .ok (.i2l, 1) := by decide +kernel
theorem dX5_digestCountry_52 : decode cX5_digestCountry 52 = .ok (.ladd, 1) := by decide +kernel
theorem dX5_digestCountry_53 : decode cX5_digestCountry 53 = .ok (.lstore 4, 2) := by decide +kernel
theorem dX5_digestCountry_55 : decode cX5_digestCountry 55 = .ok (.lload 4, 2) := by decide +kernel
theorem dX5_digestCountry_57 : decode cX5_digestCountry 57 = .ok (.ldc2_w 370, 3) := by decide +kernel
theorem dX5_digestCountry_60 : decode cX5_digestCountry 60 = .ok (.lmul, 1) := by decide +kernel
theorem dX5_digestCountry_61 : decode cX5_digestCountry 61 = .ok (.aload_n 0, 1) := by decide +kernel
theorem dX5_digestCountry_62 : decode cX5_digestCountry 62 = .ok (.aload_n 3, 1) := by decide +kernel
theorem dX5_digestCountry_63 : decode cX5_digestCountry 63 = .ok (.iconst 0, 1) := by decide +kernel
theorem dX5_digestCountry_64 : decode cX5_digestCountry 64 = .ok (.sipush 1000, 3) := by decide +kernel
theorem dX5_digestCountry_67 : decode cX5_digestCountry 67 = .ok (.invokevirtual 333, 3) := by decide +kernel
theorem dX5_digestCountry_70 : decode cX5_digestCountry 70 = .ok (.i2l, 1) := by decide +kernel
theorem dX5_digestCountry_71 : decode cX5_digestCountry 71 = .ok (.ladd, 1) := by decide +kernel
theorem dX5_digestCountry_72 : decode cX5_digestCountry 72 = .ok (.lstore 4, 2) := by decide +kernel
theorem dX5_digestCountry_74 : decode cX5_digestCountry 74 = .ok (.lload 4, 2) := by decide +kernel
theorem dX5_digestCountry_76 : decode cX5_digestCountry 76 = .ok (.ldc2_w 370, 3) := by decide +kernel
theorem dX5_digestCountry_79 : decode cX5_digestCountry 79 = .ok (.lmul, 1) := by decide +kernel
theorem dX5_digestCountry_80 : decode cX5_digestCountry 80 = .ok (.aload_n 0, 1) := by decide +kernel
theorem dX5_digestCountry_81 : decode cX5_digestCountry 81 = .ok (.aload_n 3, 1) := by decide +kernel
theorem dX5_digestCountry_82 : decode cX5_digestCountry 82 = .ok (.iconst 1, 1) := by decide +kernel
theorem dX5_digestCountry_83 : decode cX5_digestCountry 83 = .ok (.sipush 1000, 3) := by decide +kernel
theorem dX5_digestCountry_86 : decode cX5_digestCountry 86 = .ok (.invokevirtual 333, 3) := by decide +kernel
theorem dX5_digestCountry_89 : decode cX5_digestCountry 89 = .ok (.i2l, 1) := by decide +kernel
theorem dX5_digestCountry_90 : decode cX5_digestCountry 90 = .ok (.ladd, 1) := by decide +kernel
theorem dX5_digestCountry_91 : decode cX5_digestCountry 91 = .ok (.lstore 4, 2) := by decide +kernel
theorem dX5_digestCountry_93 : decode cX5_digestCountry 93 = .ok (.lload 4, 2) := by decide +kernel
theorem dX5_digestCountry_95 : decode cX5_digestCountry 95 = .ok (.ldc2_w 370, 3) := by decide +kernel
theorem dX5_digestCountry_98 : decode cX5_digestCountry 98 = .ok (.lmul, 1) := by decide +kernel
theorem dX5_digestCountry_99 : decode cX5_digestCountry 99 = .ok (.aload_n 0, 1) := by decide +kernel
theorem dX5_digestCountry_100 : decode cX5_digestCountry 100 = .ok (.aload_n 3, 1) := by decide +kernel
theorem dX5_digestCountry_101 : decode cX5_digestCountry 101 = .ok (.getfield 108, 3) := by decide +kernel
theorem dX5_digestCountry_104 : decode cX5_digestCountry 104 = .ok (.iconst 0, 1) := by decide +kernel
theorem dX5_digestCountry_105 : decode cX5_digestCountry 105 = .ok (.bipush 10, 2) := by decide +kernel
theorem dX5_digestCountry_107 : decode cX5_digestCountry 107 = .ok (.invokevirtual 340, 3) := by decide +kernel
theorem dX5_digestCountry_110 : decode cX5_digestCountry 110 = .ok (.i2l, 1) := by decide +kernel
theorem dX5_digestCountry_111 : decode cX5_digestCountry 111 = .ok (.ladd, 1) := by decide +kernel
theorem dX5_digestCountry_112 : decode cX5_digestCountry 112 = .ok (.lstore 4, 2) := by decide +kernel
theorem dX5_digestCountry_114 : decode cX5_digestCountry 114 = .ok (.lload 4, 2) := by decide +kernel
theorem dX5_digestCountry_116 : decode cX5_digestCountry 116 = .ok (.ldc2_w 370, 3) := by decide +kernel
theorem dX5_digestCountry_119 : decode cX5_digestCountry 119 = .ok (.lmul, 1) := by decide +kernel
theorem dX5_digestCountry_120 : decode cX5_digestCountry 120 = .ok (.aload_n 0, 1) := by decide +kernel
theorem dX5_digestCountry_121 : decode cX5_digestCountry 121 = .ok (.aload_n 3, 1) := by decide +kernel
theorem dX5_digestCountry_122 : decode cX5_digestCountry 122 = .ok (.getfield 108, 3) := by decide +kernel
theorem dX5_digestCountry_125 : decode cX5_digestCountry 125 = .ok (.iconst 1, 1) := by decide +kernel
theorem dX5_digestCountry_126 : decode cX5_digestCountry 126 = .ok (.bipush 10, 2) := by decide +kernel
theorem dX5_digestCountry_128 : decode cX5_digestCountry 128 = .ok (.invokevirtual 340, 3) := by decide +kernel
theorem dX5_digestCountry_131 : decode cX5_digestCountry 131 = .ok (.i2l, 1) := by decide +kernel
theorem dX5_digestCountry_132 : decode cX5_digestCountry 132 = .ok (.ladd, 1) := by decide +kernel
theorem dX5_digestCountry_133 : decode cX5_digestCountry 133 = .ok (.lstore 4, 2) := by decide +kernel
theorem dX5_digestCountry_135 : decode cX5_digestCountry 135 = .ok (.lload 4, 2) := by decide +kernel
theorem dX5_digestCountry_137 : decode cX5_digestCountry 137 = .ok (.lreturn, 1) := by decide +kernel
theorem dX5_digestHouse_0 : decode cX5_digestHouse 0 = .ok (.lload_n 1, 1) := by decide +kernel
theorem dX5_digestHouse_1 : decode cX5_digestHouse 1 = .ok (.lstore 4, 2) := by decide +kernel
theorem dX5_digestHouse_3 : decode cX5_digestHouse 3 = .ok (.iconst 0, 1) := by decide +kernel
theorem dX5_digestHouse_4 : decode cX5_digestHouse 4 = .ok (.istore 6, 2) := by decide +kernel
theorem dX5_digestHouse_6 : decode cX5_digestHouse 6 = .ok (.iload 6, 2) := by decide +kernel
theorem dX5_digestHouse_8 : decode cX5_digestHouse 8 = .ok (.bipush 8, 2) := by decide +kernel
theorem dX5_digestHouse_10 : decode cX5_digestHouse 10 = .ok (.if_icmp .ge 26, 3) := by decide +kernel
theorem dX5_digestHouse_13 : decode cX5_digestHouse 13 = .ok (.lload 4, 2) := by decide +kernel
theorem dX5_digestHouse_15 : decode cX5_digestHouse 15 = .ok (.ldc2_w 370, 3) := by decide +kernel
theorem dX5_digestHouse_18 : decode cX5_digestHouse 18 = .ok (.lmul, 1) := by decide +kernel
theorem dX5_digestHouse_19 : decode cX5_digestHouse 19 = .ok (.aload_n 0, 1) := by decide +kernel
theorem dX5_digestHouse_20 : decode cX5_digestHouse 20 = .ok (.aload_n 3, 1) := by decide +kernel
theorem dX5_digestHouse_21 : decode cX5_digestHouse 21 = .ok (.iload 6, 2) := by decide +kernel
theorem dX5_digestHouse_23 : decode cX5_digestHouse 23 = .ok (.invokevirtual 270, 3) := by decide +kernel
theorem dX5_digestHouse_26 : decode cX5_digestHouse 26 = .ok (.i2l, 1) := by decide +kernel
theorem dX5_digestHouse_27 : decode cX5_digestHouse 27 = .ok (.ladd, 1) := by decide +kernel
theorem dX5_digestHouse_28 : decode cX5_digestHouse 28 = .ok (.lstore 4, 2) := by decide +kernel
theorem dX5_digestHouse_30 : decode cX5_digestHouse 30 = .ok (.iinc 6 1, 3) := by decide +kernel
theorem dX5_digestHouse_33 : decode cX5_digestHouse 33 = .ok (.goto (-27), 3) := by decide +kernel
theorem dX5_digestHouse_36 : decode cX5_digestHouse 36 = .ok (.lload 4, 2) := by decide +kernel
theorem dX5_digestHouse_38 : decode cX5_digestHouse 38 = .ok (.lreturn, 1) := by decide +kernel
theorem dX5_digestDebt_0 : decode cX5_digestDebt 0 = .ok (.lload_n 1, 1) := by decide +kernel
theorem dX5_digestDebt_1 : decode cX5_digestDebt 1 = .ok (.lstore 4, 2) := by decide +kernel
theorem dX5_digestDebt_3 : decode cX5_digestDebt 3 = .ok (.iconst 4, 1) := by decide +kernel
theorem dX5_digestDebt_4 : decode cX5_digestDebt 4 = .ok (.istore 6, 2) := by decide +kernel
theorem dX5_digestDebt_6 : decode cX5_digestDebt 6 = .ok (.iload 6, 2) := by decide +kernel
theorem dX5_digestDebt_8 : decode cX5_digestDebt 8 = .ok (.bipush 7, 2) := by decide +kernel
theorem dX5_digestDebt_10 : decode cX5_digestDebt 10 = .ok (.if_icmp .ge 26, 3) := by decide +kernel
theorem dX5_digestDebt_13 : decode cX5_digestDebt 13 = .ok (.lload 4, 2) := by decide +kernel
theorem dX5_digestDebt_15 : decode cX5_digestDebt 15 = .ok (.ldc2_w 370, 3) := by decide +kernel
theorem dX5_digestDebt_18 : decode cX5_digestDebt 18 = .ok (.lmul, 1) := by decide +kernel
theorem dX5_digestDebt_19 : decode cX5_digestDebt 19 = .ok (.aload_n 0, 1) := by decide +kernel
theorem dX5_digestDebt_20 : decode cX5_digestDebt 20 = .ok (.aload_n 3, 1) := by decide +kernel
theorem dX5_digestDebt_21 : decode cX5_digestDebt 21 = .ok (.iload 6, 2) := by decide +kernel
theorem dX5_digestDebt_23 : decode cX5_digestDebt 23 = .ok (.invokevirtual 287, 3) := by decide +kernel
theorem dX5_digestDebt_26 : decode cX5_digestDebt 26 = .ok (.i2l, 1) := by decide +kernel
theorem dX5_digestDebt_27 : decode cX5_digestDebt 27 = .ok (.ladd, 1) := by decide +kernel
theorem dX5_digestDebt_28 : decode cX5_digestDebt 28 = .ok (.lstore 4, 2) := by decide +kernel
theorem dX5_digestDebt_30 : decode cX5_digestDebt 30 = .ok (.iinc 6 1, 3) := by decide +kernel
theorem dX5_digestDebt_33 : decode cX5_digestDebt 33 = .ok (.goto (-27), 3) := by decide +kernel
theorem dX5_digestDebt_36 : decode cX5_digestDebt 36 = .ok (.lload 4, 2) := by decide +kernel
theorem dX5_digestDebt_38 : decode cX5_digestDebt 38 = .ok (.lreturn, 1) := by decide +kernel
theorem dX5_countryAt_0 : decode cX5_countryAt 0 = .ok (.iload_n 1, 1) := by decide +kernel
theorem dX5_countryAt_1 : decode cX5_countryAt 1 = .ok (.ifCond .lt 21, 3) := by decide +kernel
theorem dX5_countryAt_4 : decode cX5_countryAt 4 = .ok (.iload_n 1, 1) := by decide +kernel
theorem dX5_countryAt_5 : decode cX5_countryAt 5 = .ok (.aload_n 0, 1) := by decide +kernel
theorem dX5_countryAt_6 : decode cX5_countryAt 6 = .ok (.getfield 15, 3) := by decide +kernel
theorem dX5_countryAt_9 : decode cX5_countryAt 9 = .ok (.arraylength, 1) := by decide +kernel
theorem dX5_countryAt_10 : decode cX5_countryAt 10 = .ok (.if_icmp .ge 12, 3) := by decide +kernel
theorem dX5_countryAt_13 : decode cX5_countryAt 13 = .ok (.aload_n 0, 1) := by decide +kernel
theorem dX5_countryAt_14 : decode cX5_countryAt 14 = .ok (.getfield 15, 3) := by decide +kernel
theorem dX5_countryAt_17 : decode cX5_countryAt 17 = .ok (.iload_n 1, 1) := by decide +kernel
theorem dX5_countryAt_18 : decode cX5_countryAt 18 = .ok (.aaload, 1) := by decide +kernel
theorem dX5_countryAt_19 : decode cX5_countryAt 19 = .ok (.ifnonnull 14, 3) := by decide +kernel
theorem dX5_countryAt_22 : decode cX5_countryAt 22 = .ok (.new 225, 3) := by decide +kernel
theorem dX5_countryAt_25 : decode cX5_countryAt 25 = .ok (.dup, 1) := by decide +kernel
theorem dX5_countryAt_26 : decode cX5_countryAt 26 = .ok (.ldc_w 391, 3) := by decide +kernel
theorem dX5_countryAt_29 : decode cX5_countryAt 29 = .ok (.invokespecial 229, 3) := by decide +kernel
theorem dX5_countryAt_32 : decode cX5_countryAt 32 = .ok (.athrow, 1) := by decide +kernel
theorem dX5_countryAt_33 : decode cX5_countryAt 33 = .ok (.aload_n 0, 1) := by decide +kernel
theorem dX5_countryAt_34 : decode cX5_countryAt 34 = .ok (.getfield 15, 3) := by decide +kernel
theorem dX5_countryAt_37 : decode cX5_countryAt 37 = .ok (.iload_n 1, 1) := by decide +kernel
theorem dX5_countryAt_38 : decode cX5_countryAt 38 = .ok (.aaload, 1) := by decide +kernel
theorem dX5_countryAt_39 : decode cX5_countryAt 39 = .ok (.areturn, 1) := by decide +kernel
theorem dX5_houseAt_0 : decode cX5_houseAt 0 = .ok (.iload_n 1, 1) := by decide +kernel
theorem dX5_houseAt_1 : decode cX5_houseAt 1 = .ok (.ifCond .lt 21, 3) := by decide +kernel
theorem dX5_houseAt_4 : decode cX5_houseAt 4 = .ok (.iload_n 1, 1) := by decide +kernel
theorem dX5_houseAt_5 : decode cX5_houseAt 5 = .ok (.aload_n 0, 1) := by decide +kernel
theorem dX5_houseAt_6 : decode cX5_houseAt 6 = .ok (.getfield 21, 3) := by decide +kernel
theorem dX5_houseAt_9 : decode cX5_houseAt 9 = .ok (.arraylength, 1) := by decide +kernel
theorem dX5_houseAt_10 : decode cX5_houseAt 10 = .ok (.if_icmp .ge 12, 3) := by decide +kernel
theorem dX5_houseAt_13 : decode cX5_houseAt 13 = .ok (.aload_n 0, 1) := by decide +kernel
theorem dX5_houseAt_14 : decode cX5_houseAt 14 = .ok (.getfield 21, 3) := by decide +kernel
theorem dX5_houseAt_17 : decode cX5_houseAt 17 = .ok (.iload_n 1, 1) := by decide +kernel
theorem dX5_houseAt_18 : decode cX5_houseAt 18 = .ok (.aaload, 1) := by decide +kernel
theorem dX5_houseAt_19 : decode cX5_houseAt 19 = .ok (.ifnonnull 14, 3) := by decide +kernel
theorem dX5_houseAt_22 : decode cX5_houseAt 22 = .ok (.new 225, 3) := by decide +kernel
theorem dX5_houseAt_25 : decode cX5_houseAt 25 = .ok (.dup, 1) := by decide +kernel
theorem dX5_houseAt_26 : decode cX5_houseAt 26 = .ok (.ldc_w 393, 3) := by decide +kernel
theorem dX5_houseAt_29 : decode cX5_houseAt 29 = .ok (.invokespecial 229, 3) := by decide +kernel
theorem dX5_houseAt_32 : decode cX5_houseAt 32 = .ok (.athrow, 1) := by decide +kernel
theorem dX5_houseAt_33 : decode cX5_houseAt 33 = .ok (.aload_n 0, 1) := by decide +kernel
theorem dX5_houseAt_34 : decode cX5_houseAt 34 = .ok (.getfield 21, 3) := by decide +kernel
theorem dX5_houseAt_37 : decode cX5_houseAt 37 = .ok (.iload_n 1, 1) := by decide +kernel
theorem dX5_houseAt_38 : decode cX5_houseAt 38 = .ok (.aaload, 1) := by decide +kernel
theorem dX5_houseAt_39 : decode cX5_houseAt 39 = .ok (.areturn, 1) := by decide +kernel
theorem dX5_debtAt_0 : decode cX5_debtAt 0 = .ok (.iload_n 1, 1) := by decide +kernel
theorem dX5_debtAt_1 : decode cX5_debtAt 1 = .ok (.ifCond .lt 21, 3) := by decide +kernel
theorem dX5_debtAt_4 : decode cX5_debtAt 4 = .ok (.iload_n 1, 1) := by decide +kernel
theorem dX5_debtAt_5 : decode cX5_debtAt 5 = .ok (.aload_n 0, 1) := by decide +kernel
theorem dX5_debtAt_6 : decode cX5_debtAt 6 = .ok (.getfield 27, 3) := by decide +kernel
theorem dX5_debtAt_9 : decode cX5_debtAt 9 = .ok (.arraylength, 1) := by decide +kernel
theorem dX5_debtAt_10 : decode cX5_debtAt 10 = .ok (.if_icmp .ge 12, 3) := by decide +kernel
theorem dX5_debtAt_13 : decode cX5_debtAt 13 = .ok (.aload_n 0, 1) := by decide +kernel
theorem dX5_debtAt_14 : decode cX5_debtAt 14 = .ok (.getfield 27, 3) := by decide +kernel
theorem dX5_debtAt_17 : decode cX5_debtAt 17 = .ok (.iload_n 1, 1) := by decide +kernel
theorem dX5_debtAt_18 : decode cX5_debtAt 18 = .ok (.aaload, 1) := by decide +kernel
theorem dX5_debtAt_19 : decode cX5_debtAt 19 = .ok (.ifnonnull 14, 3) := by decide +kernel
theorem dX5_debtAt_22 : decode cX5_debtAt 22 = .ok (.new 225, 3) := by decide +kernel
theorem dX5_debtAt_25 : decode cX5_debtAt 25 = .ok (.dup, 1) := by decide +kernel
theorem dX5_debtAt_26 : decode cX5_debtAt 26 = .ok (.ldc_w 395, 3) := by decide +kernel
theorem dX5_debtAt_29 : decode cX5_debtAt 29 = .ok (.invokespecial 229, 3) := by decide +kernel
theorem dX5_debtAt_32 : decode cX5_debtAt 32 = .ok (.athrow, 1) := by decide +kernel
theorem dX5_debtAt_33 : decode cX5_debtAt 33 = .ok (.aload_n 0, 1) := by decide +kernel
theorem dX5_debtAt_34 : decode cX5_debtAt 34 = .ok (.getfield 27, 3) := by decide +kernel
theorem dX5_debtAt_37 : decode cX5_debtAt 37 = .ok (.iload_n 1, 1) := by decide +kernel
theorem dX5_debtAt_38 : decode cX5_debtAt 38 = .ok (.aaload, 1) := by decide +kernel
theorem dX5_debtAt_39 : decode cX5_debtAt 39 = .ok (.areturn, 1) := by decide +kernel
theorem dX5_needRange_0 : decode cX5_needRange 0 = .ok (.iload_n 0, 1) := by decide +kernel
theorem dX5_needRange_1 : decode cX5_needRange 1 = .ok (.iload_n 1, 1) := by decide +kernel
theorem dX5_needRange_2 : decode cX5_needRange 2 = .ok (.if_icmp .lt 8, 3) := by decide +kernel
theorem dX5_needRange_5 : decode cX5_needRange 5 = .ok (.iload_n 0, 1) := by decide +kernel
theorem dX5_needRange_6 : decode cX5_needRange 6 = .ok (.iload_n 2, 1) := by decide +kernel
theorem dX5_needRange_7 : decode cX5_needRange 7 = .ok (.if_icmp .le 14, 3) := by decide +kernel
theorem dX5_needRange_10 : decode cX5_needRange 10 = .ok (.new 397, 3) := by decide +kernel
theorem dX5_needRange_13 : decode cX5_needRange 13 = .ok (.dup, 1) := by decide +kernel
theorem dX5_needRange_14 : decode cX5_needRange 14 = .ok (.ldc_w 399, 3) := by decide +kernel
theorem dX5_needRange_17 : decode cX5_needRange 17 = .ok (.invokespecial 401, 3) := by decide +kernel
theorem dX5_needRange_20 : decode cX5_needRange 20 = .ok (.athrow, 1) := by decide +kernel
theorem dX5_needRange_21 : decode cX5_needRange 21 = .ok (.return_, 1) := by decide +kernel
theorem dX5_needMetal_0 : decode cX5_needMetal 0 = .ok (.iload_n 0, 1) := by decide +kernel
theorem dX5_needMetal_1 : decode cX5_needMetal 1 = .ok (.ifCond .eq 19, 3) := by decide +kernel
theorem dX5_needMetal_4 : decode cX5_needMetal 4 = .ok (.iload_n 0, 1) := by decide +kernel
theorem dX5_needMetal_5 : decode cX5_needMetal 5 = .ok (.iconst 1, 1) := by decide +kernel
theorem dX5_needMetal_6 : decode cX5_needMetal 6 = .ok (.if_icmp .eq 14, 3) := by decide +kernel
theorem dX5_needMetal_9 : decode cX5_needMetal 9 = .ok (.new 397, 3) := by decide +kernel
theorem dX5_needMetal_12 : decode cX5_needMetal 12 = .ok (.dup, 1) := by decide +kernel
theorem dX5_needMetal_13 : decode cX5_needMetal 13 = .ok (.ldc_w 402, 3) := by decide +kernel
theorem dX5_needMetal_16 : decode cX5_needMetal 16 = .ok (.invokespecial 401, 3) := by decide +kernel
theorem dX5_needMetal_19 : decode cX5_needMetal 19 = .ok (.athrow, 1) := by decide +kernel
