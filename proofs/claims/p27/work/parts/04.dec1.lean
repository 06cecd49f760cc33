theorem dX5_cheaperMetal_43 : decode cX5_cheaperMetal 43 = .ok (.iload_n 3, 1) := by decide +kernel
theorem dX5_cheaperMetal_44 : decode cX5_cheaperMetal 44 = .ok (.if_icmp .ge 7, 3) := by decide +kernel
theorem dX5_cheaperMetal_47 : decode cX5_cheaperMetal 47 = .ok (.iconst 0, 1) := by decide +kernel
theorem dX5_cheaperMetal_48 : decode cX5_cheaperMetal 48 = .ok (.goto 4, 3) := by decide +kernel
theorem dX5_cheaperMetal_51 : decode cX5_cheaperMetal 51 = .ok (.iconst 1, 1) := by decide +kernel
theorem dX5_cheaperMetal_52 : decode cX5_cheaperMetal 52 = .ok (.ireturn, 1) := by decide +kernel
theorem dX5_world_0 : decode cX5_world 0 = .ok (.iload_n 1, 1) := by decide +kernel
theorem dX5_world_1 : decode cX5_world 1 = .ok (.invokestatic 83, 3) := by decide +kernel
theorem dX5_world_4 : decode cX5_world 4 = .ok (.iload_n 2, 1) := by decide +kernel
theorem dX5_world_5 : decode cX5_world 5 = .ok (.iconst 0, 1) := by decide +kernel
theorem dX5_world_6 : decode cX5_world 6 = .ok (.iconst 5, 1) := by decide +kernel
theorem dX5_world_7 : decode cX5_world 7 = .ok (.invokestatic 53, 3) := by decide +kernel
theorem dX5_world_10 : decode cX5_world 10 = .ok (.aload_n 0, 1) := by decide +kernel
theorem dX5_world_11 : decode cX5_world 11 = .ok (.iload_n 1, 1) := by decide +kernel
theorem dX5_world_12 : decode cX5_world 12 = .ok (.iload_n 2, 1) := by decide +kernel
theorem dX5_world_13 : decode cX5_world 13 = .ok (.invokevirtual 306, 3) := by decide +kernel
theorem dX5_world_16 : decode cX5_world 16 = .ok (.ireturn, 1) := by decide +kernel
theorem dX5_worldFact_0 : decode cX5_worldFact 0 = .ok (.iload_n 2, 1) := by decide +kernel
theorem dX5_worldFact_1 : decode cX5_worldFact 1 = .ok (.tableswitch 74 0 4 #[35, 41, 47, 56, 65], 35) := by decide +kernel
theorem dX5_worldFact_36 : decode cX5_worldFact 36 = .ok (.aload_n 0, 1) := by decide +kernel
theorem dX5_worldFact_37 : decode cX5_worldFact 37 = .ok (.iload_n 1, 1) := by decide +kernel
theorem dX5_worldFact_38 : decode cX5_worldFact 38 = .ok (.invokevirtual 309, 3) := by decide +kernel
theorem dX5_worldFact_41 : decode cX5_worldFact 41 = .ok (.ireturn, 1) := by decide +kernel
theorem dX5_worldFact_42 : decode cX5_worldFact 42 = .ok (.aload_n 0, 1) := by decide +kernel
theorem dX5_worldFact_43 : decode cX5_worldFact 43 = .ok (.iload_n 1, 1) := by decide +kernel
theorem dX5_worldFact_44 : decode cX5_worldFact 44 = .ok (.invokevirtual 312, 3) := by decide +kernel
theorem dX5_worldFact_47 : decode cX5_worldFact 47 = .ok (.ireturn, 1) := by decide +kernel
theorem dX5_worldFact_48 : decode cX5_worldFact 48 = .ok (.aload_n 0, 1) := by decide +kernel
theorem dX5_worldFact_49 : decode cX5_worldFact 49 = .ok (.getfield 36, 3) := by decide +kernel
theorem dX5_worldFact_52 : decode cX5_worldFact 52 = .ok (.iload_n 1, 1) := by decide +kernel
theorem dX5_worldFact_53 : decode cX5_worldFact 53 = .ok (.invokevirtual 111, 3) := by decide +kernel
theorem dX5_worldFact_56 : decode cX5_worldFact 56 = .ok (.ireturn, 1) := by decide +kernel
theorem dX5_worldFact_57 : decode cX5_worldFact 57 = .ok (.aload_n 0, 1) := by decide +kernel
theorem dX5_worldFact_58 : decode cX5_worldFact 58 = .ok (.getfield 40, 3) := by decide +kernel
theorem dX5_worldFact_61 : decode cX5_worldFact 61 = .ok (.iload_n 1, 1) := by decide +kernel
theorem dX5_worldFact_62 : decode cX5_worldFact 62 = .ok (.invokevirtual 111, 3) := by decide +kernel
theorem dX5_worldFact_65 : decode cX5_worldFact 65 = .ok (.ireturn, 1) := by decide +kernel
theorem dX5_worldFact_66 : decode cX5_worldFact 66 = .ok (.aload_n 0, 1) := by decide +kernel
theorem dX5_worldFact_67 : decode cX5_worldFact 67 = .ok (.getfield 43, 3) := by decide +kernel
theorem dX5_worldFact_70 : decode cX5_worldFact 70 = .ok (.iload_n 1, 1) := by decide +kernel
theorem dX5_worldFact_71 : decode cX5_worldFact 71 = .ok (.invokevirtual 111, 3) := by decide +kernel
theorem dX5_worldFact_74 : decode cX5_worldFact 74 = .ok (.ireturn, 1) := by decide +kernel
theorem dX5_worldFact_75 : decode cX5_worldFact 75 = .ok (.aload_n 0, 1) := by decide +kernel
theorem dX5_worldFact_76 : decode cX5_worldFact 76 = .ok (.getfield 46, 3) := by decide +kernel
theorem dX5_worldFact_79 : decode cX5_worldFact 79 = .ok (.iload_n 1, 1) := by decide +kernel
theorem dX5_worldFact_80 : decode cX5_worldFact 80 = .ok (.invokevirtual 111, 3) := by decide +kernel
theorem dX5_worldFact_83 : decode cX5_worldFact 83 = .ok (.ireturn, 1) := by decide +kernel
theorem dX5_inVaults_0 : decode cX5_inVaults 0 = .ok (.iconst 0, 1) := by decide +kernel
theorem dX5_inVaults_1 : decode cX5_inVaults 1 = .ok (.istore_n 2, 1) := by decide +kernel
theorem dX5_inVaults_2 : decode cX5_inVaults 2 = .ok (.aload_n 0, 1) := by decide +kernel
theorem dX5_inVaults_3 : decode cX5_inVaults 3 = .ok (.getfield 15, 3) := by decide +kernel
theorem dX5_inVaults_6 : decode cX5_inVaults 6 = .ok (.astore_n 3, 1) := by decide +kernel
theorem dX5_inVaults_7 : decode cX5_inVaults 7 = .ok (.aload_n 3, 1) := by decide +kernel
theorem dX5_inVaults_8 : decode cX5_inVaults 8 = .ok (.arraylength, 1) := by decide +kernel
theorem dX5_inVaults_9 : decode cX5_inVaults 9 = .ok (.istore 4, 2) := by decide +kernel
theorem dX5_inVaults_11 : decode cX5_inVaults 11 = .ok (.iconst 0, 1) := by decide +kernel
theorem dX5_inVaults_12 : decode cX5_inVaults 12 = .ok (.istore 5, 2) := by decide +kernel
theorem dX5_inVaults_14 : decode cX5_inVaults 14 = .ok (.iload 5, 2) := by decide +kernel
theorem dX5_inVaults_16 : decode cX5_inVaults 16 = .ok (.iload 4, 2) := by decide +kernel
theorem dX5_inVaults_18 : decode cX5_inVaults 18 = .ok (.if_icmp .ge 32, 3) := by decide +kernel
theorem dX5_inVaults_21 : decode cX5_inVaults 21 = .ok (.aload_n 3, 1) := by decide +kernel
theorem dX5_inVaults_22 : decode cX5_inVaults 22 = .ok (.iload 5, 2) := by decide +kernel
theorem dX5_inVaults_24 : decode cX5_inVaults 24 = .ok (.aaload, 1) := by decide +kernel
theorem dX5_inVaults_25 : decode cX5_inVaults 25 = .ok (.astore 6, 2) := by decide +kernel
theorem dX5_inVaults_27 : decode cX5_inVaults 27 = .ok (.aload 6, 2) := by decide +kernel
theorem dX5_inVaults_29 : decode cX5_inVaults 29 = .ok (.ifnull 15, 3) := by decide +kernel
theorem dX5_inVaults_32 : decode cX5_inVaults 32 = .ok (.iload_n 2, 1) := by decide +kernel
theorem dX5_inVaults_33 : decode cX5_inVaults 33 = .ok (.aload 6, 2) := by decide +kernel
theorem dX5_inVaults_35 : decode cX5_inVaults 35 = .ok (.getfield 108, 3) := by decide +kernel
theorem dX5_inVaults_38 : decode cX5_inVaults 38 = .ok (.iload_n 1, 1) := by decide +kernel
theorem dX5_inVaults_39 : decode cX5_inVaults 39 = .ok (.invokevirtual 111, 3) := by decide +kernel
theorem dX5_inVaults_42 : decode cX5_inVaults 42 = .ok (.iadd, 1) := by decide +kernel
theorem dX5_inVaults_43 : decode cX5_inVaults 43 = .ok (.istore_n 2, 1) := by decide +kernel
theorem dX5_inVaults_44 : decode cX5_inVaults 44 = .ok (.iinc 5 1, 3) := by decide +kernel
theorem dX5_inVaults_47 : decode cX5_inVaults 47 = .ok (.goto (-33), 3) := by decide +kernel
theorem dX5_inVaults_50 : decode cX5_inVaults 50 = .ok (.iload_n 2, 1) := by decide +kernel
theorem dX5_inVaults_51 : decode cX5_inVaults 51 = .ok (.ireturn, 1) := by decide +kernel
theorem dX5_inPurses_0 : decode cX5_inPurses 0 = .ok (.iconst 0, 1) := by decide +kernel
theorem dX5_inPurses_1 : decode cX5_inPurses 1 = .ok (.istore_n 2, 1) := by decide +kernel
theorem dX5_inPurses_2 : decode cX5_inPurses 2 = .ok (.aload_n 0, 1) := by decide +kernel
theorem dX5_inPurses_3 : decode cX5_inPurses 3 = .ok (.getfield 21, 3) := by decide +kernel
theorem dX5_inPurses_6 : decode cX5_inPurses 6 = .ok (.astore_n 3, 1) := by decide +kernel
theorem dX5_inPurses_7 : decode cX5_inPurses 7 = .ok (.aload_n 3, 1) := by decide +kernel
theorem dX5_inPurses_8 : decode cX5_inPurses 8 = .ok (.arraylength, 1) := by decide +kernel
theorem dX5_inPurses_9 : decode cX5_inPurses 9 = .ok (.istore 4, 2) := by decide +kernel
theorem dX5_inPurses_11 : decode cX5_inPurses 11 = .ok (.iconst 0, 1) := by decide +kernel
theorem dX5_inPurses_12 : decode cX5_inPurses 12 = .ok (.istore 5, 2) := by decide +kernel
theorem dX5_inPurses_14 : decode cX5_inPurses 14 = .ok (.iload 5, 2) := by decide +kernel
theorem dX5_inPurses_16 : decode cX5_inPurses 16 = .ok (.iload 4, 2) := by decide +kernel
theorem dX5_inPurses_18 : decode cX5_inPurses 18 = .ok (.if_icmp .ge 32, 3) := by decide +kernel
theorem dX5_inPurses_21 : decode cX5_inPurses 21 = .ok (.aload_n 3, 1) := by decide +kernel
theorem dX5_inPurses_22 : decode cX5_inPurses 22 = .ok (.iload 5, 2) := by decide +kernel
theorem dX5_inPurses_24 : decode cX5_inPurses 24 = .ok (.aaload, 1) := by decide +kernel
theorem dX5_inPurses_25 : decode cX5_inPurses 25 = .ok (.astore 6, 2) := by decide +kernel
theorem dX5_inPurses_27 : decode cX5_inPurses 27 = .ok (.aload 6, 2) := by decide +kernel
theorem dX5_inPurses_29 : decode cX5_inPurses 29 = .ok (.ifnull 15, 3) := by decide +kernel
theorem dX5_inPurses_32 : decode cX5_inPurses 32 = .ok (.iload_n 2, 1) := by decide +kernel
theorem dX5_inPurses_33 : decode cX5_inPurses 33 = .ok (.aload 6, 2) := by decide +kernel
theorem dX5_inPurses_35 : decode cX5_inPurses 35 = .ok (.getfield 135, 3) := by decide +kernel
theorem dX5_inPurses_38 : decode cX5_inPurses 38 = .ok (.iload_n 1, 1) := by decide +kernel
theorem dX5_inPurses_39 : decode cX5_inPurses 39 = .ok (.invokevirtual 111, 3) := by decide +kernel
theorem dX5_inPurses_42 : decode cX5_inPurses 42 = .ok (.iadd, 1) := by decide +kernel
theorem dX5_inPurses_43 : decode cX5_inPurses 43 = .ok (.istore_n 2, 1) := by decide +kernel
theorem dX5_inPurses_44 : decode cX5_inPurses 44 = .ok (.iinc 5 1, 3) := by decide +kernel
theorem dX5_inPurses_47 : decode cX5_inPurses 47 = .ok (.goto (-33), 3) := by decide +kernel
theorem dX5_inPurses_50 : decode cX5_inPurses 50 = .ok (.iload_n 2, 1) := by decide +kernel
theorem dX5_inPurses_51 : decode cX5_inPurses 51 = .ok (.ireturn, 1) := by decide +kernel
theorem dX5_sign_0 : decode cX5_sign 0 = .ok (.aload_n 0, 1) := by decide +kernel
theorem dX5_sign_1 : decode cX5_sign 1 = .ok (.iload_n 1, 1) := by decide +kernel
theorem dX5_sign_2 : decode cX5_sign 2 = .ok (.invokevirtual 73, 3) := by decide +kernel
theorem dX5_sign_5 : decode cX5_sign 5 = .ok (.astore_n 2, 1) := by decide +kernel
theorem dX5_sign_6 : decode cX5_sign 6 = .ok (.new 315, 3) := by decide +kernel
theorem dX5_sign_9 : decode cX5_sign 9 = .ok (.dup, 1) := by decide +kernel
theorem dX5_sign_10 : decode cX5_sign 10 = .ok (.invokespecial 317, 3) := by decide +kernel
theorem dX5_sign_13 : decode cX5_sign 13 = .ok (.astore_n 3, 1) := by decide +kernel
theorem dX5_sign_14 : decode cX5_sign 14 = .ok (.aload_n 3, 1) := by decide +kernel
theorem dX5_sign_15 : decode cX5_sign 15 = .ok (.aload_n 2, 1) := by decide +kernel
theorem dX5_sign_16 : decode cX5_sign 16 = .ok (.getfield 77, 3) := by decide +kernel
theorem dX5_sign_19 : decode cX5_sign 19 = .ok (.bipush 10, 2) := by decide +kernel
theorem dX5_sign_21 : decode cX5_sign 21 = .ok (.idiv, 1) := by decide +kernel
theorem dX5_sign_22 : decode cX5_sign 22 = .ok (.invokevirtual 318, 3) := by decide +kernel
theorem dX5_sign_25 : decode cX5_sign 25 = .ok (.bipush 46, 2) := by decide +kernel
theorem dX5_sign_27 : decode cX5_sign 27 = .ok (.invokevirtual 322, 3) := by decide +kernel
theorem dX5_sign_30 : decode cX5_sign 30 = .ok (.aload_n 2, 1) := by decide +kernel
theorem dX5_sign_31 : decode cX5_sign 31 = .ok (.getfield 77, 3) := by decide +kernel
theorem dX5_sign_34 : decode cX5_sign 34 = .ok (.bipush 10, 2) := by decide +kernel
theorem dX5_sign_36 : decode cX5_sign 36 = .ok (.irem, 1) := by decide +kernel
theorem dX5_sign_37 : decode cX5_sign 37 = .ok (.invokevirtual 318, 3) := by decide +kernel
theorem dX5_sign_40 : decode cX5_sign 40 = .ok (.pop, 1) := by decide +kernel
theorem dX5_sign_41 : decode cX5_sign 41 = .ok (.aload_n 3, 1) := by decide +kernel
theorem dX5_sign_42 : decode cX5_sign 42 = .ok (.aload_n 2, 1) := by decide +kernel
theorem dX5_sign_43 : decode cX5_sign 43 = .ok (.iconst 0, 1) := by decide +kernel
theorem dX5_sign_44 : decode cX5_sign 44 = .ok (.invokevirtual 87, 3) := by decide +kernel
theorem dX5_sign_47 : decode cX5_sign 47 = .ok (.ifCond .eq 8, 3) := by decide +kernel
theorem dX5_sign_50 : decode cX5_sign 50 = .ok (.bipush 103, 2) := by decide +kernel
theorem dX5_sign_52 : decode cX5_sign 52 = .ok (.goto 5, 3) := by decide +kernel
theorem dX5_sign_55 : decode cX5_sign 55 = .ok (.bipush 45, 2) := by decide +kernel
theorem dX5_sign_57 : decode cX5_sign 57 = .ok (.invokevirtual 322, 3) := by decide +kernel
theorem dX5_sign_60 : decode cX5_sign 60 = .ok (.pop, 1) := by decide +kernel
theorem dX5_sign_61 : decode cX5_sign 61 = .ok (.aload_n 3, 1) := by decide +kernel
theorem dX5_sign_62 : decode cX5_sign 62 = .ok (.aload_n 2, 1) := by decide +kernel
theorem dX5_sign_63 : decode cX5_sign 63 = .ok (.iconst 1, 1) := by decide +kernel
theorem dX5_sign_64 : decode cX5_sign 64 = .ok (.invokevirtual 87, 3) := by decide +kernel
theorem dX5_sign_67 : decode cX5_sign 67 = .ok (.ifCond .eq 8, 3) := by decide +kernel
theorem dX5_sign_70 : decode cX5_sign 70 = .ok (.bipush 115, 2) := by decide +kernel
theorem dX5_sign_72 : decode cX5_sign 72 = .ok (.goto 5, 3) := by decide +kernel
theorem dX5_sign_75 : decode cX5_sign 75 = .ok (.bipush 45, 2) := by decide +kernel
theorem dX5_sign_77 : decode cX5_sign 77 = .ok (.invokevirtual 322, 3) := by decide +kernel
theorem dX5_sign_80 : decode cX5_sign 80 = .ok (.pop, 1) := by decide +kernel
theorem dX5_sign_81 : decode cX5_sign 81 = .ok (.aload_n 0, 1) := by decide +kernel
theorem dX5_sign_82 : decode cX5_sign 82 = .ok (.aload_n 2, 1) := by decide +kernel
theorem dX5_sign_83 : decode cX5_sign 83 = .ok (.invokevirtual 257, 3) := by decide +kernel
theorem dX5_sign_86 : decode cX5_sign 86 = .ok (.istore 4, 2) := by decide +kernel
theorem dX5_sign_88 : decode cX5_sign 88 = .ok (.iconst 0, 1) := by decide +kernel
theorem dX5_sign_89 : decode cX5_sign 89 = .ok (.istore 5, 2) := by decide +kernel
theorem dX5_sign_91 : decode cX5_sign 91 = .ok (.iload 5, 2) := by decide +kernel
theorem dX5_sign_93 : decode cX5_sign 93 = .ok (.iload 4, 2) := by decide +kernel
theorem dX5_sign_95 : decode cX5_sign 95 = .ok (.if_icmp .ge 16, 3) := by decide +kernel
theorem dX5_sign_98 : decode cX5_sign 98 = .ok (.aload_n 3, 1) := by decide +kernel
theorem dX5_sign_99 : decode cX5_sign 99 = .ok (.bipush 42, 2) := by decide +kernel
theorem dX5_sign_101 : decode cX5_sign 101 = .ok (.invokevirtual 322, 3) := by decide +kernel
theorem dX5_sign_104 : decode cX5_sign 104 = .ok (.pop, 1) := by decide +kernel
theorem dX5_sign_105 : decode cX5_sign 105 = .ok (.iinc 5 1, 3) := by decide +kernel
theorem dX5_sign_108 : decode cX5_sign 108 = .ok (.goto (-17), 3) := by decide +kernel
theorem dX5_sign_111 : decode cX5_sign 111 = .ok (.aload_n 3, 1) := by decide +kernel
theorem dX5_sign_112 : decode cX5_sign 112 = .ok (.invokevirtual 325, 3) := by decide +kernel
theorem dX5_sign_115 : decode cX5_sign 115 = .ok (.areturn, 1) := by decide +kernel
theorem dX5_trip_0 : decode cX5_trip 0 = .ok (.aload_n 0, 1) := by decide +kernel
theorem dX5_trip_1 : decode cX5_trip 1 = .ok (.iload_n 1, 1) := by decide +kernel
theorem dX5_trip_2 : decode cX5_trip 2 = .ok (.invokevirtual 73, 3) := by decide +kernel
theorem dX5_trip_5 : decode cX5_trip 5 = .ok (.astore 5, 2) := by decide +kernel
theorem dX5_trip_7 : decode cX5_trip 7 = .ok (.aload_n 0, 1) := by decide +kernel
theorem dX5_trip_8 : decode cX5_trip 8 = .ok (.iload_n 2, 1) := by decide +kernel
theorem dX5_trip_9 : decode cX5_trip 9 = .ok (.invokevirtual 73, 3) := by decide +kernel
theorem dX5_trip_12 : decode cX5_trip 12 = .ok (.astore 6, 2) := by decide +kernel
theorem dX5_trip_14 : decode cX5_trip 14 = .ok (.iload_n 1, 1) := by decide +kernel
theorem dX5_trip_15 : decode cX5_trip 15 = .ok (.iload_n 2, 1) := by decide +kernel
theorem dX5_trip_16 : decode cX5_trip 16 = .ok (.invokestatic 95, 3) := by decide +kernel
theorem dX5_trip_19 : decode cX5_trip 19 = .ok (.iload_n 3, 1) := by decide +kernel
theorem dX5_trip_20 : decode cX5_trip 20 = .ok (.invokestatic 83, 3) := by decide +kernel
theorem dX5_trip_23 : decode cX5_trip 23 = .ok (.iload 4, 2) := by decide +kernel
theorem dX5_trip_25 : decode cX5_trip 25 = .ok (.iconst 0, 1) := by decide +kernel
theorem dX5_trip_26 : decode cX5_trip 26 = .ok (.ldc 52, 2) := by decide +kernel
theorem dX5_trip_28 : decode cX5_trip 28 = .ok (.invokestatic 53, 3) := by decide +kernel
theorem dX5_trip_31 : decode cX5_trip 31 = .ok (.aload 5, 2) := by decide +kernel
theorem dX5_trip_33 : decode cX5_trip 33 = .ok (.aload 6, 2) := by decide +kernel
theorem dX5_trip_35 : decode cX5_trip 35 = .ok (.iload_n 3, 1) := by decide +kernel
theorem dX5_trip_36 : decode cX5_trip 36 = .ok (.iload 4, 2) := by decide +kernel
theorem dX5_trip_38 : decode cX5_trip 38 = .ok (.invokestatic 329, 3) := by decide +kernel
theorem dX5_trip_41 : decode cX5_trip 41 = .ok (.ireturn, 1) := by decide +kernel
theorem dX5_comesOfTrip_0 : decode cX5_comesOfTrip 0 = .ok (.aload_n 0, 1) := by decide +kernel
theorem dX5_comesOfTrip_1 : decode cX5_comesOfTrip 1 = .ok (.aload_n 1, 1) := by decide +kernel
theorem dX5_comesOfTrip_2 : decode cX5_comesOfTrip 2 = .ok (.getfield 98, 3) := by decide +kernel
theorem dX5_comesOfTrip_5 : decode cX5_comesOfTrip 5 = .ok (.invokevirtual 151, 3) := by decide +kernel
theorem dX5_comesOfTrip_8 : decode cX5_comesOfTrip 8 = .ok (.istore 4, 2) := by decide +kernel
theorem dX5_comesOfTrip_10 : decode cX5_comesOfTrip 10 = .ok (.aload_n 0, 1) := by decide +kernel
theorem dX5_comesOfTrip_11 : decode cX5_comesOfTrip 11 = .ok (.iload_n 2, 1) := by decide +kernel
theorem dX5_comesOfTrip_12 : decode cX5_comesOfTrip 12 = .ok (.iload_n 3, 1) := by decide +kernel
theorem dX5_comesOfTrip_13 : decode cX5_comesOfTrip 13 = .ok (.invokevirtual 140, 3) := by decide +kernel
theorem dX5_comesOfTrip_16 : decode cX5_comesOfTrip 16 = .ok (.istore 5, 2) := by decide +kernel
theorem dX5_comesOfTrip_18 : decode cX5_comesOfTrip 18 = .ok (.iload 5, 2) := by decide +kernel
theorem dX5_comesOfTrip_20 : decode cX5_comesOfTrip 20 = .ok (.iload 5, 2) := by decide +kernel
theorem dX5_comesOfTrip_22 : decode cX5_comesOfTrip 22 = .ok (.iload 4, 2) := by decide +kernel
theorem dX5_comesOfTrip_24 : decode cX5_comesOfTrip 24 = .ok (.invokestatic 168, 3) := by decide +kernel
theorem dX5_comesOfTrip_27 : decode cX5_comesOfTrip 27 = .ok (.isub, 1) := by decide +kernel
theorem dX5_comesOfTrip_28 : decode cX5_comesOfTrip 28 = .ok (.istore 6, 2) := by decide +kernel
theorem dX5_comesOfTrip_30 : decode cX5_comesOfTrip 30 = .ok (.aload_n 1, 1) := by decide +kernel
theorem dX5_comesOfTrip_31 : decode cX5_comesOfTrip 31 = .ok (.iload_n 2, 1) := by decide +kernel
theorem dX5_comesOfTrip_32 : decode cX5_comesOfTrip 32 = .ok (.invokestatic 144, 3) := by decide +kernel
theorem dX5_comesOfTrip_35 : decode cX5_comesOfTrip 35 = .ok (.iload 6, 2) := by decide +kernel
theorem dX5_comesOfTrip_37 : decode cX5_comesOfTrip 37 = .ok (.invokevirtual 140, 3) := by decide +kernel
theorem dX5_comesOfTrip_40 : decode cX5_comesOfTrip 40 = .ok (.istore 7, 2) := by decide +kernel
theorem dX5_comesOfTrip_42 : decode cX5_comesOfTrip 42 = .ok (.iload 7, 2) := by decide +kernel
theorem dX5_comesOfTrip_44 : decode cX5_comesOfTrip 44 = .ok (.iload 7, 2) := by decide +kernel
theorem dX5_comesOfTrip_46 : decode cX5_comesOfTrip 46 = .ok (.iload 4, 2) := by decide +kernel
theorem dX5_comesOfTrip_48 : decode cX5_comesOfTrip 48 = .ok (.invokestatic 168, 3) := by decide +kernel
theorem dX5_comesOfTrip_51 : decode cX5_comesOfTrip 51 = .ok (.isub, 1) := by decide +kernel
theorem dX5_comesOfTrip_52 : decode cX5_comesOfTrip 52 = .ok (.ireturn, 1) := by decide +kernel
theorem dX5_bestTrip_0 : decode cX5_bestTrip 0 = .ok (.aload_n 0, 1) := by decide +kernel
theorem dX5_bestTrip_1 : decode cX5_bestTrip 1 = .ok (.iload_n 1, 1) := by decide +kernel
theorem dX5_bestTrip_2 : decode cX5_bestTrip 2 = .ok (.invokevirtual 73, 3) := by decide +kernel
theorem dX5_bestTrip_5 : decode cX5_bestTrip 5 = .ok (.astore 4, 2) := by decide +kernel
theorem dX5_bestTrip_7 : decode cX5_bestTrip 7 = .ok (.iload_n 2, 1) := by decide +kernel
theorem dX5_bestTrip_8 : decode cX5_bestTrip 8 = .ok (.invokestatic 83, 3) := by decide +kernel
theorem dX5_bestTrip_11 : decode cX5_bestTrip 11 = .ok (.iload_n 3, 1) := by decide +kernel
theorem dX5_bestTrip_12 : decode cX5_bestTrip 12 = .ok (.iconst 0, 1) := by decide +kernel
theorem dX5_bestTrip_13 : decode cX5_bestTrip 13 = .ok (.ldc 52, 2) := by decide +kernel
theorem dX5_bestTrip_15 : decode cX5_bestTrip 15 = .ok (.invokestatic 53, 3) := by decide +kernel
theorem dX5_bestTrip_18 : decode cX5_bestTrip 18 = .ok (.aload_n 0, 1) := by decide +kernel
theorem dX5_bestTrip_19 : decode cX5_bestTrip 19 = .ok (.aload 4, 2) := by decide +kernel
theorem dX5_bestTrip_21 : decode cX5_bestTrip 21 = .ok (.iload_n 2, 1) := by decide +kernel
theorem dX5_bestTrip_22 : decode cX5_bestTrip 22 = .ok (.iload_n 3, 1) := by decide +kernel
theorem dX5_bestTrip_23 : decode cX5_bestTrip 23 = .ok (.invokevirtual 333, 3) := by decide +kernel
theorem dX5_bestTrip_26 : decode cX5_bestTrip 26 = .ok (.ireturn, 1) := by decide +kernel
theorem dX5_bestOver_0 : decode cX5_bestOver 0 = .ok (.iconst (-1), 1) := by decide +kernel
theorem dX5_bestOver_1 : decode cX5_bestOver 1 = .ok (.istore 4, 2) := by decide +kernel
theorem dX5_bestOver_3 : decode cX5_bestOver 3 = .ok (.iload_n 3, 1) := by decide +kernel
theorem dX5_bestOver_4 : decode cX5_bestOver 4 = .ok (.istore 5, 2) := by decide +kernel
theorem dX5_bestOver_6 : decode cX5_bestOver 6 = .ok (.aload_n 0, 1) := by decide +kernel
theorem dX5_bestOver_7 : decode cX5_bestOver 7 = .ok (.getfield 15, 3) := by decide +kernel
theorem dX5_bestOver_10 : decode cX5_bestOver 10 = .ok (.astore 6, 2) := by decide +kernel
theorem dX5_bestOver_12 : decode cX5_bestOver 12 = .ok (.aload 6, 2) := by decide +kernel
theorem dX5_bestOver_14 : decode cX5_bestOver 14 = .ok (.arraylength, 1) := by decide +kernel
theorem dX5_bestOver_15 : decode cX5_bestOver 15 = .ok (.istore 7, 2) := by decide +kernel
theorem dX5_bestOver_17 : decode cX5_bestOver 17 = .ok (.iconst 0, 1) := by decide +kernel
theorem dX5_bestOver_18 : decode cX5_bestOver 18 = .ok (.istore 8, 2) := by decide +kernel
theorem dX5_bestOver_20 : decode cX5_bestOver 20 = .ok (.iload 8, 2) := by decide +kernel
theorem dX5_bestOver_22 : decode cX5_bestOver 22 = .ok (.iload 7, 2) := by decide +kernel
theorem dX5_bestOver_24 : decode cX5_bestOver 24 = .ok (.if_icmp .ge 55, 3) := by decide +kernel
theorem dX5_bestOver_27 : decode cX5_bestOver 27 = .ok (.aload 6, 2) := by decide +kernel
theorem dX5_bestOver_29 : decode cX5_bestOver 29 = .ok (.iload 8, 2) := by decide +kernel
theorem dX5_bestOver_31 : decode cX5_bestOver 31 = .ok (.aaload, 1) := by decide +kernel
theorem dX5_bestOver_32 : decode cX5_bestOver 32 = .ok (.astore 9, 2) := by decide +kernel
theorem dX5_bestOver_34 : decode cX5_bestOver 34 = .ok (.aload 9, 2) := by decide +kernel
theorem dX5_bestOver_36 : decode cX5_bestOver 36 = .ok (.ifnull 37, 3) := by decide +kernel
theorem dX5_bestOver_39 : decode cX5_bestOver 39 = .ok (.aload 9, 2) := by decide +kernel
theorem dX5_bestOver_41 : decode cX5_bestOver 41 = .ok (.aload_n 1, 1) := by decide +kernel
theorem dX5_bestOver_42 : decode cX5_bestOver 42 = .ok (.if_acmp .eq 31, 3) := by decide +kernel
theorem dX5_bestOver_45 : decode cX5_bestOver 45 = .ok (.aload_n 1, 1) := by decide +kernel
theorem dX5_bestOver_46 : decode cX5_bestOver 46 = .ok (.aload 9, 2) := by decide +kernel
theorem dX5_bestOver_48 : decode cX5_bestOver 48 = .ok (.iload_n 2, 1) := by decide +kernel
theorem dX5_bestOver_49 : decode cX5_bestOver 49 = .ok (.iload_n 3, 1) := by decide +kernel
theorem dX5_bestOver_50 : decode cX5_bestOver 50 = .ok (.invokestatic 329, 3) := by decide +kernel
theorem dX5_bestOver_53 : decode cX5_bestOver 53 = .ok (.istore 10, 2) := by decide +kernel
theorem dX5_bestOver_55 : decode cX5_bestOver 55 = .ok (.iload 10, 2) := by decide +kernel
theorem dX5_bestOver_57 : decode cX5_bestOver 57 = .ok (.iload 5, 2) := by decide +kernel
theorem dX5_bestOver_59 : decode cX5_bestOver 59 = .ok (.if_icmp .le 14, 3) := by decide +kernel
theorem dX5_bestOver_62 : decode cX5_bestOver 62 = .ok (.iload 10, 2) := by decide +kernel
theorem dX5_bestOver_64 : decode cX5_bestOver 64 = .ok (.istore 5, 2) := by decide +kernel
theorem dX5_bestOver_66 : decode cX5_bestOver 66 = .ok (.aload 9, 2) := by decide +kernel
theorem dX5_bestOver_68 : decode cX5_bestOver 68 = .ok (.getfield 98, 3) := by decide +kernel
theorem dX5_bestOver_71 : decode cX5_bestOver 71 = .ok (.istore 4, 2) := by decide +kernel
theorem dX5_bestOver_73 : decode cX5_bestOver 73 = .ok (.iinc 8 1, 3) := by decide +kernel
theorem dX5_bestOver_76 : decode cX5_bestOver 76 = .ok (.goto (-56), 3) := by decide +kernel
theorem dX5_bestOver_79 : decode cX5_bestOver 79 = .ok (.iload 4, 2) := by decide +kernel
theorem dX5_bestOver_81 : decode cX5_bestOver 81 = .ok (.ireturn, 1) := by decide +kernel
theorem dX5_rest_0 : decode cX5_rest 0 = .ok (.iload_n 1, 1) := by decide +kernel
theorem dX5_rest_1 : decode cX5_rest 1 = .ok (.iconst 0, 1) := by decide +kernel
theorem dX5_rest_2 : decode cX5_rest 2 = .ok (.ldc 52, 2) := by decide +kernel
theorem dX5_rest_4 : decode cX5_rest 4 = .ok (.invokestatic 53, 3) := by decide +kernel
theorem dX5_rest_7 : decode cX5_rest 7 = .ok (.aload_n 0, 1) := by decide +kernel
theorem dX5_rest_8 : decode cX5_rest 8 = .ok (.iload_n 1, 1) := by decide +kernel
theorem dX5_rest_9 : decode cX5_rest 9 = .ok (.invokevirtual 337, 3) := by decide +kernel
theorem dX5_rest_12 : decode cX5_rest 12 = .ok (.ireturn, 1) := by decide +kernel
theorem dX5_isRest_0 : decode cX5_isRest 0 = .ok (.aload_n 0, 1) := by decide +kernel
theorem dX5_isRest_1 : decode cX5_isRest 1 = .ok (.getfield 15, 3) := by decide +kernel
theorem dX5_isRest_4 : decode cX5_isRest 4 = .ok (.astore_n 2, 1) := by decide +kernel
theorem dX5_isRest_5 : decode cX5_isRest 5 = .ok (.aload_n 2, 1) := by decide +kernel
theorem dX5_isRest_6 : decode cX5_isRest 6 = .ok (.arraylength, 1) := by decide +kernel
theorem dX5_isRest_7 : decode cX5_isRest 7 = .ok (.istore_n 3, 1) := by decide +kernel
theorem dX5_isRest_8 : decode cX5_isRest 8 = .ok (.iconst 0, 1) := by decide +kernel
theorem dX5_isRest_9 : decode cX5_isRest 9 = .ok (.istore 4, 2) := by decide +kernel
theorem dX5_isRest_11 : decode cX5_isRest 11 = .ok (.iload 4, 2) := by decide +kernel
theorem dX5_isRest_13 : decode cX5_isRest 13 = .ok (.iload_n 3, 1) := by decide +kernel
theorem dX5_isRest_14 : decode cX5_isRest 14 = .ok (.if_icmp .ge 46, 3) := by decide +kernel
theorem dX5_isRest_17 : decode cX5_isRest 17 = .ok (.aload_n 2, 1) := by decide +kernel
theorem dX5_isRest_18 : decode cX5_isRest 18 = .ok (.iload 4, 2) := by decide +kernel
theorem dX5_isRest_20 : decode cX5_isRest 20 = .ok (.aaload, 1) := by decide +kernel
theorem dX5_isRest_21 : decode cX5_isRest 21 = .ok (.astore 5, 2) := by decide +kernel
theorem dX5_isRest_23 : decode cX5_isRest 23 = .ok (.aload 5, 2) := by decide +kernel
theorem dX5_isRest_25 : decode cX5_isRest 25 = .ok (.ifnull 29, 3) := by decide +kernel
theorem dX5_isRest_28 : decode cX5_isRest 28 = .ok (.aload_n 0, 1) := by decide +kernel
theorem dX5_isRest_29 : decode cX5_isRest 29 = .ok (.aload 5, 2) := by decide +kernel
theorem dX5_isRest_31 : decode cX5_isRest 31 = .ok (.iconst 0, 1) := by decide +kernel
theorem dX5_isRest_32 : decode cX5_isRest 32 = .ok (.iload_n 1, 1) := by decide +kernel
theorem dX5_isRest_33 : decode cX5_isRest 33 = .ok (.invokevirtual 333, 3) := by decide +kernel
theorem dX5_isRest_36 : decode cX5_isRest 36 = .ok (.iconst (-1), 1) := by decide +kernel
theorem dX5_isRest_37 : decode cX5_isRest 37 = .ok (.if_icmp .ne 15, 3) := by decide +kernel
theorem dX5_isRest_40 : decode cX5_isRest 40 = .ok (.aload_n 0, 1) := by decide +kernel
theorem dX5_isRest_41 : decode cX5_isRest 41 = .ok (.aload 5, 2) := by decide +kernel
theorem dX5_isRest_43 : decode cX5_isRest 43 = .ok (.iconst 1, 1) := by decide +kernel
theorem dX5_isRest_44 : decode cX5_isRest 44 = .ok (.iload_n 1, 1) := by decide +kernel
theorem dX5_isRest_45 : decode cX5_isRest 45 = .ok (.invokevirtual 333, 3) := by decide +kernel
theorem dX5_isRest_48 : decode cX5_isRest 48 = .ok (.iconst (-1), 1) := by decide +kernel
theorem dX5_isRest_49 : decode cX5_isRest 49 = .ok (.if_icmp .eq 5, 3) := by decide +kernel
theorem dX5_isRest_52 : decode cX5_isRest 52 = .ok (.iconst 0, 1) := by decide +kernel
theorem dX5_isRest_53 : decode cX5_isRest 53 = .ok (.ireturn, 1) := by decide +kernel
theorem dX5_isRest_54 : decode cX5_isRest 54 = .ok (.iinc 4 1, 3) := by decide +kernel
theorem dX5_isRest_57 : decode cX5_isRest 57 = .ok (.goto (-46), 3) := by decide +kernel
theorem dX5_isRest_60 : decode cX5_isRest 60 = .ok (.iconst 1, 1) := by decide +kernel
theorem dX5_isRest_61 : decode cX5_isRest 61 = .ok (.ireturn, 1) := by decide +kernel
theorem dX5_last_0 : decode cX5_last 0 = .ok (.aload_n 0, 1) := by decide +kernel
theorem dX5_last_1 : decode cX5_last 1 = .ok (.iload_n 1, 1) := by decide +kernel
theorem dX5_last_2 : decode cX5_last 2 = .ok (.invokevirtual 73, 3) := by decide +kernel
theorem dX5_last_5 : decode cX5_last 5 = .ok (.astore 4, 2) := by decide +kernel
theorem dX5_last_7 : decode cX5_last 7 = .ok (.iload_n 2, 1) := by decide +kernel
theorem dX5_last_8 : decode cX5_last 8 = .ok (.invokestatic 83, 3) := by decide +kernel
theorem dX5_last_11 : decode cX5_last 11 = .ok (.iload_n 3, 1) := by decide +kernel
theorem dX5_last_12 : decode cX5_last 12 = .ok (.iconst 1, 1) := by decide +kernel
theorem dX5_last_13 : decode cX5_last 13 = .ok (.ldc 52, 2) := by decide +kernel
theorem dX5_last_15 : decode cX5_last 15 = .ok (.invokestatic 53, 3) := by decide +kernel
theorem dX5_last_18 : decode cX5_last 18 = .ok (.aload_n 0, 1) := by decide +kernel
theorem dX5_last_19 : decode cX5_last 19 = .ok (.aload 4, 2) := by decide +kernel
theorem dX5_last_21 : decode cX5_last 21 = .ok (.getfield 108, 3) := by decide +kernel
theorem dX5_last_24 : decode cX5_last 24 = .ok (.iload_n 2, 1) := by decide +kernel
theorem dX5_last_25 : decode cX5_last 25 = .ok (.iload_n 3, 1) := by decide +kernel
theorem dX5_last_26 : decode cX5_last 26 = .ok (.invokevirtual 340, 3) := by decide +kernel
theorem dX5_last_29 : decode cX5_last 29 = .ok (.ireturn, 1) := by decide +kernel
theorem dX5_firstDayShort_0 : decode cX5_firstDayShort 0 = .ok (.aload_n 1, 1) := by decide +kernel
theorem dX5_firstDayShort_1 : decode cX5_firstDayShort 1 = .ok (.iload_n 2, 1) := by decide +kernel
theorem dX5_firstDayShort_2 : decode cX5_firstDayShort 2 = .ok (.invokevirtual 111, 3) := by decide +kernel
theorem dX5_firstDayShort_5 : decode cX5_firstDayShort 5 = .ok (.istore 4, 2) := by decide +kernel
theorem dX5_firstDayShort_7 : decode cX5_firstDayShort 7 = .ok (.aload_n 0, 1) := by decide +kernel
theorem dX5_firstDayShort_8 : decode cX5_firstDayShort 8 = .ok (.getfield 158, 3) := by decide +kernel
theorem dX5_firstDayShort_11 : decode cX5_firstDayShort 11 = .ok (.istore 5, 2) := by decide +kernel
theorem dX5_firstDayShort_13 : decode cX5_firstDayShort 13 = .ok (.iload 5, 2) := by decide +kernel
theorem dX5_firstDayShort_15 : decode cX5_firstDayShort 15 = .ok (.sipush 3000, 3) := by decide +kernel
theorem dX5_firstDayShort_18 : decode cX5_firstDayShort 18 = .ok (.if_icmp .gt 57, 3) := by decide +kernel
theorem dX5_firstDayShort_21 : decode cX5_firstDayShort 21 = .ok (.iload_n 2, 1) := by decide +kernel
theorem dX5_firstDayShort_22 : decode cX5_firstDayShort 22 = .ok (.iconst 1, 1) := by decide +kernel
theorem dX5_firstDayShort_23 : decode cX5_firstDayShort 23 = .ok (.if_icmp .ne 31, 3) := by decide +kernel
theorem dX5_firstDayShort_26 : decode cX5_firstDayShort 26 = .ok (.iload 5, 2) := by decide +kernel
theorem dX5_firstDayShort_28 : decode cX5_firstDayShort 28 = .ok (.aload_n 0, 1) := by decide +kernel
theorem dX5_firstDayShort_29 : decode cX5_firstDayShort 29 = .ok (.getfield 158, 3) := by decide +kernel
theorem dX5_firstDayShort_32 : decode cX5_firstDayShort 32 = .ok (.if_icmp .le 22, 3) := by decide +kernel
theorem dX5_firstDayShort_35 : decode cX5_firstDayShort 35 = .ok (.iload 5, 2) := by decide +kernel
theorem dX5_firstDayShort_37 : decode cX5_firstDayShort 37 = .ok (.invokestatic 179, 3) := by decide +kernel
theorem dX5_firstDayShort_40 : decode cX5_firstDayShort 40 = .ok (.ifCond .eq 14, 3) := by decide +kernel
theorem dX5_firstDayShort_43 : decode cX5_firstDayShort 43 = .ok (.iload 4, 2) := by decide +kernel
theorem dX5_firstDayShort_45 : decode cX5_firstDayShort 45 = .ok (.iload 4, 2) := by decide +kernel
theorem dX5_firstDayShort_47 : decode cX5_firstDayShort 47 = .ok (.sipush 10000, 3) := by decide +kernel
theorem dX5_firstDayShort_50 : decode cX5_firstDayShort 50 = .ok (.idiv, 1) := by decide +kernel
theorem dX5_firstDayShort_51 : decode cX5_firstDayShort 51 = .ok (.isub, 1) := by decide +kernel
theorem dX5_firstDayShort_52 : decode cX5_firstDayShort 52 = .ok (.istore 4, 2) := by decide +kernel
theorem dX5_firstDayShort_54 : decode cX5_firstDayShort 54 = .ok (.iload 4, 2) := by decide +kernel
theorem dX5_firstDayShort_56 : decode cX5_firstDayShort 56 = .ok (.iload_n 3, 1) := by decide +kernel
theorem dX5_firstDayShort_57 : decode cX5_firstDayShort 57 = .ok (.if_icmp .ge 6, 3) := by decide +kernel
theorem dX5_firstDayShort_60 : decode cX5_firstDayShort 60 = .ok (.iload 5, 2) := by decide +kernel
theorem dX5_firstDayShort_62 : decode cX5_firstDayShort 62 = .ok (.ireturn, 1) := by decide +kernel
theorem dX5_firstDayShort_63 : decode cX5_firstDayShort 63 = .ok (.iload 4, 2) := by decide +kernel
theorem dX5_firstDayShort_65 : decode cX5_firstDayShort 65 = .ok (.iload_n 3, 1) := by decide +kernel
theorem dX5_firstDayShort_66 : decode cX5_firstDayShort 66 = .ok (.isub, 1) := by decide +kernel
theorem dX5_firstDayShort_67 : decode cX5_firstDayShort 67 = .ok (.istore 4, 2) := by decide +kernel
theorem dX5_firstDayShort_69 : decode cX5_firstDayShort 69 = .ok (.iinc 5 1, 3) := by decide +kernel
theorem dX5_firstDayShort_72 : decode cX5_firstDayShort 72 = .ok (.goto (-59), 3) := by decide +kernel
theorem dX5_firstDayShort_75 : decode cX5_firstDayShort 75 = .ok (.iconst (-1), 1) := by decide +kernel
theorem dX5_firstDayShort_76 : decode cX5_firstDayShort 76 = .ok (.ireturn, 1) := by decide +kernel
theorem dX5_isSound_0 : decode cX5_isSound 0 = .ok (.aload_n 0, 1) := by decide +kernel
theorem dX5_isSound_1 : decode cX5_isSound 1 = .ok (.iconst 0, 1) := by decide +kernel
theorem dX5_isSound_2 : decode cX5_isSound 2 = .ok (.invokevirtual 344, 3) := by decide +kernel
theorem dX5_isSound_5 : decode cX5_isSound 5 = .ok (.ifCond .eq 36, 3) := by decide +kernel
theorem dX5_isSound_8 : decode cX5_isSound 8 = .ok (.aload_n 0, 1) := by decide +kernel
theorem dX5_isSound_9 : decode cX5_isSound 9 = .ok (.iconst 1, 1) := by decide +kernel
theorem dX5_isSound_10 : decode cX5_isSound 10 = .ok (.invokevirtual 344, 3) := by decide +kernel
theorem dX5_isSound_13 : decode cX5_isSound 13 = .ok (.ifCond .eq 28, 3) := by decide +kernel
theorem dX5_isSound_16 : decode cX5_isSound 16 = .ok (.aload_n 0, 1) := by decide +kernel
theorem dX5_isSound_17 : decode cX5_isSound 17 = .ok (.invokevirtual 347, 3) := by decide +kernel
theorem dX5_isSound_20 : decode cX5_isSound 20 = .ok (.ifCond .eq 21, 3) := by decide +kernel
theorem dX5_isSound_23 : decode cX5_isSound 23 = .ok (.aload_n 0, 1) := by decide +kernel
theorem dX5_isSound_24 : decode cX5_isSound 24 = .ok (.invokevirtual 351, 3) := by decide +kernel
theorem dX5_isSound_27 : decode cX5_isSound 27 = .ok (.ifCond .eq 14, 3) := by decide +kernel
theorem dX5_isSound_30 : decode cX5_isSound 30 = .ok (.aload_n 0, 1) := by decide +kernel
theorem dX5_isSound_31 : decode cX5_isSound 31 = .ok (.invokevirtual 354, 3) := by decide +kernel
theorem dX5_isSound_34 : decode cX5_isSound 34 = .ok (.ifCond .eq 7, 3) := by decide +kernel
theorem dX5_isSound_37 : decode cX5_isSound 37 = .ok (.iconst 1, 1) := by decide +kernel
theorem dX5_isSound_38 : decode cX5_isSound 38 = .ok (.goto 4, 3) := by decide +kernel
theorem dX5_isSound_41 : decode cX5_isSound 41 = .ok (.iconst 0, 1) := by decide +kernel
theorem dX5_isSound_42 : decode cX5_isSound 42 = .ok (.ireturn, 1) := by decide +kernel
theorem dX5_isKept_0 : decode cX5_isKept 0 = .ok (.aload_n 0, 1) := by decide +kernel
theorem dX5_isKept_1 : decode cX5_isKept 1 = .ok (.iload_n 1, 1) := by decide +kernel
theorem dX5_isKept_2 : decode cX5_isKept 2 = .ok (.invokevirtual 309, 3) := by decide +kernel
theorem dX5_isKept_5 : decode cX5_isKept 5 = .ok (.aload_n 0, 1) := by decide +kernel
theorem dX5_isKept_6 : decode cX5_isKept 6 = .ok (.iload_n 1, 1) := by decide +kernel
theorem dX5_isKept_7 : decode cX5_isKept 7 = .ok (.invokevirtual 312, 3) := by decide +kernel
theorem dX5_isKept_10 : decode cX5_isKept 10 = .ok (.iadd, 1) := by decide +kernel
theorem dX5_isKept_11 : decode cX5_isKept 11 = .ok (.aload_n 0, 1) := by decide +kernel
theorem dX5_isKept_12 : decode cX5_isKept 12 = .ok (.getfield 36, 3) := by decide +kernel
theorem dX5_isKept_15 : decode cX5_isKept 15 = .ok (.iload_n 1, 1) := by decide +kernel
theorem dX5_isKept_16 : decode cX5_isKept 16 = .ok (.invokevirtual 111, 3) := by decide +kernel
theorem dX5_isKept_19 : decode cX5_isKept 19 = .ok (.iadd, 1) := by decide +kernel
theorem dX5_isKept_20 : decode cX5_isKept 20 = .ok (.aload_n 0, 1) := by decide +kernel
theorem dX5_isKept_21 : decode cX5_isKept 21 = .ok (.getfield 40, 3) := by decide +kernel
theorem dX5_isKept_24 : decode cX5_isKept 24 = .ok (.iload_n 1, 1) := by decide +kernel
theorem dX5_isKept_25 : decode cX5_isKept 25 = .ok (.invokevirtual 111, 3) := by decide +kernel
theorem dX5_isKept_28 : decode cX5_isKept 28 = .ok (.iadd, 1) := by decide +kernel
theorem dX5_isKept_29 : decode cX5_isKept 29 = .ok (.aload_n 0, 1) := by decide +kernel
theorem dX5_isKept_30 : decode cX5_isKept 30 = .ok (.getfield 43, 3) := by decide +kernel
theorem dX5_isKept_33 : decode cX5_isKept 33 = .ok (.iload_n 1, 1) := by decide +kernel
theorem dX5_isKept_34 : decode cX5_isKept 34 = .ok (.invokevirtual 111, 3) := by decide +kernel
theorem dX5_isKept_37 : decode cX5_isKept 37 = .ok (.iadd, 1) := by decide +kernel
theorem dX5_isKept_38 : decode cX5_isKept 38 = .ok (.istore_n 2, 1) := by decide +kernel
theorem dX5_isKept_39 : decode cX5_isKept 39 = .ok (.iload_n 2, 1) := by decide +kernel
theorem dX5_isKept_40 : decode cX5_isKept 40 = .ok (.aload_n 0, 1) := by decide +kernel
theorem dX5_isKept_41 : decode cX5_isKept 41 = .ok (.getfield 46, 3) := by decide +kernel
theorem dX5_isKept_44 : decode cX5_isKept 44 = .ok (.iload_n 1, 1) := by decide +kernel
theorem dX5_isKept_45 : decode cX5_isKept 45 = .ok (.invokevirtual 111, 3) := by decide +kernel
theorem dX5_isKept_48 : decode cX5_isKept 48 = .ok (.if_icmp .ne 7, 3) := by decide +kernel
theorem dX5_isKept_51 : decode cX5_isKept 51 = .ok (.iconst 1, 1) := by decide +kernel
theorem dX5_isKept_52 : decode cX5_isKept 52 = .ok (.goto 4, 3) := by decide +kernel
theorem dX5_isKept_55 : decode cX5_isKept 55 = .ok (.iconst 0, 1) := by decide +kernel
theorem dX5_isKept_56 : decode cX5_isKept 56 = .ok (.ireturn, 1) := by decide +kernel
theorem dX5_areCountriesSound_0 : decode cX5_areCountriesSound 0 = .ok (.aload_n 0, 1) := by decide +kernel
theorem dX5_areCountriesSound_1 : decode cX5_areCountriesSound 1 = .ok (.getfield 15, 3) := by decide +kernel
theorem dX5_areCountriesSound_4 : decode cX5_areCountriesSound 4 = .ok (.astore_n 1, 1) := by decide +kernel
theorem dX5_areCountriesSound_5 : decode cX5_areCountriesSound 5 = .ok (.aload_n 1, 1) := by decide +kernel
theorem dX5_areCountriesSound_6 : decode cX5_areCountriesSound 6 = .ok (.arraylength, 1) := by decide +kernel
theorem dX5_areCountriesSound_7 : decode cX5_areCountriesSound 7 = .ok (.istore_n 2, 1) := by decide +kernel
theorem dX5_areCountriesSound_8 : decode cX5_areCountriesSound 8 = .ok (.iconst 0, 1) := by decide +kernel
theorem dX5_areCountriesSound_9 : decode cX5_areCountriesSound 9 = .ok (.istore_n 3, 1) := by decide +kernel
theorem dX5_areCountriesSound_10 : decode cX5_areCountriesSound 10 = .ok (.iload_n 3, 1) := by decide +kernel
theorem dX5_areCountriesSound_11 : decode cX5_areCountriesSound 11 = .ok (.iload_n 2, 1) := by decide +kernel
theorem dX5_areCountriesSound_12 : decode cX5_areCountriesSound 12 = .ok (.if_icmp .ge 43, 3) := by decide +kernel
theorem dX5_areCountriesSound_15 : decode cX5_areCountriesSound 15 = .ok (.aload_n 1, 1) := by decide +kernel
theorem dX5_areCountriesSound_16 : decode cX5_areCountriesSound 16 = .ok (.iload_n 3, 1) := by decide +kernel
theorem dX5_areCountriesSound_17 : decode cX5_areCountriesSound 17 = .ok (.aaload, 1) := by decide +kernel
theorem dX5_areCountriesSound_18 : decode cX5_areCountriesSound 18 = .ok (.astore 4, 2) := by decide +kernel
theorem dX5_areCountriesSound_20 : decode cX5_areCountriesSound 20 = .ok (.aload 4, 2) := by decide +kernel
theorem dX5_areCountriesSound_22 : decode cX5_areCountriesSound 22 = .ok (.ifnull 27, 3) := by decide +kernel
theorem dX5_areCountriesSound_25 : decode cX5_areCountriesSound 25 = .ok (.aload 4, 2) := by decide +kernel
theorem dX5_areCountriesSound_27 : decode cX5_areCountriesSound 27 = .ok (.getfield 108, 3) := by decide +kernel
theorem dX5_areCountriesSound_30 : decode cX5_areCountriesSound 30 = .ok (.invokevirtual 357, 3) := by decide +kernel
theorem dX5_areCountriesSound_33 : decode cX5_areCountriesSound 33 = .ok (.ifCond .ne 14, 3) := by decide +kernel
theorem dX5_areCountriesSound_36 : decode cX5_areCountriesSound 36 = .ok (.aload 4, 2) := by decide +kernel
theorem dX5_areCountriesSound_38 : decode cX5_areCountriesSound 38 = .ok (.getfield 221, 3) := by decide +kernel
theorem dX5_areCountriesSound_41 : decode cX5_areCountriesSound 41 = .ok (.invokevirtual 360, 3) := by decide +kernel
theorem dX5_areCountriesSound_44 : decode cX5_areCountriesSound 44 = .ok (.ifCond .eq 5, 3) := by decide +kernel
theorem dX5_areCountriesSound_47 : decode cX5_areCountriesSound 47 = .ok (.iconst 0, 1) := by decide +kernel
theorem dX5_areCountriesSound_48 : decode cX5_areCountriesSound 48 = .ok (.ireturn, 1) := by decide +kernel
theorem dX5_areCountriesSound_49 : decode cX5_areCountriesSound 49 = .ok (.iinc 3 1, 3) := by decide +kernel
theorem dX5_areCountriesSound_52 : decode cX5_areCountriesSound 52 = .ok (.goto (-42), 3) := by decide +kernel
theorem dX5_areCountriesSound_55 : decode cX5_areCountriesSound 55 = .ok (.iconst 1, 1) := by decide +kernel
theorem dX5_areCountriesSound_56 : decode cX5_areCountriesSound 56 = .ok (.ireturn, 1) := by decide +kernel
theorem dX5_areHousesSound_0 : decode cX5_areHousesSound 0 = .ok (.aload_n 0, 1) := by decide +kernel
theorem dX5_areHousesSound_1 : decode cX5_areHousesSound 1 = .ok (.getfield 21, 3) := by decide +kernel
theorem dX5_areHousesSound_4 : decode cX5_areHousesSound 4 = .ok (.astore_n 1, 1) := by decide +kernel
theorem dX5_areHousesSound_5 : decode cX5_areHousesSound 5 = .ok (.aload_n 1, 1) := by decide +kernel
theorem dX5_areHousesSound_6 : decode cX5_areHousesSound 6 = .ok (.arraylength, 1) := by decide +kernel
theorem dX5_areHousesSound_7 : decode cX5_areHousesSound 7 = .ok (.istore_n 2, 1) := by decide +kernel
theorem dX5_areHousesSound_8 : decode cX5_areHousesSound 8 = .ok (.iconst 0, 1) := by decide +kernel
theorem dX5_areHousesSound_9 : decode cX5_areHousesSound 9 = .ok (.istore_n 3, 1) := by decide +kernel
theorem dX5_areHousesSound_10 : decode cX5_areHousesSound 10 = .ok (.iload_n 3, 1) := by decide +kernel
theorem dX5_areHousesSound_11 : decode cX5_areHousesSound 11 = .ok (.iload_n 2, 1) := by decide +kernel
theorem dX5_areHousesSound_12 : decode cX5_areHousesSound 12 = .ok (.if_icmp .ge 44, 3) := by decide +kernel
theorem dX5_areHousesSound_15 : decode cX5_areHousesSound 15 = .ok (.aload_n 1, 1) := by decide +kernel
theorem dX5_areHousesSound_16 : decode cX5_areHousesSound 16 = .ok (.iload_n 3, 1) := by decide +kernel
theorem dX5_areHousesSound_17 : decode cX5_areHousesSound 17 = .ok (.aaload, 1) := by decide +kernel
theorem dX5_areHousesSound_18 : decode cX5_areHousesSound 18 = .ok (.astore 4, 2) := by decide +kernel
theorem dX5_areHousesSound_20 : decode cX5_areHousesSound 20 = .ok (.aload 4, 2) := by decide +kernel
theorem dX5_areHousesSound_22 : decode cX5_areHousesSound 22 = .ok (.ifnull 28, 3) := by decide +kernel
theorem dX5_areHousesSound_25 : decode cX5_areHousesSound 25 = .ok (.aload 4, 2) := by decide +kernel
theorem dX5_areHousesSound_27 : decode cX5_areHousesSound 27 = .ok (.getfield 135, 3) := by decide +kernel
theorem dX5_areHousesSound_30 : decode cX5_areHousesSound 30 = .ok (.invokevirtual 357, 3) := by decide +kernel
theorem dX5_areHousesSound_33 : decode cX5_areHousesSound 33 = .ok (.ifCond .ne 15, 3) := by decide +kernel
theorem dX5_areHousesSound_36 : decode cX5_areHousesSound 36 = .ok (.aload 4, 2) := by decide +kernel
theorem dX5_areHousesSound_38 : decode cX5_areHousesSound 38 = .ok (.aload_n 0, 1) := by decide +kernel
theorem dX5_areHousesSound_39 : decode cX5_areHousesSound 39 = .ok (.getfield 158, 3) := by decide +kernel
theorem dX5_areHousesSound_42 : decode cX5_areHousesSound 42 = .ok (.invokevirtual 361, 3) := by decide +kernel
theorem dX5_areHousesSound_45 : decode cX5_areHousesSound 45 = .ok (.ifCond .eq 5, 3) := by decide +kernel
theorem dX5_areHousesSound_48 : decode cX5_areHousesSound 48 = .ok (.iconst 0, 1) := by decide +kernel
theorem dX5_areHousesSound_49 : decode cX5_areHousesSound 49 = .ok (.ireturn, 1) := by decide +kernel
theorem dX5_areHousesSound_50 : decode cX5_areHousesSound 50 = .ok (.iinc 3 1, 3) := by decide +kernel
theorem dX5_areHousesSound_53 : decode cX5_areHousesSound 53 = .ok (.goto (-43), 3) := by decide +kernel
theorem dX5_areHousesSound_56 : decode cX5_areHousesSound 56 = .ok (.iconst 1, 1) := by decide +kernel
theorem dX5_areHousesSound_57 : decode cX5_areHousesSound 57 = .ok (.ireturn, 1) := by decide +kernel
theorem dX5_areRoadsTheSame_0 : decode cX5_areRoadsTheSame 0 = .ok (.aload_n 0, 1) := by decide +kernel
theorem dX5_areRoadsTheSame_1 : decode cX5_areRoadsTheSame 1 = .ok (.getfield 15, 3) := by decide +kernel
theorem dX5_areRoadsTheSame_4 : decode cX5_areRoadsTheSame 4 = .ok (.astore_n 1, 1) := by decide +kernel
theorem dX5_areRoadsTheSame_5 : decode cX5_areRoadsTheSame 5 = .ok (.aload_n 1, 1) := by decide +kernel
theorem dX5_areRoadsTheSame_6 : decode cX5_areRoadsTheSame 6 = .ok (.arraylength, 1) := by decide +kernel
theorem dX5_areRoadsTheSame_7 : decode cX5_areRoadsTheSame 7 = .ok (.istore_n 2, 1) := by decide +kernel
theorem dX5_areRoadsTheSame_8 : decode cX5_areRoadsTheSame 8 = .ok (.iconst 0, 1) := by decide +kernel
theorem dX5_areRoadsTheSame_9 : decode cX5_areRoadsTheSame 9 = .ok (.istore_n 3, 1) := by decide +kernel
theorem dX5_areRoadsTheSame_10 : decode cX5_areRoadsTheSame 10 = .ok (.iload_n 3, 1) := by decide +kernel
theorem dX5_areRoadsTheSame_11 : decode cX5_areRoadsTheSame 11 = .ok (.iload_n 2, 1) := by decide +kernel
theorem dX5_areRoadsTheSame_12 : decode cX5_areRoadsTheSame 12 = .ok (.if_icmp .ge 70, 3) := by decide +kernel
theorem dX5_areRoadsTheSame_15 : decode cX5_areRoadsTheSame 15 = .ok (.aload_n 1, 1) := by decide +kernel
theorem dX5_areRoadsTheSame_16 : decode cX5_areRoadsTheSame 16 = .ok (.iload_n 3, 1) := by decide +kernel
theorem dX5_areRoadsTheSame_17 : decode cX5_areRoadsTheSame 17 = .ok (.aaload, 1) := by decide +kernel
theorem dX5_areRoadsTheSame_18 : decode cX5_areRoadsTheSame 18 = .ok (.astore 4, 2) := by decide +kernel
theorem dX5_areRoadsTheSame_20 : decode cX5_areRoadsTheSame 20 = .ok (.aload_n 0, 1) := by decide +kernel
theorem dX5_areRoadsTheSame_21 : decode cX5_areRoadsTheSame 21 = .ok (.getfield 15, 3) := by decide +kernel
theorem dX5_areRoadsTheSame_24 : decode cX5_areRoadsTheSame 24 = .ok (.astore 5, 2) := by decide +kernel
theorem dX5_areRoadsTheSame_26 : decode cX5_areRoadsTheSame 26 = .ok (.aload 5, 2) := by decide +kernel
theorem dX5_areRoadsTheSame_28 : decode cX5_areRoadsTheSame 28 = .ok (.arraylength, 1) := by decide +kernel
theorem dX5_areRoadsTheSame_29 : decode cX5_areRoadsTheSame 29 = .ok (.istore 6, 2) := by decide +kernel
theorem dX5_areRoadsTheSame_31 : decode cX5_areRoadsTheSame 31 = .ok (.iconst 0, 1) := by decide +kernel
theorem dX5_areRoadsTheSame_32 : decode cX5_areRoadsTheSame 32 = .ok (.istore 7, 2) := by decide +kernel
theorem dX5_areRoadsTheSame_34 : decode cX5_areRoadsTheSame 34 = .ok (.iload 7, 2) := by decide +kernel
theorem dX5_areRoadsTheSame_36 : decode cX5_areRoadsTheSame 36 = .ok (.iload 6, 2) := by decide +kernel
theorem dX5_areRoadsTheSame_38 : decode cX5_areRoadsTheSame 38 = .ok (.if_icmp .ge 38, 3) := by decide +kernel
theorem dX5_areRoadsTheSame_41 : decode cX5_areRoadsTheSame 41 = .ok (.aload 5, 2) := by decide +kernel
theorem dX5_areRoadsTheSame_43 : decode cX5_areRoadsTheSame 43 = .ok (.iload 7, 2) := by decide +kernel
theorem dX5_areRoadsTheSame_45 : decode cX5_areRoadsTheSame 45 = .ok (.aaload, 1) := by decide +kernel
theorem dX5_areRoadsTheSame_46 : decode cX5_areRoadsTheSame 46 = .ok (.astore 8, 2) := by decide +kernel
theorem dX5_areRoadsTheSame_48 : decode cX5_areRoadsTheSame 48 = .ok (.aload 4, 2) := by decide +kernel
theorem dX5_areRoadsTheSame_50 : decode cX5_areRoadsTheSame 50 = .ok (.ifnull 20, 3) := by decide +kernel
theorem dX5_areRoadsTheSame_53 : decode cX5_areRoadsTheSame 53 = .ok (.aload 8, 2) := by decide +kernel
theorem dX5_areRoadsTheSame_55 : decode cX5_areRoadsTheSame 55 = .ok (.ifnull 15, 3) := by decide +kernel
theorem dX5_areRoadsTheSame_58 : decode cX5_areRoadsTheSame 58 = .ok (.aload 4, 2) := by decide +kernel
theorem dX5_areRoadsTheSame_60 : decode cX5_areRoadsTheSame 60 = .ok (.aload 8, 2) := by decide +kernel
theorem dX5_areRoadsTheSame_62 : decode cX5_areRoadsTheSame 62 = .ok (.invokestatic 364, 3) := by decide +kernel
theorem dX5_areRoadsTheSame_65 : decode cX5_areRoadsTheSame 65 = .ok (.ifCond .ne 5, 3) := by decide +kernel
theorem dX5_areRoadsTheSame_68 : decode cX5_areRoadsTheSame 68 = .ok (.iconst 0, 1) := by decide +kernel
theorem dX5_areRoadsTheSame_69 : decode cX5_areRoadsTheSame 69 = .ok (.ireturn, 1) := by decide +kernel
theorem dX5_areRoadsTheSame_70 : decode cX5_areRoadsTheSame 70 = .ok (.iinc 7 1, 3) := by decide +kernel
theorem dX5_areRoadsTheSame_73 : decode cX5_areRoadsTheSame 73 = .ok (.goto (-39), 3) := by decide +kernel
theorem dX5_areRoadsTheSame_76 : decode cX5_areRoadsTheSame 76 = .ok (.iinc 3 1, 3) := by decide +kernel
theorem dX5_areRoadsTheSame_79 : decode cX5_areRoadsTheSame 79 = .ok (.goto (-69), 3) := by decide +kernel
theorem dX5_areRoadsTheSame_82 : decode cX5_areRoadsTheSame 82 = .ok (.iconst 1, 1) := by decide +kernel
theorem dX5_areRoadsTheSame_83 : decode cX5_areRoadsTheSame 83 = .ok (.ireturn, 1) := by decide +kernel
theorem dX5_hasSameRoads_0 : decode cX5_hasSameRoads 0 = .ok (.aload_n 0, 1) := by decide +kernel
theorem dX5_hasSameRoads_1 : decode cX5_hasSameRoads 1 = .ok (.aload_n 1, 1) := by decide +kernel
theorem dX5_hasSameRoads_2 : decode cX5_hasSameRoads 2 = .ok (.getfield 98, 3) := by decide +kernel
theorem dX5_hasSameRoads_5 : decode cX5_hasSameRoads 5 = .ok (.invokevirtual 101, 3) := by decide +kernel
theorem dX5_hasSameRoads_8 : decode cX5_hasSameRoads 8 = .ok (.aload_n 1, 1) := by decide +kernel
theorem dX5_hasSameRoads_9 : decode cX5_hasSameRoads 9 = .ok (.aload_n 0, 1) := by decide +kernel
theorem dX5_hasSameRoads_10 : decode cX5_hasSameRoads 10 = .ok (.getfield 98, 3) := by decide +kernel
theorem dX5_hasSameRoads_13 : decode cX5_hasSameRoads 13 = .ok (.invokevirtual 101, 3) := by decide +kernel
theorem dX5_hasSameRoads_16 : decode cX5_hasSameRoads 16 = .ok (.if_icmp .ne 26, 3) := by decide +kernel
theorem dX5_hasSameRoads_19 : decode cX5_hasSameRoads 19 = .ok (.aload_n 0, 1) := by decide +kernel
theorem dX5_hasSameRoads_20 : decode cX5_hasSameRoads 20 = .ok (.aload_n 1, 1) := by decide +kernel
theorem dX5_hasSameRoads_21 : decode cX5_hasSameRoads 21 = .ok (.getfield 98, 3) := by decide +kernel
theorem dX5_hasSameRoads_24 : decode cX5_hasSameRoads 24 = .ok (.invokevirtual 151, 3) := by decide +kernel
theorem dX5_hasSameRoads_27 : decode cX5_hasSameRoads 27 = .ok (.aload_n 1, 1) := by decide +kernel
theorem dX5_hasSameRoads_28 : decode cX5_hasSameRoads 28 = .ok (.aload_n 0, 1) := by decide +kernel
theorem dX5_hasSameRoads_29 : decode cX5_hasSameRoads 29 = .ok (.getfield 98, 3) := by decide +kernel
theorem dX5_hasSameRoads_32 : decode cX5_hasSameRoads 32 = .ok (.invokevirtual 151, 3) := by decide +kernel
theorem dX5_hasSameRoads_35 : decode cX5_hasSameRoads 35 = .ok (.if_icmp .ne 7, 3) := by decide +kernel
theorem dX5_hasSameRoads_38 : decode cX5_hasSameRoads 38 = .ok (.iconst 1, 1) := by decide +kernel
theorem dX5_hasSameRoads_39 : decode cX5_hasSameRoads 39 = .ok (.goto 4, 3) := by decide +kernel
theorem dX5_hasSameRoads_42 : decode cX5_hasSameRoads 42 = .ok (.iconst 0, 1) := by decide +kernel
theorem dX5_hasSameRoads_43 : decode cX5_hasSameRoads 43 = .ok (.ireturn, 1) := by decide +kernel
theorem dX5_digest_0 : decode cX5_digest 0 = .ok (.ldc2_w 368, 3) := by decide +kernel
theorem dX5_digest_3 : decode cX5_digest 3 = .ok (.lstore_n 1, 1) := by decide +kernel
theorem dX5_digest_4 : decode cX5_digest 4 = .ok (.lload_n 1, 1) := by decide +kernel
theorem dX5_digest_5 : decode cX5_digest 5 = .ok (.ldc2_w 370, 3) := by decide +kernel
theorem dX5_digest_8 : decode cX5_digest 8 = .ok (.lmul, 1) := by decide +kernel
theorem dX5_digest_9 : decode cX5_digest 9 = .ok (.aload_n 0, 1) := by decide +kernel
theorem dX5_digest_10 : decode cX5_digest 10 = .ok (.getfield 158, 3) := by decide +kernel
theorem dX5_digest_13 : decode cX5_digest 13 = .ok (.i2l, 1) := by decide +kernel
theorem dX5_digest_14 : decode cX5_digest 14 = .ok (.ladd, 1) := by decide +kernel
theorem dX5_digest_15 : decode cX5_digest 15 = .ok (.lstore_n 1, 1) := by decide +kernel
theorem dX5_digest_16 : decode cX5_digest 16 = .ok (.lload_n 1, 1) := by decide +kernel
theorem dX5_digest_17 : decode cX5_digest 17 = .ok (.ldc2_w 370, 3) := by decide +kernel
theorem dX5_digest_20 : decode cX5_digest 20 = .ok (.lmul, 1) := by decide +kernel
theorem dX5_digest_21 : decode cX5_digest 21 = .ok (.aload_n 0, 1) := by decide +kernel
theorem dX5_digest_22 : decode cX5_digest 22 = .ok (.getfield 9, 3) := by decide +kernel
theorem dX5_digest_25 : decode cX5_digest 25 = .ok (.i2l, 1) := by decide +kernel
theorem dX5_digest_26 : decode cX5_digest 26 = .ok (.ladd, 1) := by decide +kernel
theorem dX5_digest_27 : decode cX5_digest 27 = .ok (.lstore_n 1, 1) := by decide +kernel
theorem dX5_digest_28 : decode cX5_digest 28 = .ok (.aload_n 0, 1) := by decide +kernel
theorem dX5_digest_29 : decode cX5_digest 29 = .ok (.lload_n 1, 1) := by decide +kernel
theorem dX5_digest_30 : decode cX5_digest 30 = .ok (.iconst 0, 1) := by decide +kernel
theorem dX5_digest_31 : decode cX5_digest 31 = .ok (.invokevirtual 372, 3) := by decide +kernel
theorem dX5_digest_34 : decode cX5_digest 34 = .ok (.lstore_n 1, 1) := by decide +kernel
theorem dX5_digest_35 : decode cX5_digest 35 = .ok (.aload_n 0, 1) := by decide +kernel
theorem dX5_digest_36 : decode cX5_digest 36 = .ok (.lload_n 1, 1) := by decide +kernel
theorem dX5_digest_37 : decode cX5_digest 37 = .ok (.iconst 1, 1) := by decide +kernel
theorem dX5_digest_38 : decode cX5_digest 38 = .ok (.invokevirtual 372, 3) := by decide +kernel
theorem dX5_digest_41 : decode cX5_digest 41 = .ok (.lstore_n 1, 1) := by decide +kernel
theorem dX5_digest_42 : decode cX5_digest 42 = .ok (.aload_n 0, 1) := by decide +kernel
theorem dX5_digest_43 : decode cX5_digest 43 = .ok (.getfield 15, 3) := by decide +kernel
theorem dX5_digest_46 : decode cX5_digest 46 = .ok (.astore_n 3, 1) := by decide +kernel
theorem dX5_digest_47 : decode cX5_digest 47 = .ok (.aload_n 3, 1) := by decide +kernel
theorem dX5_digest_48 : decode cX5_digest 48 = .ok (.arraylength, 1) := by decide +kernel
theorem dX5_digest_49 : decode cX5_digest 49 = .ok (.istore 4, 2) := by decide +kernel
theorem dX5_digest_51 : decode cX5_digest 51 = .ok (.iconst 0, 1) := by decide +kernel
theorem dX5_digest_52 : decode cX5_digest 52 = .ok (.istore 5, 2) := by decide +kernel
theorem dX5_digest_54 : decode cX5_digest 54 = .ok (.iload 5, 2) := by decide +kernel
theorem dX5_digest_56 : decode cX5_digest 56 = .ok (.iload 4, 2) := by decide +kernel
theorem dX5_digest_58 : decode cX5_digest 58 = .ok (.if_icmp .ge 28, 3) := by decide +kernel
theorem dX5_digest_61 : decode cX5_digest 61 = .ok (.aload_n 3, 1) := by decide +kernel
theorem dX5_digest_62 : decode cX5_digest 62 = .ok (.iload 5, 2) := by decide +kernel
theorem dX5_digest_64 : decode cX5_digest 64 = .ok (.aaload, 1) := by decide +kernel
theorem dX5_digest_65 : decode cX5_digest 65 = .ok (.astore 6, 2) := by decide +kernel
theorem dX5_digest_67 : decode cX5_digest 67 = .ok (.aload 6, 2) := by decide +kernel
theorem dX5_digest_69 : decode cX5_digest 69 = .ok (.ifnull 11, 3) := by decide +kernel
theorem dX5_digest_72 : decode cX5_digest 72 = .ok (.aload_n 0, 1) := by decide +kernel
theorem dX5_digest_73 : decode cX5_digest 73 = .ok (.lload_n 1, 1) := by decide +kernel
theorem dX5_digest_74 : decode cX5_digest 74 = .ok (.aload 6, 2) := by decide +kernel
theorem dX5_digest_76 : decode cX5_digest 76 = .ok (.invokevirtual 376, 3) := by decide +kernel
theorem dX5_digest_79 : decode cX5_digest 79 = .ok (.lstore_n 1, 1) := by decide +kernel
theorem dX5_digest_80 : decode cX5_digest 80 = .ok (.iinc 5 1, 3) := by decide +kernel
theorem dX5_digest_83 : decode cX5_digest 83 = .ok (.goto (-29), 3) := by decide +kernel
theorem dX5_digest_86 : decode cX5_digest 86 = .ok (.aload_n 0, 1) := by decide +kernel
theorem dX5_digest_87 : decode cX5_digest 87 = .ok (.getfield 21, 3) := by decide +kernel
theorem dX5_digest_90 : decode cX5_digest 90 = .ok (.astore_n 3, 1) := by decide +kernel
theorem dX5_digest_91 : decode cX5_digest 91 = .ok (.aload_n 3, 1) := by decide +kernel
theorem dX5_digest_92 : decode cX5_digest 92 = .ok (.arraylength, 1) := by decide +kernel
theorem dX5_digest_93 : decode cX5_digest 93 = .ok (.istore 4, 2) := by decide +kernel
theorem dX5_digest_95 : decode cX5_digest 95 = .ok (.iconst 0, 1) := by decide +kernel
theorem dX5_digest_96 : decode cX5_digest 96 = .ok (.istore 5, 2) := by decide +kernel
theorem dX5_digest_98 : decode cX5_digest 98 = .ok (.iload 5, 2) := by decide +kernel
theorem dX5_digest_100 : decode cX5_digest 100 = .ok (.iload 4, 2) := by decide +kernel
theorem dX5_digest_102 : decode cX5_digest 102 = .ok (.if_icmp .ge 28, 3) := by decide +kernel
theorem dX5_digest_105 : decode cX5_digest 105 = .ok (.aload_n 3, 1) := by decide +kernel
theorem dX5_digest_106 : decode cX5_digest 106 = .ok (.iload 5, 2) := by decide +kernel
theorem dX5_digest_108 : decode cX5_digest 108 = .ok (.aaload, 1) := by decide +kernel
theorem dX5_digest_109 : decode cX5_digest 109 = .ok (.astore 6, 2) := by decide +kernel
theorem dX5_digest_111 : decode cX5_digest 111 = .ok (.aload 6, 2) := by decide +kernel
theorem dX5_digest_113 : decode cX5_digest 113 = .ok (.ifnull 11, 3) := by decide +kernel
theorem dX5_digest_116 : decode cX5_digest 116 = .ok (.aload_n 0, 1) := by decide +kernel
theorem dX5_digest_117 : decode cX5_digest 117 = .ok (.lload_n 1, 1) := by decide +kernel
theorem dX5_digest_118 : decode cX5_digest 118 = .ok (.aload 6, 2) := by decide +kernel
theorem dX5_digest_120 : decode cX5_digest 120 = .ok (.invokevirtual 380, 3) := by decide +kernel
theorem dX5_digest_123 : decode cX5_digest 123 = .ok (.lstore_n 1, 1) := by decide +kernel
theorem dX5_digest_124 : decode cX5_digest 124 = .ok (.iinc 5 1, 3) := by decide +kernel
theorem dX5_digest_127 : decode cX5_digest 127 = .ok (.goto (-29), 3) := by decide +kernel
theorem dX5_digest_130 : decode cX5_digest 130 = .ok (.aload_n 0, 1) := by decide +kernel
theorem dX5_digest_131 : decode cX5_digest 131 = .ok (.getfield 27, 3) := by decide +kernel
theorem dX5_digest_134 : decode cX5_digest 134 = .ok (.astore_n 3, 1) := by decide +kernel
theorem dX5_digest_135 : decode cX5_digest 135 = .ok (.aload_n 3, 1) := by decide +kernel
theorem dX5_digest_136 : decode cX5_digest 136 = .ok (.arraylength, 1) := by decide +kernel
theorem dX5_digest_137 : decode cX5_digest 137 = .ok (.istore 4, 2) := by decide +kernel
theorem dX5_digest_139 : decode cX5_digest 139 = .ok (.iconst 0, 1) := by decide +kernel
theorem dX5_digest_140 : decode cX5_digest 140 = .ok (.istore 5, 2) := by decide +kernel
theorem dX5_digest_142 : decode cX5_digest 142 = .ok (.iload 5, 2) := by decide +kernel
theorem dX5_digest_144 : decode cX5_digest 144 = .ok (.iload 4, 2) := by decide +kernel
theorem dX5_digest_146 : decode cX5_digest 146 = .ok (.if_icmp .ge 28, 3) := by decide +kernel
theorem dX5_digest_149 : decode cX5_digest 149 = .ok (.aload_n 3, 1) := by decide +kernel
theorem dX5_digest_150 : decode cX5_digest 150 = .ok (.iload 5, 2) := by decide +kernel
theorem dX5_digest_152 : decode cX5_digest 152 = .ok (.aaload, 1) := by decide +kernel
theorem dX5_digest_153 : decode cX5_digest 153 = .ok (.astore 6, 2) := by decide +kernel
theorem dX5_digest_155 : decode cX5_digest 155 = .ok (.aload 6, 2) := by decide +kernel
theorem dX5_digest_157 : decode cX5_digest 157 = .ok (.ifnull 11, 3) := by decide +kernel
theorem dX5_digest_160 : decode cX5_digest 160 = .ok (.aload_n 0, 1) := by decide +kernel
theorem dX5_digest_161 : decode cX5_digest 161 = .ok (.lload_n 1, 1) := by decide +kernel
theorem dX5_digest_162 : decode cX5_digest 162 = .ok (.aload 6, 2) := by decide +kernel
theorem dX5_digest_164 : decode cX5_digest 164 = .ok (.invokevirtual 384, 3) := by decide +kernel
theorem dX5_digest_167 : decode cX5_digest 167 = .ok (.lstore_n 1, 1) := by decide +kernel
theorem dX5_digest_168 : decode cX5_digest 168 = .ok (.iinc 5 1, 3) := by decide +kernel
theorem dX5_digest_171 : decode cX5_digest 171 = .ok (.goto (-29), 3) := by decide +kernel
theorem dX5_digest_174 : decode cX5_digest 174 = .ok (.lload_n 1, 1) := by decide +kernel
theorem dX5_digest_175 : decode cX5_digest 175 = .ok (.ldc2_w 370, 3) := by decide +kernel
theorem dX5_digest_178 : decode cX5_digest 178 = .ok (.lmul, 1) := by decide +kernel
theorem dX5_digest_179 : decode cX5_digest 179 = .ok (.aload_n 0, 1) := by decide +kernel
theorem dX5_digest_180 : decode cX5_digest 180 = .ok (.sipush 1000, 3) := by decide +kernel
theorem dX5_digest_183 : decode cX5_digest 183 = .ok (.invokevirtual 337, 3) := by decide +kernel
theorem dX5_digest_186 : decode cX5_digest 186 = .ok (.ifCond .eq 7, 3) := by decide +kernel
theorem dX5_digest_189 : decode cX5_digest 189 = .ok (.iconst 1, 1) := by decide +kernel
theorem dX5_digest_190 : decode cX5_digest 190 = .ok (.goto 4, 3) := by decide +kernel
theorem dX5_digest_193 : decode cX5_digest 193 = .ok (.iconst 0, 1) := by decide +kernel
theorem dX5_digest_194 : decode cX5_digest 194 = .ok (.i2l, 1) := by decide +kernel
theorem dX5_digest_195 : decode cX5_digest 195 = .ok (.ladd, 1) := by decide +kernel
theorem dX5_digest_196 : decode cX5_digest 196 = .ok (.lstore_n 1, 1) := by decide +kernel
theorem dX5_digest_197 : decode cX5_digest 197 = .ok (.lload_n 1, 1) := by decide +kernel
theorem dX5_digest_198 : decode cX5_digest 198 = .ok (.ldc2_w 370, 3) := by decide +kernel
theorem dX5_digest_201 : decode cX5_digest 201 = .ok (.lmul, 1) := by decide +kernel
theorem dX5_digest_202 : decode cX5_digest 202 = .ok (.aload_n 0, 1) := by decide +kernel
theorem dX5_digest_203 : decode cX5_digest 203 = .ok (.invokevirtual 388, 3) := by decide +kernel
theorem dX5_digest_206 : decode cX5_digest 206 = .ok (.ifCond .eq 7, 3) := by decide +kernel
theorem dX5_digest_209 : decode cX5_digest 209 = .ok (.iconst 1, 1) := by decide +kernel
theorem dX5_digest_210 : decode cX5_digest 210 = .ok (.goto 4, 3) := by decide +kernel
theorem dX5_digest_213 : decode cX5_digest 213 = .ok (.iconst 0, 1) := by decide +kernel
theorem dX5_digest_214 : decode cX5_digest 214 = .ok (.i2l, 1) := by decide +kernel
theorem dX5_digest_215 : decode cX5_digest 215 = .ok (.ladd, 1) := by decide +kernel
theorem dX5_digest_216 : decode cX5_digest 216 = .ok (.lstore_n 1, 1) := by decide +kernel
theorem dX5_digest_217 : decode cX5_digest 217 = .ok (.lload_n 1, 1) := by decide +kernel
theorem dX5_digest_218 : decode cX5_digest 218 = .ok (.lreturn, 1) := by decide +kernel
theorem dX5_digestWorld_0 : decode cX5_digestWorld 0 = .ok (.lload_n 1, 1) := by decide +kernel
theorem dX5_digestWorld_1 : decode cX5_digestWorld 1 = .ok (.lstore 4, 2) := by decide +kernel
theorem dX5_digestWorld_3 : decode cX5_digestWorld 3 = .ok (.iconst 0, 1) := by decide +kernel
theorem dX5_digestWorld_4 : decode cX5_digestWorld 4 = .ok (.istore 6, 2) := by decide +kernel
theorem dX5_digestWorld_6 : decode cX5_digestWorld 6 = .ok (.iload 6, 2) := by decide +kernel
theorem dX5_digestWorld_8 : decode cX5_digestWorld 8 = .ok (.bipush 6, 2) := by decide +kernel
theorem dX5_digestWorld_10 : decode cX5_digestWorld 10 = .ok (.if_icmp .ge 26, 3) := by decide +kernel
theorem dX5_digestWorld_13 : decode cX5_digestWorld 13 = .ok (.lload 4, 2) := by decide +kernel
theorem dX5_digestWorld_15 : decode cX5_digestWorld 15 = .ok (.ldc2_w 370, 3) := by decide +kernel
theorem dX5_digestWorld_18 : decode cX5_digestWorld 18 = .ok (.lmul, 1) := by decide +kernel
theorem dX5_digestWorld_19 : decode cX5_digestWorld 19 = .ok (.aload_n 0, 1) := by decide +kernel
theorem dX5_digestWorld_20 : decode cX5_digestWorld 20 = .ok (.iload_n 3, 1) := by decide +kernel
theorem dX5_digestWorld_21 : decode cX5_digestWorld 21 = .ok (.iload 6, 2) := by decide +kernel
theorem dX5_digestWorld_23 : decode cX5_digestWorld 23 = .ok (.invokevirtual 306, 3) := by decide +kernel
theorem dX5_digestWorld_26 : decode cX5_digestWorld 26 = .ok (.i2l, 1) := by decide +kernel
theorem dX5_digestWorld_27 : decode cX5_digestWorld 27 = .ok (.ladd, 1) := by decide +kernel
theorem dX5_digestWorld_28 : decode cX5_digestWorld 28 = .ok (.lstore 4, 2) := by decide +kernel
theorem dX5_digestWorld_30 : decode cX5_digestWorld 30 = .ok (.iinc 6 1, 3) := by decide +kernel
theorem dX5_digestWorld_33 : decode cX5_digestWorld 33 = .ok (.goto (-27), 3) := by decide +kernel
theorem dX5_digestWorld_36 : decode cX5_digestWorld 36 = .ok (.lload 4, 2) := by decide +kernel
theorem dX5_digestWorld_38 : decode cX5_digestWorld 38 = .ok (.lreturn, 1) := by decide +kernel
theorem dX5_digestCountry_0 : decode cX5_digestCountry 0 = .ok (.lload_n 1, 1) := by decide +kernel
theorem dX5_digestCountry_1 : decode cX5_digestCountry 1 = .ok (.lstore 4, 2) := by decide +kernel
theorem dX5_digestCountry_3 : decode cX5_digestCountry 3 = .ok (.iconst 0, 1) := by decide +kernel
theorem dX5_digestCountry_4 : decode cX5_digestCountry 4 = .ok (.istore 6, 2) := by decide +kernel
theorem dX5_digestCountry_6 : decode cX5_digestCountry 6 = .ok (.iload 6, 2) := by decide +kernel
theorem dX5_digestCountry_8 : decode cX5_digestCountry 8 = .ok (.bipush 9, 2) := by decide +kernel
theorem dX5_digestCountry_10 : decode cX5_digestCountry 10 = .ok (.if_icmp .ge 26, 3) := by decide +kernel
theorem dX5_digestCountry_13 : decode cX5_digestCountry 13 = .ok (.lload 4, 2) := by decide +kernel
theorem dX5_digestCountry_15 : decode cX5_digestCountry 15 = .ok (.ldc2_w 370, 3) := by decide +kernel
theorem dX5_digestCountry_18 : decode cX5_digestCountry 18 = .ok (.lmul, 1) := by decide +kernel
theorem dX5_digestCountry_19 : decode cX5_digestCountry 19 = .ok (.aload_n 0, 1) := by decide +kernel
theorem dX5_digestCountry_20 : decode cX5_digestCountry 20 = .ok (.aload_n 3, 1) := by decide +kernel
theorem dX5_digestCountry_21 : decode cX5_digestCountry 21 = .ok (.iload 6, 2) := by decide +kernel
theorem dX5_digestCountry_23 : decode cX5_digestCountry 23 = .ok (.invokevirtual 246, 3) := by decide +kernel
theorem dX5_digestCountry_26 : decode cX5_digestCountry 26 = .ok (.i2l, 1) := by decide +kernel
theorem dX5_digestCountry_27 : decode cX5_digestCountry 27 = .ok (.ladd, 1) := by decide +kernel
theorem dX5_digestCountry_28 : decode cX5_digestCountry 28 = .ok (.lstore 4, 2) := by decide +kernel
theorem dX5_digestCountry_30 : decode cX5_digestCountry 30 = .ok (.iinc 6 1, 3) := by decide +kernel
theorem dX5_digestCountry_33 : decode cX5_digestCountry 33 = .ok (.goto (-27), 3) := by decide +kernel
theorem dX5_digestCountry_36 : decode cX5_digestCountry 36 = .ok (.lload 4, 2) := by decide +kernel
theorem dX5_digestCountry_38 : decode cX5_digestCountry 38 = .ok (.ldc2_w 370, 3) := by decide +kernel
theorem dX5_digestCountry_41 : decode cX5_digestCountry 41 = .ok (.lmul, 1) := by decide +kernel
theorem dX5_digestCountry_42 : decode cX5_digestCountry 42 = .ok (.aload_n 3, 1) := by decide +kernel
theorem dX5_digestCountry_43 : decode cX5_digestCountry 43 = .ok (.getfield 221, 3) := by decide +kernel
theorem dX5_digestCountry_46 : decode cX5_digestCountry 46 = .ok (.bipush 37, 2) := by decide +kernel
theorem dX5_digestCountry_48 : decode cX5_digestCountry 48 = .ok (.invokevirtual 238, 3) := by decide +kernel
theorem dX5_digestCountry_51 : decode cX5_digestCountry 51 = .ok (.i2l, 1) := by decide +kernel
theorem dX5_digestCountry_52 : decode cX5_digestCountry 52 = .ok (.ladd, 1) := by decide +kernel
theorem dX5_digestCountry_53 : decode cX5_digestCountry 53 = .ok (.lstore 4, 2) := by decide +kernel
theorem dX5_digestCountry_55 : decode cX5_digestCountry 55 = .ok (.lload 4, 2) := by decide +kernel
theorem dX5_digestCountry_57 : decode cX5_digestCountry 57 = .ok (.ldc2_w 370, 3) := by decide +kernel
theorem dX5_digestCountry_60 : decode cX5_digestCountry 60 = .ok (.lmul, 1) := by decide +kernel
theorem dX5_digestCountry_61 : decode cX5_digestCountry 61 = .ok (.aload_n 0, 1) := by decide +kernel
theorem dX5_digestCountry_62 : decode cX5_digestCountry 62 = .ok (.aload_n 3, 1) := by decide +kernel
theorem dX5_digestCountry_63 : decode cX5_digestCountry 63 = .ok (.iconst 0, 1) := by decide +kernel
theorem dX5_digestCountry_64 : decode cX5_digestCountry 64 = .ok (.sipush 1000, 3) := by decide +kernel
theorem dX5_digestCountry_67 : decode cX5_digestCountry 67 = .ok (.invokevirtual 333, 3) := by decide +kernel
theorem dX5_digestCountry_70 : decode cX5_digestCountry 70 = .ok (.i2l, 1) := by decide +kernel
theorem dX5_digestCountry_71 : decode cX5_digestCountry 71 = .ok (.ladd, 1) := by decide +kernel
theorem dX5_digestCountry_72 : decode cX5_digestCountry 72 = .ok (.lstore 4, 2) := by decide +kernel
theorem dX5_digestCountry_74 : decode cX5_digestCountry 74 = .ok (.lload 4, 2) := by decide +kernel
theorem dX5_digestCountry_76 : decode cX5_digestCountry 76 = .ok (.ldc2_w 370, 3) := by decide +kernel
theorem dX5_digestCountry_79 : decode cX5_digestCountry 79 = .ok (.lmul, 1) := by decide +kernel
theorem dX5_digestCountry_80 : decode cX5_digestCountry 80 = .ok (.aload_n 0, 1) := by decide +kernel
theorem dX5_digestCountry_81 : decode cX5_digestCountry 81 = .ok (.aload_n 3, 1) := by decide +kernel
theorem dX5_digestCountry_82 : decode cX5_digestCountry 82 = .ok (.iconst 1, 1) := by decide +kernel
theorem dX5_digestCountry_83 : decode cX5_digestCountry 83 = .ok (.sipush 1000, 3) := by decide +kernel
theorem dX5_digestCountry_86 : decode cX5_digestCountry 86 = .ok (.invokevirtual 333, 3) := by decide +kernel
theorem dX5_digestCountry_89 : decode cX5_digestCountry 89 = .ok (.i2l, 1) := by decide +kernel
theorem dX5_digestCountry_90 : decode cX5_digestCountry 90 = .ok (.ladd, 1) := by decide +kernel
theorem dX5_digestCountry_91 : decode cX5_digestCountry 91 = .ok (.lstore 4, 2) := by decide +kernel
theorem dX5_digestCountry_93 : decode cX5_digestCountry 93 = .ok (.lload 4, 2) := by decide +kernel
theorem dX5_digestCountry_95 : decode cX5_digestCountry 95 = .ok (.ldc2_w 370, 3) := by decide +kernel
theorem dX5_digestCountry_98 : decode cX5_digestCountry 98 = .ok (.lmul, 1) := by decide +kernel
theorem dX5_digestCountry_99 : decode cX5_digestCountry 99 = .ok (.aload_n 0, 1) := by decide +kernel
theorem dX5_digestCountry_100 : decode cX5_digestCountry 100 = .ok (.aload_n 3, 1) := by decide +kernel
theorem dX5_digestCountry_101 : decode cX5_digestCountry 101 = .ok (.getfield 108, 3) := by decide +kernel
theorem dX5_digestCountry_104 : decode cX5_digestCountry 104 = .ok (.iconst 0, 1) := by decide +kernel
theorem dX5_digestCountry_105 : decode cX5_digestCountry 105 = .ok (.bipush 10, 2) := by decide +kernel
theorem dX5_digestCountry_107 : decode cX5_digestCountry 107 = .ok (.invokevirtual 340, 3) := by decide +kernel
theorem dX5_digestCountry_110 : decode cX5_digestCountry 110 = .ok (.i2l, 1) := by decide +kernel
theorem dX5_digestCountry_111 : decode cX5_digestCountry 111 = .ok (.ladd, 1) := by decide +kernel
theorem dX5_digestCountry_112 : decode cX5_digestCountry 112 = .ok (.lstore 4, 2) := by decide +kernel
theorem dX5_digestCountry_114 : decode cX5_digestCountry 114 = .ok (.lload 4, 2) := by decide +kernel
theorem dX5_digestCountry_116 : decode cX5_digestCountry 116 = .ok (.ldc2_w 370, 3) := by decide +kernel
theorem dX5_digestCountry_119 : decode cX5_digestCountry 119 = .ok (.lmul, 1) := by decide +kernel
theorem dX5_digestCountry_120 : decode cX5_digestCountry 120 = .ok (.aload_n 0, 1) := by decide +kernel
theorem dX5_digestCountry_121 : decode cX5_digestCountry 121 = .ok (.aload_n 3, 1) := by decide +kernel
theorem dX5_digestCountry_122 : decode cX5_digestCountry 122 = .ok (.getfield 108, 3) := by decide +kernel
theorem dX5_digestCountry_125 : decode cX5_digestCountry 125 = .ok (.iconst 1, 1) := by decide +kernel
theorem dX5_digestCountry_126 : decode cX5_digestCountry 126 = .ok (.bipush 10, 2) := by decide +kernel
theorem dX5_digestCountry_128 : decode cX5_digestCountry 128 = .ok (.invokevirtual 340, 3) := by decide +kernel
theorem dX5_digestCountry_131 : decode cX5_digestCountry 131 = .ok (.i2l, 1) := by decide +kernel
theorem dX5_digestCountry_132 : decode cX5_digestCountry 132 = .ok (.ladd, 1) := by decide +kernel
theorem dX5_digestCountry_133 : decode cX5_digestCountry 133 = .ok (.lstore 4, 2) := by decide +kernel
theorem dX5_digestCountry_135 : decode cX5_digestCountry 135 = .ok (.lload 4, 2) := by decide +kernel
theorem dX5_digestCountry_137 : decode cX5_digestCountry 137 = .ok (.lreturn, 1) := by decide +kernel
theorem dX5_digestHouse_0 : decode cX5_digestHouse 0 = .ok (.lload_n 1, 1) := by decide +kernel
theorem dX5_digestHouse_1 : decode cX5_digestHouse 1 = .ok (.lstore 4, 2) := by decide +kernel
theorem dX5_digestHouse_3 : decode cX5_digestHouse 3 = .ok (.iconst 0, 1) := by decide +kernel
theorem dX5_digestHouse_4 : decode cX5_digestHouse 4 = .ok (.istore 6, 2) := by decide +kernel
theorem dX5_digestHouse_6 : decode cX5_digestHouse 6 = .ok (.iload 6, 2) := by decide +kernel
theorem dX5_digestHouse_8 : decode cX5_digestHouse 8 = .ok (.bipush 8, 2) := by decide +kernel
theorem dX5_digestHouse_10 : decode cX5_digestHouse 10 = .ok (.if_icmp .ge 26, 3) := by decide +kernel
theorem dX5_digestHouse_13 : decode cX5_digestHouse 13 = .ok (.lload 4, 2) := by decide +kernel
theorem dX5_digestHouse_15 : decode cX5_digestHouse 15 = .ok (.ldc2_w 370, 3) := by decide +kernel
theorem dX5_digestHouse_18 : decode cX5_digestHouse 18 = .ok (.lmul, 1) := by decide +kernel
theorem dX5_digestHouse_19 : decode cX5_digestHouse 19 = .ok (.aload_n 0, 1) := by decide +kernel
theorem dX5_digestHouse_20 : decode cX5_digestHouse 20 = .ok (.aload_n 3, 1) := by decide +kernel
theorem dX5_digestHouse_21 : decode cX5_digestHouse 21 = .ok (.iload 6, 2) := by decide +kernel
theorem dX5_digestHouse_23 : decode cX5_digestHouse 23 = .ok (.invokevirtual 270, 3) := by decide +kernel
theorem dX5_digestHouse_26 : decode cX5_digestHouse 26 = .ok (.i2l, 1) := by decide +kernel
theorem dX5_digestHouse_27 : decode cX5_digestHouse 27 = .ok (.ladd, 1) := by decide +kernel
theorem dX5_digestHouse_28 : decode cX5_digestHouse 28 = .ok (.lstore 4, 2) := by decide +kernel
theorem dX5_digestHouse_30 : decode cX5_digestHouse 30 = .ok (.iinc 6 1, 3) := by decide +kernel
theorem dX5_digestHouse_33 : decode cX5_digestHouse 33 = .ok (.goto (-27), 3) := by decide +kernel
theorem dX5_digestHouse_36 : decode cX5_digestHouse 36 = .ok (.lload 4, 2) := by decide +kernel
theorem dX5_digestHouse_38 : decode cX5_digestHouse 38 = .ok (.lreturn, 1) := by decide +kernel
theorem dX5_digestDebt_0 : decode cX5_digestDebt 0 = .ok (.lload_n 1, 1) := by decide +kernel
theorem dX5_digestDebt_1 : decode cX5_digestDebt 1 = .ok (.lstore 4, 2) := by decide +kernel
theorem dX5_digestDebt_3 : decode cX5_digestDebt 3 = .ok (.iconst 4, 1) := by decide +kernel
theorem dX5_digestDebt_4 : decode cX5_digestDebt 4 = .ok (.istore 6, 2) := by decide +kernel
theorem dX5_digestDebt_6 : decode cX5_digestDebt 6 = .ok (.iload 6, 2) := by decide +kernel
theorem dX5_digestDebt_8 : decode cX5_digestDebt 8 = .ok (.bipush 7, 2) := by decide +kernel
theorem dX5_digestDebt_10 : decode cX5_digestDebt 10 = .ok (.if_icmp .ge 26, 3) := by decide +kernel
theorem dX5_digestDebt_13 : decode cX5_digestDebt 13 = .ok (.lload 4, 2) := by decide +kernel
theorem dX5_digestDebt_15 : decode cX5_digestDebt 15 = .ok (.ldc2_w 370, 3) := by decide +kernel
theorem dX5_digestDebt_18 : decode cX5_digestDebt 18 = .ok (.lmul, 1) := by decide +kernel
theorem dX5_digestDebt_19 : decode cX5_digestDebt 19 = .ok (.aload_n 0, 1) := by decide +kernel
theorem dX5_digestDebt_20 : decode cX5_digestDebt 20 = .ok (.aload_n 3, 1) := by decide +kernel
theorem dX5_digestDebt_21 : decode cX5_digestDebt 21 = .ok (.iload 6, 2) := by decide +kernel
theorem dX5_digestDebt_23 : decode cX5_digestDebt 23 = .ok (.invokevirtual 287, 3) := by decide +kernel
theorem dX5_digestDebt_26 : decode cX5_digestDebt 26 = .ok (.i2l, 1) := by decide +kernel
theorem dX5_digestDebt_27 : decode cX5_digestDebt 27 = .ok (.ladd, 1) := by decide +kernel
theorem dX5_digestDebt_28 : decode cX5_digestDebt 28 = .ok (.lstore 4, 2) := by decide +kernel
theorem dX5_digestDebt_30 : decode cX5_digestDebt 30 = .ok (.iinc 6 1, 3) := by decide +kernel
theorem dX5_digestDebt_33 : decode cX5_digestDebt 33 = .ok (.goto (-27), 3) := by decide +kernel
theorem dX5_digestDebt_36 : decode cX5_digestDebt 36 = .ok (.lload 4, 2) := by decide +kernel
theorem dX5_digestDebt_38 : decode cX5_digestDebt 38 = .ok (.lreturn, 1) := by decide +kernel
theorem dX5_countryAt_0 : decode cX5_countryAt 0 = .ok (.iload_n 1, 1) := by decide +kernel
theorem dX5_countryAt_1 : decode cX5_countryAt 1 = .ok (.ifCond .lt 21, 3) := by decide +kernel
theorem dX5_countryAt_4 : decode cX5_countryAt 4 = .ok (.iload_n 1, 1) := by decide +kernel
theorem dX5_countryAt_5 : decode cX5_countryAt 5 = .ok (.aload_n 0, 1) := by decide +kernel
theorem dX5_countryAt_6 : decode cX5_countryAt 6 = .ok (.getfield 15, 3) := by decide +kernel
theorem dX5_countryAt_9 : decode cX5_countryAt 9 = .ok (.arraylength, 1) := by decide +kernel
theorem dX5_countryAt_10 : decode cX5_countryAt 10 = .ok (.if_icmp .ge 12, 3) := by decide +kernel
theorem dX5_countryAt_13 : decode cX5_countryAt 13 = .ok (.aload_n 0, 1) := by decide +kernel
theorem dX5_countryAt_14 : decode cX5_countryAt 14 = .ok (.getfield 15, 3) := by decide +kernel
theorem dX5_countryAt_17 : decode cX5_countryAt 17 = .ok (.iload_n 1, 1) := by decide +kernel
theorem dX5_countryAt_18 : decode cX5_countryAt 18 = .ok (.aaload, 1) := by decide +kernel
theorem dX5_countryAt_19 : decode cX5_countryAt 19 = .ok (.ifnonnull 14, 3) := by decide +kernel
theorem dX5_countryAt_22 : decode cX5_countryAt 22 = .ok (.new 225, 3) := by decide +kernel
theorem dX5_countryAt_25 : decode cX5_countryAt 25 = .ok (.dup, 1) := by decide +kernel
theorem dX5_countryAt_26 : decode cX5_countryAt 26 = .ok (.ldc_w 391, 3) := by decide +kernel
theorem dX5_countryAt_29 : decode cX5_countryAt 29 = .ok (.invokespecial 229, 3) := by decide +kernel
theorem dX5_countryAt_32 : decode cX5_countryAt 32 = .ok (.athrow, 1) := by decide +kernel
theorem dX5_countryAt_33 : decode cX5_countryAt 33 = .ok (.aload_n 0, 1) := by decide +kernel
theorem dX5_countryAt_34 : decode cX5_countryAt 34 = .ok (.getfield 15, 3) := by decide +kernel
theorem dX5_countryAt_37 : decode cX5_countryAt 37 = .ok (.iload_n 1, 1) := by decide +kernel
theorem dX5_countryAt_38 : decode cX5_countryAt 38 = .ok (.aaload, 1) := by decide +kernel
theorem dX5_countryAt_39 : decode cX5_countryAt 39 = .ok (.areturn, 1) := by decide +kernel
theorem dX5_houseAt_0 : decode cX5_houseAt 0 = .ok (.iload_n 1, 1) := by decide +kernel
theorem dX5_houseAt_1 : decode cX5_houseAt 1 = .ok (.ifCond .lt 21, 3) := by decide +kernel
theorem dX5_houseAt_4 : decode cX5_houseAt 4 = .ok (.iload_n 1, 1) := by decide +kernel
theorem dX5_houseAt_5 : decode cX5_houseAt 5 = .ok (.aload_n 0, 1) := by decide +kernel
theorem dX5_houseAt_6 : decode cX5_houseAt 6 = .ok (.getfield 21, 3) := by decide +kernel
theorem dX5_houseAt_9 : decode cX5_houseAt 9 = .ok (.arraylength, 1) := by decide +kernel
theorem dX5_houseAt_10 : decode cX5_houseAt 10 = .ok (.if_icmp .ge 12, 3) := by decide +kernel
theorem dX5_houseAt_13 : decode cX5_houseAt 13 = .ok (.aload_n 0, 1) := by decide +kernel
theorem dX5_houseAt_14 : decode cX5_houseAt 14 = .ok (.getfield 21, 3) := by decide +kernel
theorem dX5_houseAt_17 : decode cX5_houseAt 17 = .ok (.iload_n 1, 1) := by decide +kernel
theorem dX5_houseAt_18 : decode cX5_houseAt 18 = .ok (.aaload, 1) := by decide +kernel
theorem dX5_houseAt_19 : decode cX5_houseAt 19 = .ok (.ifnonnull 14, 3) := by decide +kernel
theorem dX5_houseAt_22 : decode cX5_houseAt 22 = .ok (.new 225, 3) := by decide +kernel
theorem dX5_houseAt_25 : decode cX5_houseAt 25 = .ok (.dup, 1) := by decide +kernel
theorem dX5_houseAt_26 : decode cX5_houseAt 26 = .ok (.ldc_w 393, 3) := by decide +kernel
theorem dX5_houseAt_29 : decode cX5_houseAt 29 = .ok (.invokespecial 229, 3) := by decide +kernel
theorem dX5_houseAt_32 : decode cX5_houseAt 32 = .ok (.athrow, 1) := by decide +kernel
theorem dX5_houseAt_33 : decode cX5_houseAt 33 = .ok (.aload_n 0, 1) := by decide +kernel
theorem dX5_houseAt_34 : decode cX5_houseAt 34 = .ok (.getfield 21, 3) := by decide +kernel
theorem dX5_houseAt_37 : decode cX5_houseAt 37 = .ok (.iload_n 1, 1) := by decide +kernel
theorem dX5_houseAt_38 : decode cX5_houseAt 38 = .ok (.aaload, 1) := by decide +kernel
theorem dX5_houseAt_39 : decode cX5_houseAt 39 = .ok (.areturn, 1) := by decide +kernel
theorem dX5_debtAt_0 : decode cX5_debtAt 0 = .ok (.iload_n 1, 1) := by decide +kernel
theorem dX5_debtAt_1 : decode cX5_debtAt 1 = .ok (.ifCond .lt 21, 3) := by decide +kernel
theorem dX5_debtAt_4 : decode cX5_debtAt 4 = .ok (.iload_n 1, 1) := by decide +kernel
theorem dX5_debtAt_5 : decode cX5_debtAt 5 = .ok (.aload_n 0, 1) := by decide +kernel
theorem dX5_debtAt_6 : decode cX5_debtAt 6 = .ok (.getfield 27, 3) := by decide +kernel
theorem dX5_debtAt_9 : decode cX5_debtAt 9 = .ok (.arraylength, 1) := by decide +kernel
theorem dX5_debtAt_10 : decode cX5_debtAt 10 = .ok (.if_icmp .ge 12, 3) := by decide +kernel
theorem dX5_debtAt_13 : decode cX5_debtAt 13 = .ok (.aload_n 0, 1) := by decide +kernel
theorem dX5_debtAt_14 : decode cX5_debtAt 14 = .ok (.getfield 27, 3) := by decide +kernel
theorem dX5_debtAt_17 : decode cX5_debtAt 17 = .ok (.iload_n 1, 1) := by decide +kernel
theorem dX5_debtAt_18 : decode cX5_debtAt 18 = .ok (.aaload, 1) := by decide +kernel
theorem dX5_debtAt_19 : decode cX5_debtAt 19 = .ok (.ifnonnull 14, 3) := by decide +kernel
theorem dX5_debtAt_22 : decode cX5_debtAt 22 = .ok (.new 225, 3) := by decide +kernel
theorem dX5_debtAt_25 : decode cX5_debtAt 25 = .ok (.dup, 1) := by decide +kernel
theorem dX5_debtAt_26 : decode cX5_debtAt 26 = .ok (.ldc_w 395, 3) := by decide +kernel
theorem dX5_debtAt_29 : decode cX5_debtAt 29 = .ok (.invokespecial 229, 3) := by decide +kernel
theorem dX5_debtAt_32 : decode cX5_debtAt 32 = .ok (.athrow, 1) := by decide +kernel
theorem dX5_debtAt_33 : decode cX5_debtAt 33 = .ok (.aload_n 0, 1) := by decide +kernel
theorem dX5_debtAt_34 : decode cX5_debtAt 34 = .ok (.getfield 27, 3) := by decide +kernel
theorem dX5_debtAt_37 : decode cX5_debtAt 37 = .ok (.iload_n 1, 1) := by decide +kernel
theorem dX5_debtAt_38 : decode cX5_debtAt 38 = .ok (.aaload, 1) := by decide +kernel
theorem dX5_debtAt_39 : decode cX5_debtAt 39 = .ok (.areturn, 1) := by decide +kernel
theorem dX5_needRange_0 : decode cX5_needRange 0 = .ok (.iload_n 0, 1) := by decide +kernel
theorem dX5_needRange_1 : decode cX5_needRange 1 = .ok (.iload_n 1, 1) := by decide +kernel
theorem dX5_needRange_2 : decode cX5_needRange 2 = .ok (.if_icmp .lt 8, 3) := by decide +kernel
theorem dX5_needRange_5 : decode cX5_needRange 5 = .ok (.iload_n 0, 1) := by decide +kernel
theorem dX5_needRange_6 : decode cX5_needRange 6 = .ok (.iload_n 2, 1) := by decide +kernel
theorem dX5_needRange_7 : decode cX5_needRange 7 = .ok (.if_icmp .le 14, 3) := by decide +kernel
theorem dX5_needRange_10 : decode cX5_needRange 10 = .ok (.new 397, 3) := by decide +kernel
theorem dX5_needRange_13 : decode cX5_needRange 13 = .ok (.dup, 1) := by decide +kernel
theorem dX5_needRange_14 : decode cX5_needRange 14 = .ok (.ldc_w 399, 3) := by decide +kernel
theorem dX5_needRange_17 : decode cX5_needRange 17 = .ok (.invokespecial 401, 3) := by decide +kernel
theorem dX5_needRange_20 : decode cX5_needRange 20 = .ok (.athrow, 1) := by decide +kernel
theorem dX5_needRange_21 : decode cX5_needRange 21 = .ok (.return_, 1) := by decide +kernel
theorem dX5_needMetal_0 : decode cX5_needMetal 0 = .ok (.iload_n 0, 1) := by decide +kernel
theorem dX5_needMetal_1 : decode cX5_needMetal 1 = .ok (.ifCond .eq 19, 3) := by decide +kernel
theorem dX5_needMetal_4 : decode cX5_needMetal 4 = .ok (.iload_n 0, 1) := by decide +kernel
theorem dX5_needMetal_5 : decode cX5_needMetal 5 = .ok (.iconst 1, 1) := by decide +kernel
theorem dX5_needMetal_6 : decode cX5_needMetal 6 = .ok (.if_icmp .eq 14, 3) := by decide +kernel
theorem dX5_needMetal_9 : decode cX5_needMetal 9 = .ok (.new 397, 3) := by decide +kernel
theorem dX5_needMetal_12 : decode cX5_needMetal 12 = .ok (.dup, 1) := by decide +kernel
theorem dX5_needMetal_13 : decode cX5_needMetal 13 = .ok (.ldc_w 402, 3) := by decide +kernel
theorem dX5_needMetal_16 : decode cX5_needMetal 16 = .ok (.invokespecial 401, 3) := by decide +kernel
theorem dX5_needMetal_19 : decode cX5_needMetal 19 = .ok (.athrow, 1) := by decide +kernel
theorem dX5_needMetal_20 : decode cX5_needMetal 20 = .ok (.return_, 1) := by decide +kernel
theorem dX5_needLaw_0 : decode cX5_needLaw 0 = .ok (.iload_n 0, 1) := by decide +kernel
theorem dX5_needLaw_1 : decode cX5_needLaw 1 = .ok (.bipush 100, 2) := by decide +kernel
theorem dX5_needLaw_3 : decode cX5_needLaw 3 = .ok (.sipush 200, 3) := by decide +kernel
theorem dX5_needLaw_6 : decode cX5_needLaw 6 = .ok (.invokestatic 53, 3) := by decide +kernel
theorem dX5_needLaw_9 : decode cX5_needLaw 9 = .ok (.iload_n 1, 1) := by decide +kernel
theorem dX5_needLaw_10 : decode cX5_needLaw 10 = .ok (.iconst 0, 1) := by decide +kernel
theorem dX5_needLaw_11 : decode cX5_needLaw 11 = .ok (.bipush 50, 2) := by decide +kernel
theorem dX5_needLaw_13 : decode cX5_needLaw 13 = .ok (.invokestatic 53, 3) := by decide +kernel
theorem dX5_needLaw_16 : decode cX5_needLaw 16 = .ok (.return_, 1) := by decide +kernel
theorem dX5_needDifferent_0 : decode cX5_needDifferent 0 = .ok (.iload_n 0, 1) := by decide +kernel
theorem dX5_needDifferent_1 : decode cX5_needDifferent 1 = .ok (.iload_n 1, 1) := by decide +kernel
theorem dX5_needDifferent_2 : decode cX5_needDifferent 2 = .ok (.if_icmp .ne 14, 3) := by decide +kernel
theorem dX5_needDifferent_5 : decode cX5_needDifferent 5 = .ok (.new 397, 3) := by decide +kernel
theorem dX5_needDifferent_8 : decode cX5_needDifferent 8 = .ok (.dup, 1) := by decide +kernel
theorem dX5_needDifferent_9 : decode cX5_needDifferent 9 = .ok (.ldc_w 404, 3) := by decide +kernel
theorem dX5_needDifferent_12 : decode cX5_needDifferent 12 = .ok (.invokespecial 401, 3) := by decide +kernel
theorem dX5_needDifferent_15 : decode cX5_needDifferent 15 = .ok (.athrow, 1) := by decide +kernel
theorem dX5_needDifferent_16 : decode cX5_needDifferent 16 = .ok (.return_, 1) := by decide +kernel
theorem dX5_otherMetal_0 : decode cX5_otherMetal 0 = .ok (.iload_n 0, 1) := by decide +kernel
theorem dX5_otherMetal_1 : decode cX5_otherMetal 1 = .ok (.ifCond .ne 7, 3) := by decide +kernel
theorem dX5_otherMetal_4 : decode cX5_otherMetal 4 = .ok (.iconst 1, 1) := by decide +kernel
theorem dX5_otherMetal_5 : decode cX5_otherMetal 5 = .ok (.goto 4, 3) := by decide +kernel
theorem dX5_otherMetal_8 : decode cX5_otherMetal 8 = .ok (.iconst 0, 1) := by decide +kernel
theorem dX5_otherMetal_9 : decode cX5_otherMetal 9 = .ok (.ireturn, 1) := by decide +kernel
theorem dX5_isWearDay_0 : decode cX5_isWearDay 0 = .ok (.iload_n 0, 1) := by decide +kernel
theorem dX5_isWearDay_1 : decode cX5_isWearDay 1 = .ok (.bipush 30, 2) := by decide +kernel
theorem dX5_isWearDay_3 : decode cX5_isWearDay 3 = .ok (.irem, 1) := by decide +kernel
theorem dX5_isWearDay_4 : decode cX5_isWearDay 4 = .ok (.ifCond .ne 7, 3) := by decide +kernel
theorem dX5_isWearDay_7 : decode cX5_isWearDay 7 = .ok (.iconst 1, 1) := by decide +kernel
theorem dX5_isWearDay_8 : decode cX5_isWearDay 8 = .ok (.goto 4, 3) := by decide +kernel
theorem dX5_isWearDay_11 : decode cX5_isWearDay 11 = .ok (.iconst 0, 1) := by decide +kernel
theorem dX5_isWearDay_12 : decode cX5_isWearDay 12 = .ok (.ireturn, 1) := by decide +kernel
theorem dX5_worthOf_0 : decode cX5_worthOf 0 = .ok (.iload_n 1, 1) := by decide +kernel
theorem dX5_worthOf_1 : decode cX5_worthOf 1 = .ok (.i2l, 1) := by decide +kernel
theorem dX5_worthOf_2 : decode cX5_worthOf 2 = .ok (.iload_n 0, 1) := by decide +kernel
theorem dX5_worthOf_3 : decode cX5_worthOf 3 = .ok (.i2l, 1) := by decide +kernel
theorem dX5_worthOf_4 : decode cX5_worthOf 4 = .ok (.iload_n 2, 1) := by decide +kernel
theorem dX5_worthOf_5 : decode cX5_worthOf 5 = .ok (.i2l, 1) := by decide +kernel
theorem dX5_worthOf_6 : decode cX5_worthOf 6 = .ok (.lmul, 1) := by decide +kernel
theorem dX5_worthOf_7 : decode cX5_worthOf 7 = .ok (.ldc2_w 406, 3) := by decide +kernel
theorem dX5_worthOf_10 : decode cX5_worthOf 10 = .ok (.ldiv, 1) := by decide +kernel
theorem dX5_worthOf_11 : decode cX5_worthOf 11 = .ok (.ladd, 1) := by decide +kernel
theorem dX5_worthOf_12 : decode cX5_worthOf 12 = .ok (.l2i, 1) := by decide +kernel
theorem dX5_worthOf_13 : decode cX5_worthOf 13 = .ok (.ireturn, 1) := by decide +kernel
theorem dX5_thousandthsRoundedUp_0 : decode cX5_thousandthsRoundedUp 0 = .ok (.iload_n 0, 1) := by decide +kernel
theorem dX5_thousandthsRoundedUp_1 : decode cX5_thousandthsRoundedUp 1 = .ok (.i2l, 1) := by decide +kernel
theorem dX5_thousandthsRoundedUp_2 : decode cX5_thousandthsRoundedUp 2 = .ok (.iload_n 1, 1) := by decide +kernel
theorem dX5_thousandthsRoundedUp_3 : decode cX5_thousandthsRoundedUp 3 = .ok (.i2l, 1) := by decide +kernel
theorem dX5_thousandthsRoundedUp_4 : decode cX5_thousandthsRoundedUp 4 = .ok (.lmul, 1) := by decide +kernel
theorem dX5_thousandthsRoundedUp_5 : decode cX5_thousandthsRoundedUp 5 = .ok (.ldc2_w 408, 3) := by decide +kernel
theorem dX5_thousandthsRoundedUp_8 : decode cX5_thousandthsRoundedUp 8 = .ok (.ladd, 1) := by decide +kernel
theorem dX5_thousandthsRoundedUp_9 : decode cX5_thousandthsRoundedUp 9 = .ok (.ldc2_w 410, 3) := by decide +kernel
theorem dX5_thousandthsRoundedUp_12 : decode cX5_thousandthsRoundedUp 12 = .ok (.ldiv, 1) := by decide +kernel
theorem dX5_thousandthsRoundedUp_13 : decode cX5_thousandthsRoundedUp 13 = .ok (.l2i, 1) := by decide +kernel
theorem dX5_thousandthsRoundedUp_14 : decode cX5_thousandthsRoundedUp 14 = .ok (.ireturn, 1) := by decide +kernel
theorem dX6_init_0 : decode cX6_init 0 = .ok (.aload_n 0, 1) := by decide +kernel
theorem dX6_init_1 : decode cX6_init 1 = .ok (.invokespecial 1, 3) := by decide +kernel
theorem dX6_init_4 : decode cX6_init 4 = .ok (.return_, 1) := by decide +kernel
theorem dX7_init_0 : decode cX7_init 0 = .ok (.aload_n 0, 1) := by decide +kernel
theorem dX7_init_1 : decode cX7_init 1 = .ok (.invokespecial 1, 3) := by decide +kernel
theorem dX7_init_4 : decode cX7_init 4 = .ok (.aload_n 0, 1) := by decide +kernel
theorem dX7_init_5 : decode cX7_init 5 = .ok (.iconst 2, 1) := by decide +kernel
theorem dX7_init_6 : decode cX7_init 6 = .ok (.newarray .long, 2) := by decide +kernel
theorem dX7_init_8 : decode cX7_init 8 = .ok (.putfield 7, 3) := by decide +kernel
theorem dX7_init_11 : decode cX7_init 11 = .ok (.aload_n 0, 1) := by decide +kernel
theorem dX7_init_12 : decode cX7_init 12 = .ok (.iconst 2, 1) := by decide +kernel
theorem dX7_init_13 : decode cX7_init 13 = .ok (.newarray .boolean, 2) := by decide +kernel
theorem dX7_init_15 : decode cX7_init 15 = .ok (.dup, 1) := by decide +kernel
theorem dX7_init_16 : decode cX7_init 16 = .ok (.iconst 0, 1) := by decide +kernel
theorem dX7_init_17 : decode cX7_init 17 = .ok (.iconst 1, 1) := by decide +kernel
theorem dX7_init_18 : decode cX7_init 18 = .ok (.bastore, 1) := by decide +kernel
theorem dX7_init_19 : decode cX7_init 19 = .ok (.dup, 1) := by decide +kernel
theorem dX7_init_20 : decode cX7_init 20 = .ok (.iconst 1, 1) := by decide +kernel
theorem dX7_init_21 : decode cX7_init 21 = .ok (.iconst 1, 1) := by decide +kernel
theorem dX7_init_22 : decode cX7_init 22 = .ok (.bastore, 1) := by decide +kernel
theorem dX7_init_23 : decode cX7_init 23 = .ok (.putfield 13, 3) := by decide +kernel
theorem dX7_init_26 : decode cX7_init 26 = .ok (.aload_n 0, 1) := by decide +kernel
theorem dX7_init_27 : decode cX7_init 27 = .ok (.iconst 5, 1) := by decide +kernel
theorem dX7_init_28 : decode cX7_init 28 = .ok (.newarray .int, 2) := by decide +kernel
theorem dX7_init_30 : decode cX7_init 30 = .ok (.putfield 17, 3) := by decide +kernel
theorem dX7_init_33 : decode cX7_init 33 = .ok (.return_, 1) := by decide +kernel
theorem dX8_init_0 : decode cX8_init 0 = .ok (.aload_n 0, 1) := by decide +kernel
theorem dX8_init_1 : decode cX8_init 1 = .ok (.invokespecial 1, 3) := by decide +kernel
theorem dX8_init_4 : decode cX8_init 4 = .ok (.return_, 1) := by decide +kernel
theorem dX9_init_0 : decode cX9_init 0 = .ok (.aload_n 0, 1) := by decide +kernel
theorem dX9_init_1 : decode cX9_init 1 = .ok (.invokespecial 3, 3) := by decide +kernel
theorem dX9_init_4 : decode cX9_init 4 = .ok (.aload_n 0, 1) := by decide +kernel
theorem dX9_init_5 : decode cX9_init 5 = .ok (.iconst (-1), 1) := by decide +kernel
theorem dX9_init_6 : decode cX9_init 6 = .ok (.putfield 9, 3) := by decide +kernel
theorem dX9_init_9 : decode cX9_init 9 = .ok (.aload_n 0, 1) := by decide +kernel
theorem dX9_init_10 : decode cX9_init 10 = .ok (.iconst (-1), 1) := by decide +kernel
theorem dX9_init_11 : decode cX9_init 11 = .ok (.putfield 15, 3) := by decide +kernel
theorem dX9_init_14 : decode cX9_init 14 = .ok (.aload_n 0, 1) := by decide +kernel
theorem dX9_init_15 : decode cX9_init 15 = .ok (.iconst 2, 1) := by decide +kernel
theorem dX9_init_16 : decode cX9_init 16 = .ok (.newarray .long, 2) := by decide +kernel
theorem dX9_init_18 : decode cX9_init 18 = .ok (.putfield 18, 3) := by decide +kernel
theorem dX9_init_21 : decode cX9_init 21 = .ok (.return_, 1) := by decide +kernel
theorem dX10_init_0 : decode cX10_init 0 = .ok (.aload_n 0, 1) := by decide +kernel
theorem dX10_init_1 : decode cX10_init 1 = .ok (.invokespecial 1, 3) := by decide +kernel
theorem dX10_init_4 : decode cX10_init 4 = .ok (.aload_n 0, 1) := by decide +kernel
theorem dX10_init_5 : decode cX10_init 5 = .ok (.sipush 155, 3) := by decide +kernel
theorem dX10_init_8 : decode cX10_init 8 = .ok (.putfield 7, 3) := by decide +kernel
theorem dX10_init_11 : decode cX10_init 11 = .ok (.aload_n 0, 1) := by decide +kernel
theorem dX10_init_12 : decode cX10_init 12 = .ok (.iconst 4, 1) := by decide +kernel
theorem dX10_init_13 : decode cX10_init 13 = .ok (.iconst 4, 1) := by decide +kernel
theorem dX10_init_14 : decode cX10_init 14 = .ok (.multianewarray 13 2, 4) := by decide +kernel
theorem dX10_init_18 : decode cX10_init 18 = .ok (.putfield 15, 3) := by decide +kernel
theorem dX10_init_21 : decode cX10_init 21 = .ok (.aload_n 0, 1) := by decide +kernel
theorem dX10_init_22 : decode cX10_init 22 = .ok (.iconst 4, 1) := by decide +kernel
theorem dX10_init_23 : decode cX10_init 23 = .ok (.iconst 4, 1) := by decide +kernel
theorem dX10_init_24 : decode cX10_init 24 = .ok (.multianewarray 13 2, 4) := by decide +kernel
theorem dX10_init_28 : decode cX10_init 28 = .ok (.putfield 18, 3) := by decide +kernel
theorem dX10_init_31 : decode cX10_init 31 = .ok (.aload_n 0, 1) := by decide +kernel
theorem dX10_init_32 : decode cX10_init 32 = .ok (.iconst 2, 1) := by decide +kernel
theorem dX10_init_33 : decode cX10_init 33 = .ok (.newarray .long, 2) := by decide +kernel
theorem dX10_init_35 : decode cX10_init 35 = .ok (.putfield 21, 3) := by decide +kernel
theorem dX10_init_38 : decode cX10_init 38 = .ok (.aload_n 0, 1) := by decide +kernel
theorem dX10_init_39 : decode cX10_init 39 = .ok (.iconst 2, 1) := by decide +kernel
theorem dX10_init_40 : decode cX10_init 40 = .ok (.newarray .long, 2) := by decide +kernel
theorem dX10_init_42 : decode cX10_init 42 = .ok (.putfield 25, 3) := by decide +kernel
theorem dX10_init_45 : decode cX10_init 45 = .ok (.aload_n 0, 1) := by decide +kernel
theorem dX10_init_46 : decode cX10_init 46 = .ok (.iconst 2, 1) := by decide +kernel
theorem dX10_init_47 : decode cX10_init 47 = .ok (.newarray .long, 2) := by decide +kernel
theorem dX10_init_49 : decode cX10_init 49 = .ok (.putfield 28, 3) := by decide +kernel
theorem dX10_init_52 : decode cX10_init 52 = .ok (.aload_n 0, 1) := by decide +kernel
theorem dX10_init_53 : decode cX10_init 53 = .ok (.iconst 2, 1) := by decide +kernel
theorem dX10_init_54 : decode cX10_init 54 = .ok (.newarray .long, 2) := by decide +kernel
theorem dX10_init_56 : decode cX10_init 56 = .ok (.putfield 31, 3) := by decide +kernel
theorem dX10_init_59 : decode cX10_init 59 = .ok (.aload_n 0, 1) := by decide +kernel
theorem dX10_init_60 : decode cX10_init 60 = .ok (.new 34, 3) := by decide +kernel
theorem dX10_init_63 : decode cX10_init 63 = .ok (.dup, 1) := by decide +kernel
theorem dX10_init_64 : decode cX10_init 64 = .ok (.invokespecial 36, 3) := by decide +kernel
theorem dX10_init_67 : decode cX10_init 67 = .ok (.putfield 37, 3) := by decide +kernel
theorem dX10_init_70 : decode cX10_init 70 = .ok (.aload_n 0, 1) := by decide +kernel
theorem dX10_init_71 : decode cX10_init 71 = .ok (.new 34, 3) := by decide +kernel
theorem dX10_init_74 : decode cX10_init 74 = .ok (.dup, 1) := by decide +kernel
theorem dX10_init_75 : decode cX10_init 75 = .ok (.invokespecial 36, 3) := by decide +kernel
theorem dX10_init_78 : decode cX10_init 78 = .ok (.putfield 41, 3) := by decide +kernel
theorem dX10_init_81 : decode cX10_init 81 = .ok (.aload_n 0, 1) := by decide +kernel
theorem dX10_init_82 : decode cX10_init 82 = .ok (.new 34, 3) := by decide +kernel
theorem dX10_init_85 : decode cX10_init 85 = .ok (.dup, 1) := by decide +kernel
theorem dX10_init_86 : decode cX10_init 86 = .ok (.invokespecial 36, 3) := by decide +kernel
theorem dX10_init_89 : decode cX10_init 89 = .ok (.putfield 44, 3) := by decide +kernel
theorem dX10_init_92 : decode cX10_init 92 = .ok (.iconst 0, 1) := by decide +kernel
theorem dX10_init_93 : decode cX10_init 93 = .ok (.istore_n 1, 1) := by decide +kernel
theorem dX10_init_94 : decode cX10_init 94 = .ok (.iload_n 1, 1) := by decide +kernel
theorem dX10_init_95 : decode cX10_init 95 = .ok (.iconst 4, 1) := by decide +kernel
theorem dX10_init_96 : decode cX10_init 96 = .ok (.if_icmp .ge 41, 3) := by decide +kernel
theorem dX10_init_99 : decode cX10_init 99 = .ok (.iconst 0, 1) := by decide +kernel
theorem dX10_init_100 : decode cX10_init 100 = .ok (.istore_n 2, 1) := by decide +kernel
theorem dX10_init_101 : decode cX10_init 101 = .ok (.iload_n 2, 1) := by decide +kernel
theorem dX10_init_102 : decode cX10_init 102 = .ok (.iconst 4, 1) := by decide +kernel
theorem dX10_init_103 : decode cX10_init 103 = .ok (.if_icmp .ge 28, 3) := by decide +kernel
theorem dX10_init_106 : decode cX10_init 106 = .ok (.aload_n 0, 1) := by decide +kernel
theorem dX10_init_107 : decode cX10_init 107 = .ok (.getfield 15, 3) := by decide +kernel
theorem dX10_init_110 : decode cX10_init 110 = .ok (.iload_n 1, 1) := by decide +kernel
theorem dX10_init_111 : decode cX10_init 111 = .ok (.aaload, 1) := by decide +kernel
theorem dX10_init_112 : decode cX10_init 112 = .ok (.iload_n 2, 1) := by decide +kernel
theorem dX10_init_113 : decode cX10_init 113 = .ok (.iconst 3, 1) := by decide +kernel
theorem dX10_init_114 : decode cX10_init 114 = .ok (.iastore, 1) := by decide +kernel
theorem dX10_init_115 : decode cX10_init 115 = .ok (.aload_n 0, 1) := by decide +kernel
theorem dX10_init_116 : decode cX10_init 116 = .ok (.getfield 18, 3) := by decide +kernel
theorem dX10_init_119 : decode cX10_init 119 = .ok (.iload_n 1, 1) := by decide +kernel
theorem dX10_init_120 : decode cX10_init 120 = .ok (.aaload, 1) := by decide +kernel
theorem dX10_init_121 : decode cX10_init 121 = .ok (.iload_n 2, 1) := by decide +kernel
theorem dX10_init_122 : decode cX10_init 122 = .ok (.bipush 10, 2) := by decide +kernel
theorem dX10_init_124 : decode cX10_init 124 = .ok (.iastore, 1) := by decide +kernel
theorem dX10_init_125 : decode cX10_init 125 = .ok (.iinc 2 1, 3) := by decide +kernel
theorem dX10_init_128 : decode cX10_init 128 = .ok (.goto (-27), 3) := by decide +kernel
theorem dX10_init_131 : decode cX10_init 131 = .ok (.iinc 1 1, 3) := by decide +kernel
theorem dX10_init_134 : decode cX10_init 134 = .ok (.goto (-40), 3) := by decide +kernel
theorem dX10_init_137 : decode cX10_init 137 = .ok (.return_, 1) := by decide +kernel
theorem dX10_isIn_0 : decode cX10_isIn 0 = .ok (.iload_n 0, 1) := by decide +kernel
theorem dX10_isIn_1 : decode cX10_isIn 1 = .ok (.iload_n 1, 1) := by decide +kernel
theorem dX10_isIn_2 : decode cX10_isIn 2 = .ok (.if_icmp .lt 12, 3) := by decide +kernel
theorem dX10_isIn_5 : decode cX10_isIn 5 = .ok (.iload_n 0, 1) := by decide +kernel
theorem dX10_isIn_6 : decode cX10_isIn 6 = .ok (.iload_n 2, 1) := by decide +kernel
theorem dX10_isIn_7 : decode cX10_isIn 7 = .ok (.if_icmp .gt 7, 3) := by decide +kernel
theorem dX10_isIn_10 : decode cX10_isIn 10 = .ok (.iconst 1, 1) := by decide +kernel
theorem dX10_isIn_11 : decode cX10_isIn 11 = .ok (.goto 4, 3) := by decide +kernel
theorem dX10_isIn_14 : decode cX10_isIn 14 = .ok (.iconst 0, 1) := by decide +kernel
theorem dX10_isIn_15 : decode cX10_isIn 15 = .ok (.ireturn, 1) := by decide +kernel
theorem dX10_refuse_0 : decode cX10_refuse 0 = .ok (.iload_n 1, 1) := by decide +kernel
theorem dX10_refuse_1 : decode cX10_refuse 1 = .ok (.ifCond .eq 15, 3) := by decide +kernel
theorem dX10_refuse_4 : decode cX10_refuse 4 = .ok (.aload_n 0, 1) := by decide +kernel
theorem dX10_refuse_5 : decode cX10_refuse 5 = .ok (.getfield 47, 3) := by decide +kernel
theorem dX10_refuse_8 : decode cX10_refuse 8 = .ok (.ifCond .ne 8, 3) := by decide +kernel
theorem dX10_refuse_11 : decode cX10_refuse 11 = .ok (.aload_n 0, 1) := by decide +kernel
theorem dX10_refuse_12 : decode cX10_refuse 12 = .ok (.iload_n 2, 1) := by decide +kernel
theorem dX10_refuse_13 : decode cX10_refuse 13 = .ok (.putfield 47, 3) := by decide +kernel
theorem dX10_refuse_16 : decode cX10_refuse 16 = .ok (.aload_n 0, 1) := by decide +kernel
theorem dX10_refuse_17 : decode cX10_refuse 17 = .ok (.getfield 47, 3) := by decide +kernel
theorem dX10_refuse_20 : decode cX10_refuse 20 = .ok (.ifCond .le 7, 3) := by decide +kernel
theorem dX10_refuse_23 : decode cX10_refuse 23 = .ok (.iconst 1, 1) := by decide +kernel
theorem dX10_refuse_24 : decode cX10_refuse 24 = .ok (.goto 4, 3) := by decide +kernel
theorem dX10_refuse_27 : decode cX10_refuse 27 = .ok (.iconst 0, 1) := by decide +kernel
theorem dX10_refuse_28 : decode cX10_refuse 28 = .ok (.ireturn, 1) := by decide +kernel
theorem dX10_start_0 : decode cX10_start 0 = .ok (.aload_n 0, 1) := by decide +kernel
theorem dX10_start_1 : decode cX10_start 1 = .ok (.iconst 0, 1) := by decide +kernel
theorem dX10_start_2 : decode cX10_start 2 = .ok (.putfield 47, 3) := by decide +kernel
theorem dX10_start_5 : decode cX10_start 5 = .ok (.aload_n 0, 1) := by decide +kernel
theorem dX10_start_6 : decode cX10_start 6 = .ok (.iload_n 1, 1) := by decide +kernel
theorem dX10_start_7 : decode cX10_start 7 = .ok (.iload_n 2, 1) := by decide +kernel
theorem dX10_start_8 : decode cX10_start 8 = .ok (.invokevirtual 50, 3) := by decide +kernel
theorem dX10_start_11 : decode cX10_start 11 = .ok (.ireturn, 1) := by decide +kernel
theorem dX10_isNoCountry_0 : decode cX10_isNoCountry 0 = .ok (.iload_n 1, 1) := by decide +kernel
theorem dX10_isNoCountry_1 : decode cX10_isNoCountry 1 = .ok (.iconst 0, 1) := by decide +kernel
theorem dX10_isNoCountry_2 : decode cX10_isNoCountry 2 = .ok (.aload_n 0, 1) := by decide +kernel
theorem dX10_isNoCountry_3 : decode cX10_isNoCountry 3 = .ok (.getfield 37, 3) := by decide +kernel
theorem dX10_isNoCountry_6 : decode cX10_isNoCountry 6 = .ok (.invokevirtual 54, 3) := by decide +kernel
theorem dX10_isNoCountry_9 : decode cX10_isNoCountry 9 = .ok (.iconst 1, 1) := by decide +kernel
theorem dX10_isNoCountry_10 : decode cX10_isNoCountry 10 = .ok (.isub, 1) := by decide +kernel
theorem dX10_isNoCountry_11 : decode cX10_isNoCountry 11 = .ok (.invokestatic 58, 3) := by decide +kernel
theorem dX10_isNoCountry_14 : decode cX10_isNoCountry 14 = .ok (.ifCond .ne 7, 3) := by decide +kernel
theorem dX10_isNoCountry_17 : decode cX10_isNoCountry 17 = .ok (.iconst 1, 1) := by decide +kernel
theorem dX10_isNoCountry_18 : decode cX10_isNoCountry 18 = .ok (.goto 4, 3) := by decide +kernel
theorem dX10_isNoCountry_21 : decode cX10_isNoCountry 21 = .ok (.iconst 0, 1) := by decide +kernel
theorem dX10_isNoCountry_22 : decode cX10_isNoCountry 22 = .ok (.ireturn, 1) := by decide +kernel
theorem dX10_isNoHouse_0 : decode cX10_isNoHouse 0 = .ok (.iload_n 1, 1) := by decide +kernel
theorem dX10_isNoHouse_1 : decode cX10_isNoHouse 1 = .ok (.iconst 0, 1) := by decide +kernel
theorem dX10_isNoHouse_2 : decode cX10_isNoHouse 2 = .ok (.aload_n 0, 1) := by decide +kernel
theorem dX10_isNoHouse_3 : decode cX10_isNoHouse 3 = .ok (.getfield 41, 3) := by decide +kernel
theorem dX10_isNoHouse_6 : decode cX10_isNoHouse 6 = .ok (.invokevirtual 54, 3) := by decide +kernel
theorem dX10_isNoHouse_9 : decode cX10_isNoHouse 9 = .ok (.iconst 1, 1) := by decide +kernel
theorem dX10_isNoHouse_10 : decode cX10_isNoHouse 10 = .ok (.isub, 1) := by decide +kernel
theorem dX10_isNoHouse_11 : decode cX10_isNoHouse 11 = .ok (.invokestatic 58, 3) := by decide +kernel
theorem dX10_isNoHouse_14 : decode cX10_isNoHouse 14 = .ok (.ifCond .ne 7, 3) := by decide +kernel
theorem dX10_isNoHouse_17 : decode cX10_isNoHouse 17 = .ok (.iconst 1, 1) := by decide +kernel
theorem dX10_isNoHouse_18 : decode cX10_isNoHouse 18 = .ok (.goto 4, 3) := by decide +kernel
theorem dX10_isNoHouse_21 : decode cX10_isNoHouse 21 = .ok (.iconst 0, 1) := by decide +kernel
theorem dX10_isNoHouse_22 : decode cX10_isNoHouse 22 = .ok (.ireturn, 1) := by decide +kernel
theorem dX10_isNoMetal_0 : decode cX10_isNoMetal 0 = .ok (.iload_n 0, 1) := by decide +kernel
theorem dX10_isNoMetal_1 : decode cX10_isNoMetal 1 = .ok (.iconst 0, 1) := by decide +kernel
theorem dX10_isNoMetal_2 : decode cX10_isNoMetal 2 = .ok (.iconst 1, 1) := by decide +kernel
theorem dX10_isNoMetal_3 : decode cX10_isNoMetal 3 = .ok (.invokestatic 58, 3) := by decide +kernel
theorem dX10_isNoMetal_6 : decode cX10_isNoMetal 6 = .ok (.ifCond .ne 7, 3) := by decide +kernel
theorem dX10_isNoMetal_9 : decode cX10_isNoMetal 9 = .ok (.iconst 1, 1) := by decide +kernel
theorem dX10_isNoMetal_10 : decode cX10_isNoMetal 10 = .ok (.goto 4, 3) := by decide +kernel
theorem dX10_isNoMetal_13 : decode cX10_isNoMetal 13 = .ok (.iconst 0, 1) := by decide +kernel
theorem dX10_isNoMetal_14 : decode cX10_isNoMetal 14 = .ok (.ireturn, 1) := by decide +kernel
theorem dX10_up_0 : decode cX10_up 0 = .ok (.lload_n 0, 1) := by decide +kernel
theorem dX10_up_1 : decode cX10_up 1 = .ok (.lload_n 2, 1) := by decide +kernel
theorem dX10_up_2 : decode cX10_up 2 = .ok (.ladd, 1) := by decide +kernel
theorem dX10_up_3 : decode cX10_up 3 = .ok (.lconst 1, 1) := by decide +kernel
theorem dX10_up_4 : decode cX10_up 4 = .ok (.lsub, 1) := by decide +kernel
theorem dX10_up_5 : decode cX10_up 5 = .ok (.lload_n 2, 1) := by decide +kernel
theorem dX10_up_6 : decode cX10_up 6 = .ok (.ldiv, 1) := by decide +kernel
theorem dX10_up_7 : decode cX10_up 7 = .ok (.lreturn, 1) := by decide +kernel
theorem dX10_given_0 : decode cX10_given 0 = .ok (.iload_n 1, 1) := by decide +kernel
theorem dX10_given_1 : decode cX10_given 1 = .ok (.ifCond .ne 17, 3) := by decide +kernel
theorem dX10_given_4 : decode cX10_given 4 = .ok (.lload_n 2, 1) := by decide +kernel
theorem dX10_given_5 : decode cX10_given 5 = .ok (.aload_n 0, 1) := by decide +kernel
theorem dX10_given_6 : decode cX10_given 6 = .ok (.getfield 62, 3) := by decide +kernel
theorem dX10_given_9 : decode cX10_given 9 = .ok (.i2l, 1) := by decide +kernel
theorem dX10_given_10 : decode cX10_given 10 = .ok (.lmul, 1) := by decide +kernel
theorem dX10_given_11 : decode cX10_given 11 = .ok (.ldc2_w 67, 3) := by decide +kernel
theorem dX10_given_14 : decode cX10_given 14 = .ok (.ldiv, 1) := by decide +kernel
theorem dX10_given_15 : decode cX10_given 15 = .ok (.goto 14, 3) := by decide +kernel
theorem dX10_given_18 : decode cX10_given 18 = .ok (.lload_n 2, 1) := by decide +kernel
theorem dX10_given_19 : decode cX10_given 19 = .ok (.ldc2_w 67, 3) := by decide +kernel
theorem dX10_given_22 : decode cX10_given 22 = .ok (.lmul, 1) := by decide +kernel
theorem dX10_given_23 : decode cX10_given 23 = .ok (.aload_n 0, 1) := by decide +kernel
theorem dX10_given_24 : decode cX10_given 24 = .ok (.getfield 62, 3) := by decide +kernel
theorem dX10_given_27 : decode cX10_given 27 = .ok (.i2l, 1) := by decide +kernel
theorem dX10_given_28 : decode cX10_given 28 = .ok (.ldiv, 1) := by decide +kernel
theorem dX10_given_29 : decode cX10_given 29 = .ok (.lstore 4, 2) := by decide +kernel
theorem dX10_given_31 : decode cX10_given 31 = .ok (.lload 4, 2) := by decide +kernel
theorem dX10_given_33 : decode cX10_given 33 = .ok (.lload 4, 2) := by decide +kernel
theorem dX10_given_35 : decode cX10_given 35 = .ok (.aload_n 0, 1) := by decide +kernel
theorem dX10_given_36 : decode cX10_given 36 = .ok (.getfield 69, 3) := by decide +kernel
theorem dX10_given_39 : decode cX10_given 39 = .ok (.i2l, 1) := by decide +kernel
theorem dX10_given_40 : decode cX10_given 40 = .ok (.lmul, 1) := by decide +kernel
theorem dX10_given_41 : decode cX10_given 41 = .ok (.ldc2_w 72, 3) := by decide +kernel
theorem dX10_given_44 : decode cX10_given 44 = .ok (.invokestatic 74, 3) := by decide +kernel
theorem dX10_given_47 : decode cX10_given 47 = .ok (.lsub, 1) := by decide +kernel
theorem dX10_given_48 : decode cX10_given 48 = .ok (.lreturn, 1) := by decide +kernel
theorem dX10_worth_0 : decode cX10_worth 0 = .ok (.aload_n 1, 1) := by decide +kernel
theorem dX10_worth_1 : decode cX10_worth 1 = .ok (.iconst 1, 1) := by decide +kernel
theorem dX10_worth_2 : decode cX10_worth 2 = .ok (.laload, 1) := by decide +kernel
theorem dX10_worth_3 : decode cX10_worth 3 = .ok (.aload_n 1, 1) := by decide +kernel
theorem dX10_worth_4 : decode cX10_worth 4 = .ok (.iconst 0, 1) := by decide +kernel
theorem dX10_worth_5 : decode cX10_worth 5 = .ok (.laload, 1) := by decide +kernel
theorem dX10_worth_6 : decode cX10_worth 6 = .ok (.aload_n 0, 1) := by decide +kernel
theorem dX10_worth_7 : decode cX10_worth 7 = .ok (.getfield 7, 3) := by decide +kernel
theorem dX10_worth_10 : decode cX10_worth 10 = .ok (.i2l, 1) := by decide +kernel
theorem dX10_worth_11 : decode cX10_worth 11 = .ok (.lmul, 1) := by decide +kernel
theorem dX10_worth_12 : decode cX10_worth 12 = .ok (.ldc2_w 67, 3) := by decide +kernel
theorem dX10_worth_15 : decode cX10_worth 15 = .ok (.ldiv, 1) := by decide +kernel
theorem dX10_worth_16 : decode cX10_worth 16 = .ok (.ladd, 1) := by decide +kernel
theorem dX10_worth_17 : decode cX10_worth 17 = .ok (.lreturn, 1) := by decide +kernel
theorem dX10_country_0 : decode cX10_country 0 = .ok (.aload_n 0, 1) := by decide +kernel
theorem dX10_country_1 : decode cX10_country 1 = .ok (.iload_n 1, 1) := by decide +kernel
theorem dX10_country_2 : decode cX10_country 2 = .ok (.bipush 100, 2) := by decide +kernel
theorem dX10_country_4 : decode cX10_country 4 = .ok (.sipush 200, 3) := by decide +kernel
theorem dX10_country_7 : decode cX10_country 7 = .ok (.invokestatic 58, 3) := by decide +kernel
theorem dX10_country_10 : decode cX10_country 10 = .ok (.ifCond .eq 34, 3) := by decide +kernel
theorem dX10_country_13 : decode cX10_country 13 = .ok (.iload_n 2, 1) := by decide +kernel
theorem dX10_country_14 : decode cX10_country 14 = .ok (.iconst 0, 1) := by decide +kernel
theorem dX10_country_15 : decode cX10_country 15 = .ok (.bipush 50, 2) := by decide +kernel
theorem dX10_country_17 : decode cX10_country 17 = .ok (.invokestatic 58, 3) := by decide +kernel
theorem dX10_country_20 : decode cX10_country 20 = .ok (.ifCond .eq 24, 3) := by decide +kernel
theorem dX10_country_23 : decode cX10_country 23 = .ok (.iload_n 3, 1) := by decide +kernel
theorem dX10_country_24 : decode cX10_country 24 = .ok (.iconst 0, 1) := by decide +kernel
theorem dX10_country_25 : decode cX10_country 25 = .ok (.ldc 78, 2) := by decide +kernel
theorem dX10_country_27 : decode cX10_country 27 = .ok (.invokestatic 58, 3) := by decide +kernel
theorem dX10_country_30 : decode cX10_country 30 = .ok (.ifCond .eq 14, 3) := by decide +kernel
theorem dX10_country_33 : decode cX10_country 33 = .ok (.iload 4, 2) := by decide +kernel
theorem dX10_country_35 : decode cX10_country 35 = .ok (.iconst 0, 1) := by decide +kernel
theorem dX10_country_36 : decode cX10_country 36 = .ok (.ldc 78, 2) := by decide +kernel
theorem dX10_country_38 : decode cX10_country 38 = .ok (.invokestatic 58, 3) := by decide +kernel
theorem dX10_country_41 : decode cX10_country 41 = .ok (.ifCond .ne 7, 3) := by decide +kernel
theorem dX10_country_44 : decode cX10_country 44 = .ok (.iconst 1, 1) := by decide +kernel
theorem dX10_country_45 : decode cX10_country 45 = .ok (.goto 4, 3) := by decide +kernel
theorem dX10_country_48 : decode cX10_country 48 = .ok (.iconst 0, 1) := by decide +kernel
theorem dX10_country_49 : decode cX10_country 49 = .ok (.iconst 1, 1) := by decide +kernel
theorem dX10_country_50 : decode cX10_country 50 = .ok (.invokevirtual 79, 3) := by decide +kernel
theorem dX10_country_53 : decode cX10_country 53 = .ok (.ifCond .ne 27, 3) := by decide +kernel
theorem dX10_country_56 : decode cX10_country 56 = .ok (.aload_n 0, 1) := by decide +kernel
theorem dX10_country_57 : decode cX10_country 57 = .ok (.aload_n 0, 1) := by decide +kernel
theorem dX10_country_58 : decode cX10_country 58 = .ok (.getfield 37, 3) := by decide +kernel
theorem dX10_country_61 : decode cX10_country 61 = .ok (.invokevirtual 54, 3) := by decide +kernel
theorem dX10_country_64 : decode cX10_country 64 = .ok (.iconst 4, 1) := by decide +kernel
theorem dX10_country_65 : decode cX10_country 65 = .ok (.if_icmp .ne 7, 3) := by decide +kernel
theorem dX10_country_68 : decode cX10_country 68 = .ok (.iconst 1, 1) := by decide +kernel
theorem dX10_country_69 : decode cX10_country 69 = .ok (.goto 4, 3) := by decide +kernel
theorem dX10_country_72 : decode cX10_country 72 = .ok (.iconst 0, 1) := by decide +kernel
theorem dX10_country_73 : decode cX10_country 73 = .ok (.iconst 2, 1) := by decide +kernel
theorem dX10_country_74 : decode cX10_country 74 = .ok (.invokevirtual 50, 3) := by decide +kernel
theorem dX10_country_77 : decode cX10_country 77 = .ok (.ifCond .eq 5, 3) := by decide +kernel
theorem dX10_country_80 : decode cX10_country 80 = .ok (.iconst 0, 1) := by decide +kernel
theorem dX10_country_81 : decode cX10_country 81 = .ok (.ireturn, 1) := by decide +kernel
theorem dX10_country_82 : decode cX10_country 82 = .ok (.new 63, 3) := by decide +kernel
theorem dX10_country_85 : decode cX10_country 85 = .ok (.dup, 1) := by decide +kernel
theorem dX10_country_86 : decode cX10_country 86 = .ok (.invokespecial 82, 3) := by decide +kernel
theorem dX10_country_89 : decode cX10_country 89 = .ok (.astore 5, 2) := by decide +kernel
theorem dX10_country_91 : decode cX10_country 91 = .ok (.aload 5, 2) := by decide +kernel
theorem dX10_country_93 : decode cX10_country 93 = .ok (.iload_n 1, 1) := by decide +kernel
theorem dX10_country_94 : decode cX10_country 94 = .ok (.putfield 62, 3) := by decide +kernel
theorem dX10_country_97 : decode cX10_country 97 = .ok (.aload 5, 2) := by decide +kernel
theorem dX10_country_99 : decode cX10_country 99 = .ok (.iload_n 2, 1) := by decide +kernel
theorem dX10_country_100 : decode cX10_country 100 = .ok (.putfield 69, 3) := by decide +kernel
theorem dX10_country_103 : decode cX10_country 103 = .ok (.aload 5, 2) := by decide +kernel
theorem dX10_country_105 : decode cX10_country 105 = .ok (.getfield 83, 3) := by decide +kernel
theorem dX10_country_108 : decode cX10_country 108 = .ok (.iconst 0, 1) := by decide +kernel
theorem dX10_country_109 : decode cX10_country 109 = .ok (.iload_n 3, 1) := by decide +kernel
theorem dX10_country_110 : decode cX10_country 110 = .ok (.i2l, 1) := by decide +kernel
theorem dX10_country_111 : decode cX10_country 111 = .ok (.lastore, 1) := by decide +kernel
theorem dX10_country_112 : decode cX10_country 112 = .ok (.aload 5, 2) := by decide +kernel
theorem dX10_country_114 : decode cX10_country 114 = .ok (.getfield 83, 3) := by decide +kernel
theorem dX10_country_117 : decode cX10_country 117 = .ok (.iconst 1, 1) := by decide +kernel
theorem dX10_country_118 : decode cX10_country 118 = .ok (.iload 4, 2) := by decide +kernel
theorem dX10_country_120 : decode cX10_country 120 = .ok (.i2l, 1) := by decide +kernel
theorem dX10_country_121 : decode cX10_country 121 = .ok (.lastore, 1) := by decide +kernel
theorem dX10_country_122 : decode cX10_country 122 = .ok (.aload_n 0, 1) := by decide +kernel
theorem dX10_country_123 : decode cX10_country 123 = .ok (.getfield 31, 3) := by decide +kernel
theorem dX10_country_126 : decode cX10_country 126 = .ok (.iconst 0, 1) := by decide +kernel
theorem dX10_country_127 : decode cX10_country 127 = .ok (.dup2, 1) := by decide +kernel
theorem dX10_country_128 : decode cX10_country 128 = .ok (.laload, 1) := by decide +kernel
theorem dX10_country_129 : decode cX10_country 129 = .ok (.iload_n 3, 1) := by decide +kernel
theorem dX10_country_130 : decode cX10_country 130 = .ok (.i2l, 1) := by decide +kernel
theorem dX10_country_131 : decode cX10_country 131 = .ok (.ladd, 1) := by decide +kernel
theorem dX10_country_132 : decode cX10_country 132 = .ok (.lastore, 1) := by decide +kernel
theorem dX10_country_133 : decode cX10_country 133 = .ok (.aload_n 0, 1) := by decide +kernel
theorem dX10_country_134 : decode cX10_country 134 = .ok (.getfield 31, 3) := by decide +kernel
theorem dX10_country_137 : decode cX10_country 137 = .ok (.iconst 1, 1) := by decide +kernel
theorem dX10_country_138 : decode cX10_country 138 = .ok (.dup2, 1) := by decide +kernel
theorem dX10_country_139 : decode cX10_country 139 = .ok (.laload, 1) := by decide +kernel
theorem dX10_country_140 : decode cX10_country 140 = .ok (.iload 4, 2) := by decide +kernel
theorem dX10_country_142 : decode cX10_country 142 = .ok (.i2l, 1) := by decide +kernel
theorem dX10_country_143 : decode cX10_country 143 = .ok (.ladd, 1) := by decide +kernel
theorem dX10_country_144 : decode cX10_country 144 = .ok (.lastore, 1) := by decide +kernel
theorem dX10_country_145 : decode cX10_country 145 = .ok (.aload_n 0, 1) := by decide +kernel
theorem dX10_country_146 : decode cX10_country 146 = .ok (.getfield 37, 3) := by decide +kernel
theorem dX10_country_149 : decode cX10_country 149 = .ok (.aload 5, 2) := by decide +kernel
theorem dX10_country_151 : decode cX10_country 151 = .ok (.invokevirtual 86, 3) := by decide +kernel
theorem dX10_country_154 : decode cX10_country 154 = .ok (.pop, 1) := by decide +kernel
theorem dX10_country_155 : decode cX10_country 155 = .ok (.aload_n 0, 1) := by decide +kernel
theorem dX10_country_156 : decode cX10_country 156 = .ok (.getfield 37, 3) := by decide +kernel
theorem dX10_country_159 : decode cX10_country 159 = .ok (.invokevirtual 54, 3) := by decide +kernel
theorem dX10_country_162 : decode cX10_country 162 = .ok (.iconst 1, 1) := by decide +kernel
theorem dX10_country_163 : decode cX10_country 163 = .ok (.isub, 1) := by decide +kernel
theorem dX10_country_164 : decode cX10_country 164 = .ok (.ireturn, 1) := by decide +kernel
theorem dX10_law_0 : decode cX10_law 0 = .ok (.aload_n 0, 1) := by decide +kernel
theorem dX10_law_1 : decode cX10_law 1 = .ok (.aload_n 0, 1) := by decide +kernel
theorem dX10_law_2 : decode cX10_law 2 = .ok (.iload_n 1, 1) := by decide +kernel
theorem dX10_law_3 : decode cX10_law 3 = .ok (.invokevirtual 90, 3) := by decide +kernel
theorem dX10_law_6 : decode cX10_law 6 = .ok (.iconst 1, 1) := by decide +kernel
theorem dX10_law_7 : decode cX10_law 7 = .ok (.invokevirtual 79, 3) := by decide +kernel
theorem dX10_law_10 : decode cX10_law 10 = .ok (.ifCond .ne 38, 3) := by decide +kernel
theorem dX10_law_13 : decode cX10_law 13 = .ok (.aload_n 0, 1) := by decide +kernel
theorem dX10_law_14 : decode cX10_law 14 = .ok (.iload_n 2, 1) := by decide +kernel
theorem dX10_law_15 : decode cX10_law 15 = .ok (.bipush 100, 2) := by decide +kernel
theorem dX10_law_17 : decode cX10_law 17 = .ok (.sipush 200, 3) := by decide +kernel
theorem dX10_law_20 : decode cX10_law 20 = .ok (.invokestatic 58, 3) := by decide +kernel
theorem dX10_law_23 : decode cX10_law 23 = .ok (.ifCond .eq 13, 3) := by decide +kernel
theorem dX10_law_26 : decode cX10_law 26 = .ok (.iload_n 3, 1) := by decide +kernel
theorem dX10_law_27 : decode cX10_law 27 = .ok (.iconst 0, 1) := by decide +kernel
theorem dX10_law_28 : decode cX10_law 28 = .ok (.bipush 50, 2) := by decide +kernel
theorem dX10_law_30 : decode cX10_law 30 = .ok (.invokestatic 58, 3) := by decide +kernel
theorem dX10_law_33 : decode cX10_law 33 = .ok (.ifCond .ne 7, 3) := by decide +kernel
theorem dX10_law_36 : decode cX10_law 36 = .ok (.iconst 1, 1) := by decide +kernel
theorem dX10_law_37 : decode cX10_law 37 = .ok (.goto 4, 3) := by decide +kernel
theorem dX10_law_40 : decode cX10_law 40 = .ok (.iconst 0, 1) := by decide +kernel
theorem dX10_law_41 : decode cX10_law 41 = .ok (.iconst 2, 1) := by decide +kernel
theorem dX10_law_42 : decode cX10_law 42 = .ok (.invokevirtual 50, 3) := by decide +kernel
theorem dX10_law_45 : decode cX10_law 45 = .ok (.ifCond .eq 5, 3) := by decide +kernel
theorem dX10_law_48 : decode cX10_law 48 = .ok (.iconst 0, 1) := by decide +kernel
theorem dX10_law_49 : decode cX10_law 49 = .ok (.ireturn, 1) := by decide +kernel
theorem dX10_law_50 : decode cX10_law 50 = .ok (.aload_n 0, 1) := by decide +kernel
theorem dX10_law_51 : decode cX10_law 51 = .ok (.getfield 37, 3) := by decide +kernel
theorem dX10_law_54 : decode cX10_law 54 = .ok (.iload_n 1, 1) := by decide +kernel
theorem dX10_law_55 : decode cX10_law 55 = .ok (.invokevirtual 94, 3) := by decide +kernel
theorem dX10_law_58 : decode cX10_law 58 = .ok (.checkcast 63, 3) := by decide +kernel
theorem dX10_law_61 : decode cX10_law 61 = .ok (.astore 4, 2) := by decide +kernel
theorem dX10_law_63 : decode cX10_law 63 = .ok (.aload 4, 2) := by decide +kernel
theorem dX10_law_65 : decode cX10_law 65 = .ok (.getfield 62, 3) := by decide +kernel
theorem dX10_law_68 : decode cX10_law 68 = .ok (.istore 5, 2) := by decide +kernel
theorem dX10_law_70 : decode cX10_law 70 = .ok (.aload 4, 2) := by decide +kernel
theorem dX10_law_72 : decode cX10_law 72 = .ok (.iload_n 2, 1) := by decide +kernel
theorem dX10_law_73 : decode cX10_law 73 = .ok (.putfield 62, 3) := by decide +kernel
theorem dX10_law_76 : decode cX10_law 76 = .ok (.aload 4, 2) := by decide +kernel
theorem dX10_law_78 : decode cX10_law 78 = .ok (.iload_n 3, 1) := by decide +kernel
theorem dX10_law_79 : decode cX10_law 79 = .ok (.putfield 69, 3) := by decide +kernel
theorem dX10_law_82 : decode cX10_law 82 = .ok (.iload 5, 2) := by decide +kernel
theorem dX10_law_84 : decode cX10_law 84 = .ok (.ireturn, 1) := by decide +kernel
theorem dX10_gate_0 : decode cX10_gate 0 = .ok (.aload_n 0, 1) := by decide +kernel
theorem dX10_gate_1 : decode cX10_gate 1 = .ok (.aload_n 0, 1) := by decide +kernel
theorem dX10_gate_2 : decode cX10_gate 2 = .ok (.iload_n 1, 1) := by decide +kernel
theorem dX10_gate_3 : decode cX10_gate 3 = .ok (.invokevirtual 90, 3) := by decide +kernel
theorem dX10_gate_6 : decode cX10_gate 6 = .ok (.iconst 1, 1) := by decide +kernel
theorem dX10_gate_7 : decode cX10_gate 7 = .ok (.invokevirtual 79, 3) := by decide +kernel
theorem dX10_gate_10 : decode cX10_gate 10 = .ok (.ifCond .ne 15, 3) := by decide +kernel
theorem dX10_gate_13 : decode cX10_gate 13 = .ok (.aload_n 0, 1) := by decide +kernel
theorem dX10_gate_14 : decode cX10_gate 14 = .ok (.iload_n 2, 1) := by decide +kernel
theorem dX10_gate_15 : decode cX10_gate 15 = .ok (.invokestatic 98, 3) := by decide +kernel
theorem dX10_gate_18 : decode cX10_gate 18 = .ok (.iconst 2, 1) := by decide +kernel
theorem dX10_gate_19 : decode cX10_gate 19 = .ok (.invokevirtual 50, 3) := by decide +kernel
theorem dX10_gate_22 : decode cX10_gate 22 = .ok (.ifCond .eq 5, 3) := by decide +kernel
theorem dX10_gate_25 : decode cX10_gate 25 = .ok (.iconst 0, 1) := by decide +kernel
theorem dX10_gate_26 : decode cX10_gate 26 = .ok (.ireturn, 1) := by decide +kernel
theorem dX10_gate_27 : decode cX10_gate 27 = .ok (.aload_n 0, 1) := by decide +kernel
theorem dX10_gate_28 : decode cX10_gate 28 = .ok (.getfield 37, 3) := by decide +kernel
theorem dX10_gate_31 : decode cX10_gate 31 = .ok (.iload_n 1, 1) := by decide +kernel
theorem dX10_gate_32 : decode cX10_gate 32 = .ok (.invokevirtual 94, 3) := by decide +kernel
theorem dX10_gate_35 : decode cX10_gate 35 = .ok (.checkcast 63, 3) := by decide +kernel
theorem dX10_gate_38 : decode cX10_gate 38 = .ok (.getfield 101, 3) := by decide +kernel
theorem dX10_gate_41 : decode cX10_gate 41 = .ok (.iload_n 2, 1) := by decide +kernel
theorem dX10_gate_42 : decode cX10_gate 42 = .ok (.baload, 1) := by decide +kernel
theorem dX10_gate_43 : decode cX10_gate 43 = .ok (.istore 4, 2) := by decide +kernel
theorem dX10_gate_45 : decode cX10_gate 45 = .ok (.aload_n 0, 1) := by decide +kernel
theorem dX10_gate_46 : decode cX10_gate 46 = .ok (.getfield 37, 3) := by decide +kernel
theorem dX10_gate_49 : decode cX10_gate 49 = .ok (.iload_n 1, 1) := by decide +kernel
theorem dX10_gate_50 : decode cX10_gate 50 = .ok (.invokevirtual 94, 3) := by decide +kernel
theorem dX10_gate_53 : decode cX10_gate 53 = .ok (.checkcast 63, 3) := by decide +kernel
theorem dX10_gate_56 : decode cX10_gate 56 = .ok (.getfield 101, 3) := by decide +kernel
theorem dX10_gate_59 : decode cX10_gate 59 = .ok (.iload_n 2, 1) := by decide +kernel
theorem dX10_gate_60 : decode cX10_gate 60 = .ok (.iload_n 3, 1) := by decide +kernel
theorem dX10_gate_61 : decode cX10_gate 61 = .ok (.bastore, 1) := by decide +kernel
theorem dX10_gate_62 : decode cX10_gate 62 = .ok (.iload 4, 2) := by decide +kernel
theorem dX10_gate_64 : decode cX10_gate 64 = .ok (.ireturn, 1) := by decide +kernel
theorem dX10_market_0 : decode cX10_market 0 = .ok (.aload_n 0, 1) := by decide +kernel
theorem dX10_market_1 : decode cX10_market 1 = .ok (.iload_n 1, 1) := by decide +kernel
theorem dX10_market_2 : decode cX10_market 2 = .ok (.bipush 100, 2) := by decide +kernel
theorem dX10_market_4 : decode cX10_market 4 = .ok (.sipush 200, 3) := by decide +kernel
theorem dX10_market_7 : decode cX10_market 7 = .ok (.invokestatic 58, 3) := by decide +kernel
theorem dX10_market_10 : decode cX10_market 10 = .ok (.ifCond .ne 7, 3) := by decide +kernel
theorem dX10_market_13 : decode cX10_market 13 = .ok (.iconst 1, 1) := by decide +kernel
theorem dX10_market_14 : decode cX10_market 14 = .ok (.goto 4, 3) := by decide +kernel
theorem dX10_market_17 : decode cX10_market 17 = .ok (.iconst 0, 1) := by decide +kernel
theorem dX10_market_18 : decode cX10_market 18 = .ok (.iconst 1, 1) := by decide +kernel
theorem dX10_market_19 : decode cX10_market 19 = .ok (.invokevirtual 79, 3) := by decide +kernel
theorem dX10_market_22 : decode cX10_market 22 = .ok (.ifCond .eq 5, 3) := by decide +kernel
theorem dX10_market_25 : decode cX10_market 25 = .ok (.iconst 0, 1) := by decide +kernel
theorem dX10_market_26 : decode cX10_market 26 = .ok (.ireturn, 1) := by decide +kernel
theorem dX10_market_27 : decode cX10_market 27 = .ok (.aload_n 0, 1) := by decide +kernel
theorem dX10_market_28 : decode cX10_market 28 = .ok (.getfield 7, 3) := by decide +kernel
theorem dX10_market_31 : decode cX10_market 31 = .ok (.istore_n 2, 1) := by decide +kernel
theorem dX10_market_32 : decode cX10_market 32 = .ok (.aload_n 0, 1) := by decide +kernel
theorem dX10_market_33 : decode cX10_market 33 = .ok (.iload_n 1, 1) := by decide +kernel
theorem dX10_market_34 : decode cX10_market 34 = .ok (.putfield 7, 3) := by decide +kernel
theorem dX10_market_37 : decode cX10_market 37 = .ok (.iload_n 2, 1) := by decide +kernel
theorem dX10_market_38 : decode cX10_market 38 = .ok (.ireturn, 1) := by decide +kernel
theorem dX10_road_0 : decode cX10_road 0 = .ok (.aload_n 0, 1) := by decide +kernel
theorem dX10_road_1 : decode cX10_road 1 = .ok (.aload_n 0, 1) := by decide +kernel
theorem dX10_road_2 : decode cX10_road 2 = .ok (.iload_n 1, 1) := by decide +kernel
theorem dX10_road_3 : decode cX10_road 3 = .ok (.invokevirtual 90, 3) := by decide +kernel
theorem dX10_road_6 : decode cX10_road 6 = .ok (.ifCond .ne 11, 3) := by decide +kernel
theorem dX10_road_9 : decode cX10_road 9 = .ok (.aload_n 0, 1) := by decide +kernel
theorem dX10_road_10 : decode cX10_road 10 = .ok (.iload_n 2, 1) := by decide +kernel
theorem dX10_road_11 : decode cX10_road 11 = .ok (.invokevirtual 90, 3) := by decide +kernel
theorem dX10_road_14 : decode cX10_road 14 = .ok (.ifCond .eq 7, 3) := by decide +kernel
theorem dX10_road_17 : decode cX10_road 17 = .ok (.iconst 1, 1) := by decide +kernel
theorem dX10_road_18 : decode cX10_road 18 = .ok (.goto 4, 3) := by decide +kernel
theorem dX10_road_21 : decode cX10_road 21 = .ok (.iconst 0, 1) := by decide +kernel
theorem dX10_road_22 : decode cX10_road 22 = .ok (.iconst 1, 1) := by decide +kernel
theorem dX10_road_23 : decode cX10_road 23 = .ok (.invokevirtual 79, 3) := by decide +kernel
theorem dX10_road_26 : decode cX10_road 26 = .ok (.ifCond .ne 42, 3) := by decide +kernel
theorem dX10_road_29 : decode cX10_road 29 = .ok (.aload_n 0, 1) := by decide +kernel
theorem dX10_road_30 : decode cX10_road 30 = .ok (.iload_n 1, 1) := by decide +kernel
theorem dX10_road_31 : decode cX10_road 31 = .ok (.iload_n 2, 1) := by decide +kernel
theorem dX10_road_32 : decode cX10_road 32 = .ok (.if_icmp .eq 24, 3) := by decide +kernel
theorem dX10_road_35 : decode cX10_road 35 = .ok (.iload_n 3, 1) := by decide +kernel
theorem dX10_road_36 : decode cX10_road 36 = .ok (.iconst 1, 1) := by decide +kernel
theorem dX10_road_37 : decode cX10_road 37 = .ok (.bipush 30, 2) := by decide +kernel
theorem dX10_road_39 : decode cX10_road 39 = .ok (.invokestatic 58, 3) := by decide +kernel
theorem dX10_road_42 : decode cX10_road 42 = .ok (.ifCond .eq 14, 3) := by decide +kernel
theorem dX10_road_45 : decode cX10_road 45 = .ok (.iload 4, 2) := by decide +kernel
theorem dX10_road_47 : decode cX10_road 47 = .ok (.iconst 0, 1) := by decide +kernel
theorem dX10_road_48 : decode cX10_road 48 = .ok (.bipush 100, 2) := by decide +kernel
theorem dX10_road_50 : decode cX10_road 50 = .ok (.invokestatic 58, 3) := by decide +kernel
theorem dX10_road_53 : decode cX10_road 53 = .ok (.ifCond .ne 7, 3) := by decide +kernel
theorem dX10_road_56 : decode cX10_road 56 = .ok (.iconst 1, 1) := by decide +kernel
theorem dX10_road_57 : decode cX10_road 57 = .ok (.goto 4, 3) := by decide +kernel
theorem dX10_road_60 : decode cX10_road 60 = .ok (.iconst 0, 1) := by decide +kernel
theorem dX10_road_61 : decode cX10_road 61 = .ok (.iconst 2, 1) := by decide +kernel
theorem dX10_road_62 : decode cX10_road 62 = .ok (.invokevirtual 50, 3) := by decide +kernel
theorem dX10_road_65 : decode cX10_road 65 = .ok (.ifCond .eq 5, 3) := by decide +kernel
theorem dX10_road_68 : decode cX10_road 68 = .ok (.iconst 0, 1) := by decide +kernel
theorem dX10_road_69 : decode cX10_road 69 = .ok (.ireturn, 1) := by decide +kernel
theorem dX10_road_70 : decode cX10_road 70 = .ok (.aload_n 0, 1) := by decide +kernel
theorem dX10_road_71 : decode cX10_road 71 = .ok (.getfield 15, 3) := by decide +kernel
theorem dX10_road_74 : decode cX10_road 74 = .ok (.iload_n 1, 1) := by decide +kernel
theorem dX10_road_75 : decode cX10_road 75 = .ok (.aaload, 1) := by decide +kernel
theorem dX10_road_76 : decode cX10_road 76 = .ok (.iload_n 2, 1) := by decide +kernel
theorem dX10_road_77 : decode cX10_road 77 = .ok (.iaload, 1) := by decide +kernel
theorem dX10_road_78 : decode cX10_road 78 = .ok (.istore 5, 2) := by decide +kernel
theorem dX10_road_80 : decode cX10_road 80 = .ok (.aload_n 0, 1) := by decide +kernel
theorem dX10_road_81 : decode cX10_road 81 = .ok (.getfield 15, 3) := by decide +kernel
theorem dX10_road_84 : decode cX10_road 84 = .ok (.iload_n 1, 1) := by decide +kernel
theorem dX10_road_85 : decode cX10_road 85 = .ok (.aaload, 1) := by decide +kernel
theorem dX10_road_86 : decode cX10_road 86 = .ok (.iload_n 2, 1) := by decide +kernel
theorem dX10_road_87 : decode cX10_road 87 = .ok (.iload_n 3, 1) := by decide +kernel
theorem dX10_road_88 : decode cX10_road 88 = .ok (.iastore, 1) := by decide +kernel
theorem dX10_road_89 : decode cX10_road 89 = .ok (.aload_n 0, 1) := by decide +kernel
theorem dX10_road_90 : decode cX10_road 90 = .ok (.getfield 15, 3) := by decide +kernel
theorem dX10_road_93 : decode cX10_road 93 = .ok (.iload_n 2, 1) := by decide +kernel
theorem dX10_road_94 : decode cX10_road 94 = .ok (.aaload, 1) := by decide +kernel
theorem dX10_road_95 : decode cX10_road 95 = .ok (.iload_n 1, 1) := by decide +kernel
theorem dX10_road_96 : decode cX10_road 96 = .ok (.iload_n 3, 1) := by decide +kernel
theorem dX10_road_97 : decode cX10_road 97 = .ok (.iastore, 1) := by decide +kernel
theorem dX10_road_98 : decode cX10_road 98 = .ok (.aload_n 0, 1) := by decide +kernel
theorem dX10_road_99 : decode cX10_road 99 = .ok (.getfield 18, 3) := by decide +kernel
theorem dX10_road_102 : decode cX10_road 102 = .ok (.iload_n 1, 1) := by decide +kernel
theorem dX10_road_103 : decode cX10_road 103 = .ok (.aaload, 1) := by decide +kernel
theorem dX10_road_104 : decode cX10_road 104 = .ok (.iload_n 2, 1) := by decide +kernel
theorem dX10_road_105 : decode cX10_road 105 = .ok (.iload 4, 2) := by decide +kernel
theorem dX10_road_107 : decode cX10_road 107 = .ok (.iastore, 1) := by decide +kernel
theorem dX10_road_108 : decode cX10_road 108 = .ok (.aload_n 0, 1) := by decide +kernel
theorem dX10_road_109 : decode cX10_road 109 = .ok (.getfield 18, 3) := by decide +kernel
theorem dX10_road_112 : decode cX10_road 112 = .ok (.iload_n 2, 1) := by decide +kernel
theorem dX10_road_113 : decode cX10_road 113 = .ok (.aaload, 1) := by decide +kernel
theorem dX10_road_114 : decode cX10_road 114 = .ok (.iload_n 1, 1) := by decide +kernel
theorem dX10_road_115 : decode cX10_road 115 = .ok (.iload 4, 2) := by decide +kernel
theorem dX10_road_117 : decode cX10_road 117 = .ok (.iastore, 1) := by decide +kernel
theorem dX10_road_118 : decode cX10_road 118 = .ok (.iload 5, 2) := by decide +kernel
theorem dX10_road_120 : decode cX10_road 120 = .ok (.ireturn, 1) := by decide +kernel
theorem dX10_mine_0 : decode cX10_mine 0 = .ok (.aload_n 0, 1) := by decide +kernel
theorem dX10_mine_1 : decode cX10_mine 1 = .ok (.aload_n 0, 1) := by decide +kernel
theorem dX10_mine_2 : decode cX10_mine 2 = .ok (.iload_n 1, 1) := by decide +kernel
theorem dX10_mine_3 : decode cX10_mine 3 = .ok (.invokevirtual 90, 3) := by decide +kernel
theorem dX10_mine_6 : decode cX10_mine 6 = .ok (.iconst 1, 1) := by decide +kernel
theorem dX10_mine_7 : decode cX10_mine 7 = .ok (.invokevirtual 79, 3) := by decide +kernel
theorem dX10_mine_10 : decode cX10_mine 10 = .ok (.ifCond .ne 72, 3) := by decide +kernel
theorem dX10_mine_13 : decode cX10_mine 13 = .ok (.aload_n 0, 1) := by decide +kernel
theorem dX10_mine_14 : decode cX10_mine 14 = .ok (.iload_n 2, 1) := by decide +kernel
theorem dX10_mine_15 : decode cX10_mine 15 = .ok (.invokestatic 98, 3) := by decide +kernel
theorem dX10_mine_18 : decode cX10_mine 18 = .ok (.ifCond .ne 13, 3) := by decide +kernel
theorem dX10_mine_21 : decode cX10_mine 21 = .ok (.iload_n 3, 1) := by decide +kernel
theorem dX10_mine_22 : decode cX10_mine 22 = .ok (.iconst 1, 1) := by decide +kernel
theorem dX10_mine_23 : decode cX10_mine 23 = .ok (.ldc 78, 2) := by decide +kernel
theorem dX10_mine_25 : decode cX10_mine 25 = .ok (.invokestatic 58, 3) := by decide +kernel
theorem dX10_mine_28 : decode cX10_mine 28 = .ok (.ifCond .ne 7, 3) := by decide +kernel
theorem dX10_mine_31 : decode cX10_mine 31 = .ok (.iconst 1, 1) := by decide +kernel
theorem dX10_mine_32 : decode cX10_mine 32 = .ok (.goto 4, 3) := by decide +kernel
theorem dX10_mine_35 : decode cX10_mine 35 = .ok (.iconst 0, 1) := by decide +kernel
theorem dX10_mine_36 : decode cX10_mine 36 = .ok (.iconst 2, 1) := by decide +kernel
theorem dX10_mine_37 : decode cX10_mine 37 = .ok (.invokevirtual 50, 3) := by decide +kernel
theorem dX10_mine_40 : decode cX10_mine 40 = .ok (.ifCond .ne 42, 3) := by decide +kernel
theorem dX10_mine_43 : decode cX10_mine 43 = .ok (.aload_n 0, 1) := by decide +kernel
theorem dX10_mine_44 : decode cX10_mine 44 = .ok (.aload_n 0, 1) := by decide +kernel
theorem dX10_mine_45 : decode cX10_mine 45 = .ok (.getfield 37, 3) := by decide +kernel
theorem dX10_mine_48 : decode cX10_mine 48 = .ok (.iload_n 1, 1) := by decide +kernel
theorem dX10_mine_49 : decode cX10_mine 49 = .ok (.invokevirtual 94, 3) := by decide +kernel
theorem dX10_mine_52 : decode cX10_mine 52 = .ok (.checkcast 63, 3) := by decide +kernel
theorem dX10_mine_55 : decode cX10_mine 55 = .ok (.getfield 83, 3) := by decide +kernel
theorem dX10_mine_58 : decode cX10_mine 58 = .ok (.iload_n 2, 1) := by decide +kernel
theorem dX10_mine_59 : decode cX10_mine 59 = .ok (.laload, 1) := by decide +kernel
theorem dX10_mine_60 : decode cX10_mine 60 = .ok (.iload_n 3, 1) := by decide +kernel
theorem dX10_mine_61 : decode cX10_mine 61 = .ok (.i2l, 1) := by decide +kernel
theorem dX10_mine_62 : decode cX10_mine 62 = .ok (.ladd, 1) := by decide +kernel
theorem dX10_mine_63 : decode cX10_mine 63 = .ok (.ldc2_w 105, 3) := by decide +kernel
theorem dX10_mine_66 : decode cX10_mine 66 = .ok (.lcmp, 1) := by decide +kernel
theorem dX10_mine_67 : decode cX10_mine 67 = .ok (.ifCond .le 7, 3) := by decide +kernel
theorem dX10_mine_70 : decode cX10_mine 70 = .ok (.iconst 1, 1) := by decide +kernel
theorem dX10_mine_71 : decode cX10_mine 71 = .ok (.goto 4, 3) := by decide +kernel
theorem dX10_mine_74 : decode cX10_mine 74 = .ok (.iconst 0, 1) := by decide +kernel
theorem dX10_mine_75 : decode cX10_mine 75 = .ok (.iconst 3, 1) := by decide +kernel
theorem dX10_mine_76 : decode cX10_mine 76 = .ok (.invokevirtual 50, 3) := by decide +kernel
theorem dX10_mine_79 : decode cX10_mine 79 = .ok (.ifCond .eq 5, 3) := by decide +kernel
theorem dX10_mine_82 : decode cX10_mine 82 = .ok (.iconst 0, 1) := by decide +kernel
theorem dX10_mine_83 : decode cX10_mine 83 = .ok (.ireturn, 1) := by decide +kernel
theorem dX10_mine_84 : decode cX10_mine 84 = .ok (.aload_n 0, 1) := by decide +kernel
theorem dX10_mine_85 : decode cX10_mine 85 = .ok (.getfield 31, 3) := by decide +kernel
theorem dX10_mine_88 : decode cX10_mine 88 = .ok (.iload_n 2, 1) := by decide +kernel
theorem dX10_mine_89 : decode cX10_mine 89 = .ok (.dup2, 1) := by decide +kernel
theorem dX10_mine_90 : decode cX10_mine 90 = .ok (.laload, 1) := by decide +kernel
theorem dX10_mine_91 : decode cX10_mine 91 = .ok (.iload_n 3, 1) := by decide +kernel
theorem dX10_mine_92 : decode cX10_mine 92 = .ok (.i2l, 1) := by decide +kernel
theorem dX10_mine_93 : decode cX10_mine 93 = .ok (.ladd, 1) := by decide +kernel
theorem dX10_mine_94 : decode cX10_mine 94 = .ok (.lastore, 1) := by decide +kernel
theorem dX10_mine_95 : decode cX10_mine 95 = .ok (.aload_n 0, 1) := by decide +kernel
theorem dX10_mine_96 : decode cX10_mine 96 = .ok (.getfield 37, 3) := by decide +kernel
theorem dX10_mine_99 : decode cX10_mine 99 = .ok (.iload_n 1, 1) := by decide +kernel
theorem dX10_mine_100 : decode cX10_mine 100 = .ok (.invokevirtual 94, 3) := by decide +kernel
theorem dX10_mine_103 : decode cX10_mine 103 = .ok (.checkcast 63, 3) := by decide +kernel
theorem dX10_mine_106 : decode cX10_mine 106 = .ok (.getfield 83, 3) := by decide +kernel
theorem dX10_mine_109 : decode cX10_mine 109 = .ok (.iload_n 2, 1) := by decide +kernel
theorem dX10_mine_110 : decode cX10_mine 110 = .ok (.dup2, 1) := by decide +kernel
theorem dX10_mine_111 : decode cX10_mine 111 = .ok (.laload, 1) := by decide +kernel
theorem dX10_mine_112 : decode cX10_mine 112 = .ok (.iload_n 3, 1) := by decide +kernel
theorem dX10_mine_113 : decode cX10_mine 113 = .ok (.i2l, 1) := by decide +kernel
theorem dX10_mine_114 : decode cX10_mine 114 = .ok (.ladd, 1) := by decide +kernel
theorem dX10_mine_115 : decode cX10_mine 115 = .ok (.lastore, 1) := by decide +kernel
theorem dX10_mine_116 : decode cX10_mine 116 = .ok (.aload_n 0, 1) := by decide +kernel
theorem dX10_mine_117 : decode cX10_mine 117 = .ok (.getfield 37, 3) := by decide +kernel
theorem dX10_mine_120 : decode cX10_mine 120 = .ok (.iload_n 1, 1) := by decide +kernel
theorem dX10_mine_121 : decode cX10_mine 121 = .ok (.invokevirtual 94, 3) := by decide +kernel
theorem dX10_mine_124 : decode cX10_mine 124 = .ok (.checkcast 63, 3) := by decide +kernel
theorem dX10_mine_127 : decode cX10_mine 127 = .ok (.getfield 83, 3) := by decide +kernel
theorem dX10_mine_130 : decode cX10_mine 130 = .ok (.iload_n 2, 1) := by decide +kernel
theorem dX10_mine_131 : decode cX10_mine 131 = .ok (.laload, 1) := by decide +kernel
theorem dX10_mine_132 : decode cX10_mine 132 = .ok (.l2i, 1) := by decide +kernel
theorem dX10_mine_133 : decode cX10_mine 133 = .ok (.ireturn, 1) := by decide +kernel
theorem dX10_use_0 : decode cX10_use 0 = .ok (.aload_n 0, 1) := by decide +kernel
theorem dX10_use_1 : decode cX10_use 1 = .ok (.aload_n 0, 1) := by decide +kernel
theorem dX10_use_2 : decode cX10_use 2 = .ok (.iload_n 1, 1) := by decide +kernel
theorem dX10_use_3 : decode cX10_use 3 = .ok (.invokevirtual 90, 3) := by decide +kernel
theorem dX10_use_6 : decode cX10_use 6 = .ok (.iconst 1, 1) := by decide +kernel
theorem dX10_use_7 : decode cX10_use 7 = .ok (.invokevirtual 79, 3) := by decide +kernel
theorem dX10_use_10 : decode cX10_use 10 = .ok (.ifCond .ne 68, 3) := by decide +kernel
theorem dX10_use_13 : decode cX10_use 13 = .ok (.aload_n 0, 1) := by decide +kernel
theorem dX10_use_14 : decode cX10_use 14 = .ok (.iload_n 2, 1) := by decide +kernel
theorem dX10_use_15 : decode cX10_use 15 = .ok (.invokestatic 98, 3) := by decide +kernel
theorem dX10_use_18 : decode cX10_use 18 = .ok (.ifCond .ne 13, 3) := by decide +kernel
theorem dX10_use_21 : decode cX10_use 21 = .ok (.iload_n 3, 1) := by decide +kernel
theorem dX10_use_22 : decode cX10_use 22 = .ok (.iconst 1, 1) := by decide +kernel
theorem dX10_use_23 : decode cX10_use 23 = .ok (.ldc 78, 2) := by decide +kernel
theorem dX10_use_25 : decode cX10_use 25 = .ok (.invokestatic 58, 3) := by decide +kernel
theorem dX10_use_28 : decode cX10_use 28 = .ok (.ifCond .ne 7, 3) := by decide +kernel
theorem dX10_use_31 : decode cX10_use 31 = .ok (.iconst 1, 1) := by decide +kernel
theorem dX10_use_32 : decode cX10_use 32 = .ok (.goto 4, 3) := by decide +kernel
theorem dX10_use_35 : decode cX10_use 35 = .ok (.iconst 0, 1) := by decide +kernel
theorem dX10_use_36 : decode cX10_use 36 = .ok (.iconst 2, 1) := by decide +kernel
theorem dX10_use_37 : decode cX10_use 37 = .ok (.invokevirtual 50, 3) := by decide +kernel
theorem dX10_use_40 : decode cX10_use 40 = .ok (.ifCond .ne 38, 3) := by decide +kernel
theorem dX10_use_43 : decode cX10_use 43 = .ok (.aload_n 0, 1) := by decide +kernel
theorem dX10_use_44 : decode cX10_use 44 = .ok (.aload_n 0, 1) := by decide +kernel
theorem dX10_use_45 : decode cX10_use 45 = .ok (.getfield 37, 3) := by decide +kernel
theorem dX10_use_48 : decode cX10_use 48 = .ok (.iload_n 1, 1) := by decide +kernel
theorem dX10_use_49 : decode cX10_use 49 = .ok (.invokevirtual 94, 3) := by decide +kernel
theorem dX10_use_52 : decode cX10_use 52 = .ok (.checkcast 63, 3) := by decide +kernel
theorem dX10_use_55 : decode cX10_use 55 = .ok (.getfield 83, 3) := by decide +kernel
theorem dX10_use_58 : decode cX10_use 58 = .ok (.iload_n 2, 1) := by decide +kernel
theorem dX10_use_59 : decode cX10_use 59 = .ok (.laload, 1) := by decide +kernel
theorem dX10_use_60 : decode cX10_use 60 = .ok (.iload_n 3, 1) := by decide +kernel
theorem dX10_use_61 : decode cX10_use 61 = .ok (.i2l, 1) := by decide +kernel
theorem dX10_use_62 : decode cX10_use 62 = .ok (.lcmp, 1) := by decide +kernel
theorem dX10_use_63 : decode cX10_use 63 = .ok (.ifCond .ge 7, 3) := by decide +kernel
theorem dX10_use_66 : decode cX10_use 66 = .ok (.iconst 1, 1) := by decide +kernel
theorem dX10_use_67 : decode cX10_use 67 = .ok (.goto 4, 3) := by decide +kernel
theorem dX10_use_70 : decode cX10_use 70 = .ok (.iconst 0, 1) := by decide +kernel
theorem dX10_use_71 : decode cX10_use 71 = .ok (.iconst 3, 1) := by decide +kernel
theorem dX10_use_72 : decode cX10_use 72 = .ok (.invokevirtual 50, 3) := by decide +kernel
theorem dX10_use_75 : decode cX10_use 75 = .ok (.ifCond .eq 5, 3) := by decide +kernel
theorem dX10_use_78 : decode cX10_use 78 = .ok (.iconst 0, 1) := by decide +kernel
theorem dX10_use_79 : decode cX10_use 79 = .ok (.ireturn, 1) := by decide +kernel
theorem dX10_use_80 : decode cX10_use 80 = .ok (.aload_n 0, 1) := by decide +kernel
theorem dX10_use_81 : decode cX10_use 81 = .ok (.getfield 25, 3) := by decide +kernel
theorem dX10_use_84 : decode cX10_use 84 = .ok (.iload_n 2, 1) := by decide +kernel
theorem dX10_use_85 : decode cX10_use 85 = .ok (.dup2, 1) := by decide +kernel
theorem dX10_use_86 : decode cX10_use 86 = .ok (.laload, 1) := by decide +kernel
theorem dX10_use_87 : decode cX10_use 87 = .ok (.iload_n 3, 1) := by decide +kernel
theorem dX10_use_88 : decode cX10_use 88 = .ok (.i2l, 1) := by decide +kernel
theorem dX10_use_89 : decode cX10_use 89 = .ok (.ladd, 1) := by decide +kernel
theorem dX10_use_90 : decode cX10_use 90 = .ok (.lastore, 1) := by decide +kernel
theorem dX10_use_91 : decode cX10_use 91 = .ok (.aload_n 0, 1) := by decide +kernel
theorem dX10_use_92 : decode cX10_use 92 = .ok (.getfield 37, 3) := by decide +kernel
theorem dX10_use_95 : decode cX10_use 95 = .ok (.iload_n 1, 1) := by decide +kernel
theorem dX10_use_96 : decode cX10_use 96 = .ok (.invokevirtual 94, 3) := by decide +kernel
theorem dX10_use_99 : decode cX10_use 99 = .ok (.checkcast 63, 3) := by decide +kernel
theorem dX10_use_102 : decode cX10_use 102 = .ok (.getfield 83, 3) := by decide +kernel
theorem dX10_use_105 : decode cX10_use 105 = .ok (.iload_n 2, 1) := by decide +kernel
theorem dX10_use_106 : decode cX10_use 106 = .ok (.dup2, 1) := by decide +kernel
theorem dX10_use_107 : decode cX10_use 107 = .ok (.laload, 1) := by decide +kernel
theorem dX10_use_108 : decode cX10_use 108 = .ok (.iload_n 3, 1) := by decide +kernel
theorem dX10_use_109 : decode cX10_use 109 = .ok (.i2l, 1) := by decide +kernel
theorem dX10_use_110 : decode cX10_use 110 = .ok (.lsub, 1) := by decide +kernel
theorem dX10_use_111 : decode cX10_use 111 = .ok (.lastore, 1) := by decide +kernel
theorem dX10_use_112 : decode cX10_use 112 = .ok (.aload_n 0, 1) := by decide +kernel
theorem dX10_use_113 : decode cX10_use 113 = .ok (.getfield 37, 3) := by decide +kernel
theorem dX10_use_116 : decode cX10_use 116 = .ok (.iload_n 1, 1) := by decide +kernel
theorem dX10_use_117 : decode cX10_use 117 = .ok (.invokevirtual 94, 3) := by decide +kernel
theorem dX10_use_120 : decode cX10_use 120 = .ok (.checkcast 63, 3) := by decide +kernel
theorem dX10_use_123 : decode cX10_use 123 = .ok (.getfield 83, 3) := by decide +kernel
theorem dX10_use_126 : decode cX10_use 126 = .ok (.iload_n 2, 1) := by decide +kernel
theorem dX10_use_127 : decode cX10_use 127 = .ok (.laload, 1) := by decide +kernel
