theorem dX5_country_5 : decode cX5_country 5 = .ok (.iload_n 3, 1) := by decide +kernel
theorem dX5_country_6 : decode cX5_country 6 = .ok (.iconst 0, 1) := by decide +kernel
theorem dX5_country_7 : decode cX5_country 7 = .ok (.ldc 52, 2) := by decide +kernel
theorem dX5_country_9 : decode cX5_country 9 = .ok (.invokestatic 53, 3) := by decide +kernel
theorem dX5_country_12 : decode cX5_country 12 = .ok (.iload 4, 2) := by decide +kernel
theorem dX5_country_14 : decode cX5_country 14 = .ok (.iconst 0, 1) := by decide +kernel
theorem dX5_country_15 : decode cX5_country 15 = .ok (.ldc 52, 2) := by decide +kernel
theorem dX5_country_17 : decode cX5_country 17 = .ok (.invokestatic 53, 3) := by decide +kernel
theorem dX5_country_20 : decode cX5_country 20 = .ok (.aload_n 0, 1) := by decide +kernel
theorem dX5_country_21 : decode cX5_country 21 = .ok (.getfield 57, 3) := by decide +kernel
theorem dX5_country_24 : decode cX5_country 24 = .ok (.aload_n 0, 1) := by decide +kernel
theorem dX5_country_25 : decode cX5_country 25 = .ok (.getfield 15, 3) := by decide +kernel
theorem dX5_country_28 : decode cX5_country 28 = .ok (.arraylength, 1) := by decide +kernel
theorem dX5_country_29 : decode cX5_country 29 = .ok (.if_icmp .lt 13, 3) := by decide +kernel
theorem dX5_country_32 : decode cX5_country 32 = .ok (.new 60, 3) := by decide +kernel
theorem dX5_country_35 : decode cX5_country 35 = .ok (.dup, 1) := by decide +kernel
theorem dX5_country_36 : decode cX5_country 36 = .ok (.ldc 62, 2) := by decide +kernel
theorem dX5_country_38 : decode cX5_country 38 = .ok (.invokespecial 64, 3) := by decide +kernel
theorem dX5_country_41 : decode cX5_country 41 = .ok (.athrow, 1) := by decide +kernel
theorem dX5_country_42 : decode cX5_country 42 = .ok (.aload_n 0, 1) := by decide +kernel
theorem dX5_country_43 : decode cX5_country 43 = .ok (.getfield 57, 3) := by decide +kernel
theorem dX5_country_46 : decode cX5_country 46 = .ok (.istore 5, 2) := by decide +kernel
theorem dX5_country_48 : decode cX5_country 48 = .ok (.aload_n 0, 1) := by decide +kernel
theorem dX5_country_49 : decode cX5_country 49 = .ok (.getfield 15, 3) := by decide +kernel
theorem dX5_country_52 : decode cX5_country 52 = .ok (.iload 5, 2) := by decide +kernel
theorem dX5_country_54 : decode cX5_country 54 = .ok (.new 13, 3) := by decide +kernel
theorem dX5_country_57 : decode cX5_country 57 = .ok (.dup, 1) := by decide +kernel
theorem dX5_country_58 : decode cX5_country 58 = .ok (.iload 5, 2) := by decide +kernel
theorem dX5_country_60 : decode cX5_country 60 = .ok (.iload_n 1, 1) := by decide +kernel
theorem dX5_country_61 : decode cX5_country 61 = .ok (.iload_n 2, 1) := by decide +kernel
theorem dX5_country_62 : decode cX5_country 62 = .ok (.new 31, 3) := by decide +kernel
theorem dX5_country_65 : decode cX5_country 65 = .ok (.dup, 1) := by decide +kernel
theorem dX5_country_66 : decode cX5_country 66 = .ok (.iload_n 3, 1) := by decide +kernel
theorem dX5_country_67 : decode cX5_country 67 = .ok (.iload 4, 2) := by decide +kernel
theorem dX5_country_69 : decode cX5_country 69 = .ok (.invokespecial 33, 3) := by decide +kernel
theorem dX5_country_72 : decode cX5_country 72 = .ok (.invokespecial 67, 3) := by decide +kernel
theorem dX5_country_75 : decode cX5_country 75 = .ok (.aastore, 1) := by decide +kernel
theorem dX5_country_76 : decode cX5_country 76 = .ok (.aload_n 0, 1) := by decide +kernel
theorem dX5_country_77 : decode cX5_country 77 = .ok (.iload 5, 2) := by decide +kernel
theorem dX5_country_79 : decode cX5_country 79 = .ok (.iconst 1, 1) := by decide +kernel
theorem dX5_country_80 : decode cX5_country 80 = .ok (.iadd, 1) := by decide +kernel
theorem dX5_country_81 : decode cX5_country 81 = .ok (.putfield 57, 3) := by decide +kernel
theorem dX5_country_84 : decode cX5_country 84 = .ok (.aload_n 0, 1) := by decide +kernel
theorem dX5_country_85 : decode cX5_country 85 = .ok (.getfield 46, 3) := by decide +kernel
theorem dX5_country_88 : decode cX5_country 88 = .ok (.iconst 0, 1) := by decide +kernel
theorem dX5_country_89 : decode cX5_country 89 = .ok (.iload_n 3, 1) := by decide +kernel
theorem dX5_country_90 : decode cX5_country 90 = .ok (.invokevirtual 70, 3) := by decide +kernel
theorem dX5_country_93 : decode cX5_country 93 = .ok (.aload_n 0, 1) := by decide +kernel
theorem dX5_country_94 : decode cX5_country 94 = .ok (.getfield 46, 3) := by decide +kernel
theorem dX5_country_97 : decode cX5_country 97 = .ok (.iconst 1, 1) := by decide +kernel
theorem dX5_country_98 : decode cX5_country 98 = .ok (.iload 4, 2) := by decide +kernel
theorem dX5_country_100 : decode cX5_country 100 = .ok (.invokevirtual 70, 3) := by decide +kernel
theorem dX5_country_103 : decode cX5_country 103 = .ok (.iload 5, 2) := by decide +kernel
theorem dX5_country_105 : decode cX5_country 105 = .ok (.ireturn, 1) := by decide +kernel
theorem dX5_law_0 : decode cX5_law 0 = .ok (.aload_n 0, 1) := by decide +kernel
theorem dX5_law_1 : decode cX5_law 1 = .ok (.iload_n 1, 1) := by decide +kernel
theorem dX5_law_2 : decode cX5_law 2 = .ok (.invokevirtual 73, 3) := by decide +kernel
theorem dX5_law_5 : decode cX5_law 5 = .ok (.astore 4, 2) := by decide +kernel
theorem dX5_law_7 : decode cX5_law 7 = .ok (.iload_n 2, 1) := by decide +kernel
theorem dX5_law_8 : decode cX5_law 8 = .ok (.iload_n 3, 1) := by decide +kernel
theorem dX5_law_9 : decode cX5_law 9 = .ok (.invokestatic 49, 3) := by decide +kernel
theorem dX5_law_12 : decode cX5_law 12 = .ok (.aload 4, 2) := by decide +kernel
theorem dX5_law_14 : decode cX5_law 14 = .ok (.getfield 77, 3) := by decide +kernel
theorem dX5_law_17 : decode cX5_law 17 = .ok (.istore 5, 2) := by decide +kernel
theorem dX5_law_19 : decode cX5_law 19 = .ok (.aload 4, 2) := by decide +kernel
theorem dX5_law_21 : decode cX5_law 21 = .ok (.iload_n 2, 1) := by decide +kernel
theorem dX5_law_22 : decode cX5_law 22 = .ok (.putfield 77, 3) := by decide +kernel
theorem dX5_law_25 : decode cX5_law 25 = .ok (.aload 4, 2) := by decide +kernel
theorem dX5_law_27 : decode cX5_law 27 = .ok (.iload_n 3, 1) := by decide +kernel
theorem dX5_law_28 : decode cX5_law 28 = .ok (.putfield 80, 3) := by decide +kernel
theorem dX5_law_31 : decode cX5_law 31 = .ok (.iload 5, 2) := by decide +kernel
theorem dX5_law_33 : decode cX5_law 33 = .ok (.ireturn, 1) := by decide +kernel
theorem dX5_gate_0 : decode cX5_gate 0 = .ok (.aload_n 0, 1) := by decide +kernel
theorem dX5_gate_1 : decode cX5_gate 1 = .ok (.iload_n 1, 1) := by decide +kernel
theorem dX5_gate_2 : decode cX5_gate 2 = .ok (.invokevirtual 73, 3) := by decide +kernel
theorem dX5_gate_5 : decode cX5_gate 5 = .ok (.astore 4, 2) := by decide +kernel
theorem dX5_gate_7 : decode cX5_gate 7 = .ok (.iload_n 2, 1) := by decide +kernel
theorem dX5_gate_8 : decode cX5_gate 8 = .ok (.invokestatic 83, 3) := by decide +kernel
theorem dX5_gate_11 : decode cX5_gate 11 = .ok (.aload 4, 2) := by decide +kernel
theorem dX5_gate_13 : decode cX5_gate 13 = .ok (.iload_n 2, 1) := by decide +kernel
theorem dX5_gate_14 : decode cX5_gate 14 = .ok (.invokevirtual 87, 3) := by decide +kernel
theorem dX5_gate_17 : decode cX5_gate 17 = .ok (.istore 5, 2) := by decide +kernel
theorem dX5_gate_19 : decode cX5_gate 19 = .ok (.aload 4, 2) := by decide +kernel
theorem dX5_gate_21 : decode cX5_gate 21 = .ok (.iload_n 2, 1) := by decide +kernel
theorem dX5_gate_22 : decode cX5_gate 22 = .ok (.iload_n 3, 1) := by decide +kernel
theorem dX5_gate_23 : decode cX5_gate 23 = .ok (.invokevirtual 91, 3) := by decide +kernel
theorem dX5_gate_26 : decode cX5_gate 26 = .ok (.iload 5, 2) := by decide +kernel
theorem dX5_gate_28 : decode cX5_gate 28 = .ok (.ireturn, 1) := by decide +kernel
theorem dX5_road_0 : decode cX5_road 0 = .ok (.aload_n 0, 1) := by decide +kernel
theorem dX5_road_1 : decode cX5_road 1 = .ok (.iload_n 1, 1) := by decide +kernel
theorem dX5_road_2 : decode cX5_road 2 = .ok (.invokevirtual 73, 3) := by decide +kernel
theorem dX5_road_5 : decode cX5_road 5 = .ok (.astore 5, 2) := by decide +kernel
theorem dX5_road_7 : decode cX5_road 7 = .ok (.aload_n 0, 1) := by decide +kernel
theorem dX5_road_8 : decode cX5_road 8 = .ok (.iload_n 2, 1) := by decide +kernel
theorem dX5_road_9 : decode cX5_road 9 = .ok (.invokevirtual 73, 3) := by decide +kernel
theorem dX5_road_12 : decode cX5_road 12 = .ok (.astore 6, 2) := by decide +kernel
theorem dX5_road_14 : decode cX5_road 14 = .ok (.iload_n 1, 1) := by decide +kernel
theorem dX5_road_15 : decode cX5_road 15 = .ok (.iload_n 2, 1) := by decide +kernel
theorem dX5_road_16 : decode cX5_road 16 = .ok (.invokestatic 95, 3) := by decide +kernel
theorem dX5_road_19 : decode cX5_road 19 = .ok (.iload_n 3, 1) := by decide +kernel
theorem dX5_road_20 : decode cX5_road 20 = .ok (.iconst 1, 1) := by decide +kernel
theorem dX5_road_21 : decode cX5_road 21 = .ok (.bipush 30, 2) := by decide +kernel
theorem dX5_road_23 : decode cX5_road 23 = .ok (.invokestatic 53, 3) := by decide +kernel
theorem dX5_road_26 : decode cX5_road 26 = .ok (.iload 4, 2) := by decide +kernel
theorem dX5_road_28 : decode cX5_road 28 = .ok (.iconst 0, 1) := by decide +kernel
theorem dX5_road_29 : decode cX5_road 29 = .ok (.bipush 100, 2) := by decide +kernel
theorem dX5_road_31 : decode cX5_road 31 = .ok (.invokestatic 53, 3) := by decide +kernel
theorem dX5_road_34 : decode cX5_road 34 = .ok (.aload 5, 2) := by decide +kernel
theorem dX5_road_36 : decode cX5_road 36 = .ok (.aload 6, 2) := by decide +kernel
theorem dX5_road_38 : decode cX5_road 38 = .ok (.getfield 98, 3) := by decide +kernel
theorem dX5_road_41 : decode cX5_road 41 = .ok (.invokevirtual 101, 3) := by decide +kernel
theorem dX5_road_44 : decode cX5_road 44 = .ok (.istore 7, 2) := by decide +kernel
theorem dX5_road_46 : decode cX5_road 46 = .ok (.aload 5, 2) := by decide +kernel
theorem dX5_road_48 : decode cX5_road 48 = .ok (.aload 6, 2) := by decide +kernel
theorem dX5_road_50 : decode cX5_road 50 = .ok (.getfield 98, 3) := by decide +kernel
theorem dX5_road_53 : decode cX5_road 53 = .ok (.iload_n 3, 1) := by decide +kernel
theorem dX5_road_54 : decode cX5_road 54 = .ok (.iload 4, 2) := by decide +kernel
theorem dX5_road_56 : decode cX5_road 56 = .ok (.invokevirtual 105, 3) := by decide +kernel
theorem dX5_road_59 : decode cX5_road 59 = .ok (.aload 6, 2) := by decide +kernel
theorem dX5_road_61 : decode cX5_road 61 = .ok (.aload 5, 2) := by decide +kernel
theorem dX5_road_63 : decode cX5_road 63 = .ok (.getfield 98, 3) := by decide +kernel
theorem dX5_road_66 : decode cX5_road 66 = .ok (.iload_n 3, 1) := by decide +kernel
theorem dX5_road_67 : decode cX5_road 67 = .ok (.iload 4, 2) := by decide +kernel
theorem dX5_road_69 : decode cX5_road 69 = .ok (.invokevirtual 105, 3) := by decide +kernel
theorem dX5_road_72 : decode cX5_road 72 = .ok (.iload 7, 2) := by decide +kernel
theorem dX5_road_74 : decode cX5_road 74 = .ok (.ireturn, 1) := by decide +kernel
theorem dX5_mine_0 : decode cX5_mine 0 = .ok (.aload_n 0, 1) := by decide +kernel
theorem dX5_mine_1 : decode cX5_mine 1 = .ok (.iload_n 1, 1) := by decide +kernel
theorem dX5_mine_2 : decode cX5_mine 2 = .ok (.invokevirtual 73, 3) := by decide +kernel
theorem dX5_mine_5 : decode cX5_mine 5 = .ok (.getfield 108, 3) := by decide +kernel
theorem dX5_mine_8 : decode cX5_mine 8 = .ok (.astore 4, 2) := by decide +kernel
theorem dX5_mine_10 : decode cX5_mine 10 = .ok (.iload_n 2, 1) := by decide +kernel
theorem dX5_mine_11 : decode cX5_mine 11 = .ok (.invokestatic 83, 3) := by decide +kernel
theorem dX5_mine_14 : decode cX5_mine 14 = .ok (.iload_n 3, 1) := by decide +kernel
theorem dX5_mine_15 : decode cX5_mine 15 = .ok (.iconst 1, 1) := by decide +kernel
theorem dX5_mine_16 : decode cX5_mine 16 = .ok (.ldc 52, 2) := by decide +kernel
theorem dX5_mine_18 : decode cX5_mine 18 = .ok (.invokestatic 53, 3) := by decide +kernel
theorem dX5_mine_21 : decode cX5_mine 21 = .ok (.aload 4, 2) := by decide +kernel
theorem dX5_mine_23 : decode cX5_mine 23 = .ok (.iload_n 2, 1) := by decide +kernel
theorem dX5_mine_24 : decode cX5_mine 24 = .ok (.invokevirtual 111, 3) := by decide +kernel
theorem dX5_mine_27 : decode cX5_mine 27 = .ok (.ldc 114, 2) := by decide +kernel
theorem dX5_mine_29 : decode cX5_mine 29 = .ok (.iload_n 3, 1) := by decide +kernel
theorem dX5_mine_30 : decode cX5_mine 30 = .ok (.isub, 1) := by decide +kernel
theorem dX5_mine_31 : decode cX5_mine 31 = .ok (.if_icmp .le 13, 3) := by decide +kernel
theorem dX5_mine_34 : decode cX5_mine 34 = .ok (.new 60, 3) := by decide +kernel
theorem dX5_mine_37 : decode cX5_mine 37 = .ok (.dup, 1) := by decide +kernel
theorem dX5_mine_38 : decode cX5_mine 38 = .ok (.ldc 115, 2) := by decide +kernel
theorem dX5_mine_40 : decode cX5_mine 40 = .ok (.invokespecial 64, 3) := by decide +kernel
theorem dX5_mine_43 : decode cX5_mine 43 = .ok (.athrow, 1) := by decide +kernel
theorem dX5_mine_44 : decode cX5_mine 44 = .ok (.aload 4, 2) := by decide +kernel
theorem dX5_mine_46 : decode cX5_mine 46 = .ok (.iload_n 2, 1) := by decide +kernel
theorem dX5_mine_47 : decode cX5_mine 47 = .ok (.iload_n 3, 1) := by decide +kernel
theorem dX5_mine_48 : decode cX5_mine 48 = .ok (.invokevirtual 70, 3) := by decide +kernel
theorem dX5_mine_51 : decode cX5_mine 51 = .ok (.aload_n 0, 1) := by decide +kernel
theorem dX5_mine_52 : decode cX5_mine 52 = .ok (.getfield 46, 3) := by decide +kernel
theorem dX5_mine_55 : decode cX5_mine 55 = .ok (.iload_n 2, 1) := by decide +kernel
theorem dX5_mine_56 : decode cX5_mine 56 = .ok (.iload_n 3, 1) := by decide +kernel
theorem dX5_mine_57 : decode cX5_mine 57 = .ok (.invokevirtual 70, 3) := by decide +kernel
theorem dX5_mine_60 : decode cX5_mine 60 = .ok (.aload 4, 2) := by decide +kernel
theorem dX5_mine_62 : decode cX5_mine 62 = .ok (.iload_n 2, 1) := by decide +kernel
theorem dX5_mine_63 : decode cX5_mine 63 = .ok (.invokevirtual 111, 3) := by decide +kernel
theorem dX5_mine_66 : decode cX5_mine 66 = .ok (.ireturn, 1) := by decide +kernel
theorem dX5_use_0 : decode cX5_use 0 = .ok (.aload_n 0, 1) := by decide +kernel
theorem dX5_use_1 : decode cX5_use 1 = .ok (.iload_n 1, 1) := by decide +kernel
theorem dX5_use_2 : decode cX5_use 2 = .ok (.invokevirtual 73, 3) := by decide +kernel
theorem dX5_use_5 : decode cX5_use 5 = .ok (.getfield 108, 3) := by decide +kernel
theorem dX5_use_8 : decode cX5_use 8 = .ok (.astore 4, 2) := by decide +kernel
theorem dX5_use_10 : decode cX5_use 10 = .ok (.iload_n 2, 1) := by decide +kernel
theorem dX5_use_11 : decode cX5_use 11 = .ok (.invokestatic 83, 3) := by decide +kernel
theorem dX5_use_14 : decode cX5_use 14 = .ok (.iload_n 3, 1) := by decide +kernel
theorem dX5_use_15 : decode cX5_use 15 = .ok (.iconst 1, 1) := by decide +kernel
theorem dX5_use_16 : decode cX5_use 16 = .ok (.ldc 52, 2) := by decide +kernel
theorem dX5_use_18 : decode cX5_use 18 = .ok (.invokestatic 53, 3) := by decide +kernel
theorem dX5_use_21 : decode cX5_use 21 = .ok (.aload 4, 2) := by decide +kernel
theorem dX5_use_23 : decode cX5_use 23 = .ok (.iload_n 2, 1) := by decide +kernel
theorem dX5_use_24 : decode cX5_use 24 = .ok (.invokevirtual 111, 3) := by decide +kernel
theorem dX5_use_27 : decode cX5_use 27 = .ok (.iload_n 3, 1) := by decide +kernel
theorem dX5_use_28 : decode cX5_use 28 = .ok (.if_icmp .ge 13, 3) := by decide +kernel
theorem dX5_use_31 : decode cX5_use 31 = .ok (.new 60, 3) := by decide +kernel
theorem dX5_use_34 : decode cX5_use 34 = .ok (.dup, 1) := by decide +kernel
theorem dX5_use_35 : decode cX5_use 35 = .ok (.ldc 117, 2) := by decide +kernel
theorem dX5_use_37 : decode cX5_use 37 = .ok (.invokespecial 64, 3) := by decide +kernel
theorem dX5_use_40 : decode cX5_use 40 = .ok (.athrow, 1) := by decide +kernel
theorem dX5_use_41 : decode cX5_use 41 = .ok (.aload 4, 2) := by decide +kernel
theorem dX5_use_43 : decode cX5_use 43 = .ok (.iload_n 2, 1) := by decide +kernel
theorem dX5_use_44 : decode cX5_use 44 = .ok (.iload_n 3, 1) := by decide +kernel
theorem dX5_use_45 : decode cX5_use 45 = .ok (.ineg, 1) := by decide +kernel
theorem dX5_use_46 : decode cX5_use 46 = .ok (.invokevirtual 70, 3) := by decide +kernel
theorem dX5_use_49 : decode cX5_use 49 = .ok (.aload_n 0, 1) := by decide +kernel
theorem dX5_use_50 : decode cX5_use 50 = .ok (.getfield 40, 3) := by decide +kernel
theorem dX5_use_53 : decode cX5_use 53 = .ok (.iload_n 2, 1) := by decide +kernel
theorem dX5_use_54 : decode cX5_use 54 = .ok (.iload_n 3, 1) := by decide +kernel
theorem dX5_use_55 : decode cX5_use 55 = .ok (.invokevirtual 70, 3) := by decide +kernel
theorem dX5_use_58 : decode cX5_use 58 = .ok (.aload 4, 2) := by decide +kernel
theorem dX5_use_60 : decode cX5_use 60 = .ok (.iload_n 2, 1) := by decide +kernel
theorem dX5_use_61 : decode cX5_use 61 = .ok (.invokevirtual 111, 3) := by decide +kernel
theorem dX5_use_64 : decode cX5_use 64 = .ok (.ireturn, 1) := by decide +kernel
theorem dX5_house_0 : decode cX5_house 0 = .ok (.aload_n 0, 1) := by decide +kernel
theorem dX5_house_1 : decode cX5_house 1 = .ok (.iload_n 1, 1) := by decide +kernel
theorem dX5_house_2 : decode cX5_house 2 = .ok (.invokevirtual 73, 3) := by decide +kernel
theorem dX5_house_5 : decode cX5_house 5 = .ok (.astore 4, 2) := by decide +kernel
theorem dX5_house_7 : decode cX5_house 7 = .ok (.iload_n 2, 1) := by decide +kernel
theorem dX5_house_8 : decode cX5_house 8 = .ok (.iconst 0, 1) := by decide +kernel
theorem dX5_house_9 : decode cX5_house 9 = .ok (.ldc 52, 2) := by decide +kernel
theorem dX5_house_11 : decode cX5_house 11 = .ok (.invokestatic 53, 3) := by decide +kernel
theorem dX5_house_14 : decode cX5_house 14 = .ok (.iload_n 3, 1) := by decide +kernel
theorem dX5_house_15 : decode cX5_house 15 = .ok (.iconst 0, 1) := by decide +kernel
theorem dX5_house_16 : decode cX5_house 16 = .ok (.ldc 52, 2) := by decide +kernel
theorem dX5_house_18 : decode cX5_house 18 = .ok (.invokestatic 53, 3) := by decide +kernel
theorem dX5_house_21 : decode cX5_house 21 = .ok (.aload_n 0, 1) := by decide +kernel
theorem dX5_house_22 : decode cX5_house 22 = .ok (.getfield 119, 3) := by decide +kernel
theorem dX5_house_25 : decode cX5_house 25 = .ok (.aload_n 0, 1) := by decide +kernel
theorem dX5_house_26 : decode cX5_house 26 = .ok (.getfield 21, 3) := by decide +kernel
theorem dX5_house_29 : decode cX5_house 29 = .ok (.arraylength, 1) := by decide +kernel
theorem dX5_house_30 : decode cX5_house 30 = .ok (.if_icmp .lt 13, 3) := by decide +kernel
theorem dX5_house_33 : decode cX5_house 33 = .ok (.new 60, 3) := by decide +kernel
theorem dX5_house_36 : decode cX5_house 36 = .ok (.dup, 1) := by decide +kernel
theorem dX5_house_37 : decode cX5_house 37 = .ok (.ldc 122, 2) := by decide +kernel
theorem dX5_house_39 : decode cX5_house 39 = .ok (.invokespecial 64, 3) := by decide +kernel
theorem dX5_house_42 : decode cX5_house 42 = .ok (.athrow, 1) := by decide +kernel
theorem dX5_house_43 : decode cX5_house 43 = .ok (.aload_n 0, 1) := by decide +kernel
theorem dX5_house_44 : decode cX5_house 44 = .ok (.getfield 119, 3) := by decide +kernel
theorem dX5_house_47 : decode cX5_house 47 = .ok (.istore 5, 2) := by decide +kernel
theorem dX5_house_49 : decode cX5_house 49 = .ok (.aload_n 0, 1) := by decide +kernel
theorem dX5_house_50 : decode cX5_house 50 = .ok (.getfield 21, 3) := by decide +kernel
theorem dX5_house_53 : decode cX5_house 53 = .ok (.iload 5, 2) := by decide +kernel
theorem dX5_house_55 : decode cX5_house 55 = .ok (.new 19, 3) := by decide +kernel
theorem dX5_house_58 : decode cX5_house 58 = .ok (.dup, 1) := by decide +kernel
theorem dX5_house_59 : decode cX5_house 59 = .ok (.iload 5, 2) := by decide +kernel
theorem dX5_house_61 : decode cX5_house 61 = .ok (.aload 4, 2) := by decide +kernel
theorem dX5_house_63 : decode cX5_house 63 = .ok (.new 31, 3) := by decide +kernel
theorem dX5_house_66 : decode cX5_house 66 = .ok (.dup, 1) := by decide +kernel
theorem dX5_house_67 : decode cX5_house 67 = .ok (.iload_n 2, 1) := by decide +kernel
theorem dX5_house_68 : decode cX5_house 68 = .ok (.iload_n 3, 1) := by decide +kernel
theorem dX5_house_69 : decode cX5_house 69 = .ok (.invokespecial 33, 3) := by decide +kernel
theorem dX5_house_72 : decode cX5_house 72 = .ok (.invokespecial 124, 3) := by decide +kernel
theorem dX5_house_75 : decode cX5_house 75 = .ok (.aastore, 1) := by decide +kernel
theorem dX5_house_76 : decode cX5_house 76 = .ok (.aload_n 0, 1) := by decide +kernel
theorem dX5_house_77 : decode cX5_house 77 = .ok (.iload 5, 2) := by decide +kernel
theorem dX5_house_79 : decode cX5_house 79 = .ok (.iconst 1, 1) := by decide +kernel
theorem dX5_house_80 : decode cX5_house 80 = .ok (.iadd, 1) := by decide +kernel
theorem dX5_house_81 : decode cX5_house 81 = .ok (.putfield 119, 3) := by decide +kernel
theorem dX5_house_84 : decode cX5_house 84 = .ok (.aload_n 0, 1) := by decide +kernel
theorem dX5_house_85 : decode cX5_house 85 = .ok (.getfield 46, 3) := by decide +kernel
theorem dX5_house_88 : decode cX5_house 88 = .ok (.iconst 0, 1) := by decide +kernel
theorem dX5_house_89 : decode cX5_house 89 = .ok (.iload_n 2, 1) := by decide +kernel
theorem dX5_house_90 : decode cX5_house 90 = .ok (.invokevirtual 70, 3) := by decide +kernel
theorem dX5_house_93 : decode cX5_house 93 = .ok (.aload_n 0, 1) := by decide +kernel
theorem dX5_house_94 : decode cX5_house 94 = .ok (.getfield 46, 3) := by decide +kernel
theorem dX5_house_97 : decode cX5_house 97 = .ok (.iconst 1, 1) := by decide +kernel
theorem dX5_house_98 : decode cX5_house 98 = .ok (.iload_n 3, 1) := by decide +kernel
theorem dX5_house_99 : decode cX5_house 99 = .ok (.invokevirtual 70, 3) := by decide +kernel
theorem dX5_house_102 : decode cX5_house 102 = .ok (.iload 5, 2) := by decide +kernel
theorem dX5_house_104 : decode cX5_house 104 = .ok (.ireturn, 1) := by decide +kernel
theorem dX5_change_0 : decode cX5_change 0 = .ok (.aload_n 0, 1) := by decide +kernel
theorem dX5_change_1 : decode cX5_change 1 = .ok (.iload_n 1, 1) := by decide +kernel
theorem dX5_change_2 : decode cX5_change 2 = .ok (.invokevirtual 127, 3) := by decide +kernel
theorem dX5_change_5 : decode cX5_change 5 = .ok (.astore 4, 2) := by decide +kernel
theorem dX5_change_7 : decode cX5_change 7 = .ok (.iload_n 2, 1) := by decide +kernel
theorem dX5_change_8 : decode cX5_change 8 = .ok (.invokestatic 83, 3) := by decide +kernel
theorem dX5_change_11 : decode cX5_change 11 = .ok (.iload_n 3, 1) := by decide +kernel
theorem dX5_change_12 : decode cX5_change 12 = .ok (.iconst 1, 1) := by decide +kernel
theorem dX5_change_13 : decode cX5_change 13 = .ok (.ldc 52, 2) := by decide +kernel
theorem dX5_change_15 : decode cX5_change 15 = .ok (.invokestatic 53, 3) := by decide +kernel
theorem dX5_change_18 : decode cX5_change 18 = .ok (.aload 4, 2) := by decide +kernel
theorem dX5_change_20 : decode cX5_change 20 = .ok (.getfield 131, 3) := by decide +kernel
theorem dX5_change_23 : decode cX5_change 23 = .ok (.astore 5, 2) := by decide +kernel
theorem dX5_change_25 : decode cX5_change 25 = .ok (.aload 5, 2) := by decide +kernel
theorem dX5_change_27 : decode cX5_change 27 = .ok (.ifnull 16, 3) := by decide +kernel
theorem dX5_change_30 : decode cX5_change 30 = .ok (.aload 4, 2) := by decide +kernel
theorem dX5_change_32 : decode cX5_change 32 = .ok (.getfield 135, 3) := by decide +kernel
theorem dX5_change_35 : decode cX5_change 35 = .ok (.iload_n 2, 1) := by decide +kernel
theorem dX5_change_36 : decode cX5_change 36 = .ok (.invokevirtual 111, 3) := by decide +kernel
theorem dX5_change_39 : decode cX5_change 39 = .ok (.iload_n 3, 1) := by decide +kernel
theorem dX5_change_40 : decode cX5_change 40 = .ok (.if_icmp .ge 13, 3) := by decide +kernel
theorem dX5_change_43 : decode cX5_change 43 = .ok (.new 60, 3) := by decide +kernel
theorem dX5_change_46 : decode cX5_change 46 = .ok (.dup, 1) := by decide +kernel
theorem dX5_change_47 : decode cX5_change 47 = .ok (.ldc 138, 2) := by decide +kernel
theorem dX5_change_49 : decode cX5_change 49 = .ok (.invokespecial 64, 3) := by decide +kernel
theorem dX5_change_52 : decode cX5_change 52 = .ok (.athrow, 1) := by decide +kernel
theorem dX5_change_53 : decode cX5_change 53 = .ok (.aload 5, 2) := by decide +kernel
theorem dX5_change_55 : decode cX5_change 55 = .ok (.iload_n 2, 1) := by decide +kernel
theorem dX5_change_56 : decode cX5_change 56 = .ok (.iload_n 3, 1) := by decide +kernel
theorem dX5_change_57 : decode cX5_change 57 = .ok (.invokevirtual 140, 3) := by decide +kernel
theorem dX5_change_60 : decode cX5_change 60 = .ok (.istore 6, 2) := by decide +kernel
theorem dX5_change_62 : decode cX5_change 62 = .ok (.iload_n 2, 1) := by decide +kernel
theorem dX5_change_63 : decode cX5_change 63 = .ok (.invokestatic 144, 3) := by decide +kernel
theorem dX5_change_66 : decode cX5_change 66 = .ok (.istore 7, 2) := by decide +kernel
theorem dX5_change_68 : decode cX5_change 68 = .ok (.aload 5, 2) := by decide +kernel
theorem dX5_change_70 : decode cX5_change 70 = .ok (.iload_n 2, 1) := by decide +kernel
theorem dX5_change_71 : decode cX5_change 71 = .ok (.invokevirtual 87, 3) := by decide +kernel
theorem dX5_change_74 : decode cX5_change 74 = .ok (.ifCond .eq 18, 3) := by decide +kernel
theorem dX5_change_77 : decode cX5_change 77 = .ok (.aload 5, 2) := by decide +kernel
theorem dX5_change_79 : decode cX5_change 79 = .ok (.getfield 108, 3) := by decide +kernel
theorem dX5_change_82 : decode cX5_change 82 = .ok (.iload 7, 2) := by decide +kernel
theorem dX5_change_84 : decode cX5_change 84 = .ok (.invokevirtual 111, 3) := by decide +kernel
theorem dX5_change_87 : decode cX5_change 87 = .ok (.iload 6, 2) := by decide +kernel
theorem dX5_change_89 : decode cX5_change 89 = .ok (.if_icmp .ge 13, 3) := by decide +kernel
theorem dX5_change_92 : decode cX5_change 92 = .ok (.new 60, 3) := by decide +kernel
theorem dX5_change_95 : decode cX5_change 95 = .ok (.dup, 1) := by decide +kernel
theorem dX5_change_96 : decode cX5_change 96 = .ok (.ldc 147, 2) := by decide +kernel
theorem dX5_change_98 : decode cX5_change 98 = .ok (.invokespecial 64, 3) := by decide +kernel
theorem dX5_change_101 : decode cX5_change 101 = .ok (.athrow, 1) := by decide +kernel
theorem dX5_change_102 : decode cX5_change 102 = .ok (.aload 4, 2) := by decide +kernel
theorem dX5_change_104 : decode cX5_change 104 = .ok (.getfield 135, 3) := by decide +kernel
theorem dX5_change_107 : decode cX5_change 107 = .ok (.iload_n 2, 1) := by decide +kernel
theorem dX5_change_108 : decode cX5_change 108 = .ok (.iload_n 3, 1) := by decide +kernel
theorem dX5_change_109 : decode cX5_change 109 = .ok (.ineg, 1) := by decide +kernel
theorem dX5_change_110 : decode cX5_change 110 = .ok (.invokevirtual 70, 3) := by decide +kernel
theorem dX5_change_113 : decode cX5_change 113 = .ok (.aload 5, 2) := by decide +kernel
theorem dX5_change_115 : decode cX5_change 115 = .ok (.getfield 108, 3) := by decide +kernel
theorem dX5_change_118 : decode cX5_change 118 = .ok (.iload_n 2, 1) := by decide +kernel
theorem dX5_change_119 : decode cX5_change 119 = .ok (.iload_n 3, 1) := by decide +kernel
theorem dX5_change_120 : decode cX5_change 120 = .ok (.invokevirtual 70, 3) := by decide +kernel
theorem dX5_change_123 : decode cX5_change 123 = .ok (.aload 5, 2) := by decide +kernel
theorem dX5_change_125 : decode cX5_change 125 = .ok (.getfield 108, 3) := by decide +kernel
theorem dX5_change_128 : decode cX5_change 128 = .ok (.iload 7, 2) := by decide +kernel
theorem dX5_change_130 : decode cX5_change 130 = .ok (.iload 6, 2) := by decide +kernel
theorem dX5_change_132 : decode cX5_change 132 = .ok (.ineg, 1) := by decide +kernel
theorem dX5_change_133 : decode cX5_change 133 = .ok (.invokevirtual 70, 3) := by decide +kernel
theorem dX5_change_136 : decode cX5_change 136 = .ok (.aload 4, 2) := by decide +kernel
theorem dX5_change_138 : decode cX5_change 138 = .ok (.getfield 135, 3) := by decide +kernel
theorem dX5_change_141 : decode cX5_change 141 = .ok (.iload 7, 2) := by decide +kernel
theorem dX5_change_143 : decode cX5_change 143 = .ok (.iload 6, 2) := by decide +kernel
theorem dX5_change_145 : decode cX5_change 145 = .ok (.invokevirtual 70, 3) := by decide +kernel
theorem dX5_change_148 : decode cX5_change 148 = .ok (.iload 6, 2) := by decide +kernel
theorem dX5_change_150 : decode cX5_change 150 = .ok (.ireturn, 1) := by decide +kernel
theorem dX5_send_0 : decode cX5_send 0 = .ok (.aload_n 0, 1) := by decide +kernel
theorem dX5_send_1 : decode cX5_send 1 = .ok (.iload_n 1, 1) := by decide +kernel
theorem dX5_send_2 : decode cX5_send 2 = .ok (.invokevirtual 127, 3) := by decide +kernel
theorem dX5_send_5 : decode cX5_send 5 = .ok (.astore_n 3, 1) := by decide +kernel
theorem dX5_send_6 : decode cX5_send 6 = .ok (.aload_n 0, 1) := by decide +kernel
theorem dX5_send_7 : decode cX5_send 7 = .ok (.iload_n 2, 1) := by decide +kernel
theorem dX5_send_8 : decode cX5_send 8 = .ok (.invokevirtual 73, 3) := by decide +kernel
theorem dX5_send_11 : decode cX5_send 11 = .ok (.astore 4, 2) := by decide +kernel
theorem dX5_send_13 : decode cX5_send 13 = .ok (.aload_n 3, 1) := by decide +kernel
theorem dX5_send_14 : decode cX5_send 14 = .ok (.getfield 131, 3) := by decide +kernel
theorem dX5_send_17 : decode cX5_send 17 = .ok (.astore 5, 2) := by decide +kernel
theorem dX5_send_19 : decode cX5_send 19 = .ok (.aload 5, 2) := by decide +kernel
theorem dX5_send_21 : decode cX5_send 21 = .ok (.ifnull 10, 3) := by decide +kernel
theorem dX5_send_24 : decode cX5_send 24 = .ok (.aload 5, 2) := by decide +kernel
theorem dX5_send_26 : decode cX5_send 26 = .ok (.aload 4, 2) := by decide +kernel
theorem dX5_send_28 : decode cX5_send 28 = .ok (.if_acmp .ne 13, 3) := by decide +kernel
theorem dX5_send_31 : decode cX5_send 31 = .ok (.new 60, 3) := by decide +kernel
theorem dX5_send_34 : decode cX5_send 34 = .ok (.dup, 1) := by decide +kernel
theorem dX5_send_35 : decode cX5_send 35 = .ok (.ldc 149, 2) := by decide +kernel
theorem dX5_send_37 : decode cX5_send 37 = .ok (.invokespecial 64, 3) := by decide +kernel
theorem dX5_send_40 : decode cX5_send 40 = .ok (.athrow, 1) := by decide +kernel
theorem dX5_send_41 : decode cX5_send 41 = .ok (.aload_n 0, 1) := by decide +kernel
theorem dX5_send_42 : decode cX5_send 42 = .ok (.aload_n 3, 1) := by decide +kernel
theorem dX5_send_43 : decode cX5_send 43 = .ok (.getfield 135, 3) := by decide +kernel
theorem dX5_send_46 : decode cX5_send 46 = .ok (.iconst 0, 1) := by decide +kernel
theorem dX5_send_47 : decode cX5_send 47 = .ok (.aload 5, 2) := by decide +kernel
theorem dX5_send_49 : decode cX5_send 49 = .ok (.aload 4, 2) := by decide +kernel
theorem dX5_send_51 : decode cX5_send 51 = .ok (.getfield 98, 3) := by decide +kernel
theorem dX5_send_54 : decode cX5_send 54 = .ok (.invokevirtual 151, 3) := by decide +kernel
theorem dX5_send_57 : decode cX5_send 57 = .ok (.invokevirtual 154, 3) := by decide +kernel
theorem dX5_send_60 : decode cX5_send 60 = .ok (.aload_n 0, 1) := by decide +kernel
theorem dX5_send_61 : decode cX5_send 61 = .ok (.aload_n 3, 1) := by decide +kernel
theorem dX5_send_62 : decode cX5_send 62 = .ok (.getfield 135, 3) := by decide +kernel
theorem dX5_send_65 : decode cX5_send 65 = .ok (.iconst 1, 1) := by decide +kernel
theorem dX5_send_66 : decode cX5_send 66 = .ok (.aload 5, 2) := by decide +kernel
theorem dX5_send_68 : decode cX5_send 68 = .ok (.aload 4, 2) := by decide +kernel
theorem dX5_send_70 : decode cX5_send 70 = .ok (.getfield 98, 3) := by decide +kernel
theorem dX5_send_73 : decode cX5_send 73 = .ok (.invokevirtual 151, 3) := by decide +kernel
theorem dX5_send_76 : decode cX5_send 76 = .ok (.invokevirtual 154, 3) := by decide +kernel
theorem dX5_send_79 : decode cX5_send 79 = .ok (.aload_n 3, 1) := by decide +kernel
theorem dX5_send_80 : decode cX5_send 80 = .ok (.aload 4, 2) := by decide +kernel
theorem dX5_send_82 : decode cX5_send 82 = .ok (.aload_n 0, 1) := by decide +kernel
theorem dX5_send_83 : decode cX5_send 83 = .ok (.getfield 158, 3) := by decide +kernel
theorem dX5_send_86 : decode cX5_send 86 = .ok (.aload 5, 2) := by decide +kernel
theorem dX5_send_88 : decode cX5_send 88 = .ok (.aload 4, 2) := by decide +kernel
theorem dX5_send_90 : decode cX5_send 90 = .ok (.getfield 98, 3) := by decide +kernel
theorem dX5_send_93 : decode cX5_send 93 = .ok (.invokevirtual 101, 3) := by decide +kernel
theorem dX5_send_96 : decode cX5_send 96 = .ok (.iadd, 1) := by decide +kernel
theorem dX5_send_97 : decode cX5_send 97 = .ok (.invokevirtual 161, 3) := by decide +kernel
theorem dX5_send_100 : decode cX5_send 100 = .ok (.aload_n 3, 1) := by decide +kernel
theorem dX5_send_101 : decode cX5_send 101 = .ok (.getfield 165, 3) := by decide +kernel
theorem dX5_send_104 : decode cX5_send 104 = .ok (.ireturn, 1) := by decide +kernel
theorem dX5_payFreight_0 : decode cX5_payFreight 0 = .ok (.aload_n 1, 1) := by decide +kernel
theorem dX5_payFreight_1 : decode cX5_payFreight 1 = .ok (.iload_n 2, 1) := by decide +kernel
theorem dX5_payFreight_2 : decode cX5_payFreight 2 = .ok (.invokevirtual 111, 3) := by decide +kernel
theorem dX5_payFreight_5 : decode cX5_payFreight 5 = .ok (.iload_n 3, 1) := by decide +kernel
theorem dX5_payFreight_6 : decode cX5_payFreight 6 = .ok (.invokestatic 168, 3) := by decide +kernel
theorem dX5_payFreight_9 : decode cX5_payFreight 9 = .ok (.istore 4, 2) := by decide +kernel
theorem dX5_payFreight_11 : decode cX5_payFreight 11 = .ok (.aload_n 1, 1) := by decide +kernel
theorem dX5_payFreight_12 : decode cX5_payFreight 12 = .ok (.iload_n 2, 1) := by decide +kernel
theorem dX5_payFreight_13 : decode cX5_payFreight 13 = .ok (.iload 4, 2) := by decide +kernel
theorem dX5_payFreight_15 : decode cX5_payFreight 15 = .ok (.ineg, 1) := by decide +kernel
theorem dX5_payFreight_16 : decode cX5_payFreight 16 = .ok (.invokevirtual 70, 3) := by decide +kernel
theorem dX5_payFreight_19 : decode cX5_payFreight 19 = .ok (.aload_n 0, 1) := by decide +kernel
theorem dX5_payFreight_20 : decode cX5_payFreight 20 = .ok (.getfield 36, 3) := by decide +kernel
theorem dX5_payFreight_23 : decode cX5_payFreight 23 = .ok (.iload_n 2, 1) := by decide +kernel
theorem dX5_payFreight_24 : decode cX5_payFreight 24 = .ok (.iload 4, 2) := by decide +kernel
theorem dX5_payFreight_26 : decode cX5_payFreight 26 = .ok (.invokevirtual 70, 3) := by decide +kernel
theorem dX5_payFreight_29 : decode cX5_payFreight 29 = .ok (.return_, 1) := by decide +kernel
theorem dX5_pass_0 : decode cX5_pass 0 = .ok (.iload_n 1, 1) := by decide +kernel
theorem dX5_pass_1 : decode cX5_pass 1 = .ok (.iconst 1, 1) := by decide +kernel
theorem dX5_pass_2 : decode cX5_pass 2 = .ok (.sipush 400, 3) := by decide +kernel
theorem dX5_pass_5 : decode cX5_pass 5 = .ok (.invokestatic 53, 3) := by decide +kernel
theorem dX5_pass_8 : decode cX5_pass 8 = .ok (.aload_n 0, 1) := by decide +kernel
theorem dX5_pass_9 : decode cX5_pass 9 = .ok (.getfield 158, 3) := by decide +kernel
theorem dX5_pass_12 : decode cX5_pass 12 = .ok (.sipush 3000, 3) := by decide +kernel
theorem dX5_pass_15 : decode cX5_pass 15 = .ok (.iload_n 1, 1) := by decide +kernel
theorem dX5_pass_16 : decode cX5_pass 16 = .ok (.isub, 1) := by decide +kernel
theorem dX5_pass_17 : decode cX5_pass 17 = .ok (.if_icmp .le 13, 3) := by decide +kernel
theorem dX5_pass_20 : decode cX5_pass 20 = .ok (.new 60, 3) := by decide +kernel
theorem dX5_pass_23 : decode cX5_pass 23 = .ok (.dup, 1) := by decide +kernel
theorem dX5_pass_24 : decode cX5_pass 24 = .ok (.ldc 171, 2) := by decide +kernel
theorem dX5_pass_26 : decode cX5_pass 26 = .ok (.invokespecial 64, 3) := by decide +kernel
theorem dX5_pass_29 : decode cX5_pass 29 = .ok (.athrow, 1) := by decide +kernel
theorem dX5_pass_30 : decode cX5_pass 30 = .ok (.iconst 0, 1) := by decide +kernel
theorem dX5_pass_31 : decode cX5_pass 31 = .ok (.istore_n 2, 1) := by decide +kernel
theorem dX5_pass_32 : decode cX5_pass 32 = .ok (.iload_n 2, 1) := by decide +kernel
theorem dX5_pass_33 : decode cX5_pass 33 = .ok (.iload_n 1, 1) := by decide +kernel
theorem dX5_pass_34 : decode cX5_pass 34 = .ok (.if_icmp .ge 13, 3) := by decide +kernel
theorem dX5_pass_37 : decode cX5_pass 37 = .ok (.aload_n 0, 1) := by decide +kernel
theorem dX5_pass_38 : decode cX5_pass 38 = .ok (.invokevirtual 173, 3) := by decide +kernel
theorem dX5_pass_41 : decode cX5_pass 41 = .ok (.iinc 2 1, 3) := by decide +kernel
theorem dX5_pass_44 : decode cX5_pass 44 = .ok (.goto (-12), 3) := by decide +kernel
theorem dX5_pass_47 : decode cX5_pass 47 = .ok (.aload_n 0, 1) := by decide +kernel
theorem dX5_pass_48 : decode cX5_pass 48 = .ok (.getfield 158, 3) := by decide +kernel
theorem dX5_pass_51 : decode cX5_pass 51 = .ok (.ireturn, 1) := by decide +kernel
theorem dX5_beginDay_0 : decode cX5_beginDay 0 = .ok (.aload_n 0, 1) := by decide +kernel
theorem dX5_beginDay_1 : decode cX5_beginDay 1 = .ok (.dup, 1) := by decide +kernel
theorem dX5_beginDay_2 : decode cX5_beginDay 2 = .ok (.getfield 158, 3) := by decide +kernel
theorem dX5_beginDay_5 : decode cX5_beginDay 5 = .ok (.iconst 1, 1) := by decide +kernel
theorem dX5_beginDay_6 : decode cX5_beginDay 6 = .ok (.iadd, 1) := by decide +kernel
theorem dX5_beginDay_7 : decode cX5_beginDay 7 = .ok (.putfield 158, 3) := by decide +kernel
theorem dX5_beginDay_10 : decode cX5_beginDay 10 = .ok (.aload_n 0, 1) := by decide +kernel
theorem dX5_beginDay_11 : decode cX5_beginDay 11 = .ok (.getfield 21, 3) := by decide +kernel
theorem dX5_beginDay_14 : decode cX5_beginDay 14 = .ok (.astore_n 1, 1) := by decide +kernel
theorem dX5_beginDay_15 : decode cX5_beginDay 15 = .ok (.aload_n 1, 1) := by decide +kernel
theorem dX5_beginDay_16 : decode cX5_beginDay 16 = .ok (.arraylength, 1) := by decide +kernel
theorem dX5_beginDay_17 : decode cX5_beginDay 17 = .ok (.istore_n 2, 1) := by decide +kernel
theorem dX5_beginDay_18 : decode cX5_beginDay 18 = .ok (.iconst 0, 1) := by decide +kernel
theorem dX5_beginDay_19 : decode cX5_beginDay 19 = .ok (.istore_n 3, 1) := by decide +kernel
theorem dX5_beginDay_20 : decode cX5_beginDay 20 = .ok (.iload_n 3, 1) := by decide +kernel
theorem dX5_beginDay_21 : decode cX5_beginDay 21 = .ok (.iload_n 2, 1) := by decide +kernel
theorem dX5_beginDay_22 : decode cX5_beginDay 22 = .ok (.if_icmp .ge 28, 3) := by decide +kernel
theorem dX5_beginDay_25 : decode cX5_beginDay 25 = .ok (.aload_n 1, 1) := by decide +kernel
theorem dX5_beginDay_26 : decode cX5_beginDay 26 = .ok (.iload_n 3, 1) := by decide +kernel
theorem dX5_beginDay_27 : decode cX5_beginDay 27 = .ok (.aaload, 1) := by decide +kernel
theorem dX5_beginDay_28 : decode cX5_beginDay 28 = .ok (.astore 4, 2) := by decide +kernel
theorem dX5_beginDay_30 : decode cX5_beginDay 30 = .ok (.aload 4, 2) := by decide +kernel
theorem dX5_beginDay_32 : decode cX5_beginDay 32 = .ok (.ifnull 12, 3) := by decide +kernel
theorem dX5_beginDay_35 : decode cX5_beginDay 35 = .ok (.aload 4, 2) := by decide +kernel
theorem dX5_beginDay_37 : decode cX5_beginDay 37 = .ok (.aload_n 0, 1) := by decide +kernel
theorem dX5_beginDay_38 : decode cX5_beginDay 38 = .ok (.getfield 158, 3) := by decide +kernel
theorem dX5_beginDay_41 : decode cX5_beginDay 41 = .ok (.invokevirtual 176, 3) := by decide +kernel
theorem dX5_beginDay_44 : decode cX5_beginDay 44 = .ok (.iinc 3 1, 3) := by decide +kernel
theorem dX5_beginDay_47 : decode cX5_beginDay 47 = .ok (.goto (-27), 3) := by decide +kernel
theorem dX5_beginDay_50 : decode cX5_beginDay 50 = .ok (.aload_n 0, 1) := by decide +kernel
theorem dX5_beginDay_51 : decode cX5_beginDay 51 = .ok (.getfield 158, 3) := by decide +kernel
theorem dX5_beginDay_54 : decode cX5_beginDay 54 = .ok (.invokestatic 179, 3) := by decide +kernel
theorem dX5_beginDay_57 : decode cX5_beginDay 57 = .ok (.ifCond .eq 7, 3) := by decide +kernel
theorem dX5_beginDay_60 : decode cX5_beginDay 60 = .ok (.aload_n 0, 1) := by decide +kernel
theorem dX5_beginDay_61 : decode cX5_beginDay 61 = .ok (.invokevirtual 182, 3) := by decide +kernel
theorem dX5_beginDay_64 : decode cX5_beginDay 64 = .ok (.return_, 1) := by decide +kernel
theorem dX5_wearVaults_0 : decode cX5_wearVaults 0 = .ok (.aload_n 0, 1) := by decide +kernel
theorem dX5_wearVaults_1 : decode cX5_wearVaults 1 = .ok (.getfield 15, 3) := by decide +kernel
theorem dX5_wearVaults_4 : decode cX5_wearVaults 4 = .ok (.astore_n 1, 1) := by decide +kernel
theorem dX5_wearVaults_5 : decode cX5_wearVaults 5 = .ok (.aload_n 1, 1) := by decide +kernel
theorem dX5_wearVaults_6 : decode cX5_wearVaults 6 = .ok (.arraylength, 1) := by decide +kernel
theorem dX5_wearVaults_7 : decode cX5_wearVaults 7 = .ok (.istore_n 2, 1) := by decide +kernel
theorem dX5_wearVaults_8 : decode cX5_wearVaults 8 = .ok (.iconst 0, 1) := by decide +kernel
theorem dX5_wearVaults_9 : decode cX5_wearVaults 9 = .ok (.istore_n 3, 1) := by decide +kernel
theorem dX5_wearVaults_10 : decode cX5_wearVaults 10 = .ok (.iload_n 3, 1) := by decide +kernel
theorem dX5_wearVaults_11 : decode cX5_wearVaults 11 = .ok (.iload_n 2, 1) := by decide +kernel
theorem dX5_wearVaults_12 : decode cX5_wearVaults 12 = .ok (.if_icmp .ge 55, 3) := by decide +kernel
theorem dX5_wearVaults_15 : decode cX5_wearVaults 15 = .ok (.aload_n 1, 1) := by decide +kernel
theorem dX5_wearVaults_16 : decode cX5_wearVaults 16 = .ok (.iload_n 3, 1) := by decide +kernel
theorem dX5_wearVaults_17 : decode cX5_wearVaults 17 = .ok (.aaload, 1) := by decide +kernel
theorem dX5_wearVaults_18 : decode cX5_wearVaults 18 = .ok (.astore 4, 2) := by decide +kernel
theorem dX5_wearVaults_20 : decode cX5_wearVaults 20 = .ok (.aload 4, 2) := by decide +kernel
theorem dX5_wearVaults_22 : decode cX5_wearVaults 22 = .ok (.ifnull 39, 3) := by decide +kernel
theorem dX5_wearVaults_25 : decode cX5_wearVaults 25 = .ok (.aload 4, 2) := by decide +kernel
theorem dX5_wearVaults_27 : decode cX5_wearVaults 27 = .ok (.getfield 108, 3) := by decide +kernel
theorem dX5_wearVaults_30 : decode cX5_wearVaults 30 = .ok (.getfield 185, 3) := by decide +kernel
theorem dX5_wearVaults_33 : decode cX5_wearVaults 33 = .ok (.sipush 10000, 3) := by decide +kernel
theorem dX5_wearVaults_36 : decode cX5_wearVaults 36 = .ok (.idiv, 1) := by decide +kernel
theorem dX5_wearVaults_37 : decode cX5_wearVaults 37 = .ok (.istore 5, 2) := by decide +kernel
theorem dX5_wearVaults_39 : decode cX5_wearVaults 39 = .ok (.aload 4, 2) := by decide +kernel
theorem dX5_wearVaults_41 : decode cX5_wearVaults 41 = .ok (.getfield 108, 3) := by decide +kernel
theorem dX5_wearVaults_44 : decode cX5_wearVaults 44 = .ok (.iconst 1, 1) := by decide +kernel
theorem dX5_wearVaults_45 : decode cX5_wearVaults 45 = .ok (.iload 5, 2) := by decide +kernel
theorem dX5_wearVaults_47 : decode cX5_wearVaults 47 = .ok (.ineg, 1) := by decide +kernel
theorem dX5_wearVaults_48 : decode cX5_wearVaults 48 = .ok (.invokevirtual 70, 3) := by decide +kernel
theorem dX5_wearVaults_51 : decode cX5_wearVaults 51 = .ok (.aload_n 0, 1) := by decide +kernel
theorem dX5_wearVaults_52 : decode cX5_wearVaults 52 = .ok (.getfield 43, 3) := by decide +kernel
theorem dX5_wearVaults_55 : decode cX5_wearVaults 55 = .ok (.iconst 1, 1) := by decide +kernel
theorem dX5_wearVaults_56 : decode cX5_wearVaults 56 = .ok (.iload 5, 2) := by decide +kernel
theorem dX5_wearVaults_58 : decode cX5_wearVaults 58 = .ok (.invokevirtual 70, 3) := by decide +kernel
theorem dX5_wearVaults_61 : decode cX5_wearVaults 61 = .ok (.iinc 3 1, 3) := by decide +kernel
theorem dX5_wearVaults_64 : decode cX5_wearVaults 64 = .ok (.goto (-54), 3) := by decide +kernel
theorem dX5_wearVaults_67 : decode cX5_wearVaults 67 = .ok (.return_, 1) := by decide +kernel
theorem dX5_owe_0 : decode cX5_owe 0 = .ok (.aload_n 0, 1) := by decide +kernel
theorem dX5_owe_1 : decode cX5_owe 1 = .ok (.iload_n 1, 1) := by decide +kernel
theorem dX5_owe_2 : decode cX5_owe 2 = .ok (.invokevirtual 127, 3) := by decide +kernel
theorem dX5_owe_5 : decode cX5_owe 5 = .ok (.astore 5, 2) := by decide +kernel
theorem dX5_owe_7 : decode cX5_owe 7 = .ok (.aload_n 0, 1) := by decide +kernel
theorem dX5_owe_8 : decode cX5_owe 8 = .ok (.iload_n 2, 1) := by decide +kernel
theorem dX5_owe_9 : decode cX5_owe 9 = .ok (.invokevirtual 127, 3) := by decide +kernel
theorem dX5_owe_12 : decode cX5_owe 12 = .ok (.astore 6, 2) := by decide +kernel
theorem dX5_owe_14 : decode cX5_owe 14 = .ok (.iload_n 1, 1) := by decide +kernel
theorem dX5_owe_15 : decode cX5_owe 15 = .ok (.iload_n 2, 1) := by decide +kernel
theorem dX5_owe_16 : decode cX5_owe 16 = .ok (.invokestatic 95, 3) := by decide +kernel
theorem dX5_owe_19 : decode cX5_owe 19 = .ok (.iload_n 3, 1) := by decide +kernel
theorem dX5_owe_20 : decode cX5_owe 20 = .ok (.iconst 1, 1) := by decide +kernel
theorem dX5_owe_21 : decode cX5_owe 21 = .ok (.sipush 9999, 3) := by decide +kernel
theorem dX5_owe_24 : decode cX5_owe 24 = .ok (.invokestatic 53, 3) := by decide +kernel
theorem dX5_owe_27 : decode cX5_owe 27 = .ok (.iload 4, 2) := by decide +kernel
theorem dX5_owe_29 : decode cX5_owe 29 = .ok (.iconst 0, 1) := by decide +kernel
theorem dX5_owe_30 : decode cX5_owe 30 = .ok (.sipush 1000, 3) := by decide +kernel
theorem dX5_owe_33 : decode cX5_owe 33 = .ok (.invokestatic 53, 3) := by decide +kernel
theorem dX5_owe_36 : decode cX5_owe 36 = .ok (.aload_n 0, 1) := by decide +kernel
theorem dX5_owe_37 : decode cX5_owe 37 = .ok (.getfield 188, 3) := by decide +kernel
theorem dX5_owe_40 : decode cX5_owe 40 = .ok (.aload_n 0, 1) := by decide +kernel
theorem dX5_owe_41 : decode cX5_owe 41 = .ok (.getfield 27, 3) := by decide +kernel
theorem dX5_owe_44 : decode cX5_owe 44 = .ok (.arraylength, 1) := by decide +kernel
theorem dX5_owe_45 : decode cX5_owe 45 = .ok (.if_icmp .lt 13, 3) := by decide +kernel
theorem dX5_owe_48 : decode cX5_owe 48 = .ok (.new 60, 3) := by decide +kernel
theorem dX5_owe_51 : decode cX5_owe 51 = .ok (.dup, 1) := by decide +kernel
theorem dX5_owe_52 : decode cX5_owe 52 = .ok (.ldc 191, 2) := by decide +kernel
theorem dX5_owe_54 : decode cX5_owe 54 = .ok (.invokespecial 64, 3) := by decide +kernel
theorem dX5_owe_57 : decode cX5_owe 57 = .ok (.athrow, 1) := by decide +kernel
theorem dX5_owe_58 : decode cX5_owe 58 = .ok (.aload_n 0, 1) := by decide +kernel
theorem dX5_owe_59 : decode cX5_owe 59 = .ok (.getfield 188, 3) := by decide +kernel
theorem dX5_owe_62 : decode cX5_owe 62 = .ok (.istore 7, 2) := by decide +kernel
theorem dX5_owe_64 : decode cX5_owe 64 = .ok (.aload_n 0, 1) := by decide +kernel
theorem dX5_owe_65 : decode cX5_owe 65 = .ok (.getfield 27, 3) := by decide +kernel
theorem dX5_owe_68 : decode cX5_owe 68 = .ok (.iload 7, 2) := by decide +kernel
theorem dX5_owe_70 : decode cX5_owe 70 = .ok (.new 25, 3) := by decide +kernel
theorem dX5_owe_73 : decode cX5_owe 73 = .ok (.dup, 1) := by decide +kernel
theorem dX5_owe_74 : decode cX5_owe 74 = .ok (.aload 5, 2) := by decide +kernel
theorem dX5_owe_76 : decode cX5_owe 76 = .ok (.aload 6, 2) := by decide +kernel
theorem dX5_owe_78 : decode cX5_owe 78 = .ok (.iload_n 3, 1) := by decide +kernel
theorem dX5_owe_79 : decode cX5_owe 79 = .ok (.aload_n 0, 1) := by decide +kernel
theorem dX5_owe_80 : decode cX5_owe 80 = .ok (.getfield 158, 3) := by decide +kernel
theorem dX5_owe_83 : decode cX5_owe 83 = .ok (.iload 4, 2) := by decide +kernel
theorem dX5_owe_85 : decode cX5_owe 85 = .ok (.iadd, 1) := by decide +kernel
theorem dX5_owe_86 : decode cX5_owe 86 = .ok (.invokespecial 193, 3) := by decide +kernel
theorem dX5_owe_89 : decode cX5_owe 89 = .ok (.aastore, 1) := by decide +kernel
theorem dX5_owe_90 : decode cX5_owe 90 = .ok (.aload_n 0, 1) := by decide +kernel
theorem dX5_owe_91 : decode cX5_owe 91 = .ok (.iload 7, 2) := by decide +kernel
theorem dX5_owe_93 : decode cX5_owe 93 = .ok (.iconst 1, 1) := by decide +kernel
theorem dX5_owe_94 : decode cX5_owe 94 = .ok (.iadd, 1) := by decide +kernel
theorem dX5_owe_95 : decode cX5_owe 95 = .ok (.putfield 188, 3) := by decide +kernel
theorem dX5_owe_98 : decode cX5_owe 98 = .ok (.iload 7, 2) := by decide +kernel
theorem dX5_owe_100 : decode cX5_owe 100 = .ok (.ireturn, 1) := by decide +kernel
theorem dX5_settle_0 : decode cX5_settle 0 = .ok (.aload_n 0, 1) := by decide +kernel
theorem dX5_settle_1 : decode cX5_settle 1 = .ok (.iload_n 1, 1) := by decide +kernel
theorem dX5_settle_2 : decode cX5_settle 2 = .ok (.invokevirtual 196, 3) := by decide +kernel
theorem dX5_settle_5 : decode cX5_settle 5 = .ok (.astore_n 3, 1) := by decide +kernel
theorem dX5_settle_6 : decode cX5_settle 6 = .ok (.iload_n 2, 1) := by decide +kernel
theorem dX5_settle_7 : decode cX5_settle 7 = .ok (.invokestatic 83, 3) := by decide +kernel
theorem dX5_settle_10 : decode cX5_settle 10 = .ok (.aload_n 3, 1) := by decide +kernel
theorem dX5_settle_11 : decode cX5_settle 11 = .ok (.getfield 200, 3) := by decide +kernel
theorem dX5_settle_14 : decode cX5_settle 14 = .ok (.getfield 131, 3) := by decide +kernel
theorem dX5_settle_17 : decode cX5_settle 17 = .ok (.astore 4, 2) := by decide +kernel
theorem dX5_settle_19 : decode cX5_settle 19 = .ok (.aload_n 3, 1) := by decide +kernel
theorem dX5_settle_20 : decode cX5_settle 20 = .ok (.getfield 204, 3) := by decide +kernel
theorem dX5_settle_23 : decode cX5_settle 23 = .ok (.ifCond .ne 18, 3) := by decide +kernel
theorem dX5_settle_26 : decode cX5_settle 26 = .ok (.aload 4, 2) := by decide +kernel
theorem dX5_settle_28 : decode cX5_settle 28 = .ok (.ifnull 13, 3) := by decide +kernel
theorem dX5_settle_31 : decode cX5_settle 31 = .ok (.aload_n 3, 1) := by decide +kernel
theorem dX5_settle_32 : decode cX5_settle 32 = .ok (.getfield 208, 3) := by decide +kernel
theorem dX5_settle_35 : decode cX5_settle 35 = .ok (.getfield 131, 3) := by decide +kernel
theorem dX5_settle_38 : decode cX5_settle 38 = .ok (.ifnonnull 13, 3) := by decide +kernel
theorem dX5_settle_41 : decode cX5_settle 41 = .ok (.new 60, 3) := by decide +kernel
theorem dX5_settle_44 : decode cX5_settle 44 = .ok (.dup, 1) := by decide +kernel
theorem dX5_settle_45 : decode cX5_settle 45 = .ok (.ldc 211, 2) := by decide +kernel
theorem dX5_settle_47 : decode cX5_settle 47 = .ok (.invokespecial 64, 3) := by decide +kernel
theorem dX5_settle_50 : decode cX5_settle 50 = .ok (.athrow, 1) := by decide +kernel
theorem dX5_settle_51 : decode cX5_settle 51 = .ok (.aload_n 3, 1) := by decide +kernel
theorem dX5_settle_52 : decode cX5_settle 52 = .ok (.aload_n 0, 1) := by decide +kernel
theorem dX5_settle_53 : decode cX5_settle 53 = .ok (.getfield 158, 3) := by decide +kernel
theorem dX5_settle_56 : decode cX5_settle 56 = .ok (.invokevirtual 213, 3) := by decide +kernel
theorem dX5_settle_59 : decode cX5_settle 59 = .ok (.istore 5, 2) := by decide +kernel
theorem dX5_settle_61 : decode cX5_settle 61 = .ok (.iload_n 2, 1) := by decide +kernel
theorem dX5_settle_62 : decode cX5_settle 62 = .ok (.ifCond .ne 13, 3) := by decide +kernel
theorem dX5_settle_65 : decode cX5_settle 65 = .ok (.aload 4, 2) := by decide +kernel
theorem dX5_settle_67 : decode cX5_settle 67 = .ok (.iload 5, 2) := by decide +kernel
theorem dX5_settle_69 : decode cX5_settle 69 = .ok (.invokevirtual 216, 3) := by decide +kernel
theorem dX5_settle_72 : decode cX5_settle 72 = .ok (.goto 5, 3) := by decide +kernel
theorem dX5_settle_75 : decode cX5_settle 75 = .ok (.iload 5, 2) := by decide +kernel
