theorem dX10_use_128 : decode cX10_use 128 = .ok (.l2i, 1) := by decide +kernel
theorem dX10_use_129 : decode cX10_use 129 = .ok (.ireturn, 1) := by decide +kernel
theorem dX10_house_0 : decode cX10_house 0 = .ok (.aload_n 0, 1) := by decide +kernel
theorem dX10_house_1 : decode cX10_house 1 = .ok (.aload_n 0, 1) := by decide +kernel
theorem dX10_house_2 : decode cX10_house 2 = .ok (.iload_n 1, 1) := by decide +kernel
theorem dX10_house_3 : decode cX10_house 3 = .ok (.invokevirtual 90, 3) := by decide +kernel
theorem dX10_house_6 : decode cX10_house 6 = .ok (.iconst 1, 1) := by decide +kernel
theorem dX10_house_7 : decode cX10_house 7 = .ok (.invokevirtual 79, 3) := by decide +kernel
theorem dX10_house_10 : decode cX10_house 10 = .ok (.ifCond .ne 61, 3) := by decide +kernel
theorem dX10_house_13 : decode cX10_house 13 = .ok (.aload_n 0, 1) := by decide +kernel
theorem dX10_house_14 : decode cX10_house 14 = .ok (.iload_n 2, 1) := by decide +kernel
theorem dX10_house_15 : decode cX10_house 15 = .ok (.iconst 0, 1) := by decide +kernel
theorem dX10_house_16 : decode cX10_house 16 = .ok (.ldc 78, 2) := by decide +kernel
theorem dX10_house_18 : decode cX10_house 18 = .ok (.invokestatic 58, 3) := by decide +kernel
theorem dX10_house_21 : decode cX10_house 21 = .ok (.ifCond .eq 13, 3) := by decide +kernel
theorem dX10_house_24 : decode cX10_house 24 = .ok (.iload_n 3, 1) := by decide +kernel
theorem dX10_house_25 : decode cX10_house 25 = .ok (.iconst 0, 1) := by decide +kernel
theorem dX10_house_26 : decode cX10_house 26 = .ok (.ldc 78, 2) := by decide +kernel
theorem dX10_house_28 : decode cX10_house 28 = .ok (.invokestatic 58, 3) := by decide +kernel
theorem dX10_house_31 : decode cX10_house 31 = .ok (.ifCond .ne 7, 3) := by decide +kernel
theorem dX10_house_34 : decode cX10_house 34 = .ok (.iconst 1, 1) := by decide +kernel
theorem dX10_house_35 : decode cX10_house 35 = .ok (.goto 4, 3) := by decide +kernel
theorem dX10_house_38 : decode cX10_house 38 = .ok (.iconst 0, 1) := by decide +kernel
theorem dX10_house_39 : decode cX10_house 39 = .ok (.iconst 2, 1) := by decide +kernel
theorem dX10_house_40 : decode cX10_house 40 = .ok (.invokevirtual 50, 3) := by decide +kernel
theorem dX10_house_43 : decode cX10_house 43 = .ok (.ifCond .ne 28, 3) := by decide +kernel
theorem dX10_house_46 : decode cX10_house 46 = .ok (.aload_n 0, 1) := by decide +kernel
theorem dX10_house_47 : decode cX10_house 47 = .ok (.aload_n 0, 1) := by decide +kernel
theorem dX10_house_48 : decode cX10_house 48 = .ok (.getfield 41, 3) := by decide +kernel
theorem dX10_house_51 : decode cX10_house 51 = .ok (.invokevirtual 54, 3) := by decide +kernel
theorem dX10_house_54 : decode cX10_house 54 = .ok (.bipush 6, 2) := by decide +kernel
theorem dX10_house_56 : decode cX10_house 56 = .ok (.if_icmp .ne 7, 3) := by decide +kernel
theorem dX10_house_59 : decode cX10_house 59 = .ok (.iconst 1, 1) := by decide +kernel
theorem dX10_house_60 : decode cX10_house 60 = .ok (.goto 4, 3) := by decide +kernel
theorem dX10_house_63 : decode cX10_house 63 = .ok (.iconst 0, 1) := by decide +kernel
theorem dX10_house_64 : decode cX10_house 64 = .ok (.iconst 3, 1) := by decide +kernel
theorem dX10_house_65 : decode cX10_house 65 = .ok (.invokevirtual 50, 3) := by decide +kernel
theorem dX10_house_68 : decode cX10_house 68 = .ok (.ifCond .eq 5, 3) := by decide +kernel
theorem dX10_house_71 : decode cX10_house 71 = .ok (.iconst 0, 1) := by decide +kernel
theorem dX10_house_72 : decode cX10_house 72 = .ok (.ireturn, 1) := by decide +kernel
theorem dX10_house_73 : decode cX10_house 73 = .ok (.new 107, 3) := by decide +kernel
theorem dX10_house_76 : decode cX10_house 76 = .ok (.dup, 1) := by decide +kernel
theorem dX10_house_77 : decode cX10_house 77 = .ok (.invokespecial 109, 3) := by decide +kernel
theorem dX10_house_80 : decode cX10_house 80 = .ok (.astore 4, 2) := by decide +kernel
theorem dX10_house_82 : decode cX10_house 82 = .ok (.aload 4, 2) := by decide +kernel
theorem dX10_house_84 : decode cX10_house 84 = .ok (.iload_n 1, 1) := by decide +kernel
theorem dX10_house_85 : decode cX10_house 85 = .ok (.putfield 110, 3) := by decide +kernel
theorem dX10_house_88 : decode cX10_house 88 = .ok (.aload 4, 2) := by decide +kernel
theorem dX10_house_90 : decode cX10_house 90 = .ok (.getfield 113, 3) := by decide +kernel
theorem dX10_house_93 : decode cX10_house 93 = .ok (.iconst 0, 1) := by decide +kernel
theorem dX10_house_94 : decode cX10_house 94 = .ok (.iload_n 2, 1) := by decide +kernel
theorem dX10_house_95 : decode cX10_house 95 = .ok (.i2l, 1) := by decide +kernel
theorem dX10_house_96 : decode cX10_house 96 = .ok (.lastore, 1) := by decide +kernel
theorem dX10_house_97 : decode cX10_house 97 = .ok (.aload 4, 2) := by decide +kernel
theorem dX10_house_99 : decode cX10_house 99 = .ok (.getfield 113, 3) := by decide +kernel
theorem dX10_house_102 : decode cX10_house 102 = .ok (.iconst 1, 1) := by decide +kernel
theorem dX10_house_103 : decode cX10_house 103 = .ok (.iload_n 3, 1) := by decide +kernel
theorem dX10_house_104 : decode cX10_house 104 = .ok (.i2l, 1) := by decide +kernel
theorem dX10_house_105 : decode cX10_house 105 = .ok (.lastore, 1) := by decide +kernel
theorem dX10_house_106 : decode cX10_house 106 = .ok (.aload_n 0, 1) := by decide +kernel
theorem dX10_house_107 : decode cX10_house 107 = .ok (.getfield 31, 3) := by decide +kernel
theorem dX10_house_110 : decode cX10_house 110 = .ok (.iconst 0, 1) := by decide +kernel
theorem dX10_house_111 : decode cX10_house 111 = .ok (.dup2, 1) := by decide +kernel
theorem dX10_house_112 : decode cX10_house 112 = .ok (.laload, 1) := by decide +kernel
theorem dX10_house_113 : decode cX10_house 113 = .ok (.iload_n 2, 1) := by decide +kernel
theorem dX10_house_114 : decode cX10_house 114 = .ok (.i2l, 1) := by decide +kernel
theorem dX10_house_115 : decode cX10_house 115 = .ok (.ladd, 1) := by decide +kernel
theorem dX10_house_116 : decode cX10_house 116 = .ok (.lastore, 1) := by decide +kernel
theorem dX10_house_117 : decode cX10_house 117 = .ok (.aload_n 0, 1) := by decide +kernel
theorem dX10_house_118 : decode cX10_house 118 = .ok (.getfield 31, 3) := by decide +kernel
theorem dX10_house_121 : decode cX10_house 121 = .ok (.iconst 1, 1) := by decide +kernel
theorem dX10_house_122 : decode cX10_house 122 = .ok (.dup2, 1) := by decide +kernel
theorem dX10_house_123 : decode cX10_house 123 = .ok (.laload, 1) := by decide +kernel
theorem dX10_house_124 : decode cX10_house 124 = .ok (.iload_n 3, 1) := by decide +kernel
theorem dX10_house_125 : decode cX10_house 125 = .ok (.i2l, 1) := by decide +kernel
theorem dX10_house_126 : decode cX10_house 126 = .ok (.ladd, 1) := by decide +kernel
theorem dX10_house_127 : decode cX10_house 127 = .ok (.lastore, 1) := by decide +kernel
theorem dX10_house_128 : decode cX10_house 128 = .ok (.aload_n 0, 1) := by decide +kernel
theorem dX10_house_129 : decode cX10_house 129 = .ok (.getfield 41, 3) := by decide +kernel
theorem dX10_house_132 : decode cX10_house 132 = .ok (.aload 4, 2) := by decide +kernel
theorem dX10_house_134 : decode cX10_house 134 = .ok (.invokevirtual 86, 3) := by decide +kernel
theorem dX10_house_137 : decode cX10_house 137 = .ok (.pop, 1) := by decide +kernel
theorem dX10_house_138 : decode cX10_house 138 = .ok (.aload_n 0, 1) := by decide +kernel
theorem dX10_house_139 : decode cX10_house 139 = .ok (.getfield 41, 3) := by decide +kernel
theorem dX10_house_142 : decode cX10_house 142 = .ok (.invokevirtual 54, 3) := by decide +kernel
theorem dX10_house_145 : decode cX10_house 145 = .ok (.iconst 1, 1) := by decide +kernel
theorem dX10_house_146 : decode cX10_house 146 = .ok (.isub, 1) := by decide +kernel
theorem dX10_house_147 : decode cX10_house 147 = .ok (.ireturn, 1) := by decide +kernel
theorem dX10_isNoChange_0 : decode cX10_isNoChange 0 = .ok (.aload_n 1, 1) := by decide +kernel
theorem dX10_isNoChange_1 : decode cX10_isNoChange 1 = .ok (.getfield 110, 3) := by decide +kernel
theorem dX10_isNoChange_4 : decode cX10_isNoChange 4 = .ok (.iconst (-1), 1) := by decide +kernel
theorem dX10_isNoChange_5 : decode cX10_isNoChange 5 = .ok (.if_icmp .eq 15, 3) := by decide +kernel
theorem dX10_isNoChange_8 : decode cX10_isNoChange 8 = .ok (.aload_n 1, 1) := by decide +kernel
theorem dX10_isNoChange_9 : decode cX10_isNoChange 9 = .ok (.getfield 113, 3) := by decide +kernel
theorem dX10_isNoChange_12 : decode cX10_isNoChange 12 = .ok (.iload_n 2, 1) := by decide +kernel
theorem dX10_isNoChange_13 : decode cX10_isNoChange 13 = .ok (.laload, 1) := by decide +kernel
theorem dX10_isNoChange_14 : decode cX10_isNoChange 14 = .ok (.iload_n 3, 1) := by decide +kernel
theorem dX10_isNoChange_15 : decode cX10_isNoChange 15 = .ok (.i2l, 1) := by decide +kernel
theorem dX10_isNoChange_16 : decode cX10_isNoChange 16 = .ok (.lcmp, 1) := by decide +kernel
theorem dX10_isNoChange_17 : decode cX10_isNoChange 17 = .ok (.ifCond .ge 5, 3) := by decide +kernel
theorem dX10_isNoChange_20 : decode cX10_isNoChange 20 = .ok (.iconst 1, 1) := by decide +kernel
theorem dX10_isNoChange_21 : decode cX10_isNoChange 21 = .ok (.ireturn, 1) := by decide +kernel
theorem dX10_isNoChange_22 : decode cX10_isNoChange 22 = .ok (.aload_n 0, 1) := by decide +kernel
theorem dX10_isNoChange_23 : decode cX10_isNoChange 23 = .ok (.getfield 37, 3) := by decide +kernel
theorem dX10_isNoChange_26 : decode cX10_isNoChange 26 = .ok (.aload_n 1, 1) := by decide +kernel
theorem dX10_isNoChange_27 : decode cX10_isNoChange 27 = .ok (.getfield 110, 3) := by decide +kernel
theorem dX10_isNoChange_30 : decode cX10_isNoChange 30 = .ok (.invokevirtual 94, 3) := by decide +kernel
theorem dX10_isNoChange_33 : decode cX10_isNoChange 33 = .ok (.checkcast 63, 3) := by decide +kernel
theorem dX10_isNoChange_36 : decode cX10_isNoChange 36 = .ok (.astore 4, 2) := by decide +kernel
theorem dX10_isNoChange_38 : decode cX10_isNoChange 38 = .ok (.aload 4, 2) := by decide +kernel
theorem dX10_isNoChange_40 : decode cX10_isNoChange 40 = .ok (.getfield 101, 3) := by decide +kernel
theorem dX10_isNoChange_43 : decode cX10_isNoChange 43 = .ok (.iload_n 2, 1) := by decide +kernel
theorem dX10_isNoChange_44 : decode cX10_isNoChange 44 = .ok (.baload, 1) := by decide +kernel
theorem dX10_isNoChange_45 : decode cX10_isNoChange 45 = .ok (.ifCond .eq 24, 3) := by decide +kernel
theorem dX10_isNoChange_48 : decode cX10_isNoChange 48 = .ok (.aload 4, 2) := by decide +kernel
theorem dX10_isNoChange_50 : decode cX10_isNoChange 50 = .ok (.getfield 83, 3) := by decide +kernel
theorem dX10_isNoChange_53 : decode cX10_isNoChange 53 = .ok (.iconst 1, 1) := by decide +kernel
theorem dX10_isNoChange_54 : decode cX10_isNoChange 54 = .ok (.iload_n 2, 1) := by decide +kernel
theorem dX10_isNoChange_55 : decode cX10_isNoChange 55 = .ok (.isub, 1) := by decide +kernel
theorem dX10_isNoChange_56 : decode cX10_isNoChange 56 = .ok (.laload, 1) := by decide +kernel
theorem dX10_isNoChange_57 : decode cX10_isNoChange 57 = .ok (.aload 4, 2) := by decide +kernel
theorem dX10_isNoChange_59 : decode cX10_isNoChange 59 = .ok (.iload_n 2, 1) := by decide +kernel
theorem dX10_isNoChange_60 : decode cX10_isNoChange 60 = .ok (.iload_n 3, 1) := by decide +kernel
theorem dX10_isNoChange_61 : decode cX10_isNoChange 61 = .ok (.i2l, 1) := by decide +kernel
theorem dX10_isNoChange_62 : decode cX10_isNoChange 62 = .ok (.invokestatic 116, 3) := by decide +kernel
theorem dX10_isNoChange_65 : decode cX10_isNoChange 65 = .ok (.lcmp, 1) := by decide +kernel
theorem dX10_isNoChange_66 : decode cX10_isNoChange 66 = .ok (.ifCond .ge 7, 3) := by decide +kernel
theorem dX10_isNoChange_69 : decode cX10_isNoChange 69 = .ok (.iconst 1, 1) := by decide +kernel
theorem dX10_isNoChange_70 : decode cX10_isNoChange 70 = .ok (.goto 4, 3) := by decide +kernel
theorem dX10_isNoChange_73 : decode cX10_isNoChange 73 = .ok (.iconst 0, 1) := by decide +kernel
theorem dX10_isNoChange_74 : decode cX10_isNoChange 74 = .ok (.ireturn, 1) := by decide +kernel
theorem dX10_change_0 : decode cX10_change 0 = .ok (.aload_n 0, 1) := by decide +kernel
theorem dX10_change_1 : decode cX10_change 1 = .ok (.aload_n 0, 1) := by decide +kernel
theorem dX10_change_2 : decode cX10_change 2 = .ok (.iload_n 1, 1) := by decide +kernel
theorem dX10_change_3 : decode cX10_change 3 = .ok (.invokevirtual 120, 3) := by decide +kernel
theorem dX10_change_6 : decode cX10_change 6 = .ok (.iconst 1, 1) := by decide +kernel
theorem dX10_change_7 : decode cX10_change 7 = .ok (.invokevirtual 79, 3) := by decide +kernel
theorem dX10_change_10 : decode cX10_change 10 = .ok (.ifCond .ne 58, 3) := by decide +kernel
theorem dX10_change_13 : decode cX10_change 13 = .ok (.aload_n 0, 1) := by decide +kernel
theorem dX10_change_14 : decode cX10_change 14 = .ok (.iload_n 2, 1) := by decide +kernel
theorem dX10_change_15 : decode cX10_change 15 = .ok (.invokestatic 98, 3) := by decide +kernel
theorem dX10_change_18 : decode cX10_change 18 = .ok (.ifCond .ne 13, 3) := by decide +kernel
theorem dX10_change_21 : decode cX10_change 21 = .ok (.iload_n 3, 1) := by decide +kernel
theorem dX10_change_22 : decode cX10_change 22 = .ok (.iconst 1, 1) := by decide +kernel
theorem dX10_change_23 : decode cX10_change 23 = .ok (.ldc 78, 2) := by decide +kernel
theorem dX10_change_25 : decode cX10_change 25 = .ok (.invokestatic 58, 3) := by decide +kernel
theorem dX10_change_28 : decode cX10_change 28 = .ok (.ifCond .ne 7, 3) := by decide +kernel
theorem dX10_change_31 : decode cX10_change 31 = .ok (.iconst 1, 1) := by decide +kernel
theorem dX10_change_32 : decode cX10_change 32 = .ok (.goto 4, 3) := by decide +kernel
theorem dX10_change_35 : decode cX10_change 35 = .ok (.iconst 0, 1) := by decide +kernel
theorem dX10_change_36 : decode cX10_change 36 = .ok (.iconst 2, 1) := by decide +kernel
theorem dX10_change_37 : decode cX10_change 37 = .ok (.invokevirtual 50, 3) := by decide +kernel
theorem dX10_change_40 : decode cX10_change 40 = .ok (.ifCond .ne 28, 3) := by decide +kernel
theorem dX10_change_43 : decode cX10_change 43 = .ok (.aload_n 0, 1) := by decide +kernel
theorem dX10_change_44 : decode cX10_change 44 = .ok (.aload_n 0, 1) := by decide +kernel
theorem dX10_change_45 : decode cX10_change 45 = .ok (.aload_n 0, 1) := by decide +kernel
theorem dX10_change_46 : decode cX10_change 46 = .ok (.getfield 41, 3) := by decide +kernel
theorem dX10_change_49 : decode cX10_change 49 = .ok (.iload_n 1, 1) := by decide +kernel
theorem dX10_change_50 : decode cX10_change 50 = .ok (.invokevirtual 94, 3) := by decide +kernel
theorem dX10_change_53 : decode cX10_change 53 = .ok (.checkcast 107, 3) := by decide +kernel
theorem dX10_change_56 : decode cX10_change 56 = .ok (.iload_n 2, 1) := by decide +kernel
theorem dX10_change_57 : decode cX10_change 57 = .ok (.iload_n 3, 1) := by decide +kernel
theorem dX10_change_58 : decode cX10_change 58 = .ok (.invokevirtual 123, 3) := by decide +kernel
theorem dX10_change_61 : decode cX10_change 61 = .ok (.iconst 3, 1) := by decide +kernel
theorem dX10_change_62 : decode cX10_change 62 = .ok (.invokevirtual 50, 3) := by decide +kernel
theorem dX10_change_65 : decode cX10_change 65 = .ok (.ifCond .eq 5, 3) := by decide +kernel
theorem dX10_change_68 : decode cX10_change 68 = .ok (.iconst 0, 1) := by decide +kernel
theorem dX10_change_69 : decode cX10_change 69 = .ok (.ireturn, 1) := by decide +kernel
theorem dX10_change_70 : decode cX10_change 70 = .ok (.aload_n 0, 1) := by decide +kernel
theorem dX10_change_71 : decode cX10_change 71 = .ok (.getfield 41, 3) := by decide +kernel
theorem dX10_change_74 : decode cX10_change 74 = .ok (.iload_n 1, 1) := by decide +kernel
theorem dX10_change_75 : decode cX10_change 75 = .ok (.invokevirtual 94, 3) := by decide +kernel
theorem dX10_change_78 : decode cX10_change 78 = .ok (.checkcast 107, 3) := by decide +kernel
theorem dX10_change_81 : decode cX10_change 81 = .ok (.astore 4, 2) := by decide +kernel
theorem dX10_change_83 : decode cX10_change 83 = .ok (.aload_n 0, 1) := by decide +kernel
theorem dX10_change_84 : decode cX10_change 84 = .ok (.getfield 37, 3) := by decide +kernel
theorem dX10_change_87 : decode cX10_change 87 = .ok (.aload 4, 2) := by decide +kernel
theorem dX10_change_89 : decode cX10_change 89 = .ok (.getfield 110, 3) := by decide +kernel
theorem dX10_change_92 : decode cX10_change 92 = .ok (.invokevirtual 94, 3) := by decide +kernel
theorem dX10_change_95 : decode cX10_change 95 = .ok (.checkcast 63, 3) := by decide +kernel
theorem dX10_change_98 : decode cX10_change 98 = .ok (.astore 5, 2) := by decide +kernel
theorem dX10_change_100 : decode cX10_change 100 = .ok (.aload 5, 2) := by decide +kernel
theorem dX10_change_102 : decode cX10_change 102 = .ok (.iload_n 2, 1) := by decide +kernel
theorem dX10_change_103 : decode cX10_change 103 = .ok (.iload_n 3, 1) := by decide +kernel
theorem dX10_change_104 : decode cX10_change 104 = .ok (.i2l, 1) := by decide +kernel
theorem dX10_change_105 : decode cX10_change 105 = .ok (.invokestatic 116, 3) := by decide +kernel
theorem dX10_change_108 : decode cX10_change 108 = .ok (.lstore 6, 2) := by decide +kernel
theorem dX10_change_110 : decode cX10_change 110 = .ok (.aload 4, 2) := by decide +kernel
theorem dX10_change_112 : decode cX10_change 112 = .ok (.getfield 113, 3) := by decide +kernel
theorem dX10_change_115 : decode cX10_change 115 = .ok (.iload_n 2, 1) := by decide +kernel
theorem dX10_change_116 : decode cX10_change 116 = .ok (.dup2, 1) := by decide +kernel
theorem dX10_change_117 : decode cX10_change 117 = .ok (.laload, 1) := by decide +kernel
theorem dX10_change_118 : decode cX10_change 118 = .ok (.iload_n 3, 1) := by decide +kernel
theorem dX10_change_119 : decode cX10_change 119 = .ok (.i2l, 1) := by decide +kernel
theorem dX10_change_120 : decode cX10_change 120 = .ok (.lsub, 1) := by decide +kernel
theorem dX10_change_121 : decode cX10_change 121 = .ok (.lastore, 1) := by decide +kernel
theorem dX10_change_122 : decode cX10_change 122 = .ok (.aload 5, 2) := by decide +kernel
theorem dX10_change_124 : decode cX10_change 124 = .ok (.getfield 83, 3) := by decide +kernel
theorem dX10_change_127 : decode cX10_change 127 = .ok (.iload_n 2, 1) := by decide +kernel
theorem dX10_change_128 : decode cX10_change 128 = .ok (.dup2, 1) := by decide +kernel
theorem dX10_change_129 : decode cX10_change 129 = .ok (.laload, 1) := by decide +kernel
theorem dX10_change_130 : decode cX10_change 130 = .ok (.iload_n 3, 1) := by decide +kernel
theorem dX10_change_131 : decode cX10_change 131 = .ok (.i2l, 1) := by decide +kernel
theorem dX10_change_132 : decode cX10_change 132 = .ok (.ladd, 1) := by decide +kernel
theorem dX10_change_133 : decode cX10_change 133 = .ok (.lastore, 1) := by decide +kernel
theorem dX10_change_134 : decode cX10_change 134 = .ok (.aload 4, 2) := by decide +kernel
theorem dX10_change_136 : decode cX10_change 136 = .ok (.getfield 113, 3) := by decide +kernel
theorem dX10_change_139 : decode cX10_change 139 = .ok (.iconst 1, 1) := by decide +kernel
theorem dX10_change_140 : decode cX10_change 140 = .ok (.iload_n 2, 1) := by decide +kernel
theorem dX10_change_141 : decode cX10_change 141 = .ok (.isub, 1) := by decide +kernel
theorem dX10_change_142 : decode cX10_change 142 = .ok (.dup2, 1) := by decide +kernel
theorem dX10_change_143 : decode cX10_change 143 = .ok (.laload, 1) := by decide +kernel
theorem dX10_change_144 : decode cX10_change 144 = .ok (.lload 6, 2) := by decide +kernel
theorem dX10_change_146 : decode cX10_change 146 = .ok (.ladd, 1) := by decide +kernel
theorem dX10_change_147 : decode cX10_change 147 = .ok (.lastore, 1) := by decide +kernel
theorem dX10_change_148 : decode cX10_change 148 = .ok (.aload 5, 2) := by decide +kernel
theorem dX10_change_150 : decode cX10_change 150 = .ok (.getfield 83, 3) := by decide +kernel
theorem dX10_change_153 : decode cX10_change 153 = .ok (.iconst 1, 1) := by decide +kernel
theorem dX10_change_154 : decode cX10_change 154 = .ok (.iload_n 2, 1) := by decide +kernel
theorem dX10_change_155 : decode cX10_change 155 = .ok (.isub, 1) := by decide +kernel
theorem dX10_change_156 : decode cX10_change 156 = .ok (.dup2, 1) := by decide +kernel
theorem dX10_change_157 : decode cX10_change 157 = .ok (.laload, 1) := by decide +kernel
theorem dX10_change_158 : decode cX10_change 158 = .ok (.lload 6, 2) := by decide +kernel
theorem dX10_change_160 : decode cX10_change 160 = .ok (.lsub, 1) := by decide +kernel
theorem dX10_change_161 : decode cX10_change 161 = .ok (.lastore, 1) := by decide +kernel
theorem dX10_change_162 : decode cX10_change 162 = .ok (.lload 6, 2) := by decide +kernel
theorem dX10_change_164 : decode cX10_change 164 = .ok (.l2i, 1) := by decide +kernel
theorem dX10_change_165 : decode cX10_change 165 = .ok (.ireturn, 1) := by decide +kernel
theorem dX10_send_0 : decode cX10_send 0 = .ok (.aload_n 0, 1) := by decide +kernel
theorem dX10_send_1 : decode cX10_send 1 = .ok (.aload_n 0, 1) := by decide +kernel
theorem dX10_send_2 : decode cX10_send 2 = .ok (.iload_n 1, 1) := by decide +kernel
theorem dX10_send_3 : decode cX10_send 3 = .ok (.invokevirtual 120, 3) := by decide +kernel
theorem dX10_send_6 : decode cX10_send 6 = .ok (.ifCond .ne 11, 3) := by decide +kernel
theorem dX10_send_9 : decode cX10_send 9 = .ok (.aload_n 0, 1) := by decide +kernel
theorem dX10_send_10 : decode cX10_send 10 = .ok (.iload_n 2, 1) := by decide +kernel
theorem dX10_send_11 : decode cX10_send 11 = .ok (.invokevirtual 90, 3) := by decide +kernel
theorem dX10_send_14 : decode cX10_send 14 = .ok (.ifCond .eq 7, 3) := by decide +kernel
theorem dX10_send_17 : decode cX10_send 17 = .ok (.iconst 1, 1) := by decide +kernel
theorem dX10_send_18 : decode cX10_send 18 = .ok (.goto 4, 3) := by decide +kernel
theorem dX10_send_21 : decode cX10_send 21 = .ok (.iconst 0, 1) := by decide +kernel
theorem dX10_send_22 : decode cX10_send 22 = .ok (.iconst 1, 1) := by decide +kernel
theorem dX10_send_23 : decode cX10_send 23 = .ok (.invokevirtual 79, 3) := by decide +kernel
theorem dX10_send_26 : decode cX10_send 26 = .ok (.ifCond .ne 52, 3) := by decide +kernel
theorem dX10_send_29 : decode cX10_send 29 = .ok (.aload_n 0, 1) := by decide +kernel
theorem dX10_send_30 : decode cX10_send 30 = .ok (.aload_n 0, 1) := by decide +kernel
theorem dX10_send_31 : decode cX10_send 31 = .ok (.getfield 41, 3) := by decide +kernel
theorem dX10_send_34 : decode cX10_send 34 = .ok (.iload_n 1, 1) := by decide +kernel
theorem dX10_send_35 : decode cX10_send 35 = .ok (.invokevirtual 94, 3) := by decide +kernel
theorem dX10_send_38 : decode cX10_send 38 = .ok (.checkcast 107, 3) := by decide +kernel
theorem dX10_send_41 : decode cX10_send 41 = .ok (.getfield 110, 3) := by decide +kernel
theorem dX10_send_44 : decode cX10_send 44 = .ok (.iconst (-1), 1) := by decide +kernel
theorem dX10_send_45 : decode cX10_send 45 = .ok (.if_icmp .eq 21, 3) := by decide +kernel
theorem dX10_send_48 : decode cX10_send 48 = .ok (.aload_n 0, 1) := by decide +kernel
theorem dX10_send_49 : decode cX10_send 49 = .ok (.getfield 41, 3) := by decide +kernel
theorem dX10_send_52 : decode cX10_send 52 = .ok (.iload_n 1, 1) := by decide +kernel
theorem dX10_send_53 : decode cX10_send 53 = .ok (.invokevirtual 94, 3) := by decide +kernel
theorem dX10_send_56 : decode cX10_send 56 = .ok (.checkcast 107, 3) := by decide +kernel
theorem dX10_send_59 : decode cX10_send 59 = .ok (.getfield 110, 3) := by decide +kernel
theorem dX10_send_62 : decode cX10_send 62 = .ok (.iload_n 2, 1) := by decide +kernel
theorem dX10_send_63 : decode cX10_send 63 = .ok (.if_icmp .ne 7, 3) := by decide +kernel
theorem dX10_send_66 : decode cX10_send 66 = .ok (.iconst 1, 1) := by decide +kernel
theorem dX10_send_67 : decode cX10_send 67 = .ok (.goto 4, 3) := by decide +kernel
theorem dX10_send_70 : decode cX10_send 70 = .ok (.iconst 0, 1) := by decide +kernel
theorem dX10_send_71 : decode cX10_send 71 = .ok (.iconst 2, 1) := by decide +kernel
theorem dX10_send_72 : decode cX10_send 72 = .ok (.invokevirtual 50, 3) := by decide +kernel
theorem dX10_send_75 : decode cX10_send 75 = .ok (.ifCond .eq 5, 3) := by decide +kernel
theorem dX10_send_78 : decode cX10_send 78 = .ok (.iconst 0, 1) := by decide +kernel
theorem dX10_send_79 : decode cX10_send 79 = .ok (.ireturn, 1) := by decide +kernel
theorem dX10_send_80 : decode cX10_send 80 = .ok (.aload_n 0, 1) := by decide +kernel
theorem dX10_send_81 : decode cX10_send 81 = .ok (.getfield 41, 3) := by decide +kernel
theorem dX10_send_84 : decode cX10_send 84 = .ok (.iload_n 1, 1) := by decide +kernel
theorem dX10_send_85 : decode cX10_send 85 = .ok (.invokevirtual 94, 3) := by decide +kernel
theorem dX10_send_88 : decode cX10_send 88 = .ok (.checkcast 107, 3) := by decide +kernel
theorem dX10_send_91 : decode cX10_send 91 = .ok (.astore_n 3, 1) := by decide +kernel
theorem dX10_send_92 : decode cX10_send 92 = .ok (.iconst 0, 1) := by decide +kernel
theorem dX10_send_93 : decode cX10_send 93 = .ok (.istore 4, 2) := by decide +kernel
theorem dX10_send_95 : decode cX10_send 95 = .ok (.iload 4, 2) := by decide +kernel
theorem dX10_send_97 : decode cX10_send 97 = .ok (.iconst 2, 1) := by decide +kernel
theorem dX10_send_98 : decode cX10_send 98 = .ok (.if_icmp .ge 61, 3) := by decide +kernel
theorem dX10_send_101 : decode cX10_send 101 = .ok (.aload_n 3, 1) := by decide +kernel
theorem dX10_send_102 : decode cX10_send 102 = .ok (.getfield 113, 3) := by decide +kernel
theorem dX10_send_105 : decode cX10_send 105 = .ok (.iload 4, 2) := by decide +kernel
theorem dX10_send_107 : decode cX10_send 107 = .ok (.laload, 1) := by decide +kernel
theorem dX10_send_108 : decode cX10_send 108 = .ok (.aload_n 0, 1) := by decide +kernel
theorem dX10_send_109 : decode cX10_send 109 = .ok (.getfield 18, 3) := by decide +kernel
theorem dX10_send_112 : decode cX10_send 112 = .ok (.aload_n 3, 1) := by decide +kernel
theorem dX10_send_113 : decode cX10_send 113 = .ok (.getfield 110, 3) := by decide +kernel
theorem dX10_send_116 : decode cX10_send 116 = .ok (.aaload, 1) := by decide +kernel
theorem dX10_send_117 : decode cX10_send 117 = .ok (.iload_n 2, 1) := by decide +kernel
theorem dX10_send_118 : decode cX10_send 118 = .ok (.iaload, 1) := by decide +kernel
theorem dX10_send_119 : decode cX10_send 119 = .ok (.i2l, 1) := by decide +kernel
theorem dX10_send_120 : decode cX10_send 120 = .ok (.lmul, 1) := by decide +kernel
theorem dX10_send_121 : decode cX10_send 121 = .ok (.ldc2_w 72, 3) := by decide +kernel
theorem dX10_send_124 : decode cX10_send 124 = .ok (.invokestatic 74, 3) := by decide +kernel
theorem dX10_send_127 : decode cX10_send 127 = .ok (.lstore 5, 2) := by decide +kernel
theorem dX10_send_129 : decode cX10_send 129 = .ok (.aload_n 3, 1) := by decide +kernel
theorem dX10_send_130 : decode cX10_send 130 = .ok (.getfield 113, 3) := by decide +kernel
theorem dX10_send_133 : decode cX10_send 133 = .ok (.iload 4, 2) := by decide +kernel
theorem dX10_send_135 : decode cX10_send 135 = .ok (.dup2, 1) := by decide +kernel
theorem dX10_send_136 : decode cX10_send 136 = .ok (.laload, 1) := by decide +kernel
theorem dX10_send_137 : decode cX10_send 137 = .ok (.lload 5, 2) := by decide +kernel
theorem dX10_send_139 : decode cX10_send 139 = .ok (.lsub, 1) := by decide +kernel
theorem dX10_send_140 : decode cX10_send 140 = .ok (.lastore, 1) := by decide +kernel
theorem dX10_send_141 : decode cX10_send 141 = .ok (.aload_n 0, 1) := by decide +kernel
theorem dX10_send_142 : decode cX10_send 142 = .ok (.getfield 21, 3) := by decide +kernel
theorem dX10_send_145 : decode cX10_send 145 = .ok (.iload 4, 2) := by decide +kernel
theorem dX10_send_147 : decode cX10_send 147 = .ok (.dup2, 1) := by decide +kernel
theorem dX10_send_148 : decode cX10_send 148 = .ok (.laload, 1) := by decide +kernel
theorem dX10_send_149 : decode cX10_send 149 = .ok (.lload 5, 2) := by decide +kernel
theorem dX10_send_151 : decode cX10_send 151 = .ok (.ladd, 1) := by decide +kernel
theorem dX10_send_152 : decode cX10_send 152 = .ok (.lastore, 1) := by decide +kernel
theorem dX10_send_153 : decode cX10_send 153 = .ok (.iinc 4 1, 3) := by decide +kernel
theorem dX10_send_156 : decode cX10_send 156 = .ok (.goto (-61), 3) := by decide +kernel
theorem dX10_send_159 : decode cX10_send 159 = .ok (.aload_n 3, 1) := by decide +kernel
theorem dX10_send_160 : decode cX10_send 160 = .ok (.aload_n 0, 1) := by decide +kernel
theorem dX10_send_161 : decode cX10_send 161 = .ok (.getfield 127, 3) := by decide +kernel
theorem dX10_send_164 : decode cX10_send 164 = .ok (.aload_n 0, 1) := by decide +kernel
theorem dX10_send_165 : decode cX10_send 165 = .ok (.getfield 15, 3) := by decide +kernel
theorem dX10_send_168 : decode cX10_send 168 = .ok (.aload_n 3, 1) := by decide +kernel
theorem dX10_send_169 : decode cX10_send 169 = .ok (.getfield 110, 3) := by decide +kernel
theorem dX10_send_172 : decode cX10_send 172 = .ok (.aaload, 1) := by decide +kernel
theorem dX10_send_173 : decode cX10_send 173 = .ok (.iload_n 2, 1) := by decide +kernel
theorem dX10_send_174 : decode cX10_send 174 = .ok (.iaload, 1) := by decide +kernel
theorem dX10_send_175 : decode cX10_send 175 = .ok (.iadd, 1) := by decide +kernel
theorem dX10_send_176 : decode cX10_send 176 = .ok (.putfield 130, 3) := by decide +kernel
theorem dX10_send_179 : decode cX10_send 179 = .ok (.aload_n 3, 1) := by decide +kernel
theorem dX10_send_180 : decode cX10_send 180 = .ok (.iload_n 2, 1) := by decide +kernel
theorem dX10_send_181 : decode cX10_send 181 = .ok (.putfield 133, 3) := by decide +kernel
theorem dX10_send_184 : decode cX10_send 184 = .ok (.aload_n 3, 1) := by decide +kernel
theorem dX10_send_185 : decode cX10_send 185 = .ok (.iconst (-1), 1) := by decide +kernel
theorem dX10_send_186 : decode cX10_send 186 = .ok (.putfield 110, 3) := by decide +kernel
theorem dX10_send_189 : decode cX10_send 189 = .ok (.aload_n 3, 1) := by decide +kernel
theorem dX10_send_190 : decode cX10_send 190 = .ok (.getfield 130, 3) := by decide +kernel
theorem dX10_send_193 : decode cX10_send 193 = .ok (.ireturn, 1) := by decide +kernel
theorem dX10_pass_0 : decode cX10_pass 0 = .ok (.aload_n 0, 1) := by decide +kernel
theorem dX10_pass_1 : decode cX10_pass 1 = .ok (.iload_n 1, 1) := by decide +kernel
theorem dX10_pass_2 : decode cX10_pass 2 = .ok (.iconst 1, 1) := by decide +kernel
theorem dX10_pass_3 : decode cX10_pass 3 = .ok (.sipush 400, 3) := by decide +kernel
theorem dX10_pass_6 : decode cX10_pass 6 = .ok (.invokestatic 58, 3) := by decide +kernel
theorem dX10_pass_9 : decode cX10_pass 9 = .ok (.ifCond .ne 7, 3) := by decide +kernel
theorem dX10_pass_12 : decode cX10_pass 12 = .ok (.iconst 1, 1) := by decide +kernel
theorem dX10_pass_13 : decode cX10_pass 13 = .ok (.goto 4, 3) := by decide +kernel
theorem dX10_pass_16 : decode cX10_pass 16 = .ok (.iconst 0, 1) := by decide +kernel
theorem dX10_pass_17 : decode cX10_pass 17 = .ok (.iconst 1, 1) := by decide +kernel
theorem dX10_pass_18 : decode cX10_pass 18 = .ok (.invokevirtual 79, 3) := by decide +kernel
theorem dX10_pass_21 : decode cX10_pass 21 = .ok (.ifCond .ne 28, 3) := by decide +kernel
theorem dX10_pass_24 : decode cX10_pass 24 = .ok (.aload_n 0, 1) := by decide +kernel
theorem dX10_pass_25 : decode cX10_pass 25 = .ok (.aload_n 0, 1) := by decide +kernel
theorem dX10_pass_26 : decode cX10_pass 26 = .ok (.getfield 127, 3) := by decide +kernel
theorem dX10_pass_29 : decode cX10_pass 29 = .ok (.iload_n 1, 1) := by decide +kernel
theorem dX10_pass_30 : decode cX10_pass 30 = .ok (.iadd, 1) := by decide +kernel
theorem dX10_pass_31 : decode cX10_pass 31 = .ok (.sipush 3000, 3) := by decide +kernel
theorem dX10_pass_34 : decode cX10_pass 34 = .ok (.if_icmp .le 7, 3) := by decide +kernel
theorem dX10_pass_37 : decode cX10_pass 37 = .ok (.iconst 1, 1) := by decide +kernel
theorem dX10_pass_38 : decode cX10_pass 38 = .ok (.goto 4, 3) := by decide +kernel
theorem dX10_pass_41 : decode cX10_pass 41 = .ok (.iconst 0, 1) := by decide +kernel
theorem dX10_pass_42 : decode cX10_pass 42 = .ok (.iconst 2, 1) := by decide +kernel
theorem dX10_pass_43 : decode cX10_pass 43 = .ok (.invokevirtual 50, 3) := by decide +kernel
theorem dX10_pass_46 : decode cX10_pass 46 = .ok (.ifCond .eq 5, 3) := by decide +kernel
theorem dX10_pass_49 : decode cX10_pass 49 = .ok (.iconst 0, 1) := by decide +kernel
theorem dX10_pass_50 : decode cX10_pass 50 = .ok (.ireturn, 1) := by decide +kernel
theorem dX10_pass_51 : decode cX10_pass 51 = .ok (.iconst 0, 1) := by decide +kernel
theorem dX10_pass_52 : decode cX10_pass 52 = .ok (.istore_n 2, 1) := by decide +kernel
theorem dX10_pass_53 : decode cX10_pass 53 = .ok (.iload_n 2, 1) := by decide +kernel
theorem dX10_pass_54 : decode cX10_pass 54 = .ok (.iload_n 1, 1) := by decide +kernel
theorem dX10_pass_55 : decode cX10_pass 55 = .ok (.if_icmp .ge 177, 3) := by decide +kernel
theorem dX10_pass_58 : decode cX10_pass 58 = .ok (.aload_n 0, 1) := by decide +kernel
theorem dX10_pass_59 : decode cX10_pass 59 = .ok (.dup, 1) := by decide +kernel
theorem dX10_pass_60 : decode cX10_pass 60 = .ok (.getfield 127, 3) := by decide +kernel
theorem dX10_pass_63 : decode cX10_pass 63 = .ok (.iconst 1, 1) := by decide +kernel
theorem dX10_pass_64 : decode cX10_pass 64 = .ok (.iadd, 1) := by decide +kernel
theorem dX10_pass_65 : decode cX10_pass 65 = .ok (.putfield 127, 3) := by decide +kernel
theorem dX10_pass_68 : decode cX10_pass 68 = .ok (.aload_n 0, 1) := by decide +kernel
theorem dX10_pass_69 : decode cX10_pass 69 = .ok (.getfield 41, 3) := by decide +kernel
theorem dX10_pass_72 : decode cX10_pass 72 = .ok (.invokevirtual 136, 3) := by decide +kernel
theorem dX10_pass_75 : decode cX10_pass 75 = .ok (.astore_n 3, 1) := by decide +kernel
theorem dX10_pass_76 : decode cX10_pass 76 = .ok (.aload_n 3, 1) := by decide +kernel
theorem dX10_pass_77 : decode cX10_pass 77 = .ok (.invokeinterface 140 1, 5) := by decide +kernel
theorem dX10_pass_82 : decode cX10_pass 82 = .ok (.ifCond .eq 63, 3) := by decide +kernel
theorem dX10_pass_85 : decode cX10_pass 85 = .ok (.aload_n 3, 1) := by decide +kernel
theorem dX10_pass_86 : decode cX10_pass 86 = .ok (.invokeinterface 146 1, 5) := by decide +kernel
theorem dX10_pass_91 : decode cX10_pass 91 = .ok (.checkcast 107, 3) := by decide +kernel
theorem dX10_pass_94 : decode cX10_pass 94 = .ok (.astore 4, 2) := by decide +kernel
theorem dX10_pass_96 : decode cX10_pass 96 = .ok (.aload 4, 2) := by decide +kernel
theorem dX10_pass_98 : decode cX10_pass 98 = .ok (.getfield 110, 3) := by decide +kernel
theorem dX10_pass_101 : decode cX10_pass 101 = .ok (.iconst (-1), 1) := by decide +kernel
theorem dX10_pass_102 : decode cX10_pass 102 = .ok (.if_icmp .ne (-26), 3) := by decide +kernel
theorem dX10_pass_105 : decode cX10_pass 105 = .ok (.aload 4, 2) := by decide +kernel
theorem dX10_pass_107 : decode cX10_pass 107 = .ok (.getfield 130, 3) := by decide +kernel
theorem dX10_pass_110 : decode cX10_pass 110 = .ok (.aload_n 0, 1) := by decide +kernel
theorem dX10_pass_111 : decode cX10_pass 111 = .ok (.getfield 127, 3) := by decide +kernel
theorem dX10_pass_114 : decode cX10_pass 114 = .ok (.if_icmp .eq 6, 3) := by decide +kernel
theorem dX10_pass_117 : decode cX10_pass 117 = .ok (.goto (-41), 3) := by decide +kernel
theorem dX10_pass_120 : decode cX10_pass 120 = .ok (.aload 4, 2) := by decide +kernel
theorem dX10_pass_122 : decode cX10_pass 122 = .ok (.aload 4, 2) := by decide +kernel
theorem dX10_pass_124 : decode cX10_pass 124 = .ok (.getfield 133, 3) := by decide +kernel
theorem dX10_pass_127 : decode cX10_pass 127 = .ok (.putfield 110, 3) := by decide +kernel
theorem dX10_pass_130 : decode cX10_pass 130 = .ok (.aload 4, 2) := by decide +kernel
theorem dX10_pass_132 : decode cX10_pass 132 = .ok (.iconst (-1), 1) := by decide +kernel
theorem dX10_pass_133 : decode cX10_pass 133 = .ok (.putfield 133, 3) := by decide +kernel
theorem dX10_pass_136 : decode cX10_pass 136 = .ok (.aload 4, 2) := by decide +kernel
theorem dX10_pass_138 : decode cX10_pass 138 = .ok (.iconst (-1), 1) := by decide +kernel
theorem dX10_pass_139 : decode cX10_pass 139 = .ok (.putfield 130, 3) := by decide +kernel
theorem dX10_pass_142 : decode cX10_pass 142 = .ok (.goto (-66), 3) := by decide +kernel
theorem dX10_pass_145 : decode cX10_pass 145 = .ok (.aload_n 0, 1) := by decide +kernel
theorem dX10_pass_146 : decode cX10_pass 146 = .ok (.getfield 37, 3) := by decide +kernel
theorem dX10_pass_149 : decode cX10_pass 149 = .ok (.invokevirtual 136, 3) := by decide +kernel
theorem dX10_pass_152 : decode cX10_pass 152 = .ok (.astore_n 3, 1) := by decide +kernel
theorem dX10_pass_153 : decode cX10_pass 153 = .ok (.aload_n 3, 1) := by decide +kernel
theorem dX10_pass_154 : decode cX10_pass 154 = .ok (.invokeinterface 140 1, 5) := by decide +kernel
theorem dX10_pass_159 : decode cX10_pass 159 = .ok (.ifCond .eq 67, 3) := by decide +kernel
theorem dX10_pass_162 : decode cX10_pass 162 = .ok (.aload_n 3, 1) := by decide +kernel
theorem dX10_pass_163 : decode cX10_pass 163 = .ok (.invokeinterface 146 1, 5) := by decide +kernel
theorem dX10_pass_168 : decode cX10_pass 168 = .ok (.checkcast 63, 3) := by decide +kernel
theorem dX10_pass_171 : decode cX10_pass 171 = .ok (.astore 4, 2) := by decide +kernel
theorem dX10_pass_173 : decode cX10_pass 173 = .ok (.aload_n 0, 1) := by decide +kernel
theorem dX10_pass_174 : decode cX10_pass 174 = .ok (.getfield 127, 3) := by decide +kernel
theorem dX10_pass_177 : decode cX10_pass 177 = .ok (.bipush 30, 2) := by decide +kernel
theorem dX10_pass_179 : decode cX10_pass 179 = .ok (.irem, 1) := by decide +kernel
theorem dX10_pass_180 : decode cX10_pass 180 = .ok (.ifCond .ne 17, 3) := by decide +kernel
theorem dX10_pass_183 : decode cX10_pass 183 = .ok (.aload 4, 2) := by decide +kernel
theorem dX10_pass_185 : decode cX10_pass 185 = .ok (.getfield 83, 3) := by decide +kernel
theorem dX10_pass_188 : decode cX10_pass 188 = .ok (.iconst 1, 1) := by decide +kernel
theorem dX10_pass_189 : decode cX10_pass 189 = .ok (.laload, 1) := by decide +kernel
theorem dX10_pass_190 : decode cX10_pass 190 = .ok (.ldc2_w 150, 3) := by decide +kernel
theorem dX10_pass_193 : decode cX10_pass 193 = .ok (.ldiv, 1) := by decide +kernel
theorem dX10_pass_194 : decode cX10_pass 194 = .ok (.goto 4, 3) := by decide +kernel
theorem dX10_pass_197 : decode cX10_pass 197 = .ok (.lconst 0, 1) := by decide +kernel
theorem dX10_pass_198 : decode cX10_pass 198 = .ok (.lstore 5, 2) := by decide +kernel
theorem dX10_pass_200 : decode cX10_pass 200 = .ok (.aload 4, 2) := by decide +kernel
theorem dX10_pass_202 : decode cX10_pass 202 = .ok (.getfield 83, 3) := by decide +kernel
theorem dX10_pass_205 : decode cX10_pass 205 = .ok (.iconst 1, 1) := by decide +kernel
theorem dX10_pass_206 : decode cX10_pass 206 = .ok (.dup2, 1) := by decide +kernel
theorem dX10_pass_207 : decode cX10_pass 207 = .ok (.laload, 1) := by decide +kernel
theorem dX10_pass_208 : decode cX10_pass 208 = .ok (.lload 5, 2) := by decide +kernel
theorem dX10_pass_210 : decode cX10_pass 210 = .ok (.lsub, 1) := by decide +kernel
theorem dX10_pass_211 : decode cX10_pass 211 = .ok (.lastore, 1) := by decide +kernel
theorem dX10_pass_212 : decode cX10_pass 212 = .ok (.aload_n 0, 1) := by decide +kernel
theorem dX10_pass_213 : decode cX10_pass 213 = .ok (.getfield 28, 3) := by decide +kernel
theorem dX10_pass_216 : decode cX10_pass 216 = .ok (.iconst 1, 1) := by decide +kernel
theorem dX10_pass_217 : decode cX10_pass 217 = .ok (.dup2, 1) := by decide +kernel
theorem dX10_pass_218 : decode cX10_pass 218 = .ok (.laload, 1) := by decide +kernel
theorem dX10_pass_219 : decode cX10_pass 219 = .ok (.lload 5, 2) := by decide +kernel
theorem dX10_pass_221 : decode cX10_pass 221 = .ok (.ladd, 1) := by decide +kernel
theorem dX10_pass_222 : decode cX10_pass 222 = .ok (.lastore, 1) := by decide +kernel
theorem dX10_pass_223 : decode cX10_pass 223 = .ok (.goto (-70), 3) := by decide +kernel
theorem dX10_pass_226 : decode cX10_pass 226 = .ok (.iinc 2 1, 3) := by decide +kernel
theorem dX10_pass_229 : decode cX10_pass 229 = .ok (.goto (-176), 3) := by decide +kernel
theorem dX10_pass_232 : decode cX10_pass 232 = .ok (.aload_n 0, 1) := by decide +kernel
theorem dX10_pass_233 : decode cX10_pass 233 = .ok (.getfield 127, 3) := by decide +kernel
theorem dX10_pass_236 : decode cX10_pass 236 = .ok (.ireturn, 1) := by decide +kernel
theorem dX10_owe_0 : decode cX10_owe 0 = .ok (.aload_n 0, 1) := by decide +kernel
theorem dX10_owe_1 : decode cX10_owe 1 = .ok (.aload_n 0, 1) := by decide +kernel
theorem dX10_owe_2 : decode cX10_owe 2 = .ok (.iload_n 1, 1) := by decide +kernel
theorem dX10_owe_3 : decode cX10_owe 3 = .ok (.invokevirtual 120, 3) := by decide +kernel
theorem dX10_owe_6 : decode cX10_owe 6 = .ok (.ifCond .ne 11, 3) := by decide +kernel
theorem dX10_owe_9 : decode cX10_owe 9 = .ok (.aload_n 0, 1) := by decide +kernel
theorem dX10_owe_10 : decode cX10_owe 10 = .ok (.iload_n 2, 1) := by decide +kernel
theorem dX10_owe_11 : decode cX10_owe 11 = .ok (.invokevirtual 120, 3) := by decide +kernel
theorem dX10_owe_14 : decode cX10_owe 14 = .ok (.ifCond .eq 7, 3) := by decide +kernel
theorem dX10_owe_17 : decode cX10_owe 17 = .ok (.iconst 1, 1) := by decide +kernel
theorem dX10_owe_18 : decode cX10_owe 18 = .ok (.goto 4, 3) := by decide +kernel
theorem dX10_owe_21 : decode cX10_owe 21 = .ok (.iconst 0, 1) := by decide +kernel
theorem dX10_owe_22 : decode cX10_owe 22 = .ok (.iconst 1, 1) := by decide +kernel
theorem dX10_owe_23 : decode cX10_owe 23 = .ok (.invokevirtual 79, 3) := by decide +kernel
theorem dX10_owe_26 : decode cX10_owe 26 = .ok (.ifCond .ne 69, 3) := by decide +kernel
theorem dX10_owe_29 : decode cX10_owe 29 = .ok (.aload_n 0, 1) := by decide +kernel
theorem dX10_owe_30 : decode cX10_owe 30 = .ok (.iload_n 1, 1) := by decide +kernel
theorem dX10_owe_31 : decode cX10_owe 31 = .ok (.iload_n 2, 1) := by decide +kernel
theorem dX10_owe_32 : decode cX10_owe 32 = .ok (.if_icmp .eq 26, 3) := by decide +kernel
theorem dX10_owe_35 : decode cX10_owe 35 = .ok (.iload_n 3, 1) := by decide +kernel
theorem dX10_owe_36 : decode cX10_owe 36 = .ok (.iconst 1, 1) := by decide +kernel
theorem dX10_owe_37 : decode cX10_owe 37 = .ok (.sipush 9999, 3) := by decide +kernel
theorem dX10_owe_40 : decode cX10_owe 40 = .ok (.invokestatic 58, 3) := by decide +kernel
theorem dX10_owe_43 : decode cX10_owe 43 = .ok (.ifCond .eq 15, 3) := by decide +kernel
theorem dX10_owe_46 : decode cX10_owe 46 = .ok (.iload 4, 2) := by decide +kernel
theorem dX10_owe_48 : decode cX10_owe 48 = .ok (.iconst 0, 1) := by decide +kernel
theorem dX10_owe_49 : decode cX10_owe 49 = .ok (.sipush 1000, 3) := by decide +kernel
theorem dX10_owe_52 : decode cX10_owe 52 = .ok (.invokestatic 58, 3) := by decide +kernel
theorem dX10_owe_55 : decode cX10_owe 55 = .ok (.ifCond .ne 7, 3) := by decide +kernel
theorem dX10_owe_58 : decode cX10_owe 58 = .ok (.iconst 1, 1) := by decide +kernel
theorem dX10_owe_59 : decode cX10_owe 59 = .ok (.goto 4, 3) := by decide +kernel
theorem dX10_owe_62 : decode cX10_owe 62 = .ok (.iconst 0, 1) := by decide +kernel
theorem dX10_owe_63 : decode cX10_owe 63 = .ok (.iconst 2, 1) := by decide +kernel
theorem dX10_owe_64 : decode cX10_owe 64 = .ok (.invokevirtual 50, 3) := by decide +kernel
theorem dX10_owe_67 : decode cX10_owe 67 = .ok (.ifCond .ne 28, 3) := by decide +kernel
theorem dX10_owe_70 : decode cX10_owe 70 = .ok (.aload_n 0, 1) := by decide +kernel
theorem dX10_owe_71 : decode cX10_owe 71 = .ok (.aload_n 0, 1) := by decide +kernel
theorem dX10_owe_72 : decode cX10_owe 72 = .ok (.getfield 44, 3) := by decide +kernel
theorem dX10_owe_75 : decode cX10_owe 75 = .ok (.invokevirtual 54, 3) := by decide +kernel
theorem dX10_owe_78 : decode cX10_owe 78 = .ok (.bipush 10, 2) := by decide +kernel
theorem dX10_owe_80 : decode cX10_owe 80 = .ok (.if_icmp .ne 7, 3) := by decide +kernel
theorem dX10_owe_83 : decode cX10_owe 83 = .ok (.iconst 1, 1) := by decide +kernel
theorem dX10_owe_84 : decode cX10_owe 84 = .ok (.goto 4, 3) := by decide +kernel
theorem dX10_owe_87 : decode cX10_owe 87 = .ok (.iconst 0, 1) := by decide +kernel
theorem dX10_owe_88 : decode cX10_owe 88 = .ok (.iconst 3, 1) := by decide +kernel
theorem dX10_owe_89 : decode cX10_owe 89 = .ok (.invokevirtual 50, 3) := by decide +kernel
theorem dX10_owe_92 : decode cX10_owe 92 = .ok (.ifCond .eq 5, 3) := by decide +kernel
theorem dX10_owe_95 : decode cX10_owe 95 = .ok (.iconst 0, 1) := by decide +kernel
theorem dX10_owe_96 : decode cX10_owe 96 = .ok (.ireturn, 1) := by decide +kernel
theorem dX10_owe_97 : decode cX10_owe 97 = .ok (.new 152, 3) := by decide +kernel
theorem dX10_owe_100 : decode cX10_owe 100 = .ok (.dup, 1) := by decide +kernel
theorem dX10_owe_101 : decode cX10_owe 101 = .ok (.invokespecial 154, 3) := by decide +kernel
theorem dX10_owe_104 : decode cX10_owe 104 = .ok (.astore 5, 2) := by decide +kernel
theorem dX10_owe_106 : decode cX10_owe 106 = .ok (.aload 5, 2) := by decide +kernel
theorem dX10_owe_108 : decode cX10_owe 108 = .ok (.iload_n 1, 1) := by decide +kernel
theorem dX10_owe_109 : decode cX10_owe 109 = .ok (.putfield 155, 3) := by decide +kernel
theorem dX10_owe_112 : decode cX10_owe 112 = .ok (.aload 5, 2) := by decide +kernel
theorem dX10_owe_114 : decode cX10_owe 114 = .ok (.iload_n 2, 1) := by decide +kernel
theorem dX10_owe_115 : decode cX10_owe 115 = .ok (.putfield 158, 3) := by decide +kernel
theorem dX10_owe_118 : decode cX10_owe 118 = .ok (.aload 5, 2) := by decide +kernel
theorem dX10_owe_120 : decode cX10_owe 120 = .ok (.iload_n 3, 1) := by decide +kernel
theorem dX10_owe_121 : decode cX10_owe 121 = .ok (.putfield 159, 3) := by decide +kernel
theorem dX10_owe_124 : decode cX10_owe 124 = .ok (.aload 5, 2) := by decide +kernel
theorem dX10_owe_126 : decode cX10_owe 126 = .ok (.aload_n 0, 1) := by decide +kernel
theorem dX10_owe_127 : decode cX10_owe 127 = .ok (.getfield 127, 3) := by decide +kernel
theorem dX10_owe_130 : decode cX10_owe 130 = .ok (.iload 4, 2) := by decide +kernel
theorem dX10_owe_132 : decode cX10_owe 132 = .ok (.iadd, 1) := by decide +kernel
theorem dX10_owe_133 : decode cX10_owe 133 = .ok (.putfield 162, 3) := by decide +kernel
theorem dX10_owe_136 : decode cX10_owe 136 = .ok (.aload_n 0, 1) := by decide +kernel
theorem dX10_owe_137 : decode cX10_owe 137 = .ok (.getfield 44, 3) := by decide +kernel
theorem dX10_owe_140 : decode cX10_owe 140 = .ok (.aload 5, 2) := by decide +kernel
theorem dX10_owe_142 : decode cX10_owe 142 = .ok (.invokevirtual 86, 3) := by decide +kernel
theorem dX10_owe_145 : decode cX10_owe 145 = .ok (.pop, 1) := by decide +kernel
theorem dX10_owe_146 : decode cX10_owe 146 = .ok (.aload_n 0, 1) := by decide +kernel
theorem dX10_owe_147 : decode cX10_owe 147 = .ok (.getfield 44, 3) := by decide +kernel
theorem dX10_owe_150 : decode cX10_owe 150 = .ok (.invokevirtual 54, 3) := by decide +kernel
theorem dX10_owe_153 : decode cX10_owe 153 = .ok (.iconst 1, 1) := by decide +kernel
theorem dX10_owe_154 : decode cX10_owe 154 = .ok (.isub, 1) := by decide +kernel
theorem dX10_owe_155 : decode cX10_owe 155 = .ok (.ireturn, 1) := by decide +kernel
theorem dX10_due_0 : decode cX10_due 0 = .ok (.aload_n 1, 1) := by decide +kernel
theorem dX10_due_1 : decode cX10_due 1 = .ok (.getfield 163, 3) := by decide +kernel
theorem dX10_due_4 : decode cX10_due 4 = .ok (.ifCond .eq 7, 3) := by decide +kernel
theorem dX10_due_7 : decode cX10_due 7 = .ok (.iconst 0, 1) := by decide +kernel
theorem dX10_due_8 : decode cX10_due 8 = .ok (.goto 32, 3) := by decide +kernel
theorem dX10_due_11 : decode cX10_due 11 = .ok (.aload_n 1, 1) := by decide +kernel
theorem dX10_due_12 : decode cX10_due 12 = .ok (.getfield 159, 3) := by decide +kernel
theorem dX10_due_15 : decode cX10_due 15 = .ok (.aload_n 1, 1) := by decide +kernel
theorem dX10_due_16 : decode cX10_due 16 = .ok (.getfield 159, 3) := by decide +kernel
theorem dX10_due_19 : decode cX10_due 19 = .ok (.bipush 100, 2) := by decide +kernel
theorem dX10_due_21 : decode cX10_due 21 = .ok (.idiv, 1) := by decide +kernel
theorem dX10_due_22 : decode cX10_due 22 = .ok (.iconst 0, 1) := by decide +kernel
theorem dX10_due_23 : decode cX10_due 23 = .ok (.aload_n 0, 1) := by decide +kernel
theorem dX10_due_24 : decode cX10_due 24 = .ok (.getfield 127, 3) := by decide +kernel
theorem dX10_due_27 : decode cX10_due 27 = .ok (.aload_n 1, 1) := by decide +kernel
theorem dX10_due_28 : decode cX10_due 28 = .ok (.getfield 162, 3) := by decide +kernel
theorem dX10_due_31 : decode cX10_due 31 = .ok (.isub, 1) := by decide +kernel
theorem dX10_due_32 : decode cX10_due 32 = .ok (.invokestatic 167, 3) := by decide +kernel
theorem dX10_due_35 : decode cX10_due 35 = .ok (.bipush 10, 2) := by decide +kernel
theorem dX10_due_37 : decode cX10_due 37 = .ok (.idiv, 1) := by decide +kernel
theorem dX10_due_38 : decode cX10_due 38 = .ok (.imul, 1) := by decide +kernel
theorem dX10_due_39 : decode cX10_due 39 = .ok (.iadd, 1) := by decide +kernel
theorem dX10_due_40 : decode cX10_due 40 = .ok (.ireturn, 1) := by decide +kernel
theorem dX10_toPay_0 : decode cX10_toPay 0 = .ok (.iload_n 2, 1) := by decide +kernel
theorem dX10_toPay_1 : decode cX10_toPay 1 = .ok (.iconst 1, 1) := by decide +kernel
theorem dX10_toPay_2 : decode cX10_toPay 2 = .ok (.if_icmp .ne 12, 3) := by decide +kernel
theorem dX10_toPay_5 : decode cX10_toPay 5 = .ok (.aload_n 0, 1) := by decide +kernel
theorem dX10_toPay_6 : decode cX10_toPay 6 = .ok (.aload_n 1, 1) := by decide +kernel
theorem dX10_toPay_7 : decode cX10_toPay 7 = .ok (.invokevirtual 173, 3) := by decide +kernel
theorem dX10_toPay_10 : decode cX10_toPay 10 = .ok (.i2l, 1) := by decide +kernel
theorem dX10_toPay_11 : decode cX10_toPay 11 = .ok (.goto 47, 3) := by decide +kernel
theorem dX10_toPay_14 : decode cX10_toPay 14 = .ok (.ldc2_w 67, 3) := by decide +kernel
theorem dX10_toPay_17 : decode cX10_toPay 17 = .ok (.aload_n 0, 1) := by decide +kernel
theorem dX10_toPay_18 : decode cX10_toPay 18 = .ok (.aload_n 1, 1) := by decide +kernel
theorem dX10_toPay_19 : decode cX10_toPay 19 = .ok (.invokevirtual 173, 3) := by decide +kernel
theorem dX10_toPay_22 : decode cX10_toPay 22 = .ok (.i2l, 1) := by decide +kernel
theorem dX10_toPay_23 : decode cX10_toPay 23 = .ok (.lmul, 1) := by decide +kernel
theorem dX10_toPay_24 : decode cX10_toPay 24 = .ok (.aload_n 0, 1) := by decide +kernel
theorem dX10_toPay_25 : decode cX10_toPay 25 = .ok (.getfield 37, 3) := by decide +kernel
theorem dX10_toPay_28 : decode cX10_toPay 28 = .ok (.aload_n 0, 1) := by decide +kernel
theorem dX10_toPay_29 : decode cX10_toPay 29 = .ok (.getfield 41, 3) := by decide +kernel
theorem dX10_toPay_32 : decode cX10_toPay 32 = .ok (.aload_n 1, 1) := by decide +kernel
theorem dX10_toPay_33 : decode cX10_toPay 33 = .ok (.getfield 155, 3) := by decide +kernel
theorem dX10_toPay_36 : decode cX10_toPay 36 = .ok (.invokevirtual 94, 3) := by decide +kernel
theorem dX10_toPay_39 : decode cX10_toPay 39 = .ok (.checkcast 107, 3) := by decide +kernel
theorem dX10_toPay_42 : decode cX10_toPay 42 = .ok (.getfield 110, 3) := by decide +kernel
theorem dX10_toPay_45 : decode cX10_toPay 45 = .ok (.invokevirtual 94, 3) := by decide +kernel
theorem dX10_toPay_48 : decode cX10_toPay 48 = .ok (.checkcast 63, 3) := by decide +kernel
theorem dX10_toPay_51 : decode cX10_toPay 51 = .ok (.getfield 62, 3) := by decide +kernel
theorem dX10_toPay_54 : decode cX10_toPay 54 = .ok (.i2l, 1) := by decide +kernel
theorem dX10_toPay_55 : decode cX10_toPay 55 = .ok (.invokestatic 74, 3) := by decide +kernel
theorem dX10_toPay_58 : decode cX10_toPay 58 = .ok (.lreturn, 1) := by decide +kernel
theorem dX10_isNoPay_0 : decode cX10_isNoPay 0 = .ok (.aload_n 0, 1) := by decide +kernel
theorem dX10_isNoPay_1 : decode cX10_isNoPay 1 = .ok (.getfield 41, 3) := by decide +kernel
theorem dX10_isNoPay_4 : decode cX10_isNoPay 4 = .ok (.aload_n 1, 1) := by decide +kernel
theorem dX10_isNoPay_5 : decode cX10_isNoPay 5 = .ok (.getfield 155, 3) := by decide +kernel
theorem dX10_isNoPay_8 : decode cX10_isNoPay 8 = .ok (.invokevirtual 94, 3) := by decide +kernel
theorem dX10_isNoPay_11 : decode cX10_isNoPay 11 = .ok (.checkcast 107, 3) := by decide +kernel
theorem dX10_isNoPay_14 : decode cX10_isNoPay 14 = .ok (.astore_n 3, 1) := by decide +kernel
theorem dX10_isNoPay_15 : decode cX10_isNoPay 15 = .ok (.aload_n 1, 1) := by decide +kernel
theorem dX10_isNoPay_16 : decode cX10_isNoPay 16 = .ok (.getfield 163, 3) := by decide +kernel
theorem dX10_isNoPay_19 : decode cX10_isNoPay 19 = .ok (.ifCond .ne 48, 3) := by decide +kernel
theorem dX10_isNoPay_22 : decode cX10_isNoPay 22 = .ok (.aload_n 3, 1) := by decide +kernel
theorem dX10_isNoPay_23 : decode cX10_isNoPay 23 = .ok (.getfield 110, 3) := by decide +kernel
theorem dX10_isNoPay_26 : decode cX10_isNoPay 26 = .ok (.iconst (-1), 1) := by decide +kernel
theorem dX10_isNoPay_27 : decode cX10_isNoPay 27 = .ok (.if_icmp .eq 40, 3) := by decide +kernel
theorem dX10_isNoPay_30 : decode cX10_isNoPay 30 = .ok (.aload_n 0, 1) := by decide +kernel
theorem dX10_isNoPay_31 : decode cX10_isNoPay 31 = .ok (.getfield 41, 3) := by decide +kernel
theorem dX10_isNoPay_34 : decode cX10_isNoPay 34 = .ok (.aload_n 1, 1) := by decide +kernel
theorem dX10_isNoPay_35 : decode cX10_isNoPay 35 = .ok (.getfield 158, 3) := by decide +kernel
theorem dX10_isNoPay_38 : decode cX10_isNoPay 38 = .ok (.invokevirtual 94, 3) := by decide +kernel
theorem dX10_isNoPay_41 : decode cX10_isNoPay 41 = .ok (.checkcast 107, 3) := by decide +kernel
theorem dX10_isNoPay_44 : decode cX10_isNoPay 44 = .ok (.getfield 110, 3) := by decide +kernel
theorem dX10_isNoPay_47 : decode cX10_isNoPay 47 = .ok (.iconst (-1), 1) := by decide +kernel
theorem dX10_isNoPay_48 : decode cX10_isNoPay 48 = .ok (.if_icmp .eq 19, 3) := by decide +kernel
theorem dX10_isNoPay_51 : decode cX10_isNoPay 51 = .ok (.aload_n 3, 1) := by decide +kernel
theorem dX10_isNoPay_52 : decode cX10_isNoPay 52 = .ok (.getfield 113, 3) := by decide +kernel
theorem dX10_isNoPay_55 : decode cX10_isNoPay 55 = .ok (.iload_n 2, 1) := by decide +kernel
theorem dX10_isNoPay_56 : decode cX10_isNoPay 56 = .ok (.laload, 1) := by decide +kernel
theorem dX10_isNoPay_57 : decode cX10_isNoPay 57 = .ok (.aload_n 0, 1) := by decide +kernel
theorem dX10_isNoPay_58 : decode cX10_isNoPay 58 = .ok (.aload_n 1, 1) := by decide +kernel
theorem dX10_isNoPay_59 : decode cX10_isNoPay 59 = .ok (.iload_n 2, 1) := by decide +kernel
theorem dX10_isNoPay_60 : decode cX10_isNoPay 60 = .ok (.invokevirtual 177, 3) := by decide +kernel
theorem dX10_isNoPay_63 : decode cX10_isNoPay 63 = .ok (.lcmp, 1) := by decide +kernel
theorem dX10_isNoPay_64 : decode cX10_isNoPay 64 = .ok (.ifCond .ge 7, 3) := by decide +kernel
theorem dX10_isNoPay_67 : decode cX10_isNoPay 67 = .ok (.iconst 1, 1) := by decide +kernel
theorem dX10_isNoPay_68 : decode cX10_isNoPay 68 = .ok (.goto 4, 3) := by decide +kernel
theorem dX10_isNoPay_71 : decode cX10_isNoPay 71 = .ok (.iconst 0, 1) := by decide +kernel
theorem dX10_isNoPay_72 : decode cX10_isNoPay 72 = .ok (.ireturn, 1) := by decide +kernel
theorem dX10_settle_0 : decode cX10_settle 0 = .ok (.aload_n 0, 1) := by decide +kernel
theorem dX10_settle_1 : decode cX10_settle 1 = .ok (.iload_n 1, 1) := by decide +kernel
theorem dX10_settle_2 : decode cX10_settle 2 = .ok (.iconst 0, 1) := by decide +kernel
theorem dX10_settle_3 : decode cX10_settle 3 = .ok (.aload_n 0, 1) := by decide +kernel
theorem dX10_settle_4 : decode cX10_settle 4 = .ok (.getfield 44, 3) := by decide +kernel
theorem dX10_settle_7 : decode cX10_settle 7 = .ok (.invokevirtual 54, 3) := by decide +kernel
theorem dX10_settle_10 : decode cX10_settle 10 = .ok (.iconst 1, 1) := by decide +kernel
theorem dX10_settle_11 : decode cX10_settle 11 = .ok (.isub, 1) := by decide +kernel
theorem dX10_settle_12 : decode cX10_settle 12 = .ok (.invokestatic 58, 3) := by decide +kernel
theorem dX10_settle_15 : decode cX10_settle 15 = .ok (.ifCond .ne 7, 3) := by decide +kernel
theorem dX10_settle_18 : decode cX10_settle 18 = .ok (.iconst 1, 1) := by decide +kernel
theorem dX10_settle_19 : decode cX10_settle 19 = .ok (.goto 4, 3) := by decide +kernel
theorem dX10_settle_22 : decode cX10_settle 22 = .ok (.iconst 0, 1) := by decide +kernel
theorem dX10_settle_23 : decode cX10_settle 23 = .ok (.iconst 1, 1) := by decide +kernel
theorem dX10_settle_24 : decode cX10_settle 24 = .ok (.invokevirtual 79, 3) := by decide +kernel
theorem dX10_settle_27 : decode cX10_settle 27 = .ok (.ifCond .ne 39, 3) := by decide +kernel
theorem dX10_settle_30 : decode cX10_settle 30 = .ok (.aload_n 0, 1) := by decide +kernel
theorem dX10_settle_31 : decode cX10_settle 31 = .ok (.iload_n 2, 1) := by decide +kernel
theorem dX10_settle_32 : decode cX10_settle 32 = .ok (.invokestatic 98, 3) := by decide +kernel
theorem dX10_settle_35 : decode cX10_settle 35 = .ok (.iconst 2, 1) := by decide +kernel
theorem dX10_settle_36 : decode cX10_settle 36 = .ok (.invokevirtual 50, 3) := by decide +kernel
theorem dX10_settle_39 : decode cX10_settle 39 = .ok (.ifCond .ne 27, 3) := by decide +kernel
theorem dX10_settle_42 : decode cX10_settle 42 = .ok (.aload_n 0, 1) := by decide +kernel
theorem dX10_settle_43 : decode cX10_settle 43 = .ok (.aload_n 0, 1) := by decide +kernel
theorem dX10_settle_44 : decode cX10_settle 44 = .ok (.aload_n 0, 1) := by decide +kernel
theorem dX10_settle_45 : decode cX10_settle 45 = .ok (.getfield 44, 3) := by decide +kernel
theorem dX10_settle_48 : decode cX10_settle 48 = .ok (.iload_n 1, 1) := by decide +kernel
theorem dX10_settle_49 : decode cX10_settle 49 = .ok (.invokevirtual 94, 3) := by decide +kernel
theorem dX10_settle_52 : decode cX10_settle 52 = .ok (.checkcast 152, 3) := by decide +kernel
theorem dX10_settle_55 : decode cX10_settle 55 = .ok (.iload_n 2, 1) := by decide +kernel
theorem dX10_settle_56 : decode cX10_settle 56 = .ok (.invokevirtual 181, 3) := by decide +kernel
theorem dX10_settle_59 : decode cX10_settle 59 = .ok (.iconst 3, 1) := by decide +kernel
theorem dX10_settle_60 : decode cX10_settle 60 = .ok (.invokevirtual 50, 3) := by decide +kernel
theorem dX10_settle_63 : decode cX10_settle 63 = .ok (.ifCond .eq 5, 3) := by decide +kernel
theorem dX10_settle_66 : decode cX10_settle 66 = .ok (.iconst 0, 1) := by decide +kernel
theorem dX10_settle_67 : decode cX10_settle 67 = .ok (.ireturn, 1) := by decide +kernel
theorem dX10_settle_68 : decode cX10_settle 68 = .ok (.aload_n 0, 1) := by decide +kernel
theorem dX10_settle_69 : decode cX10_settle 69 = .ok (.getfield 44, 3) := by decide +kernel
theorem dX10_settle_72 : decode cX10_settle 72 = .ok (.iload_n 1, 1) := by decide +kernel
theorem dX10_settle_73 : decode cX10_settle 73 = .ok (.invokevirtual 94, 3) := by decide +kernel
theorem dX10_settle_76 : decode cX10_settle 76 = .ok (.checkcast 152, 3) := by decide +kernel
theorem dX10_settle_79 : decode cX10_settle 79 = .ok (.astore_n 3, 1) := by decide +kernel
theorem dX10_settle_80 : decode cX10_settle 80 = .ok (.aload_n 0, 1) := by decide +kernel
theorem dX10_settle_81 : decode cX10_settle 81 = .ok (.aload_n 3, 1) := by decide +kernel
theorem dX10_settle_82 : decode cX10_settle 82 = .ok (.iload_n 2, 1) := by decide +kernel
theorem dX10_settle_83 : decode cX10_settle 83 = .ok (.invokevirtual 177, 3) := by decide +kernel
theorem dX10_settle_86 : decode cX10_settle 86 = .ok (.lstore 4, 2) := by decide +kernel
theorem dX10_settle_88 : decode cX10_settle 88 = .ok (.aload_n 0, 1) := by decide +kernel
theorem dX10_settle_89 : decode cX10_settle 89 = .ok (.getfield 41, 3) := by decide +kernel
theorem dX10_settle_92 : decode cX10_settle 92 = .ok (.aload_n 3, 1) := by decide +kernel
theorem dX10_settle_93 : decode cX10_settle 93 = .ok (.getfield 155, 3) := by decide +kernel
theorem dX10_settle_96 : decode cX10_settle 96 = .ok (.invokevirtual 94, 3) := by decide +kernel
theorem dX10_settle_99 : decode cX10_settle 99 = .ok (.checkcast 107, 3) := by decide +kernel
theorem dX10_settle_102 : decode cX10_settle 102 = .ok (.getfield 113, 3) := by decide +kernel
theorem dX10_settle_105 : decode cX10_settle 105 = .ok (.iload_n 2, 1) := by decide +kernel
theorem dX10_settle_106 : decode cX10_settle 106 = .ok (.dup2, 1) := by decide +kernel
theorem dX10_settle_107 : decode cX10_settle 107 = .ok (.laload, 1) := by decide +kernel
theorem dX10_settle_108 : decode cX10_settle 108 = .ok (.lload 4, 2) := by decide +kernel
theorem dX10_settle_110 : decode cX10_settle 110 = .ok (.lsub, 1) := by decide +kernel
theorem dX10_settle_111 : decode cX10_settle 111 = .ok (.lastore, 1) := by decide +kernel
theorem dX10_settle_112 : decode cX10_settle 112 = .ok (.aload_n 0, 1) := by decide +kernel
theorem dX10_settle_113 : decode cX10_settle 113 = .ok (.getfield 41, 3) := by decide +kernel
theorem dX10_settle_116 : decode cX10_settle 116 = .ok (.aload_n 3, 1) := by decide +kernel
theorem dX10_settle_117 : decode cX10_settle 117 = .ok (.getfield 158, 3) := by decide +kernel
theorem dX10_settle_120 : decode cX10_settle 120 = .ok (.invokevirtual 94, 3) := by decide +kernel
theorem dX10_settle_123 : decode cX10_settle 123 = .ok (.checkcast 107, 3) := by decide +kernel
theorem dX10_settle_126 : decode cX10_settle 126 = .ok (.getfield 113, 3) := by decide +kernel
theorem dX10_settle_129 : decode cX10_settle 129 = .ok (.iload_n 2, 1) := by decide +kernel
theorem dX10_settle_130 : decode cX10_settle 130 = .ok (.dup2, 1) := by decide +kernel
theorem dX10_settle_131 : decode cX10_settle 131 = .ok (.laload, 1) := by decide +kernel
theorem dX10_settle_132 : decode cX10_settle 132 = .ok (.lload 4, 2) := by decide +kernel
theorem dX10_settle_134 : decode cX10_settle 134 = .ok (.ladd, 1) := by decide +kernel
theorem dX10_settle_135 : decode cX10_settle 135 = .ok (.lastore, 1) := by decide +kernel
theorem dX10_settle_136 : decode cX10_settle 136 = .ok (.aload_n 3, 1) := by decide +kernel
theorem dX10_settle_137 : decode cX10_settle 137 = .ok (.iconst 1, 1) := by decide +kernel
theorem dX10_settle_138 : decode cX10_settle 138 = .ok (.putfield 163, 3) := by decide +kernel
theorem dX10_settle_141 : decode cX10_settle 141 = .ok (.lload 4, 2) := by decide +kernel
theorem dX10_settle_143 : decode cX10_settle 143 = .ok (.l2i, 1) := by decide +kernel
theorem dX10_settle_144 : decode cX10_settle 144 = .ok (.ireturn, 1) := by decide +kernel
theorem dX10_till_0 : decode cX10_till 0 = .ok (.aload_n 0, 1) := by decide +kernel
theorem dX10_till_1 : decode cX10_till 1 = .ok (.aload_n 0, 1) := by decide +kernel
theorem dX10_till_2 : decode cX10_till 2 = .ok (.iload_n 1, 1) := by decide +kernel
theorem dX10_till_3 : decode cX10_till 3 = .ok (.invokevirtual 90, 3) := by decide +kernel
theorem dX10_till_6 : decode cX10_till 6 = .ok (.ifCond .ne 12, 3) := by decide +kernel
theorem dX10_till_9 : decode cX10_till 9 = .ok (.iload_n 2, 1) := by decide +kernel
theorem dX10_till_10 : decode cX10_till 10 = .ok (.iconst 0, 1) := by decide +kernel
theorem dX10_till_11 : decode cX10_till 11 = .ok (.iconst 4, 1) := by decide +kernel
theorem dX10_till_12 : decode cX10_till 12 = .ok (.invokestatic 58, 3) := by decide +kernel
theorem dX10_till_15 : decode cX10_till 15 = .ok (.ifCond .ne 7, 3) := by decide +kernel
theorem dX10_till_18 : decode cX10_till 18 = .ok (.iconst 1, 1) := by decide +kernel
theorem dX10_till_19 : decode cX10_till 19 = .ok (.goto 4, 3) := by decide +kernel
theorem dX10_till_22 : decode cX10_till 22 = .ok (.iconst 0, 1) := by decide +kernel
theorem dX10_till_23 : decode cX10_till 23 = .ok (.iconst 1, 1) := by decide +kernel
theorem dX10_till_24 : decode cX10_till 24 = .ok (.invokevirtual 79, 3) := by decide +kernel
theorem dX10_till_27 : decode cX10_till 27 = .ok (.ifCond .ne 26, 3) := by decide +kernel
theorem dX10_till_30 : decode cX10_till 30 = .ok (.aload_n 0, 1) := by decide +kernel
theorem dX10_till_31 : decode cX10_till 31 = .ok (.iload_n 3, 1) := by decide +kernel
theorem dX10_till_32 : decode cX10_till 32 = .ok (.iconst 0, 1) := by decide +kernel
theorem dX10_till_33 : decode cX10_till 33 = .ok (.bipush 9, 2) := by decide +kernel
theorem dX10_till_35 : decode cX10_till 35 = .ok (.invokestatic 58, 3) := by decide +kernel
theorem dX10_till_38 : decode cX10_till 38 = .ok (.ifCond .ne 7, 3) := by decide +kernel
theorem dX10_till_41 : decode cX10_till 41 = .ok (.iconst 1, 1) := by decide +kernel
theorem dX10_till_42 : decode cX10_till 42 = .ok (.goto 4, 3) := by decide +kernel
theorem dX10_till_45 : decode cX10_till 45 = .ok (.iconst 0, 1) := by decide +kernel
theorem dX10_till_46 : decode cX10_till 46 = .ok (.iconst 2, 1) := by decide +kernel
theorem dX10_till_47 : decode cX10_till 47 = .ok (.invokevirtual 50, 3) := by decide +kernel
theorem dX10_till_50 : decode cX10_till 50 = .ok (.ifCond .eq 5, 3) := by decide +kernel
theorem dX10_till_53 : decode cX10_till 53 = .ok (.iconst 0, 1) := by decide +kernel
theorem dX10_till_54 : decode cX10_till 54 = .ok (.ireturn, 1) := by decide +kernel
theorem dX10_till_55 : decode cX10_till 55 = .ok (.aload_n 0, 1) := by decide +kernel
theorem dX10_till_56 : decode cX10_till 56 = .ok (.getfield 37, 3) := by decide +kernel
theorem dX10_till_59 : decode cX10_till 59 = .ok (.iload_n 1, 1) := by decide +kernel
theorem dX10_till_60 : decode cX10_till 60 = .ok (.invokevirtual 94, 3) := by decide +kernel
theorem dX10_till_63 : decode cX10_till 63 = .ok (.checkcast 63, 3) := by decide +kernel
theorem dX10_till_66 : decode cX10_till 66 = .ok (.getfield 185, 3) := by decide +kernel
theorem dX10_till_69 : decode cX10_till 69 = .ok (.iload_n 2, 1) := by decide +kernel
theorem dX10_till_70 : decode cX10_till 70 = .ok (.iaload, 1) := by decide +kernel
theorem dX10_till_71 : decode cX10_till 71 = .ok (.istore 4, 2) := by decide +kernel
theorem dX10_till_73 : decode cX10_till 73 = .ok (.aload_n 0, 1) := by decide +kernel
theorem dX10_till_74 : decode cX10_till 74 = .ok (.getfield 37, 3) := by decide +kernel
theorem dX10_till_77 : decode cX10_till 77 = .ok (.iload_n 1, 1) := by decide +kernel
theorem dX10_till_78 : decode cX10_till 78 = .ok (.invokevirtual 94, 3) := by decide +kernel
theorem dX10_till_81 : decode cX10_till 81 = .ok (.checkcast 63, 3) := by decide +kernel
theorem dX10_till_84 : decode cX10_till 84 = .ok (.getfield 185, 3) := by decide +kernel
theorem dX10_till_87 : decode cX10_till 87 = .ok (.iload_n 2, 1) := by decide +kernel
theorem dX10_till_88 : decode cX10_till 88 = .ok (.iload_n 3, 1) := by decide +kernel
theorem dX10_till_89 : decode cX10_till 89 = .ok (.iastore, 1) := by decide +kernel
theorem dX10_till_90 : decode cX10_till 90 = .ok (.iload 4, 2) := by decide +kernel
theorem dX10_till_92 : decode cX10_till 92 = .ok (.ireturn, 1) := by decide +kernel
theorem dX10_best_0 : decode cX10_best 0 = .ok (.iload_n 1, 1) := by decide +kernel
theorem dX10_best_1 : decode cX10_best 1 = .ok (.iconst 5, 1) := by decide +kernel
theorem dX10_best_2 : decode cX10_best 2 = .ok (.if_icmp .ne 15, 3) := by decide +kernel
theorem dX10_best_5 : decode cX10_best 5 = .ok (.iload_n 2, 1) := by decide +kernel
theorem dX10_best_6 : decode cX10_best 6 = .ok (.ifCond .ne 9, 3) := by decide +kernel
theorem dX10_best_9 : decode cX10_best 9 = .ok (.iconst 5, 1) := by decide +kernel
theorem dX10_best_10 : decode cX10_best 10 = .ok (.newarray .int, 2) := by decide +kernel
theorem dX10_best_12 : decode cX10_best 12 = .ok (.goto 4, 3) := by decide +kernel
theorem dX10_best_15 : decode cX10_best 15 = .ok (.aconst_null, 1) := by decide +kernel
theorem dX10_best_16 : decode cX10_best 16 = .ok (.areturn, 1) := by decide +kernel
theorem dX10_best_17 : decode cX10_best 17 = .ok (.aconst_null, 1) := by decide +kernel
theorem dX10_best_18 : decode cX10_best 18 = .ok (.astore_n 3, 1) := by decide +kernel
theorem dX10_best_19 : decode cX10_best 19 = .ok (.aload_n 0, 1) := by decide +kernel
theorem dX10_best_20 : decode cX10_best 20 = .ok (.iload_n 1, 1) := by decide +kernel
theorem dX10_best_21 : decode cX10_best 21 = .ok (.iaload, 1) := by decide +kernel
theorem dX10_best_22 : decode cX10_best 22 = .ok (.iload_n 2, 1) := by decide +kernel
theorem dX10_best_23 : decode cX10_best 23 = .ok (.getstatic 189, 3) := by decide +kernel
theorem dX10_best_26 : decode cX10_best 26 = .ok (.iload_n 1, 1) := by decide +kernel
theorem dX10_best_27 : decode cX10_best 27 = .ok (.iaload, 1) := by decide +kernel
theorem dX10_best_28 : decode cX10_best 28 = .ok (.idiv, 1) := by decide +kernel
theorem dX10_best_29 : decode cX10_best 29 = .ok (.invokestatic 192, 3) := by decide +kernel
theorem dX10_best_32 : decode cX10_best 32 = .ok (.istore 4, 2) := by decide +kernel
theorem dX10_best_34 : decode cX10_best 34 = .ok (.iload 4, 2) := by decide +kernel
theorem dX10_best_36 : decode cX10_best 36 = .ok (.ifCond .lt 61, 3) := by decide +kernel
theorem dX10_best_39 : decode cX10_best 39 = .ok (.aload_n 0, 1) := by decide +kernel
theorem dX10_best_40 : decode cX10_best 40 = .ok (.iload_n 1, 1) := by decide +kernel
theorem dX10_best_41 : decode cX10_best 41 = .ok (.iconst 1, 1) := by decide +kernel
theorem dX10_best_42 : decode cX10_best 42 = .ok (.iadd, 1) := by decide +kernel
theorem dX10_best_43 : decode cX10_best 43 = .ok (.iload_n 2, 1) := by decide +kernel
theorem dX10_best_44 : decode cX10_best 44 = .ok (.iload 4, 2) := by decide +kernel
theorem dX10_best_46 : decode cX10_best 46 = .ok (.getstatic 189, 3) := by decide +kernel
theorem dX10_best_49 : decode cX10_best 49 = .ok (.iload_n 1, 1) := by decide +kernel
theorem dX10_best_50 : decode cX10_best 50 = .ok (.iaload, 1) := by decide +kernel
theorem dX10_best_51 : decode cX10_best 51 = .ok (.imul, 1) := by decide +kernel
theorem dX10_best_52 : decode cX10_best 52 = .ok (.isub, 1) := by decide +kernel
theorem dX10_best_53 : decode cX10_best 53 = .ok (.invokestatic 195, 3) := by decide +kernel
theorem dX10_best_56 : decode cX10_best 56 = .ok (.astore 5, 2) := by decide +kernel
theorem dX10_best_58 : decode cX10_best 58 = .ok (.aload 5, 2) := by decide +kernel
theorem dX10_best_60 : decode cX10_best 60 = .ok (.ifnonnull 6, 3) := by decide +kernel
theorem dX10_best_63 : decode cX10_best 63 = .ok (.goto 28, 3) := by decide +kernel
theorem dX10_best_66 : decode cX10_best 66 = .ok (.aload 5, 2) := by decide +kernel
theorem dX10_best_68 : decode cX10_best 68 = .ok (.iload_n 1, 1) := by decide +kernel
theorem dX10_best_69 : decode cX10_best 69 = .ok (.iload 4, 2) := by decide +kernel
theorem dX10_best_71 : decode cX10_best 71 = .ok (.iastore, 1) := by decide +kernel
theorem dX10_best_72 : decode cX10_best 72 = .ok (.aload_n 3, 1) := by decide +kernel
theorem dX10_best_73 : decode cX10_best 73 = .ok (.ifnull 15, 3) := by decide +kernel
theorem dX10_best_76 : decode cX10_best 76 = .ok (.aload 5, 2) := by decide +kernel
theorem dX10_best_78 : decode cX10_best 78 = .ok (.invokestatic 199, 3) := by decide +kernel
theorem dX10_best_81 : decode cX10_best 81 = .ok (.aload_n 3, 1) := by decide +kernel
theorem dX10_best_82 : decode cX10_best 82 = .ok (.invokestatic 199, 3) := by decide +kernel
theorem dX10_best_85 : decode cX10_best 85 = .ok (.if_icmp .ge 6, 3) := by decide +kernel
theorem dX10_best_88 : decode cX10_best 88 = .ok (.aload 5, 2) := by decide +kernel
theorem dX10_best_90 : decode cX10_best 90 = .ok (.astore_n 3, 1) := by decide +kernel
theorem dX10_best_91 : decode cX10_best 91 = .ok (.iinc 4 (-1), 3) := by decide +kernel
theorem dX10_best_94 : decode cX10_best 94 = .ok (.goto (-60), 3) := by decide +kernel
theorem dX10_best_97 : decode cX10_best 97 = .ok (.aload_n 3, 1) := by decide +kernel
theorem dX10_best_98 : decode cX10_best 98 = .ok (.areturn, 1) := by decide +kernel
theorem dX10_all_0 : decode cX10_all 0 = .ok (.iconst 0, 1) := by decide +kernel
theorem dX10_all_1 : decode cX10_all 1 = .ok (.istore_n 1, 1) := by decide +kernel
theorem dX10_all_2 : decode cX10_all 2 = .ok (.aload_n 0, 1) := by decide +kernel
theorem dX10_all_3 : decode cX10_all 3 = .ok (.astore_n 2, 1) := by decide +kernel
theorem dX10_all_4 : decode cX10_all 4 = .ok (.aload_n 2, 1) := by decide +kernel
theorem dX10_all_5 : decode cX10_all 5 = .ok (.arraylength, 1) := by decide +kernel
theorem dX10_all_6 : decode cX10_all 6 = .ok (.istore_n 3, 1) := by decide +kernel
theorem dX10_all_7 : decode cX10_all 7 = .ok (.iconst 0, 1) := by decide +kernel
theorem dX10_all_8 : decode cX10_all 8 = .ok (.istore 4, 2) := by decide +kernel
theorem dX10_all_10 : decode cX10_all 10 = .ok (.iload 4, 2) := by decide +kernel
theorem dX10_all_12 : decode cX10_all 12 = .ok (.iload_n 3, 1) := by decide +kernel
theorem dX10_all_13 : decode cX10_all 13 = .ok (.if_icmp .ge 20, 3) := by decide +kernel
theorem dX10_all_16 : decode cX10_all 16 = .ok (.aload_n 2, 1) := by decide +kernel
theorem dX10_all_17 : decode cX10_all 17 = .ok (.iload 4, 2) := by decide +kernel
theorem dX10_all_19 : decode cX10_all 19 = .ok (.iaload, 1) := by decide +kernel
theorem dX10_all_20 : decode cX10_all 20 = .ok (.istore 5, 2) := by decide +kernel
theorem dX10_all_22 : decode cX10_all 22 = .ok (.iload_n 1, 1) := by decide +kernel
theorem dX10_all_23 : decode cX10_all 23 = .ok (.iload 5, 2) := by decide +kernel
theorem dX10_all_25 : decode cX10_all 25 = .ok (.iadd, 1) := by decide +kernel
theorem dX10_all_26 : decode cX10_all 26 = .ok (.istore_n 1, 1) := by decide +kernel
theorem dX10_all_27 : decode cX10_all 27 = .ok (.iinc 4 1, 3) := by decide +kernel
theorem dX10_all_30 : decode cX10_all 30 = .ok (.goto (-20), 3) := by decide +kernel
theorem dX10_all_33 : decode cX10_all 33 = .ok (.iload_n 1, 1) := by decide +kernel
theorem dX10_all_34 : decode cX10_all 34 = .ok (.ireturn, 1) := by decide +kernel
theorem dX10_give_0 : decode cX10_give 0 = .ok (.aload_n 0, 1) := by decide +kernel
theorem dX10_give_1 : decode cX10_give 1 = .ok (.aload_n 0, 1) := by decide +kernel
theorem dX10_give_2 : decode cX10_give 2 = .ok (.iload_n 1, 1) := by decide +kernel
theorem dX10_give_3 : decode cX10_give 3 = .ok (.invokevirtual 90, 3) := by decide +kernel
theorem dX10_give_6 : decode cX10_give 6 = .ok (.iconst 1, 1) := by decide +kernel
theorem dX10_give_7 : decode cX10_give 7 = .ok (.invokevirtual 79, 3) := by decide +kernel
theorem dX10_give_10 : decode cX10_give 10 = .ok (.ifCond .ne 27, 3) := by decide +kernel
theorem dX10_give_13 : decode cX10_give 13 = .ok (.aload_n 0, 1) := by decide +kernel
theorem dX10_give_14 : decode cX10_give 14 = .ok (.iload_n 2, 1) := by decide +kernel
theorem dX10_give_15 : decode cX10_give 15 = .ok (.iconst 1, 1) := by decide +kernel
theorem dX10_give_16 : decode cX10_give 16 = .ok (.sipush 400, 3) := by decide +kernel
theorem dX10_give_19 : decode cX10_give 19 = .ok (.invokestatic 58, 3) := by decide +kernel
theorem dX10_give_22 : decode cX10_give 22 = .ok (.ifCond .ne 7, 3) := by decide +kernel
theorem dX10_give_25 : decode cX10_give 25 = .ok (.iconst 1, 1) := by decide +kernel
theorem dX10_give_26 : decode cX10_give 26 = .ok (.goto 4, 3) := by decide +kernel
theorem dX10_give_29 : decode cX10_give 29 = .ok (.iconst 0, 1) := by decide +kernel
theorem dX10_give_30 : decode cX10_give 30 = .ok (.iconst 2, 1) := by decide +kernel
theorem dX10_give_31 : decode cX10_give 31 = .ok (.invokevirtual 50, 3) := by decide +kernel
theorem dX10_give_34 : decode cX10_give 34 = .ok (.ifCond .eq 5, 3) := by decide +kernel
theorem dX10_give_37 : decode cX10_give 37 = .ok (.iconst 0, 1) := by decide +kernel
theorem dX10_give_38 : decode cX10_give 38 = .ok (.ireturn, 1) := by decide +kernel
theorem dX10_give_39 : decode cX10_give 39 = .ok (.aload_n 0, 1) := by decide +kernel
theorem dX10_give_40 : decode cX10_give 40 = .ok (.getfield 37, 3) := by decide +kernel
theorem dX10_give_43 : decode cX10_give 43 = .ok (.iload_n 1, 1) := by decide +kernel
theorem dX10_give_44 : decode cX10_give 44 = .ok (.invokevirtual 94, 3) := by decide +kernel
theorem dX10_give_47 : decode cX10_give 47 = .ok (.checkcast 63, 3) := by decide +kernel
theorem dX10_give_50 : decode cX10_give 50 = .ok (.getfield 185, 3) := by decide +kernel
theorem dX10_give_53 : decode cX10_give 53 = .ok (.iconst 0, 1) := by decide +kernel
theorem dX10_give_54 : decode cX10_give 54 = .ok (.iload_n 2, 1) := by decide +kernel
theorem dX10_give_55 : decode cX10_give 55 = .ok (.invokestatic 195, 3) := by decide +kernel
theorem dX10_give_58 : decode cX10_give 58 = .ok (.astore_n 3, 1) := by decide +kernel
theorem dX10_give_59 : decode cX10_give 59 = .ok (.aload_n 0, 1) := by decide +kernel
theorem dX10_give_60 : decode cX10_give 60 = .ok (.aload_n 3, 1) := by decide +kernel
theorem dX10_give_61 : decode cX10_give 61 = .ok (.ifnonnull 7, 3) := by decide +kernel
theorem dX10_give_64 : decode cX10_give 64 = .ok (.iconst 1, 1) := by decide +kernel
theorem dX10_give_65 : decode cX10_give 65 = .ok (.goto 4, 3) := by decide +kernel
theorem dX10_give_68 : decode cX10_give 68 = .ok (.iconst 0, 1) := by decide +kernel
theorem dX10_give_69 : decode cX10_give 69 = .ok (.iconst 3, 1) := by decide +kernel
theorem dX10_give_70 : decode cX10_give 70 = .ok (.invokevirtual 50, 3) := by decide +kernel
theorem dX10_give_73 : decode cX10_give 73 = .ok (.ifCond .eq 5, 3) := by decide +kernel
theorem dX10_give_76 : decode cX10_give 76 = .ok (.iconst 0, 1) := by decide +kernel
theorem dX10_give_77 : decode cX10_give 77 = .ok (.ireturn, 1) := by decide +kernel
theorem dX10_give_78 : decode cX10_give 78 = .ok (.iconst 0, 1) := by decide +kernel
theorem dX10_give_79 : decode cX10_give 79 = .ok (.istore 4, 2) := by decide +kernel
theorem dX10_give_81 : decode cX10_give 81 = .ok (.iload 4, 2) := by decide +kernel
theorem dX10_give_83 : decode cX10_give 83 = .ok (.iconst 5, 1) := by decide +kernel
theorem dX10_give_84 : decode cX10_give 84 = .ok (.if_icmp .ge 33, 3) := by decide +kernel
theorem dX10_give_87 : decode cX10_give 87 = .ok (.aload_n 0, 1) := by decide +kernel
theorem dX10_give_88 : decode cX10_give 88 = .ok (.getfield 37, 3) := by decide +kernel
theorem dX10_give_91 : decode cX10_give 91 = .ok (.iload_n 1, 1) := by decide +kernel
theorem dX10_give_92 : decode cX10_give 92 = .ok (.invokevirtual 94, 3) := by decide +kernel
theorem dX10_give_95 : decode cX10_give 95 = .ok (.checkcast 63, 3) := by decide +kernel
theorem dX10_give_98 : decode cX10_give 98 = .ok (.getfield 185, 3) := by decide +kernel
theorem dX10_give_101 : decode cX10_give 101 = .ok (.iload 4, 2) := by decide +kernel
theorem dX10_give_103 : decode cX10_give 103 = .ok (.dup2, 1) := by decide +kernel
theorem dX10_give_104 : decode cX10_give 104 = .ok (.iaload, 1) := by decide +kernel
theorem dX10_give_105 : decode cX10_give 105 = .ok (.aload_n 3, 1) := by decide +kernel
theorem dX10_give_106 : decode cX10_give 106 = .ok (.iload 4, 2) := by decide +kernel
theorem dX10_give_108 : decode cX10_give 108 = .ok (.iaload, 1) := by decide +kernel
theorem dX10_give_109 : decode cX10_give 109 = .ok (.isub, 1) := by decide +kernel
theorem dX10_give_110 : decode cX10_give 110 = .ok (.iastore, 1) := by decide +kernel
theorem dX10_give_111 : decode cX10_give 111 = .ok (.iinc 4 1, 3) := by decide +kernel
theorem dX10_give_114 : decode cX10_give 114 = .ok (.goto (-33), 3) := by decide +kernel
theorem dX10_give_117 : decode cX10_give 117 = .ok (.aload_n 3, 1) := by decide +kernel
theorem dX10_give_118 : decode cX10_give 118 = .ok (.invokestatic 199, 3) := by decide +kernel
theorem dX10_give_121 : decode cX10_give 121 = .ok (.ireturn, 1) := by decide +kernel
theorem dX10_coinsNow_0 : decode cX10_coinsNow 0 = .ok (.aload_n 0, 1) := by decide +kernel
theorem dX10_coinsNow_1 : decode cX10_coinsNow 1 = .ok (.getfield 37, 3) := by decide +kernel
theorem dX10_coinsNow_4 : decode cX10_coinsNow 4 = .ok (.iload_n 1, 1) := by decide +kernel
theorem dX10_coinsNow_5 : decode cX10_coinsNow 5 = .ok (.invokevirtual 94, 3) := by decide +kernel
theorem dX10_coinsNow_8 : decode cX10_coinsNow 8 = .ok (.checkcast 63, 3) := by decide +kernel
theorem dX10_coinsNow_11 : decode cX10_coinsNow 11 = .ok (.getfield 185, 3) := by decide +kernel
theorem dX10_coinsNow_14 : decode cX10_coinsNow 14 = .ok (.iconst 0, 1) := by decide +kernel
theorem dX10_coinsNow_15 : decode cX10_coinsNow 15 = .ok (.iload_n 2, 1) := by decide +kernel
theorem dX10_coinsNow_16 : decode cX10_coinsNow 16 = .ok (.invokestatic 195, 3) := by decide +kernel
theorem dX10_coinsNow_19 : decode cX10_coinsNow 19 = .ok (.astore_n 3, 1) := by decide +kernel
theorem dX10_coinsNow_20 : decode cX10_coinsNow 20 = .ok (.aload_n 3, 1) := by decide +kernel
theorem dX10_coinsNow_21 : decode cX10_coinsNow 21 = .ok (.ifnonnull 5, 3) := by decide +kernel
theorem dX10_coinsNow_24 : decode cX10_coinsNow 24 = .ok (.iconst (-1), 1) := by decide +kernel
theorem dX10_coinsNow_25 : decode cX10_coinsNow 25 = .ok (.ireturn, 1) := by decide +kernel
theorem dX10_coinsNow_26 : decode cX10_coinsNow 26 = .ok (.iconst 0, 1) := by decide +kernel
theorem dX10_coinsNow_27 : decode cX10_coinsNow 27 = .ok (.istore 4, 2) := by decide +kernel
theorem dX10_coinsNow_29 : decode cX10_coinsNow 29 = .ok (.aload_n 3, 1) := by decide +kernel
theorem dX10_coinsNow_30 : decode cX10_coinsNow 30 = .ok (.astore 5, 2) := by decide +kernel
theorem dX10_coinsNow_32 : decode cX10_coinsNow 32 = .ok (.aload 5, 2) := by decide +kernel
theorem dX10_coinsNow_34 : decode cX10_coinsNow 34 = .ok (.arraylength, 1) := by decide +kernel
theorem dX10_coinsNow_35 : decode cX10_coinsNow 35 = .ok (.istore 6, 2) := by decide +kernel
theorem dX10_coinsNow_37 : decode cX10_coinsNow 37 = .ok (.iconst 0, 1) := by decide +kernel
theorem dX10_coinsNow_38 : decode cX10_coinsNow 38 = .ok (.istore 7, 2) := by decide +kernel
theorem dX10_coinsNow_40 : decode cX10_coinsNow 40 = .ok (.iload 7, 2) := by decide +kernel
theorem dX10_coinsNow_42 : decode cX10_coinsNow 42 = .ok (.iload 6, 2) := by decide +kernel
theorem dX10_coinsNow_44 : decode cX10_coinsNow 44 = .ok (.if_icmp .ge 26, 3) := by decide +kernel
theorem dX10_coinsNow_47 : decode cX10_coinsNow 47 = .ok (.aload 5, 2) := by decide +kernel
theorem dX10_coinsNow_49 : decode cX10_coinsNow 49 = .ok (.iload 7, 2) := by decide +kernel
theorem dX10_coinsNow_51 : decode cX10_coinsNow 51 = .ok (.iaload, 1) := by decide +kernel
theorem dX10_coinsNow_52 : decode cX10_coinsNow 52 = .ok (.istore 8, 2) := by decide +kernel
theorem dX10_coinsNow_54 : decode cX10_coinsNow 54 = .ok (.bipush 10, 2) := by decide +kernel
theorem dX10_coinsNow_56 : decode cX10_coinsNow 56 = .ok (.iload 4, 2) := by decide +kernel
theorem dX10_coinsNow_58 : decode cX10_coinsNow 58 = .ok (.imul, 1) := by decide +kernel
theorem dX10_coinsNow_59 : decode cX10_coinsNow 59 = .ok (.iload 8, 2) := by decide +kernel
theorem dX10_coinsNow_61 : decode cX10_coinsNow 61 = .ok (.iadd, 1) := by decide +kernel
theorem dX10_coinsNow_62 : decode cX10_coinsNow 62 = .ok (.istore 4, 2) := by decide +kernel
theorem dX10_coinsNow_64 : decode cX10_coinsNow 64 = .ok (.iinc 7 1, 3) := by decide +kernel
theorem dX10_coinsNow_67 : decode cX10_coinsNow 67 = .ok (.goto (-27), 3) := by decide +kernel
theorem dX10_coinsNow_70 : decode cX10_coinsNow 70 = .ok (.iload 4, 2) := by decide +kernel
theorem dX10_coinsNow_72 : decode cX10_coinsNow 72 = .ok (.ireturn, 1) := by decide +kernel
theorem dX10_coins_0 : decode cX10_coins 0 = .ok (.aload_n 0, 1) := by decide +kernel
theorem dX10_coins_1 : decode cX10_coins 1 = .ok (.aload_n 0, 1) := by decide +kernel
theorem dX10_coins_2 : decode cX10_coins 2 = .ok (.iload_n 1, 1) := by decide +kernel
theorem dX10_coins_3 : decode cX10_coins 3 = .ok (.invokevirtual 90, 3) := by decide +kernel
theorem dX10_coins_6 : decode cX10_coins 6 = .ok (.iconst 1, 1) := by decide +kernel
theorem dX10_coins_7 : decode cX10_coins 7 = .ok (.invokevirtual 79, 3) := by decide +kernel
theorem dX10_coins_10 : decode cX10_coins 10 = .ok (.ifCond .ne 27, 3) := by decide +kernel
theorem dX10_coins_13 : decode cX10_coins 13 = .ok (.aload_n 0, 1) := by decide +kernel
theorem dX10_coins_14 : decode cX10_coins 14 = .ok (.iload_n 2, 1) := by decide +kernel
theorem dX10_coins_15 : decode cX10_coins 15 = .ok (.iconst 1, 1) := by decide +kernel
theorem dX10_coins_16 : decode cX10_coins 16 = .ok (.sipush 400, 3) := by decide +kernel
theorem dX10_coins_19 : decode cX10_coins 19 = .ok (.invokestatic 58, 3) := by decide +kernel
theorem dX10_coins_22 : decode cX10_coins 22 = .ok (.ifCond .ne 7, 3) := by decide +kernel
theorem dX10_coins_25 : decode cX10_coins 25 = .ok (.iconst 1, 1) := by decide +kernel
theorem dX10_coins_26 : decode cX10_coins 26 = .ok (.goto 4, 3) := by decide +kernel
theorem dX10_coins_29 : decode cX10_coins 29 = .ok (.iconst 0, 1) := by decide +kernel
theorem dX10_coins_30 : decode cX10_coins 30 = .ok (.iconst 2, 1) := by decide +kernel
theorem dX10_coins_31 : decode cX10_coins 31 = .ok (.invokevirtual 50, 3) := by decide +kernel
theorem dX10_coins_34 : decode cX10_coins 34 = .ok (.ifCond .eq 7, 3) := by decide +kernel
theorem dX10_coins_37 : decode cX10_coins 37 = .ok (.iconst 0, 1) := by decide +kernel
theorem dX10_coins_38 : decode cX10_coins 38 = .ok (.goto 9, 3) := by decide +kernel
theorem dX10_coins_41 : decode cX10_coins 41 = .ok (.aload_n 0, 1) := by decide +kernel
theorem dX10_coins_42 : decode cX10_coins 42 = .ok (.iload_n 1, 1) := by decide +kernel
theorem dX10_coins_43 : decode cX10_coins 43 = .ok (.iload_n 2, 1) := by decide +kernel
theorem dX10_coins_44 : decode cX10_coins 44 = .ok (.invokevirtual 203, 3) := by decide +kernel
theorem dX10_coins_47 : decode cX10_coins 47 = .ok (.ireturn, 1) := by decide +kernel
theorem dX10_ofCountryNow_0 : decode cX10_ofCountryNow 0 = .ok (.aload_n 0, 1) := by decide +kernel
theorem dX10_ofCountryNow_1 : decode cX10_ofCountryNow 1 = .ok (.getfield 37, 3) := by decide +kernel
theorem dX10_ofCountryNow_4 : decode cX10_ofCountryNow 4 = .ok (.iload_n 1, 1) := by decide +kernel
theorem dX10_ofCountryNow_5 : decode cX10_ofCountryNow 5 = .ok (.invokevirtual 94, 3) := by decide +kernel
theorem dX10_ofCountryNow_8 : decode cX10_ofCountryNow 8 = .ok (.checkcast 63, 3) := by decide +kernel
theorem dX10_ofCountryNow_11 : decode cX10_ofCountryNow 11 = .ok (.astore_n 3, 1) := by decide +kernel
theorem dX10_ofCountryNow_12 : decode cX10_ofCountryNow 12 = .ok (.iconst 0, 1) := by decide +kernel
theorem dX10_ofCountryNow_13 : decode cX10_ofCountryNow 13 = .ok (.istore 4, 2) := by decide +kernel
theorem dX10_ofCountryNow_15 : decode cX10_ofCountryNow 15 = .ok (.iconst 0, 1) := by decide +kernel
theorem dX10_ofCountryNow_16 : decode cX10_ofCountryNow 16 = .ok (.istore 5, 2) := by decide +kernel
theorem dX10_ofCountryNow_18 : decode cX10_ofCountryNow 18 = .ok (.iconst 0, 1) := by decide +kernel
theorem dX10_ofCountryNow_19 : decode cX10_ofCountryNow 19 = .ok (.istore 6, 2) := by decide +kernel
theorem dX10_ofCountryNow_21 : decode cX10_ofCountryNow 21 = .ok (.aload_n 0, 1) := by decide +kernel
theorem dX10_ofCountryNow_22 : decode cX10_ofCountryNow 22 = .ok (.getfield 41, 3) := by decide +kernel
theorem dX10_ofCountryNow_25 : decode cX10_ofCountryNow 25 = .ok (.invokevirtual 136, 3) := by decide +kernel
theorem dX10_ofCountryNow_28 : decode cX10_ofCountryNow 28 = .ok (.astore 7, 2) := by decide +kernel
theorem dX10_ofCountryNow_30 : decode cX10_ofCountryNow 30 = .ok (.aload 7, 2) := by decide +kernel
theorem dX10_ofCountryNow_32 : decode cX10_ofCountryNow 32 = .ok (.invokeinterface 140 1, 5) := by decide +kernel
theorem dX10_ofCountryNow_37 : decode cX10_ofCountryNow 37 = .ok (.ifCond .eq 37, 3) := by decide +kernel
theorem dX10_ofCountryNow_40 : decode cX10_ofCountryNow 40 = .ok (.aload 7, 2) := by decide +kernel
theorem dX10_ofCountryNow_42 : decode cX10_ofCountryNow 42 = .ok (.invokeinterface 146 1, 5) := by decide +kernel
theorem dX10_ofCountryNow_47 : decode cX10_ofCountryNow 47 = .ok (.checkcast 107, 3) := by decide +kernel
theorem dX10_ofCountryNow_50 : decode cX10_ofCountryNow 50 = .ok (.astore 8, 2) := by decide +kernel
theorem dX10_ofCountryNow_52 : decode cX10_ofCountryNow 52 = .ok (.iload 4, 2) := by decide +kernel
theorem dX10_ofCountryNow_54 : decode cX10_ofCountryNow 54 = .ok (.aload 8, 2) := by decide +kernel
theorem dX10_ofCountryNow_56 : decode cX10_ofCountryNow 56 = .ok (.getfield 110, 3) := by decide +kernel
theorem dX10_ofCountryNow_59 : decode cX10_ofCountryNow 59 = .ok (.iload_n 1, 1) := by decide +kernel
theorem dX10_ofCountryNow_60 : decode cX10_ofCountryNow 60 = .ok (.if_icmp .ne 7, 3) := by decide +kernel
theorem dX10_ofCountryNow_63 : decode cX10_ofCountryNow 63 = .ok (.iconst 1, 1) := by decide +kernel
theorem dX10_ofCountryNow_64 : decode cX10_ofCountryNow 64 = .ok (.goto 4, 3) := by decide +kernel
theorem dX10_ofCountryNow_67 : decode cX10_ofCountryNow 67 = .ok (.iconst 0, 1) := by decide +kernel
theorem dX10_ofCountryNow_68 : decode cX10_ofCountryNow 68 = .ok (.iadd, 1) := by decide +kernel
theorem dX10_ofCountryNow_69 : decode cX10_ofCountryNow 69 = .ok (.istore 4, 2) := by decide +kernel
theorem dX10_ofCountryNow_71 : decode cX10_ofCountryNow 71 = .ok (.goto (-41), 3) := by decide +kernel
theorem dX10_ofCountryNow_74 : decode cX10_ofCountryNow 74 = .ok (.iconst 0, 1) := by decide +kernel
theorem dX10_ofCountryNow_75 : decode cX10_ofCountryNow 75 = .ok (.istore 7, 2) := by decide +kernel
theorem dX10_ofCountryNow_77 : decode cX10_ofCountryNow 77 = .ok (.iload 7, 2) := by decide +kernel
theorem dX10_ofCountryNow_79 : decode cX10_ofCountryNow 79 = .ok (.iconst 5, 1) := by decide +kernel
theorem dX10_ofCountryNow_80 : decode cX10_ofCountryNow 80 = .ok (.if_icmp .ge 28, 3) := by decide +kernel
theorem dX10_ofCountryNow_83 : decode cX10_ofCountryNow 83 = .ok (.iload 5, 2) := by decide +kernel
theorem dX10_ofCountryNow_85 : decode cX10_ofCountryNow 85 = .ok (.getstatic 189, 3) := by decide +kernel
theorem dX10_ofCountryNow_88 : decode cX10_ofCountryNow 88 = .ok (.iload 7, 2) := by decide +kernel
theorem dX10_ofCountryNow_90 : decode cX10_ofCountryNow 90 = .ok (.iaload, 1) := by decide +kernel
theorem dX10_ofCountryNow_91 : decode cX10_ofCountryNow 91 = .ok (.aload_n 3, 1) := by decide +kernel
theorem dX10_ofCountryNow_92 : decode cX10_ofCountryNow 92 = .ok (.getfield 185, 3) := by decide +kernel
theorem dX10_ofCountryNow_95 : decode cX10_ofCountryNow 95 = .ok (.iload 7, 2) := by decide +kernel
theorem dX10_ofCountryNow_97 : decode cX10_ofCountryNow 97 = .ok (.iaload, 1) := by decide +kernel
theorem dX10_ofCountryNow_98 : decode cX10_ofCountryNow 98 = .ok (.imul, 1) := by decide +kernel
theorem dX10_ofCountryNow_99 : decode cX10_ofCountryNow 99 = .ok (.iadd, 1) := by decide +kernel
theorem dX10_ofCountryNow_100 : decode cX10_ofCountryNow 100 = .ok (.istore 5, 2) := by decide +kernel
theorem dX10_ofCountryNow_102 : decode cX10_ofCountryNow 102 = .ok (.iinc 7 1, 3) := by decide +kernel
theorem dX10_ofCountryNow_105 : decode cX10_ofCountryNow 105 = .ok (.goto (-28), 3) := by decide +kernel
theorem dX10_ofCountryNow_108 : decode cX10_ofCountryNow 108 = .ok (.aload_n 0, 1) := by decide +kernel
theorem dX10_ofCountryNow_109 : decode cX10_ofCountryNow 109 = .ok (.getfield 37, 3) := by decide +kernel
theorem dX10_ofCountryNow_112 : decode cX10_ofCountryNow 112 = .ok (.invokevirtual 136, 3) := by decide +kernel
theorem dX10_ofCountryNow_115 : decode cX10_ofCountryNow 115 = .ok (.astore 7, 2) := by decide +kernel
theorem dX10_ofCountryNow_117 : decode cX10_ofCountryNow 117 = .ok (.aload 7, 2) := by decide +kernel
theorem dX10_ofCountryNow_119 : decode cX10_ofCountryNow 119 = .ok (.invokeinterface 140 1, 5) := by decide +kernel
theorem dX10_ofCountryNow_124 : decode cX10_ofCountryNow 124 = .ok (.ifCond .eq 40, 3) := by decide +kernel
theorem dX10_ofCountryNow_127 : decode cX10_ofCountryNow 127 = .ok (.aload 7, 2) := by decide +kernel
theorem dX10_ofCountryNow_129 : decode cX10_ofCountryNow 129 = .ok (.invokeinterface 146 1, 5) := by decide +kernel
theorem dX10_ofCountryNow_134 : decode cX10_ofCountryNow 134 = .ok (.checkcast 63, 3) := by decide +kernel
theorem dX10_ofCountryNow_137 : decode cX10_ofCountryNow 137 = .ok (.astore 8, 2) := by decide +kernel
theorem dX10_ofCountryNow_139 : decode cX10_ofCountryNow 139 = .ok (.iload 6, 2) := by decide +kernel
theorem dX10_ofCountryNow_141 : decode cX10_ofCountryNow 141 = .ok (.aload 8, 2) := by decide +kernel
theorem dX10_ofCountryNow_143 : decode cX10_ofCountryNow 143 = .ok (.getfield 62, 3) := by decide +kernel
theorem dX10_ofCountryNow_146 : decode cX10_ofCountryNow 146 = .ok (.aload_n 3, 1) := by decide +kernel
theorem dX10_ofCountryNow_147 : decode cX10_ofCountryNow 147 = .ok (.getfield 62, 3) := by decide +kernel
theorem dX10_ofCountryNow_150 : decode cX10_ofCountryNow 150 = .ok (.if_icmp .ne 7, 3) := by decide +kernel
theorem dX10_ofCountryNow_153 : decode cX10_ofCountryNow 153 = .ok (.iconst 1, 1) := by decide +kernel
theorem dX10_ofCountryNow_154 : decode cX10_ofCountryNow 154 = .ok (.goto 4, 3) := by decide +kernel
theorem dX10_ofCountryNow_157 : decode cX10_ofCountryNow 157 = .ok (.iconst 0, 1) := by decide +kernel
theorem dX10_ofCountryNow_158 : decode cX10_ofCountryNow 158 = .ok (.iadd, 1) := by decide +kernel
theorem dX10_ofCountryNow_159 : decode cX10_ofCountryNow 159 = .ok (.istore 6, 2) := by decide +kernel
theorem dX10_ofCountryNow_161 : decode cX10_ofCountryNow 161 = .ok (.goto (-44), 3) := by decide +kernel
theorem dX10_ofCountryNow_164 : decode cX10_ofCountryNow 164 = .ok (.bipush 9, 2) := by decide +kernel
theorem dX10_ofCountryNow_166 : decode cX10_ofCountryNow 166 = .ok (.newarray .long, 2) := by decide +kernel
theorem dX10_ofCountryNow_168 : decode cX10_ofCountryNow 168 = .ok (.dup, 1) := by decide +kernel
theorem dX10_ofCountryNow_169 : decode cX10_ofCountryNow 169 = .ok (.iconst 0, 1) := by decide +kernel
theorem dX10_ofCountryNow_170 : decode cX10_ofCountryNow 170 = .ok (.aload_n 3, 1) := by decide +kernel
theorem dX10_ofCountryNow_171 : decode cX10_ofCountryNow 171 = .ok (.getfield 62, 3) := by decide +kernel
theorem dX10_ofCountryNow_174 : decode cX10_ofCountryNow 174 = .ok (.i2l, 1) := by decide +kernel
theorem dX10_ofCountryNow_175 : decode cX10_ofCountryNow 175 = .ok (.lastore, 1) := by decide +kernel
theorem dX10_ofCountryNow_176 : decode cX10_ofCountryNow 176 = .ok (.dup, 1) := by decide +kernel
theorem dX10_ofCountryNow_177 : decode cX10_ofCountryNow 177 = .ok (.iconst 1, 1) := by decide +kernel
theorem dX10_ofCountryNow_178 : decode cX10_ofCountryNow 178 = .ok (.aload_n 3, 1) := by decide +kernel
theorem dX10_ofCountryNow_179 : decode cX10_ofCountryNow 179 = .ok (.getfield 69, 3) := by decide +kernel
theorem dX10_ofCountryNow_182 : decode cX10_ofCountryNow 182 = .ok (.i2l, 1) := by decide +kernel
theorem dX10_ofCountryNow_183 : decode cX10_ofCountryNow 183 = .ok (.lastore, 1) := by decide +kernel
theorem dX10_ofCountryNow_184 : decode cX10_ofCountryNow 184 = .ok (.dup, 1) := by decide +kernel
theorem dX10_ofCountryNow_185 : decode cX10_ofCountryNow 185 = .ok (.iconst 2, 1) := by decide +kernel
theorem dX10_ofCountryNow_186 : decode cX10_ofCountryNow 186 = .ok (.aload_n 3, 1) := by decide +kernel
theorem dX10_ofCountryNow_187 : decode cX10_ofCountryNow 187 = .ok (.getfield 83, 3) := by decide +kernel
theorem dX10_ofCountryNow_190 : decode cX10_ofCountryNow 190 = .ok (.iconst 0, 1) := by decide +kernel
theorem dX10_ofCountryNow_191 : decode cX10_ofCountryNow 191 = .ok (.laload, 1) := by decide +kernel
theorem dX10_ofCountryNow_192 : decode cX10_ofCountryNow 192 = .ok (.lastore, 1) := by decide +kernel
theorem dX10_ofCountryNow_193 : decode cX10_ofCountryNow 193 = .ok (.dup, 1) := by decide +kernel
theorem dX10_ofCountryNow_194 : decode cX10_ofCountryNow 194 = .ok (.iconst 3, 1) := by decide +kernel
theorem dX10_ofCountryNow_195 : decode cX10_ofCountryNow 195 = .ok (.aload_n 3, 1) := by decide +kernel
theorem dX10_ofCountryNow_196 : decode cX10_ofCountryNow 196 = .ok (.getfield 83, 3) := by decide +kernel
theorem dX10_ofCountryNow_199 : decode cX10_ofCountryNow 199 = .ok (.iconst 1, 1) := by decide +kernel
theorem dX10_ofCountryNow_200 : decode cX10_ofCountryNow 200 = .ok (.laload, 1) := by decide +kernel
theorem dX10_ofCountryNow_201 : decode cX10_ofCountryNow 201 = .ok (.lastore, 1) := by decide +kernel
theorem dX10_ofCountryNow_202 : decode cX10_ofCountryNow 202 = .ok (.dup, 1) := by decide +kernel
theorem dX10_ofCountryNow_203 : decode cX10_ofCountryNow 203 = .ok (.iconst 4, 1) := by decide +kernel
theorem dX10_ofCountryNow_204 : decode cX10_ofCountryNow 204 = .ok (.aload_n 3, 1) := by decide +kernel
theorem dX10_ofCountryNow_205 : decode cX10_ofCountryNow 205 = .ok (.getfield 101, 3) := by decide +kernel
theorem dX10_ofCountryNow_208 : decode cX10_ofCountryNow 208 = .ok (.iconst 0, 1) := by decide +kernel
theorem dX10_ofCountryNow_209 : decode cX10_ofCountryNow 209 = .ok (.baload, 1) := by decide +kernel
theorem dX10_ofCountryNow_210 : decode cX10_ofCountryNow 210 = .ok (.ifCond .eq 7, 3) := by decide +kernel
theorem dX10_ofCountryNow_213 : decode cX10_ofCountryNow 213 = .ok (.iconst 1, 1) := by decide +kernel
theorem dX10_ofCountryNow_214 : decode cX10_ofCountryNow 214 = .ok (.goto 4, 3) := by decide +kernel
theorem dX10_ofCountryNow_217 : decode cX10_ofCountryNow 217 = .ok (.iconst 0, 1) := by decide +kernel
theorem dX10_ofCountryNow_218 : decode cX10_ofCountryNow 218 = .ok (.aload_n 3, 1) := by decide +kernel
theorem dX10_ofCountryNow_219 : decode cX10_ofCountryNow 219 = .ok (.getfield 101, 3) := by decide +kernel
theorem dX10_ofCountryNow_222 : decode cX10_ofCountryNow 222 = .ok (.iconst 1, 1) := by decide +kernel
theorem dX10_ofCountryNow_223 : decode cX10_ofCountryNow 223 = .ok (.baload, 1) := by decide +kernel
theorem dX10_ofCountryNow_224 : decode cX10_ofCountryNow 224 = .ok (.ifCond .eq 7, 3) := by decide +kernel
theorem dX10_ofCountryNow_227 : decode cX10_ofCountryNow 227 = .ok (.iconst 2, 1) := by decide +kernel
theorem dX10_ofCountryNow_228 : decode cX10_ofCountryNow 228 = .ok (.goto 4, 3) := by decide +kernel
theorem dX10_ofCountryNow_231 : decode cX10_ofCountryNow 231 = .ok (.iconst 0, 1) := by decide +kernel
theorem dX10_ofCountryNow_232 : decode cX10_ofCountryNow 232 = .ok (.iadd, 1) := by decide +kernel
theorem dX10_ofCountryNow_233 : decode cX10_ofCountryNow 233 = .ok (.i2l, 1) := by decide +kernel
theorem dX10_ofCountryNow_234 : decode cX10_ofCountryNow 234 = .ok (.lastore, 1) := by decide +kernel
theorem dX10_ofCountryNow_235 : decode cX10_ofCountryNow 235 = .ok (.dup, 1) := by decide +kernel
theorem dX10_ofCountryNow_236 : decode cX10_ofCountryNow 236 = .ok (.iconst 5, 1) := by decide +kernel
theorem dX10_ofCountryNow_237 : decode cX10_ofCountryNow 237 = .ok (.iload 4, 2) := by decide +kernel
theorem dX10_ofCountryNow_239 : decode cX10_ofCountryNow 239 = .ok (.i2l, 1) := by decide +kernel
theorem dX10_ofCountryNow_240 : decode cX10_ofCountryNow 240 = .ok (.lastore, 1) := by decide +kernel
theorem dX10_ofCountryNow_241 : decode cX10_ofCountryNow 241 = .ok (.dup, 1) := by decide +kernel
theorem dX10_ofCountryNow_242 : decode cX10_ofCountryNow 242 = .ok (.bipush 6, 2) := by decide +kernel
theorem dX10_ofCountryNow_244 : decode cX10_ofCountryNow 244 = .ok (.aload_n 0, 1) := by decide +kernel
theorem dX10_ofCountryNow_245 : decode cX10_ofCountryNow 245 = .ok (.aload_n 3, 1) := by decide +kernel
theorem dX10_ofCountryNow_246 : decode cX10_ofCountryNow 246 = .ok (.getfield 83, 3) := by decide +kernel
theorem dX10_ofCountryNow_249 : decode cX10_ofCountryNow 249 = .ok (.invokevirtual 206, 3) := by decide +kernel
theorem dX10_ofCountryNow_252 : decode cX10_ofCountryNow 252 = .ok (.lastore, 1) := by decide +kernel
theorem dX10_ofCountryNow_253 : decode cX10_ofCountryNow 253 = .ok (.dup, 1) := by decide +kernel
theorem dX10_ofCountryNow_254 : decode cX10_ofCountryNow 254 = .ok (.bipush 7, 2) := by decide +kernel
theorem dX10_ofCountryNow_256 : decode cX10_ofCountryNow 256 = .ok (.iload 5, 2) := by decide +kernel
theorem dX10_ofCountryNow_258 : decode cX10_ofCountryNow 258 = .ok (.i2l, 1) := by decide +kernel
theorem dX10_ofCountryNow_259 : decode cX10_ofCountryNow 259 = .ok (.lastore, 1) := by decide +kernel
theorem dX10_ofCountryNow_260 : decode cX10_ofCountryNow 260 = .ok (.dup, 1) := by decide +kernel
theorem dX10_ofCountryNow_261 : decode cX10_ofCountryNow 261 = .ok (.bipush 8, 2) := by decide +kernel
theorem dX10_ofCountryNow_263 : decode cX10_ofCountryNow 263 = .ok (.iload 6, 2) := by decide +kernel
theorem dX10_ofCountryNow_265 : decode cX10_ofCountryNow 265 = .ok (.i2l, 1) := by decide +kernel
theorem dX10_ofCountryNow_266 : decode cX10_ofCountryNow 266 = .ok (.lastore, 1) := by decide +kernel
theorem dX10_ofCountryNow_267 : decode cX10_ofCountryNow 267 = .ok (.astore 7, 2) := by decide +kernel
theorem dX10_ofCountryNow_269 : decode cX10_ofCountryNow 269 = .ok (.aload 7, 2) := by decide +kernel
theorem dX10_ofCountryNow_271 : decode cX10_ofCountryNow 271 = .ok (.iload_n 2, 1) := by decide +kernel
theorem dX10_ofCountryNow_272 : decode cX10_ofCountryNow 272 = .ok (.laload, 1) := by decide +kernel
theorem dX10_ofCountryNow_273 : decode cX10_ofCountryNow 273 = .ok (.l2i, 1) := by decide +kernel
theorem dX10_ofCountryNow_274 : decode cX10_ofCountryNow 274 = .ok (.ireturn, 1) := by decide +kernel
theorem dX10_ofCountry_0 : decode cX10_ofCountry 0 = .ok (.aload_n 0, 1) := by decide +kernel
theorem dX10_ofCountry_1 : decode cX10_ofCountry 1 = .ok (.aload_n 0, 1) := by decide +kernel
theorem dX10_ofCountry_2 : decode cX10_ofCountry 2 = .ok (.iload_n 1, 1) := by decide +kernel
theorem dX10_ofCountry_3 : decode cX10_ofCountry 3 = .ok (.invokevirtual 90, 3) := by decide +kernel
theorem dX10_ofCountry_6 : decode cX10_ofCountry 6 = .ok (.iconst 1, 1) := by decide +kernel
theorem dX10_ofCountry_7 : decode cX10_ofCountry 7 = .ok (.invokevirtual 79, 3) := by decide +kernel
theorem dX10_ofCountry_10 : decode cX10_ofCountry 10 = .ok (.ifCond .ne 26, 3) := by decide +kernel
theorem dX10_ofCountry_13 : decode cX10_ofCountry 13 = .ok (.aload_n 0, 1) := by decide +kernel
theorem dX10_ofCountry_14 : decode cX10_ofCountry 14 = .ok (.iload_n 2, 1) := by decide +kernel
theorem dX10_ofCountry_15 : decode cX10_ofCountry 15 = .ok (.iconst 0, 1) := by decide +kernel
theorem dX10_ofCountry_16 : decode cX10_ofCountry 16 = .ok (.bipush 8, 2) := by decide +kernel
theorem dX10_ofCountry_18 : decode cX10_ofCountry 18 = .ok (.invokestatic 58, 3) := by decide +kernel
theorem dX10_ofCountry_21 : decode cX10_ofCountry 21 = .ok (.ifCond .ne 7, 3) := by decide +kernel
theorem dX10_ofCountry_24 : decode cX10_ofCountry 24 = .ok (.iconst 1, 1) := by decide +kernel
theorem dX10_ofCountry_25 : decode cX10_ofCountry 25 = .ok (.goto 4, 3) := by decide +kernel
theorem dX10_ofCountry_28 : decode cX10_ofCountry 28 = .ok (.iconst 0, 1) := by decide +kernel
theorem dX10_ofCountry_29 : decode cX10_ofCountry 29 = .ok (.iconst 2, 1) := by decide +kernel
theorem dX10_ofCountry_30 : decode cX10_ofCountry 30 = .ok (.invokevirtual 50, 3) := by decide +kernel
theorem dX10_ofCountry_33 : decode cX10_ofCountry 33 = .ok (.ifCond .eq 7, 3) := by decide +kernel
theorem dX10_ofCountry_36 : decode cX10_ofCountry 36 = .ok (.iconst 0, 1) := by decide +kernel
theorem dX10_ofCountry_37 : decode cX10_ofCountry 37 = .ok (.goto 9, 3) := by decide +kernel
theorem dX10_ofCountry_40 : decode cX10_ofCountry 40 = .ok (.aload_n 0, 1) := by decide +kernel
theorem dX10_ofCountry_41 : decode cX10_ofCountry 41 = .ok (.iload_n 1, 1) := by decide +kernel
theorem dX10_ofCountry_42 : decode cX10_ofCountry 42 = .ok (.iload_n 2, 1) := by decide +kernel
theorem dX10_ofCountry_43 : decode cX10_ofCountry 43 = .ok (.invokevirtual 210, 3) := by decide +kernel
theorem dX10_ofCountry_46 : decode cX10_ofCountry 46 = .ok (.ireturn, 1) := by decide +kernel
theorem dX10_ofHouseNow_0 : decode cX10_ofHouseNow 0 = .ok (.aload_n 0, 1) := by decide +kernel
theorem dX10_ofHouseNow_1 : decode cX10_ofHouseNow 1 = .ok (.getfield 41, 3) := by decide +kernel
theorem dX10_ofHouseNow_4 : decode cX10_ofHouseNow 4 = .ok (.iload_n 1, 1) := by decide +kernel
theorem dX10_ofHouseNow_5 : decode cX10_ofHouseNow 5 = .ok (.invokevirtual 94, 3) := by decide +kernel
theorem dX10_ofHouseNow_8 : decode cX10_ofHouseNow 8 = .ok (.checkcast 107, 3) := by decide +kernel
theorem dX10_ofHouseNow_11 : decode cX10_ofHouseNow 11 = .ok (.astore_n 3, 1) := by decide +kernel
theorem dX10_ofHouseNow_12 : decode cX10_ofHouseNow 12 = .ok (.iconst 0, 1) := by decide +kernel
theorem dX10_ofHouseNow_13 : decode cX10_ofHouseNow 13 = .ok (.istore 4, 2) := by decide +kernel
theorem dX10_ofHouseNow_15 : decode cX10_ofHouseNow 15 = .ok (.iconst 0, 1) := by decide +kernel
theorem dX10_ofHouseNow_16 : decode cX10_ofHouseNow 16 = .ok (.istore 5, 2) := by decide +kernel
theorem dX10_ofHouseNow_18 : decode cX10_ofHouseNow 18 = .ok (.aload_n 0, 1) := by decide +kernel
theorem dX10_ofHouseNow_19 : decode cX10_ofHouseNow 19 = .ok (.getfield 44, 3) := by decide +kernel
theorem dX10_ofHouseNow_22 : decode cX10_ofHouseNow 22 = .ok (.invokevirtual 136, 3) := by decide +kernel
theorem dX10_ofHouseNow_25 : decode cX10_ofHouseNow 25 = .ok (.astore 6, 2) := by decide +kernel
theorem dX10_ofHouseNow_27 : decode cX10_ofHouseNow 27 = .ok (.aload 6, 2) := by decide +kernel
theorem dX10_ofHouseNow_29 : decode cX10_ofHouseNow 29 = .ok (.invokeinterface 140 1, 5) := by decide +kernel
theorem dX10_ofHouseNow_34 : decode cX10_ofHouseNow 34 = .ok (.ifCond .eq 72, 3) := by decide +kernel
theorem dX10_ofHouseNow_37 : decode cX10_ofHouseNow 37 = .ok (.aload 6, 2) := by decide +kernel
theorem dX10_ofHouseNow_39 : decode cX10_ofHouseNow 39 = .ok (.invokeinterface 146 1, 5) := by decide +kernel
theorem dX10_ofHouseNow_44 : decode cX10_ofHouseNow 44 = .ok (.checkcast 152, 3) := by decide +kernel
theorem dX10_ofHouseNow_47 : decode cX10_ofHouseNow 47 = .ok (.astore 7, 2) := by decide +kernel
theorem dX10_ofHouseNow_49 : decode cX10_ofHouseNow 49 = .ok (.iload 4, 2) := by decide +kernel
theorem dX10_ofHouseNow_51 : decode cX10_ofHouseNow 51 = .ok (.aload 7, 2) := by decide +kernel
theorem dX10_ofHouseNow_53 : decode cX10_ofHouseNow 53 = .ok (.getfield 163, 3) := by decide +kernel
theorem dX10_ofHouseNow_56 : decode cX10_ofHouseNow 56 = .ok (.ifCond .ne 16, 3) := by decide +kernel
theorem dX10_ofHouseNow_59 : decode cX10_ofHouseNow 59 = .ok (.aload 7, 2) := by decide +kernel
theorem dX10_ofHouseNow_61 : decode cX10_ofHouseNow 61 = .ok (.getfield 155, 3) := by decide +kernel
theorem dX10_ofHouseNow_64 : decode cX10_ofHouseNow 64 = .ok (.iload_n 1, 1) := by decide +kernel
theorem dX10_ofHouseNow_65 : decode cX10_ofHouseNow 65 = .ok (.if_icmp .ne 7, 3) := by decide +kernel
theorem dX10_ofHouseNow_68 : decode cX10_ofHouseNow 68 = .ok (.iconst 1, 1) := by decide +kernel
theorem dX10_ofHouseNow_69 : decode cX10_ofHouseNow 69 = .ok (.goto 4, 3) := by decide +kernel
theorem dX10_ofHouseNow_72 : decode cX10_ofHouseNow 72 = .ok (.iconst 0, 1) := by decide +kernel
theorem dX10_ofHouseNow_73 : decode cX10_ofHouseNow 73 = .ok (.iadd, 1) := by decide +kernel
theorem dX10_ofHouseNow_74 : decode cX10_ofHouseNow 74 = .ok (.istore 4, 2) := by decide +kernel
theorem dX10_ofHouseNow_76 : decode cX10_ofHouseNow 76 = .ok (.iload 5, 2) := by decide +kernel
theorem dX10_ofHouseNow_78 : decode cX10_ofHouseNow 78 = .ok (.aload 7, 2) := by decide +kernel
theorem dX10_ofHouseNow_80 : decode cX10_ofHouseNow 80 = .ok (.getfield 163, 3) := by decide +kernel
theorem dX10_ofHouseNow_83 : decode cX10_ofHouseNow 83 = .ok (.ifCond .ne 16, 3) := by decide +kernel
theorem dX10_ofHouseNow_86 : decode cX10_ofHouseNow 86 = .ok (.aload 7, 2) := by decide +kernel
theorem dX10_ofHouseNow_88 : decode cX10_ofHouseNow 88 = .ok (.getfield 158, 3) := by decide +kernel
theorem dX10_ofHouseNow_91 : decode cX10_ofHouseNow 91 = .ok (.iload_n 1, 1) := by decide +kernel
theorem dX10_ofHouseNow_92 : decode cX10_ofHouseNow 92 = .ok (.if_icmp .ne 7, 3) := by decide +kernel
theorem dX10_ofHouseNow_95 : decode cX10_ofHouseNow 95 = .ok (.iconst 1, 1) := by decide +kernel
theorem dX10_ofHouseNow_96 : decode cX10_ofHouseNow 96 = .ok (.goto 4, 3) := by decide +kernel
theorem dX10_ofHouseNow_99 : decode cX10_ofHouseNow 99 = .ok (.iconst 0, 1) := by decide +kernel
theorem dX10_ofHouseNow_100 : decode cX10_ofHouseNow 100 = .ok (.iadd, 1) := by decide +kernel
theorem dX10_ofHouseNow_101 : decode cX10_ofHouseNow 101 = .ok (.istore 5, 2) := by decide +kernel
theorem dX10_ofHouseNow_103 : decode cX10_ofHouseNow 103 = .ok (.goto (-76), 3) := by decide +kernel
theorem dX10_ofHouseNow_106 : decode cX10_ofHouseNow 106 = .ok (.bipush 8, 2) := by decide +kernel
theorem dX10_ofHouseNow_108 : decode cX10_ofHouseNow 108 = .ok (.newarray .long, 2) := by decide +kernel
theorem dX10_ofHouseNow_110 : decode cX10_ofHouseNow 110 = .ok (.dup, 1) := by decide +kernel
theorem dX10_ofHouseNow_111 : decode cX10_ofHouseNow 111 = .ok (.iconst 0, 1) := by decide +kernel
theorem dX10_ofHouseNow_112 : decode cX10_ofHouseNow 112 = .ok (.aload_n 3, 1) := by decide +kernel
theorem dX10_ofHouseNow_113 : decode cX10_ofHouseNow 113 = .ok (.getfield 110, 3) := by decide +kernel
theorem dX10_ofHouseNow_116 : decode cX10_ofHouseNow 116 = .ok (.i2l, 1) := by decide +kernel
theorem dX10_ofHouseNow_117 : decode cX10_ofHouseNow 117 = .ok (.lastore, 1) := by decide +kernel
theorem dX10_ofHouseNow_118 : decode cX10_ofHouseNow 118 = .ok (.dup, 1) := by decide +kernel
theorem dX10_ofHouseNow_119 : decode cX10_ofHouseNow 119 = .ok (.iconst 1, 1) := by decide +kernel
theorem dX10_ofHouseNow_120 : decode cX10_ofHouseNow 120 = .ok (.aload_n 3, 1) := by decide +kernel
theorem dX10_ofHouseNow_121 : decode cX10_ofHouseNow 121 = .ok (.getfield 133, 3) := by decide +kernel
theorem dX10_ofHouseNow_124 : decode cX10_ofHouseNow 124 = .ok (.i2l, 1) := by decide +kernel
theorem dX10_ofHouseNow_125 : decode cX10_ofHouseNow 125 = .ok (.lastore, 1) := by decide +kernel
theorem dX10_ofHouseNow_126 : decode cX10_ofHouseNow 126 = .ok (.dup, 1) := by decide +kernel
theorem dX10_ofHouseNow_127 : decode cX10_ofHouseNow 127 = .ok (.iconst 2, 1) := by decide +kernel
theorem dX10_ofHouseNow_128 : decode cX10_ofHouseNow 128 = .ok (.aload_n 3, 1) := by decide +kernel
theorem dX10_ofHouseNow_129 : decode cX10_ofHouseNow 129 = .ok (.getfield 130, 3) := by decide +kernel
theorem dX10_ofHouseNow_132 : decode cX10_ofHouseNow 132 = .ok (.i2l, 1) := by decide +kernel
theorem dX10_ofHouseNow_133 : decode cX10_ofHouseNow 133 = .ok (.lastore, 1) := by decide +kernel
theorem dX10_ofHouseNow_134 : decode cX10_ofHouseNow 134 = .ok (.dup, 1) := by decide +kernel
theorem dX10_ofHouseNow_135 : decode cX10_ofHouseNow 135 = .ok (.iconst 3, 1) := by decide +kernel
theorem dX10_ofHouseNow_136 : decode cX10_ofHouseNow 136 = .ok (.aload_n 3, 1) := by decide +kernel
theorem dX10_ofHouseNow_137 : decode cX10_ofHouseNow 137 = .ok (.getfield 113, 3) := by decide +kernel
theorem dX10_ofHouseNow_140 : decode cX10_ofHouseNow 140 = .ok (.iconst 0, 1) := by decide +kernel
theorem dX10_ofHouseNow_141 : decode cX10_ofHouseNow 141 = .ok (.laload, 1) := by decide +kernel
theorem dX10_ofHouseNow_142 : decode cX10_ofHouseNow 142 = .ok (.lastore, 1) := by decide +kernel
theorem dX10_ofHouseNow_143 : decode cX10_ofHouseNow 143 = .ok (.dup, 1) := by decide +kernel
theorem dX10_ofHouseNow_144 : decode cX10_ofHouseNow 144 = .ok (.iconst 4, 1) := by decide +kernel
theorem dX10_ofHouseNow_145 : decode cX10_ofHouseNow 145 = .ok (.aload_n 3, 1) := by decide +kernel
theorem dX10_ofHouseNow_146 : decode cX10_ofHouseNow 146 = .ok (.getfield 113, 3) := by decide +kernel
theorem dX10_ofHouseNow_149 : decode cX10_ofHouseNow 149 = .ok (.iconst 1, 1) := by decide +kernel
theorem dX10_ofHouseNow_150 : decode cX10_ofHouseNow 150 = .ok (.laload, 1) := by decide +kernel
theorem dX10_ofHouseNow_151 : decode cX10_ofHouseNow 151 = .ok (.lastore, 1) := by decide +kernel
theorem dX10_ofHouseNow_152 : decode cX10_ofHouseNow 152 = .ok (.dup, 1) := by decide +kernel
theorem dX10_ofHouseNow_153 : decode cX10_ofHouseNow 153 = .ok (.iconst 5, 1) := by decide +kernel
theorem dX10_ofHouseNow_154 : decode cX10_ofHouseNow 154 = .ok (.aload_n 0, 1) := by decide +kernel
theorem dX10_ofHouseNow_155 : decode cX10_ofHouseNow 155 = .ok (.aload_n 3, 1) := by decide +kernel
theorem dX10_ofHouseNow_156 : decode cX10_ofHouseNow 156 = .ok (.getfield 113, 3) := by decide +kernel
theorem dX10_ofHouseNow_159 : decode cX10_ofHouseNow 159 = .ok (.invokevirtual 206, 3) := by decide +kernel
theorem dX10_ofHouseNow_162 : decode cX10_ofHouseNow 162 = .ok (.lastore, 1) := by decide +kernel
theorem dX10_ofHouseNow_163 : decode cX10_ofHouseNow 163 = .ok (.dup, 1) := by decide +kernel
theorem dX10_ofHouseNow_164 : decode cX10_ofHouseNow 164 = .ok (.bipush 6, 2) := by decide +kernel
theorem dX10_ofHouseNow_166 : decode cX10_ofHouseNow 166 = .ok (.iload 4, 2) := by decide +kernel
theorem dX10_ofHouseNow_168 : decode cX10_ofHouseNow 168 = .ok (.i2l, 1) := by decide +kernel
theorem dX10_ofHouseNow_169 : decode cX10_ofHouseNow 169 = .ok (.lastore, 1) := by decide +kernel
theorem dX10_ofHouseNow_170 : decode cX10_ofHouseNow 170 = .ok (.dup, 1) := by decide +kernel
theorem dX10_ofHouseNow_171 : decode cX10_ofHouseNow 171 = .ok (.bipush 7, 2) := by decide +kernel
theorem dX10_ofHouseNow_173 : decode cX10_ofHouseNow 173 = .ok (.iload 5, 2) := by decide +kernel
theorem dX10_ofHouseNow_175 : decode cX10_ofHouseNow 175 = .ok (.i2l, 1) := by decide +kernel
theorem dX10_ofHouseNow_176 : decode cX10_ofHouseNow 176 = .ok (.lastore, 1) := by decide +kernel
theorem dX10_ofHouseNow_177 : decode cX10_ofHouseNow 177 = .ok (.astore 6, 2) := by decide +kernel
theorem dX10_ofHouseNow_179 : decode cX10_ofHouseNow 179 = .ok (.aload 6, 2) := by decide +kernel
theorem dX10_ofHouseNow_181 : decode cX10_ofHouseNow 181 = .ok (.iload_n 2, 1) := by decide +kernel
theorem dX10_ofHouseNow_182 : decode cX10_ofHouseNow 182 = .ok (.laload, 1) := by decide +kernel
theorem dX10_ofHouseNow_183 : decode cX10_ofHouseNow 183 = .ok (.l2i, 1) := by decide +kernel
theorem dX10_ofHouseNow_184 : decode cX10_ofHouseNow 184 = .ok (.ireturn, 1) := by decide +kernel
theorem dX10_ofHouse_0 : decode cX10_ofHouse 0 = .ok (.aload_n 0, 1) := by decide +kernel
theorem dX10_ofHouse_1 : decode cX10_ofHouse 1 = .ok (.aload_n 0, 1) := by decide +kernel
theorem dX10_ofHouse_2 : decode cX10_ofHouse 2 = .ok (.iload_n 1, 1) := by decide +kernel
theorem dX10_ofHouse_3 : decode cX10_ofHouse 3 = .ok (.invokevirtual 120, 3) := by decide +kernel
theorem dX10_ofHouse_6 : decode cX10_ofHouse 6 = .ok (.iconst 1, 1) := by decide +kernel
theorem dX10_ofHouse_7 : decode cX10_ofHouse 7 = .ok (.invokevirtual 79, 3) := by decide +kernel
theorem dX10_ofHouse_10 : decode cX10_ofHouse 10 = .ok (.ifCond .ne 26, 3) := by decide +kernel
theorem dX10_ofHouse_13 : decode cX10_ofHouse 13 = .ok (.aload_n 0, 1) := by decide +kernel
theorem dX10_ofHouse_14 : decode cX10_ofHouse 14 = .ok (.iload_n 2, 1) := by decide +kernel
theorem dX10_ofHouse_15 : decode cX10_ofHouse 15 = .ok (.iconst 0, 1) := by decide +kernel
theorem dX10_ofHouse_16 : decode cX10_ofHouse 16 = .ok (.bipush 7, 2) := by decide +kernel
theorem dX10_ofHouse_18 : decode cX10_ofHouse 18 = .ok (.invokestatic 58, 3) := by decide +kernel
theorem dX10_ofHouse_21 : decode cX10_ofHouse 21 = .ok (.ifCond .ne 7, 3) := by decide +kernel
theorem dX10_ofHouse_24 : decode cX10_ofHouse 24 = .ok (.iconst 1, 1) := by decide +kernel
theorem dX10_ofHouse_25 : decode cX10_ofHouse 25 = .ok (.goto 4, 3) := by decide +kernel
theorem dX10_ofHouse_28 : decode cX10_ofHouse 28 = .ok (.iconst 0, 1) := by decide +kernel
theorem dX10_ofHouse_29 : decode cX10_ofHouse 29 = .ok (.iconst 2, 1) := by decide +kernel
theorem dX10_ofHouse_30 : decode cX10_ofHouse 30 = .ok (.invokevirtual 50, 3) := by decide +kernel
theorem dX10_ofHouse_33 : decode cX10_ofHouse 33 = .ok (.ifCond .eq 7, 3) := by decide +kernel
theorem dX10_ofHouse_36 : decode cX10_ofHouse 36 = .ok (.iconst 0, 1) := by decide +kernel
theorem dX10_ofHouse_37 : decode cX10_ofHouse 37 = .ok (.goto 9, 3) := by decide +kernel
theorem dX10_ofHouse_40 : decode cX10_ofHouse 40 = .ok (.aload_n 0, 1) := by decide +kernel
theorem dX10_ofHouse_41 : decode cX10_ofHouse 41 = .ok (.iload_n 1, 1) := by decide +kernel
theorem dX10_ofHouse_42 : decode cX10_ofHouse 42 = .ok (.iload_n 2, 1) := by decide +kernel
theorem dX10_ofHouse_43 : decode cX10_ofHouse 43 = .ok (.invokevirtual 213, 3) := by decide +kernel
theorem dX10_ofHouse_46 : decode cX10_ofHouse 46 = .ok (.ireturn, 1) := by decide +kernel
theorem dX10_cheaper_0 : decode cX10_cheaper 0 = .ok (.aload_n 1, 1) := by decide +kernel
theorem dX10_cheaper_1 : decode cX10_cheaper 1 = .ok (.getfield 163, 3) := by decide +kernel
theorem dX10_cheaper_4 : decode cX10_cheaper 4 = .ok (.ifCond .ne 24, 3) := by decide +kernel
theorem dX10_cheaper_7 : decode cX10_cheaper 7 = .ok (.aload_n 0, 1) := by decide +kernel
theorem dX10_cheaper_8 : decode cX10_cheaper 8 = .ok (.getfield 41, 3) := by decide +kernel
theorem dX10_cheaper_11 : decode cX10_cheaper 11 = .ok (.aload_n 1, 1) := by decide +kernel
theorem dX10_cheaper_12 : decode cX10_cheaper 12 = .ok (.getfield 155, 3) := by decide +kernel
theorem dX10_cheaper_15 : decode cX10_cheaper 15 = .ok (.invokevirtual 94, 3) := by decide +kernel
theorem dX10_cheaper_18 : decode cX10_cheaper 18 = .ok (.checkcast 107, 3) := by decide +kernel
theorem dX10_cheaper_21 : decode cX10_cheaper 21 = .ok (.getfield 110, 3) := by decide +kernel
theorem dX10_cheaper_24 : decode cX10_cheaper 24 = .ok (.iconst (-1), 1) := by decide +kernel
theorem dX10_cheaper_25 : decode cX10_cheaper 25 = .ok (.if_icmp .ne 5, 3) := by decide +kernel
theorem dX10_cheaper_28 : decode cX10_cheaper 28 = .ok (.iconst (-1), 1) := by decide +kernel
theorem dX10_cheaper_29 : decode cX10_cheaper 29 = .ok (.ireturn, 1) := by decide +kernel
theorem dX10_cheaper_30 : decode cX10_cheaper 30 = .ok (.aload_n 0, 1) := by decide +kernel
theorem dX10_cheaper_31 : decode cX10_cheaper 31 = .ok (.aload_n 1, 1) := by decide +kernel
theorem dX10_cheaper_32 : decode cX10_cheaper 32 = .ok (.iconst 0, 1) := by decide +kernel
theorem dX10_cheaper_33 : decode cX10_cheaper 33 = .ok (.invokevirtual 177, 3) := by decide +kernel
theorem dX10_cheaper_36 : decode cX10_cheaper 36 = .ok (.aload_n 0, 1) := by decide +kernel
theorem dX10_cheaper_37 : decode cX10_cheaper 37 = .ok (.getfield 7, 3) := by decide +kernel
theorem dX10_cheaper_40 : decode cX10_cheaper 40 = .ok (.i2l, 1) := by decide +kernel
theorem dX10_cheaper_41 : decode cX10_cheaper 41 = .ok (.lmul, 1) := by decide +kernel
theorem dX10_cheaper_42 : decode cX10_cheaper 42 = .ok (.ldc2_w 67, 3) := by decide +kernel
theorem dX10_cheaper_45 : decode cX10_cheaper 45 = .ok (.ldiv, 1) := by decide +kernel
theorem dX10_cheaper_46 : decode cX10_cheaper 46 = .ok (.aload_n 0, 1) := by decide +kernel
theorem dX10_cheaper_47 : decode cX10_cheaper 47 = .ok (.aload_n 1, 1) := by decide +kernel
theorem dX10_cheaper_48 : decode cX10_cheaper 48 = .ok (.iconst 1, 1) := by decide +kernel
theorem dX10_cheaper_49 : decode cX10_cheaper 49 = .ok (.invokevirtual 177, 3) := by decide +kernel
theorem dX10_cheaper_52 : decode cX10_cheaper 52 = .ok (.lcmp, 1) := by decide +kernel
theorem dX10_cheaper_53 : decode cX10_cheaper 53 = .ok (.ifCond .ge 7, 3) := by decide +kernel
theorem dX10_cheaper_56 : decode cX10_cheaper 56 = .ok (.iconst 0, 1) := by decide +kernel
theorem dX10_cheaper_57 : decode cX10_cheaper 57 = .ok (.goto 4, 3) := by decide +kernel
theorem dX10_cheaper_60 : decode cX10_cheaper 60 = .ok (.iconst 1, 1) := by decide +kernel
theorem dX10_cheaper_61 : decode cX10_cheaper 61 = .ok (.ireturn, 1) := by decide +kernel
theorem dX10_ofDebtNow_0 : decode cX10_ofDebtNow 0 = .ok (.bipush 7, 2) := by decide +kernel
theorem dX10_ofDebtNow_2 : decode cX10_ofDebtNow 2 = .ok (.newarray .int, 2) := by decide +kernel
theorem dX10_ofDebtNow_4 : decode cX10_ofDebtNow 4 = .ok (.dup, 1) := by decide +kernel
theorem dX10_ofDebtNow_5 : decode cX10_ofDebtNow 5 = .ok (.iconst 0, 1) := by decide +kernel
theorem dX10_ofDebtNow_6 : decode cX10_ofDebtNow 6 = .ok (.aload_n 1, 1) := by decide +kernel
theorem dX10_ofDebtNow_7 : decode cX10_ofDebtNow 7 = .ok (.getfield 155, 3) := by decide +kernel
theorem dX10_ofDebtNow_10 : decode cX10_ofDebtNow 10 = .ok (.iastore, 1) := by decide +kernel
theorem dX10_ofDebtNow_11 : decode cX10_ofDebtNow 11 = .ok (.dup, 1) := by decide +kernel
theorem dX10_ofDebtNow_12 : decode cX10_ofDebtNow 12 = .ok (.iconst 1, 1) := by decide +kernel
theorem dX10_ofDebtNow_13 : decode cX10_ofDebtNow 13 = .ok (.aload_n 1, 1) := by decide +kernel
theorem dX10_ofDebtNow_14 : decode cX10_ofDebtNow 14 = .ok (.getfield 158, 3) := by decide +kernel
theorem dX10_ofDebtNow_17 : decode cX10_ofDebtNow 17 = .ok (.iastore, 1) := by decide +kernel
theorem dX10_ofDebtNow_18 : decode cX10_ofDebtNow 18 = .ok (.dup, 1) := by decide +kernel
theorem dX10_ofDebtNow_19 : decode cX10_ofDebtNow 19 = .ok (.iconst 2, 1) := by decide +kernel
theorem dX10_ofDebtNow_20 : decode cX10_ofDebtNow 20 = .ok (.aload_n 1, 1) := by decide +kernel
theorem dX10_ofDebtNow_21 : decode cX10_ofDebtNow 21 = .ok (.getfield 159, 3) := by decide +kernel
theorem dX10_ofDebtNow_24 : decode cX10_ofDebtNow 24 = .ok (.iastore, 1) := by decide +kernel
theorem dX10_ofDebtNow_25 : decode cX10_ofDebtNow 25 = .ok (.dup, 1) := by decide +kernel
theorem dX10_ofDebtNow_26 : decode cX10_ofDebtNow 26 = .ok (.iconst 3, 1) := by decide +kernel
theorem dX10_ofDebtNow_27 : decode cX10_ofDebtNow 27 = .ok (.aload_n 1, 1) := by decide +kernel
theorem dX10_ofDebtNow_28 : decode cX10_ofDebtNow 28 = .ok (.getfield 162, 3) := by decide +kernel
theorem dX10_ofDebtNow_31 : decode cX10_ofDebtNow 31 = .ok (.iastore, 1) := by decide +kernel
theorem dX10_ofDebtNow_32 : decode cX10_ofDebtNow 32 = .ok (.dup, 1) := by decide +kernel
theorem dX10_ofDebtNow_33 : decode cX10_ofDebtNow 33 = .ok (.iconst 4, 1) := by decide +kernel
theorem dX10_ofDebtNow_34 : decode cX10_ofDebtNow 34 = .ok (.aload_n 0, 1) := by decide +kernel
theorem dX10_ofDebtNow_35 : decode cX10_ofDebtNow 35 = .ok (.aload_n 1, 1) := by decide +kernel
theorem dX10_ofDebtNow_36 : decode cX10_ofDebtNow 36 = .ok (.invokevirtual 173, 3) := by decide +kernel
theorem dX10_ofDebtNow_39 : decode cX10_ofDebtNow 39 = .ok (.iastore, 1) := by decide +kernel
theorem dX10_ofDebtNow_40 : decode cX10_ofDebtNow 40 = .ok (.dup, 1) := by decide +kernel
theorem dX10_ofDebtNow_41 : decode cX10_ofDebtNow 41 = .ok (.iconst 5, 1) := by decide +kernel
theorem dX10_ofDebtNow_42 : decode cX10_ofDebtNow 42 = .ok (.aload_n 1, 1) := by decide +kernel
theorem dX10_ofDebtNow_43 : decode cX10_ofDebtNow 43 = .ok (.getfield 163, 3) := by decide +kernel
theorem dX10_ofDebtNow_46 : decode cX10_ofDebtNow 46 = .ok (.ifCond .eq 7, 3) := by decide +kernel
theorem dX10_ofDebtNow_49 : decode cX10_ofDebtNow 49 = .ok (.iconst 1, 1) := by decide +kernel
theorem dX10_ofDebtNow_50 : decode cX10_ofDebtNow 50 = .ok (.goto 4, 3) := by decide +kernel
theorem dX10_ofDebtNow_53 : decode cX10_ofDebtNow 53 = .ok (.iconst 0, 1) := by decide +kernel
theorem dX10_ofDebtNow_54 : decode cX10_ofDebtNow 54 = .ok (.iastore, 1) := by decide +kernel
theorem dX10_ofDebtNow_55 : decode cX10_ofDebtNow 55 = .ok (.dup, 1) := by decide +kernel
theorem dX10_ofDebtNow_56 : decode cX10_ofDebtNow 56 = .ok (.bipush 6, 2) := by decide +kernel
theorem dX10_ofDebtNow_58 : decode cX10_ofDebtNow 58 = .ok (.aload_n 0, 1) := by decide +kernel
theorem dX10_ofDebtNow_59 : decode cX10_ofDebtNow 59 = .ok (.aload_n 1, 1) := by decide +kernel
theorem dX10_ofDebtNow_60 : decode cX10_ofDebtNow 60 = .ok (.invokevirtual 216, 3) := by decide +kernel
theorem dX10_ofDebtNow_63 : decode cX10_ofDebtNow 63 = .ok (.iastore, 1) := by decide +kernel
theorem dX10_ofDebtNow_64 : decode cX10_ofDebtNow 64 = .ok (.astore_n 3, 1) := by decide +kernel
theorem dX10_ofDebtNow_65 : decode cX10_ofDebtNow 65 = .ok (.aload_n 3, 1) := by decide +kernel
theorem dX10_ofDebtNow_66 : decode cX10_ofDebtNow 66 = .ok (.iload_n 2, 1) := by decide +kernel
theorem dX10_ofDebtNow_67 : decode cX10_ofDebtNow 67 = .ok (.iaload, 1) := by decide +kernel
theorem dX10_ofDebtNow_68 : decode cX10_ofDebtNow 68 = .ok (.ireturn, 1) := by decide +kernel
theorem dX10_ofDebt_0 : decode cX10_ofDebt 0 = .ok (.aload_n 0, 1) := by decide +kernel
theorem dX10_ofDebt_1 : decode cX10_ofDebt 1 = .ok (.iload_n 1, 1) := by decide +kernel
theorem dX10_ofDebt_2 : decode cX10_ofDebt 2 = .ok (.iconst 0, 1) := by decide +kernel
theorem dX10_ofDebt_3 : decode cX10_ofDebt 3 = .ok (.aload_n 0, 1) := by decide +kernel
theorem dX10_ofDebt_4 : decode cX10_ofDebt 4 = .ok (.getfield 44, 3) := by decide +kernel
theorem dX10_ofDebt_7 : decode cX10_ofDebt 7 = .ok (.invokevirtual 54, 3) := by decide +kernel
theorem dX10_ofDebt_10 : decode cX10_ofDebt 10 = .ok (.iconst 1, 1) := by decide +kernel
theorem dX10_ofDebt_11 : decode cX10_ofDebt 11 = .ok (.isub, 1) := by decide +kernel
theorem dX10_ofDebt_12 : decode cX10_ofDebt 12 = .ok (.invokestatic 58, 3) := by decide +kernel
theorem dX10_ofDebt_15 : decode cX10_ofDebt 15 = .ok (.ifCond .ne 7, 3) := by decide +kernel
theorem dX10_ofDebt_18 : decode cX10_ofDebt 18 = .ok (.iconst 1, 1) := by decide +kernel
theorem dX10_ofDebt_19 : decode cX10_ofDebt 19 = .ok (.goto 4, 3) := by decide +kernel
theorem dX10_ofDebt_22 : decode cX10_ofDebt 22 = .ok (.iconst 0, 1) := by decide +kernel
theorem dX10_ofDebt_23 : decode cX10_ofDebt 23 = .ok (.iconst 1, 1) := by decide +kernel
theorem dX10_ofDebt_24 : decode cX10_ofDebt 24 = .ok (.invokevirtual 79, 3) := by decide +kernel
theorem dX10_ofDebt_27 : decode cX10_ofDebt 27 = .ok (.ifCond .ne 26, 3) := by decide +kernel
theorem dX10_ofDebt_30 : decode cX10_ofDebt 30 = .ok (.aload_n 0, 1) := by decide +kernel
theorem dX10_ofDebt_31 : decode cX10_ofDebt 31 = .ok (.iload_n 2, 1) := by decide +kernel
theorem dX10_ofDebt_32 : decode cX10_ofDebt 32 = .ok (.iconst 0, 1) := by decide +kernel
theorem dX10_ofDebt_33 : decode cX10_ofDebt 33 = .ok (.bipush 6, 2) := by decide +kernel
theorem dX10_ofDebt_35 : decode cX10_ofDebt 35 = .ok (.invokestatic 58, 3) := by decide +kernel
theorem dX10_ofDebt_38 : decode cX10_ofDebt 38 = .ok (.ifCond .ne 7, 3) := by decide +kernel
theorem dX10_ofDebt_41 : decode cX10_ofDebt 41 = .ok (.iconst 1, 1) := by decide +kernel
theorem dX10_ofDebt_42 : decode cX10_ofDebt 42 = .ok (.goto 4, 3) := by decide +kernel
theorem dX10_ofDebt_45 : decode cX10_ofDebt 45 = .ok (.iconst 0, 1) := by decide +kernel
theorem dX10_ofDebt_46 : decode cX10_ofDebt 46 = .ok (.iconst 2, 1) := by decide +kernel
theorem dX10_ofDebt_47 : decode cX10_ofDebt 47 = .ok (.invokevirtual 50, 3) := by decide +kernel
theorem dX10_ofDebt_50 : decode cX10_ofDebt 50 = .ok (.ifCond .eq 7, 3) := by decide +kernel
theorem dX10_ofDebt_53 : decode cX10_ofDebt 53 = .ok (.iconst 0, 1) := by decide +kernel
theorem dX10_ofDebt_54 : decode cX10_ofDebt 54 = .ok (.goto 19, 3) := by decide +kernel
theorem dX10_ofDebt_57 : decode cX10_ofDebt 57 = .ok (.aload_n 0, 1) := by decide +kernel
theorem dX10_ofDebt_58 : decode cX10_ofDebt 58 = .ok (.aload_n 0, 1) := by decide +kernel
theorem dX10_ofDebt_59 : decode cX10_ofDebt 59 = .ok (.getfield 44, 3) := by decide +kernel
theorem dX10_ofDebt_62 : decode cX10_ofDebt 62 = .ok (.iload_n 1, 1) := by decide +kernel
theorem dX10_ofDebt_63 : decode cX10_ofDebt 63 = .ok (.invokevirtual 94, 3) := by decide +kernel
theorem dX10_ofDebt_66 : decode cX10_ofDebt 66 = .ok (.checkcast 152, 3) := by decide +kernel
theorem dX10_ofDebt_69 : decode cX10_ofDebt 69 = .ok (.iload_n 2, 1) := by decide +kernel
theorem dX10_ofDebt_70 : decode cX10_ofDebt 70 = .ok (.invokevirtual 219, 3) := by decide +kernel
theorem dX10_ofDebt_73 : decode cX10_ofDebt 73 = .ok (.ireturn, 1) := by decide +kernel
theorem dX10_worldNow_0 : decode cX10_worldNow 0 = .ok (.lconst 0, 1) := by decide +kernel
theorem dX10_worldNow_1 : decode cX10_worldNow 1 = .ok (.lstore_n 3, 1) := by decide +kernel
theorem dX10_worldNow_2 : decode cX10_worldNow 2 = .ok (.lconst 0, 1) := by decide +kernel
theorem dX10_worldNow_3 : decode cX10_worldNow 3 = .ok (.lstore 5, 2) := by decide +kernel
theorem dX10_worldNow_5 : decode cX10_worldNow 5 = .ok (.aload_n 0, 1) := by decide +kernel
theorem dX10_worldNow_6 : decode cX10_worldNow 6 = .ok (.getfield 37, 3) := by decide +kernel
theorem dX10_worldNow_9 : decode cX10_worldNow 9 = .ok (.invokevirtual 136, 3) := by decide +kernel
theorem dX10_worldNow_12 : decode cX10_worldNow 12 = .ok (.astore 7, 2) := by decide +kernel
theorem dX10_worldNow_14 : decode cX10_worldNow 14 = .ok (.aload 7, 2) := by decide +kernel
theorem dX10_worldNow_16 : decode cX10_worldNow 16 = .ok (.invokeinterface 140 1, 5) := by decide +kernel
theorem dX10_worldNow_21 : decode cX10_worldNow 21 = .ok (.ifCond .eq 28, 3) := by decide +kernel
theorem dX10_worldNow_24 : decode cX10_worldNow 24 = .ok (.aload 7, 2) := by decide +kernel
theorem dX10_worldNow_26 : decode cX10_worldNow 26 = .ok (.invokeinterface 146 1, 5) := by decide +kernel
theorem dX10_worldNow_31 : decode cX10_worldNow 31 = .ok (.checkcast 63, 3) := by decide +kernel
theorem dX10_worldNow_34 : decode cX10_worldNow 34 = .ok (.astore 8, 2) := by decide +kernel
theorem dX10_worldNow_36 : decode cX10_worldNow 36 = .ok (.lload_n 3, 1) := by decide +kernel
theorem dX10_worldNow_37 : decode cX10_worldNow 37 = .ok (.aload 8, 2) := by decide +kernel
theorem dX10_worldNow_39 : decode cX10_worldNow 39 = .ok (.getfield 83, 3) := by decide +kernel
theorem dX10_worldNow_42 : decode cX10_worldNow 42 = .ok (.iload_n 1, 1) := by decide +kernel
theorem dX10_worldNow_43 : decode cX10_worldNow 43 = .ok (.laload, 1) := by decide +kernel
theorem dX10_worldNow_44 : decode cX10_worldNow 44 = .ok (.ladd, 1) := by decide +kernel
theorem dX10_worldNow_45 : decode cX10_worldNow 45 = .ok (.lstore_n 3, 1) := by decide +kernel
theorem dX10_worldNow_46 : decode cX10_worldNow 46 = .ok (.goto (-32), 3) := by decide +kernel
theorem dX10_worldNow_49 : decode cX10_worldNow 49 = .ok (.aload_n 0, 1) := by decide +kernel
theorem dX10_worldNow_50 : decode cX10_worldNow 50 = .ok (.getfield 41, 3) := by decide +kernel
theorem dX10_worldNow_53 : decode cX10_worldNow 53 = .ok (.invokevirtual 136, 3) := by decide +kernel
theorem dX10_worldNow_56 : decode cX10_worldNow 56 = .ok (.astore 7, 2) := by decide +kernel
theorem dX10_worldNow_58 : decode cX10_worldNow 58 = .ok (.aload 7, 2) := by decide +kernel
theorem dX10_worldNow_60 : decode cX10_worldNow 60 = .ok (.invokeinterface 140 1, 5) := by decide +kernel
theorem dX10_worldNow_65 : decode cX10_worldNow 65 = .ok (.ifCond .eq 30, 3) := by decide +kernel
theorem dX10_worldNow_68 : decode cX10_worldNow 68 = .ok (.aload 7, 2) := by decide +kernel
theorem dX10_worldNow_70 : decode cX10_worldNow 70 = .ok (.invokeinterface 146 1, 5) := by decide +kernel
theorem dX10_worldNow_75 : decode cX10_worldNow 75 = .ok (.checkcast 107, 3) := by decide +kernel
theorem dX10_worldNow_78 : decode cX10_worldNow 78 = .ok (.astore 8, 2) := by decide +kernel
theorem dX10_worldNow_80 : decode cX10_worldNow 80 = .ok (.lload 5, 2) := by decide +kernel
theorem dX10_worldNow_82 : decode cX10_worldNow 82 = .ok (.aload 8, 2) := by decide +kernel
theorem dX10_worldNow_84 : decode cX10_worldNow 84 = .ok (.getfield 113, 3) := by decide +kernel
theorem dX10_worldNow_87 : decode cX10_worldNow 87 = .ok (.iload_n 1, 1) := by decide +kernel
theorem dX10_worldNow_88 : decode cX10_worldNow 88 = .ok (.laload, 1) := by decide +kernel
theorem dX10_worldNow_89 : decode cX10_worldNow 89 = .ok (.ladd, 1) := by decide +kernel
theorem dX10_worldNow_90 : decode cX10_worldNow 90 = .ok (.lstore 5, 2) := by decide +kernel
theorem dX10_worldNow_92 : decode cX10_worldNow 92 = .ok (.goto (-34), 3) := by decide +kernel
theorem dX10_worldNow_95 : decode cX10_worldNow 95 = .ok (.bipush 6, 2) := by decide +kernel
theorem dX10_worldNow_97 : decode cX10_worldNow 97 = .ok (.newarray .long, 2) := by decide +kernel
theorem dX10_worldNow_99 : decode cX10_worldNow 99 = .ok (.dup, 1) := by decide +kernel
theorem dX10_worldNow_100 : decode cX10_worldNow 100 = .ok (.iconst 0, 1) := by decide +kernel
theorem dX10_worldNow_101 : decode cX10_worldNow 101 = .ok (.lload_n 3, 1) := by decide +kernel
theorem dX10_worldNow_102 : decode cX10_worldNow 102 = .ok (.lastore, 1) := by decide +kernel
theorem dX10_worldNow_103 : decode cX10_worldNow 103 = .ok (.dup, 1) := by decide +kernel
theorem dX10_worldNow_104 : decode cX10_worldNow 104 = .ok (.iconst 1, 1) := by decide +kernel
theorem dX10_worldNow_105 : decode cX10_worldNow 105 = .ok (.lload 5, 2) := by decide +kernel
theorem dX10_worldNow_107 : decode cX10_worldNow 107 = .ok (.lastore, 1) := by decide +kernel
theorem dX10_worldNow_108 : decode cX10_worldNow 108 = .ok (.dup, 1) := by decide +kernel
theorem dX10_worldNow_109 : decode cX10_worldNow 109 = .ok (.iconst 2, 1) := by decide +kernel
theorem dX10_worldNow_110 : decode cX10_worldNow 110 = .ok (.aload_n 0, 1) := by decide +kernel
theorem dX10_worldNow_111 : decode cX10_worldNow 111 = .ok (.getfield 21, 3) := by decide +kernel
theorem dX10_worldNow_114 : decode cX10_worldNow 114 = .ok (.iload_n 1, 1) := by decide +kernel
theorem dX10_worldNow_115 : decode cX10_worldNow 115 = .ok (.laload, 1) := by decide +kernel
theorem dX10_worldNow_116 : decode cX10_worldNow 116 = .ok (.lastore, 1) := by decide +kernel
theorem dX10_worldNow_117 : decode cX10_worldNow 117 = .ok (.dup, 1) := by decide +kernel
theorem dX10_worldNow_118 : decode cX10_worldNow 118 = .ok (.iconst 3, 1) := by decide +kernel
theorem dX10_worldNow_119 : decode cX10_worldNow 119 = .ok (.aload_n 0, 1) := by decide +kernel
theorem dX10_worldNow_120 : decode cX10_worldNow 120 = .ok (.getfield 25, 3) := by decide +kernel
theorem dX10_worldNow_123 : decode cX10_worldNow 123 = .ok (.iload_n 1, 1) := by decide +kernel
theorem dX10_worldNow_124 : decode cX10_worldNow 124 = .ok (.laload, 1) := by decide +kernel
theorem dX10_worldNow_125 : decode cX10_worldNow 125 = .ok (.lastore, 1) := by decide +kernel
theorem dX10_worldNow_126 : decode cX10_worldNow 126 = .ok (.dup, 1) := by decide +kernel
theorem dX10_worldNow_127 : decode cX10_worldNow 127 = .ok (.iconst 4, 1) := by decide +kernel
theorem dX10_worldNow_128 : decode cX10_worldNow 128 = .ok (.aload_n 0, 1) := by decide +kernel
theorem dX10_worldNow_129 : decode cX10_worldNow 129 = .ok (.getfield 28, 3) := by decide +kernel
theorem dX10_worldNow_132 : decode cX10_worldNow 132 = .ok (.iload_n 1, 1) := by decide +kernel
theorem dX10_worldNow_133 : decode cX10_worldNow 133 = .ok (.laload, 1) := by decide +kernel
theorem dX10_worldNow_134 : decode cX10_worldNow 134 = .ok (.lastore, 1) := by decide +kernel
theorem dX10_worldNow_135 : decode cX10_worldNow 135 = .ok (.dup, 1) := by decide +kernel
theorem dX10_worldNow_136 : decode cX10_worldNow 136 = .ok (.iconst 5, 1) := by decide +kernel
theorem dX10_worldNow_137 : decode cX10_worldNow 137 = .ok (.aload_n 0, 1) := by decide +kernel
theorem dX10_worldNow_138 : decode cX10_worldNow 138 = .ok (.getfield 31, 3) := by decide +kernel
theorem dX10_worldNow_141 : decode cX10_worldNow 141 = .ok (.iload_n 1, 1) := by decide +kernel
theorem dX10_worldNow_142 : decode cX10_worldNow 142 = .ok (.laload, 1) := by decide +kernel
theorem dX10_worldNow_143 : decode cX10_worldNow 143 = .ok (.lastore, 1) := by decide +kernel
theorem dX10_worldNow_144 : decode cX10_worldNow 144 = .ok (.astore 7, 2) := by decide +kernel
theorem dX10_worldNow_146 : decode cX10_worldNow 146 = .ok (.aload 7, 2) := by decide +kernel
theorem dX10_worldNow_148 : decode cX10_worldNow 148 = .ok (.iload_n 2, 1) := by decide +kernel
theorem dX10_worldNow_149 : decode cX10_worldNow 149 = .ok (.laload, 1) := by decide +kernel
theorem dX10_worldNow_150 : decode cX10_worldNow 150 = .ok (.l2i, 1) := by decide +kernel
theorem dX10_worldNow_151 : decode cX10_worldNow 151 = .ok (.ireturn, 1) := by decide +kernel
theorem dX10_world_0 : decode cX10_world 0 = .ok (.aload_n 0, 1) := by decide +kernel
theorem dX10_world_1 : decode cX10_world 1 = .ok (.iload_n 1, 1) := by decide +kernel
theorem dX10_world_2 : decode cX10_world 2 = .ok (.invokestatic 98, 3) := by decide +kernel
theorem dX10_world_5 : decode cX10_world 5 = .ok (.ifCond .ne 12, 3) := by decide +kernel
theorem dX10_world_8 : decode cX10_world 8 = .ok (.iload_n 2, 1) := by decide +kernel
theorem dX10_world_9 : decode cX10_world 9 = .ok (.iconst 0, 1) := by decide +kernel
theorem dX10_world_10 : decode cX10_world 10 = .ok (.iconst 5, 1) := by decide +kernel
theorem dX10_world_11 : decode cX10_world 11 = .ok (.invokestatic 58, 3) := by decide +kernel
theorem dX10_world_14 : decode cX10_world 14 = .ok (.ifCond .ne 7, 3) := by decide +kernel
theorem dX10_world_17 : decode cX10_world 17 = .ok (.iconst 1, 1) := by decide +kernel
theorem dX10_world_18 : decode cX10_world 18 = .ok (.goto 4, 3) := by decide +kernel
theorem dX10_world_21 : decode cX10_world 21 = .ok (.iconst 0, 1) := by decide +kernel
theorem dX10_world_22 : decode cX10_world 22 = .ok (.iconst 1, 1) := by decide +kernel
theorem dX10_world_23 : decode cX10_world 23 = .ok (.invokevirtual 79, 3) := by decide +kernel
theorem dX10_world_26 : decode cX10_world 26 = .ok (.ifCond .eq 7, 3) := by decide +kernel
theorem dX10_world_29 : decode cX10_world 29 = .ok (.iconst 0, 1) := by decide +kernel
theorem dX10_world_30 : decode cX10_world 30 = .ok (.goto 9, 3) := by decide +kernel
theorem dX10_world_33 : decode cX10_world 33 = .ok (.aload_n 0, 1) := by decide +kernel
theorem dX10_world_34 : decode cX10_world 34 = .ok (.iload_n 1, 1) := by decide +kernel
theorem dX10_world_35 : decode cX10_world 35 = .ok (.iload_n 2, 1) := by decide +kernel
theorem dX10_world_36 : decode cX10_world 36 = .ok (.invokevirtual 223, 3) := by decide +kernel
theorem dX10_world_39 : decode cX10_world 39 = .ok (.ireturn, 1) := by decide +kernel
theorem dX10_sign_0 : decode cX10_sign 0 = .ok (.aload_n 0, 1) := by decide +kernel
theorem dX10_sign_1 : decode cX10_sign 1 = .ok (.aload_n 0, 1) := by decide +kernel
theorem dX10_sign_2 : decode cX10_sign 2 = .ok (.iload_n 1, 1) := by decide +kernel
theorem dX10_sign_3 : decode cX10_sign 3 = .ok (.invokevirtual 90, 3) := by decide +kernel
theorem dX10_sign_6 : decode cX10_sign 6 = .ok (.iconst 1, 1) := by decide +kernel
theorem dX10_sign_7 : decode cX10_sign 7 = .ok (.invokevirtual 79, 3) := by decide +kernel
theorem dX10_sign_10 : decode cX10_sign 10 = .ok (.ifCond .eq 6, 3) := by decide +kernel
theorem dX10_sign_13 : decode cX10_sign 13 = .ok (.ldc 226, 2) := by decide +kernel
theorem dX10_sign_15 : decode cX10_sign 15 = .ok (.areturn, 1) := by decide +kernel
theorem dX10_sign_16 : decode cX10_sign 16 = .ok (.aload_n 0, 1) := by decide +kernel
theorem dX10_sign_17 : decode cX10_sign 17 = .ok (.getfield 37, 3) := by decide +kernel
theorem dX10_sign_20 : decode cX10_sign 20 = .ok (.iload_n 1, 1) := by decide +kernel
theorem dX10_sign_21 : decode cX10_sign 21 = .ok (.invokevirtual 94, 3) := by decide +kernel
theorem dX10_sign_24 : decode cX10_sign 24 = .ok (.checkcast 63, 3) := by decide +kernel
theorem dX10_sign_27 : decode cX10_sign 27 = .ok (.astore_n 2, 1) := by decide +kernel
theorem dX10_sign_28 : decode cX10_sign 28 = .ok (.new 228, 3) := by decide +kernel
theorem dX10_sign_31 : decode cX10_sign 31 = .ok (.dup, 1) := by decide +kernel
theorem dX10_sign_32 : decode cX10_sign 32 = .ok (.invokespecial 230, 3) := by decide +kernel
theorem dX10_sign_35 : decode cX10_sign 35 = .ok (.astore_n 3, 1) := by decide +kernel
theorem dX10_sign_36 : decode cX10_sign 36 = .ok (.aload_n 3, 1) := by decide +kernel
theorem dX10_sign_37 : decode cX10_sign 37 = .ok (.aload_n 2, 1) := by decide +kernel
theorem dX10_sign_38 : decode cX10_sign 38 = .ok (.getfield 62, 3) := by decide +kernel
theorem dX10_sign_41 : decode cX10_sign 41 = .ok (.bipush 10, 2) := by decide +kernel
theorem dX10_sign_43 : decode cX10_sign 43 = .ok (.idiv, 1) := by decide +kernel
theorem dX10_sign_44 : decode cX10_sign 44 = .ok (.invokevirtual 231, 3) := by decide +kernel
theorem dX10_sign_47 : decode cX10_sign 47 = .ok (.bipush 46, 2) := by decide +kernel
theorem dX10_sign_49 : decode cX10_sign 49 = .ok (.invokevirtual 235, 3) := by decide +kernel
theorem dX10_sign_52 : decode cX10_sign 52 = .ok (.aload_n 2, 1) := by decide +kernel
theorem dX10_sign_53 : decode cX10_sign 53 = .ok (.getfield 62, 3) := by decide +kernel
theorem dX10_sign_56 : decode cX10_sign 56 = .ok (.bipush 10, 2) := by decide +kernel
theorem dX10_sign_58 : decode cX10_sign 58 = .ok (.irem, 1) := by decide +kernel
theorem dX10_sign_59 : decode cX10_sign 59 = .ok (.invokevirtual 231, 3) := by decide +kernel
theorem dX10_sign_62 : decode cX10_sign 62 = .ok (.aload_n 2, 1) := by decide +kernel
theorem dX10_sign_63 : decode cX10_sign 63 = .ok (.getfield 101, 3) := by decide +kernel
theorem dX10_sign_66 : decode cX10_sign 66 = .ok (.iconst 0, 1) := by decide +kernel
theorem dX10_sign_67 : decode cX10_sign 67 = .ok (.baload, 1) := by decide +kernel
theorem dX10_sign_68 : decode cX10_sign 68 = .ok (.ifCond .eq 8, 3) := by decide +kernel
theorem dX10_sign_71 : decode cX10_sign 71 = .ok (.bipush 103, 2) := by decide +kernel
theorem dX10_sign_73 : decode cX10_sign 73 = .ok (.goto 5, 3) := by decide +kernel
theorem dX10_sign_76 : decode cX10_sign 76 = .ok (.bipush 45, 2) := by decide +kernel
theorem dX10_sign_78 : decode cX10_sign 78 = .ok (.invokevirtual 235, 3) := by decide +kernel
theorem dX10_sign_81 : decode cX10_sign 81 = .ok (.aload_n 2, 1) := by decide +kernel
theorem dX10_sign_82 : decode cX10_sign 82 = .ok (.getfield 101, 3) := by decide +kernel
theorem dX10_sign_85 : decode cX10_sign 85 = .ok (.iconst 1, 1) := by decide +kernel
theorem dX10_sign_86 : decode cX10_sign 86 = .ok (.baload, 1) := by decide +kernel
theorem dX10_sign_87 : decode cX10_sign 87 = .ok (.ifCond .eq 8, 3) := by decide +kernel
theorem dX10_sign_90 : decode cX10_sign 90 = .ok (.bipush 115, 2) := by decide +kernel
theorem dX10_sign_92 : decode cX10_sign 92 = .ok (.goto 5, 3) := by decide +kernel
theorem dX10_sign_95 : decode cX10_sign 95 = .ok (.bipush 45, 2) := by decide +kernel
theorem dX10_sign_97 : decode cX10_sign 97 = .ok (.invokevirtual 235, 3) := by decide +kernel
theorem dX10_sign_100 : decode cX10_sign 100 = .ok (.pop, 1) := by decide +kernel
theorem dX10_sign_101 : decode cX10_sign 101 = .ok (.aload_n 0, 1) := by decide +kernel
theorem dX10_sign_102 : decode cX10_sign 102 = .ok (.getfield 41, 3) := by decide +kernel
theorem dX10_sign_105 : decode cX10_sign 105 = .ok (.invokevirtual 136, 3) := by decide +kernel
theorem dX10_sign_108 : decode cX10_sign 108 = .ok (.astore 4, 2) := by decide +kernel
theorem dX10_sign_110 : decode cX10_sign 110 = .ok (.aload 4, 2) := by decide +kernel
theorem dX10_sign_112 : decode cX10_sign 112 = .ok (.invokeinterface 140 1, 5) := by decide +kernel
theorem dX10_sign_117 : decode cX10_sign 117 = .ok (.ifCond .eq 39, 3) := by decide +kernel
theorem dX10_sign_120 : decode cX10_sign 120 = .ok (.aload 4, 2) := by decide +kernel
theorem dX10_sign_122 : decode cX10_sign 122 = .ok (.invokeinterface 146 1, 5) := by decide +kernel
theorem dX10_sign_127 : decode cX10_sign 127 = .ok (.checkcast 107, 3) := by decide +kernel
theorem dX10_sign_130 : decode cX10_sign 130 = .ok (.astore 5, 2) := by decide +kernel
theorem dX10_sign_132 : decode cX10_sign 132 = .ok (.aload_n 3, 1) := by decide +kernel
theorem dX10_sign_133 : decode cX10_sign 133 = .ok (.aload 5, 2) := by decide +kernel
theorem dX10_sign_135 : decode cX10_sign 135 = .ok (.getfield 110, 3) := by decide +kernel
theorem dX10_sign_138 : decode cX10_sign 138 = .ok (.iload_n 1, 1) := by decide +kernel
theorem dX10_sign_139 : decode cX10_sign 139 = .ok (.if_icmp .ne 8, 3) := by decide +kernel
theorem dX10_sign_142 : decode cX10_sign 142 = .ok (.ldc 238, 2) := by decide +kernel
theorem dX10_sign_144 : decode cX10_sign 144 = .ok (.goto 5, 3) := by decide +kernel
theorem dX10_sign_147 : decode cX10_sign 147 = .ok (.ldc 226, 2) := by decide +kernel
theorem dX10_sign_149 : decode cX10_sign 149 = .ok (.invokevirtual 240, 3) := by decide +kernel
theorem dX10_sign_152 : decode cX10_sign 152 = .ok (.pop, 1) := by decide +kernel
theorem dX10_sign_153 : decode cX10_sign 153 = .ok (.goto (-43), 3) := by decide +kernel
theorem dX10_sign_156 : decode cX10_sign 156 = .ok (.aload_n 3, 1) := by decide +kernel
theorem dX10_sign_157 : decode cX10_sign 157 = .ok (.invokevirtual 243, 3) := by decide +kernel
theorem dX10_sign_160 : decode cX10_sign 160 = .ok (.areturn, 1) := by decide +kernel
theorem dX10_tripNow_0 : decode cX10_tripNow 0 = .ok (.aload_n 0, 1) := by decide +kernel
theorem dX10_tripNow_1 : decode cX10_tripNow 1 = .ok (.getfield 37, 3) := by decide +kernel
theorem dX10_tripNow_4 : decode cX10_tripNow 4 = .ok (.iload_n 1, 1) := by decide +kernel
theorem dX10_tripNow_5 : decode cX10_tripNow 5 = .ok (.invokevirtual 94, 3) := by decide +kernel
theorem dX10_tripNow_8 : decode cX10_tripNow 8 = .ok (.checkcast 63, 3) := by decide +kernel
theorem dX10_tripNow_11 : decode cX10_tripNow 11 = .ok (.iload_n 3, 1) := by decide +kernel
theorem dX10_tripNow_12 : decode cX10_tripNow 12 = .ok (.lload 4, 2) := by decide +kernel
theorem dX10_tripNow_14 : decode cX10_tripNow 14 = .ok (.invokestatic 116, 3) := by decide +kernel
theorem dX10_tripNow_17 : decode cX10_tripNow 17 = .ok (.lstore 6, 2) := by decide +kernel
theorem dX10_tripNow_19 : decode cX10_tripNow 19 = .ok (.lload 6, 2) := by decide +kernel
theorem dX10_tripNow_21 : decode cX10_tripNow 21 = .ok (.lload 6, 2) := by decide +kernel
theorem dX10_tripNow_23 : decode cX10_tripNow 23 = .ok (.aload_n 0, 1) := by decide +kernel
theorem dX10_tripNow_24 : decode cX10_tripNow 24 = .ok (.getfield 18, 3) := by decide +kernel
theorem dX10_tripNow_27 : decode cX10_tripNow 27 = .ok (.iload_n 1, 1) := by decide +kernel
theorem dX10_tripNow_28 : decode cX10_tripNow 28 = .ok (.aaload, 1) := by decide +kernel
theorem dX10_tripNow_29 : decode cX10_tripNow 29 = .ok (.iload_n 2, 1) := by decide +kernel
theorem dX10_tripNow_30 : decode cX10_tripNow 30 = .ok (.iaload, 1) := by decide +kernel
theorem dX10_tripNow_31 : decode cX10_tripNow 31 = .ok (.i2l, 1) := by decide +kernel
theorem dX10_tripNow_32 : decode cX10_tripNow 32 = .ok (.lmul, 1) := by decide +kernel
theorem dX10_tripNow_33 : decode cX10_tripNow 33 = .ok (.ldc2_w 72, 3) := by decide +kernel
theorem dX10_tripNow_36 : decode cX10_tripNow 36 = .ok (.invokestatic 74, 3) := by decide +kernel
theorem dX10_tripNow_39 : decode cX10_tripNow 39 = .ok (.lsub, 1) := by decide +kernel
theorem dX10_tripNow_40 : decode cX10_tripNow 40 = .ok (.lstore 6, 2) := by decide +kernel
theorem dX10_tripNow_42 : decode cX10_tripNow 42 = .ok (.aload_n 0, 1) := by decide +kernel
theorem dX10_tripNow_43 : decode cX10_tripNow 43 = .ok (.getfield 37, 3) := by decide +kernel
theorem dX10_tripNow_46 : decode cX10_tripNow 46 = .ok (.iload_n 2, 1) := by decide +kernel
theorem dX10_tripNow_47 : decode cX10_tripNow 47 = .ok (.invokevirtual 94, 3) := by decide +kernel
theorem dX10_tripNow_50 : decode cX10_tripNow 50 = .ok (.checkcast 63, 3) := by decide +kernel
theorem dX10_tripNow_53 : decode cX10_tripNow 53 = .ok (.iconst 1, 1) := by decide +kernel
theorem dX10_tripNow_54 : decode cX10_tripNow 54 = .ok (.iload_n 3, 1) := by decide +kernel
theorem dX10_tripNow_55 : decode cX10_tripNow 55 = .ok (.isub, 1) := by decide +kernel
theorem dX10_tripNow_56 : decode cX10_tripNow 56 = .ok (.lload 6, 2) := by decide +kernel
theorem dX10_tripNow_58 : decode cX10_tripNow 58 = .ok (.invokestatic 116, 3) := by decide +kernel
theorem dX10_tripNow_61 : decode cX10_tripNow 61 = .ok (.lstore 8, 2) := by decide +kernel
theorem dX10_tripNow_63 : decode cX10_tripNow 63 = .ok (.lload 8, 2) := by decide +kernel
theorem dX10_tripNow_65 : decode cX10_tripNow 65 = .ok (.lload 8, 2) := by decide +kernel
theorem dX10_tripNow_67 : decode cX10_tripNow 67 = .ok (.aload_n 0, 1) := by decide +kernel
theorem dX10_tripNow_68 : decode cX10_tripNow 68 = .ok (.getfield 18, 3) := by decide +kernel
theorem dX10_tripNow_71 : decode cX10_tripNow 71 = .ok (.iload_n 2, 1) := by decide +kernel
theorem dX10_tripNow_72 : decode cX10_tripNow 72 = .ok (.aaload, 1) := by decide +kernel
theorem dX10_tripNow_73 : decode cX10_tripNow 73 = .ok (.iload_n 1, 1) := by decide +kernel
theorem dX10_tripNow_74 : decode cX10_tripNow 74 = .ok (.iaload, 1) := by decide +kernel
theorem dX10_tripNow_75 : decode cX10_tripNow 75 = .ok (.i2l, 1) := by decide +kernel
theorem dX10_tripNow_76 : decode cX10_tripNow 76 = .ok (.lmul, 1) := by decide +kernel
theorem dX10_tripNow_77 : decode cX10_tripNow 77 = .ok (.ldc2_w 72, 3) := by decide +kernel
theorem dX10_tripNow_80 : decode cX10_tripNow 80 = .ok (.invokestatic 74, 3) := by decide +kernel
theorem dX10_tripNow_83 : decode cX10_tripNow 83 = .ok (.lsub, 1) := by decide +kernel
theorem dX10_tripNow_84 : decode cX10_tripNow 84 = .ok (.lreturn, 1) := by decide +kernel
theorem dX10_trip_0 : decode cX10_trip 0 = .ok (.aload_n 0, 1) := by decide +kernel
