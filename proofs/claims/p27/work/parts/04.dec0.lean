theorem dX0_init_0 : decode cX0_init 0 = .ok (.aload_n 0, 1) := by decide +kernel
theorem dX0_init_1 : decode cX0_init 1 = .ok (.invokespecial 3, 3) := by decide +kernel
theorem dX0_init_4 : decode cX0_init 4 = .ok (.aload_n 0, 1) := by decide +kernel
theorem dX0_init_5 : decode cX0_init 5 = .ok (.iload_n 1, 1) := by decide +kernel
theorem dX0_init_6 : decode cX0_init 6 = .ok (.putfield 9, 3) := by decide +kernel
theorem dX0_init_9 : decode cX0_init 9 = .ok (.aload_n 0, 1) := by decide +kernel
theorem dX0_init_10 : decode cX0_init 10 = .ok (.iload_n 2, 1) := by decide +kernel
theorem dX0_init_11 : decode cX0_init 11 = .ok (.putfield 15, 3) := by decide +kernel
theorem dX0_init_14 : decode cX0_init 14 = .ok (.aload_n 0, 1) := by decide +kernel
theorem dX0_init_15 : decode cX0_init 15 = .ok (.iload_n 3, 1) := by decide +kernel
theorem dX0_init_16 : decode cX0_init 16 = .ok (.putfield 18, 3) := by decide +kernel
theorem dX0_init_19 : decode cX0_init 19 = .ok (.aload_n 0, 1) := by decide +kernel
theorem dX0_init_20 : decode cX0_init 20 = .ok (.aload 4, 2) := by decide +kernel
theorem dX0_init_22 : decode cX0_init 22 = .ok (.putfield 21, 3) := by decide +kernel
theorem dX0_init_25 : decode cX0_init 25 = .ok (.aload_n 0, 1) := by decide +kernel
theorem dX0_init_26 : decode cX0_init 26 = .ok (.iconst 1, 1) := by decide +kernel
theorem dX0_init_27 : decode cX0_init 27 = .ok (.putfield 25, 3) := by decide +kernel
theorem dX0_init_30 : decode cX0_init 30 = .ok (.aload_n 0, 1) := by decide +kernel
theorem dX0_init_31 : decode cX0_init 31 = .ok (.iconst 1, 1) := by decide +kernel
theorem dX0_init_32 : decode cX0_init 32 = .ok (.putfield 29, 3) := by decide +kernel
theorem dX0_init_35 : decode cX0_init 35 = .ok (.aload_n 0, 1) := by decide +kernel
theorem dX0_init_36 : decode cX0_init 36 = .ok (.iconst 4, 1) := by decide +kernel
theorem dX0_init_37 : decode cX0_init 37 = .ok (.newarray .int, 2) := by decide +kernel
theorem dX0_init_39 : decode cX0_init 39 = .ok (.putfield 32, 3) := by decide +kernel
theorem dX0_init_42 : decode cX0_init 42 = .ok (.aload_n 0, 1) := by decide +kernel
theorem dX0_init_43 : decode cX0_init 43 = .ok (.iconst 4, 1) := by decide +kernel
theorem dX0_init_44 : decode cX0_init 44 = .ok (.newarray .int, 2) := by decide +kernel
theorem dX0_init_46 : decode cX0_init 46 = .ok (.putfield 36, 3) := by decide +kernel
theorem dX0_init_49 : decode cX0_init 49 = .ok (.iconst 0, 1) := by decide +kernel
theorem dX0_init_50 : decode cX0_init 50 = .ok (.istore 5, 2) := by decide +kernel
theorem dX0_init_52 : decode cX0_init 52 = .ok (.iload 5, 2) := by decide +kernel
theorem dX0_init_54 : decode cX0_init 54 = .ok (.iconst 4, 1) := by decide +kernel
theorem dX0_init_55 : decode cX0_init 55 = .ok (.if_icmp .ge 26, 3) := by decide +kernel
theorem dX0_init_58 : decode cX0_init 58 = .ok (.aload_n 0, 1) := by decide +kernel
theorem dX0_init_59 : decode cX0_init 59 = .ok (.getfield 32, 3) := by decide +kernel
theorem dX0_init_62 : decode cX0_init 62 = .ok (.iload 5, 2) := by decide +kernel
theorem dX0_init_64 : decode cX0_init 64 = .ok (.iconst 3, 1) := by decide +kernel
theorem dX0_init_65 : decode cX0_init 65 = .ok (.iastore, 1) := by decide +kernel
theorem dX0_init_66 : decode cX0_init 66 = .ok (.aload_n 0, 1) := by decide +kernel
theorem dX0_init_67 : decode cX0_init 67 = .ok (.getfield 36, 3) := by decide +kernel
theorem dX0_init_70 : decode cX0_init 70 = .ok (.iload 5, 2) := by decide +kernel
theorem dX0_init_72 : decode cX0_init 72 = .ok (.bipush 10, 2) := by decide +kernel
theorem dX0_init_74 : decode cX0_init 74 = .ok (.iastore, 1) := by decide +kernel
theorem dX0_init_75 : decode cX0_init 75 = .ok (.iinc 5 1, 3) := by decide +kernel
theorem dX0_init_78 : decode cX0_init 78 = .ok (.goto (-26), 3) := by decide +kernel
theorem dX0_init_81 : decode cX0_init 81 = .ok (.aload_n 0, 1) := by decide +kernel
theorem dX0_init_82 : decode cX0_init 82 = .ok (.new 39, 3) := by decide +kernel
theorem dX0_init_85 : decode cX0_init 85 = .ok (.dup, 1) := by decide +kernel
theorem dX0_init_86 : decode cX0_init 86 = .ok (.invokespecial 41, 3) := by decide +kernel
theorem dX0_init_89 : decode cX0_init 89 = .ok (.putfield 42, 3) := by decide +kernel
theorem dX0_init_92 : decode cX0_init 92 = .ok (.return_, 1) := by decide +kernel
theorem dX0_isOpenFor_0 : decode cX0_isOpenFor 0 = .ok (.iload_n 1, 1) := by decide +kernel
theorem dX0_isOpenFor_1 : decode cX0_isOpenFor 1 = .ok (.ifCond .ne 10, 3) := by decide +kernel
theorem dX0_isOpenFor_4 : decode cX0_isOpenFor 4 = .ok (.aload_n 0, 1) := by decide +kernel
theorem dX0_isOpenFor_5 : decode cX0_isOpenFor 5 = .ok (.getfield 25, 3) := by decide +kernel
theorem dX0_isOpenFor_8 : decode cX0_isOpenFor 8 = .ok (.goto 7, 3) := by decide +kernel
theorem dX0_isOpenFor_11 : decode cX0_isOpenFor 11 = .ok (.aload_n 0, 1) := by decide +kernel
theorem dX0_isOpenFor_12 : decode cX0_isOpenFor 12 = .ok (.getfield 29, 3) := by decide +kernel
theorem dX0_isOpenFor_15 : decode cX0_isOpenFor 15 = .ok (.ireturn, 1) := by decide +kernel
theorem dX0_setOpenFor_0 : decode cX0_setOpenFor 0 = .ok (.iload_n 1, 1) := by decide +kernel
theorem dX0_setOpenFor_1 : decode cX0_setOpenFor 1 = .ok (.ifCond .ne 11, 3) := by decide +kernel
theorem dX0_setOpenFor_4 : decode cX0_setOpenFor 4 = .ok (.aload_n 0, 1) := by decide +kernel
theorem dX0_setOpenFor_5 : decode cX0_setOpenFor 5 = .ok (.iload_n 2, 1) := by decide +kernel
theorem dX0_setOpenFor_6 : decode cX0_setOpenFor 6 = .ok (.putfield 25, 3) := by decide +kernel
theorem dX0_setOpenFor_9 : decode cX0_setOpenFor 9 = .ok (.goto 8, 3) := by decide +kernel
theorem dX0_setOpenFor_12 : decode cX0_setOpenFor 12 = .ok (.aload_n 0, 1) := by decide +kernel
theorem dX0_setOpenFor_13 : decode cX0_setOpenFor 13 = .ok (.iload_n 2, 1) := by decide +kernel
theorem dX0_setOpenFor_14 : decode cX0_setOpenFor 14 = .ok (.putfield 29, 3) := by decide +kernel
theorem dX0_setOpenFor_17 : decode cX0_setOpenFor 17 = .ok (.return_, 1) := by decide +kernel
theorem dX0_openSet_0 : decode cX0_openSet 0 = .ok (.aload_n 0, 1) := by decide +kernel
theorem dX0_openSet_1 : decode cX0_openSet 1 = .ok (.getfield 25, 3) := by decide +kernel
theorem dX0_openSet_4 : decode cX0_openSet 4 = .ok (.ifCond .eq 7, 3) := by decide +kernel
theorem dX0_openSet_7 : decode cX0_openSet 7 = .ok (.iconst 1, 1) := by decide +kernel
theorem dX0_openSet_8 : decode cX0_openSet 8 = .ok (.goto 4, 3) := by decide +kernel
theorem dX0_openSet_11 : decode cX0_openSet 11 = .ok (.iconst 0, 1) := by decide +kernel
theorem dX0_openSet_12 : decode cX0_openSet 12 = .ok (.aload_n 0, 1) := by decide +kernel
theorem dX0_openSet_13 : decode cX0_openSet 13 = .ok (.getfield 29, 3) := by decide +kernel
theorem dX0_openSet_16 : decode cX0_openSet 16 = .ok (.ifCond .eq 7, 3) := by decide +kernel
theorem dX0_openSet_19 : decode cX0_openSet 19 = .ok (.iconst 2, 1) := by decide +kernel
theorem dX0_openSet_20 : decode cX0_openSet 20 = .ok (.goto 4, 3) := by decide +kernel
theorem dX0_openSet_23 : decode cX0_openSet 23 = .ok (.iconst 0, 1) := by decide +kernel
theorem dX0_openSet_24 : decode cX0_openSet 24 = .ok (.iadd, 1) := by decide +kernel
theorem dX0_openSet_25 : decode cX0_openSet 25 = .ok (.ireturn, 1) := by decide +kernel
theorem dX0_minted_0 : decode cX0_minted 0 = .ok (.iload_n 1, 1) := by decide +kernel
theorem dX0_minted_1 : decode cX0_minted 1 = .ok (.ifCond .ne 11, 3) := by decide +kernel
theorem dX0_minted_4 : decode cX0_minted 4 = .ok (.aload_n 0, 1) := by decide +kernel
theorem dX0_minted_5 : decode cX0_minted 5 = .ok (.iload_n 2, 1) := by decide +kernel
theorem dX0_minted_6 : decode cX0_minted 6 = .ok (.invokevirtual 46, 3) := by decide +kernel
theorem dX0_minted_9 : decode cX0_minted 9 = .ok (.goto 8, 3) := by decide +kernel
theorem dX0_minted_12 : decode cX0_minted 12 = .ok (.aload_n 0, 1) := by decide +kernel
theorem dX0_minted_13 : decode cX0_minted 13 = .ok (.iload_n 2, 1) := by decide +kernel
theorem dX0_minted_14 : decode cX0_minted 14 = .ok (.invokevirtual 50, 3) := by decide +kernel
theorem dX0_minted_17 : decode cX0_minted 17 = .ok (.istore_n 3, 1) := by decide +kernel
theorem dX0_minted_18 : decode cX0_minted 18 = .ok (.iload_n 3, 1) := by decide +kernel
theorem dX0_minted_19 : decode cX0_minted 19 = .ok (.iload_n 3, 1) := by decide +kernel
theorem dX0_minted_20 : decode cX0_minted 20 = .ok (.aload_n 0, 1) := by decide +kernel
theorem dX0_minted_21 : decode cX0_minted 21 = .ok (.getfield 18, 3) := by decide +kernel
theorem dX0_minted_24 : decode cX0_minted 24 = .ok (.invokestatic 53, 3) := by decide +kernel
theorem dX0_minted_27 : decode cX0_minted 27 = .ok (.isub, 1) := by decide +kernel
theorem dX0_minted_28 : decode cX0_minted 28 = .ok (.ireturn, 1) := by decide +kernel
theorem dX0_silverFor_0 : decode cX0_silverFor 0 = .ok (.iload_n 1, 1) := by decide +kernel
theorem dX0_silverFor_1 : decode cX0_silverFor 1 = .ok (.i2l, 1) := by decide +kernel
theorem dX0_silverFor_2 : decode cX0_silverFor 2 = .ok (.aload_n 0, 1) := by decide +kernel
theorem dX0_silverFor_3 : decode cX0_silverFor 3 = .ok (.getfield 15, 3) := by decide +kernel
theorem dX0_silverFor_6 : decode cX0_silverFor 6 = .ok (.i2l, 1) := by decide +kernel
theorem dX0_silverFor_7 : decode cX0_silverFor 7 = .ok (.lmul, 1) := by decide +kernel
theorem dX0_silverFor_8 : decode cX0_silverFor 8 = .ok (.ldc2_w 57, 3) := by decide +kernel
theorem dX0_silverFor_11 : decode cX0_silverFor 11 = .ok (.ldiv, 1) := by decide +kernel
theorem dX0_silverFor_12 : decode cX0_silverFor 12 = .ok (.l2i, 1) := by decide +kernel
theorem dX0_silverFor_13 : decode cX0_silverFor 13 = .ok (.ireturn, 1) := by decide +kernel
theorem dX0_goldOf_0 : decode cX0_goldOf 0 = .ok (.aload_n 0, 1) := by decide +kernel
theorem dX0_goldOf_1 : decode cX0_goldOf 1 = .ok (.getfield 15, 3) := by decide +kernel
theorem dX0_goldOf_4 : decode cX0_goldOf 4 = .ok (.iconst 1, 1) := by decide +kernel
theorem dX0_goldOf_5 : decode cX0_goldOf 5 = .ok (.if_icmp .ge 7, 3) := by decide +kernel
theorem dX0_goldOf_8 : decode cX0_goldOf 8 = .ok (.iconst 0, 1) := by decide +kernel
theorem dX0_goldOf_9 : decode cX0_goldOf 9 = .ok (.goto 16, 3) := by decide +kernel
theorem dX0_goldOf_12 : decode cX0_goldOf 12 = .ok (.iload_n 1, 1) := by decide +kernel
theorem dX0_goldOf_13 : decode cX0_goldOf 13 = .ok (.i2l, 1) := by decide +kernel
theorem dX0_goldOf_14 : decode cX0_goldOf 14 = .ok (.ldc2_w 57, 3) := by decide +kernel
theorem dX0_goldOf_17 : decode cX0_goldOf 17 = .ok (.lmul, 1) := by decide +kernel
theorem dX0_goldOf_18 : decode cX0_goldOf 18 = .ok (.aload_n 0, 1) := by decide +kernel
theorem dX0_goldOf_19 : decode cX0_goldOf 19 = .ok (.getfield 15, 3) := by decide +kernel
theorem dX0_goldOf_22 : decode cX0_goldOf 22 = .ok (.i2l, 1) := by decide +kernel
theorem dX0_goldOf_23 : decode cX0_goldOf 23 = .ok (.ldiv, 1) := by decide +kernel
theorem dX0_goldOf_24 : decode cX0_goldOf 24 = .ok (.l2i, 1) := by decide +kernel
theorem dX0_goldOf_25 : decode cX0_goldOf 25 = .ok (.ireturn, 1) := by decide +kernel
theorem dX0_goldFor_0 : decode cX0_goldFor 0 = .ok (.aload_n 0, 1) := by decide +kernel
theorem dX0_goldFor_1 : decode cX0_goldFor 1 = .ok (.getfield 15, 3) := by decide +kernel
theorem dX0_goldFor_4 : decode cX0_goldFor 4 = .ok (.iconst 1, 1) := by decide +kernel
theorem dX0_goldFor_5 : decode cX0_goldFor 5 = .ok (.if_icmp .ge 7, 3) := by decide +kernel
theorem dX0_goldFor_8 : decode cX0_goldFor 8 = .ok (.iconst 0, 1) := by decide +kernel
theorem dX0_goldFor_9 : decode cX0_goldFor 9 = .ok (.goto 24, 3) := by decide +kernel
theorem dX0_goldFor_12 : decode cX0_goldFor 12 = .ok (.iload_n 1, 1) := by decide +kernel
theorem dX0_goldFor_13 : decode cX0_goldFor 13 = .ok (.i2l, 1) := by decide +kernel
theorem dX0_goldFor_14 : decode cX0_goldFor 14 = .ok (.ldc2_w 57, 3) := by decide +kernel
theorem dX0_goldFor_17 : decode cX0_goldFor 17 = .ok (.lmul, 1) := by decide +kernel
theorem dX0_goldFor_18 : decode cX0_goldFor 18 = .ok (.aload_n 0, 1) := by decide +kernel
theorem dX0_goldFor_19 : decode cX0_goldFor 19 = .ok (.getfield 15, 3) := by decide +kernel
theorem dX0_goldFor_22 : decode cX0_goldFor 22 = .ok (.i2l, 1) := by decide +kernel
theorem dX0_goldFor_23 : decode cX0_goldFor 23 = .ok (.ladd, 1) := by decide +kernel
theorem dX0_goldFor_24 : decode cX0_goldFor 24 = .ok (.lconst 1, 1) := by decide +kernel
theorem dX0_goldFor_25 : decode cX0_goldFor 25 = .ok (.lsub, 1) := by decide +kernel
theorem dX0_goldFor_26 : decode cX0_goldFor 26 = .ok (.aload_n 0, 1) := by decide +kernel
theorem dX0_goldFor_27 : decode cX0_goldFor 27 = .ok (.getfield 15, 3) := by decide +kernel
theorem dX0_goldFor_30 : decode cX0_goldFor 30 = .ok (.i2l, 1) := by decide +kernel
theorem dX0_goldFor_31 : decode cX0_goldFor 31 = .ok (.ldiv, 1) := by decide +kernel
theorem dX0_goldFor_32 : decode cX0_goldFor 32 = .ok (.l2i, 1) := by decide +kernel
theorem dX0_goldFor_33 : decode cX0_goldFor 33 = .ok (.ireturn, 1) := by decide +kernel
theorem dX0_daysTo_0 : decode cX0_daysTo 0 = .ok (.iload_n 1, 1) := by decide +kernel
theorem dX0_daysTo_1 : decode cX0_daysTo 1 = .ok (.ifCond .lt 21, 3) := by decide +kernel
theorem dX0_daysTo_4 : decode cX0_daysTo 4 = .ok (.iload_n 1, 1) := by decide +kernel
theorem dX0_daysTo_5 : decode cX0_daysTo 5 = .ok (.aload_n 0, 1) := by decide +kernel
theorem dX0_daysTo_6 : decode cX0_daysTo 6 = .ok (.getfield 32, 3) := by decide +kernel
theorem dX0_daysTo_9 : decode cX0_daysTo 9 = .ok (.arraylength, 1) := by decide +kernel
theorem dX0_daysTo_10 : decode cX0_daysTo 10 = .ok (.if_icmp .ge 12, 3) := by decide +kernel
theorem dX0_daysTo_13 : decode cX0_daysTo 13 = .ok (.aload_n 0, 1) := by decide +kernel
theorem dX0_daysTo_14 : decode cX0_daysTo 14 = .ok (.getfield 32, 3) := by decide +kernel
theorem dX0_daysTo_17 : decode cX0_daysTo 17 = .ok (.iload_n 1, 1) := by decide +kernel
theorem dX0_daysTo_18 : decode cX0_daysTo 18 = .ok (.iaload, 1) := by decide +kernel
theorem dX0_daysTo_19 : decode cX0_daysTo 19 = .ok (.goto 4, 3) := by decide +kernel
theorem dX0_daysTo_22 : decode cX0_daysTo 22 = .ok (.iconst 3, 1) := by decide +kernel
theorem dX0_daysTo_23 : decode cX0_daysTo 23 = .ok (.ireturn, 1) := by decide +kernel
theorem dX0_freightTo_0 : decode cX0_freightTo 0 = .ok (.iload_n 1, 1) := by decide +kernel
theorem dX0_freightTo_1 : decode cX0_freightTo 1 = .ok (.ifCond .lt 21, 3) := by decide +kernel
theorem dX0_freightTo_4 : decode cX0_freightTo 4 = .ok (.iload_n 1, 1) := by decide +kernel
theorem dX0_freightTo_5 : decode cX0_freightTo 5 = .ok (.aload_n 0, 1) := by decide +kernel
theorem dX0_freightTo_6 : decode cX0_freightTo 6 = .ok (.getfield 36, 3) := by decide +kernel
theorem dX0_freightTo_9 : decode cX0_freightTo 9 = .ok (.arraylength, 1) := by decide +kernel
theorem dX0_freightTo_10 : decode cX0_freightTo 10 = .ok (.if_icmp .ge 12, 3) := by decide +kernel
theorem dX0_freightTo_13 : decode cX0_freightTo 13 = .ok (.aload_n 0, 1) := by decide +kernel
theorem dX0_freightTo_14 : decode cX0_freightTo 14 = .ok (.getfield 36, 3) := by decide +kernel
theorem dX0_freightTo_17 : decode cX0_freightTo 17 = .ok (.iload_n 1, 1) := by decide +kernel
theorem dX0_freightTo_18 : decode cX0_freightTo 18 = .ok (.iaload, 1) := by decide +kernel
theorem dX0_freightTo_19 : decode cX0_freightTo 19 = .ok (.goto 5, 3) := by decide +kernel
theorem dX0_freightTo_22 : decode cX0_freightTo 22 = .ok (.bipush 10, 2) := by decide +kernel
theorem dX0_freightTo_24 : decode cX0_freightTo 24 = .ok (.ireturn, 1) := by decide +kernel
theorem dX0_setRoadTo_0 : decode cX0_setRoadTo 0 = .ok (.iload_n 1, 1) := by decide +kernel
theorem dX0_setRoadTo_1 : decode cX0_setRoadTo 1 = .ok (.ifCond .lt 35, 3) := by decide +kernel
theorem dX0_setRoadTo_4 : decode cX0_setRoadTo 4 = .ok (.iload_n 1, 1) := by decide +kernel
theorem dX0_setRoadTo_5 : decode cX0_setRoadTo 5 = .ok (.aload_n 0, 1) := by decide +kernel
theorem dX0_setRoadTo_6 : decode cX0_setRoadTo 6 = .ok (.getfield 32, 3) := by decide +kernel
theorem dX0_setRoadTo_9 : decode cX0_setRoadTo 9 = .ok (.arraylength, 1) := by decide +kernel
theorem dX0_setRoadTo_10 : decode cX0_setRoadTo 10 = .ok (.if_icmp .ge 26, 3) := by decide +kernel
theorem dX0_setRoadTo_13 : decode cX0_setRoadTo 13 = .ok (.iload_n 1, 1) := by decide +kernel
theorem dX0_setRoadTo_14 : decode cX0_setRoadTo 14 = .ok (.aload_n 0, 1) := by decide +kernel
theorem dX0_setRoadTo_15 : decode cX0_setRoadTo 15 = .ok (.getfield 36, 3) := by decide +kernel
theorem dX0_setRoadTo_18 : decode cX0_setRoadTo 18 = .ok (.arraylength, 1) := by decide +kernel
theorem dX0_setRoadTo_19 : decode cX0_setRoadTo 19 = .ok (.if_icmp .ge 17, 3) := by decide +kernel
theorem dX0_setRoadTo_22 : decode cX0_setRoadTo 22 = .ok (.aload_n 0, 1) := by decide +kernel
theorem dX0_setRoadTo_23 : decode cX0_setRoadTo 23 = .ok (.getfield 32, 3) := by decide +kernel
theorem dX0_setRoadTo_26 : decode cX0_setRoadTo 26 = .ok (.iload_n 1, 1) := by decide +kernel
theorem dX0_setRoadTo_27 : decode cX0_setRoadTo 27 = .ok (.iload_n 2, 1) := by decide +kernel
theorem dX0_setRoadTo_28 : decode cX0_setRoadTo 28 = .ok (.iastore, 1) := by decide +kernel
theorem dX0_setRoadTo_29 : decode cX0_setRoadTo 29 = .ok (.aload_n 0, 1) := by decide +kernel
theorem dX0_setRoadTo_30 : decode cX0_setRoadTo 30 = .ok (.getfield 36, 3) := by decide +kernel
theorem dX0_setRoadTo_33 : decode cX0_setRoadTo 33 = .ok (.iload_n 1, 1) := by decide +kernel
theorem dX0_setRoadTo_34 : decode cX0_setRoadTo 34 = .ok (.iload_n 3, 1) := by decide +kernel
theorem dX0_setRoadTo_35 : decode cX0_setRoadTo 35 = .ok (.iastore, 1) := by decide +kernel
theorem dX0_setRoadTo_36 : decode cX0_setRoadTo 36 = .ok (.return_, 1) := by decide +kernel
theorem dX1_init_0 : decode cX1_init 0 = .ok (.aload_n 0, 1) := by decide +kernel
theorem dX1_init_1 : decode cX1_init 1 = .ok (.invokespecial 3, 3) := by decide +kernel
theorem dX1_init_4 : decode cX1_init 4 = .ok (.aload_n 0, 1) := by decide +kernel
theorem dX1_init_5 : decode cX1_init 5 = .ok (.aload_n 1, 1) := by decide +kernel
theorem dX1_init_6 : decode cX1_init 6 = .ok (.putfield 9, 3) := by decide +kernel
theorem dX1_init_9 : decode cX1_init 9 = .ok (.aload_n 0, 1) := by decide +kernel
theorem dX1_init_10 : decode cX1_init 10 = .ok (.aload_n 2, 1) := by decide +kernel
theorem dX1_init_11 : decode cX1_init 11 = .ok (.putfield 15, 3) := by decide +kernel
theorem dX1_init_14 : decode cX1_init 14 = .ok (.aload_n 0, 1) := by decide +kernel
theorem dX1_init_15 : decode cX1_init 15 = .ok (.iload_n 3, 1) := by decide +kernel
theorem dX1_init_16 : decode cX1_init 16 = .ok (.putfield 18, 3) := by decide +kernel
theorem dX1_init_19 : decode cX1_init 19 = .ok (.aload_n 0, 1) := by decide +kernel
theorem dX1_init_20 : decode cX1_init 20 = .ok (.iload 4, 2) := by decide +kernel
theorem dX1_init_22 : decode cX1_init 22 = .ok (.putfield 22, 3) := by decide +kernel
theorem dX1_init_25 : decode cX1_init 25 = .ok (.aload_n 0, 1) := by decide +kernel
theorem dX1_init_26 : decode cX1_init 26 = .ok (.iconst 0, 1) := by decide +kernel
theorem dX1_init_27 : decode cX1_init 27 = .ok (.putfield 25, 3) := by decide +kernel
theorem dX1_init_30 : decode cX1_init 30 = .ok (.return_, 1) := by decide +kernel
theorem dX1_dueOn_0 : decode cX1_dueOn 0 = .ok (.iload_n 1, 1) := by decide +kernel
theorem dX1_dueOn_1 : decode cX1_dueOn 1 = .ok (.aload_n 0, 1) := by decide +kernel
theorem dX1_dueOn_2 : decode cX1_dueOn 2 = .ok (.getfield 22, 3) := by decide +kernel
theorem dX1_dueOn_5 : decode cX1_dueOn 5 = .ok (.if_icmp .le 15, 3) := by decide +kernel
theorem dX1_dueOn_8 : decode cX1_dueOn 8 = .ok (.iload_n 1, 1) := by decide +kernel
theorem dX1_dueOn_9 : decode cX1_dueOn 9 = .ok (.aload_n 0, 1) := by decide +kernel
theorem dX1_dueOn_10 : decode cX1_dueOn 10 = .ok (.getfield 22, 3) := by decide +kernel
theorem dX1_dueOn_13 : decode cX1_dueOn 13 = .ok (.isub, 1) := by decide +kernel
theorem dX1_dueOn_14 : decode cX1_dueOn 14 = .ok (.bipush 10, 2) := by decide +kernel
theorem dX1_dueOn_16 : decode cX1_dueOn 16 = .ok (.idiv, 1) := by decide +kernel
theorem dX1_dueOn_17 : decode cX1_dueOn 17 = .ok (.goto 4, 3) := by decide +kernel
theorem dX1_dueOn_20 : decode cX1_dueOn 20 = .ok (.iconst 0, 1) := by decide +kernel
theorem dX1_dueOn_21 : decode cX1_dueOn 21 = .ok (.istore_n 2, 1) := by decide +kernel
theorem dX1_dueOn_22 : decode cX1_dueOn 22 = .ok (.aload_n 0, 1) := by decide +kernel
theorem dX1_dueOn_23 : decode cX1_dueOn 23 = .ok (.getfield 18, 3) := by decide +kernel
theorem dX1_dueOn_26 : decode cX1_dueOn 26 = .ok (.aload_n 0, 1) := by decide +kernel
theorem dX1_dueOn_27 : decode cX1_dueOn 27 = .ok (.getfield 18, 3) := by decide +kernel
theorem dX1_dueOn_30 : decode cX1_dueOn 30 = .ok (.bipush 100, 2) := by decide +kernel
theorem dX1_dueOn_32 : decode cX1_dueOn 32 = .ok (.idiv, 1) := by decide +kernel
theorem dX1_dueOn_33 : decode cX1_dueOn 33 = .ok (.iload_n 2, 1) := by decide +kernel
theorem dX1_dueOn_34 : decode cX1_dueOn 34 = .ok (.imul, 1) := by decide +kernel
theorem dX1_dueOn_35 : decode cX1_dueOn 35 = .ok (.iadd, 1) := by decide +kernel
theorem dX1_dueOn_36 : decode cX1_dueOn 36 = .ok (.ireturn, 1) := by decide +kernel
theorem dX2_init_0 : decode cX2_init 0 = .ok (.aload_n 0, 1) := by decide +kernel
theorem dX2_init_1 : decode cX2_init 1 = .ok (.invokespecial 3, 3) := by decide +kernel
theorem dX2_init_4 : decode cX2_init 4 = .ok (.aload_n 0, 1) := by decide +kernel
theorem dX2_init_5 : decode cX2_init 5 = .ok (.iload_n 1, 1) := by decide +kernel
theorem dX2_init_6 : decode cX2_init 6 = .ok (.putfield 9, 3) := by decide +kernel
theorem dX2_init_9 : decode cX2_init 9 = .ok (.aload_n 0, 1) := by decide +kernel
theorem dX2_init_10 : decode cX2_init 10 = .ok (.aload_n 2, 1) := by decide +kernel
theorem dX2_init_11 : decode cX2_init 11 = .ok (.putfield 15, 3) := by decide +kernel
theorem dX2_init_14 : decode cX2_init 14 = .ok (.aload_n 0, 1) := by decide +kernel
theorem dX2_init_15 : decode cX2_init 15 = .ok (.aload_n 3, 1) := by decide +kernel
theorem dX2_init_16 : decode cX2_init 16 = .ok (.putfield 19, 3) := by decide +kernel
theorem dX2_init_19 : decode cX2_init 19 = .ok (.aload_n 0, 1) := by decide +kernel
theorem dX2_init_20 : decode cX2_init 20 = .ok (.aconst_null, 1) := by decide +kernel
theorem dX2_init_21 : decode cX2_init 21 = .ok (.putfield 23, 3) := by decide +kernel
theorem dX2_init_24 : decode cX2_init 24 = .ok (.aload_n 0, 1) := by decide +kernel
theorem dX2_init_25 : decode cX2_init 25 = .ok (.iconst (-1), 1) := by decide +kernel
theorem dX2_init_26 : decode cX2_init 26 = .ok (.putfield 26, 3) := by decide +kernel
theorem dX2_init_29 : decode cX2_init 29 = .ok (.return_, 1) := by decide +kernel
theorem dX2_leaveFor_0 : decode cX2_leaveFor 0 = .ok (.aload_n 0, 1) := by decide +kernel
theorem dX2_leaveFor_1 : decode cX2_leaveFor 1 = .ok (.aconst_null, 1) := by decide +kernel
theorem dX2_leaveFor_2 : decode cX2_leaveFor 2 = .ok (.putfield 15, 3) := by decide +kernel
theorem dX2_leaveFor_5 : decode cX2_leaveFor 5 = .ok (.aload_n 0, 1) := by decide +kernel
theorem dX2_leaveFor_6 : decode cX2_leaveFor 6 = .ok (.aload_n 1, 1) := by decide +kernel
theorem dX2_leaveFor_7 : decode cX2_leaveFor 7 = .ok (.putfield 23, 3) := by decide +kernel
theorem dX2_leaveFor_10 : decode cX2_leaveFor 10 = .ok (.aload_n 0, 1) := by decide +kernel
theorem dX2_leaveFor_11 : decode cX2_leaveFor 11 = .ok (.iload_n 2, 1) := by decide +kernel
theorem dX2_leaveFor_12 : decode cX2_leaveFor 12 = .ok (.putfield 26, 3) := by decide +kernel
theorem dX2_leaveFor_15 : decode cX2_leaveFor 15 = .ok (.return_, 1) := by decide +kernel
theorem dX2_arriveBy_0 : decode cX2_arriveBy 0 = .ok (.aload_n 0, 1) := by decide +kernel
theorem dX2_arriveBy_1 : decode cX2_arriveBy 1 = .ok (.getfield 23, 3) := by decide +kernel
theorem dX2_arriveBy_4 : decode cX2_arriveBy 4 = .ok (.ifnull 29, 3) := by decide +kernel
theorem dX2_arriveBy_7 : decode cX2_arriveBy 7 = .ok (.aload_n 0, 1) := by decide +kernel
theorem dX2_arriveBy_8 : decode cX2_arriveBy 8 = .ok (.getfield 26, 3) := by decide +kernel
theorem dX2_arriveBy_11 : decode cX2_arriveBy 11 = .ok (.iload_n 1, 1) := by decide +kernel
theorem dX2_arriveBy_12 : decode cX2_arriveBy 12 = .ok (.if_icmp .gt 21, 3) := by decide +kernel
theorem dX2_arriveBy_15 : decode cX2_arriveBy 15 = .ok (.aload_n 0, 1) := by decide +kernel
theorem dX2_arriveBy_16 : decode cX2_arriveBy 16 = .ok (.aload_n 0, 1) := by decide +kernel
theorem dX2_arriveBy_17 : decode cX2_arriveBy 17 = .ok (.getfield 23, 3) := by decide +kernel
theorem dX2_arriveBy_20 : decode cX2_arriveBy 20 = .ok (.putfield 15, 3) := by decide +kernel
theorem dX2_arriveBy_23 : decode cX2_arriveBy 23 = .ok (.aload_n 0, 1) := by decide +kernel
theorem dX2_arriveBy_24 : decode cX2_arriveBy 24 = .ok (.aconst_null, 1) := by decide +kernel
theorem dX2_arriveBy_25 : decode cX2_arriveBy 25 = .ok (.putfield 23, 3) := by decide +kernel
theorem dX2_arriveBy_28 : decode cX2_arriveBy 28 = .ok (.aload_n 0, 1) := by decide +kernel
theorem dX2_arriveBy_29 : decode cX2_arriveBy 29 = .ok (.iconst (-1), 1) := by decide +kernel
theorem dX2_arriveBy_30 : decode cX2_arriveBy 30 = .ok (.putfield 26, 3) := by decide +kernel
theorem dX2_arriveBy_33 : decode cX2_arriveBy 33 = .ok (.return_, 1) := by decide +kernel
theorem dX2_isLateOn_0 : decode cX2_isLateOn 0 = .ok (.aload_n 0, 1) := by decide +kernel
theorem dX2_isLateOn_1 : decode cX2_isLateOn 1 = .ok (.getfield 23, 3) := by decide +kernel
theorem dX2_isLateOn_4 : decode cX2_isLateOn 4 = .ok (.ifnull 15, 3) := by decide +kernel
theorem dX2_isLateOn_7 : decode cX2_isLateOn 7 = .ok (.aload_n 0, 1) := by decide +kernel
theorem dX2_isLateOn_8 : decode cX2_isLateOn 8 = .ok (.getfield 26, 3) := by decide +kernel
theorem dX2_isLateOn_11 : decode cX2_isLateOn 11 = .ok (.iload_n 1, 1) := by decide +kernel
theorem dX2_isLateOn_12 : decode cX2_isLateOn 12 = .ok (.if_icmp .gt 7, 3) := by decide +kernel
theorem dX2_isLateOn_15 : decode cX2_isLateOn 15 = .ok (.iconst 1, 1) := by decide +kernel
theorem dX2_isLateOn_16 : decode cX2_isLateOn 16 = .ok (.goto 4, 3) := by decide +kernel
theorem dX2_isLateOn_19 : decode cX2_isLateOn 19 = .ok (.iconst 0, 1) := by decide +kernel
theorem dX2_isLateOn_20 : decode cX2_isLateOn 20 = .ok (.ireturn, 1) := by decide +kernel
theorem dX3_init_0 : decode cX3_init 0 = .ok (.aload_n 0, 1) := by decide +kernel
theorem dX3_init_1 : decode cX3_init 1 = .ok (.invokespecial 3, 3) := by decide +kernel
theorem dX3_init_4 : decode cX3_init 4 = .ok (.aload_n 0, 1) := by decide +kernel
theorem dX3_init_5 : decode cX3_init 5 = .ok (.iload_n 1, 1) := by decide +kernel
theorem dX3_init_6 : decode cX3_init 6 = .ok (.putfield 9, 3) := by decide +kernel
theorem dX3_init_9 : decode cX3_init 9 = .ok (.aload_n 0, 1) := by decide +kernel
theorem dX3_init_10 : decode cX3_init 10 = .ok (.iload_n 2, 1) := by decide +kernel
theorem dX3_init_11 : decode cX3_init 11 = .ok (.putfield 15, 3) := by decide +kernel
theorem dX3_init_14 : decode cX3_init 14 = .ok (.return_, 1) := by decide +kernel
theorem dX3_of_0 : decode cX3_of 0 = .ok (.iload_n 1, 1) := by decide +kernel
theorem dX3_of_1 : decode cX3_of 1 = .ok (.ifCond .ne 10, 3) := by decide +kernel
theorem dX3_of_4 : decode cX3_of 4 = .ok (.aload_n 0, 1) := by decide +kernel
theorem dX3_of_5 : decode cX3_of 5 = .ok (.getfield 9, 3) := by decide +kernel
theorem dX3_of_8 : decode cX3_of 8 = .ok (.goto 7, 3) := by decide +kernel
theorem dX3_of_11 : decode cX3_of 11 = .ok (.aload_n 0, 1) := by decide +kernel
theorem dX3_of_12 : decode cX3_of 12 = .ok (.getfield 15, 3) := by decide +kernel
theorem dX3_of_15 : decode cX3_of 15 = .ok (.ireturn, 1) := by decide +kernel
theorem dX3_add_0 : decode cX3_add 0 = .ok (.iload_n 1, 1) := by decide +kernel
theorem dX3_add_1 : decode cX3_add 1 = .ok (.ifCond .ne 16, 3) := by decide +kernel
theorem dX3_add_4 : decode cX3_add 4 = .ok (.aload_n 0, 1) := by decide +kernel
theorem dX3_add_5 : decode cX3_add 5 = .ok (.dup, 1) := by decide +kernel
theorem dX3_add_6 : decode cX3_add 6 = .ok (.getfield 9, 3) := by decide +kernel
theorem dX3_add_9 : decode cX3_add 9 = .ok (.iload_n 2, 1) := by decide +kernel
theorem dX3_add_10 : decode cX3_add 10 = .ok (.iadd, 1) := by decide +kernel
theorem dX3_add_11 : decode cX3_add 11 = .ok (.putfield 9, 3) := by decide +kernel
theorem dX3_add_14 : decode cX3_add 14 = .ok (.goto 13, 3) := by decide +kernel
theorem dX3_add_17 : decode cX3_add 17 = .ok (.aload_n 0, 1) := by decide +kernel
theorem dX3_add_18 : decode cX3_add 18 = .ok (.dup, 1) := by decide +kernel
theorem dX3_add_19 : decode cX3_add 19 = .ok (.getfield 15, 3) := by decide +kernel
theorem dX3_add_22 : decode cX3_add 22 = .ok (.iload_n 2, 1) := by decide +kernel
theorem dX3_add_23 : decode cX3_add 23 = .ok (.iadd, 1) := by decide +kernel
theorem dX3_add_24 : decode cX3_add 24 = .ok (.putfield 15, 3) := by decide +kernel
theorem dX3_add_27 : decode cX3_add 27 = .ok (.return_, 1) := by decide +kernel
theorem dX3_worth_0 : decode cX3_worth 0 = .ok (.aload_n 0, 1) := by decide +kernel
theorem dX3_worth_1 : decode cX3_worth 1 = .ok (.getfield 9, 3) := by decide +kernel
theorem dX3_worth_4 : decode cX3_worth 4 = .ok (.aload_n 0, 1) := by decide +kernel
theorem dX3_worth_5 : decode cX3_worth 5 = .ok (.getfield 15, 3) := by decide +kernel
theorem dX3_worth_8 : decode cX3_worth 8 = .ok (.iload_n 1, 1) := by decide +kernel
theorem dX3_worth_9 : decode cX3_worth 9 = .ok (.invokestatic 18, 3) := by decide +kernel
theorem dX3_worth_12 : decode cX3_worth 12 = .ok (.ireturn, 1) := by decide +kernel
theorem dX3_isBelowZero_0 : decode cX3_isBelowZero 0 = .ok (.aload_n 0, 1) := by decide +kernel
theorem dX3_isBelowZero_1 : decode cX3_isBelowZero 1 = .ok (.getfield 9, 3) := by decide +kernel
theorem dX3_isBelowZero_4 : decode cX3_isBelowZero 4 = .ok (.ifCond .lt 10, 3) := by decide +kernel
theorem dX3_isBelowZero_7 : decode cX3_isBelowZero 7 = .ok (.aload_n 0, 1) := by decide +kernel
theorem dX3_isBelowZero_8 : decode cX3_isBelowZero 8 = .ok (.getfield 15, 3) := by decide +kernel
theorem dX3_isBelowZero_11 : decode cX3_isBelowZero 11 = .ok (.ifCond .ge 7, 3) := by decide +kernel
theorem dX3_isBelowZero_14 : decode cX3_isBelowZero 14 = .ok (.iconst 1, 1) := by decide +kernel
theorem dX3_isBelowZero_15 : decode cX3_isBelowZero 15 = .ok (.goto 4, 3) := by decide +kernel
theorem dX3_isBelowZero_18 : decode cX3_isBelowZero 18 = .ok (.iconst 0, 1) := by decide +kernel
theorem dX3_isBelowZero_19 : decode cX3_isBelowZero 19 = .ok (.ireturn, 1) := by decide +kernel
theorem dX4_init_0 : decode cX4_init 0 = .ok (.aload_n 0, 1) := by decide +kernel
theorem dX4_init_1 : decode cX4_init 1 = .ok (.invokespecial 3, 3) := by decide +kernel
theorem dX4_init_4 : decode cX4_init 4 = .ok (.aload_n 0, 1) := by decide +kernel
theorem dX4_init_5 : decode cX4_init 5 = .ok (.iconst 5, 1) := by decide +kernel
theorem dX4_init_6 : decode cX4_init 6 = .ok (.newarray .int, 2) := by decide +kernel
theorem dX4_init_8 : decode cX4_init 8 = .ok (.putfield 9, 3) := by decide +kernel
theorem dX4_init_11 : decode cX4_init 11 = .ok (.return_, 1) := by decide +kernel
theorem dX4_manyOf_0 : decode cX4_manyOf 0 = .ok (.iload_n 1, 1) := by decide +kernel
theorem dX4_manyOf_1 : decode cX4_manyOf 1 = .ok (.ifCond .lt 21, 3) := by decide +kernel
theorem dX4_manyOf_4 : decode cX4_manyOf 4 = .ok (.iload_n 1, 1) := by decide +kernel
theorem dX4_manyOf_5 : decode cX4_manyOf 5 = .ok (.aload_n 0, 1) := by decide +kernel
theorem dX4_manyOf_6 : decode cX4_manyOf 6 = .ok (.getfield 9, 3) := by decide +kernel
theorem dX4_manyOf_9 : decode cX4_manyOf 9 = .ok (.arraylength, 1) := by decide +kernel
theorem dX4_manyOf_10 : decode cX4_manyOf 10 = .ok (.if_icmp .ge 12, 3) := by decide +kernel
theorem dX4_manyOf_13 : decode cX4_manyOf 13 = .ok (.aload_n 0, 1) := by decide +kernel
theorem dX4_manyOf_14 : decode cX4_manyOf 14 = .ok (.getfield 9, 3) := by decide +kernel
theorem dX4_manyOf_17 : decode cX4_manyOf 17 = .ok (.iload_n 1, 1) := by decide +kernel
theorem dX4_manyOf_18 : decode cX4_manyOf 18 = .ok (.iaload, 1) := by decide +kernel
theorem dX4_manyOf_19 : decode cX4_manyOf 19 = .ok (.goto 4, 3) := by decide +kernel
theorem dX4_manyOf_22 : decode cX4_manyOf 22 = .ok (.iconst 0, 1) := by decide +kernel
theorem dX4_manyOf_23 : decode cX4_manyOf 23 = .ok (.ireturn, 1) := by decide +kernel
theorem dX4_setMany_0 : decode cX4_setMany 0 = .ok (.iload_n 1, 1) := by decide +kernel
theorem dX4_setMany_1 : decode cX4_setMany 1 = .ok (.ifCond .lt 19, 3) := by decide +kernel
theorem dX4_setMany_4 : decode cX4_setMany 4 = .ok (.iload_n 1, 1) := by decide +kernel
theorem dX4_setMany_5 : decode cX4_setMany 5 = .ok (.aload_n 0, 1) := by decide +kernel
theorem dX4_setMany_6 : decode cX4_setMany 6 = .ok (.getfield 9, 3) := by decide +kernel
theorem dX4_setMany_9 : decode cX4_setMany 9 = .ok (.arraylength, 1) := by decide +kernel
theorem dX4_setMany_10 : decode cX4_setMany 10 = .ok (.if_icmp .ge 10, 3) := by decide +kernel
theorem dX4_setMany_13 : decode cX4_setMany 13 = .ok (.aload_n 0, 1) := by decide +kernel
theorem dX4_setMany_14 : decode cX4_setMany 14 = .ok (.getfield 9, 3) := by decide +kernel
theorem dX4_setMany_17 : decode cX4_setMany 17 = .ok (.iload_n 1, 1) := by decide +kernel
theorem dX4_setMany_18 : decode cX4_setMany 18 = .ok (.iload_n 2, 1) := by decide +kernel
theorem dX4_setMany_19 : decode cX4_setMany 19 = .ok (.iastore, 1) := by decide +kernel
theorem dX4_setMany_20 : decode cX4_setMany 20 = .ok (.return_, 1) := by decide +kernel
theorem dX4_pounds_0 : decode cX4_pounds 0 = .ok (.bipush 20, 2) := by decide +kernel
theorem dX4_pounds_2 : decode cX4_pounds 2 = .ok (.aload_n 0, 1) := by decide +kernel
theorem dX4_pounds_3 : decode cX4_pounds 3 = .ok (.iconst 0, 1) := by decide +kernel
theorem dX4_pounds_4 : decode cX4_pounds 4 = .ok (.invokevirtual 15, 3) := by decide +kernel
theorem dX4_pounds_7 : decode cX4_pounds 7 = .ok (.imul, 1) := by decide +kernel
theorem dX4_pounds_8 : decode cX4_pounds 8 = .ok (.bipush 10, 2) := by decide +kernel
theorem dX4_pounds_10 : decode cX4_pounds 10 = .ok (.aload_n 0, 1) := by decide +kernel
theorem dX4_pounds_11 : decode cX4_pounds 11 = .ok (.iconst 1, 1) := by decide +kernel
theorem dX4_pounds_12 : decode cX4_pounds 12 = .ok (.invokevirtual 15, 3) := by decide +kernel
theorem dX4_pounds_15 : decode cX4_pounds 15 = .ok (.imul, 1) := by decide +kernel
theorem dX4_pounds_16 : decode cX4_pounds 16 = .ok (.iadd, 1) := by decide +kernel
theorem dX4_pounds_17 : decode cX4_pounds 17 = .ok (.iconst 5, 1) := by decide +kernel
theorem dX4_pounds_18 : decode cX4_pounds 18 = .ok (.aload_n 0, 1) := by decide +kernel
theorem dX4_pounds_19 : decode cX4_pounds 19 = .ok (.iconst 2, 1) := by decide +kernel
theorem dX4_pounds_20 : decode cX4_pounds 20 = .ok (.invokevirtual 15, 3) := by decide +kernel
theorem dX4_pounds_23 : decode cX4_pounds 23 = .ok (.imul, 1) := by decide +kernel
theorem dX4_pounds_24 : decode cX4_pounds 24 = .ok (.iadd, 1) := by decide +kernel
theorem dX4_pounds_25 : decode cX4_pounds 25 = .ok (.iconst 2, 1) := by decide +kernel
theorem dX4_pounds_26 : decode cX4_pounds 26 = .ok (.aload_n 0, 1) := by decide +kernel
theorem dX4_pounds_27 : decode cX4_pounds 27 = .ok (.iconst 3, 1) := by decide +kernel
theorem dX4_pounds_28 : decode cX4_pounds 28 = .ok (.invokevirtual 15, 3) := by decide +kernel
theorem dX4_pounds_31 : decode cX4_pounds 31 = .ok (.imul, 1) := by decide +kernel
theorem dX4_pounds_32 : decode cX4_pounds 32 = .ok (.iadd, 1) := by decide +kernel
theorem dX4_pounds_33 : decode cX4_pounds 33 = .ok (.aload_n 0, 1) := by decide +kernel
theorem dX4_pounds_34 : decode cX4_pounds 34 = .ok (.iconst 4, 1) := by decide +kernel
theorem dX4_pounds_35 : decode cX4_pounds 35 = .ok (.invokevirtual 15, 3) := by decide +kernel
theorem dX4_pounds_38 : decode cX4_pounds 38 = .ok (.iadd, 1) := by decide +kernel
theorem dX4_pounds_39 : decode cX4_pounds 39 = .ok (.ireturn, 1) := by decide +kernel
theorem dX4_fewestFor_0 : decode cX4_fewestFor 0 = .ok (.iconst (-1), 1) := by decide +kernel
theorem dX4_fewestFor_1 : decode cX4_fewestFor 1 = .ok (.istore_n 2, 1) := by decide +kernel
theorem dX4_fewestFor_2 : decode cX4_fewestFor 2 = .ok (.bipush 46, 2) := by decide +kernel
theorem dX4_fewestFor_4 : decode cX4_fewestFor 4 = .ok (.istore_n 3, 1) := by decide +kernel
theorem dX4_fewestFor_5 : decode cX4_fewestFor 5 = .ok (.aload_n 0, 1) := by decide +kernel
theorem dX4_fewestFor_6 : decode cX4_fewestFor 6 = .ok (.iconst 0, 1) := by decide +kernel
theorem dX4_fewestFor_7 : decode cX4_fewestFor 7 = .ok (.invokevirtual 15, 3) := by decide +kernel
theorem dX4_fewestFor_10 : decode cX4_fewestFor 10 = .ok (.iload_n 1, 1) := by decide +kernel
theorem dX4_fewestFor_11 : decode cX4_fewestFor 11 = .ok (.bipush 20, 2) := by decide +kernel
theorem dX4_fewestFor_13 : decode cX4_fewestFor 13 = .ok (.idiv, 1) := by decide +kernel
theorem dX4_fewestFor_14 : decode cX4_fewestFor 14 = .ok (.invokestatic 19, 3) := by decide +kernel
theorem dX4_fewestFor_17 : decode cX4_fewestFor 17 = .ok (.istore 4, 2) := by decide +kernel
theorem dX4_fewestFor_19 : decode cX4_fewestFor 19 = .ok (.iload 4, 2) := by decide +kernel
theorem dX4_fewestFor_21 : decode cX4_fewestFor 21 = .ok (.ifCond .lt 183, 3) := by decide +kernel
theorem dX4_fewestFor_24 : decode cX4_fewestFor 24 = .ok (.iload_n 1, 1) := by decide +kernel
theorem dX4_fewestFor_25 : decode cX4_fewestFor 25 = .ok (.bipush 20, 2) := by decide +kernel
theorem dX4_fewestFor_27 : decode cX4_fewestFor 27 = .ok (.iload 4, 2) := by decide +kernel
theorem dX4_fewestFor_29 : decode cX4_fewestFor 29 = .ok (.imul, 1) := by decide +kernel
theorem dX4_fewestFor_30 : decode cX4_fewestFor 30 = .ok (.isub, 1) := by decide +kernel
theorem dX4_fewestFor_31 : decode cX4_fewestFor 31 = .ok (.istore 5, 2) := by decide +kernel
theorem dX4_fewestFor_33 : decode cX4_fewestFor 33 = .ok (.aload_n 0, 1) := by decide +kernel
theorem dX4_fewestFor_34 : decode cX4_fewestFor 34 = .ok (.iconst 1, 1) := by decide +kernel
theorem dX4_fewestFor_35 : decode cX4_fewestFor 35 = .ok (.invokevirtual 15, 3) := by decide +kernel
theorem dX4_fewestFor_38 : decode cX4_fewestFor 38 = .ok (.iload 5, 2) := by decide +kernel
theorem dX4_fewestFor_40 : decode cX4_fewestFor 40 = .ok (.bipush 10, 2) := by decide +kernel
theorem dX4_fewestFor_42 : decode cX4_fewestFor 42 = .ok (.idiv, 1) := by decide +kernel
theorem dX4_fewestFor_43 : decode cX4_fewestFor 43 = .ok (.invokestatic 19, 3) := by decide +kernel
theorem dX4_fewestFor_46 : decode cX4_fewestFor 46 = .ok (.istore 6, 2) := by decide +kernel
theorem dX4_fewestFor_48 : decode cX4_fewestFor 48 = .ok (.iload 6, 2) := by decide +kernel
theorem dX4_fewestFor_50 : decode cX4_fewestFor 50 = .ok (.ifCond .lt 148, 3) := by decide +kernel
theorem dX4_fewestFor_53 : decode cX4_fewestFor 53 = .ok (.iload 5, 2) := by decide +kernel
theorem dX4_fewestFor_55 : decode cX4_fewestFor 55 = .ok (.bipush 10, 2) := by decide +kernel
theorem dX4_fewestFor_57 : decode cX4_fewestFor 57 = .ok (.iload 6, 2) := by decide +kernel
theorem dX4_fewestFor_59 : decode cX4_fewestFor 59 = .ok (.imul, 1) := by decide +kernel
theorem dX4_fewestFor_60 : decode cX4_fewestFor 60 = .ok (.isub, 1) := by decide +kernel
theorem dX4_fewestFor_61 : decode cX4_fewestFor 61 = .ok (.istore 7, 2) := by decide +kernel
theorem dX4_fewestFor_63 : decode cX4_fewestFor 63 = .ok (.aload_n 0, 1) := by decide +kernel
theorem dX4_fewestFor_64 : decode cX4_fewestFor 64 = .ok (.iconst 2, 1) := by decide +kernel
theorem dX4_fewestFor_65 : decode cX4_fewestFor 65 = .ok (.invokevirtual 15, 3) := by decide +kernel
theorem dX4_fewestFor_68 : decode cX4_fewestFor 68 = .ok (.iload 7, 2) := by decide +kernel
theorem dX4_fewestFor_70 : decode cX4_fewestFor 70 = .ok (.iconst 5, 1) := by decide +kernel
theorem dX4_fewestFor_71 : decode cX4_fewestFor 71 = .ok (.idiv, 1) := by decide +kernel
theorem dX4_fewestFor_72 : decode cX4_fewestFor 72 = .ok (.invokestatic 19, 3) := by decide +kernel
theorem dX4_fewestFor_75 : decode cX4_fewestFor 75 = .ok (.istore 8, 2) := by decide +kernel
theorem dX4_fewestFor_77 : decode cX4_fewestFor 77 = .ok (.iload 8, 2) := by decide +kernel
theorem dX4_fewestFor_79 : decode cX4_fewestFor 79 = .ok (.ifCond .lt 113, 3) := by decide +kernel
theorem dX4_fewestFor_82 : decode cX4_fewestFor 82 = .ok (.iload 7, 2) := by decide +kernel
theorem dX4_fewestFor_84 : decode cX4_fewestFor 84 = .ok (.iconst 5, 1) := by decide +kernel
theorem dX4_fewestFor_85 : decode cX4_fewestFor 85 = .ok (.iload 8, 2) := by decide +kernel
theorem dX4_fewestFor_87 : decode cX4_fewestFor 87 = .ok (.imul, 1) := by decide +kernel
theorem dX4_fewestFor_88 : decode cX4_fewestFor 88 = .ok (.isub, 1) := by decide +kernel
theorem dX4_fewestFor_89 : decode cX4_fewestFor 89 = .ok (.istore 9, 2) := by decide +kernel
theorem dX4_fewestFor_91 : decode cX4_fewestFor 91 = .ok (.aload_n 0, 1) := by decide +kernel
theorem dX4_fewestFor_92 : decode cX4_fewestFor 92 = .ok (.iconst 3, 1) := by decide +kernel
theorem dX4_fewestFor_93 : decode cX4_fewestFor 93 = .ok (.invokevirtual 15, 3) := by decide +kernel
theorem dX4_fewestFor_96 : decode cX4_fewestFor 96 = .ok (.iload 9, 2) := by decide +kernel
theorem dX4_fewestFor_98 : decode cX4_fewestFor 98 = .ok (.iconst 2, 1) := by decide +kernel
theorem dX4_fewestFor_99 : decode cX4_fewestFor 99 = .ok (.idiv, 1) := by decide +kernel
theorem dX4_fewestFor_100 : decode cX4_fewestFor 100 = .ok (.invokestatic 19, 3) := by decide +kernel
theorem dX4_fewestFor_103 : decode cX4_fewestFor 103 = .ok (.istore 10, 2) := by decide +kernel
theorem dX4_fewestFor_105 : decode cX4_fewestFor 105 = .ok (.iload 9, 2) := by decide +kernel
theorem dX4_fewestFor_107 : decode cX4_fewestFor 107 = .ok (.iconst 2, 1) := by decide +kernel
theorem dX4_fewestFor_108 : decode cX4_fewestFor 108 = .ok (.iload 10, 2) := by decide +kernel
theorem dX4_fewestFor_110 : decode cX4_fewestFor 110 = .ok (.imul, 1) := by decide +kernel
theorem dX4_fewestFor_111 : decode cX4_fewestFor 111 = .ok (.isub, 1) := by decide +kernel
theorem dX4_fewestFor_112 : decode cX4_fewestFor 112 = .ok (.istore 11, 2) := by decide +kernel
theorem dX4_fewestFor_114 : decode cX4_fewestFor 114 = .ok (.iload 11, 2) := by decide +kernel
theorem dX4_fewestFor_116 : decode cX4_fewestFor 116 = .ok (.aload_n 0, 1) := by decide +kernel
theorem dX4_fewestFor_117 : decode cX4_fewestFor 117 = .ok (.iconst 4, 1) := by decide +kernel
theorem dX4_fewestFor_118 : decode cX4_fewestFor 118 = .ok (.invokevirtual 15, 3) := by decide +kernel
theorem dX4_fewestFor_121 : decode cX4_fewestFor 121 = .ok (.if_icmp .gt 65, 3) := by decide +kernel
theorem dX4_fewestFor_124 : decode cX4_fewestFor 124 = .ok (.iload 4, 2) := by decide +kernel
theorem dX4_fewestFor_126 : decode cX4_fewestFor 126 = .ok (.iload 6, 2) := by decide +kernel
theorem dX4_fewestFor_128 : decode cX4_fewestFor 128 = .ok (.iadd, 1) := by decide +kernel
theorem dX4_fewestFor_129 : decode cX4_fewestFor 129 = .ok (.iload 8, 2) := by decide +kernel
theorem dX4_fewestFor_131 : decode cX4_fewestFor 131 = .ok (.iadd, 1) := by decide +kernel
theorem dX4_fewestFor_132 : decode cX4_fewestFor 132 = .ok (.iload 10, 2) := by decide +kernel
theorem dX4_fewestFor_134 : decode cX4_fewestFor 134 = .ok (.iadd, 1) := by decide +kernel
theorem dX4_fewestFor_135 : decode cX4_fewestFor 135 = .ok (.iload 11, 2) := by decide +kernel
theorem dX4_fewestFor_137 : decode cX4_fewestFor 137 = .ok (.iadd, 1) := by decide +kernel
theorem dX4_fewestFor_138 : decode cX4_fewestFor 138 = .ok (.iload_n 3, 1) := by decide +kernel
theorem dX4_fewestFor_139 : decode cX4_fewestFor 139 = .ok (.if_icmp .ge 47, 3) := by decide +kernel
theorem dX4_fewestFor_142 : decode cX4_fewestFor 142 = .ok (.iload 4, 2) := by decide +kernel
theorem dX4_fewestFor_144 : decode cX4_fewestFor 144 = .ok (.iload 6, 2) := by decide +kernel
theorem dX4_fewestFor_146 : decode cX4_fewestFor 146 = .ok (.iadd, 1) := by decide +kernel
theorem dX4_fewestFor_147 : decode cX4_fewestFor 147 = .ok (.iload 8, 2) := by decide +kernel
theorem dX4_fewestFor_149 : decode cX4_fewestFor 149 = .ok (.iadd, 1) := by decide +kernel
theorem dX4_fewestFor_150 : decode cX4_fewestFor 150 = .ok (.iload 10, 2) := by decide +kernel
theorem dX4_fewestFor_152 : decode cX4_fewestFor 152 = .ok (.iadd, 1) := by decide +kernel
theorem dX4_fewestFor_153 : decode cX4_fewestFor 153 = .ok (.iload 11, 2) := by decide +kernel
theorem dX4_fewestFor_155 : decode cX4_fewestFor 155 = .ok (.iadd, 1) := by decide +kernel
theorem dX4_fewestFor_156 : decode cX4_fewestFor 156 = .ok (.istore_n 3, 1) := by decide +kernel
theorem dX4_fewestFor_157 : decode cX4_fewestFor 157 = .ok (.iload 4, 2) := by decide +kernel
theorem dX4_fewestFor_159 : decode cX4_fewestFor 159 = .ok (.sipush 10000, 3) := by decide +kernel
theorem dX4_fewestFor_162 : decode cX4_fewestFor 162 = .ok (.imul, 1) := by decide +kernel
theorem dX4_fewestFor_163 : decode cX4_fewestFor 163 = .ok (.iload 6, 2) := by decide +kernel
theorem dX4_fewestFor_165 : decode cX4_fewestFor 165 = .ok (.sipush 1000, 3) := by decide +kernel
theorem dX4_fewestFor_168 : decode cX4_fewestFor 168 = .ok (.imul, 1) := by decide +kernel
theorem dX4_fewestFor_169 : decode cX4_fewestFor 169 = .ok (.iadd, 1) := by decide +kernel
theorem dX4_fewestFor_170 : decode cX4_fewestFor 170 = .ok (.iload 8, 2) := by decide +kernel
theorem dX4_fewestFor_172 : decode cX4_fewestFor 172 = .ok (.bipush 100, 2) := by decide +kernel
theorem dX4_fewestFor_174 : decode cX4_fewestFor 174 = .ok (.imul, 1) := by decide +kernel
theorem dX4_fewestFor_175 : decode cX4_fewestFor 175 = .ok (.iadd, 1) := by decide +kernel
theorem dX4_fewestFor_176 : decode cX4_fewestFor 176 = .ok (.iload 10, 2) := by decide +kernel
theorem dX4_fewestFor_178 : decode cX4_fewestFor 178 = .ok (.bipush 10, 2) := by decide +kernel
theorem dX4_fewestFor_180 : decode cX4_fewestFor 180 = .ok (.imul, 1) := by decide +kernel
theorem dX4_fewestFor_181 : decode cX4_fewestFor 181 = .ok (.iadd, 1) := by decide +kernel
theorem dX4_fewestFor_182 : decode cX4_fewestFor 182 = .ok (.iload 11, 2) := by decide +kernel
theorem dX4_fewestFor_184 : decode cX4_fewestFor 184 = .ok (.iadd, 1) := by decide +kernel
theorem dX4_fewestFor_185 : decode cX4_fewestFor 185 = .ok (.istore_n 2, 1) := by decide +kernel
theorem dX4_fewestFor_186 : decode cX4_fewestFor 186 = .ok (.iinc 8 (-1), 3) := by decide +kernel
theorem dX4_fewestFor_189 : decode cX4_fewestFor 189 = .ok (.goto (-112), 3) := by decide +kernel
theorem dX4_fewestFor_192 : decode cX4_fewestFor 192 = .ok (.iinc 6 (-1), 3) := by decide +kernel
theorem dX4_fewestFor_195 : decode cX4_fewestFor 195 = .ok (.goto (-147), 3) := by decide +kernel
theorem dX4_fewestFor_198 : decode cX4_fewestFor 198 = .ok (.iinc 4 (-1), 3) := by decide +kernel
theorem dX4_fewestFor_201 : decode cX4_fewestFor 201 = .ok (.goto (-182), 3) := by decide +kernel
theorem dX4_fewestFor_204 : decode cX4_fewestFor 204 = .ok (.iload_n 2, 1) := by decide +kernel
theorem dX4_fewestFor_205 : decode cX4_fewestFor 205 = .ok (.ireturn, 1) := by decide +kernel
theorem dX4_takeOut_0 : decode cX4_takeOut 0 = .ok (.iconst 0, 1) := by decide +kernel
theorem dX4_takeOut_1 : decode cX4_takeOut 1 = .ok (.istore_n 2, 1) := by decide +kernel
theorem dX4_takeOut_2 : decode cX4_takeOut 2 = .ok (.iload_n 1, 1) := by decide +kernel
theorem dX4_takeOut_3 : decode cX4_takeOut 3 = .ok (.istore_n 3, 1) := by decide +kernel
theorem dX4_takeOut_4 : decode cX4_takeOut 4 = .ok (.iconst 4, 1) := by decide +kernel
theorem dX4_takeOut_5 : decode cX4_takeOut 5 = .ok (.istore 4, 2) := by decide +kernel
theorem dX4_takeOut_7 : decode cX4_takeOut 7 = .ok (.iload 4, 2) := by decide +kernel
theorem dX4_takeOut_9 : decode cX4_takeOut 9 = .ok (.ifCond .lt 40, 3) := by decide +kernel
theorem dX4_takeOut_12 : decode cX4_takeOut 12 = .ok (.iload_n 3, 1) := by decide +kernel
theorem dX4_takeOut_13 : decode cX4_takeOut 13 = .ok (.bipush 10, 2) := by decide +kernel
theorem dX4_takeOut_15 : decode cX4_takeOut 15 = .ok (.irem, 1) := by decide +kernel
theorem dX4_takeOut_16 : decode cX4_takeOut 16 = .ok (.istore 5, 2) := by decide +kernel
theorem dX4_takeOut_18 : decode cX4_takeOut 18 = .ok (.aload_n 0, 1) := by decide +kernel
theorem dX4_takeOut_19 : decode cX4_takeOut 19 = .ok (.iload 4, 2) := by decide +kernel
theorem dX4_takeOut_21 : decode cX4_takeOut 21 = .ok (.aload_n 0, 1) := by decide +kernel
theorem dX4_takeOut_22 : decode cX4_takeOut 22 = .ok (.iload 4, 2) := by decide +kernel
theorem dX4_takeOut_24 : decode cX4_takeOut 24 = .ok (.invokevirtual 15, 3) := by decide +kernel
theorem dX4_takeOut_27 : decode cX4_takeOut 27 = .ok (.iload 5, 2) := by decide +kernel
theorem dX4_takeOut_29 : decode cX4_takeOut 29 = .ok (.isub, 1) := by decide +kernel
theorem dX4_takeOut_30 : decode cX4_takeOut 30 = .ok (.invokevirtual 25, 3) := by decide +kernel
theorem dX4_takeOut_33 : decode cX4_takeOut 33 = .ok (.iload_n 2, 1) := by decide +kernel
theorem dX4_takeOut_34 : decode cX4_takeOut 34 = .ok (.iload 5, 2) := by decide +kernel
theorem dX4_takeOut_36 : decode cX4_takeOut 36 = .ok (.iadd, 1) := by decide +kernel
theorem dX4_takeOut_37 : decode cX4_takeOut 37 = .ok (.istore_n 2, 1) := by decide +kernel
theorem dX4_takeOut_38 : decode cX4_takeOut 38 = .ok (.iload_n 3, 1) := by decide +kernel
theorem dX4_takeOut_39 : decode cX4_takeOut 39 = .ok (.bipush 10, 2) := by decide +kernel
theorem dX4_takeOut_41 : decode cX4_takeOut 41 = .ok (.idiv, 1) := by decide +kernel
theorem dX4_takeOut_42 : decode cX4_takeOut 42 = .ok (.istore_n 3, 1) := by decide +kernel
theorem dX4_takeOut_43 : decode cX4_takeOut 43 = .ok (.iinc 4 (-1), 3) := by decide +kernel
theorem dX4_takeOut_46 : decode cX4_takeOut 46 = .ok (.goto (-39), 3) := by decide +kernel
theorem dX4_takeOut_49 : decode cX4_takeOut 49 = .ok (.iload_n 2, 1) := by decide +kernel
theorem dX4_takeOut_50 : decode cX4_takeOut 50 = .ok (.ireturn, 1) := by decide +kernel
theorem dX4_isBelowZero_0 : decode cX4_isBelowZero 0 = .ok (.aload_n 0, 1) := by decide +kernel
theorem dX4_isBelowZero_1 : decode cX4_isBelowZero 1 = .ok (.getfield 9, 3) := by decide +kernel
theorem dX4_isBelowZero_4 : decode cX4_isBelowZero 4 = .ok (.astore_n 1, 1) := by decide +kernel
theorem dX4_isBelowZero_5 : decode cX4_isBelowZero 5 = .ok (.aload_n 1, 1) := by decide +kernel
theorem dX4_isBelowZero_6 : decode cX4_isBelowZero 6 = .ok (.arraylength, 1) := by decide +kernel
theorem dX4_isBelowZero_7 : decode cX4_isBelowZero 7 = .ok (.istore_n 2, 1) := by decide +kernel
theorem dX4_isBelowZero_8 : decode cX4_isBelowZero 8 = .ok (.iconst 0, 1) := by decide +kernel
theorem dX4_isBelowZero_9 : decode cX4_isBelowZero 9 = .ok (.istore_n 3, 1) := by decide +kernel
theorem dX4_isBelowZero_10 : decode cX4_isBelowZero 10 = .ok (.iload_n 3, 1) := by decide +kernel
theorem dX4_isBelowZero_11 : decode cX4_isBelowZero 11 = .ok (.iload_n 2, 1) := by decide +kernel
theorem dX4_isBelowZero_12 : decode cX4_isBelowZero 12 = .ok (.if_icmp .ge 21, 3) := by decide +kernel
theorem dX4_isBelowZero_15 : decode cX4_isBelowZero 15 = .ok (.aload_n 1, 1) := by decide +kernel
theorem dX4_isBelowZero_16 : decode cX4_isBelowZero 16 = .ok (.iload_n 3, 1) := by decide +kernel
theorem dX4_isBelowZero_17 : decode cX4_isBelowZero 17 = .ok (.iaload, 1) := by decide +kernel
theorem dX4_isBelowZero_18 : decode cX4_isBelowZero 18 = .ok (.istore 4, 2) := by decide +kernel
theorem dX4_isBelowZero_20 : decode cX4_isBelowZero 20 = .ok (.iload 4, 2) := by decide +kernel
theorem dX4_isBelowZero_22 : decode cX4_isBelowZero 22 = .ok (.ifCond .ge 5, 3) := by decide +kernel
theorem dX4_isBelowZero_25 : decode cX4_isBelowZero 25 = .ok (.iconst 1, 1) := by decide +kernel
theorem dX4_isBelowZero_26 : decode cX4_isBelowZero 26 = .ok (.ireturn, 1) := by decide +kernel
theorem dX4_isBelowZero_27 : decode cX4_isBelowZero 27 = .ok (.iinc 3 1, 3) := by decide +kernel
theorem dX4_isBelowZero_30 : decode cX4_isBelowZero 30 = .ok (.goto (-20), 3) := by decide +kernel
theorem dX4_isBelowZero_33 : decode cX4_isBelowZero 33 = .ok (.iconst 0, 1) := by decide +kernel
theorem dX4_isBelowZero_34 : decode cX4_isBelowZero 34 = .ok (.ireturn, 1) := by decide +kernel
theorem dX5_init_0 : decode cX5_init 0 = .ok (.aload_n 0, 1) := by decide +kernel
theorem dX5_init_1 : decode cX5_init 1 = .ok (.invokespecial 1, 3) := by decide +kernel
theorem dX5_init_4 : decode cX5_init 4 = .ok (.aload_n 0, 1) := by decide +kernel
theorem dX5_init_5 : decode cX5_init 5 = .ok (.sipush 155, 3) := by decide +kernel
theorem dX5_init_8 : decode cX5_init 8 = .ok (.putfield 9, 3) := by decide +kernel
theorem dX5_init_11 : decode cX5_init 11 = .ok (.aload_n 0, 1) := by decide +kernel
theorem dX5_init_12 : decode cX5_init 12 = .ok (.iconst 4, 1) := by decide +kernel
theorem dX5_init_13 : decode cX5_init 13 = .ok (.anewarray 13, 3) := by decide +kernel
theorem dX5_init_16 : decode cX5_init 16 = .ok (.putfield 15, 3) := by decide +kernel
theorem dX5_init_19 : decode cX5_init 19 = .ok (.aload_n 0, 1) := by decide +kernel
theorem dX5_init_20 : decode cX5_init 20 = .ok (.bipush 6, 2) := by decide +kernel
theorem dX5_init_22 : decode cX5_init 22 = .ok (.anewarray 19, 3) := by decide +kernel
theorem dX5_init_25 : decode cX5_init 25 = .ok (.putfield 21, 3) := by decide +kernel
theorem dX5_init_28 : decode cX5_init 28 = .ok (.aload_n 0, 1) := by decide +kernel
theorem dX5_init_29 : decode cX5_init 29 = .ok (.bipush 10, 2) := by decide +kernel
theorem dX5_init_31 : decode cX5_init 31 = .ok (.anewarray 25, 3) := by decide +kernel
theorem dX5_init_34 : decode cX5_init 34 = .ok (.putfield 27, 3) := by decide +kernel
theorem dX5_init_37 : decode cX5_init 37 = .ok (.aload_n 0, 1) := by decide +kernel
theorem dX5_init_38 : decode cX5_init 38 = .ok (.new 31, 3) := by decide +kernel
theorem dX5_init_41 : decode cX5_init 41 = .ok (.dup, 1) := by decide +kernel
theorem dX5_init_42 : decode cX5_init 42 = .ok (.iconst 0, 1) := by decide +kernel
theorem dX5_init_43 : decode cX5_init 43 = .ok (.iconst 0, 1) := by decide +kernel
theorem dX5_init_44 : decode cX5_init 44 = .ok (.invokespecial 33, 3) := by decide +kernel
theorem dX5_init_47 : decode cX5_init 47 = .ok (.putfield 36, 3) := by decide +kernel
theorem dX5_init_50 : decode cX5_init 50 = .ok (.aload_n 0, 1) := by decide +kernel
theorem dX5_init_51 : decode cX5_init 51 = .ok (.new 31, 3) := by decide +kernel
theorem dX5_init_54 : decode cX5_init 54 = .ok (.dup, 1) := by decide +kernel
theorem dX5_init_55 : decode cX5_init 55 = .ok (.iconst 0, 1) := by decide +kernel
theorem dX5_init_56 : decode cX5_init 56 = .ok (.iconst 0, 1) := by decide +kernel
theorem dX5_init_57 : decode cX5_init 57 = .ok (.invokespecial 33, 3) := by decide +kernel
theorem dX5_init_60 : decode cX5_init 60 = .ok (.putfield 40, 3) := by decide +kernel
theorem dX5_init_63 : decode cX5_init 63 = .ok (.aload_n 0, 1) := by decide +kernel
theorem dX5_init_64 : decode cX5_init 64 = .ok (.new 31, 3) := by decide +kernel
theorem dX5_init_67 : decode cX5_init 67 = .ok (.dup, 1) := by decide +kernel
theorem dX5_init_68 : decode cX5_init 68 = .ok (.iconst 0, 1) := by decide +kernel
theorem dX5_init_69 : decode cX5_init 69 = .ok (.iconst 0, 1) := by decide +kernel
theorem dX5_init_70 : decode cX5_init 70 = .ok (.invokespecial 33, 3) := by decide +kernel
theorem dX5_init_73 : decode cX5_init 73 = .ok (.putfield 43, 3) := by decide +kernel
theorem dX5_init_76 : decode cX5_init 76 = .ok (.aload_n 0, 1) := by decide +kernel
theorem dX5_init_77 : decode cX5_init 77 = .ok (.new 31, 3) := by decide +kernel
theorem dX5_init_80 : decode cX5_init 80 = .ok (.dup, 1) := by decide +kernel
theorem dX5_init_81 : decode cX5_init 81 = .ok (.iconst 0, 1) := by decide +kernel
theorem dX5_init_82 : decode cX5_init 82 = .ok (.iconst 0, 1) := by decide +kernel
theorem dX5_init_83 : decode cX5_init 83 = .ok (.invokespecial 33, 3) := by decide +kernel
theorem dX5_init_86 : decode cX5_init 86 = .ok (.putfield 46, 3) := by decide +kernel
theorem dX5_init_89 : decode cX5_init 89 = .ok (.return_, 1) := by decide +kernel
theorem dX5_country_0 : decode cX5_country 0 = .ok (.iload_n 1, 1) := by decide +kernel
theorem dX5_country_1 : decode cX5_country 1 = .ok (.iload_n 2, 1) := by decide +kernel
theorem dX5_country_2 : decode cX5_country 2 = .ok (.invokestatic 49, 3) := by decide +kernel
theorem dX5_country_5 : decode cX5_country 5 = .ok (.iload_n 3, 1) := by decide +kernel
theorem dX5_country_6 : decode cX5_country 6 = .ok (.iconst 0, 1) := by decide +kernel
theorem dX5_country_7 : decode cX5_country 7 = .ok (.ldc 52, 2) := by decide +kernel
theorem dX5_country_9 : decode cX5_country 9 = .ok (.invokestatic 53, 3) := by decide +kernel
theorem dX5_country_12 : decode cX5_country 12 = .ok (.iload 4, 2) := by decide +kernel
theorem dX5_country_14 : decode cX5_country 14 = .ok (.iconst 0, 1) := by decide +kernel
theorem dX5_country_15 : decode cX5_country 15 = .ok (.ldc 52, 2) := by decide +kernel
theorem dX5_country_17 : decode cX5_country 17 = .ok (.invokestatic 53, 3) := by decide +kernel
theorem dX5_country_20 : decode cX5_country 20 = .ok (.aload_n 0, 1) := by decide +kernel
theorem dX5_country_21 : decode cX5_country 21 = .ok (.getfield 57, 3) := by decide +kernel
theorem dX5_country_24 : decode cX5_country 24 = .ok (.aload_n 0, 1) := by decide +kernel
theorem dX5_country_25 : decode cX5_country 25 = .ok (.getfield 15, 3) := by decide +kernel
theorem dX5_country_28 : decode cX5_country 28 = .ok (.arraylength, 1) := by decide +kernel
theorem dX5_country_29 : decode cX5_country 29 = .ok (.if_icmp .lt 13, 3) := by decide +kernel
theorem dX5_country_32 : decode cX5_country 32 = .ok (.new 60, 3) := by decide +kernel
theorem dX5_country_35 : decode cX5_country 35 = .ok (.dup, 1) := by decide +kernel
theorem dX5_country_36 : decode cX5_country 36 = .ok (.ldc 62, 2) := by decide +kernel
theorem dX5_country_38 : decode cX5_country 38 = .ok (.invokespecial 64, 3) := by decide +kernel
theorem dX5_country_41 : decode cX5_country 41 = .ok (.athrow, 1) := by decide +kernel
theorem dX5_country_42 : decode cX5_country 42 = .ok (.aload_n 0, 1) := by decide +kernel
theorem dX5_country_43 : decode cX5_country 43 = .ok (.getfield 57, 3) := by decide +kernel
theorem dX5_country_46 : decode cX5_country 46 = .ok (.istore 5, 2) := by decide +kernel
theorem dX5_country_48 : decode cX5_country 48 = .ok (.aload_n 0, 1) := by decide +kernel
theorem dX5_country_49 : decode cX5_country 49 = .ok (.getfield 15, 3) := by decide +kernel
theorem dX5_country_52 : decode cX5_country 52 = .ok (.iload 5, 2) := by decide +kernel
theorem dX5_country_54 : decode cX5_country 54 = .ok (.new 13, 3) := by decide +kernel
theorem dX5_country_57 : decode cX5_country 57 = .ok (.dup, 1) := by decide +kernel
theorem dX5_country_58 : decode cX5_country 58 = .ok (.iload 5, 2) := by decide +kernel
theorem dX5_country_60 : decode cX5_country 60 = .ok (.iload_n 1, 1) := by decide +kernel
theorem dX5_country_61 : decode cX5_country 61 = .ok (.iload_n 2, 1) := by decide +kernel
theorem dX5_country_62 : decode cX5_country 62 = .ok (.new 31, 3) := by decide +kernel
theorem dX5_country_65 : decode cX5_country 65 = .ok (.dup, 1) := by decide +kernel
theorem dX5_country_66 : decode cX5_country 66 = .ok (.iload_n 3, 1) := by decide +kernel
theorem dX5_country_67 : decode cX5_country 67 = .ok (.iload 4, 2) := by decide +kernel
theorem dX5_country_69 : decode cX5_country 69 = .ok (.invokespecial 33, 3) := by decide +kernel
theorem dX5_country_72 : decode cX5_country 72 = .ok (.invokespecial 67, 3) := by decide +kernel
theorem dX5_country_75 : decode cX5_country 75 = .ok (.aastore, 1) := by decide +kernel
theorem dX5_country_76 : decode cX5_country 76 = .ok (.aload_n 0, 1) := by decide +kernel
theorem dX5_country_77 : decode cX5_country 77 = .ok (.iload 5, 2) := by decide +kernel
theorem dX5_country_79 : decode cX5_country 79 = .ok (.iconst 1, 1) := by decide +kernel
theorem dX5_country_80 : decode cX5_country 80 = .ok (.iadd, 1) := by decide +kernel
theorem dX5_country_81 : decode cX5_country 81 = .ok (.putfield 57, 3) := by decide +kernel
theorem dX5_country_84 : decode cX5_country 84 = .ok (.aload_n 0, 1) := by decide +kernel
theorem dX5_country_85 : decode cX5_country 85 = .ok (.getfield 46, 3) := by decide +kernel
theorem dX5_country_88 : decode cX5_country 88 = .ok (.iconst 0, 1) := by decide +kernel
theorem dX5_country_89 : decode cX5_country 89 = .ok (.iload_n 3, 1) := by decide +kernel
theorem dX5_country_90 : decode cX5_country 90 = .ok (.invokevirtual 70, 3) := by decide +kernel
theorem dX5_country_93 : decode cX5_country 93 = .ok (.aload_n 0, 1) := by decide +kernel
theorem dX5_country_94 : decode cX5_country 94 = .ok (.getfield 46, 3) := by decide +kernel
theorem dX5_country_97 : decode cX5_country 97 = .ok (.iconst 1, 1) := by decide +kernel
theorem dX5_country_98 : decode cX5_country 98 = .ok (.iload 4, 2) := by decide +kernel
theorem dX5_country_100 : decode cX5_country 100 = .ok (.invokevirtual 70, 3) := by decide +kernel
theorem dX5_country_103 : decode cX5_country 103 = .ok (.iload 5, 2) := by decide +kernel
theorem dX5_country_105 : decode cX5_country 105 = .ok (.ireturn, 1) := by decide +kernel
theorem dX5_law_0 : decode cX5_law 0 = .ok (.aload_n 0, 1) := by decide +kernel
theorem dX5_law_1 : decode cX5_law 1 = .ok (.iload_n 1, 1) := by decide +kernel
theorem dX5_law_2 : decode cX5_law 2 = .ok (.invokevirtual 73, 3) := by decide +kernel
theorem dX5_law_5 : decode cX5_law 5 = .ok (.astore 4, 2) := by decide +kernel
theorem dX5_law_7 : decode cX5_law 7 = .ok (.iload_n 2, 1) := by decide +kernel
theorem dX5_law_8 : decode cX5_law 8 = .ok (.iload_n 3, 1) := by decide +kernel
theorem dX5_law_9 : decode cX5_law 9 = .ok (.invokestatic 49, 3) := by decide +kernel
theorem dX5_law_12 : decode cX5_law 12 = .ok (.aload 4, 2) := by decide +kernel
theorem dX5_law_14 : decode cX5_law 14 = .ok (.getfield 77, 3) := by decide +kernel
theorem dX5_law_17 : decode cX5_law 17 = .ok (.istore 5, 2) := by decide +kernel
theorem dX5_law_19 : decode cX5_law 19 = .ok (.aload 4, 2) := by decide +kernel
theorem dX5_law_21 : decode cX5_law 21 = .ok (.iload_n 2, 1) := by decide +kernel
theorem dX5_law_22 : decode cX5_law 22 = .ok (.putfield 77, 3) := by decide +kernel
theorem dX5_law_25 : decode cX5_law 25 = .ok (.aload 4, 2) := by decide +kernel
theorem dX5_law_27 : decode cX5_law 27 = .ok (.iload_n 3, 1) := by decide +kernel
theorem dX5_law_28 : decode cX5_law 28 = .ok (.putfield 80, 3) := by decide +kernel
theorem dX5_law_31 : decode cX5_law 31 = .ok (.iload 5, 2) := by decide +kernel
theorem dX5_law_33 : decode cX5_law 33 = .ok (.ireturn, 1) := by decide +kernel
theorem dX5_gate_0 : decode cX5_gate 0 = .ok (.aload_n 0, 1) := by decide +kernel
theorem dX5_gate_1 : decode cX5_gate 1 = .ok (.iload_n 1, 1) := by decide +kernel
theorem dX5_gate_2 : decode cX5_gate 2 = .ok (.invokevirtual 73, 3) := by decide +kernel
theorem dX5_gate_5 : decode cX5_gate 5 = .ok (.astore 4, 2) := by decide +kernel
theorem dX5_gate_7 : decode cX5_gate 7 = .ok (.iload_n 2, 1) := by decide +kernel
theorem dX5_gate_8 : decode cX5_gate 8 = .ok (.invokestatic 83, 3) := by decide +kernel
theorem dX5_gate_11 : decode cX5_gate 11 = .ok (.aload 4, 2) := by decide +kernel
theorem dX5_gate_13 : decode cX5_gate 13 = .ok (.iload_n 2, 1) := by decide +kernel
theorem dX5_gate_14 : decode cX5_gate 14 = .ok (.invokevirtual 87, 3) := by decide +kernel
theorem dX5_gate_17 : decode cX5_gate 17 = .ok (.istore 5, 2) := by decide +kernel
theorem dX5_gate_19 : decode cX5_gate 19 = .ok (.aload 4, 2) := by decide +kernel
theorem dX5_gate_21 : decode cX5_gate 21 = .ok (.iload_n 2, 1) := by decide +kernel
theorem dX5_gate_22 : decode cX5_gate 22 = .ok (.iload_n 3, 1) := by decide +kernel
theorem dX5_gate_23 : decode cX5_gate 23 = .ok (.invokevirtual 91, 3) := by decide +kernel
theorem dX5_gate_26 : decode cX5_gate 26 = .ok (.iload 5, 2) := by decide +kernel
theorem dX5_gate_28 : decode cX5_gate 28 = .ok (.ireturn, 1) := by decide +kernel
theorem dX5_market_0 : decode cX5_market 0 = .ok (.iload_n 1, 1) := by decide +kernel
theorem dX5_market_1 : decode cX5_market 1 = .ok (.bipush 100, 2) := by decide +kernel
theorem dX5_market_3 : decode cX5_market 3 = .ok (.sipush 200, 3) := by decide +kernel
theorem dX5_market_6 : decode cX5_market 6 = .ok (.invokestatic 53, 3) := by decide +kernel
theorem dX5_market_9 : decode cX5_market 9 = .ok (.aload_n 0, 1) := by decide +kernel
theorem dX5_market_10 : decode cX5_market 10 = .ok (.getfield 9, 3) := by decide +kernel
theorem dX5_market_13 : decode cX5_market 13 = .ok (.istore_n 2, 1) := by decide +kernel
theorem dX5_market_14 : decode cX5_market 14 = .ok (.aload_n 0, 1) := by decide +kernel
theorem dX5_market_15 : decode cX5_market 15 = .ok (.iload_n 1, 1) := by decide +kernel
theorem dX5_market_16 : decode cX5_market 16 = .ok (.putfield 9, 3) := by decide +kernel
theorem dX5_market_19 : decode cX5_market 19 = .ok (.iload_n 2, 1) := by decide +kernel
theorem dX5_market_20 : decode cX5_market 20 = .ok (.ireturn, 1) := by decide +kernel
theorem dX5_road_0 : decode cX5_road 0 = .ok (.aload_n 0, 1) := by decide +kernel
theorem dX5_road_1 : decode cX5_road 1 = .ok (.iload_n 1, 1) := by decide +kernel
theorem dX5_road_2 : decode cX5_road 2 = .ok (.invokevirtual 73, 3) := by decide +kernel
theorem dX5_road_5 : decode cX5_road 5 = .ok (.astore 5, 2) := by decide +kernel
theorem dX5_road_7 : decode cX5_road 7 = .ok (.aload_n 0, 1) := by decide +kernel
theorem dX5_road_8 : decode cX5_road 8 = .ok (.iload_n 2, 1) := by decide +kernel
theorem dX5_road_9 : decode cX5_road 9 = .ok (.invokevirtual 73, 3) := by decide +kernel
theorem dX5_road_12 : decode cX5_road 12 = .ok (.astore 6, 2) := by decide +kernel
theorem dX5_road_14 : decode cX5_road 14 = .ok (.iload_n 1, 1) := by decide +kernel
theorem dX5_road_15 : decode cX5_road 15 = .ok (.iload_n 2, 1) := by decide +kernel
theorem dX5_road_16 : decode cX5_road 16 = .ok (.invokestatic 95, 3) := by decide +kernel
theorem dX5_road_19 : decode cX5_road 19 = .ok (.iload_n 3, 1) := by decide +kernel
theorem dX5_road_20 : decode cX5_road 20 = .ok (.iconst 1, 1) := by decide +kernel
theorem dX5_road_21 : decode cX5_road 21 = .ok (.bipush 30, 2) := by decide +kernel
theorem dX5_road_23 : decode cX5_road 23 = .ok (.invokestatic 53, 3) := by decide +kernel
theorem dX5_road_26 : decode cX5_road 26 = .ok (.iload 4, 2) := by decide +kernel
theorem dX5_road_28 : decode cX5_road 28 = .ok (.iconst 0, 1) := by decide +kernel
theorem dX5_road_29 : decode cX5_road 29 = .ok (.bipush 100, 2) := by decide +kernel
theorem dX5_road_31 : decode cX5_road 31 = .ok (.invokestatic 53, 3) := by decide +kernel
theorem dX5_road_34 : decode cX5_road 34 = .ok (.aload 5, 2) := by decide +kernel
theorem dX5_road_36 : decode cX5_road 36 = .ok (.aload 6, 2) := by decide +kernel
theorem dX5_road_38 : decode cX5_road 38 = .ok (.getfield 98, 3) := by decide +kernel
theorem dX5_road_41 : decode cX5_road 41 = .ok (.invokevirtual 101, 3) := by decide +kernel
theorem dX5_road_44 : decode cX5_road 44 = .ok (.istore 7, 2) := by decide +kernel
theorem dX5_road_46 : decode cX5_road 46 = .ok (.aload 5, 2) := by decide +kernel
theorem dX5_road_48 : decode cX5_road 48 = .ok (.aload 6, 2) := by decide +kernel
theorem dX5_road_50 : decode cX5_road 50 = .ok (.getfield 98, 3) := by decide +kernel
theorem dX5_road_53 : decode cX5_road 53 = .ok (.iload_n 3, 1) := by decide +kernel
theorem dX5_road_54 : decode cX5_road 54 = .ok (.iload 4, 2) := by decide +kernel
theorem dX5_road_56 : decode cX5_road 56 = .ok (.invokevirtual 105, 3) := by decide +kernel
theorem dX5_road_59 : decode cX5_road 59 = .ok (.aload 6, 2) := by decide +kernel
theorem dX5_road_61 : decode cX5_road 61 = .ok (.aload 5, 2) := by decide +kernel
theorem dX5_road_63 : decode cX5_road 63 = .ok (.getfield 98, 3) := by decide +kernel
theorem dX5_road_66 : decode cX5_road 66 = .ok (.iload_n 3, 1) := by decide +kernel
theorem dX5_road_67 : decode cX5_road 67 = .ok (.iload 4, 2) := by decide +kernel
theorem dX5_road_69 : decode cX5_road 69 = .ok (.invokevirtual 105, 3) := by decide +kernel
theorem dX5_road_72 : decode cX5_road 72 = .ok (.iload 7, 2) := by decide +kernel
theorem dX5_road_74 : decode cX5_road 74 = .ok (.ireturn, 1) := by decide +kernel
theorem dX5_mine_0 : decode cX5_mine 0 = .ok (.aload_n 0, 1) := by decide +kernel
theorem dX5_mine_1 : decode cX5_mine 1 = .ok (.iload_n 1, 1) := by decide +kernel
theorem dX5_mine_2 : decode cX5_mine 2 = .ok (.invokevirtual 73, 3) := by decide +kernel
theorem dX5_mine_5 : decode cX5_mine 5 = .ok (.getfield 108, 3) := by decide +kernel
theorem dX5_mine_8 : decode cX5_mine 8 = .ok (.astore 4, 2) := by decide +kernel
theorem dX5_mine_10 : decode cX5_mine 10 = .ok (.iload_n 2, 1) := by decide +kernel
theorem dX5_mine_11 : decode cX5_mine 11 = .ok (.invokestatic 83, 3) := by decide +kernel
theorem dX5_mine_14 : decode cX5_mine 14 = .ok (.iload_n 3, 1) := by decide +kernel
theorem dX5_mine_15 : decode cX5_mine 15 = .ok (.iconst 1, 1) := by decide +kernel
theorem dX5_mine_16 : decode cX5_mine 16 = .ok (.ldc 52, 2) := by decide +kernel
theorem dX5_mine_18 : decode cX5_mine 18 = .ok (.invokestatic 53, 3) := by decide +kernel
theorem dX5_mine_21 : decode cX5_mine 21 = .ok (.aload 4, 2) := by decide +kernel
theorem dX5_mine_23 : decode cX5_mine 23 = .ok (.iload_n 2, 1) := by decide +kernel
theorem dX5_mine_24 : decode cX5_mine 24 = .ok (.invokevirtual 111, 3) := by decide +kernel
theorem dX5_mine_27 : decode cX5_mine 27 = .ok (.ldc 114, 2) := by decide +kernel
theorem dX5_mine_29 : decode cX5_mine 29 = .ok (.iload_n 3, 1) := by decide +kernel
theorem dX5_mine_30 : decode cX5_mine 30 = .ok (.isub, 1) := by decide +kernel
theorem dX5_mine_31 : decode cX5_mine 31 = .ok (.if_icmp .le 13, 3) := by decide +kernel
theorem dX5_mine_34 : decode cX5_mine 34 = .ok (.new 60, 3) := by decide +kernel
theorem dX5_mine_37 : decode cX5_mine 37 = .ok (.dup, 1) := by decide +kernel
theorem dX5_mine_38 : decode cX5_mine 38 = .ok (.ldc 115, 2) := by decide +kernel
theorem dX5_mine_40 : decode cX5_mine 40 = .ok (.invokespecial 64, 3) := by decide +kernel
theorem dX5_mine_43 : decode cX5_mine 43 = .ok (.athrow, 1) := by decide +kernel
theorem dX5_mine_44 : decode cX5_mine 44 = .ok (.aload 4, 2) := by decide +kernel
theorem dX5_mine_46 : decode cX5_mine 46 = .ok (.iload_n 2, 1) := by decide +kernel
theorem dX5_mine_47 : decode cX5_mine 47 = .ok (.iload_n 3, 1) := by decide +kernel
theorem dX5_mine_48 : decode cX5_mine 48 = .ok (.invokevirtual 70, 3) := by decide +kernel
theorem dX5_mine_51 : decode cX5_mine 51 = .ok (.aload_n 0, 1) := by decide +kernel
theorem dX5_mine_52 : decode cX5_mine 52 = .ok (.getfield 46, 3) := by decide +kernel
theorem dX5_mine_55 : decode cX5_mine 55 = .ok (.iload_n 2, 1) := by decide +kernel
theorem dX5_mine_56 : decode cX5_mine 56 = .ok (.iload_n 3, 1) := by decide +kernel
theorem dX5_mine_57 : decode cX5_mine 57 = .ok (.invokevirtual 70, 3) := by decide +kernel
theorem dX5_mine_60 : decode cX5_mine 60 = .ok (.aload 4, 2) := by decide +kernel
theorem dX5_mine_62 : decode cX5_mine 62 = .ok (.iload_n 2, 1) := by decide +kernel
theorem dX5_mine_63 : decode cX5_mine 63 = .ok (.invokevirtual 111, 3) := by decide +kernel
theorem dX5_mine_66 : decode cX5_mine 66 = .ok (.ireturn, 1) := by decide +kernel
theorem dX5_use_0 : decode cX5_use 0 = .ok (.aload_n 0, 1) := by decide +kernel
theorem dX5_use_1 : decode cX5_use 1 = .ok (.iload_n 1, 1) := by decide +kernel
theorem dX5_use_2 : decode cX5_use 2 = .ok (.invokevirtual 73, 3) := by decide +kernel
theorem dX5_use_5 : decode cX5_use 5 = .ok (.getfield 108, 3) := by decide +kernel
theorem dX5_use_8 : decode cX5_use 8 = .ok (.astore 4, 2) := by decide +kernel
theorem dX5_use_10 : decode cX5_use 10 = .ok (.iload_n 2, 1) := by decide +kernel
theorem dX5_use_11 : decode cX5_use 11 = .ok (.invokestatic 83, 3) := by decide +kernel
theorem dX5_use_14 : decode cX5_use 14 = .ok (.iload_n 3, 1) := by decide +kernel
theorem dX5_use_15 : decode cX5_use 15 = .ok (.iconst 1, 1) := by decide +kernel
theorem dX5_use_16 : decode cX5_use 16 = .ok (.ldc 52, 2) := by decide +kernel
theorem dX5_use_18 : decode cX5_use 18 = .ok (.invokestatic 53, 3) := by decide +kernel
theorem dX5_use_21 : decode cX5_use 21 = .ok (.aload 4, 2) := by decide +kernel
theorem dX5_use_23 : decode cX5_use 23 = .ok (.iload_n 2, 1) := by decide +kernel
theorem dX5_use_24 : decode cX5_use 24 = .ok (.invokevirtual 111, 3) := by decide +kernel
theorem dX5_use_27 : decode cX5_use 27 = .ok (.iload_n 3, 1) := by decide +kernel
theorem dX5_use_28 : decode cX5_use 28 = .ok (.if_icmp .ge 13, 3) := by decide +kernel
theorem dX5_use_31 : decode cX5_use 31 = .ok (.new 60, 3) := by decide +kernel
theorem dX5_use_34 : decode cX5_use 34 = .ok (.dup, 1) := by decide +kernel
theorem dX5_use_35 : decode cX5_use 35 = .ok (.ldc 117, 2) := by decide +kernel
theorem dX5_use_37 : decode cX5_use 37 = .ok (.invokespecial 64, 3) := by decide +kernel
theorem dX5_use_40 : decode cX5_use 40 = .ok (.athrow, 1) := by decide +kernel
theorem dX5_use_41 : decode cX5_use 41 = .ok (.aload 4, 2) := by decide +kernel
theorem dX5_use_43 : decode cX5_use 43 = .ok (.iload_n 2, 1) := by decide +kernel
theorem dX5_use_44 : decode cX5_use 44 = .ok (.iload_n 3, 1) := by decide +kernel
theorem dX5_use_45 : decode cX5_use 45 = .ok (.ineg, 1) := by decide +kernel
theorem dX5_use_46 : decode cX5_use 46 = .ok (.invokevirtual 70, 3) := by decide +kernel
theorem dX5_use_49 : decode cX5_use 49 = .ok (.aload_n 0, 1) := by decide +kernel
theorem dX5_use_50 : decode cX5_use 50 = .ok (.getfield 40, 3) := by decide +kernel
theorem dX5_use_53 : decode cX5_use 53 = .ok (.iload_n 2, 1) := by decide +kernel
theorem dX5_use_54 : decode cX5_use 54 = .ok (.iload_n 3, 1) := by decide +kernel
theorem dX5_use_55 : decode cX5_use 55 = .ok (.invokevirtual 70, 3) := by decide +kernel
theorem dX5_use_58 : decode cX5_use 58 = .ok (.aload 4, 2) := by decide +kernel
theorem dX5_use_60 : decode cX5_use 60 = .ok (.iload_n 2, 1) := by decide +kernel
theorem dX5_use_61 : decode cX5_use 61 = .ok (.invokevirtual 111, 3) := by decide +kernel
theorem dX5_use_64 : decode cX5_use 64 = .ok (.ireturn, 1) := by decide +kernel
theorem dX5_house_0 : decode cX5_house 0 = .ok (.aload_n 0, 1) := by decide +kernel
theorem dX5_house_1 : decode cX5_house 1 = .ok (.iload_n 1, 1) := by decide +kernel
theorem dX5_house_2 : decode cX5_house 2 = .ok (.invokevirtual 73, 3) := by decide +kernel
theorem dX5_house_5 : decode cX5_house 5 = .ok (.astore 4, 2) := by decide +kernel
theorem dX5_house_7 : decode cX5_house 7 = .ok (.iload_n 2, 1) := by decide +kernel
theorem dX5_house_8 : decode cX5_house 8 = .ok (.iconst 0, 1) := by decide +kernel
theorem dX5_house_9 : decode cX5_house 9 = .ok (.ldc 52, 2) := by decide +kernel
theorem dX5_house_11 : decode cX5_house 11 = .ok (.invokestatic 53, 3) := by decide +kernel
theorem dX5_house_14 : decode cX5_house 14 = .ok (.iload_n 3, 1) := by decide +kernel
theorem dX5_house_15 : decode cX5_house 15 = .ok (.iconst 0, 1) := by decide +kernel
theorem dX5_house_16 : decode cX5_house 16 = .ok (.ldc 52, 2) := by decide +kernel
theorem dX5_house_18 : decode cX5_house 18 = .ok (.invokestatic 53, 3) := by decide +kernel
theorem dX5_house_21 : decode cX5_house 21 = .ok (.aload_n 0, 1) := by decide +kernel
theorem dX5_house_22 : decode cX5_house 22 = .ok (.getfield 119, 3) := by decide +kernel
theorem dX5_house_25 : decode cX5_house 25 = .ok (.aload_n 0, 1) := by decide +kernel
theorem dX5_house_26 : decode cX5_house 26 = .ok (.getfield 21, 3) := by decide +kernel
theorem dX5_house_29 : decode cX5_house 29 = .ok (.arraylength, 1) := by decide +kernel
theorem dX5_house_30 : decode cX5_house 30 = .ok (.if_icmp .lt 13, 3) := by decide +kernel
theorem dX5_house_33 : decode cX5_house 33 = .ok (.new 60, 3) := by decide +kernel
theorem dX5_house_36 : decode cX5_house 36 = .ok (.dup, 1) := by decide +kernel
theorem dX5_house_37 : decode cX5_house 37 = .ok (.ldc 122, 2) := by decide +kernel
theorem dX5_house_39 : decode cX5_house 39 = .ok (.invokespecial 64, 3) := by decide +kernel
theorem dX5_house_42 : decode cX5_house 42 = .ok (.athrow, 1) := by decide +kernel
theorem dX5_house_43 : decode cX5_house 43 = .ok (.aload_n 0, 1) := by decide +kernel
theorem dX5_house_44 : decode cX5_house 44 = .ok (.getfield 119, 3) := by decide +kernel
theorem dX5_house_47 : decode cX5_house 47 = .ok (.istore 5, 2) := by decide +kernel
theorem dX5_house_49 : decode cX5_house 49 = .ok (.aload_n 0, 1) := by decide +kernel
theorem dX5_house_50 : decode cX5_house 50 = .ok (.getfield 21, 3) := by decide +kernel
theorem dX5_house_53 : decode cX5_house 53 = .ok (.iload 5, 2) := by decide +kernel
theorem dX5_house_55 : decode cX5_house 55 = .ok (.new 19, 3) := by decide +kernel
theorem dX5_house_58 : decode cX5_house 58 = .ok (.dup, 1) := by decide +kernel
theorem dX5_house_59 : decode cX5_house 59 = .ok (.iload 5, 2) := by decide +kernel
theorem dX5_house_61 : decode cX5_house 61 = .ok (.aload 4, 2) := by decide +kernel
theorem dX5_house_63 : decode cX5_house 63 = .ok (.new 31, 3) := by decide +kernel
theorem dX5_house_66 : decode cX5_house 66 = .ok (.dup, 1) := by decide +kernel
theorem dX5_house_67 : decode cX5_house 67 = .ok (.iload_n 2, 1) := by decide +kernel
theorem dX5_house_68 : decode cX5_house 68 = .ok (.iload_n 3, 1) := by decide +kernel
theorem dX5_house_69 : decode cX5_house 69 = .ok (.invokespecial 33, 3) := by decide +kernel
theorem dX5_house_72 : decode cX5_house 72 = .ok (.invokespecial 124, 3) := by decide +kernel
theorem dX5_house_75 : decode cX5_house 75 = .ok (.aastore, 1) := by decide +kernel
theorem dX5_house_76 : decode cX5_house 76 = .ok (.aload_n 0, 1) := by decide +kernel
theorem dX5_house_77 : decode cX5_house 77 = .ok (.iload 5, 2) := by decide +kernel
theorem dX5_house_79 : decode cX5_house 79 = .ok (.iconst 1, 1) := by decide +kernel
theorem dX5_house_80 : decode cX5_house 80 = .ok (.iadd, 1) := by decide +kernel
theorem dX5_house_81 : decode cX5_house 81 = .ok (.putfield 119, 3) := by decide +kernel
theorem dX5_house_84 : decode cX5_house 84 = .ok (.aload_n 0, 1) := by decide +kernel
theorem dX5_house_85 : decode cX5_house 85 = .ok (.getfield 46, 3) := by decide +kernel
theorem dX5_house_88 : decode cX5_house 88 = .ok (.iconst 0, 1) := by decide +kernel
theorem dX5_house_89 : decode cX5_house 89 = .ok (.iload_n 2, 1) := by decide +kernel
theorem dX5_house_90 : decode cX5_house 90 = .ok (.invokevirtual 70, 3) := by decide +kernel
theorem dX5_house_93 : decode cX5_house 93 = .ok (.aload_n 0, 1) := by decide +kernel
theorem dX5_house_94 : decode cX5_house 94 = .ok (.getfield 46, 3) := by decide +kernel
theorem dX5_house_97 : decode cX5_house 97 = .ok (.iconst 1, 1) := by decide +kernel
theorem dX5_house_98 : decode cX5_house 98 = .ok (.iload_n 3, 1) := by decide +kernel
theorem dX5_house_99 : decode cX5_house 99 = .ok (.invokevirtual 70, 3) := by decide +kernel
theorem dX5_house_102 : decode cX5_house 102 = .ok (.iload 5, 2) := by decide +kernel
theorem dX5_house_104 : decode cX5_house 104 = .ok (.ireturn, 1) := by decide +kernel
theorem dX5_change_0 : decode cX5_change 0 = .ok (.aload_n 0, 1) := by decide +kernel
theorem dX5_change_1 : decode cX5_change 1 = .ok (.iload_n 1, 1) := by decide +kernel
theorem dX5_change_2 : decode cX5_change 2 = .ok (.invokevirtual 127, 3) := by decide +kernel
theorem dX5_change_5 : decode cX5_change 5 = .ok (.astore 4, 2) := by decide +kernel
theorem dX5_change_7 : decode cX5_change 7 = .ok (.iload_n 2, 1) := by decide +kernel
theorem dX5_change_8 : decode cX5_change 8 = .ok (.invokestatic 83, 3) := by decide +kernel
theorem dX5_change_11 : decode cX5_change 11 = .ok (.iload_n 3, 1) := by decide +kernel
theorem dX5_change_12 : decode cX5_change 12 = .ok (.iconst 1, 1) := by decide +kernel
theorem dX5_change_13 : decode cX5_change 13 = .ok (.ldc 52, 2) := by decide +kernel
theorem dX5_change_15 : decode cX5_change 15 = .ok (.invokestatic 53, 3) := by decide +kernel
theorem dX5_change_18 : decode cX5_change 18 = .ok (.aload 4, 2) := by decide +kernel
theorem dX5_change_20 : decode cX5_change 20 = .ok (.getfield 131, 3) := by decide +kernel
theorem dX5_change_23 : decode cX5_change 23 = .ok (.astore 5, 2) := by decide +kernel
theorem dX5_change_25 : decode cX5_change 25 = .ok (.aload 5, 2) := by decide +kernel
theorem dX5_change_27 : decode cX5_change 27 = .ok (.ifnull 16, 3) := by decide +kernel
theorem dX5_change_30 : decode cX5_change 30 = .ok (.aload 4, 2) := by decide +kernel
theorem dX5_change_32 : decode cX5_change 32 = .ok (.getfield 135, 3) := by decide +kernel
theorem dX5_change_35 : decode cX5_change 35 = .ok (.iload_n 2, 1) := by decide +kernel
theorem dX5_change_36 : decode cX5_change 36 = .ok (.invokevirtual 111, 3) := by decide +kernel
theorem dX5_change_39 : decode cX5_change 39 = .ok (.iload_n 3, 1) := by decide +kernel
theorem dX5_change_40 : decode cX5_change 40 = .ok (.if_icmp .ge 13, 3) := by decide +kernel
theorem dX5_change_43 : decode cX5_change 43 = .ok (.new 60, 3) := by decide +kernel
theorem dX5_change_46 : decode cX5_change 46 = .ok (.dup, 1) := by decide +kernel
theorem dX5_change_47 : decode cX5_change 47 = .ok (.ldc 138, 2) := by decide +kernel
theorem dX5_change_49 : decode cX5_change 49 = .ok (.invokespecial 64, 3) := by decide +kernel
theorem dX5_change_52 : decode cX5_change 52 = .ok (.athrow, 1) := by decide +kernel
theorem dX5_change_53 : decode cX5_change 53 = .ok (.aload 5, 2) := by decide +kernel
theorem dX5_change_55 : decode cX5_change 55 = .ok (.iload_n 2, 1) := by decide +kernel
theorem dX5_change_56 : decode cX5_change 56 = .ok (.iload_n 3, 1) := by decide +kernel
theorem dX5_change_57 : decode cX5_change 57 = .ok (.invokevirtual 140, 3) := by decide +kernel
theorem dX5_change_60 : decode cX5_change 60 = .ok (.istore 6, 2) := by decide +kernel
theorem dX5_change_62 : decode cX5_change 62 = .ok (.iload_n 2, 1) := by decide +kernel
theorem dX5_change_63 : decode cX5_change 63 = .ok (.invokestatic 144, 3) := by decide +kernel
theorem dX5_change_66 : decode cX5_change 66 = .ok (.istore 7, 2) := by decide +kernel
theorem dX5_change_68 : decode cX5_change 68 = .ok (.aload 5, 2) := by decide +kernel
theorem dX5_change_70 : decode cX5_change 70 = .ok (.iload_n 2, 1) := by decide +kernel
theorem dX5_change_71 : decode cX5_change 71 = .ok (.invokevirtual 87, 3) := by decide +kernel
theorem dX5_change_74 : decode cX5_change 74 = .ok (.ifCond .eq 18, 3) := by decide +kernel
theorem dX5_change_77 : decode cX5_change 77 = .ok (.aload 5, 2) := by decide +kernel
theorem dX5_change_79 : decode cX5_change 79 = .ok (.getfield 108, 3) := by decide +kernel
theorem dX5_change_82 : decode cX5_change 82 = .ok (.iload 7, 2) := by decide +kernel
theorem dX5_change_84 : decode cX5_change 84 = .ok (.invokevirtual 111, 3) := by decide +kernel
theorem dX5_change_87 : decode cX5_change 87 = .ok (.iload 6, 2) := by decide +kernel
theorem dX5_change_89 : decode cX5_change 89 = .ok (.if_icmp .ge 13, 3) := by decide +kernel
theorem dX5_change_92 : decode cX5_change 92 = .ok (.new 60, 3) := by decide +kernel
theorem dX5_change_95 : decode cX5_change 95 = .ok (.dup, 1) := by decide +kernel
theorem dX5_change_96 : decode cX5_change 96 = .ok (.ldc 147, 2) := by decide +kernel
theorem dX5_change_98 : decode cX5_change 98 = .ok (.invokespecial 64, 3) := by decide +kernel
theorem dX5_change_101 : decode cX5_change 101 = .ok (.athrow, 1) := by decide +kernel
theorem dX5_change_102 : decode cX5_change 102 = .ok (.aload 4, 2) := by decide +kernel
theorem dX5_change_104 : decode cX5_change 104 = .ok (.getfield 135, 3) := by decide +kernel
theorem dX5_change_107 : decode cX5_change 107 = .ok (.iload_n 2, 1) := by decide +kernel
theorem dX5_change_108 : decode cX5_change 108 = .ok (.iload_n 3, 1) := by decide +kernel
theorem dX5_change_109 : decode cX5_change 109 = .ok (.ineg, 1) := by decide +kernel
theorem dX5_change_110 : decode cX5_change 110 = .ok (.invokevirtual 70, 3) := by decide +kernel
theorem dX5_change_113 : decode cX5_change 113 = .ok (.aload 5, 2) := by decide +kernel
theorem dX5_change_115 : decode cX5_change 115 = .ok (.getfield 108, 3) := by decide +kernel
theorem dX5_change_118 : decode cX5_change 118 = .ok (.iload_n 2, 1) := by decide +kernel
theorem dX5_change_119 : decode cX5_change 119 = .ok (.iload_n 3, 1) := by decide +kernel
theorem dX5_change_120 : decode cX5_change 120 = .ok (.invokevirtual 70, 3) := by decide +kernel
theorem dX5_change_123 : decode cX5_change 123 = .ok (.aload 5, 2) := by decide +kernel
theorem dX5_change_125 : decode cX5_change 125 = .ok (.getfield 108, 3) := by decide +kernel
theorem dX5_change_128 : decode cX5_change 128 = .ok (.iload 7, 2) := by decide +kernel
theorem dX5_change_130 : decode cX5_change 130 = .ok (.iload 6, 2) := by decide +kernel
theorem dX5_change_132 : decode cX5_change 132 = .ok (.ineg, 1) := by decide +kernel
theorem dX5_change_133 : decode cX5_change 133 = .ok (.invokevirtual 70, 3) := by decide +kernel
theorem dX5_change_136 : decode cX5_change 136 = .ok (.aload 4, 2) := by decide +kernel
theorem dX5_change_138 : decode cX5_change 138 = .ok (.getfield 135, 3) := by decide +kernel
theorem dX5_change_141 : decode cX5_change 141 = .ok (.iload 7, 2) := by decide +kernel
theorem dX5_change_143 : decode cX5_change 143 = .ok (.iload 6, 2) := by decide +kernel
theorem dX5_change_145 : decode cX5_change 145 = .ok (.invokevirtual 70, 3) := by decide +kernel
theorem dX5_change_148 : decode cX5_change 148 = .ok (.iload 6, 2) := by decide +kernel
theorem dX5_change_150 : decode cX5_change 150 = .ok (.ireturn, 1) := by decide +kernel
theorem dX5_send_0 : decode cX5_send 0 = .ok (.aload_n 0, 1) := by decide +kernel
theorem dX5_send_1 : decode cX5_send 1 = .ok (.iload_n 1, 1) := by decide +kernel
theorem dX5_send_2 : decode cX5_send 2 = .ok (.invokevirtual 127, 3) := by decide +kernel
theorem dX5_send_5 : decode cX5_send 5 = .ok (.astore_n 3, 1) := by decide +kernel
theorem dX5_send_6 : decode cX5_send 6 = .ok (.aload_n 0, 1) := by decide +kernel
theorem dX5_send_7 : decode cX5_send 7 = .ok (.iload_n 2, 1) := by decide +kernel
theorem dX5_send_8 : decode cX5_send 8 = .ok (.invokevirtual 73, 3) := by decide +kernel
theorem dX5_send_11 : decode cX5_send 11 = .ok (.astore 4, 2) := by decide +kernel
theorem dX5_send_13 : decode cX5_send 13 = .ok (.aload_n 3, 1) := by decide +kernel
theorem dX5_send_14 : decode cX5_send 14 = .ok (.getfield 131, 3) := by decide +kernel
theorem dX5_send_17 : decode cX5_send 17 = .ok (.astore 5, 2) := by decide +kernel
theorem dX5_send_19 : decode cX5_send 19 = .ok (.aload 5, 2) := by decide +kernel
theorem dX5_send_21 : decode cX5_send 21 = .ok (.ifnull 10, 3) := by decide +kernel
theorem dX5_send_24 : decode cX5_send 24 = .ok (.aload 5, 2) := by decide +kernel
theorem dX5_send_26 : decode cX5_send 26 = .ok (.aload 4, 2) := by decide +kernel
theorem dX5_send_28 : decode cX5_send 28 = .ok (.if_acmp .ne 13, 3) := by decide +kernel
theorem dX5_send_31 : decode cX5_send 31 = .ok (.new 60, 3) := by decide +kernel
theorem dX5_send_34 : decode cX5_send 34 = .ok (.dup, 1) := by decide +kernel
theorem dX5_send_35 : decode cX5_send 35 = .ok (.ldc 149, 2) := by decide +kernel
theorem dX5_send_37 : decode cX5_send 37 = .ok (.invokespecial 64, 3) := by decide +kernel
theorem dX5_send_40 : decode cX5_send 40 = .ok (.athrow, 1) := by decide +kernel
theorem dX5_send_41 : decode cX5_send 41 = .ok (.aload_n 0, 1) := by decide +kernel
theorem dX5_send_42 : decode cX5_send 42 = .ok (.aload_n 3, 1) := by decide +kernel
theorem dX5_send_43 : decode cX5_send 43 = .ok (.getfield 135, 3) := by decide +kernel
theorem dX5_send_46 : decode cX5_send 46 = .ok (.iconst 0, 1) := by decide +kernel
theorem dX5_send_47 : decode cX5_send 47 = .ok (.aload 5, 2) := by decide +kernel
theorem dX5_send_49 : decode cX5_send 49 = .ok (.aload 4, 2) := by decide +kernel
theorem dX5_send_51 : decode cX5_send 51 = .ok (.getfield 98, 3) := by decide +kernel
theorem dX5_send_54 : decode cX5_send 54 = .ok (.invokevirtual 151, 3) := by decide +kernel
theorem dX5_send_57 : decode cX5_send 57 = .ok (.invokevirtual 154, 3) := by decide +kernel
theorem dX5_send_60 : decode cX5_send 60 = .ok (.aload_n 0, 1) := by decide +kernel
theorem dX5_send_61 : decode cX5_send 61 = .ok (.aload_n 3, 1) := by decide +kernel
theorem dX5_send_62 : decode cX5_send 62 = .ok (.getfield 135, 3) := by decide +kernel
theorem dX5_send_65 : decode cX5_send 65 = .ok (.iconst 1, 1) := by decide +kernel
theorem dX5_send_66 : decode cX5_send 66 = .ok (.aload 5, 2) := by decide +kernel
theorem dX5_send_68 : decode cX5_send 68 = .ok (.aload 4, 2) := by decide +kernel
theorem dX5_send_70 : decode cX5_send 70 = .ok (.getfield 98, 3) := by decide +kernel
theorem dX5_send_73 : decode cX5_send 73 = .ok (.invokevirtual 151, 3) := by decide +kernel
theorem dX5_send_76 : decode cX5_send 76 = .ok (.invokevirtual 154, 3) := by decide +kernel
theorem dX5_send_79 : decode cX5_send 79 = .ok (.aload_n 3, 1) := by decide +kernel
theorem dX5_send_80 : decode cX5_send 80 = .ok (.aload 4, 2) := by decide +kernel
theorem dX5_send_82 : decode cX5_send 82 = .ok (.aload_n 0, 1) := by decide +kernel
theorem dX5_send_83 : decode cX5_send 83 = .ok (.getfield 158, 3) := by decide +kernel
theorem dX5_send_86 : decode cX5_send 86 = .ok (.aload 5, 2) := by decide +kernel
theorem dX5_send_88 : decode cX5_send 88 = .ok (.aload 4, 2) := by decide +kernel
theorem dX5_send_90 : decode cX5_send 90 = .ok (.getfield 98, 3) := by decide +kernel
theorem dX5_send_93 : decode cX5_send 93 = .ok (.invokevirtual 101, 3) := by decide +kernel
theorem dX5_send_96 : decode cX5_send 96 = .ok (.iadd, 1) := by decide +kernel
theorem dX5_send_97 : decode cX5_send 97 = .ok (.invokevirtual 161, 3) := by decide +kernel
theorem dX5_send_100 : decode cX5_send 100 = .ok (.aload_n 3, 1) := by decide +kernel
theorem dX5_send_101 : decode cX5_send 101 = .ok (.getfield 165, 3) := by decide +kernel
theorem dX5_send_104 : decode cX5_send 104 = .ok (.ireturn, 1) := by decide +kernel
theorem dX5_payFreight_0 : decode cX5_payFreight 0 = .ok (.aload_n 1, 1) := by decide +kernel
theorem dX5_payFreight_1 : decode cX5_payFreight 1 = .ok (.iload_n 2, 1) := by decide +kernel
theorem dX5_payFreight_2 : decode cX5_payFreight 2 = .ok (.invokevirtual 111, 3) := by decide +kernel
theorem dX5_payFreight_5 : decode cX5_payFreight 5 = .ok (.iload_n 3, 1) := by decide +kernel
theorem dX5_payFreight_6 : decode cX5_payFreight 6 = .ok (.invokestatic 168, 3) := by decide +kernel
theorem dX5_payFreight_9 : decode cX5_payFreight 9 = .ok (.istore 4, 2) := by decide +kernel
theorem dX5_payFreight_11 : decode cX5_payFreight 11 = .ok (.aload_n 1, 1) := by decide +kernel
theorem dX5_payFreight_12 : decode cX5_payFreight 12 = .ok (.iload_n 2, 1) := by decide +kernel
theorem dX5_payFreight_13 : decode cX5_payFreight 13 = .ok (.iload 4, 2) := by decide +kernel
theorem dX5_payFreight_15 : decode cX5_payFreight 15 = .ok (.ineg, 1) := by decide +kernel
theorem dX5_payFreight_16 : decode cX5_payFreight 16 = .ok (.invokevirtual 70, 3) := by decide +kernel
theorem dX5_payFreight_19 : decode cX5_payFreight 19 = .ok (.aload_n 0, 1) := by decide +kernel
theorem dX5_payFreight_20 : decode cX5_payFreight 20 = .ok (.getfield 36, 3) := by decide +kernel
theorem dX5_payFreight_23 : decode cX5_payFreight 23 = .ok (.iload_n 2, 1) := by decide +kernel
theorem dX5_payFreight_24 : decode cX5_payFreight 24 = .ok (.iload 4, 2) := by decide +kernel
theorem dX5_payFreight_26 : decode cX5_payFreight 26 = .ok (.invokevirtual 70, 3) := by decide +kernel
theorem dX5_payFreight_29 : decode cX5_payFreight 29 = .ok (.return_, 1) := by decide +kernel
theorem dX5_pass_0 : decode cX5_pass 0 = .ok (.iload_n 1, 1) := by decide +kernel
theorem dX5_pass_1 : decode cX5_pass 1 = .ok (.iconst 1, 1) := by decide +kernel
theorem dX5_pass_2 : decode cX5_pass 2 = .ok (.sipush 400, 3) := by decide +kernel
theorem dX5_pass_5 : decode cX5_pass 5 = .ok (.invokestatic 53, 3) := by decide +kernel
theorem dX5_pass_8 : decode cX5_pass 8 = .ok (.aload_n 0, 1) := by decide +kernel
theorem dX5_pass_9 : decode cX5_pass 9 = .ok (.getfield 158, 3) := by decide +kernel
theorem dX5_pass_12 : decode cX5_pass 12 = .ok (.sipush 3000, 3) := by decide +kernel
theorem dX5_pass_15 : decode cX5_pass 15 = .ok (.iload_n 1, 1) := by decide +kernel
theorem dX5_pass_16 : decode cX5_pass 16 = .ok (.isub, 1) := by decide +kernel
theorem dX5_pass_17 : decode cX5_pass 17 = .ok (.if_icmp .le 13, 3) := by decide +kernel
theorem dX5_pass_20 : decode cX5_pass 20 = .ok (.new 60, 3) := by decide +kernel
theorem dX5_pass_23 : decode cX5_pass 23 = .ok (.dup, 1) := by decide +kernel
theorem dX5_pass_24 : decode cX5_pass 24 = .ok (.ldc 171, 2) := by decide +kernel
theorem dX5_pass_26 : decode cX5_pass 26 = .ok (.invokespecial 64, 3) := by decide +kernel
theorem dX5_pass_29 : decode cX5_pass 29 = .ok (.athrow, 1) := by decide +kernel
theorem dX5_pass_30 : decode cX5_pass 30 = .ok (.iconst 0, 1) := by decide +kernel
theorem dX5_pass_31 : decode cX5_pass 31 = .ok (.istore_n 2, 1) := by decide +kernel
theorem dX5_pass_32 : decode cX5_pass 32 = .ok (.iload_n 2, 1) := by decide +kernel
theorem dX5_pass_33 : decode cX5_pass 33 = .ok (.iload_n 1, 1) := by decide +kernel
theorem dX5_pass_34 : decode cX5_pass 34 = .ok (.if_icmp .ge 13, 3) := by decide +kernel
theorem dX5_pass_37 : decode cX5_pass 37 = .ok (.aload_n 0, 1) := by decide +kernel
theorem dX5_pass_38 : decode cX5_pass 38 = .ok (.invokevirtual 173, 3) := by decide +kernel
theorem dX5_pass_41 : decode cX5_pass 41 = .ok (.iinc 2 1, 3) := by decide +kernel
theorem dX5_pass_44 : decode cX5_pass 44 = .ok (.goto (-12), 3) := by decide +kernel
theorem dX5_pass_47 : decode cX5_pass 47 = .ok (.aload_n 0, 1) := by decide +kernel
theorem dX5_pass_48 : decode cX5_pass 48 = .ok (.getfield 158, 3) := by decide +kernel
theorem dX5_pass_51 : decode cX5_pass 51 = .ok (.ireturn, 1) := by decide +kernel
theorem dX5_beginDay_0 : decode cX5_beginDay 0 = .ok (.aload_n 0, 1) := by decide +kernel
theorem dX5_beginDay_1 : decode cX5_beginDay 1 = .ok (.dup, 1) := by decide +kernel
theorem dX5_beginDay_2 : decode cX5_beginDay 2 = .ok (.getfield 158, 3) := by decide +kernel
theorem dX5_beginDay_5 : decode cX5_beginDay 5 = .ok (.iconst 1, 1) := by decide +kernel
theorem dX5_beginDay_6 : decode cX5_beginDay 6 = .ok (.iadd, 1) := by decide +kernel
theorem dX5_beginDay_7 : decode cX5_beginDay 7 = .ok (.putfield 158, 3) := by decide +kernel
theorem dX5_beginDay_10 : decode cX5_beginDay 10 = .ok (.aload_n 0, 1) := by decide +kernel
theorem dX5_beginDay_11 : decode cX5_beginDay 11 = .ok (.getfield 21, 3) := by decide +kernel
theorem dX5_beginDay_14 : decode cX5_beginDay 14 = .ok (.astore_n 1, 1) := by decide +kernel
theorem dX5_beginDay_15 : decode cX5_beginDay 15 = .ok (.aload_n 1, 1) := by decide +kernel
theorem dX5_beginDay_16 : decode cX5_beginDay 16 = .ok (.arraylength, 1) := by decide +kernel
theorem dX5_beginDay_17 : decode cX5_beginDay 17 = .ok (.istore_n 2, 1) := by decide +kernel
theorem dX5_beginDay_18 : decode cX5_beginDay 18 = .ok (.iconst 0, 1) := by decide +kernel
theorem dX5_beginDay_19 : decode cX5_beginDay 19 = .ok (.istore_n 3, 1) := by decide +kernel
theorem dX5_beginDay_20 : decode cX5_beginDay 20 = .ok (.iload_n 3, 1) := by decide +kernel
theorem dX5_beginDay_21 : decode cX5_beginDay 21 = .ok (.iload_n 2, 1) := by decide +kernel
theorem dX5_beginDay_22 : decode cX5_beginDay 22 = .ok (.if_icmp .ge 28, 3) := by decide +kernel
theorem dX5_beginDay_25 : decode cX5_beginDay 25 = .ok (.aload_n 1, 1) := by decide +kernel
theorem dX5_beginDay_26 : decode cX5_beginDay 26 = .ok (.iload_n 3, 1) := by decide +kernel
theorem dX5_beginDay_27 : decode cX5_beginDay 27 = .ok (.aaload, 1) := by decide +kernel
theorem dX5_beginDay_28 : decode cX5_beginDay 28 = .ok (.astore 4, 2) := by decide +kernel
theorem dX5_beginDay_30 : decode cX5_beginDay 30 = .ok (.aload 4, 2) := by decide +kernel
theorem dX5_beginDay_32 : decode cX5_beginDay 32 = .ok (.ifnull 12, 3) := by decide +kernel
theorem dX5_beginDay_35 : decode cX5_beginDay 35 = .ok (.aload 4, 2) := by decide +kernel
theorem dX5_beginDay_37 : decode cX5_beginDay 37 = .ok (.aload_n 0, 1) := by decide +kernel
theorem dX5_beginDay_38 : decode cX5_beginDay 38 = .ok (.getfield 158, 3) := by decide +kernel
theorem dX5_beginDay_41 : decode cX5_beginDay 41 = .ok (.invokevirtual 176, 3) := by decide +kernel
theorem dX5_beginDay_44 : decode cX5_beginDay 44 = .ok (.iinc 3 1, 3) := by decide +kernel
theorem dX5_beginDay_47 : decode cX5_beginDay 47 = .ok (.goto (-27), 3) := by decide +kernel
theorem dX5_beginDay_50 : decode cX5_beginDay 50 = .ok (.aload_n 0, 1) := by decide +kernel
theorem dX5_beginDay_51 : decode cX5_beginDay 51 = .ok (.getfield 158, 3) := by decide +kernel
theorem dX5_beginDay_54 : decode cX5_beginDay 54 = .ok (.invokestatic 179, 3) := by decide +kernel
theorem dX5_beginDay_57 : decode cX5_beginDay 57 = .ok (.ifCond .eq 7, 3) := by decide +kernel
theorem dX5_beginDay_60 : decode cX5_beginDay 60 = .ok (.aload_n 0, 1) := by decide +kernel
theorem dX5_beginDay_61 : decode cX5_beginDay 61 = .ok (.invokevirtual 182, 3) := by decide +kernel
theorem dX5_beginDay_64 : decode cX5_beginDay 64 = .ok (.return_, 1) := by decide +kernel
theorem dX5_wearVaults_0 : decode cX5_wearVaults 0 = .ok (.aload_n 0, 1) := by decide +kernel
theorem dX5_wearVaults_1 : decode cX5_wearVaults 1 = .ok (.getfield 15, 3) := by decide +kernel
theorem dX5_wearVaults_4 : decode cX5_wearVaults 4 = .ok (.astore_n 1, 1) := by decide +kernel
theorem dX5_wearVaults_5 : decode cX5_wearVaults 5 = .ok (.aload_n 1, 1) := by decide +kernel
theorem dX5_wearVaults_6 : decode cX5_wearVaults 6 = .ok (.arraylength, 1) := by decide +kernel
theorem dX5_wearVaults_7 : decode cX5_wearVaults 7 = .ok (.istore_n 2, 1) := by decide +kernel
theorem dX5_wearVaults_8 : decode cX5_wearVaults 8 = .ok (.iconst 0, 1) := by decide +kernel
theorem dX5_wearVaults_9 : decode cX5_wearVaults 9 = .ok (.istore_n 3, 1) := by decide +kernel
theorem dX5_wearVaults_10 : decode cX5_wearVaults 10 = .ok (.iload_n 3, 1) := by decide +kernel
theorem dX5_wearVaults_11 : decode cX5_wearVaults 11 = .ok (.iload_n 2, 1) := by decide +kernel
theorem dX5_wearVaults_12 : decode cX5_wearVaults 12 = .ok (.if_icmp .ge 55, 3) := by decide +kernel
theorem dX5_wearVaults_15 : decode cX5_wearVaults 15 = .ok (.aload_n 1, 1) := by decide +kernel
theorem dX5_wearVaults_16 : decode cX5_wearVaults 16 = .ok (.iload_n 3, 1) := by decide +kernel
theorem dX5_wearVaults_17 : decode cX5_wearVaults 17 = .ok (.aaload, 1) := by decide +kernel
theorem dX5_wearVaults_18 : decode cX5_wearVaults 18 = .ok (.astore 4, 2) := by decide +kernel
theorem dX5_wearVaults_20 : decode cX5_wearVaults 20 = .ok (.aload 4, 2) := by decide +kernel
theorem dX5_wearVaults_22 : decode cX5_wearVaults 22 = .ok (.ifnull 39, 3) := by decide +kernel
theorem dX5_wearVaults_25 : decode cX5_wearVaults 25 = .ok (.aload 4, 2) := by decide +kernel
theorem dX5_wearVaults_27 : decode cX5_wearVaults 27 = .ok (.getfield 108, 3) := by decide +kernel
theorem dX5_wearVaults_30 : decode cX5_wearVaults 30 = .ok (.getfield 185, 3) := by decide +kernel
theorem dX5_wearVaults_33 : decode cX5_wearVaults 33 = .ok (.sipush 10000, 3) := by decide +kernel
theorem dX5_wearVaults_36 : decode cX5_wearVaults 36 = .ok (.idiv, 1) := by decide +kernel
theorem dX5_wearVaults_37 : decode cX5_wearVaults 37 = .ok (.istore 5, 2) := by decide +kernel
theorem dX5_wearVaults_39 : decode cX5_wearVaults 39 = .ok (.aload 4, 2) := by decide +kernel
theorem dX5_wearVaults_41 : decode cX5_wearVaults 41 = .ok (.getfield 108, 3) := by decide +kernel
theorem dX5_wearVaults_44 : decode cX5_wearVaults 44 = .ok (.iconst 1, 1) := by decide +kernel
theorem dX5_wearVaults_45 : decode cX5_wearVaults 45 = .ok (.iload 5, 2) := by decide +kernel
theorem dX5_wearVaults_47 : decode cX5_wearVaults 47 = .ok (.ineg, 1) := by decide +kernel
theorem dX5_wearVaults_48 : decode cX5_wearVaults 48 = .ok (.invokevirtual 70, 3) := by decide +kernel
theorem dX5_wearVaults_51 : decode cX5_wearVaults 51 = .ok (.aload_n 0, 1) := by decide +kernel
theorem dX5_wearVaults_52 : decode cX5_wearVaults 52 = .ok (.getfield 43, 3) := by decide +kernel
theorem dX5_wearVaults_55 : decode cX5_wearVaults 55 = .ok (.iconst 1, 1) := by decide +kernel
theorem dX5_wearVaults_56 : decode cX5_wearVaults 56 = .ok (.iload 5, 2) := by decide +kernel
theorem dX5_wearVaults_58 : decode cX5_wearVaults 58 = .ok (.invokevirtual 70, 3) := by decide +kernel
theorem dX5_wearVaults_61 : decode cX5_wearVaults 61 = .ok (.iinc 3 1, 3) := by decide +kernel
theorem dX5_wearVaults_64 : decode cX5_wearVaults 64 = .ok (.goto (-54), 3) := by decide +kernel
theorem dX5_wearVaults_67 : decode cX5_wearVaults 67 = .ok (.return_, 1) := by decide +kernel
theorem dX5_owe_0 : decode cX5_owe 0 = .ok (.aload_n 0, 1) := by decide +kernel
theorem dX5_owe_1 : decode cX5_owe 1 = .ok (.iload_n 1, 1) := by decide +kernel
theorem dX5_owe_2 : decode cX5_owe 2 = .ok (.invokevirtual 127, 3) := by decide +kernel
theorem dX5_owe_5 : decode cX5_owe 5 = .ok (.astore 5, 2) := by decide +kernel
theorem dX5_owe_7 : decode cX5_owe 7 = .ok (.aload_n 0, 1) := by decide +kernel
theorem dX5_owe_8 : decode cX5_owe 8 = .ok (.iload_n 2, 1) := by decide +kernel
theorem dX5_owe_9 : decode cX5_owe 9 = .ok (.invokevirtual 127, 3) := by decide +kernel
theorem dX5_owe_12 : decode cX5_owe 12 = .ok (.astore 6, 2) := by decide +kernel
theorem dX5_owe_14 : decode cX5_owe 14 = .ok (.iload_n 1, 1) := by decide +kernel
theorem dX5_owe_15 : decode cX5_owe 15 = .ok (.iload_n 2, 1) := by decide +kernel
theorem dX5_owe_16 : decode cX5_owe 16 = .ok (.invokestatic 95, 3) := by decide +kernel
theorem dX5_owe_19 : decode cX5_owe 19 = .ok (.iload_n 3, 1) := by decide +kernel
theorem dX5_owe_20 : decode cX5_owe 20 = .ok (.iconst 1, 1) := by decide +kernel
theorem dX5_owe_21 : decode cX5_owe 21 = .ok (.sipush 9999, 3) := by decide +kernel
theorem dX5_owe_24 : decode cX5_owe 24 = .ok (.invokestatic 53, 3) := by decide +kernel
theorem dX5_owe_27 : decode cX5_owe 27 = .ok (.iload 4, 2) := by decide +kernel
theorem dX5_owe_29 : decode cX5_owe 29 = .ok (.iconst 0, 1) := by decide +kernel
theorem dX5_owe_30 : decode cX5_owe 30 = .ok (.sipush 1000, 3) := by decide +kernel
theorem dX5_owe_33 : decode cX5_owe 33 = .ok (.invokestatic 53, 3) := by decide +kernel
theorem dX5_owe_36 : decode cX5_owe 36 = .ok (.aload_n 0, 1) := by decide +kernel
theorem dX5_owe_37 : decode cX5_owe 37 = .ok (.getfield 188, 3) := by decide +kernel
theorem dX5_owe_40 : decode cX5_owe 40 = .ok (.aload_n 0, 1) := by decide +kernel
theorem dX5_owe_41 : decode cX5_owe 41 = .ok (.getfield 27, 3) := by decide +kernel
theorem dX5_owe_44 : decode cX5_owe 44 = .ok (.arraylength, 1) := by decide +kernel
theorem dX5_owe_45 : decode cX5_owe 45 = .ok (.if_icmp .lt 13, 3) := by decide +kernel
theorem dX5_owe_48 : decode cX5_owe 48 = .ok (.new 60, 3) := by decide +kernel
theorem dX5_owe_51 : decode cX5_owe 51 = .ok (.dup, 1) := by decide +kernel
theorem dX5_owe_52 : decode cX5_owe 52 = .ok (.ldc 191, 2) := by decide +kernel
theorem dX5_owe_54 : decode cX5_owe 54 = .ok (.invokespecial 64, 3) := by decide +kernel
theorem dX5_owe_57 : decode cX5_owe 57 = .ok (.athrow, 1) := by decide +kernel
theorem dX5_owe_58 : decode cX5_owe 58 = .ok (.aload_n 0, 1) := by decide +kernel
theorem dX5_owe_59 : decode cX5_owe 59 = .ok (.getfield 188, 3) := by decide +kernel
theorem dX5_owe_62 : decode cX5_owe 62 = .ok (.istore 7, 2) := by decide +kernel
theorem dX5_owe_64 : decode cX5_owe 64 = .ok (.aload_n 0, 1) := by decide +kernel
theorem dX5_owe_65 : decode cX5_owe 65 = .ok (.getfield 27, 3) := by decide +kernel
theorem dX5_owe_68 : decode cX5_owe 68 = .ok (.iload 7, 2) := by decide +kernel
theorem dX5_owe_70 : decode cX5_owe 70 = .ok (.new 25, 3) := by decide +kernel
theorem dX5_owe_73 : decode cX5_owe 73 = .ok (.dup, 1) := by decide +kernel
theorem dX5_owe_74 : decode cX5_owe 74 = .ok (.aload 5, 2) := by decide +kernel
theorem dX5_owe_76 : decode cX5_owe 76 = .ok (.aload 6, 2) := by decide +kernel
theorem dX5_owe_78 : decode cX5_owe 78 = .ok (.iload_n 3, 1) := by decide +kernel
theorem dX5_owe_79 : decode cX5_owe 79 = .ok (.aload_n 0, 1) := by decide +kernel
theorem dX5_owe_80 : decode cX5_owe 80 = .ok (.getfield 158, 3) := by decide +kernel
theorem dX5_owe_83 : decode cX5_owe 83 = .ok (.iload 4, 2) := by decide +kernel
theorem dX5_owe_85 : decode cX5_owe 85 = .ok (.iadd, 1) := by decide +kernel
theorem dX5_owe_86 : decode cX5_owe 86 = .ok (.invokespecial 193, 3) := by decide +kernel
theorem dX5_owe_89 : decode cX5_owe 89 = .ok (.aastore, 1) := by decide +kernel
theorem dX5_owe_90 : decode cX5_owe 90 = .ok (.aload_n 0, 1) := by decide +kernel
theorem dX5_owe_91 : decode cX5_owe 91 = .ok (.iload 7, 2) := by decide +kernel
theorem dX5_owe_93 : decode cX5_owe 93 = .ok (.iconst 1, 1) := by decide +kernel
theorem dX5_owe_94 : decode cX5_owe 94 = .ok (.iadd, 1) := by decide +kernel
theorem dX5_owe_95 : decode cX5_owe 95 = .ok (.putfield 188, 3) := by decide +kernel
theorem dX5_owe_98 : decode cX5_owe 98 = .ok (.iload 7, 2) := by decide +kernel
theorem dX5_owe_100 : decode cX5_owe 100 = .ok (.ireturn, 1) := by decide +kernel
theorem dX5_settle_0 : decode cX5_settle 0 = .ok (.aload_n 0, 1) := by decide +kernel
theorem dX5_settle_1 : decode cX5_settle 1 = .ok (.iload_n 1, 1) := by decide +kernel
theorem dX5_settle_2 : decode cX5_settle 2 = .ok (.invokevirtual 196, 3) := by decide +kernel
theorem dX5_settle_5 : decode cX5_settle 5 = .ok (.astore_n 3, 1) := by decide +kernel
theorem dX5_settle_6 : decode cX5_settle 6 = .ok (.iload_n 2, 1) := by decide +kernel
theorem dX5_settle_7 : decode cX5_settle 7 = .ok (.invokestatic 83, 3) := by decide +kernel
theorem dX5_settle_10 : decode cX5_settle 10 = .ok (.aload_n 3, 1) := by decide +kernel
theorem dX5_settle_11 : decode cX5_settle 11 = .ok (.getfield 200, 3) := by decide +kernel
theorem dX5_settle_14 : decode cX5_settle 14 = .ok (.getfield 131, 3) := by decide +kernel
theorem dX5_settle_17 : decode cX5_settle 17 = .ok (.astore 4, 2) := by decide +kernel
theorem dX5_settle_19 : decode cX5_settle 19 = .ok (.aload_n 3, 1) := by decide +kernel
theorem dX5_settle_20 : decode cX5_settle 20 = .ok (.getfield 204, 3) := by decide +kernel
theorem dX5_settle_23 : decode cX5_settle 23 = .ok (.ifCond .ne 18, 3) := by decide +kernel
theorem dX5_settle_26 : decode cX5_settle 26 = .ok (.aload 4, 2) := by decide +kernel
theorem dX5_settle_28 : decode cX5_settle 28 = .ok (.ifnull 13, 3) := by decide +kernel
theorem dX5_settle_31 : decode cX5_settle 31 = .ok (.aload_n 3, 1) := by decide +kernel
theorem dX5_settle_32 : decode cX5_settle 32 = .ok (.getfield 208, 3) := by decide +kernel
theorem dX5_settle_35 : decode cX5_settle 35 = .ok (.getfield 131, 3) := by decide +kernel
theorem dX5_settle_38 : decode cX5_settle 38 = .ok (.ifnonnull 13, 3) := by decide +kernel
theorem dX5_settle_41 : decode cX5_settle 41 = .ok (.new 60, 3) := by decide +kernel
theorem dX5_settle_44 : decode cX5_settle 44 = .ok (.dup, 1) := by decide +kernel
theorem dX5_settle_45 : decode cX5_settle 45 = .ok (.ldc 211, 2) := by decide +kernel
theorem dX5_settle_47 : decode cX5_settle 47 = .ok (.invokespecial 64, 3) := by decide +kernel
theorem dX5_settle_50 : decode cX5_settle 50 = .ok (.athrow, 1) := by decide +kernel
theorem dX5_settle_51 : decode cX5_settle 51 = .ok (.aload_n 3, 1) := by decide +kernel
theorem dX5_settle_52 : decode cX5_settle 52 = .ok (.aload_n 0, 1) := by decide +kernel
theorem dX5_settle_53 : decode cX5_settle 53 = .ok (.getfield 158, 3) := by decide +kernel
theorem dX5_settle_56 : decode cX5_settle 56 = .ok (.invokevirtual 213, 3) := by decide +kernel
theorem dX5_settle_59 : decode cX5_settle 59 = .ok (.istore 5, 2) := by decide +kernel
theorem dX5_settle_61 : decode cX5_settle 61 = .ok (.iload_n 2, 1) := by decide +kernel
theorem dX5_settle_62 : decode cX5_settle 62 = .ok (.ifCond .ne 13, 3) := by decide +kernel
theorem dX5_settle_65 : decode cX5_settle 65 = .ok (.aload 4, 2) := by decide +kernel
theorem dX5_settle_67 : decode cX5_settle 67 = .ok (.iload 5, 2) := by decide +kernel
theorem dX5_settle_69 : decode cX5_settle 69 = .ok (.invokevirtual 216, 3) := by decide +kernel
theorem dX5_settle_72 : decode cX5_settle 72 = .ok (.goto 5, 3) := by decide +kernel
theorem dX5_settle_75 : decode cX5_settle 75 = .ok (.iload 5, 2) := by decide +kernel
theorem dX5_settle_77 : decode cX5_settle 77 = .ok (.istore 6, 2) := by decide +kernel
theorem dX5_settle_79 : decode cX5_settle 79 = .ok (.aload_n 3, 1) := by decide +kernel
theorem dX5_settle_80 : decode cX5_settle 80 = .ok (.getfield 200, 3) := by decide +kernel
theorem dX5_settle_83 : decode cX5_settle 83 = .ok (.getfield 135, 3) := by decide +kernel
theorem dX5_settle_86 : decode cX5_settle 86 = .ok (.iload_n 2, 1) := by decide +kernel
theorem dX5_settle_87 : decode cX5_settle 87 = .ok (.invokevirtual 111, 3) := by decide +kernel
theorem dX5_settle_90 : decode cX5_settle 90 = .ok (.iload 6, 2) := by decide +kernel
theorem dX5_settle_92 : decode cX5_settle 92 = .ok (.if_icmp .ge 13, 3) := by decide +kernel
theorem dX5_settle_95 : decode cX5_settle 95 = .ok (.new 60, 3) := by decide +kernel
theorem dX5_settle_98 : decode cX5_settle 98 = .ok (.dup, 1) := by decide +kernel
theorem dX5_settle_99 : decode cX5_settle 99 = .ok (.ldc 219, 2) := by decide +kernel
theorem dX5_settle_101 : decode cX5_settle 101 = .ok (.invokespecial 64, 3) := by decide +kernel
theorem dX5_settle_104 : decode cX5_settle 104 = .ok (.athrow, 1) := by decide +kernel
theorem dX5_settle_105 : decode cX5_settle 105 = .ok (.aload_n 3, 1) := by decide +kernel
theorem dX5_settle_106 : decode cX5_settle 106 = .ok (.getfield 200, 3) := by decide +kernel
theorem dX5_settle_109 : decode cX5_settle 109 = .ok (.getfield 135, 3) := by decide +kernel
theorem dX5_settle_112 : decode cX5_settle 112 = .ok (.iload_n 2, 1) := by decide +kernel
theorem dX5_settle_113 : decode cX5_settle 113 = .ok (.iload 6, 2) := by decide +kernel
theorem dX5_settle_115 : decode cX5_settle 115 = .ok (.ineg, 1) := by decide +kernel
theorem dX5_settle_116 : decode cX5_settle 116 = .ok (.invokevirtual 70, 3) := by decide +kernel
theorem dX5_settle_119 : decode cX5_settle 119 = .ok (.aload_n 3, 1) := by decide +kernel
theorem dX5_settle_120 : decode cX5_settle 120 = .ok (.getfield 208, 3) := by decide +kernel
theorem dX5_settle_123 : decode cX5_settle 123 = .ok (.getfield 135, 3) := by decide +kernel
theorem dX5_settle_126 : decode cX5_settle 126 = .ok (.iload_n 2, 1) := by decide +kernel
theorem dX5_settle_127 : decode cX5_settle 127 = .ok (.iload 6, 2) := by decide +kernel
theorem dX5_settle_129 : decode cX5_settle 129 = .ok (.invokevirtual 70, 3) := by decide +kernel
theorem dX5_settle_132 : decode cX5_settle 132 = .ok (.aload_n 3, 1) := by decide +kernel
theorem dX5_settle_133 : decode cX5_settle 133 = .ok (.iconst 1, 1) := by decide +kernel
theorem dX5_settle_134 : decode cX5_settle 134 = .ok (.putfield 204, 3) := by decide +kernel
theorem dX5_settle_137 : decode cX5_settle 137 = .ok (.iload 6, 2) := by decide +kernel
theorem dX5_settle_139 : decode cX5_settle 139 = .ok (.ireturn, 1) := by decide +kernel
theorem dX5_till_0 : decode cX5_till 0 = .ok (.aload_n 0, 1) := by decide +kernel
theorem dX5_till_1 : decode cX5_till 1 = .ok (.iload_n 1, 1) := by decide +kernel
theorem dX5_till_2 : decode cX5_till 2 = .ok (.invokevirtual 73, 3) := by decide +kernel
theorem dX5_till_5 : decode cX5_till 5 = .ok (.getfield 221, 3) := by decide +kernel
theorem dX5_till_8 : decode cX5_till 8 = .ok (.astore 4, 2) := by decide +kernel
theorem dX5_till_10 : decode cX5_till 10 = .ok (.iload_n 2, 1) := by decide +kernel
theorem dX5_till_11 : decode cX5_till 11 = .ok (.ifCond .lt 8, 3) := by decide +kernel
theorem dX5_till_14 : decode cX5_till 14 = .ok (.iload_n 2, 1) := by decide +kernel
theorem dX5_till_15 : decode cX5_till 15 = .ok (.iconst 5, 1) := by decide +kernel
theorem dX5_till_16 : decode cX5_till 16 = .ok (.if_icmp .lt 13, 3) := by decide +kernel
theorem dX5_till_19 : decode cX5_till 19 = .ok (.new 225, 3) := by decide +kernel
theorem dX5_till_22 : decode cX5_till 22 = .ok (.dup, 1) := by decide +kernel
theorem dX5_till_23 : decode cX5_till 23 = .ok (.ldc 227, 2) := by decide +kernel
theorem dX5_till_25 : decode cX5_till 25 = .ok (.invokespecial 229, 3) := by decide +kernel
theorem dX5_till_28 : decode cX5_till 28 = .ok (.athrow, 1) := by decide +kernel
theorem dX5_till_29 : decode cX5_till 29 = .ok (.iload_n 3, 1) := by decide +kernel
theorem dX5_till_30 : decode cX5_till 30 = .ok (.iconst 0, 1) := by decide +kernel
theorem dX5_till_31 : decode cX5_till 31 = .ok (.bipush 9, 2) := by decide +kernel
theorem dX5_till_33 : decode cX5_till 33 = .ok (.invokestatic 53, 3) := by decide +kernel
theorem dX5_till_36 : decode cX5_till 36 = .ok (.aload 4, 2) := by decide +kernel
theorem dX5_till_38 : decode cX5_till 38 = .ok (.iload_n 2, 1) := by decide +kernel
theorem dX5_till_39 : decode cX5_till 39 = .ok (.invokevirtual 230, 3) := by decide +kernel
theorem dX5_till_42 : decode cX5_till 42 = .ok (.istore 5, 2) := by decide +kernel
theorem dX5_till_44 : decode cX5_till 44 = .ok (.aload 4, 2) := by decide +kernel
theorem dX5_till_46 : decode cX5_till 46 = .ok (.iload_n 2, 1) := by decide +kernel
theorem dX5_till_47 : decode cX5_till 47 = .ok (.iload_n 3, 1) := by decide +kernel
theorem dX5_till_48 : decode cX5_till 48 = .ok (.invokevirtual 235, 3) := by decide +kernel
theorem dX5_till_51 : decode cX5_till 51 = .ok (.iload 5, 2) := by decide +kernel
theorem dX5_till_53 : decode cX5_till 53 = .ok (.ireturn, 1) := by decide +kernel
theorem dX5_give_0 : decode cX5_give 0 = .ok (.aload_n 0, 1) := by decide +kernel
theorem dX5_give_1 : decode cX5_give 1 = .ok (.iload_n 1, 1) := by decide +kernel
theorem dX5_give_2 : decode cX5_give 2 = .ok (.invokevirtual 73, 3) := by decide +kernel
theorem dX5_give_5 : decode cX5_give 5 = .ok (.getfield 221, 3) := by decide +kernel
theorem dX5_give_8 : decode cX5_give 8 = .ok (.astore_n 3, 1) := by decide +kernel
theorem dX5_give_9 : decode cX5_give 9 = .ok (.iload_n 2, 1) := by decide +kernel
theorem dX5_give_10 : decode cX5_give 10 = .ok (.iconst 1, 1) := by decide +kernel
theorem dX5_give_11 : decode cX5_give 11 = .ok (.sipush 400, 3) := by decide +kernel
theorem dX5_give_14 : decode cX5_give 14 = .ok (.invokestatic 53, 3) := by decide +kernel
theorem dX5_give_17 : decode cX5_give 17 = .ok (.aload_n 3, 1) := by decide +kernel
theorem dX5_give_18 : decode cX5_give 18 = .ok (.iload_n 2, 1) := by decide +kernel
theorem dX5_give_19 : decode cX5_give 19 = .ok (.invokevirtual 238, 3) := by decide +kernel
theorem dX5_give_22 : decode cX5_give 22 = .ok (.istore 4, 2) := by decide +kernel
theorem dX5_give_24 : decode cX5_give 24 = .ok (.iload 4, 2) := by decide +kernel
theorem dX5_give_26 : decode cX5_give 26 = .ok (.iconst (-1), 1) := by decide +kernel
theorem dX5_give_27 : decode cX5_give 27 = .ok (.if_icmp .ne 13, 3) := by decide +kernel
theorem dX5_give_30 : decode cX5_give 30 = .ok (.new 60, 3) := by decide +kernel
theorem dX5_give_33 : decode cX5_give 33 = .ok (.dup, 1) := by decide +kernel
theorem dX5_give_34 : decode cX5_give 34 = .ok (.ldc 241, 2) := by decide +kernel
theorem dX5_give_36 : decode cX5_give 36 = .ok (.invokespecial 64, 3) := by decide +kernel
theorem dX5_give_39 : decode cX5_give 39 = .ok (.athrow, 1) := by decide +kernel
theorem dX5_give_40 : decode cX5_give 40 = .ok (.aload_n 3, 1) := by decide +kernel
theorem dX5_give_41 : decode cX5_give 41 = .ok (.iload 4, 2) := by decide +kernel
theorem dX5_give_43 : decode cX5_give 43 = .ok (.invokevirtual 243, 3) := by decide +kernel
theorem dX5_give_46 : decode cX5_give 46 = .ok (.ireturn, 1) := by decide +kernel
theorem dX5_coins_0 : decode cX5_coins 0 = .ok (.aload_n 0, 1) := by decide +kernel
theorem dX5_coins_1 : decode cX5_coins 1 = .ok (.iload_n 1, 1) := by decide +kernel
theorem dX5_coins_2 : decode cX5_coins 2 = .ok (.invokevirtual 73, 3) := by decide +kernel
theorem dX5_coins_5 : decode cX5_coins 5 = .ok (.getfield 221, 3) := by decide +kernel
theorem dX5_coins_8 : decode cX5_coins 8 = .ok (.astore_n 3, 1) := by decide +kernel
theorem dX5_coins_9 : decode cX5_coins 9 = .ok (.iload_n 2, 1) := by decide +kernel
theorem dX5_coins_10 : decode cX5_coins 10 = .ok (.iconst 1, 1) := by decide +kernel
theorem dX5_coins_11 : decode cX5_coins 11 = .ok (.sipush 400, 3) := by decide +kernel
theorem dX5_coins_14 : decode cX5_coins 14 = .ok (.invokestatic 53, 3) := by decide +kernel
theorem dX5_coins_17 : decode cX5_coins 17 = .ok (.aload_n 3, 1) := by decide +kernel
theorem dX5_coins_18 : decode cX5_coins 18 = .ok (.iload_n 2, 1) := by decide +kernel
theorem dX5_coins_19 : decode cX5_coins 19 = .ok (.invokevirtual 238, 3) := by decide +kernel
theorem dX5_coins_22 : decode cX5_coins 22 = .ok (.ireturn, 1) := by decide +kernel
theorem dX5_ofCountry_0 : decode cX5_ofCountry 0 = .ok (.aload_n 0, 1) := by decide +kernel
theorem dX5_ofCountry_1 : decode cX5_ofCountry 1 = .ok (.iload_n 1, 1) := by decide +kernel
theorem dX5_ofCountry_2 : decode cX5_ofCountry 2 = .ok (.invokevirtual 73, 3) := by decide +kernel
theorem dX5_ofCountry_5 : decode cX5_ofCountry 5 = .ok (.astore_n 3, 1) := by decide +kernel
theorem dX5_ofCountry_6 : decode cX5_ofCountry 6 = .ok (.iload_n 2, 1) := by decide +kernel
theorem dX5_ofCountry_7 : decode cX5_ofCountry 7 = .ok (.iconst 0, 1) := by decide +kernel
theorem dX5_ofCountry_8 : decode cX5_ofCountry 8 = .ok (.bipush 8, 2) := by decide +kernel
theorem dX5_ofCountry_10 : decode cX5_ofCountry 10 = .ok (.invokestatic 53, 3) := by decide +kernel
theorem dX5_ofCountry_13 : decode cX5_ofCountry 13 = .ok (.aload_n 0, 1) := by decide +kernel
theorem dX5_ofCountry_14 : decode cX5_ofCountry 14 = .ok (.aload_n 3, 1) := by decide +kernel
theorem dX5_ofCountry_15 : decode cX5_ofCountry 15 = .ok (.iload_n 2, 1) := by decide +kernel
theorem dX5_ofCountry_16 : decode cX5_ofCountry 16 = .ok (.invokevirtual 246, 3) := by decide +kernel
theorem dX5_ofCountry_19 : decode cX5_ofCountry 19 = .ok (.ireturn, 1) := by decide +kernel
theorem dX5_countryFact_0 : decode cX5_countryFact 0 = .ok (.iload_n 2, 1) := by decide +kernel
theorem dX5_countryFact_1 : decode cX5_countryFact 1 = .ok (.tableswitch 104 0 7 #[47, 52, 57, 65, 73, 78, 84, 96], 47) := by decide +kernel
theorem dX5_countryFact_48 : decode cX5_countryFact 48 = .ok (.aload_n 1, 1) := by decide +kernel
theorem dX5_countryFact_49 : decode cX5_countryFact 49 = .ok (.getfield 77, 3) := by decide +kernel
theorem dX5_countryFact_52 : decode cX5_countryFact 52 = .ok (.ireturn, 1) := by decide +kernel
theorem dX5_countryFact_53 : decode cX5_countryFact 53 = .ok (.aload_n 1, 1) := by decide +kernel
theorem dX5_countryFact_54 : decode cX5_countryFact 54 = .ok (.getfield 80, 3) := by decide +kernel
theorem dX5_countryFact_57 : decode cX5_countryFact 57 = .ok (.ireturn, 1) := by decide +kernel
theorem dX5_countryFact_58 : decode cX5_countryFact 58 = .ok (.aload_n 1, 1) := by decide +kernel
theorem dX5_countryFact_59 : decode cX5_countryFact 59 = .ok (.getfield 108, 3) := by decide +kernel
theorem dX5_countryFact_62 : decode cX5_countryFact 62 = .ok (.getfield 250, 3) := by decide +kernel
theorem dX5_countryFact_65 : decode cX5_countryFact 65 = .ok (.ireturn, 1) := by decide +kernel
theorem dX5_countryFact_66 : decode cX5_countryFact 66 = .ok (.aload_n 1, 1) := by decide +kernel
theorem dX5_countryFact_67 : decode cX5_countryFact 67 = .ok (.getfield 108, 3) := by decide +kernel
theorem dX5_countryFact_70 : decode cX5_countryFact 70 = .ok (.getfield 185, 3) := by decide +kernel
theorem dX5_countryFact_73 : decode cX5_countryFact 73 = .ok (.ireturn, 1) := by decide +kernel
theorem dX5_countryFact_74 : decode cX5_countryFact 74 = .ok (.aload_n 1, 1) := by decide +kernel
theorem dX5_countryFact_75 : decode cX5_countryFact 75 = .ok (.invokevirtual 253, 3) := by decide +kernel
theorem dX5_countryFact_78 : decode cX5_countryFact 78 = .ok (.ireturn, 1) := by decide +kernel
theorem dX5_countryFact_79 : decode cX5_countryFact 79 = .ok (.aload_n 0, 1) := by decide +kernel
theorem dX5_countryFact_80 : decode cX5_countryFact 80 = .ok (.aload_n 1, 1) := by decide +kernel
theorem dX5_countryFact_81 : decode cX5_countryFact 81 = .ok (.invokevirtual 257, 3) := by decide +kernel
theorem dX5_countryFact_84 : decode cX5_countryFact 84 = .ok (.ireturn, 1) := by decide +kernel
theorem dX5_countryFact_85 : decode cX5_countryFact 85 = .ok (.aload_n 1, 1) := by decide +kernel
theorem dX5_countryFact_86 : decode cX5_countryFact 86 = .ok (.getfield 108, 3) := by decide +kernel
theorem dX5_countryFact_89 : decode cX5_countryFact 89 = .ok (.aload_n 0, 1) := by decide +kernel
theorem dX5_countryFact_90 : decode cX5_countryFact 90 = .ok (.getfield 9, 3) := by decide +kernel
theorem dX5_countryFact_93 : decode cX5_countryFact 93 = .ok (.invokevirtual 261, 3) := by decide +kernel
theorem dX5_countryFact_96 : decode cX5_countryFact 96 = .ok (.ireturn, 1) := by decide +kernel
theorem dX5_countryFact_97 : decode cX5_countryFact 97 = .ok (.aload_n 1, 1) := by decide +kernel
theorem dX5_countryFact_98 : decode cX5_countryFact 98 = .ok (.getfield 221, 3) := by decide +kernel
theorem dX5_countryFact_101 : decode cX5_countryFact 101 = .ok (.invokevirtual 264, 3) := by decide +kernel
theorem dX5_countryFact_104 : decode cX5_countryFact 104 = .ok (.ireturn, 1) := by decide +kernel
theorem dX5_countryFact_105 : decode cX5_countryFact 105 = .ok (.aload_n 0, 1) := by decide +kernel
theorem dX5_countryFact_106 : decode cX5_countryFact 106 = .ok (.aload_n 1, 1) := by decide +kernel
theorem dX5_countryFact_107 : decode cX5_countryFact 107 = .ok (.getfield 77, 3) := by decide +kernel
theorem dX5_countryFact_110 : decode cX5_countryFact 110 = .ok (.invokevirtual 267, 3) := by decide +kernel
theorem dX5_countryFact_113 : decode cX5_countryFact 113 = .ok (.ireturn, 1) := by decide +kernel
theorem dX5_housesIn_0 : decode cX5_housesIn 0 = .ok (.iconst 0, 1) := by decide +kernel
theorem dX5_housesIn_1 : decode cX5_housesIn 1 = .ok (.istore_n 2, 1) := by decide +kernel
theorem dX5_housesIn_2 : decode cX5_housesIn 2 = .ok (.aload_n 0, 1) := by decide +kernel
theorem dX5_housesIn_3 : decode cX5_housesIn 3 = .ok (.getfield 21, 3) := by decide +kernel
theorem dX5_housesIn_6 : decode cX5_housesIn 6 = .ok (.astore_n 3, 1) := by decide +kernel
theorem dX5_housesIn_7 : decode cX5_housesIn 7 = .ok (.aload_n 3, 1) := by decide +kernel
theorem dX5_housesIn_8 : decode cX5_housesIn 8 = .ok (.arraylength, 1) := by decide +kernel
theorem dX5_housesIn_9 : decode cX5_housesIn 9 = .ok (.istore 4, 2) := by decide +kernel
theorem dX5_housesIn_11 : decode cX5_housesIn 11 = .ok (.iconst 0, 1) := by decide +kernel
theorem dX5_housesIn_12 : decode cX5_housesIn 12 = .ok (.istore 5, 2) := by decide +kernel
theorem dX5_housesIn_14 : decode cX5_housesIn 14 = .ok (.iload 5, 2) := by decide +kernel
theorem dX5_housesIn_16 : decode cX5_housesIn 16 = .ok (.iload 4, 2) := by decide +kernel
theorem dX5_housesIn_18 : decode cX5_housesIn 18 = .ok (.if_icmp .ge 32, 3) := by decide +kernel
theorem dX5_housesIn_21 : decode cX5_housesIn 21 = .ok (.aload_n 3, 1) := by decide +kernel
theorem dX5_housesIn_22 : decode cX5_housesIn 22 = .ok (.iload 5, 2) := by decide +kernel
theorem dX5_housesIn_24 : decode cX5_housesIn 24 = .ok (.aaload, 1) := by decide +kernel
theorem dX5_housesIn_25 : decode cX5_housesIn 25 = .ok (.astore 6, 2) := by decide +kernel
theorem dX5_housesIn_27 : decode cX5_housesIn 27 = .ok (.aload 6, 2) := by decide +kernel
theorem dX5_housesIn_29 : decode cX5_housesIn 29 = .ok (.ifnull 15, 3) := by decide +kernel
theorem dX5_housesIn_32 : decode cX5_housesIn 32 = .ok (.aload 6, 2) := by decide +kernel
theorem dX5_housesIn_34 : decode cX5_housesIn 34 = .ok (.getfield 131, 3) := by decide +kernel
theorem dX5_housesIn_37 : decode cX5_housesIn 37 = .ok (.aload_n 1, 1) := by decide +kernel
theorem dX5_housesIn_38 : decode cX5_housesIn 38 = .ok (.if_acmp .ne 6, 3) := by decide +kernel
theorem dX5_housesIn_41 : decode cX5_housesIn 41 = .ok (.iinc 2 1, 3) := by decide +kernel
theorem dX5_housesIn_44 : decode cX5_housesIn 44 = .ok (.iinc 5 1, 3) := by decide +kernel
theorem dX5_housesIn_47 : decode cX5_housesIn 47 = .ok (.goto (-33), 3) := by decide +kernel
theorem dX5_housesIn_50 : decode cX5_housesIn 50 = .ok (.iload_n 2, 1) := by decide +kernel
theorem dX5_housesIn_51 : decode cX5_housesIn 51 = .ok (.ireturn, 1) := by decide +kernel
theorem dX5_countriesWithRate_0 : decode cX5_countriesWithRate 0 = .ok (.iconst 0, 1) := by decide +kernel
theorem dX5_countriesWithRate_1 : decode cX5_countriesWithRate 1 = .ok (.istore_n 2, 1) := by decide +kernel
theorem dX5_countriesWithRate_2 : decode cX5_countriesWithRate 2 = .ok (.aload_n 0, 1) := by decide +kernel
theorem dX5_countriesWithRate_3 : decode cX5_countriesWithRate 3 = .ok (.getfield 15, 3) := by decide +kernel
theorem dX5_countriesWithRate_6 : decode cX5_countriesWithRate 6 = .ok (.astore_n 3, 1) := by decide +kernel
theorem dX5_countriesWithRate_7 : decode cX5_countriesWithRate 7 = .ok (.aload_n 3, 1) := by decide +kernel
theorem dX5_countriesWithRate_8 : decode cX5_countriesWithRate 8 = .ok (.arraylength, 1) := by decide +kernel
theorem dX5_countriesWithRate_9 : decode cX5_countriesWithRate 9 = .ok (.istore 4, 2) := by decide +kernel
theorem dX5_countriesWithRate_11 : decode cX5_countriesWithRate 11 = .ok (.iconst 0, 1) := by decide +kernel
theorem dX5_countriesWithRate_12 : decode cX5_countriesWithRate 12 = .ok (.istore 5, 2) := by decide +kernel
theorem dX5_countriesWithRate_14 : decode cX5_countriesWithRate 14 = .ok (.iload 5, 2) := by decide +kernel
theorem dX5_countriesWithRate_16 : decode cX5_countriesWithRate 16 = .ok (.iload 4, 2) := by decide +kernel
theorem dX5_countriesWithRate_18 : decode cX5_countriesWithRate 18 = .ok (.if_icmp .ge 32, 3) := by decide +kernel
theorem dX5_countriesWithRate_21 : decode cX5_countriesWithRate 21 = .ok (.aload_n 3, 1) := by decide +kernel
theorem dX5_countriesWithRate_22 : decode cX5_countriesWithRate 22 = .ok (.iload 5, 2) := by decide +kernel
theorem dX5_countriesWithRate_24 : decode cX5_countriesWithRate 24 = .ok (.aaload, 1) := by decide +kernel
theorem dX5_countriesWithRate_25 : decode cX5_countriesWithRate 25 = .ok (.astore 6, 2) := by decide +kernel
theorem dX5_countriesWithRate_27 : decode cX5_countriesWithRate 27 = .ok (.aload 6, 2) := by decide +kernel
theorem dX5_countriesWithRate_29 : decode cX5_countriesWithRate 29 = .ok (.ifnull 15, 3) := by decide +kernel
theorem dX5_countriesWithRate_32 : decode cX5_countriesWithRate 32 = .ok (.aload 6, 2) := by decide +kernel
theorem dX5_countriesWithRate_34 : decode cX5_countriesWithRate 34 = .ok (.getfield 77, 3) := by decide +kernel
theorem dX5_countriesWithRate_37 : decode cX5_countriesWithRate 37 = .ok (.iload_n 1, 1) := by decide +kernel
theorem dX5_countriesWithRate_38 : decode cX5_countriesWithRate 38 = .ok (.if_icmp .ne 6, 3) := by decide +kernel
theorem dX5_countriesWithRate_41 : decode cX5_countriesWithRate 41 = .ok (.iinc 2 1, 3) := by decide +kernel
theorem dX5_countriesWithRate_44 : decode cX5_countriesWithRate 44 = .ok (.iinc 5 1, 3) := by decide +kernel
theorem dX5_countriesWithRate_47 : decode cX5_countriesWithRate 47 = .ok (.goto (-33), 3) := by decide +kernel
theorem dX5_countriesWithRate_50 : decode cX5_countriesWithRate 50 = .ok (.iload_n 2, 1) := by decide +kernel
theorem dX5_countriesWithRate_51 : decode cX5_countriesWithRate 51 = .ok (.ireturn, 1) := by decide +kernel
theorem dX5_ofHouse_0 : decode cX5_ofHouse 0 = .ok (.aload_n 0, 1) := by decide +kernel
theorem dX5_ofHouse_1 : decode cX5_ofHouse 1 = .ok (.iload_n 1, 1) := by decide +kernel
theorem dX5_ofHouse_2 : decode cX5_ofHouse 2 = .ok (.invokevirtual 127, 3) := by decide +kernel
theorem dX5_ofHouse_5 : decode cX5_ofHouse 5 = .ok (.astore_n 3, 1) := by decide +kernel
theorem dX5_ofHouse_6 : decode cX5_ofHouse 6 = .ok (.iload_n 2, 1) := by decide +kernel
theorem dX5_ofHouse_7 : decode cX5_ofHouse 7 = .ok (.iconst 0, 1) := by decide +kernel
theorem dX5_ofHouse_8 : decode cX5_ofHouse 8 = .ok (.bipush 7, 2) := by decide +kernel
theorem dX5_ofHouse_10 : decode cX5_ofHouse 10 = .ok (.invokestatic 53, 3) := by decide +kernel
theorem dX5_ofHouse_13 : decode cX5_ofHouse 13 = .ok (.aload_n 0, 1) := by decide +kernel
theorem dX5_ofHouse_14 : decode cX5_ofHouse 14 = .ok (.aload_n 3, 1) := by decide +kernel
theorem dX5_ofHouse_15 : decode cX5_ofHouse 15 = .ok (.iload_n 2, 1) := by decide +kernel
theorem dX5_ofHouse_16 : decode cX5_ofHouse 16 = .ok (.invokevirtual 270, 3) := by decide +kernel
theorem dX5_ofHouse_19 : decode cX5_ofHouse 19 = .ok (.ireturn, 1) := by decide +kernel
theorem dX5_houseFact_0 : decode cX5_houseFact 0 = .ok (.iload_n 2, 1) := by decide +kernel
theorem dX5_houseFact_1 : decode cX5_houseFact 1 = .ok (.tableswitch 98 0 6 #[43, 51, 59, 64, 72, 80, 92], 43) := by decide +kernel
theorem dX5_houseFact_44 : decode cX5_houseFact 44 = .ok (.aload_n 1, 1) := by decide +kernel
theorem dX5_houseFact_45 : decode cX5_houseFact 45 = .ok (.getfield 131, 3) := by decide +kernel
theorem dX5_houseFact_48 : decode cX5_houseFact 48 = .ok (.invokestatic 274, 3) := by decide +kernel
theorem dX5_houseFact_51 : decode cX5_houseFact 51 = .ok (.ireturn, 1) := by decide +kernel
theorem dX5_houseFact_52 : decode cX5_houseFact 52 = .ok (.aload_n 1, 1) := by decide +kernel
theorem dX5_houseFact_53 : decode cX5_houseFact 53 = .ok (.getfield 277, 3) := by decide +kernel
theorem dX5_houseFact_56 : decode cX5_houseFact 56 = .ok (.invokestatic 274, 3) := by decide +kernel
theorem dX5_houseFact_59 : decode cX5_houseFact 59 = .ok (.ireturn, 1) := by decide +kernel
theorem dX5_houseFact_60 : decode cX5_houseFact 60 = .ok (.aload_n 1, 1) := by decide +kernel
theorem dX5_houseFact_61 : decode cX5_houseFact 61 = .ok (.getfield 165, 3) := by decide +kernel
theorem dX5_houseFact_64 : decode cX5_houseFact 64 = .ok (.ireturn, 1) := by decide +kernel
theorem dX5_houseFact_65 : decode cX5_houseFact 65 = .ok (.aload_n 1, 1) := by decide +kernel
theorem dX5_houseFact_66 : decode cX5_houseFact 66 = .ok (.getfield 135, 3) := by decide +kernel
theorem dX5_houseFact_69 : decode cX5_houseFact 69 = .ok (.getfield 250, 3) := by decide +kernel
theorem dX5_houseFact_72 : decode cX5_houseFact 72 = .ok (.ireturn, 1) := by decide +kernel
theorem dX5_houseFact_73 : decode cX5_houseFact 73 = .ok (.aload_n 1, 1) := by decide +kernel
theorem dX5_houseFact_74 : decode cX5_houseFact 74 = .ok (.getfield 135, 3) := by decide +kernel
theorem dX5_houseFact_77 : decode cX5_houseFact 77 = .ok (.getfield 185, 3) := by decide +kernel
theorem dX5_houseFact_80 : decode cX5_houseFact 80 = .ok (.ireturn, 1) := by decide +kernel
theorem dX5_houseFact_81 : decode cX5_houseFact 81 = .ok (.aload_n 1, 1) := by decide +kernel
theorem dX5_houseFact_82 : decode cX5_houseFact 82 = .ok (.getfield 135, 3) := by decide +kernel
theorem dX5_houseFact_85 : decode cX5_houseFact 85 = .ok (.aload_n 0, 1) := by decide +kernel
theorem dX5_houseFact_86 : decode cX5_houseFact 86 = .ok (.getfield 9, 3) := by decide +kernel
theorem dX5_houseFact_89 : decode cX5_houseFact 89 = .ok (.invokevirtual 261, 3) := by decide +kernel
theorem dX5_houseFact_92 : decode cX5_houseFact 92 = .ok (.ireturn, 1) := by decide +kernel
theorem dX5_houseFact_93 : decode cX5_houseFact 93 = .ok (.aload_n 0, 1) := by decide +kernel
theorem dX5_houseFact_94 : decode cX5_houseFact 94 = .ok (.aload_n 1, 1) := by decide +kernel
theorem dX5_houseFact_95 : decode cX5_houseFact 95 = .ok (.invokevirtual 280, 3) := by decide +kernel
theorem dX5_houseFact_98 : decode cX5_houseFact 98 = .ok (.ireturn, 1) := by decide +kernel
theorem dX5_houseFact_99 : decode cX5_houseFact 99 = .ok (.aload_n 0, 1) := by decide +kernel
theorem dX5_houseFact_100 : decode cX5_houseFact 100 = .ok (.aload_n 1, 1) := by decide +kernel
theorem dX5_houseFact_101 : decode cX5_houseFact 101 = .ok (.invokevirtual 284, 3) := by decide +kernel
theorem dX5_houseFact_104 : decode cX5_houseFact 104 = .ok (.ireturn, 1) := by decide +kernel
theorem dX5_numberOf_0 : decode cX5_numberOf 0 = .ok (.aload_n 0, 1) := by decide +kernel
theorem dX5_numberOf_1 : decode cX5_numberOf 1 = .ok (.ifnonnull 7, 3) := by decide +kernel
theorem dX5_numberOf_4 : decode cX5_numberOf 4 = .ok (.iconst (-1), 1) := by decide +kernel
theorem dX5_numberOf_5 : decode cX5_numberOf 5 = .ok (.goto 7, 3) := by decide +kernel
theorem dX5_numberOf_8 : decode cX5_numberOf 8 = .ok (.aload_n 0, 1) := by decide +kernel
theorem dX5_numberOf_9 : decode cX5_numberOf 9 = .ok (.getfield 98, 3) := by decide +kernel
theorem dX5_numberOf_12 : decode cX5_numberOf 12 = .ok (.ireturn, 1) := by decide +kernel
theorem dX5_unpaidDebtsOf_0 : decode cX5_unpaidDebtsOf 0 = .ok (.iconst 0, 1) := by decide +kernel
theorem dX5_unpaidDebtsOf_1 : decode cX5_unpaidDebtsOf 1 = .ok (.istore_n 2, 1) := by decide +kernel
theorem dX5_unpaidDebtsOf_2 : decode cX5_unpaidDebtsOf 2 = .ok (.aload_n 0, 1) := by decide +kernel
theorem dX5_unpaidDebtsOf_3 : decode cX5_unpaidDebtsOf 3 = .ok (.getfield 27, 3) := by decide +kernel
theorem dX5_unpaidDebtsOf_6 : decode cX5_unpaidDebtsOf 6 = .ok (.astore_n 3, 1) := by decide +kernel
theorem dX5_unpaidDebtsOf_7 : decode cX5_unpaidDebtsOf 7 = .ok (.aload_n 3, 1) := by decide +kernel
theorem dX5_unpaidDebtsOf_8 : decode cX5_unpaidDebtsOf 8 = .ok (.arraylength, 1) := by decide +kernel
theorem dX5_unpaidDebtsOf_9 : decode cX5_unpaidDebtsOf 9 = .ok (.istore 4, 2) := by decide +kernel
theorem dX5_unpaidDebtsOf_11 : decode cX5_unpaidDebtsOf 11 = .ok (.iconst 0, 1) := by decide +kernel
theorem dX5_unpaidDebtsOf_12 : decode cX5_unpaidDebtsOf 12 = .ok (.istore 5, 2) := by decide +kernel
theorem dX5_unpaidDebtsOf_14 : decode cX5_unpaidDebtsOf 14 = .ok (.iload 5, 2) := by decide +kernel
theorem dX5_unpaidDebtsOf_16 : decode cX5_unpaidDebtsOf 16 = .ok (.iload 4, 2) := by decide +kernel
theorem dX5_unpaidDebtsOf_18 : decode cX5_unpaidDebtsOf 18 = .ok (.if_icmp .ge 40, 3) := by decide +kernel
theorem dX5_unpaidDebtsOf_21 : decode cX5_unpaidDebtsOf 21 = .ok (.aload_n 3, 1) := by decide +kernel
theorem dX5_unpaidDebtsOf_22 : decode cX5_unpaidDebtsOf 22 = .ok (.iload 5, 2) := by decide +kernel
theorem dX5_unpaidDebtsOf_24 : decode cX5_unpaidDebtsOf 24 = .ok (.aaload, 1) := by decide +kernel
theorem dX5_unpaidDebtsOf_25 : decode cX5_unpaidDebtsOf 25 = .ok (.astore 6, 2) := by decide +kernel
theorem dX5_unpaidDebtsOf_27 : decode cX5_unpaidDebtsOf 27 = .ok (.aload 6, 2) := by decide +kernel
theorem dX5_unpaidDebtsOf_29 : decode cX5_unpaidDebtsOf 29 = .ok (.ifnull 23, 3) := by decide +kernel
theorem dX5_unpaidDebtsOf_32 : decode cX5_unpaidDebtsOf 32 = .ok (.aload 6, 2) := by decide +kernel
theorem dX5_unpaidDebtsOf_34 : decode cX5_unpaidDebtsOf 34 = .ok (.getfield 204, 3) := by decide +kernel
theorem dX5_unpaidDebtsOf_37 : decode cX5_unpaidDebtsOf 37 = .ok (.ifCond .ne 15, 3) := by decide +kernel
theorem dX5_unpaidDebtsOf_40 : decode cX5_unpaidDebtsOf 40 = .ok (.aload 6, 2) := by decide +kernel
theorem dX5_unpaidDebtsOf_42 : decode cX5_unpaidDebtsOf 42 = .ok (.getfield 200, 3) := by decide +kernel
theorem dX5_unpaidDebtsOf_45 : decode cX5_unpaidDebtsOf 45 = .ok (.aload_n 1, 1) := by decide +kernel
theorem dX5_unpaidDebtsOf_46 : decode cX5_unpaidDebtsOf 46 = .ok (.if_acmp .ne 6, 3) := by decide +kernel
theorem dX5_unpaidDebtsOf_49 : decode cX5_unpaidDebtsOf 49 = .ok (.iinc 2 1, 3) := by decide +kernel
theorem dX5_unpaidDebtsOf_52 : decode cX5_unpaidDebtsOf 52 = .ok (.iinc 5 1, 3) := by decide +kernel
theorem dX5_unpaidDebtsOf_55 : decode cX5_unpaidDebtsOf 55 = .ok (.goto (-41), 3) := by decide +kernel
theorem dX5_unpaidDebtsOf_58 : decode cX5_unpaidDebtsOf 58 = .ok (.iload_n 2, 1) := by decide +kernel
theorem dX5_unpaidDebtsOf_59 : decode cX5_unpaidDebtsOf 59 = .ok (.ireturn, 1) := by decide +kernel
theorem dX5_unpaidDebtsTo_0 : decode cX5_unpaidDebtsTo 0 = .ok (.iconst 0, 1) := by decide +kernel
theorem dX5_unpaidDebtsTo_1 : decode cX5_unpaidDebtsTo 1 = .ok (.istore_n 2, 1) := by decide +kernel
theorem dX5_unpaidDebtsTo_2 : decode cX5_unpaidDebtsTo 2 = .ok (.aload_n 0, 1) := by decide +kernel
theorem dX5_unpaidDebtsTo_3 : decode cX5_unpaidDebtsTo 3 = .ok (.getfield 27, 3) := by decide +kernel
theorem dX5_unpaidDebtsTo_6 : decode cX5_unpaidDebtsTo 6 = .ok (.astore_n 3, 1) := by decide +kernel
theorem dX5_unpaidDebtsTo_7 : decode cX5_unpaidDebtsTo 7 = .ok (.aload_n 3, 1) := by decide +kernel
theorem dX5_unpaidDebtsTo_8 : decode cX5_unpaidDebtsTo 8 = .ok (.arraylength, 1) := by decide +kernel
theorem dX5_unpaidDebtsTo_9 : decode cX5_unpaidDebtsTo 9 = .ok (.istore 4, 2) := by decide +kernel
theorem dX5_unpaidDebtsTo_11 : decode cX5_unpaidDebtsTo 11 = .ok (.iconst 0, 1) := by decide +kernel
theorem dX5_unpaidDebtsTo_12 : decode cX5_unpaidDebtsTo 12 = .ok (.istore 5, 2) := by decide +kernel
theorem dX5_unpaidDebtsTo_14 : decode cX5_unpaidDebtsTo 14 = .ok (.iload 5, 2) := by decide +kernel
theorem dX5_unpaidDebtsTo_16 : decode cX5_unpaidDebtsTo 16 = .ok (.iload 4, 2) := by decide +kernel
theorem dX5_unpaidDebtsTo_18 : decode cX5_unpaidDebtsTo 18 = .ok (.if_icmp .ge 40, 3) := by decide +kernel
theorem dX5_unpaidDebtsTo_21 : decode cX5_unpaidDebtsTo 21 = .ok (.aload_n 3, 1) := by decide +kernel
theorem dX5_unpaidDebtsTo_22 : decode cX5_unpaidDebtsTo 22 = .ok (.iload 5, 2) := by decide +kernel
theorem dX5_unpaidDebtsTo_24 : decode cX5_unpaidDebtsTo 24 = .ok (.aaload, 1) := by decide +kernel
theorem dX5_unpaidDebtsTo_25 : decode cX5_unpaidDebtsTo 25 = .ok (.astore 6, 2) := by decide +kernel
theorem dX5_unpaidDebtsTo_27 : decode cX5_unpaidDebtsTo 27 = .ok (.aload 6, 2) := by decide +kernel
theorem dX5_unpaidDebtsTo_29 : decode cX5_unpaidDebtsTo 29 = .ok (.ifnull 23, 3) := by decide +kernel
theorem dX5_unpaidDebtsTo_32 : decode cX5_unpaidDebtsTo 32 = .ok (.aload 6, 2) := by decide +kernel
theorem dX5_unpaidDebtsTo_34 : decode cX5_unpaidDebtsTo 34 = .ok (.getfield 204, 3) := by decide +kernel
theorem dX5_unpaidDebtsTo_37 : decode cX5_unpaidDebtsTo 37 = .ok (.ifCond .ne 15, 3) := by decide +kernel
theorem dX5_unpaidDebtsTo_40 : decode cX5_unpaidDebtsTo 40 = .ok (.aload 6, 2) := by decide +kernel
theorem dX5_unpaidDebtsTo_42 : decode cX5_unpaidDebtsTo 42 = .ok (.getfield 208, 3) := by decide +kernel
theorem dX5_unpaidDebtsTo_45 : decode cX5_unpaidDebtsTo 45 = .ok (.aload_n 1, 1) := by decide +kernel
theorem dX5_unpaidDebtsTo_46 : decode cX5_unpaidDebtsTo 46 = .ok (.if_acmp .ne 6, 3) := by decide +kernel
theorem dX5_unpaidDebtsTo_49 : decode cX5_unpaidDebtsTo 49 = .ok (.iinc 2 1, 3) := by decide +kernel
theorem dX5_unpaidDebtsTo_52 : decode cX5_unpaidDebtsTo 52 = .ok (.iinc 5 1, 3) := by decide +kernel
theorem dX5_unpaidDebtsTo_55 : decode cX5_unpaidDebtsTo 55 = .ok (.goto (-41), 3) := by decide +kernel
theorem dX5_unpaidDebtsTo_58 : decode cX5_unpaidDebtsTo 58 = .ok (.iload_n 2, 1) := by decide +kernel
theorem dX5_unpaidDebtsTo_59 : decode cX5_unpaidDebtsTo 59 = .ok (.ireturn, 1) := by decide +kernel
theorem dX5_ofDebt_0 : decode cX5_ofDebt 0 = .ok (.aload_n 0, 1) := by decide +kernel
theorem dX5_ofDebt_1 : decode cX5_ofDebt 1 = .ok (.iload_n 1, 1) := by decide +kernel
theorem dX5_ofDebt_2 : decode cX5_ofDebt 2 = .ok (.invokevirtual 196, 3) := by decide +kernel
theorem dX5_ofDebt_5 : decode cX5_ofDebt 5 = .ok (.astore_n 3, 1) := by decide +kernel
theorem dX5_ofDebt_6 : decode cX5_ofDebt 6 = .ok (.iload_n 2, 1) := by decide +kernel
theorem dX5_ofDebt_7 : decode cX5_ofDebt 7 = .ok (.iconst 0, 1) := by decide +kernel
theorem dX5_ofDebt_8 : decode cX5_ofDebt 8 = .ok (.bipush 6, 2) := by decide +kernel
theorem dX5_ofDebt_10 : decode cX5_ofDebt 10 = .ok (.invokestatic 53, 3) := by decide +kernel
theorem dX5_ofDebt_13 : decode cX5_ofDebt 13 = .ok (.aload_n 0, 1) := by decide +kernel
theorem dX5_ofDebt_14 : decode cX5_ofDebt 14 = .ok (.aload_n 3, 1) := by decide +kernel
theorem dX5_ofDebt_15 : decode cX5_ofDebt 15 = .ok (.iload_n 2, 1) := by decide +kernel
theorem dX5_ofDebt_16 : decode cX5_ofDebt 16 = .ok (.invokevirtual 287, 3) := by decide +kernel
theorem dX5_ofDebt_19 : decode cX5_ofDebt 19 = .ok (.ireturn, 1) := by decide +kernel
theorem dX5_debtFact_0 : decode cX5_debtFact 0 = .ok (.iload_n 2, 1) := by decide +kernel
theorem dX5_debtFact_1 : decode cX5_debtFact 1 = .ok (.tableswitch 98 0 5 #[39, 47, 55, 60, 65, 85], 39) := by decide +kernel
theorem dX5_debtFact_40 : decode cX5_debtFact 40 = .ok (.aload_n 1, 1) := by decide +kernel
theorem dX5_debtFact_41 : decode cX5_debtFact 41 = .ok (.getfield 200, 3) := by decide +kernel
theorem dX5_debtFact_44 : decode cX5_debtFact 44 = .ok (.getfield 291, 3) := by decide +kernel
theorem dX5_debtFact_47 : decode cX5_debtFact 47 = .ok (.ireturn, 1) := by decide +kernel
theorem dX5_debtFact_48 : decode cX5_debtFact 48 = .ok (.aload_n 1, 1) := by decide +kernel
theorem dX5_debtFact_49 : decode cX5_debtFact 49 = .ok (.getfield 208, 3) := by decide +kernel
theorem dX5_debtFact_52 : decode cX5_debtFact 52 = .ok (.getfield 291, 3) := by decide +kernel
theorem dX5_debtFact_55 : decode cX5_debtFact 55 = .ok (.ireturn, 1) := by decide +kernel
theorem dX5_debtFact_56 : decode cX5_debtFact 56 = .ok (.aload_n 1, 1) := by decide +kernel
theorem dX5_debtFact_57 : decode cX5_debtFact 57 = .ok (.getfield 292, 3) := by decide +kernel
theorem dX5_debtFact_60 : decode cX5_debtFact 60 = .ok (.ireturn, 1) := by decide +kernel
theorem dX5_debtFact_61 : decode cX5_debtFact 61 = .ok (.aload_n 1, 1) := by decide +kernel
theorem dX5_debtFact_62 : decode cX5_debtFact 62 = .ok (.getfield 295, 3) := by decide +kernel
theorem dX5_debtFact_65 : decode cX5_debtFact 65 = .ok (.ireturn, 1) := by decide +kernel
theorem dX5_debtFact_66 : decode cX5_debtFact 66 = .ok (.aload_n 1, 1) := by decide +kernel
theorem dX5_debtFact_67 : decode cX5_debtFact 67 = .ok (.getfield 204, 3) := by decide +kernel
theorem dX5_debtFact_70 : decode cX5_debtFact 70 = .ok (.ifCond .eq 7, 3) := by decide +kernel
theorem dX5_debtFact_73 : decode cX5_debtFact 73 = .ok (.iconst 0, 1) := by decide +kernel
theorem dX5_debtFact_74 : decode cX5_debtFact 74 = .ok (.goto 11, 3) := by decide +kernel
theorem dX5_debtFact_77 : decode cX5_debtFact 77 = .ok (.aload_n 1, 1) := by decide +kernel
theorem dX5_debtFact_78 : decode cX5_debtFact 78 = .ok (.aload_n 0, 1) := by decide +kernel
theorem dX5_debtFact_79 : decode cX5_debtFact 79 = .ok (.getfield 158, 3) := by decide +kernel
theorem dX5_debtFact_82 : decode cX5_debtFact 82 = .ok (.invokevirtual 213, 3) := by decide +kernel
theorem dX5_debtFact_85 : decode cX5_debtFact 85 = .ok (.ireturn, 1) := by decide +kernel
theorem dX5_debtFact_86 : decode cX5_debtFact 86 = .ok (.aload_n 1, 1) := by decide +kernel
theorem dX5_debtFact_87 : decode cX5_debtFact 87 = .ok (.getfield 204, 3) := by decide +kernel
theorem dX5_debtFact_90 : decode cX5_debtFact 90 = .ok (.ifCond .eq 7, 3) := by decide +kernel
theorem dX5_debtFact_93 : decode cX5_debtFact 93 = .ok (.iconst 1, 1) := by decide +kernel
theorem dX5_debtFact_94 : decode cX5_debtFact 94 = .ok (.goto 4, 3) := by decide +kernel
theorem dX5_debtFact_97 : decode cX5_debtFact 97 = .ok (.iconst 0, 1) := by decide +kernel
theorem dX5_debtFact_98 : decode cX5_debtFact 98 = .ok (.ireturn, 1) := by decide +kernel
theorem dX5_debtFact_99 : decode cX5_debtFact 99 = .ok (.aload_n 0, 1) := by decide +kernel
theorem dX5_debtFact_100 : decode cX5_debtFact 100 = .ok (.aload_n 1, 1) := by decide +kernel
theorem dX5_debtFact_101 : decode cX5_debtFact 101 = .ok (.invokevirtual 298, 3) := by decide +kernel
theorem dX5_debtFact_104 : decode cX5_debtFact 104 = .ok (.ireturn, 1) := by decide +kernel
theorem dX5_cheaperMetal_0 : decode cX5_cheaperMetal 0 = .ok (.aload_n 1, 1) := by decide +kernel
theorem dX5_cheaperMetal_1 : decode cX5_cheaperMetal 1 = .ok (.getfield 200, 3) := by decide +kernel
theorem dX5_cheaperMetal_4 : decode cX5_cheaperMetal 4 = .ok (.getfield 131, 3) := by decide +kernel
theorem dX5_cheaperMetal_7 : decode cX5_cheaperMetal 7 = .ok (.astore_n 2, 1) := by decide +kernel
theorem dX5_cheaperMetal_8 : decode cX5_cheaperMetal 8 = .ok (.aload_n 1, 1) := by decide +kernel
theorem dX5_cheaperMetal_9 : decode cX5_cheaperMetal 9 = .ok (.getfield 204, 3) := by decide +kernel
theorem dX5_cheaperMetal_12 : decode cX5_cheaperMetal 12 = .ok (.ifCond .ne 7, 3) := by decide +kernel
theorem dX5_cheaperMetal_15 : decode cX5_cheaperMetal 15 = .ok (.aload_n 2, 1) := by decide +kernel
theorem dX5_cheaperMetal_16 : decode cX5_cheaperMetal 16 = .ok (.ifnonnull 5, 3) := by decide +kernel
theorem dX5_cheaperMetal_19 : decode cX5_cheaperMetal 19 = .ok (.iconst (-1), 1) := by decide +kernel
theorem dX5_cheaperMetal_20 : decode cX5_cheaperMetal 20 = .ok (.ireturn, 1) := by decide +kernel
theorem dX5_cheaperMetal_21 : decode cX5_cheaperMetal 21 = .ok (.aload_n 1, 1) := by decide +kernel
theorem dX5_cheaperMetal_22 : decode cX5_cheaperMetal 22 = .ok (.aload_n 0, 1) := by decide +kernel
theorem dX5_cheaperMetal_23 : decode cX5_cheaperMetal 23 = .ok (.getfield 158, 3) := by decide +kernel
theorem dX5_cheaperMetal_26 : decode cX5_cheaperMetal 26 = .ok (.invokevirtual 213, 3) := by decide +kernel
theorem dX5_cheaperMetal_29 : decode cX5_cheaperMetal 29 = .ok (.istore_n 3, 1) := by decide +kernel
theorem dX5_cheaperMetal_30 : decode cX5_cheaperMetal 30 = .ok (.aload_n 2, 1) := by decide +kernel
theorem dX5_cheaperMetal_31 : decode cX5_cheaperMetal 31 = .ok (.iload_n 3, 1) := by decide +kernel
theorem dX5_cheaperMetal_32 : decode cX5_cheaperMetal 32 = .ok (.invokevirtual 216, 3) := by decide +kernel
theorem dX5_cheaperMetal_35 : decode cX5_cheaperMetal 35 = .ok (.iconst 0, 1) := by decide +kernel
theorem dX5_cheaperMetal_36 : decode cX5_cheaperMetal 36 = .ok (.aload_n 0, 1) := by decide +kernel
theorem dX5_cheaperMetal_37 : decode cX5_cheaperMetal 37 = .ok (.getfield 9, 3) := by decide +kernel
theorem dX5_cheaperMetal_40 : decode cX5_cheaperMetal 40 = .ok (.invokestatic 302, 3) := by decide +kernel
