theorem dX0_init_0 : decode cX0_init 0 = .ok (.aload_n 0, 1) := by decide +kernel
theorem dX0_init_1 : decode cX0_init 1 = .ok (.invokespecial 3, 3) := by decide +kernel
theorem dX0_init_4 : decode cX0_init 4 = .ok (.aload_n 0, 1) := by decide +kernel
theorem dX0_init_5 : decode cX0_init 5 = .ok (.iload_n 1, 1) := by decide +kernel
theorem dX0_init_6 : decode cX0_init 6 = .ok (.putfield 9, 3) := by decide +kernel
theorem dX0_init_9 : decode cX0_init 9 = .ok (.aload_n 0, 1) := by decide +kernel
theorem dX0_init_10 : decode cX0_init 10 = .ok (.iload_n 2, 1) := by decide +kernel
theorem dX0_init_11 : decode cX0_init 11 = .ok (.putfield 15, 3) := by decide +kernel
theorem dX0_init_14 : decode cX0_init 14 = .ok (.aload_n 0, 1) := by decide +kernel
theorem dX0_init_15 : decode cX0_init 15 = .ok (.iload_n 3, 1) := by decide +kernel
theorem dX0_init_16 : decode cX0_init 16 = .ok (.putfield 18, 3) := by decide +kernel
theorem dX0_init_19 : decode cX0_init 19 = .ok (.aload_n 0, 1) := by decide +kernel
theorem dX0_init_20 : decode cX0_init 20 = .ok (.aload 4, 2) := by decide +kernel
theorem dX0_init_22 : decode cX0_init 22 = .ok (.putfield 21, 3) := by decide +kernel
theorem dX0_init_25 : decode cX0_init 25 = .ok (.aload_n 0, 1) := by decide +kernel
theorem dX0_init_26 : decode cX0_init 26 = .ok (.iconst 1, 1) := by decide +kernel
theorem dX0_init_27 : decode cX0_init 27 = .ok (.putfield 25, 3) := by decide +kernel
theorem dX0_init_30 : decode cX0_init 30 = .ok (.aload_n 0, 1) := by decide +kernel
theorem dX0_init_31 : decode cX0_init 31 = .ok (.iconst 1, 1) := by decide +kernel
theorem dX0_init_32 : decode cX0_init 32 = .ok (.putfield 29, 3) := by decide +kernel
theorem dX0_init_35 : decode cX0_init 35 = .ok (.aload_n 0, 1) := by decide +kernel
theorem dX0_init_36 : decode cX0_init 36 = .ok (.iconst 4, 1) := by decide +kernel
theorem dX0_init_37 : decode cX0_init 37 = .ok (.newarray .int, 2) := by decide +kernel
theorem dX0_init_39 : decode cX0_init 39 = .ok (.putfield 32, 3) := by decide +kernel
theorem dX0_init_42 : decode cX0_init 42 = .ok (.aload_n 0, 1) := by decide +kernel
theorem dX0_init_43 : decode cX0_init 43 = .ok (.iconst 4, 1) := by decide +kernel
theorem dX0_init_44 : decode cX0_init 44 = .ok (.newarray .int, 2) := by decide +kernel
theorem dX0_init_46 : decode cX0_init 46 = .ok (.putfield 36, 3) := by decide +kernel
theorem dX0_init_49 : decode cX0_init 49 = .ok (.iconst 0, 1) := by decide +kernel
theorem dX0_init_50 : decode cX0_init 50 = .ok (.istore 5, 2) := by decide +kernel
theorem dX0_init_52 : decode cX0_init 52 = .ok (.iload 5, 2) := by decide +kernel
theorem dX0_init_54 : decode cX0_init 54 = .ok (.iconst 4, 1) := by decide +kernel
theorem dX0_init_55 : decode cX0_init 55 = .ok (.if_icmp .ge 26, 3) := by decide +kernel
theorem dX0_init_58 : decode cX0_init 58 = .ok (.aload_n 0, 1) := by decide +kernel
theorem dX0_init_59 : decode cX0_init 59 = .ok (.getfield 32, 3) := by decide +kernel
theorem dX0_init_62 : decode cX0_init 62 = .ok (.iload 5, 2) := by decide +kernel
theorem dX0_init_64 : decode cX0_init 64 = .ok (.iconst 3, 1) := by decide +kernel
theorem dX0_init_65 : decode cX0_init 65 = .ok (.iastore, 1) := by decide +kernel
theorem dX0_init_66 : decode cX0_init 66 = .ok (.aload_n 0, 1) := by decide +kernel
theorem dX0_init_67 : decode cX0_init 67 = .ok (.getfield 36, 3) := by decide +kernel
theorem dX0_init_70 : decode cX0_init 70 = .ok (.iload 5, 2) := by decide +kernel
theorem dX0_init_72 : decode cX0_init 72 = .ok (.bipush 10, 2) := by decide +kernel
theorem dX0_init_74 : decode cX0_init 74 = .ok (.iastore, 1) := by decide +kernel
theorem dX0_init_75 : decode cX0_init 75 = .ok (.iinc 5 1, 3) := by decide +kernel
theorem dX0_init_78 : decode cX0_init 78 = .ok (.goto (-26), 3) := by decide +kernel
theorem dX0_init_81 : decode cX0_init 81 = .ok (.aload_n 0, 1) := by decide +kernel
theorem dX0_init_82 : decode cX0_init 82 = .ok (.new 39, 3) := by decide +kernel
theorem dX0_init_85 : decode cX0_init 85 = .ok (.dup, 1) := by decide +kernel
theorem dX0_init_86 : decode cX0_init 86 = .ok (.invokespecial 41, 3) := by decide +kernel
theorem dX0_init_89 : decode cX0_init 89 = .ok (.putfield 42, 3) := by decide +kernel
theorem dX0_init_92 : decode cX0_init 92 = .ok (.return_, 1) := by decide +kernel
theorem dX0_isOpenFor_0 : decode cX0_isOpenFor 0 = .ok (.iload_n 1, 1) := by decide +kernel
theorem dX0_isOpenFor_1 : decode cX0_isOpenFor 1 = .ok (.ifCond .ne 10, 3) := by decide +kernel
theorem dX0_isOpenFor_4 : decode cX0_isOpenFor 4 = .ok (.aload_n 0, 1) := by decide +kernel
theorem dX0_isOpenFor_5 : decode cX0_isOpenFor 5 = .ok (.getfield 25, 3) := by decide +kernel
theorem dX0_isOpenFor_8 : decode cX0_isOpenFor 8 = .ok (.goto 7, 3) := by decide +kernel
theorem dX0_isOpenFor_11 : decode cX0_isOpenFor 11 = .ok (.aload_n 0, 1) := by decide +kernel
theorem dX0_isOpenFor_12 : decode cX0_isOpenFor 12 = .ok (.getfield 29, 3) := by decide +kernel
theorem dX0_isOpenFor_15 : decode cX0_isOpenFor 15 = .ok (.ireturn, 1) := by decide +kernel
theorem dX0_setOpenFor_0 : decode cX0_setOpenFor 0 = .ok (.iload_n 1, 1) := by decide +kernel
theorem dX0_setOpenFor_1 : decode cX0_setOpenFor 1 = .ok (.ifCond .ne 11, 3) := by decide +kernel
theorem dX0_setOpenFor_4 : decode cX0_setOpenFor 4 = .ok (.aload_n 0, 1) := by decide +kernel
theorem dX0_setOpenFor_5 : decode cX0_setOpenFor 5 = .ok (.iload_n 2, 1) := by decide +kernel
theorem dX0_setOpenFor_6 : decode cX0_setOpenFor 6 = .ok (.putfield 25, 3) := by decide +kernel
theorem dX0_setOpenFor_9 : decode cX0_setOpenFor 9 = .ok (.goto 8, 3) := by decide +kernel
theorem dX0_setOpenFor_12 : decode cX0_setOpenFor 12 = .ok (.aload_n 0, 1) := by decide +kernel
theorem dX0_setOpenFor_13 : decode cX0_setOpenFor 13 = .ok (.iload_n 2, 1) := by decide +kernel
theorem dX0_setOpenFor_14 : decode cX0_setOpenFor 14 = .ok (.putfield 29, 3) := by decide +kernel
theorem dX0_setOpenFor_17 : decode cX0_setOpenFor 17 = .ok (.return_, 1) := by decide +kernel
theorem dX0_openSet_0 : decode cX0_openSet 0 = .ok (.aload_n 0, 1) := by decide +kernel
theorem dX0_openSet_1 : decode cX0_openSet 1 = .ok (.getfield 25, 3) := by decide +kernel
theorem dX0_openSet_4 : decode cX0_openSet 4 = .ok (.ifCond .eq 7, 3) := by decide +kernel
theorem dX0_openSet_7 : decode cX0_openSet 7 = .ok (.iconst 1, 1) := by decide +kernel
theorem dX0_openSet_8 : decode cX0_openSet 8 = .ok (.goto 4, 3) := by decide +kernel
theorem dX0_openSet_11 : decode cX0_openSet 11 = .ok (.iconst 0, 1) := by decide +kernel
theorem dX0_openSet_12 : decode cX0_openSet 12 = .ok (.aload_n 0, 1) := by decide +kernel
theorem dX0_openSet_13 : decode cX0_openSet 13 = .ok (.getfield 29, 3) := by decide +kernel
theorem dX0_openSet_16 : decode cX0_openSet 16 = .ok (.ifCond .eq 7, 3) := by decide +kernel
theorem dX0_openSet_19 : decode cX0_openSet 19 = .ok (.iconst 2, 1) := by decide +kernel
theorem dX0_openSet_20 : decode cX0_openSet 20 = .ok (.goto 4, 3) := by decide +kernel
theorem dX0_openSet_23 : decode cX0_openSet 23 = .ok (.iconst 0, 1) := by decide +kernel
theorem dX0_openSet_24 : decode cX0_openSet 24 = .ok (.iadd, 1) := by decide +kernel
theorem dX0_openSet_25 : decode cX0_openSet 25 = .ok (.ireturn, 1) := by decide +kernel
theorem dX0_minted_0 : decode cX0_minted 0 = .ok (.iload_n 1, 1) := by decide +kernel
theorem dX0_minted_1 : decode cX0_minted 1 = .ok (.ifCond .ne 11, 3) := by decide +kernel
theorem dX0_minted_4 : decode cX0_minted 4 = .ok (.aload_n 0, 1) := by decide +kernel
theorem dX0_minted_5 : decode cX0_minted 5 = .ok (.iload_n 2, 1) := by decide +kernel
theorem dX0_minted_6 : decode cX0_minted 6 = .ok (.invokevirtual 46, 3) := by decide +kernel
theorem dX0_minted_9 : decode cX0_minted 9 = .ok (.goto 8, 3) := by decide +kernel
theorem dX0_minted_12 : decode cX0_minted 12 = .ok (.aload_n 0, 1) := by decide +kernel
theorem dX0_minted_13 : decode cX0_minted 13 = .ok (.iload_n 2, 1) := by decide +kernel
theorem dX0_minted_14 : decode cX0_minted 14 = .ok (.invokevirtual 50, 3) := by decide +kernel
theorem dX0_minted_17 : decode cX0_minted 17 = .ok (.istore_n 3, 1) := by decide +kernel
theorem dX0_minted_18 : decode cX0_minted 18 = .ok (.iload_n 3, 1) := by decide +kernel
theorem dX0_minted_19 : decode cX0_minted 19 = .ok (.iload_n 3, 1) := by decide +kernel
theorem dX0_minted_20 : decode cX0_minted 20 = .ok (.aload_n 0, 1) := by decide +kernel
theorem dX0_minted_21 : decode cX0_minted 21 = .ok (.getfield 18, 3) := by decide +kernel
theorem dX0_minted_24 : decode cX0_minted 24 = .ok (.invokestatic 53, 3) := by decide +kernel
theorem dX0_minted_27 : decode cX0_minted 27 = .ok (.isub, 1) := by decide +kernel
theorem dX0_minted_28 : decode cX0_minted 28 = .ok (.ireturn, 1) := by decide +kernel
theorem dX0_silverFor_0 : decode cX0_silverFor 0 = .ok (.iload_n 1, 1) := by decide +kernel
theorem dX0_silverFor_1 : decode cX0_silverFor 1 = .ok (.i2l, 1) := by decide +kernel
theorem dX0_silverFor_2 : decode cX0_silverFor 2 = .ok (.aload_n 0, 1) := by decide +kernel
theorem dX0_silverFor_3 : decode cX0_silverFor 3 = .ok (.getfield 15, 3) := by decide +kernel
theorem dX0_silverFor_6 : decode cX0_silverFor 6 = .ok (.i2l, 1) := by decide +kernel
theorem dX0_silverFor_7 : decode cX0_silverFor 7 = .ok (.lmul, 1) := by decide +kernel
theorem dX0_silverFor_8 : decode cX0_silverFor 8 = .ok (.ldc2_w 57, 3) := by decide +kernel
theorem dX0_silverFor_11 : decode cX0_silverFor 11 = .ok (.ldiv, 1) := by decide +kernel
theorem dX0_silverFor_12 : decode cX0_silverFor 12 = .ok (.l2i, 1) := by decide +kernel
theorem dX0_silverFor_13 : decode cX0_silverFor 13 = .ok (.ireturn, 1) := by decide +kernel
theorem dX0_goldOf_0 : decode cX0_goldOf 0 = .ok (.aload_n 0, 1) := by decide +kernel
theorem dX0_goldOf_1 : decode cX0_goldOf 1 = .ok (.getfield 15, 3) := by decide +kernel
theorem dX0_goldOf_4 : decode cX0_goldOf 4 = .ok (.iconst 1, 1) := by decide +kernel
theorem dX0_goldOf_5 : decode cX0_goldOf 5 = .ok (.if_icmp .ge 7, 3) := by decide +kernel
theorem dX0_goldOf_8 : decode cX0_goldOf 8 = .ok (.iconst 0, 1) := by decide +kernel
theorem dX0_goldOf_9 : decode cX0_goldOf 9 = .ok (.goto 16, 3) := by decide +kernel
theorem dX0_goldOf_12 : decode cX0_goldOf 12 = .ok (.iload_n 1, 1) := by decide +kernel
theorem dX0_goldOf_13 : decode cX0_goldOf 13 = .ok (.i2l, 1) := by decide +kernel
theorem dX0_goldOf_14 : decode cX0_goldOf 14 = .ok (.ldc2_w 57, 3) := by decide +kernel
theorem dX0_goldOf_17 : decode cX0_goldOf 17 = .ok (.lmul, 1) := by decide +kernel
theorem dX0_goldOf_18 : decode cX0_goldOf 18 = .ok (.aload_n 0, 1) := by decide +kernel
theorem dX0_goldOf_19 : decode cX0_goldOf 19 = .ok (.getfield 15, 3) := by decide +kernel
theorem dX0_goldOf_22 : decode cX0_goldOf 22 = .ok (.i2l, 1) := by decide +kernel
theorem dX0_goldOf_23 : decode cX0_goldOf 23 = .ok (.ldiv, 1) := by decide +kernel
theorem dX0_goldOf_24 : decode cX0_goldOf 24 = .ok (.l2i, 1) := by decide +kernel
theorem dX0_goldOf_25 : decode cX0_goldOf 25 = .ok (.ireturn, 1) := by decide +kernel
theorem dX0_goldFor_0 : decode cX0_goldFor 0 = .ok (.aload_n 0, 1) := by decide +kernel
theorem dX0_goldFor_1 : decode cX0_goldFor 1 = .ok (.getfield 15, 3) := by decide +kernel
theorem dX0_goldFor_4 : decode cX0_goldFor 4 = .ok (.iconst 1, 1) := by decide +kernel
theorem dX0_goldFor_5 : decode cX0_goldFor 5 = .ok (.if_icmp .ge 7, 3) := by decide +kernel
theorem dX0_goldFor_8 : decode cX0_goldFor 8 = .ok (.iconst 0, 1) := by decide +kernel
theorem dX0_goldFor_9 : decode cX0_goldFor 9 = .ok (.goto 24, 3) := by decide +kernel
theorem dX0_goldFor_12 : decode cX0_goldFor 12 = .ok (.iload_n 1, 1) := by decide +kernel
theorem dX0_goldFor_13 : decode cX0_goldFor 13 = .ok (.i2l, 1) := by decide +kernel
theorem dX0_goldFor_14 : decode cX0_goldFor 14 = .ok (.ldc2_w 57, 3) := by decide +kernel
theorem dX0_goldFor_17 : decode cX0_goldFor 17 = .ok (.lmul, 1) := by decide +kernel
theorem dX0_goldFor_18 : decode cX0_goldFor 18 = .ok (.aload_n 0, 1) := by decide +kernel
theorem dX0_goldFor_19 : decode cX0_goldFor 19 = .ok (.getfield 15, 3) := by decide +kernel
theorem dX0_goldFor_22 : decode cX0_goldFor 22 = .ok (.i2l, 1) := by decide +kernel
theorem dX0_goldFor_23 : decode cX0_goldFor 23 = .ok (.ladd, 1) := by decide +kernel
theorem dX0_goldFor_24 : decode cX0_goldFor 24 = .ok (.lconst 1, 1) := by decide +kernel
theorem dX0_goldFor_25 : decode cX0_goldFor 25 = .ok (.lsub, 1) := by decide +kernel
theorem dX0_goldFor_26 : decode cX0_goldFor 26 = .ok (.aload_n 0, 1) := by decide +kernel
theorem dX0_goldFor_27 : decode cX0_goldFor 27 = .ok (.getfield 15, 3) := by decide +kernel
theorem dX0_goldFor_30 : decode cX0_goldFor 30 = .ok (.i2l, 1) := by decide +kernel
theorem dX0_goldFor_31 : decode cX0_goldFor 31 = .ok (.ldiv, 1) := by decide +kernel
theorem dX0_goldFor_32 : decode cX0_goldFor 32 = .ok (.l2i, 1) := by decide +kernel
theorem dX0_goldFor_33 : decode cX0_goldFor 33 = .ok (.ireturn, 1) := by decide +kernel
theorem dX0_daysTo_0 : decode cX0_daysTo 0 = .ok (.iload_n 1, 1) := by decide +kernel
theorem dX0_daysTo_1 : decode cX0_daysTo 1 = .ok (.ifCond .lt 21, 3) := by decide +kernel
theorem dX0_daysTo_4 : decode cX0_daysTo 4 = .ok (.iload_n 1, 1) := by decide +kernel
theorem dX0_daysTo_5 : decode cX0_daysTo 5 = .ok (.aload_n 0, 1) := by decide +kernel
theorem dX0_daysTo_6 : decode cX0_daysTo 6 = .ok (.getfield 32, 3) := by decide +kernel
theorem dX0_daysTo_9 : decode cX0_daysTo 9 = .ok (.arraylength, 1) := by decide +kernel
theorem dX0_daysTo_10 : decode cX0_daysTo 10 = .ok (.if_icmp .ge 12, 3) := by decide +kernel
theorem dX0_daysTo_13 : decode cX0_daysTo 13 = .ok (.aload_n 0, 1) := by decide +kernel
theorem dX0_daysTo_14 : decode cX0_daysTo 14 = .ok (.getfield 32, 3) := by decide +kernel
theorem dX0_daysTo_17 : decode cX0_daysTo 17 = .ok (.iload_n 1, 1) := by decide +kernel
theorem dX0_daysTo_18 : decode cX0_daysTo 18 = .ok (.iaload, 1) := by decide +kernel
theorem dX0_daysTo_19 : decode cX0_daysTo 19 = .ok (.goto 4, 3) := by decide +kernel
theorem dX0_daysTo_22 : decode cX0_daysTo 22 = .ok (.iconst 3, 1) := by decide +kernel
theorem dX0_daysTo_23 : decode cX0_daysTo 23 = .ok (.ireturn, 1) := by decide +kernel
theorem dX0_freightTo_0 : decode cX0_freightTo 0 = .ok (.iload_n 1, 1) := by decide +kernel
theorem dX0_freightTo_1 : decode cX0_freightTo 1 = .ok (.ifCond .lt 21, 3) := by decide +kernel
theorem dX0_freightTo_4 : decode cX0_freightTo 4 = .ok (.iload_n 1, 1) := by decide +kernel
theorem dX0_freightTo_5 : decode cX0_freightTo 5 = .ok (.aload_n 0, 1) := by decide +kernel
theorem dX0_freightTo_6 : decode cX0_freightTo 6 = .ok (.getfield 36, 3) := by decide +kernel
theorem dX0_freightTo_9 : decode cX0_freightTo 9 = .ok (.arraylength, 1) := by decide +kernel
theorem dX0_freightTo_10 : decode cX0_freightTo 10 = .ok (.if_icmp .ge 12, 3) := by decide +kernel
theorem dX0_freightTo_13 : decode cX0_freightTo 13 = .ok (.aload_n 0, 1) := by decide +kernel
theorem dX0_freightTo_14 : decode cX0_freightTo 14 = .ok (.getfield 36, 3) := by decide +kernel
theorem dX0_freightTo_17 : decode cX0_freightTo 17 = .ok (.iload_n 1, 1) := by decide +kernel
theorem dX0_freightTo_18 : decode cX0_freightTo 18 = .ok (.iaload, 1) := by decide +kernel
theorem dX0_freightTo_19 : decode cX0_freightTo 19 = .ok (.goto 5, 3) := by decide +kernel
theorem dX0_freightTo_22 : decode cX0_freightTo 22 = .ok (.bipush 10, 2) := by decide +kernel
theorem dX0_freightTo_24 : decode cX0_freightTo 24 = .ok (.ireturn, 1) := by decide +kernel
theorem dX0_setRoadTo_0 : decode cX0_setRoadTo 0 = .ok (.iload_n 1, 1) := by decide +kernel
theorem dX0_setRoadTo_1 : decode cX0_setRoadTo 1 = .ok (.ifCond .lt 35, 3) := by decide +kernel
theorem dX0_setRoadTo_4 : decode cX0_setRoadTo 4 = .ok (.iload_n 1, 1) := by decide +kernel
theorem dX0_setRoadTo_5 : decode cX0_setRoadTo 5 = .ok (.aload_n 0, 1) := by decide +kernel
theorem dX0_setRoadTo_6 : decode cX0_setRoadTo 6 = .ok (.getfield 32, 3) := by decide +kernel
theorem dX0_setRoadTo_9 : decode cX0_setRoadTo 9 = .ok (.arraylength, 1) := by decide +kernel
theorem dX0_setRoadTo_10 : decode cX0_setRoadTo 10 = .ok (.if_icmp .ge 26, 3) := by decide +kernel
theorem dX0_setRoadTo_13 : decode cX0_setRoadTo 13 = .ok (.iload_n 1, 1) := by decide +kernel
theorem dX0_setRoadTo_14 : decode cX0_setRoadTo 14 = .ok (.aload_n 0, 1) := by decide +kernel
theorem dX0_setRoadTo_15 : decode cX0_setRoadTo 15 = .ok (.getfield 36, 3) := by decide +kernel
theorem dX0_setRoadTo_18 : decode cX0_setRoadTo 18 = .ok (.arraylength, 1) := by decide +kernel
theorem dX0_setRoadTo_19 : decode cX0_setRoadTo 19 = .ok (.if_icmp .ge 17, 3) := by decide +kernel
theorem dX0_setRoadTo_22 : decode cX0_setRoadTo 22 = .ok (.aload_n 0, 1) := by decide +kernel
theorem dX0_setRoadTo_23 : decode cX0_setRoadTo 23 = .ok (.getfield 32, 3) := by decide +kernel
theorem dX0_setRoadTo_26 : decode cX0_setRoadTo 26 = .ok (.iload_n 1, 1) := by decide +kernel
theorem dX0_setRoadTo_27 : decode cX0_setRoadTo 27 = .ok (.iload_n 2, 1) := by decide +kernel
theorem dX0_setRoadTo_28 : decode cX0_setRoadTo 28 = .ok (.iastore, 1) := by decide +kernel
theorem dX0_setRoadTo_29 : decode cX0_setRoadTo 29 = .ok (.aload_n 0, 1) := by decide +kernel
theorem dX0_setRoadTo_30 : decode cX0_setRoadTo 30 = .ok (.getfield 36, 3) := by decide +kernel
theorem dX0_setRoadTo_33 : decode cX0_setRoadTo 33 = .ok (.iload_n 1, 1) := by decide +kernel
theorem dX0_setRoadTo_34 : decode cX0_setRoadTo 34 = .ok (.iload_n 3, 1) := by decide +kernel
theorem dX0_setRoadTo_35 : decode cX0_setRoadTo 35 = .ok (.iastore, 1) := by decide +kernel
theorem dX0_setRoadTo_36 : decode cX0_setRoadTo 36 = .ok (.return_, 1) := by decide +kernel
theorem dX1_init_0 : decode cX1_init 0 = .ok (.aload_n 0, 1) := by decide +kernel
theorem dX1_init_1 : decode cX1_init 1 = .ok (.invokespecial 3, 3) := by decide +kernel
theorem dX1_init_4 : decode cX1_init 4 = .ok (.aload_n 0, 1) := by decide +kernel
theorem dX1_init_5 : decode cX1_init 5 = .ok (.aload_n 1, 1) := by decide +kernel
theorem dX1_init_6 : decode cX1_init 6 = .ok (.putfield 9, 3) := by decide +kernel
theorem dX1_init_9 : decode cX1_init 9 = .ok (.aload_n 0, 1) := by decide +kernel
theorem dX1_init_10 : decode cX1_init 10 = .ok (.aload_n 2, 1) := by decide +kernel
theorem dX1_init_11 : decode cX1_init 11 = .ok (.putfield 15, 3) := by decide +kernel
theorem dX1_init_14 : decode cX1_init 14 = .ok (.aload_n 0, 1) := by decide +kernel
theorem dX1_init_15 : decode cX1_init 15 = .ok (.iload_n 3, 1) := by decide +kernel
theorem dX1_init_16 : decode cX1_init 16 = .ok (.putfield 18, 3) := by decide +kernel
theorem dX1_init_19 : decode cX1_init 19 = .ok (.aload_n 0, 1) := by decide +kernel
theorem dX1_init_20 : decode cX1_init 20 = .ok (.iload 4, 2) := by decide +kernel
theorem dX1_init_22 : decode cX1_init 22 = .ok (.putfield 22, 3) := by decide +kernel
theorem dX1_init_25 : decode cX1_init 25 = .ok (.aload_n 0, 1) := by decide +kernel
theorem dX1_init_26 : decode cX1_init 26 = .ok (.iconst 0, 1) := by decide +kernel
theorem dX1_init_27 : decode cX1_init 27 = .ok (.putfield 25, 3) := by decide +kernel
theorem dX1_init_30 : decode cX1_init 30 = .ok (.return_, 1) := by decide +kernel
theorem dX1_dueOn_0 : decode cX1_dueOn 0 = .ok (.iload_n 1, 1) := by decide +kernel
theorem dX1_dueOn_1 : decode cX1_dueOn 1 = .ok (.aload_n 0, 1) := by decide +kernel
theorem dX1_dueOn_2 : decode cX1_dueOn 2 = .ok (.getfield 22, 3) := by decide +kernel
theorem dX1_dueOn_5 : decode cX1_dueOn 5 = .ok (.if_icmp .le 15, 3) := by decide +kernel
theorem dX1_dueOn_8 : decode cX1_dueOn 8 = .ok (.iload_n 1, 1) := by decide +kernel
theorem dX1_dueOn_9 : decode cX1_dueOn 9 = .ok (.aload_n 0, 1) := by decide +kernel
theorem dX1_dueOn_10 : decode cX1_dueOn 10 = .ok (.getfield 22, 3) := by decide +kernel
theorem dX1_dueOn_13 : decode cX1_dueOn 13 = .ok (.isub, 1) := by decide +kernel
theorem dX1_dueOn_14 : decode cX1_dueOn 14 = .ok (.bipush 10, 2) := by decide +kernel
theorem dX1_dueOn_16 : decode cX1_dueOn 16 = .ok (.idiv, 1) := by decide +kernel
theorem dX1_dueOn_17 : decode cX1_dueOn 17 = .ok (.goto 4, 3) := by decide +kernel
theorem dX1_dueOn_20 : decode cX1_dueOn 20 = .ok (.iconst 0, 1) := by decide +kernel
theorem dX1_dueOn_21 : decode cX1_dueOn 21 = .ok (.istore_n 2, 1) := by decide +kernel
theorem dX1_dueOn_22 : decode cX1_dueOn 22 = .ok (.aload_n 0, 1) := by decide +kernel
theorem dX1_dueOn_23 : decode cX1_dueOn 23 = .ok (.getfield 18, 3) := by decide +kernel
theorem dX1_dueOn_26 : decode cX1_dueOn 26 = .ok (.aload_n 0, 1) := by decide +kernel
theorem dX1_dueOn_27 : decode cX1_dueOn 27 = .ok (.getfield 18, 3) := by decide +kernel
theorem dX1_dueOn_30 : decode cX1_dueOn 30 = .ok (.bipush 100, 2) := by decide +kernel
theorem dX1_dueOn_32 : decode cX1_dueOn 32 = .ok (.idiv, 1) := by decide +kernel
theorem dX1_dueOn_33 : decode cX1_dueOn 33 = .ok (.iload_n 2, 1) := by decide +kernel
theorem dX1_dueOn_34 : decode cX1_dueOn 34 = .ok (.imul, 1) := by decide +kernel
theorem dX1_dueOn_35 : decode cX1_dueOn 35 = .ok (.iadd, 1) := by decide +kernel
theorem dX1_dueOn_36 : decode cX1_dueOn 36 = .ok (.ireturn, 1) := by decide +kernel
theorem dX2_init_0 : decode cX2_init 0 = .ok (.aload_n 0, 1) := by decide +kernel
theorem dX2_init_1 : decode cX2_init 1 = .ok (.invokespecial 3, 3) := by decide +kernel
theorem dX2_init_4 : decode cX2_init 4 = .ok (.aload_n 0, 1) := by decide +kernel
theorem dX2_init_5 : decode cX2_init 5 = .ok (.iload_n 1, 1) := by decide +kernel
theorem dX2_init_6 : decode cX2_init 6 = .ok (.putfield 9, 3) := by decide +kernel
theorem dX2_init_9 : decode cX2_init 9 = .ok (.aload_n 0, 1) := by decide +kernel
theorem dX2_init_10 : decode cX2_init 10 = .ok (.aload_n 2, 1) := by decide +kernel
theorem dX2_init_11 : decode cX2_init 11 = .ok (.putfield 15, 3) := by decide +kernel
theorem dX2_init_14 : decode cX2_init 14 = .ok (.aload_n 0, 1) := by decide +kernel
theorem dX2_init_15 : decode cX2_init 15 = .ok (.aload_n 3, 1) := by decide +kernel
theorem dX2_init_16 : decode cX2_init 16 = .ok (.putfield 19, 3) := by decide +kernel
theorem dX2_init_19 : decode cX2_init 19 = .ok (.aload_n 0, 1) := by decide +kernel
theorem dX2_init_20 : decode cX2_init 20 = .ok (.aconst_null, 1) := by decide +kernel
theorem dX2_init_21 : decode cX2_init 21 = .ok (.putfield 23, 3) := by decide +kernel
theorem dX2_init_24 : decode cX2_init 24 = .ok (.aload_n 0, 1) := by decide +kernel
theorem dX2_init_25 : decode cX2_init 25 = .ok (.iconst (-1), 1) := by decide +kernel
theorem dX2_init_26 : decode cX2_init 26 = .ok (.putfield 26, 3) := by decide +kernel
theorem dX2_init_29 : decode cX2_init 29 = .ok (.return_, 1) := by decide +kernel
theorem dX2_leaveFor_0 : decode cX2_leaveFor 0 = .ok (.aload_n 0, 1) := by decide +kernel
theorem dX2_leaveFor_1 : decode cX2_leaveFor 1 = .ok (.aconst_null, 1) := by decide +kernel
theorem dX2_leaveFor_2 : decode cX2_leaveFor 2 = .ok (.putfield 15, 3) := by decide +kernel
theorem dX2_leaveFor_5 : decode cX2_leaveFor 5 = .ok (.aload_n 0, 1) := by decide +kernel
theorem dX2_leaveFor_6 : decode cX2_leaveFor 6 = .ok (.aload_n 1, 1) := by decide +kernel
theorem dX2_leaveFor_7 : decode cX2_leaveFor 7 = .ok (.putfield 23, 3) := by decide +kernel
theorem dX2_leaveFor_10 : decode cX2_leaveFor 10 = .ok (.aload_n 0, 1) := by decide +kernel
theorem dX2_leaveFor_11 : decode cX2_leaveFor 11 = .ok (.iload_n 2, 1) := by decide +kernel
theorem dX2_leaveFor_12 : decode cX2_leaveFor 12 = .ok (.putfield 26, 3) := by decide +kernel
theorem dX2_leaveFor_15 : decode cX2_leaveFor 15 = .ok (.return_, 1) := by decide +kernel
theorem dX2_arriveBy_0 : decode cX2_arriveBy 0 = .ok (.aload_n 0, 1) := by decide +kernel
theorem dX2_arriveBy_1 : decode cX2_arriveBy 1 = .ok (.getfield 23, 3) := by decide +kernel
theorem dX2_arriveBy_4 : decode cX2_arriveBy 4 = .ok (.ifnull 29, 3) := by decide +kernel
theorem dX2_arriveBy_7 : decode cX2_arriveBy 7 = .ok (.aload_n 0, 1) := by decide +kernel
theorem dX2_arriveBy_8 : decode cX2_arriveBy 8 = .ok (.getfield 26, 3) := by decide +kernel
theorem dX2_arriveBy_11 : decode cX2_arriveBy 11 = .ok (.iload_n 1, 1) := by decide +kernel
theorem dX2_arriveBy_12 : decode cX2_arriveBy 12 = .ok (.if_icmp .gt 21, 3) := by decide +kernel
theorem dX2_arriveBy_15 : decode cX2_arriveBy 15 = .ok (.aload_n 0, 1) := by decide +kernel
theorem dX2_arriveBy_16 : decode cX2_arriveBy 16 = .ok (.aload_n 0, 1) := by decide +kernel
theorem dX2_arriveBy_17 : decode cX2_arriveBy 17 = .ok (.getfield 23, 3) := by decide +kernel
theorem dX2_arriveBy_20 : decode cX2_arriveBy 20 = .ok (.putfield 15, 3) := by decide +kernel
theorem dX2_arriveBy_23 : decode cX2_arriveBy 23 = .ok (.aload_n 0, 1) := by decide +kernel
theorem dX2_arriveBy_24 : decode cX2_arriveBy 24 = .ok (.aconst_null, 1) := by decide +kernel
theorem dX2_arriveBy_25 : decode cX2_arriveBy 25 = .ok (.putfield 23, 3) := by decide +kernel
theorem dX2_arriveBy_28 : decode cX2_arriveBy 28 = .ok (.aload_n 0, 1) := by decide +kernel
theorem dX2_arriveBy_29 : decode cX2_arriveBy 29 = .ok (.iconst (-1), 1) := by decide +kernel
theorem dX2_arriveBy_30 : decode cX2_arriveBy 30 = .ok (.putfield 26, 3) := by decide +kernel
theorem dX2_arriveBy_33 : decode cX2_arriveBy 33 = .ok (.return_, 1) := by decide +kernel
theorem dX2_isLateOn_0 : decode cX2_isLateOn 0 = .ok (.aload_n 0, 1) := by decide +kernel
theorem dX2_isLateOn_1 : decode cX2_isLateOn 1 = .ok (.getfield 23, 3) := by decide +kernel
theorem dX2_isLateOn_4 : decode cX2_isLateOn 4 = .ok (.ifnull 15, 3) := by decide +kernel
theorem dX2_isLateOn_7 : decode cX2_isLateOn 7 = .ok (.aload_n 0, 1) := by decide +kernel
theorem dX2_isLateOn_8 : decode cX2_isLateOn 8 = .ok (.getfield 26, 3) := by decide +kernel
theorem dX2_isLateOn_11 : decode cX2_isLateOn 11 = .ok (.iload_n 1, 1) := by decide +kernel
theorem dX2_isLateOn_12 : decode cX2_isLateOn 12 = .ok (.if_icmp .gt 7, 3) := by decide +kernel
theorem dX2_isLateOn_15 : decode cX2_isLateOn 15 = .ok (.iconst 1, 1) := by decide +kernel
theorem dX2_isLateOn_16 : decode cX2_isLateOn 16 = .ok (.goto 4, 3) := by decide +kernel
theorem dX2_isLateOn_19 : decode cX2_isLateOn 19 = .ok (.iconst 0, 1) := by decide +kernel
theorem dX2_isLateOn_20 : decode cX2_isLateOn 20 = .ok (.ireturn, 1) := by decide +kernel
theorem dX3_init_0 : decode cX3_init 0 = .ok (.aload_n 0, 1) := by decide +kernel
theorem dX3_init_1 : decode cX3_init 1 = .ok (.invokespecial 3, 3) := by decide +kernel
theorem dX3_init_4 : decode cX3_init 4 = .ok (.aload_n 0, 1) := by decide +kernel
theorem dX3_init_5 : decode cX3_init 5 = .ok (.iload_n 1, 1) := by decide +kernel
theorem dX3_init_6 : decode cX3_init 6 = .ok (.putfield 9, 3) := by decide +kernel
theorem dX3_init_9 : decode cX3_init 9 = .ok (.aload_n 0, 1) := by decide +kernel
theorem dX3_init_10 : decode cX3_init 10 = .ok (.iload_n 2, 1) := by decide +kernel
theorem dX3_init_11 : decode cX3_init 11 = .ok (.putfield 15, 3) := by decide +kernel
theorem dX3_init_14 : decode cX3_init 14 = .ok (.return_, 1) := by decide +kernel
theorem dX3_of_0 : decode cX3_of 0 = .ok (.iload_n 1, 1) := by decide +kernel
theorem dX3_of_1 : decode cX3_of 1 = .ok (.ifCond .ne 10, 3) := by decide +kernel
theorem dX3_of_4 : decode cX3_of 4 = .ok (.aload_n 0, 1) := by decide +kernel
theorem dX3_of_5 : decode cX3_of 5 = .ok (.getfield 9, 3) := by decide +kernel
theorem dX3_of_8 : decode cX3_of 8 = .ok (.goto 7, 3) := by decide +kernel
theorem dX3_of_11 : decode cX3_of 11 = .ok (.aload_n 0, 1) := by decide +kernel
theorem dX3_of_12 : decode cX3_of 12 = .ok (.getfield 15, 3) := by decide +kernel
theorem dX3_of_15 : decode cX3_of 15 = .ok (.ireturn, 1) := by decide +kernel
theorem dX3_add_0 : decode cX3_add 0 = .ok (.iload_n 1, 1) := by decide +kernel
theorem dX3_add_1 : decode cX3_add 1 = .ok (.ifCond .ne 16, 3) := by decide +kernel
theorem dX3_add_4 : decode cX3_add 4 = .ok (.aload_n 0, 1) := by decide +kernel
theorem dX3_add_5 : decode cX3_add 5 = .ok (.dup, 1) := by decide +kernel
theorem dX3_add_6 : decode cX3_add 6 = .ok (.getfield 9, 3) := by decide +kernel
theorem dX3_add_9 : decode cX3_add 9 = .ok (.iload_n 2, 1) := by decide +kernel
theorem dX3_add_10 : decode cX3_add 10 = .ok (.iadd, 1) := by decide +kernel
theorem dX3_add_11 : decode cX3_add 11 = .ok (.putfield 9, 3) := by decide +kernel
theorem dX3_add_14 : decode cX3_add 14 = .ok (.goto 13, 3) := by decide +kernel
theorem dX3_add_17 : decode cX3_add 17 = .ok (.aload_n 0, 1) := by decide +kernel
theorem dX3_add_18 : decode cX3_add 18 = .ok (.dup, 1) := by decide +kernel
theorem dX3_add_19 : decode cX3_add 19 = .ok (.getfield 15, 3) := by decide +kernel
theorem dX3_add_22 : decode cX3_add 22 = .ok (.iload_n 2, 1) := by decide +kernel
theorem dX3_add_23 : decode cX3_add 23 = .ok (.iadd, 1) := by decide +kernel
theorem dX3_add_24 : decode cX3_add 24 = .ok (.putfield 15, 3) := by decide +kernel
theorem dX3_add_27 : decode cX3_add 27 = .ok (.return_, 1) := by decide +kernel
theorem dX3_worth_0 : decode cX3_worth 0 = .ok (.aload_n 0, 1) := by decide +kernel
theorem dX3_worth_1 : decode cX3_worth 1 = .ok (.getfield 9, 3) := by decide +kernel
theorem dX3_worth_4 : decode cX3_worth 4 = .ok (.aload_n 0, 1) := by decide +kernel
theorem dX3_worth_5 : decode cX3_worth 5 = .ok (.getfield 15, 3) := by decide +kernel
theorem dX3_worth_8 : decode cX3_worth 8 = .ok (.iload_n 1, 1) := by decide +kernel
theorem dX3_worth_9 : decode cX3_worth 9 = .ok (.invokestatic 18, 3) := by decide +kernel
theorem dX3_worth_12 : decode cX3_worth 12 = .ok (.ireturn, 1) := by decide +kernel
theorem dX3_isBelowZero_0 : decode cX3_isBelowZero 0 = .ok (.aload_n 0, 1) := by decide +kernel
theorem dX3_isBelowZero_1 : decode cX3_isBelowZero 1 = .ok (.getfield 9, 3) := by decide +kernel
theorem dX3_isBelowZero_4 : decode cX3_isBelowZero 4 = .ok (.ifCond .lt 10, 3) := by decide +kernel
theorem dX3_isBelowZero_7 : decode cX3_isBelowZero 7 = .ok (.aload_n 0, 1) := by decide +kernel
theorem dX3_isBelowZero_8 : decode cX3_isBelowZero 8 = .ok (.getfield 15, 3) := by decide +kernel
theorem dX3_isBelowZero_11 : decode cX3_isBelowZero 11 = .ok (.ifCond .ge 7, 3) := by decide +kernel
theorem dX3_isBelowZero_14 : decode cX3_isBelowZero 14 = .ok (.iconst 1, 1) := by decide +kernel
theorem dX3_isBelowZero_15 : decode cX3_isBelowZero 15 = .ok (.goto 4, 3) := by decide +kernel
theorem dX3_isBelowZero_18 : decode cX3_isBelowZero 18 = .ok (.iconst 0, 1) := by decide +kernel
theorem dX3_isBelowZero_19 : decode cX3_isBelowZero 19 = .ok (.ireturn, 1) := by decide +kernel
theorem dX4_init_0 : decode cX4_init 0 = .ok (.aload_n 0, 1) := by decide +kernel
theorem dX4_init_1 : decode cX4_init 1 = .ok (.invokespecial 3, 3) := by decide +kernel
theorem dX4_init_4 : decode cX4_init 4 = .ok (.aload_n 0, 1) := by decide +kernel
theorem dX4_init_5 : decode cX4_init 5 = .ok (.iconst 5, 1) := by decide +kernel
theorem dX4_init_6 : decode cX4_init 6 = .ok (.newarray .int, 2) := by decide +kernel
theorem dX4_init_8 : decode cX4_init 8 = .ok (.putfield 9, 3) := by decide +kernel
theorem dX4_init_11 : decode cX4_init 11 = .ok (.return_, 1) := by decide +kernel
theorem dX4_manyOf_0 : decode cX4_manyOf 0 = .ok (.iload_n 1, 1) := by decide +kernel
theorem dX4_manyOf_1 : decode cX4_manyOf 1 = .ok (.ifCond .lt 21, 3) := by decide +kernel
theorem dX4_manyOf_4 : decode cX4_manyOf 4 = .ok (.iload_n 1, 1) := by decide +kernel
theorem dX4_manyOf_5 : decode cX4_manyOf 5 = .ok (.aload_n 0, 1) := by decide +kernel
theorem dX4_manyOf_6 : decode cX4_manyOf 6 = .ok (.getfield 9, 3) := by decide +kernel
theorem dX4_manyOf_9 : decode cX4_manyOf 9 = .ok (.arraylength, 1) := by decide +kernel
theorem dX4_manyOf_10 : decode cX4_manyOf 10 = .ok (.if_icmp .ge 12, 3) := by decide +kernel
theorem dX4_manyOf_13 : decode cX4_manyOf 13 = .ok (.aload_n 0, 1) := by decide +kernel
theorem dX4_manyOf_14 : decode cX4_manyOf 14 = .ok (.getfield 9, 3) := by decide +kernel
theorem dX4_manyOf_17 : decode cX4_manyOf 17 = .ok (.iload_n 1, 1) := by decide +kernel
theorem dX4_manyOf_18 : decode cX4_manyOf 18 = .ok (.iaload, 1) := by decide +kernel
theorem dX4_manyOf_19 : decode cX4_manyOf 19 = .ok (.goto 4, 3) := by decide +kernel
theorem dX4_manyOf_22 : decode cX4_manyOf 22 = .ok (.iconst 0, 1) := by decide +kernel
theorem dX4_manyOf_23 : decode cX4_manyOf 23 = .ok (.ireturn, 1) := by decide +kernel
theorem dX4_pounds_0 : decode cX4_pounds 0 = .ok (.bipush 20, 2) := by decide +kernel
theorem dX4_pounds_2 : decode cX4_pounds 2 = .ok (.aload_n 0, 1) := by decide +kernel
theorem dX4_pounds_3 : decode cX4_pounds 3 = .ok (.iconst 0, 1) := by decide +kernel
theorem dX4_pounds_4 : decode cX4_pounds 4 = .ok (.invokevirtual 15, 3) := by decide +kernel
theorem dX4_pounds_7 : decode cX4_pounds 7 = .ok (.imul, 1) := by decide +kernel
theorem dX4_pounds_8 : decode cX4_pounds 8 = .ok (.bipush 10, 2) := by decide +kernel
theorem dX4_pounds_10 : decode cX4_pounds 10 = .ok (.aload_n 0, 1) := by decide +kernel
theorem dX4_pounds_11 : decode cX4_pounds 11 = .ok (.iconst 1, 1) := by decide +kernel
theorem dX4_pounds_12 : decode cX4_pounds 12 = .ok (.invokevirtual 15, 3) := by decide +kernel
theorem dX4_pounds_15 : decode cX4_pounds 15 = .ok (.imul, 1) := by decide +kernel
theorem dX4_pounds_16 : decode cX4_pounds 16 = .ok (.iadd, 1) := by decide +kernel
theorem dX4_pounds_17 : decode cX4_pounds 17 = .ok (.iconst 5, 1) := by decide +kernel
theorem dX4_pounds_18 : decode cX4_pounds 18 = .ok (.aload_n 0, 1) := by decide +kernel
theorem dX4_pounds_19 : decode cX4_pounds 19 = .ok (.iconst 2, 1) := by decide +kernel
theorem dX4_pounds_20 : decode cX4_pounds 20 = .ok (.invokevirtual 15, 3) := by decide +kernel
theorem dX4_pounds_23 : decode cX4_pounds 23 = .ok (.imul, 1) := by decide +kernel
theorem dX4_pounds_24 : decode cX4_pounds 24 = .ok (.iadd, 1) := by decide +kernel
theorem dX4_pounds_25 : decode cX4_pounds 25 = .ok (.iconst 2, 1) := by decide +kernel
theorem dX4_pounds_26 : decode cX4_pounds 26 = .ok (.aload_n 0, 1) := by decide +kernel
theorem dX4_pounds_27 : decode cX4_pounds 27 = .ok (.iconst 3, 1) := by decide +kernel
theorem dX4_pounds_28 : decode cX4_pounds 28 = .ok (.invokevirtual 15, 3) := by decide +kernel
theorem dX4_pounds_31 : decode cX4_pounds 31 = .ok (.imul, 1) := by decide +kernel
theorem dX4_pounds_32 : decode cX4_pounds 32 = .ok (.iadd, 1) := by decide +kernel
theorem dX4_pounds_33 : decode cX4_pounds 33 = .ok (.aload_n 0, 1) := by decide +kernel
theorem dX4_pounds_34 : decode cX4_pounds 34 = .ok (.iconst 4, 1) := by decide +kernel
theorem dX4_pounds_35 : decode cX4_pounds 35 = .ok (.invokevirtual 15, 3) := by decide +kernel
theorem dX4_pounds_38 : decode cX4_pounds 38 = .ok (.iadd, 1) := by decide +kernel
theorem dX4_pounds_39 : decode cX4_pounds 39 = .ok (.ireturn, 1) := by decide +kernel
theorem dX4_fewestFor_0 : decode cX4_fewestFor 0 = .ok (.iconst (-1), 1) := by decide +kernel
theorem dX4_fewestFor_1 : decode cX4_fewestFor 1 = .ok (.istore_n 2, 1) := by decide +kernel
theorem dX4_fewestFor_2 : decode cX4_fewestFor 2 = .ok (.bipush 46, 2) := by decide +kernel
theorem dX4_fewestFor_4 : decode cX4_fewestFor 4 = .ok (.istore_n 3, 1) := by decide +kernel
theorem dX4_fewestFor_5 : decode cX4_fewestFor 5 = .ok (.aload_n 0, 1) := by decide +kernel
theorem dX4_fewestFor_6 : decode cX4_fewestFor 6 = .ok (.iconst 0, 1) := by decide +kernel
theorem dX4_fewestFor_7 : decode cX4_fewestFor 7 = .ok (.invokevirtual 15, 3) := by decide +kernel
theorem dX4_fewestFor_10 : decode cX4_fewestFor 10 = .ok (.iload_n 1, 1) := by decide +kernel
theorem dX4_fewestFor_11 : decode cX4_fewestFor 11 = .ok (.bipush 20, 2) := by decide +kernel
theorem dX4_fewestFor_13 : decode cX4_fewestFor 13 = .ok (.idiv, 1) := by decide +kernel
theorem dX4_fewestFor_14 : decode cX4_fewestFor 14 = .ok (.invokestatic 19, 3) := by decide +kernel
theorem dX4_fewestFor_17 : decode cX4_fewestFor 17 = .ok (.istore 4, 2) := by decide +kernel
theorem dX4_fewestFor_19 : decode cX4_fewestFor 19 = .ok (.iload 4, 2) := by decide +kernel
theorem dX4_fewestFor_21 : decode cX4_fewestFor 21 = .ok (.ifCond .lt 183, 3) := by decide +kernel
theorem dX4_fewestFor_24 : decode cX4_fewestFor 24 = .ok (.iload_n 1, 1) := by decide +kernel
theorem dX4_fewestFor_25 : decode cX4_fewestFor 25 = .ok (.bipush 20, 2) := by decide +kernel
theorem dX4_fewestFor_27 : decode cX4_fewestFor 27 = .ok (.iload 4, 2) := by decide +kernel
theorem dX4_fewestFor_29 : decode cX4_fewestFor 29 = .ok (.imul, 1) := by decide +kernel
theorem dX4_fewestFor_30 : decode cX4_fewestFor 30 = .ok (.isub, 1) := by decide +kernel
theorem dX4_fewestFor_31 : decode cX4_fewestFor 31 = .ok (.istore 5, 2) := by decide +kernel
theorem dX4_fewestFor_33 : decode cX4_fewestFor 33 = .ok (.aload_n 0, 1) := by decide +kernel
theorem dX4_fewestFor_34 : decode cX4_fewestFor 34 = .ok (.iconst 1, 1) := by decide +kernel
theorem dX4_fewestFor_35 : decode cX4_fewestFor 35 = .ok (.invokevirtual 15, 3) := by decide +kernel
theorem dX4_fewestFor_38 : decode cX4_fewestFor 38 = .ok (.iload 5, 2) := by decide +kernel
theorem dX4_fewestFor_40 : decode cX4_fewestFor 40 = .ok (.bipush 10, 2) := by decide +kernel
theorem dX4_fewestFor_42 : decode cX4_fewestFor 42 = .ok (.idiv, 1) := by decide +kernel
theorem dX4_fewestFor_43 : decode cX4_fewestFor 43 = .ok (.invokestatic 19, 3) := by decide +kernel
theorem dX4_fewestFor_46 : decode cX4_fewestFor 46 = .ok (.istore 6, 2) := by decide +kernel
theorem dX4_fewestFor_48 : decode cX4_fewestFor 48 = .ok (.iload 6, 2) := by decide +kernel
theorem dX4_fewestFor_50 : decode cX4_fewestFor 50 = .ok (.ifCond .lt 148, 3) := by decide +kernel
theorem dX4_fewestFor_53 : decode cX4_fewestFor 53 = .ok (.iload 5, 2) := by decide +kernel
theorem dX4_fewestFor_55 : decode cX4_fewestFor 55 = .ok (.bipush 10, 2) := by decide +kernel
theorem dX4_fewestFor_57 : decode cX4_fewestFor 57 = .ok (.iload 6, 2) := by decide +kernel
theorem dX4_fewestFor_59 : decode cX4_fewestFor 59 = .ok (.imul, 1) := by decide +kernel
theorem dX4_fewestFor_60 : decode cX4_fewestFor 60 = .ok (.isub, 1) := by decide +kernel
theorem dX4_fewestFor_61 : decode cX4_fewestFor 61 = .ok (.istore 7, 2) := by decide +kernel
theorem dX4_fewestFor_63 : decode cX4_fewestFor 63 = .ok (.aload_n 0, 1) := by decide +kernel
theorem dX4_fewestFor_64 : decode cX4_fewestFor 64 = .ok (.iconst 2, 1) := by decide +kernel
theorem dX4_fewestFor_65 : decode cX4_fewestFor 65 = .ok (.invokevirtual 15, 3) := by decide +kernel
theorem dX4_fewestFor_68 : decode cX4_fewestFor 68 = .ok (.iload 7, 2) := by decide +kernel
theorem dX4_fewestFor_70 : decode cX4_fewestFor 70 = .ok (.iconst 5, 1) := by decide +kernel
theorem dX4_fewestFor_71 : decode cX4_fewestFor 71 = .ok (.idiv, 1) := by decide +kernel
theorem dX4_fewestFor_72 : decode cX4_fewestFor 72 = .ok (.invokestatic 19, 3) := by decide +kernel
theorem dX4_fewestFor_75 : decode cX4_fewestFor 75 = .ok (.istore 8, 2) := by decide +kernel
theorem dX4_fewestFor_77 : decode cX4_fewestFor 77 = .ok (.iload 8, 2) := by decide +kernel
theorem dX4_fewestFor_79 : decode cX4_fewestFor 79 = .ok (.ifCond .lt 113, 3) := by decide +kernel
theorem dX4_fewestFor_82 : decode cX4_fewestFor 82 = .ok (.iload 7, 2) := by decide +kernel
theorem dX4_fewestFor_84 : decode cX4_fewestFor 84 = .ok (.iconst 5, 1) := by decide +kernel
theorem dX4_fewestFor_85 : decode cX4_fewestFor 85 = .ok (.iload 8, 2) := by decide +kernel
theorem dX4_fewestFor_87 : decode cX4_fewestFor 87 = .ok (.imul, 1) := by decide +kernel
theorem dX4_fewestFor_88 : decode cX4_fewestFor 88 = .ok (.isub, 1) := by decide +kernel
theorem dX4_fewestFor_89 : decode cX4_fewestFor 89 = .ok (.istore 9, 2) := by decide +kernel
theorem dX4_fewestFor_91 : decode cX4_fewestFor 91 = .ok (.aload_n 0, 1) := by decide +kernel
theorem dX4_fewestFor_92 : decode cX4_fewestFor 92 = .ok (.iconst 3, 1) := by decide +kernel
theorem dX4_fewestFor_93 : decode cX4_fewestFor 93 = .ok (.invokevirtual 15, 3) := by decide +kernel
theorem dX4_fewestFor_96 : decode cX4_fewestFor 96 = .ok (.iload 9, 2) := by decide +kernel
theorem dX4_fewestFor_98 : decode cX4_fewestFor 98 = .ok (.iconst 2, 1) := by decide +kernel
theorem dX4_fewestFor_99 : decode cX4_fewestFor 99 = .ok (.idiv, 1) := by decide +kernel
theorem dX4_fewestFor_100 : decode cX4_fewestFor 100 = .ok (.invokestatic 19, 3) := by decide +kernel
theorem dX4_fewestFor_103 : decode cX4_fewestFor 103 = .ok (.istore 10, 2) := by decide +kernel
theorem dX4_fewestFor_105 : decode cX4_fewestFor 105 = .ok (.iload 9, 2) := by decide +kernel
theorem dX4_fewestFor_107 : decode cX4_fewestFor 107 = .ok (.iconst 2, 1) := by decide +kernel
theorem dX4_fewestFor_108 : decode cX4_fewestFor 108 = .ok (.iload 10, 2) := by decide +kernel
theorem dX4_fewestFor_110 : decode cX4_fewestFor 110 = .ok (.imul, 1) := by decide +kernel
theorem dX4_fewestFor_111 : decode cX4_fewestFor 111 = .ok (.isub, 1) := by decide +kernel
theorem dX4_fewestFor_112 : decode cX4_fewestFor 112 = .ok (.istore 11, 2) := by decide +kernel
theorem dX4_fewestFor_114 : decode cX4_fewestFor 114 = .ok (.iload 11, 2) := by decide +kernel
theorem dX4_fewestFor_116 : decode cX4_fewestFor 116 = .ok (.aload_n 0, 1) := by decide +kernel
theorem dX4_fewestFor_117 : decode cX4_fewestFor 117 = .ok (.iconst 4, 1) := by decide +kernel
theorem dX4_fewestFor_118 : decode cX4_fewestFor 118 = .ok (.invokevirtual 15, 3) := by decide +kernel
theorem dX4_fewestFor_121 : decode cX4_fewestFor 121 = .ok (.if_icmp .gt 65, 3) := by decide +kernel
theorem dX4_fewestFor_124 : decode cX4_fewestFor 124 = .ok (.iload 4, 2) := by decide +kernel
theorem dX4_fewestFor_126 : decode cX4_fewestFor 126 = .ok (.iload 6, 2) := by decide +kernel
theorem dX4_fewestFor_128 : decode cX4_fewestFor 128 = .ok (.iadd, 1) := by decide +kernel
theorem dX4_fewestFor_129 : decode cX4_fewestFor 129 = .ok (.iload 8, 2) := by decide +kernel
theorem dX4_fewestFor_131 : decode cX4_fewestFor 131 = .ok (.iadd, 1) := by decide +kernel
theorem dX4_fewestFor_132 : decode cX4_fewestFor 132 = .ok (.iload 10, 2) := by decide +kernel
theorem dX4_fewestFor_134 : decode cX4_fewestFor 134 = .ok (.iadd, 1) := by decide +kernel
theorem dX4_fewestFor_135 : decode cX4_fewestFor 135 = .ok (.iload 11, 2) := by decide +kernel
theorem dX4_fewestFor_137 : decode cX4_fewestFor 137 = .ok (.iadd, 1) := by decide +kernel
theorem dX4_fewestFor_138 : decode cX4_fewestFor 138 = .ok (.iload_n 3, 1) := by decide +kernel
theorem dX4_fewestFor_139 : decode cX4_fewestFor 139 = .ok (.if_icmp .ge 47, 3) := by decide +kernel
theorem dX4_fewestFor_142 : decode cX4_fewestFor 142 = .ok (.iload 4, 2) := by decide +kernel
theorem dX4_fewestFor_144 : decode cX4_fewestFor 144 = .ok (.iload 6, 2) := by decide +kernel
theorem dX4_fewestFor_146 : decode cX4_fewestFor 146 = .ok (.iadd, 1) := by decide +kernel
theorem dX4_fewestFor_147 : decode cX4_fewestFor 147 = .ok (.iload 8, 2) := by decide +kernel
theorem dX4_fewestFor_149 : decode cX4_fewestFor 149 = .ok (.iadd, 1) := by decide +kernel
theorem dX4_fewestFor_150 : decode cX4_fewestFor 150 = .ok (.iload 10, 2) := by decide +kernel
theorem dX4_fewestFor_152 : decode cX4_fewestFor 152 = .ok (.iadd, 1) := by decide +kernel
theorem dX4_fewestFor_153 : decode cX4_fewestFor 153 = .ok (.iload 11, 2) := by decide +kernel
theorem dX4_fewestFor_155 : decode cX4_fewestFor 155 = .ok (.iadd, 1) := by decide +kernel
theorem dX4_fewestFor_156 : decode cX4_fewestFor 156 = .ok (.istore_n 3, 1) := by decide +kernel
theorem dX4_fewestFor_157 : decode cX4_fewestFor 157 = .ok (.iload 4, 2) := by decide +kernel
theorem dX4_fewestFor_159 : decode cX4_fewestFor 159 = .ok (.sipush 10000, 3) := by decide +kernel
theorem dX4_fewestFor_162 : decode cX4_fewestFor 162 = .ok (.imul, 1) := by decide +kernel
theorem dX4_fewestFor_163 : decode cX4_fewestFor 163 = .ok (.iload 6, 2) := by decide +kernel
theorem dX4_fewestFor_165 : decode cX4_fewestFor 165 = .ok (.sipush 1000, 3) := by decide +kernel
theorem dX4_fewestFor_168 : decode cX4_fewestFor 168 = .ok (.imul, 1) := by decide +kernel
theorem dX4_fewestFor_169 : decode cX4_fewestFor 169 = .ok (.iadd, 1) := by decide +kernel
theorem dX4_fewestFor_170 : decode cX4_fewestFor 170 = .ok (.iload 8, 2) := by decide +kernel
theorem dX4_fewestFor_172 : decode cX4_fewestFor 172 = .ok (.bipush 100, 2) := by decide +kernel
theorem dX4_fewestFor_174 : decode cX4_fewestFor 174 = .ok (.imul, 1) := by decide +kernel
theorem dX4_fewestFor_175 : decode cX4_fewestFor 175 = .ok (.iadd, 1) := by decide +kernel
theorem dX4_fewestFor_176 : decode cX4_fewestFor 176 = .ok (.iload 10, 2) := by decide +kernel
theorem dX4_fewestFor_178 : decode cX4_fewestFor 178 = .ok (.bipush 10, 2) := by decide +kernel
theorem dX4_fewestFor_180 : decode cX4_fewestFor 180 = .ok (.imul, 1) := by decide +kernel
theorem dX4_fewestFor_181 : decode cX4_fewestFor 181 = .ok (.iadd, 1) := by decide +kernel
theorem dX4_fewestFor_182 : decode cX4_fewestFor 182 = .ok (.iload 11, 2) := by decide +kernel
theorem dX4_fewestFor_184 : decode cX4_fewestFor 184 = .ok (.iadd, 1) := by decide +kernel
theorem dX4_fewestFor_185 : decode cX4_fewestFor 185 = .ok (.istore_n 2, 1) := by decide +kernel
theorem dX4_fewestFor_186 : decode cX4_fewestFor 186 = .ok (.iinc 8 (-1), 3) := by decide +kernel
theorem dX4_fewestFor_189 : decode cX4_fewestFor 189 = .ok (.goto (-112), 3) := by decide +kernel
theorem dX4_fewestFor_192 : decode cX4_fewestFor 192 = .ok (.iinc 6 (-1), 3) := by decide +kernel
theorem dX4_fewestFor_195 : decode cX4_fewestFor 195 = .ok (.goto (-147), 3) := by decide +kernel
theorem dX4_fewestFor_198 : decode cX4_fewestFor 198 = .ok (.iinc 4 (-1), 3) := by decide +kernel
theorem dX4_fewestFor_201 : decode cX4_fewestFor 201 = .ok (.goto (-182), 3) := by decide +kernel
theorem dX4_fewestFor_204 : decode cX4_fewestFor 204 = .ok (.iload_n 2, 1) := by decide +kernel
theorem dX4_fewestFor_205 : decode cX4_fewestFor 205 = .ok (.ireturn, 1) := by decide +kernel
theorem dX4_isBelowZero_0 : decode cX4_isBelowZero 0 = .ok (.aload_n 0, 1) := by decide +kernel
theorem dX4_isBelowZero_1 : decode cX4_isBelowZero 1 = .ok (.getfield 9, 3) := by decide +kernel
theorem dX4_isBelowZero_4 : decode cX4_isBelowZero 4 = .ok (.astore_n 1, 1) := by decide +kernel
theorem dX4_isBelowZero_5 : decode cX4_isBelowZero 5 = .ok (.aload_n 1, 1) := by decide +kernel
theorem dX4_isBelowZero_6 : decode cX4_isBelowZero 6 = .ok (.arraylength, 1) := by decide +kernel
theorem dX4_isBelowZero_7 : decode cX4_isBelowZero 7 = .ok (.istore_n 2, 1) := by decide +kernel
theorem dX4_isBelowZero_8 : decode cX4_isBelowZero 8 = .ok (.iconst 0, 1) := by decide +kernel
theorem dX4_isBelowZero_9 : decode cX4_isBelowZero 9 = .ok (.istore_n 3, 1) := by decide +kernel
theorem dX4_isBelowZero_10 : decode cX4_isBelowZero 10 = .ok (.iload_n 3, 1) := by decide +kernel
theorem dX4_isBelowZero_11 : decode cX4_isBelowZero 11 = .ok (.iload_n 2, 1) := by decide +kernel
theorem dX4_isBelowZero_12 : decode cX4_isBelowZero 12 = .ok (.if_icmp .ge 21, 3) := by decide +kernel
theorem dX4_isBelowZero_15 : decode cX4_isBelowZero 15 = .ok (.aload_n 1, 1) := by decide +kernel
theorem dX4_isBelowZero_16 : decode cX4_isBelowZero 16 = .ok (.iload_n 3, 1) := by decide +kernel
theorem dX4_isBelowZero_17 : decode cX4_isBelowZero 17 = .ok (.iaload, 1) := by decide +kernel
theorem dX4_isBelowZero_18 : decode cX4_isBelowZero 18 = .ok (.istore 4, 2) := by decide +kernel
theorem dX4_isBelowZero_20 : decode cX4_isBelowZero 20 = .ok (.iload 4, 2) := by decide +kernel
theorem dX4_isBelowZero_22 : decode cX4_isBelowZero 22 = .ok (.ifCond .ge 5, 3) := by decide +kernel
theorem dX4_isBelowZero_25 : decode cX4_isBelowZero 25 = .ok (.iconst 1, 1) := by decide +kernel
theorem dX4_isBelowZero_26 : decode cX4_isBelowZero 26 = .ok (.ireturn, 1) := by decide +kernel
theorem dX4_isBelowZero_27 : decode cX4_isBelowZero 27 = .ok (.iinc 3 1, 3) := by decide +kernel
theorem dX4_isBelowZero_30 : decode cX4_isBelowZero 30 = .ok (.goto (-20), 3) := by decide +kernel
theorem dX4_isBelowZero_33 : decode cX4_isBelowZero 33 = .ok (.iconst 0, 1) := by decide +kernel
theorem dX4_isBelowZero_34 : decode cX4_isBelowZero 34 = .ok (.ireturn, 1) := by decide +kernel
theorem dX5_init_0 : decode cX5_init 0 = .ok (.aload_n 0, 1) := by decide +kernel
theorem dX5_init_1 : decode cX5_init 1 = .ok (.invokespecial 1, 3) := by decide +kernel
theorem dX5_init_4 : decode cX5_init 4 = .ok (.aload_n 0, 1) := by decide +kernel
theorem dX5_init_5 : decode cX5_init 5 = .ok (.sipush 155, 3) := by decide +kernel
theorem dX5_init_8 : decode cX5_init 8 = .ok (.putfield 9, 3) := by decide +kernel
theorem dX5_init_11 : decode cX5_init 11 = .ok (.aload_n 0, 1) := by decide +kernel
theorem dX5_init_12 : decode cX5_init 12 = .ok (.iconst 4, 1) := by decide +kernel
theorem dX5_init_13 : decode cX5_init 13 = .ok (.anewarray 13, 3) := by decide +kernel
theorem dX5_init_16 : decode cX5_init 16 = .ok (.putfield 15, 3) := by decide +kernel
theorem dX5_init_19 : decode cX5_init 19 = .ok (.aload_n 0, 1) := by decide +kernel
theorem dX5_init_20 : decode cX5_init 20 = .ok (.bipush 6, 2) := by decide +kernel
theorem dX5_init_22 : decode cX5_init 22 = .ok (.anewarray 19, 3) := by decide +kernel
theorem dX5_init_25 : decode cX5_init 25 = .ok (.putfield 21, 3) := by decide +kernel
theorem dX5_init_28 : decode cX5_init 28 = .ok (.aload_n 0, 1) := by decide +kernel
theorem dX5_init_29 : decode cX5_init 29 = .ok (.bipush 10, 2) := by decide +kernel
theorem dX5_init_31 : decode cX5_init 31 = .ok (.anewarray 25, 3) := by decide +kernel
theorem dX5_init_34 : decode cX5_init 34 = .ok (.putfield 27, 3) := by decide +kernel
theorem dX5_init_37 : decode cX5_init 37 = .ok (.aload_n 0, 1) := by decide +kernel
theorem dX5_init_38 : decode cX5_init 38 = .ok (.new 31, 3) := by decide +kernel
theorem dX5_init_41 : decode cX5_init 41 = .ok (.dup, 1) := by decide +kernel
theorem dX5_init_42 : decode cX5_init 42 = .ok (.iconst 0, 1) := by decide +kernel
theorem dX5_init_43 : decode cX5_init 43 = .ok (.iconst 0, 1) := by decide +kernel
theorem dX5_init_44 : decode cX5_init 44 = .ok (.invokespecial 33, 3) := by decide +kernel
theorem dX5_init_47 : decode cX5_init 47 = .ok (.putfield 36, 3) := by decide +kernel
theorem dX5_init_50 : decode cX5_init 50 = .ok (.aload_n 0, 1) := by decide +kernel
theorem dX5_init_51 : decode cX5_init 51 = .ok (.new 31, 3) := by decide +kernel
theorem dX5_init_54 : decode cX5_init 54 = .ok (.dup, 1) := by decide +kernel
theorem dX5_init_55 : decode cX5_init 55 = .ok (.iconst 0, 1) := by decide +kernel
theorem dX5_init_56 : decode cX5_init 56 = .ok (.iconst 0, 1) := by decide +kernel
theorem dX5_init_57 : decode cX5_init 57 = .ok (.invokespecial 33, 3) := by decide +kernel
theorem dX5_init_60 : decode cX5_init 60 = .ok (.putfield 40, 3) := by decide +kernel
theorem dX5_init_63 : decode cX5_init 63 = .ok (.aload_n 0, 1) := by decide +kernel
theorem dX5_init_64 : decode cX5_init 64 = .ok (.new 31, 3) := by decide +kernel
theorem dX5_init_67 : decode cX5_init 67 = .ok (.dup, 1) := by decide +kernel
theorem dX5_init_68 : decode cX5_init 68 = .ok (.iconst 0, 1) := by decide +kernel
theorem dX5_init_69 : decode cX5_init 69 = .ok (.iconst 0, 1) := by decide +kernel
theorem dX5_init_70 : decode cX5_init 70 = .ok (.invokespecial 33, 3) := by decide +kernel
theorem dX5_init_73 : decode cX5_init 73 = .ok (.putfield 43, 3) := by decide +kernel
theorem dX5_init_76 : decode cX5_init 76 = .ok (.aload_n 0, 1) := by decide +kernel
theorem dX5_init_77 : decode cX5_init 77 = .ok (.new 31, 3) := by decide +kernel
theorem dX5_init_80 : decode cX5_init 80 = .ok (.dup, 1) := by decide +kernel
theorem dX5_init_81 : decode cX5_init 81 = .ok (.iconst 0, 1) := by decide +kernel
theorem dX5_init_82 : decode cX5_init 82 = .ok (.iconst 0, 1) := by decide +kernel
theorem dX5_init_83 : decode cX5_init 83 = .ok (.invokespecial 33, 3) := by decide +kernel
theorem dX5_init_86 : decode cX5_init 86 = .ok (.putfield 46, 3) := by decide +kernel
theorem dX5_init_89 : decode cX5_init 89 = .ok (.return_, 1) := by decide +kernel
theorem dX5_country_0 : decode cX5_country 0 = .ok (.iload_n 1, 1) := by decide +kernel
theorem dX5_country_1 : decode cX5_country 1 = .ok (.iload_n 2, 1) := by decide +kernel
theorem dX5_country_2 : decode cX5_country 2 = .ok (.invokestatic 49, 3) := by decide +kernel
