theorem dJx35411_checkForComodification_da8c8_18 : decode cJx35411_checkForComodification_da8c8 18 = .ok (.invokespecial 43, 3) := by decide +kernel
theorem dJx35411_checkForComodification_da8c8_21 : decode cJx35411_checkForComodification_da8c8 21 = .ok (.athrow, 1) := by decide +kernel
theorem dJx35411_checkForComodification_da8c8_22 : decode cJx35411_checkForComodification_da8c8 22 = .ok (.return_, 1) := by decide +kernel
theorem dJx4a65c_init_da8c8_0 : decode cJx4a65c_init_da8c8 0 = .ok (.aload_n 0, 1) := by decide +kernel
theorem dJx4a65c_init_da8c8_1 : decode cJx4a65c_init_da8c8 1 = .ok (.invokespecial 1, 3) := by decide +kernel
theorem dJx4a65c_init_da8c8_4 : decode cJx4a65c_init_da8c8 4 = .ok (.aload_n 0, 1) := by decide +kernel
theorem dJx4a65c_init_da8c8_5 : decode cJx4a65c_init_da8c8 5 = .ok (.getstatic 39, 3) := by decide +kernel
theorem dJx4a65c_init_da8c8_8 : decode cJx4a65c_init_da8c8 8 = .ok (.putfield 9, 3) := by decide +kernel
theorem dJx4a65c_init_da8c8_11 : decode cJx4a65c_init_da8c8 11 = .ok (.return_, 1) := by decide +kernel
theorem dJx4a65c_grow_92f84_0 : decode cJx4a65c_grow_92f84 0 = .ok (.aload_n 0, 1) := by decide +kernel
theorem dJx4a65c_grow_92f84_1 : decode cJx4a65c_grow_92f84 1 = .ok (.getfield 9, 3) := by decide +kernel
theorem dJx4a65c_grow_92f84_4 : decode cJx4a65c_grow_92f84 4 = .ok (.arraylength, 1) := by decide +kernel
theorem dJx4a65c_grow_92f84_5 : decode cJx4a65c_grow_92f84 5 = .ok (.istore_n 2, 1) := by decide +kernel
theorem dJx4a65c_grow_92f84_6 : decode cJx4a65c_grow_92f84 6 = .ok (.iload_n 2, 1) := by decide +kernel
theorem dJx4a65c_grow_92f84_7 : decode cJx4a65c_grow_92f84 7 = .ok (.ifCond .gt 13, 3) := by decide +kernel
theorem dJx4a65c_grow_92f84_10 : decode cJx4a65c_grow_92f84 10 = .ok (.aload_n 0, 1) := by decide +kernel
theorem dJx4a65c_grow_92f84_11 : decode cJx4a65c_grow_92f84 11 = .ok (.getfield 9, 3) := by decide +kernel
theorem dJx4a65c_grow_92f84_14 : decode cJx4a65c_grow_92f84 14 = .ok (.getstatic 39, 3) := by decide +kernel
theorem dJx4a65c_grow_92f84_17 : decode cJx4a65c_grow_92f84 17 = .ok (.if_acmp .eq 28, 3) := by decide +kernel
theorem dJx4a65c_grow_92f84_20 : decode cJx4a65c_grow_92f84 20 = .ok (.iload_n 2, 1) := by decide +kernel
theorem dJx4a65c_grow_92f84_21 : decode cJx4a65c_grow_92f84 21 = .ok (.iload_n 1, 1) := by decide +kernel
theorem dJx4a65c_grow_92f84_22 : decode cJx4a65c_grow_92f84 22 = .ok (.iload_n 2, 1) := by decide +kernel
theorem dJx4a65c_grow_92f84_23 : decode cJx4a65c_grow_92f84 23 = .ok (.isub, 1) := by decide +kernel
theorem dJx4a65c_grow_92f84_24 : decode cJx4a65c_grow_92f84 24 = .ok (.iload_n 2, 1) := by decide +kernel
theorem dJx4a65c_grow_92f84_25 : decode cJx4a65c_grow_92f84 25 = .ok (.iconst 1, 1) := by decide +kernel
theorem dJx4a65c_grow_92f84_26 : decode cJx4a65c_grow_92f84 26 = .ok (.ishr, 1) := by decide +kernel
theorem dJx4a65c_grow_92f84_27 : decode cJx4a65c_grow_92f84 27 = .ok (.invokestatic 73, 3) := by decide +kernel
theorem dJx4a65c_grow_92f84_30 : decode cJx4a65c_grow_92f84 30 = .ok (.istore_n 3, 1) := by decide +kernel
theorem dJx4a65c_grow_92f84_31 : decode cJx4a65c_grow_92f84 31 = .ok (.aload_n 0, 1) := by decide +kernel
theorem dJx4a65c_grow_92f84_32 : decode cJx4a65c_grow_92f84 32 = .ok (.aload_n 0, 1) := by decide +kernel
theorem dJx4a65c_grow_92f84_33 : decode cJx4a65c_grow_92f84 33 = .ok (.getfield 9, 3) := by decide +kernel
theorem dJx4a65c_grow_92f84_36 : decode cJx4a65c_grow_92f84 36 = .ok (.iload_n 3, 1) := by decide +kernel
theorem dJx4a65c_grow_92f84_37 : decode cJx4a65c_grow_92f84 37 = .ok (.invokestatic 66, 3) := by decide +kernel
theorem dJx4a65c_grow_92f84_40 : decode cJx4a65c_grow_92f84 40 = .ok (.dup_x1, 1) := by decide +kernel
theorem dJx4a65c_grow_92f84_41 : decode cJx4a65c_grow_92f84 41 = .ok (.putfield 9, 3) := by decide +kernel
theorem dJx4a65c_grow_92f84_44 : decode cJx4a65c_grow_92f84 44 = .ok (.areturn, 1) := by decide +kernel
theorem dJx4a65c_grow_92f84_45 : decode cJx4a65c_grow_92f84 45 = .ok (.aload_n 0, 1) := by decide +kernel
theorem dJx4a65c_grow_92f84_46 : decode cJx4a65c_grow_92f84 46 = .ok (.bipush 10, 2) := by decide +kernel
theorem dJx4a65c_grow_92f84_48 : decode cJx4a65c_grow_92f84 48 = .ok (.iload_n 1, 1) := by decide +kernel
theorem dJx4a65c_grow_92f84_49 : decode cJx4a65c_grow_92f84 49 = .ok (.invokestatic 79, 3) := by decide +kernel
theorem dJx4a65c_grow_92f84_52 : decode cJx4a65c_grow_92f84 52 = .ok (.anewarray 7, 3) := by decide +kernel
theorem dJx4a65c_grow_92f84_55 : decode cJx4a65c_grow_92f84 55 = .ok (.dup_x1, 1) := by decide +kernel
theorem dJx4a65c_grow_92f84_56 : decode cJx4a65c_grow_92f84 56 = .ok (.putfield 9, 3) := by decide +kernel
theorem dJx4a65c_grow_92f84_59 : decode cJx4a65c_grow_92f84 59 = .ok (.areturn, 1) := by decide +kernel
theorem dJx4a65c_grow_d5877_0 : decode cJx4a65c_grow_d5877 0 = .ok (.aload_n 0, 1) := by decide +kernel
theorem dJx4a65c_grow_d5877_1 : decode cJx4a65c_grow_d5877 1 = .ok (.aload_n 0, 1) := by decide +kernel
theorem dJx4a65c_grow_d5877_2 : decode cJx4a65c_grow_d5877 2 = .ok (.getfield 48, 3) := by decide +kernel
theorem dJx4a65c_grow_d5877_5 : decode cJx4a65c_grow_d5877 5 = .ok (.iconst 1, 1) := by decide +kernel
theorem dJx4a65c_grow_d5877_6 : decode cJx4a65c_grow_d5877 6 = .ok (.iadd, 1) := by decide +kernel
theorem dJx4a65c_grow_d5877_7 : decode cJx4a65c_grow_d5877 7 = .ok (.invokevirtual 69, 3) := by decide +kernel
theorem dJx4a65c_grow_d5877_10 : decode cJx4a65c_grow_d5877 10 = .ok (.areturn, 1) := by decide +kernel
theorem dJx4a65c_size_8abf5_0 : decode cJx4a65c_size_8abf5 0 = .ok (.aload_n 0, 1) := by decide +kernel
theorem dJx4a65c_size_8abf5_1 : decode cJx4a65c_size_8abf5 1 = .ok (.getfield 48, 3) := by decide +kernel
theorem dJx4a65c_size_8abf5_4 : decode cJx4a65c_size_8abf5 4 = .ok (.ireturn, 1) := by decide +kernel
theorem dJx4a65c_elementData_915e3_0 : decode cJx4a65c_elementData_915e3 0 = .ok (.aload_n 0, 1) := by decide +kernel
theorem dJx4a65c_elementData_915e3_1 : decode cJx4a65c_elementData_915e3 1 = .ok (.getfield 9, 3) := by decide +kernel
theorem dJx4a65c_elementData_915e3_4 : decode cJx4a65c_elementData_915e3 4 = .ok (.iload_n 1, 1) := by decide +kernel
theorem dJx4a65c_elementData_915e3_5 : decode cJx4a65c_elementData_915e3 5 = .ok (.aaload, 1) := by decide +kernel
theorem dJx4a65c_elementData_915e3_6 : decode cJx4a65c_elementData_915e3 6 = .ok (.areturn, 1) := by decide +kernel
theorem dJx4a65c_get_915e3_0 : decode cJx4a65c_get_915e3 0 = .ok (.iload_n 1, 1) := by decide +kernel
theorem dJx4a65c_get_915e3_1 : decode cJx4a65c_get_915e3 1 = .ok (.aload_n 0, 1) := by decide +kernel
theorem dJx4a65c_get_915e3_2 : decode cJx4a65c_get_915e3 2 = .ok (.getfield 48, 3) := by decide +kernel
theorem dJx4a65c_get_915e3_5 : decode cJx4a65c_get_915e3 5 = .ok (.invokestatic 118, 3) := by decide +kernel
theorem dJx4a65c_get_915e3_8 : decode cJx4a65c_get_915e3 8 = .ok (.pop, 1) := by decide +kernel
theorem dJx4a65c_get_915e3_9 : decode cJx4a65c_get_915e3 9 = .ok (.aload_n 0, 1) := by decide +kernel
theorem dJx4a65c_get_915e3_10 : decode cJx4a65c_get_915e3 10 = .ok (.iload_n 1, 1) := by decide +kernel
theorem dJx4a65c_get_915e3_11 : decode cJx4a65c_get_915e3 11 = .ok (.invokevirtual 123, 3) := by decide +kernel
theorem dJx4a65c_get_915e3_14 : decode cJx4a65c_get_915e3 14 = .ok (.areturn, 1) := by decide +kernel
theorem dJx4a65c_add_72be8_0 : decode cJx4a65c_add_72be8 0 = .ok (.iload_n 3, 1) := by decide +kernel
theorem dJx4a65c_add_72be8_1 : decode cJx4a65c_add_72be8 1 = .ok (.aload_n 2, 1) := by decide +kernel
theorem dJx4a65c_add_72be8_2 : decode cJx4a65c_add_72be8 2 = .ok (.arraylength, 1) := by decide +kernel
theorem dJx4a65c_add_72be8_3 : decode cJx4a65c_add_72be8 3 = .ok (.if_icmp .ne 8, 3) := by decide +kernel
theorem dJx4a65c_add_72be8_6 : decode cJx4a65c_add_72be8 6 = .ok (.aload_n 0, 1) := by decide +kernel
theorem dJx4a65c_add_72be8_7 : decode cJx4a65c_add_72be8 7 = .ok (.invokevirtual 129, 3) := by decide +kernel
theorem dJx4a65c_add_72be8_10 : decode cJx4a65c_add_72be8 10 = .ok (.astore_n 2, 1) := by decide +kernel
theorem dJx4a65c_add_72be8_11 : decode cJx4a65c_add_72be8 11 = .ok (.aload_n 2, 1) := by decide +kernel
theorem dJx4a65c_add_72be8_12 : decode cJx4a65c_add_72be8 12 = .ok (.iload_n 3, 1) := by decide +kernel
theorem dJx4a65c_add_72be8_13 : decode cJx4a65c_add_72be8 13 = .ok (.aload_n 1, 1) := by decide +kernel
theorem dJx4a65c_add_72be8_14 : decode cJx4a65c_add_72be8 14 = .ok (.aastore, 1) := by decide +kernel
theorem dJx4a65c_add_72be8_15 : decode cJx4a65c_add_72be8 15 = .ok (.aload_n 0, 1) := by decide +kernel
theorem dJx4a65c_add_72be8_16 : decode cJx4a65c_add_72be8 16 = .ok (.iload_n 3, 1) := by decide +kernel
theorem dJx4a65c_add_72be8_17 : decode cJx4a65c_add_72be8 17 = .ok (.iconst 1, 1) := by decide +kernel
theorem dJx4a65c_add_72be8_18 : decode cJx4a65c_add_72be8 18 = .ok (.iadd, 1) := by decide +kernel
theorem dJx4a65c_add_72be8_19 : decode cJx4a65c_add_72be8 19 = .ok (.putfield 48, 3) := by decide +kernel
theorem dJx4a65c_add_72be8_22 : decode cJx4a65c_add_72be8 22 = .ok (.return_, 1) := by decide +kernel
theorem dJx4a65c_add_9ea2d_0 : decode cJx4a65c_add_9ea2d 0 = .ok (.aload_n 0, 1) := by decide +kernel
theorem dJx4a65c_add_9ea2d_1 : decode cJx4a65c_add_9ea2d 1 = .ok (.dup, 1) := by decide +kernel
theorem dJx4a65c_add_9ea2d_2 : decode cJx4a65c_add_9ea2d 2 = .ok (.getfield 63, 3) := by decide +kernel
theorem dJx4a65c_add_9ea2d_5 : decode cJx4a65c_add_9ea2d 5 = .ok (.iconst 1, 1) := by decide +kernel
theorem dJx4a65c_add_9ea2d_6 : decode cJx4a65c_add_9ea2d 6 = .ok (.iadd, 1) := by decide +kernel
theorem dJx4a65c_add_9ea2d_7 : decode cJx4a65c_add_9ea2d 7 = .ok (.putfield 63, 3) := by decide +kernel
theorem dJx4a65c_add_9ea2d_10 : decode cJx4a65c_add_9ea2d 10 = .ok (.aload_n 0, 1) := by decide +kernel
theorem dJx4a65c_add_9ea2d_11 : decode cJx4a65c_add_9ea2d 11 = .ok (.aload_n 1, 1) := by decide +kernel
theorem dJx4a65c_add_9ea2d_12 : decode cJx4a65c_add_9ea2d 12 = .ok (.aload_n 0, 1) := by decide +kernel
theorem dJx4a65c_add_9ea2d_13 : decode cJx4a65c_add_9ea2d 13 = .ok (.getfield 9, 3) := by decide +kernel
theorem dJx4a65c_add_9ea2d_16 : decode cJx4a65c_add_9ea2d 16 = .ok (.aload_n 0, 1) := by decide +kernel
theorem dJx4a65c_add_9ea2d_17 : decode cJx4a65c_add_9ea2d 17 = .ok (.getfield 48, 3) := by decide +kernel
theorem dJx4a65c_add_9ea2d_20 : decode cJx4a65c_add_9ea2d 20 = .ok (.invokevirtual 131, 3) := by decide +kernel
theorem dJx4a65c_add_9ea2d_23 : decode cJx4a65c_add_9ea2d 23 = .ok (.iconst 1, 1) := by decide +kernel
theorem dJx4a65c_add_9ea2d_24 : decode cJx4a65c_add_9ea2d 24 = .ok (.ireturn, 1) := by decide +kernel
theorem dJx4a65c_iterator_32c93_0 : decode cJx4a65c_iterator_32c93 0 = .ok (.new 267, 3) := by decide +kernel
theorem dJx4a65c_iterator_32c93_3 : decode cJx4a65c_iterator_32c93 3 = .ok (.dup, 1) := by decide +kernel
theorem dJx4a65c_iterator_32c93_4 : decode cJx4a65c_iterator_32c93 4 = .ok (.aload_n 0, 1) := by decide +kernel
theorem dJx4a65c_iterator_32c93_5 : decode cJx4a65c_iterator_32c93 5 = .ok (.invokespecial 269, 3) := by decide +kernel
theorem dJx4a65c_iterator_32c93_8 : decode cJx4a65c_iterator_32c93 8 = .ok (.areturn, 1) := by decide +kernel
theorem dJ7_copyOf_1904c_0 : decode cJ7_copyOf_1904c 0 = .ok (.aload_n 0, 1) := by decide +kernel
theorem dJ7_copyOf_1904c_1 : decode cJ7_copyOf_1904c 1 = .ok (.iload_n 1, 1) := by decide +kernel
theorem dJ7_copyOf_1904c_2 : decode cJ7_copyOf_1904c 2 = .ok (.aload_n 0, 1) := by decide +kernel
theorem dJ7_copyOf_1904c_3 : decode cJ7_copyOf_1904c 3 = .ok (.invokevirtual 86, 3) := by decide +kernel
theorem dJ7_copyOf_1904c_6 : decode cJ7_copyOf_1904c 6 = .ok (.invokestatic 300, 3) := by decide +kernel
theorem dJ7_copyOf_1904c_9 : decode cJ7_copyOf_1904c 9 = .ok (.areturn, 1) := by decide +kernel
theorem dJ7_copyOf_6403c_0 : decode cJ7_copyOf_6403c 0 = .ok (.aload_n 2, 1) := by decide +kernel
theorem dJ7_copyOf_6403c_1 : decode cJ7_copyOf_6403c 1 = .ok (.ldc 110, 2) := by decide +kernel
theorem dJ7_copyOf_6403c_3 : decode cJ7_copyOf_6403c 3 = .ok (.if_acmp .ne 10, 3) := by decide +kernel
theorem dJ7_copyOf_6403c_6 : decode cJ7_copyOf_6403c 6 = .ok (.iload_n 1, 1) := by decide +kernel
theorem dJ7_copyOf_6403c_7 : decode cJ7_copyOf_6403c 7 = .ok (.anewarray 2, 3) := by decide +kernel
theorem dJ7_copyOf_6403c_10 : decode cJ7_copyOf_6403c 10 = .ok (.goto 14, 3) := by decide +kernel
theorem dJ7_copyOf_6403c_13 : decode cJ7_copyOf_6403c 13 = .ok (.aload_n 2, 1) := by decide +kernel
theorem dJ7_copyOf_6403c_14 : decode cJ7_copyOf_6403c 14 = .ok (.invokevirtual 90, 3) := by decide +kernel
theorem dJ7_copyOf_6403c_17 : decode cJ7_copyOf_6403c 17 = .ok (.iload_n 1, 1) := by decide +kernel
theorem dJ7_copyOf_6403c_18 : decode cJ7_copyOf_6403c 18 = .ok (.invokestatic 95, 3) := by decide +kernel
theorem dJ7_copyOf_6403c_21 : decode cJ7_copyOf_6403c 21 = .ok (.checkcast 110, 3) := by decide +kernel
theorem dJ7_copyOf_6403c_24 : decode cJ7_copyOf_6403c 24 = .ok (.astore_n 3, 1) := by decide +kernel
theorem dJ7_copyOf_6403c_25 : decode cJ7_copyOf_6403c 25 = .ok (.aload_n 0, 1) := by decide +kernel
theorem dJ7_copyOf_6403c_26 : decode cJ7_copyOf_6403c 26 = .ok (.iconst 0, 1) := by decide +kernel
theorem dJ7_copyOf_6403c_27 : decode cJ7_copyOf_6403c 27 = .ok (.aload_n 3, 1) := by decide +kernel
theorem dJ7_copyOf_6403c_28 : decode cJ7_copyOf_6403c 28 = .ok (.iconst 0, 1) := by decide +kernel
theorem dJ7_copyOf_6403c_29 : decode cJ7_copyOf_6403c 29 = .ok (.aload_n 0, 1) := by decide +kernel
theorem dJ7_copyOf_6403c_30 : decode cJ7_copyOf_6403c 30 = .ok (.arraylength, 1) := by decide +kernel
theorem dJ7_copyOf_6403c_31 : decode cJ7_copyOf_6403c 31 = .ok (.iload_n 1, 1) := by decide +kernel
theorem dJ7_copyOf_6403c_32 : decode cJ7_copyOf_6403c 32 = .ok (.invokestatic 304, 3) := by decide +kernel
theorem dJ7_copyOf_6403c_35 : decode cJ7_copyOf_6403c 35 = .ok (.invokestatic 150, 3) := by decide +kernel
theorem dJ7_copyOf_6403c_38 : decode cJ7_copyOf_6403c 38 = .ok (.aload_n 3, 1) := by decide +kernel
theorem dJ7_copyOf_6403c_39 : decode cJ7_copyOf_6403c 39 = .ok (.areturn, 1) := by decide +kernel
theorem dJ7_copyOf_9075b_0 : decode cJ7_copyOf_9075b 0 = .ok (.iload_n 1, 1) := by decide +kernel
theorem dJ7_copyOf_9075b_1 : decode cJ7_copyOf_9075b 1 = .ok (.aload_n 0, 1) := by decide +kernel
theorem dJ7_copyOf_9075b_2 : decode cJ7_copyOf_9075b 2 = .ok (.arraylength, 1) := by decide +kernel
theorem dJ7_copyOf_9075b_3 : decode cJ7_copyOf_9075b 3 = .ok (.if_icmp .ne 11, 3) := by decide +kernel
theorem dJ7_copyOf_9075b_6 : decode cJ7_copyOf_9075b 6 = .ok (.aload_n 0, 1) := by decide +kernel
theorem dJ7_copyOf_9075b_7 : decode cJ7_copyOf_9075b 7 = .ok (.invokevirtual 310, 3) := by decide +kernel
theorem dJ7_copyOf_9075b_10 : decode cJ7_copyOf_9075b 10 = .ok (.checkcast 311, 3) := by decide +kernel
theorem dJ7_copyOf_9075b_13 : decode cJ7_copyOf_9075b 13 = .ok (.areturn, 1) := by decide +kernel
theorem dJ7_copyOf_9075b_14 : decode cJ7_copyOf_9075b 14 = .ok (.iload_n 1, 1) := by decide +kernel
theorem dJ7_copyOf_9075b_15 : decode cJ7_copyOf_9075b 15 = .ok (.newarray .byte, 2) := by decide +kernel
theorem dJ7_copyOf_9075b_17 : decode cJ7_copyOf_9075b 17 = .ok (.astore_n 2, 1) := by decide +kernel
theorem dJ7_copyOf_9075b_18 : decode cJ7_copyOf_9075b 18 = .ok (.aload_n 0, 1) := by decide +kernel
theorem dJ7_copyOf_9075b_19 : decode cJ7_copyOf_9075b 19 = .ok (.iconst 0, 1) := by decide +kernel
theorem dJ7_copyOf_9075b_20 : decode cJ7_copyOf_9075b 20 = .ok (.aload_n 2, 1) := by decide +kernel
theorem dJ7_copyOf_9075b_21 : decode cJ7_copyOf_9075b 21 = .ok (.iconst 0, 1) := by decide +kernel
theorem dJ7_copyOf_9075b_22 : decode cJ7_copyOf_9075b 22 = .ok (.aload_n 0, 1) := by decide +kernel
theorem dJ7_copyOf_9075b_23 : decode cJ7_copyOf_9075b 23 = .ok (.arraylength, 1) := by decide +kernel
theorem dJ7_copyOf_9075b_24 : decode cJ7_copyOf_9075b 24 = .ok (.iload_n 1, 1) := by decide +kernel
theorem dJ7_copyOf_9075b_25 : decode cJ7_copyOf_9075b 25 = .ok (.invokestatic 304, 3) := by decide +kernel
theorem dJ7_copyOf_9075b_28 : decode cJ7_copyOf_9075b 28 = .ok (.invokestatic 150, 3) := by decide +kernel
theorem dJ7_copyOf_9075b_31 : decode cJ7_copyOf_9075b 31 = .ok (.aload_n 2, 1) := by decide +kernel
theorem dJ7_copyOf_9075b_32 : decode cJ7_copyOf_9075b 32 = .ok (.areturn, 1) := by decide +kernel
theorem dJ7_checkLength_df160_0 : decode cJ7_checkLength_df160 0 = .ok (.iload_n 1, 1) := by decide +kernel
theorem dJ7_checkLength_df160_1 : decode cJ7_checkLength_df160 1 = .ok (.iload_n 0, 1) := by decide +kernel
theorem dJ7_checkLength_df160_2 : decode cJ7_checkLength_df160 2 = .ok (.if_icmp .ge 35, 3) := by decide +kernel
theorem dJ7_checkLength_df160_5 : decode cJ7_checkLength_df160 5 = .ok (.new 43, 3) := by decide +kernel
theorem dJ7_checkLength_df160_8 : decode cJ7_checkLength_df160 8 = .ok (.dup, 1) := by decide +kernel
theorem dJ7_checkLength_df160_9 : decode cJ7_checkLength_df160 9 = .ok (.new 45, 3) := by decide +kernel
theorem dJ7_checkLength_df160_12 : decode cJ7_checkLength_df160 12 = .ok (.dup, 1) := by decide +kernel
theorem dJ7_checkLength_df160_13 : decode cJ7_checkLength_df160 13 = .ok (.invokespecial 47, 3) := by decide +kernel
theorem dJ7_checkLength_df160_16 : decode cJ7_checkLength_df160 16 = .ok (.iload_n 0, 1) := by decide +kernel
theorem dJ7_checkLength_df160_17 : decode cJ7_checkLength_df160 17 = .ok (.invokevirtual 54, 3) := by decide +kernel
theorem dJ7_checkLength_df160_20 : decode cJ7_checkLength_df160 20 = .ok (.ldc_w 337, 3) := by decide +kernel
theorem dJ7_checkLength_df160_23 : decode cJ7_checkLength_df160 23 = .ok (.invokevirtual 50, 3) := by decide +kernel
theorem dJ7_checkLength_df160_26 : decode cJ7_checkLength_df160 26 = .ok (.iload_n 1, 1) := by decide +kernel
theorem dJ7_checkLength_df160_27 : decode cJ7_checkLength_df160 27 = .ok (.invokevirtual 54, 3) := by decide +kernel
theorem dJ7_checkLength_df160_30 : decode cJ7_checkLength_df160 30 = .ok (.invokevirtual 61, 3) := by decide +kernel
theorem dJ7_checkLength_df160_33 : decode cJ7_checkLength_df160 33 = .ok (.invokespecial 65, 3) := by decide +kernel
theorem dJ7_checkLength_df160_36 : decode cJ7_checkLength_df160 36 = .ok (.athrow, 1) := by decide +kernel
theorem dJ7_checkLength_df160_37 : decode cJ7_checkLength_df160 37 = .ok (.return_, 1) := by decide +kernel
theorem dJ7_copyOfRange_39247_0 : decode cJ7_copyOfRange_39247 0 = .ok (.iload_n 1, 1) := by decide +kernel
theorem dJ7_copyOfRange_39247_1 : decode cJ7_copyOfRange_39247 1 = .ok (.ifCond .ne 9, 3) := by decide +kernel
theorem dJ7_copyOfRange_39247_4 : decode cJ7_copyOfRange_39247 4 = .ok (.iload_n 2, 1) := by decide +kernel
theorem dJ7_copyOfRange_39247_5 : decode cJ7_copyOfRange_39247 5 = .ok (.aload_n 0, 1) := by decide +kernel
theorem dJ7_copyOfRange_39247_6 : decode cJ7_copyOfRange_39247 6 = .ok (.arraylength, 1) := by decide +kernel
theorem dJ7_copyOfRange_39247_7 : decode cJ7_copyOfRange_39247 7 = .ok (.if_icmp .eq 10, 3) := by decide +kernel
theorem dJ7_copyOfRange_39247_10 : decode cJ7_copyOfRange_39247 10 = .ok (.aload_n 0, 1) := by decide +kernel
theorem dJ7_copyOfRange_39247_11 : decode cJ7_copyOfRange_39247 11 = .ok (.iload_n 1, 1) := by decide +kernel
theorem dJ7_copyOfRange_39247_12 : decode cJ7_copyOfRange_39247 12 = .ok (.iload_n 2, 1) := by decide +kernel
theorem dJ7_copyOfRange_39247_13 : decode cJ7_copyOfRange_39247 13 = .ok (.invokestatic 339, 3) := by decide +kernel
theorem dJ7_copyOfRange_39247_16 : decode cJ7_copyOfRange_39247 16 = .ok (.areturn, 1) := by decide +kernel
theorem dJ7_copyOfRange_39247_17 : decode cJ7_copyOfRange_39247 17 = .ok (.aload_n 0, 1) := by decide +kernel
theorem dJ7_copyOfRange_39247_18 : decode cJ7_copyOfRange_39247 18 = .ok (.invokevirtual 310, 3) := by decide +kernel
theorem dJ7_copyOfRange_39247_21 : decode cJ7_copyOfRange_39247 21 = .ok (.checkcast 311, 3) := by decide +kernel
theorem dJ7_copyOfRange_39247_24 : decode cJ7_copyOfRange_39247 24 = .ok (.areturn, 1) := by decide +kernel
theorem dJ7_copyOfRangeByte_39247_0 : decode cJ7_copyOfRangeByte_39247 0 = .ok (.iload_n 1, 1) := by decide +kernel
theorem dJ7_copyOfRangeByte_39247_1 : decode cJ7_copyOfRangeByte_39247 1 = .ok (.iload_n 2, 1) := by decide +kernel
theorem dJ7_copyOfRangeByte_39247_2 : decode cJ7_copyOfRangeByte_39247 2 = .ok (.invokestatic 343, 3) := by decide +kernel
theorem dJ7_copyOfRangeByte_39247_5 : decode cJ7_copyOfRangeByte_39247 5 = .ok (.iload_n 2, 1) := by decide +kernel
theorem dJ7_copyOfRangeByte_39247_6 : decode cJ7_copyOfRangeByte_39247 6 = .ok (.iload_n 1, 1) := by decide +kernel
theorem dJ7_copyOfRangeByte_39247_7 : decode cJ7_copyOfRangeByte_39247 7 = .ok (.isub, 1) := by decide +kernel
theorem dJ7_copyOfRangeByte_39247_8 : decode cJ7_copyOfRangeByte_39247 8 = .ok (.istore_n 3, 1) := by decide +kernel
theorem dJ7_copyOfRangeByte_39247_9 : decode cJ7_copyOfRangeByte_39247 9 = .ok (.iload_n 3, 1) := by decide +kernel
theorem dJ7_copyOfRangeByte_39247_10 : decode cJ7_copyOfRangeByte_39247 10 = .ok (.newarray .byte, 2) := by decide +kernel
theorem dJ7_copyOfRangeByte_39247_12 : decode cJ7_copyOfRangeByte_39247 12 = .ok (.astore 4, 2) := by decide +kernel
theorem dJ7_copyOfRangeByte_39247_14 : decode cJ7_copyOfRangeByte_39247 14 = .ok (.aload_n 0, 1) := by decide +kernel
theorem dJ7_copyOfRangeByte_39247_15 : decode cJ7_copyOfRangeByte_39247 15 = .ok (.iload_n 1, 1) := by decide +kernel
theorem dJ7_copyOfRangeByte_39247_16 : decode cJ7_copyOfRangeByte_39247 16 = .ok (.aload 4, 2) := by decide +kernel
theorem dJ7_copyOfRangeByte_39247_18 : decode cJ7_copyOfRangeByte_39247 18 = .ok (.iconst 0, 1) := by decide +kernel
theorem dJ7_copyOfRangeByte_39247_19 : decode cJ7_copyOfRangeByte_39247 19 = .ok (.aload_n 0, 1) := by decide +kernel
theorem dJ7_copyOfRangeByte_39247_20 : decode cJ7_copyOfRangeByte_39247 20 = .ok (.arraylength, 1) := by decide +kernel
theorem dJ7_copyOfRangeByte_39247_21 : decode cJ7_copyOfRangeByte_39247 21 = .ok (.iload_n 1, 1) := by decide +kernel
theorem dJ7_copyOfRangeByte_39247_22 : decode cJ7_copyOfRangeByte_39247 22 = .ok (.isub, 1) := by decide +kernel
theorem dJ7_copyOfRangeByte_39247_23 : decode cJ7_copyOfRangeByte_39247 23 = .ok (.iload_n 3, 1) := by decide +kernel
theorem dJ7_copyOfRangeByte_39247_24 : decode cJ7_copyOfRangeByte_39247 24 = .ok (.invokestatic 304, 3) := by decide +kernel
theorem dJ7_copyOfRangeByte_39247_27 : decode cJ7_copyOfRangeByte_39247 27 = .ok (.invokestatic 150, 3) := by decide +kernel
theorem dJ7_copyOfRangeByte_39247_30 : decode cJ7_copyOfRangeByte_39247 30 = .ok (.aload 4, 2) := by decide +kernel
theorem dJ7_copyOfRangeByte_39247_32 : decode cJ7_copyOfRangeByte_39247 32 = .ok (.areturn, 1) := by decide +kernel
theorem dJ15_checkIndex_7cf53_0 : decode cJ15_checkIndex_7cf53 0 = .ok (.iload_n 0, 1) := by decide +kernel
theorem dJ15_checkIndex_7cf53_1 : decode cJ15_checkIndex_7cf53 1 = .ok (.iload_n 1, 1) := by decide +kernel
theorem dJ15_checkIndex_7cf53_2 : decode cJ15_checkIndex_7cf53 2 = .ok (.aconst_null, 1) := by decide +kernel
theorem dJ15_checkIndex_7cf53_3 : decode cJ15_checkIndex_7cf53 3 = .ok (.invokestatic 105, 3) := by decide +kernel
theorem dJ15_checkIndex_7cf53_6 : decode cJ15_checkIndex_7cf53 6 = .ok (.ireturn, 1) := by decide +kernel
theorem dJ8_newLength_cabcc_0 : decode cJ8_newLength_cabcc 0 = .ok (.iload_n 0, 1) := by decide +kernel
theorem dJ8_newLength_cabcc_1 : decode cJ8_newLength_cabcc 1 = .ok (.iload_n 1, 1) := by decide +kernel
theorem dJ8_newLength_cabcc_2 : decode cJ8_newLength_cabcc 2 = .ok (.iload_n 2, 1) := by decide +kernel
theorem dJ8_newLength_cabcc_3 : decode cJ8_newLength_cabcc 3 = .ok (.invokestatic 194, 3) := by decide +kernel
theorem dJ8_newLength_cabcc_6 : decode cJ8_newLength_cabcc 6 = .ok (.iadd, 1) := by decide +kernel
theorem dJ8_newLength_cabcc_7 : decode cJ8_newLength_cabcc 7 = .ok (.istore_n 3, 1) := by decide +kernel
theorem dJ8_newLength_cabcc_8 : decode cJ8_newLength_cabcc 8 = .ok (.iconst 0, 1) := by decide +kernel
theorem dJ8_newLength_cabcc_9 : decode cJ8_newLength_cabcc 9 = .ok (.iload_n 3, 1) := by decide +kernel
theorem dJ8_newLength_cabcc_10 : decode cJ8_newLength_cabcc 10 = .ok (.if_icmp .ge 11, 3) := by decide +kernel
theorem dJ8_newLength_cabcc_13 : decode cJ8_newLength_cabcc 13 = .ok (.iload_n 3, 1) := by decide +kernel
theorem dJ8_newLength_cabcc_14 : decode cJ8_newLength_cabcc 14 = .ok (.ldc 200, 2) := by decide +kernel
theorem dJ8_newLength_cabcc_16 : decode cJ8_newLength_cabcc 16 = .ok (.if_icmp .gt 5, 3) := by decide +kernel
theorem dJ8_newLength_cabcc_19 : decode cJ8_newLength_cabcc 19 = .ok (.iload_n 3, 1) := by decide +kernel
theorem dJ8_newLength_cabcc_20 : decode cJ8_newLength_cabcc 20 = .ok (.ireturn, 1) := by decide +kernel
theorem dJ8_newLength_cabcc_21 : decode cJ8_newLength_cabcc 21 = .ok (.iload_n 0, 1) := by decide +kernel
theorem dJ8_newLength_cabcc_22 : decode cJ8_newLength_cabcc 22 = .ok (.iload_n 1, 1) := by decide +kernel
theorem dJ8_newLength_cabcc_23 : decode cJ8_newLength_cabcc 23 = .ok (.invokestatic 201, 3) := by decide +kernel
theorem dJ8_newLength_cabcc_26 : decode cJ8_newLength_cabcc 26 = .ok (.ireturn, 1) := by decide +kernel
theorem dJ8_hugeLength_7cf53_0 : decode cJ8_hugeLength_7cf53 0 = .ok (.iload_n 0, 1) := by decide +kernel
theorem dJ8_hugeLength_7cf53_1 : decode cJ8_hugeLength_7cf53 1 = .ok (.iload_n 1, 1) := by decide +kernel
theorem dJ8_hugeLength_7cf53_2 : decode cJ8_hugeLength_7cf53 2 = .ok (.iadd, 1) := by decide +kernel
theorem dJ8_hugeLength_7cf53_3 : decode cJ8_hugeLength_7cf53 3 = .ok (.istore_n 2, 1) := by decide +kernel
theorem dJ8_hugeLength_7cf53_4 : decode cJ8_hugeLength_7cf53 4 = .ok (.iload_n 2, 1) := by decide +kernel
theorem dJ8_hugeLength_7cf53_5 : decode cJ8_hugeLength_7cf53 5 = .ok (.ifCond .ge 44, 3) := by decide +kernel
theorem dJ8_hugeLength_7cf53_8 : decode cJ8_hugeLength_7cf53 8 = .ok (.new 204, 3) := by decide +kernel
theorem dJ8_hugeLength_7cf53_11 : decode cJ8_hugeLength_7cf53 11 = .ok (.dup, 1) := by decide +kernel
theorem dJ8_hugeLength_7cf53_12 : decode cJ8_hugeLength_7cf53 12 = .ok (.new 89, 3) := by decide +kernel
theorem dJ8_hugeLength_7cf53_15 : decode cJ8_hugeLength_7cf53 15 = .ok (.dup, 1) := by decide +kernel
theorem dJ8_hugeLength_7cf53_16 : decode cJ8_hugeLength_7cf53 16 = .ok (.invokespecial 91, 3) := by decide +kernel
theorem dJ8_hugeLength_7cf53_19 : decode cJ8_hugeLength_7cf53 19 = .ok (.ldc 206, 2) := by decide +kernel
theorem dJ8_hugeLength_7cf53_21 : decode cJ8_hugeLength_7cf53 21 = .ok (.invokevirtual 94, 3) := by decide +kernel
theorem dJ8_hugeLength_7cf53_24 : decode cJ8_hugeLength_7cf53 24 = .ok (.iload_n 0, 1) := by decide +kernel
theorem dJ8_hugeLength_7cf53_25 : decode cJ8_hugeLength_7cf53 25 = .ok (.invokevirtual 98, 3) := by decide +kernel
theorem dJ8_hugeLength_7cf53_28 : decode cJ8_hugeLength_7cf53 28 = .ok (.ldc 208, 2) := by decide +kernel
theorem dJ8_hugeLength_7cf53_30 : decode cJ8_hugeLength_7cf53 30 = .ok (.invokevirtual 94, 3) := by decide +kernel
theorem dJ8_hugeLength_7cf53_33 : decode cJ8_hugeLength_7cf53 33 = .ok (.iload_n 1, 1) := by decide +kernel
theorem dJ8_hugeLength_7cf53_34 : decode cJ8_hugeLength_7cf53 34 = .ok (.invokevirtual 98, 3) := by decide +kernel
theorem dJ8_hugeLength_7cf53_37 : decode cJ8_hugeLength_7cf53 37 = .ok (.ldc 210, 2) := by decide +kernel
theorem dJ8_hugeLength_7cf53_39 : decode cJ8_hugeLength_7cf53 39 = .ok (.invokevirtual 94, 3) := by decide +kernel
theorem dJ8_hugeLength_7cf53_42 : decode cJ8_hugeLength_7cf53 42 = .ok (.invokevirtual 101, 3) := by decide +kernel
theorem dJ8_hugeLength_7cf53_45 : decode cJ8_hugeLength_7cf53 45 = .ok (.invokespecial 212, 3) := by decide +kernel
theorem dJ8_hugeLength_7cf53_48 : decode cJ8_hugeLength_7cf53 48 = .ok (.athrow, 1) := by decide +kernel
theorem dJ8_hugeLength_7cf53_49 : decode cJ8_hugeLength_7cf53 49 = .ok (.iload_n 2, 1) := by decide +kernel
theorem dJ8_hugeLength_7cf53_50 : decode cJ8_hugeLength_7cf53 50 = .ok (.ldc 200, 2) := by decide +kernel
theorem dJ8_hugeLength_7cf53_52 : decode cJ8_hugeLength_7cf53 52 = .ok (.if_icmp .gt 6, 3) := by decide +kernel
theorem dJ8_hugeLength_7cf53_55 : decode cJ8_hugeLength_7cf53 55 = .ok (.ldc 200, 2) := by decide +kernel
theorem dJ8_hugeLength_7cf53_57 : decode cJ8_hugeLength_7cf53 57 = .ok (.ireturn, 1) := by decide +kernel
theorem dJ8_hugeLength_7cf53_58 : decode cJ8_hugeLength_7cf53 58 = .ok (.iload_n 2, 1) := by decide +kernel
theorem dJ8_hugeLength_7cf53_59 : decode cJ8_hugeLength_7cf53 59 = .ok (.ireturn, 1) := by decide +kernel
theorem dJ3_checkIndex_8e157_0 : decode cJ3_checkIndex_8e157 0 = .ok (.iload_n 0, 1) := by decide +kernel
theorem dJ3_checkIndex_8e157_1 : decode cJ3_checkIndex_8e157 1 = .ok (.ifCond .lt 8, 3) := by decide +kernel
theorem dJ3_checkIndex_8e157_4 : decode cJ3_checkIndex_8e157 4 = .ok (.iload_n 0, 1) := by decide +kernel
theorem dJ3_checkIndex_8e157_5 : decode cJ3_checkIndex_8e157 5 = .ok (.iload_n 1, 1) := by decide +kernel
theorem dJ3_checkIndex_8e157_6 : decode cJ3_checkIndex_8e157 6 = .ok (.if_icmp .lt 10, 3) := by decide +kernel
theorem dJ3_checkIndex_8e157_9 : decode cJ3_checkIndex_8e157 9 = .ok (.aload_n 2, 1) := by decide +kernel
theorem dJ3_checkIndex_8e157_10 : decode cJ3_checkIndex_8e157 10 = .ok (.iload_n 0, 1) := by decide +kernel
theorem dJ3_checkIndex_8e157_11 : decode cJ3_checkIndex_8e157 11 = .ok (.iload_n 1, 1) := by decide +kernel
theorem dJ3_checkIndex_8e157_12 : decode cJ3_checkIndex_8e157 12 = .ok (.invokestatic 95, 3) := by decide +kernel
theorem dJ3_checkIndex_8e157_15 : decode cJ3_checkIndex_8e157 15 = .ok (.athrow, 1) := by decide +kernel
theorem dJ3_checkIndex_8e157_16 : decode cJ3_checkIndex_8e157 16 = .ok (.iload_n 0, 1) := by decide +kernel
theorem dJ3_checkIndex_8e157_17 : decode cJ3_checkIndex_8e157 17 = .ok (.ireturn, 1) := by decide +kernel
theorem dJ3_checkFromToIndex_8c36e_0 : decode cJ3_checkFromToIndex_8c36e 0 = .ok (.iload_n 0, 1) := by decide +kernel
theorem dJ3_checkFromToIndex_8c36e_1 : decode cJ3_checkFromToIndex_8c36e 1 = .ok (.ifCond .lt 13, 3) := by decide +kernel
theorem dJ3_checkFromToIndex_8c36e_4 : decode cJ3_checkFromToIndex_8c36e 4 = .ok (.iload_n 0, 1) := by decide +kernel
theorem dJ3_checkFromToIndex_8c36e_5 : decode cJ3_checkFromToIndex_8c36e 5 = .ok (.iload_n 1, 1) := by decide +kernel
theorem dJ3_checkFromToIndex_8c36e_6 : decode cJ3_checkFromToIndex_8c36e 6 = .ok (.if_icmp .gt 8, 3) := by decide +kernel
theorem dJ3_checkFromToIndex_8c36e_9 : decode cJ3_checkFromToIndex_8c36e 9 = .ok (.iload_n 1, 1) := by decide +kernel
theorem dJ3_checkFromToIndex_8c36e_10 : decode cJ3_checkFromToIndex_8c36e 10 = .ok (.iload_n 2, 1) := by decide +kernel
theorem dJ3_checkFromToIndex_8c36e_11 : decode cJ3_checkFromToIndex_8c36e 11 = .ok (.if_icmp .le 11, 3) := by decide +kernel
theorem dJ3_checkFromToIndex_8c36e_14 : decode cJ3_checkFromToIndex_8c36e 14 = .ok (.aload_n 3, 1) := by decide +kernel
theorem dJ3_checkFromToIndex_8c36e_15 : decode cJ3_checkFromToIndex_8c36e 15 = .ok (.iload_n 0, 1) := by decide +kernel
theorem dJ3_checkFromToIndex_8c36e_16 : decode cJ3_checkFromToIndex_8c36e 16 = .ok (.iload_n 1, 1) := by decide +kernel
theorem dJ3_checkFromToIndex_8c36e_17 : decode cJ3_checkFromToIndex_8c36e 17 = .ok (.iload_n 2, 1) := by decide +kernel
theorem dJ3_checkFromToIndex_8c36e_18 : decode cJ3_checkFromToIndex_8c36e 18 = .ok (.invokestatic 99, 3) := by decide +kernel
theorem dJ3_checkFromToIndex_8c36e_21 : decode cJ3_checkFromToIndex_8c36e 21 = .ok (.athrow, 1) := by decide +kernel
theorem dJ3_checkFromToIndex_8c36e_22 : decode cJ3_checkFromToIndex_8c36e 22 = .ok (.iload_n 0, 1) := by decide +kernel
theorem dJ3_checkFromToIndex_8c36e_23 : decode cJ3_checkFromToIndex_8c36e 23 = .ok (.ireturn, 1) := by decide +kernel
theorem dJ3_checkFromIndexSize_8c36e_0 : decode cJ3_checkFromIndexSize_8c36e 0 = .ok (.iload_n 2, 1) := by decide +kernel
theorem dJ3_checkFromIndexSize_8c36e_1 : decode cJ3_checkFromIndexSize_8c36e 1 = .ok (.iload_n 0, 1) := by decide +kernel
theorem dJ3_checkFromIndexSize_8c36e_2 : decode cJ3_checkFromIndexSize_8c36e 2 = .ok (.ior, 1) := by decide +kernel
theorem dJ3_checkFromIndexSize_8c36e_3 : decode cJ3_checkFromIndexSize_8c36e 3 = .ok (.iload_n 1, 1) := by decide +kernel
theorem dJ3_checkFromIndexSize_8c36e_4 : decode cJ3_checkFromIndexSize_8c36e 4 = .ok (.ior, 1) := by decide +kernel
theorem dJ3_checkFromIndexSize_8c36e_5 : decode cJ3_checkFromIndexSize_8c36e 5 = .ok (.ifCond .lt 10, 3) := by decide +kernel
theorem dJ3_checkFromIndexSize_8c36e_8 : decode cJ3_checkFromIndexSize_8c36e 8 = .ok (.iload_n 1, 1) := by decide +kernel
theorem dJ3_checkFromIndexSize_8c36e_9 : decode cJ3_checkFromIndexSize_8c36e 9 = .ok (.iload_n 2, 1) := by decide +kernel
theorem dJ3_checkFromIndexSize_8c36e_10 : decode cJ3_checkFromIndexSize_8c36e 10 = .ok (.iload_n 0, 1) := by decide +kernel
theorem dJ3_checkFromIndexSize_8c36e_11 : decode cJ3_checkFromIndexSize_8c36e 11 = .ok (.isub, 1) := by decide +kernel
theorem dJ3_checkFromIndexSize_8c36e_12 : decode cJ3_checkFromIndexSize_8c36e 12 = .ok (.if_icmp .le 11, 3) := by decide +kernel
theorem dJ3_checkFromIndexSize_8c36e_15 : decode cJ3_checkFromIndexSize_8c36e 15 = .ok (.aload_n 3, 1) := by decide +kernel
theorem dJ3_checkFromIndexSize_8c36e_16 : decode cJ3_checkFromIndexSize_8c36e 16 = .ok (.iload_n 0, 1) := by decide +kernel
theorem dJ3_checkFromIndexSize_8c36e_17 : decode cJ3_checkFromIndexSize_8c36e 17 = .ok (.iload_n 1, 1) := by decide +kernel
theorem dJ3_checkFromIndexSize_8c36e_18 : decode cJ3_checkFromIndexSize_8c36e 18 = .ok (.iload_n 2, 1) := by decide +kernel
theorem dJ3_checkFromIndexSize_8c36e_19 : decode cJ3_checkFromIndexSize_8c36e 19 = .ok (.invokestatic 103, 3) := by decide +kernel
theorem dJ3_checkFromIndexSize_8c36e_22 : decode cJ3_checkFromIndexSize_8c36e 22 = .ok (.athrow, 1) := by decide +kernel
theorem dJ3_checkFromIndexSize_8c36e_23 : decode cJ3_checkFromIndexSize_8c36e 23 = .ok (.iload_n 0, 1) := by decide +kernel
theorem dJ3_checkFromIndexSize_8c36e_24 : decode cJ3_checkFromIndexSize_8c36e 24 = .ok (.ireturn, 1) := by decide +kernel
theorem dL_country_0 : decode cL_country 0 = .ok (.aload 5, 2) := by decide +kernel
theorem dL_country_2 : decode cL_country 2 = .ok (.aload_n 0, 1) := by decide +kernel
theorem dL_country_3 : decode cL_country 3 = .ok (.iload_n 1, 1) := by decide +kernel
theorem dL_country_4 : decode cL_country 4 = .ok (.iload_n 2, 1) := by decide +kernel
theorem dL_country_5 : decode cL_country 5 = .ok (.iload_n 3, 1) := by decide +kernel
theorem dL_country_6 : decode cL_country 6 = .ok (.iload 4, 2) := by decide +kernel
theorem dL_country_8 : decode cL_country 8 = .ok (.invokevirtual 7, 3) := by decide +kernel
theorem dL_country_11 : decode cL_country 11 = .ok (.i2l, 1) := by decide +kernel
theorem dL_country_12 : decode cL_country 12 = .ok (.putfield 13, 3) := by decide +kernel
theorem dL_country_15 : decode cL_country 15 = .ok (.goto 11, 3) := by decide +kernel
theorem dL_country_18 : decode cL_country 18 = .ok (.astore 6, 2) := by decide +kernel
theorem dL_country_20 : decode cL_country 20 = .ok (.iconst 1, 1) := by decide +kernel
theorem dL_country_21 : decode cL_country 21 = .ok (.ireturn, 1) := by decide +kernel
theorem dL_country_22 : decode cL_country 22 = .ok (.astore 6, 2) := by decide +kernel
theorem dL_country_24 : decode cL_country 24 = .ok (.iconst 2, 1) := by decide +kernel
theorem dL_country_25 : decode cL_country 25 = .ok (.ireturn, 1) := by decide +kernel
theorem dL_country_26 : decode cL_country 26 = .ok (.iconst 0, 1) := by decide +kernel
theorem dL_country_27 : decode cL_country 27 = .ok (.ireturn, 1) := by decide +kernel
theorem dL_law_0 : decode cL_law 0 = .ok (.aload 4, 2) := by decide +kernel
theorem dL_law_2 : decode cL_law 2 = .ok (.aload_n 0, 1) := by decide +kernel
theorem dL_law_3 : decode cL_law 3 = .ok (.iload_n 1, 1) := by decide +kernel
theorem dL_law_4 : decode cL_law 4 = .ok (.iload_n 2, 1) := by decide +kernel
theorem dL_law_5 : decode cL_law 5 = .ok (.iload_n 3, 1) := by decide +kernel
theorem dL_law_6 : decode cL_law 6 = .ok (.invokevirtual 23, 3) := by decide +kernel
theorem dL_law_9 : decode cL_law 9 = .ok (.i2l, 1) := by decide +kernel
theorem dL_law_10 : decode cL_law 10 = .ok (.putfield 13, 3) := by decide +kernel
theorem dL_law_13 : decode cL_law 13 = .ok (.goto 11, 3) := by decide +kernel
theorem dL_law_16 : decode cL_law 16 = .ok (.astore 5, 2) := by decide +kernel
theorem dL_law_18 : decode cL_law 18 = .ok (.iconst 1, 1) := by decide +kernel
theorem dL_law_19 : decode cL_law 19 = .ok (.ireturn, 1) := by decide +kernel
theorem dL_law_20 : decode cL_law 20 = .ok (.astore 5, 2) := by decide +kernel
theorem dL_law_22 : decode cL_law 22 = .ok (.iconst 2, 1) := by decide +kernel
theorem dL_law_23 : decode cL_law 23 = .ok (.ireturn, 1) := by decide +kernel
theorem dL_law_24 : decode cL_law 24 = .ok (.iconst 0, 1) := by decide +kernel
theorem dL_law_25 : decode cL_law 25 = .ok (.ireturn, 1) := by decide +kernel
theorem dL_gate_0 : decode cL_gate 0 = .ok (.aload 4, 2) := by decide +kernel
theorem dL_gate_2 : decode cL_gate 2 = .ok (.aload_n 0, 1) := by decide +kernel
theorem dL_gate_3 : decode cL_gate 3 = .ok (.iload_n 1, 1) := by decide +kernel
theorem dL_gate_4 : decode cL_gate 4 = .ok (.iload_n 2, 1) := by decide +kernel
theorem dL_gate_5 : decode cL_gate 5 = .ok (.iload_n 3, 1) := by decide +kernel
theorem dL_gate_6 : decode cL_gate 6 = .ok (.invokevirtual 29, 3) := by decide +kernel
theorem dL_gate_9 : decode cL_gate 9 = .ok (.ifCond .eq 7, 3) := by decide +kernel
theorem dL_gate_12 : decode cL_gate 12 = .ok (.lconst 1, 1) := by decide +kernel
theorem dL_gate_13 : decode cL_gate 13 = .ok (.goto 4, 3) := by decide +kernel
theorem dL_gate_16 : decode cL_gate 16 = .ok (.lconst 0, 1) := by decide +kernel
theorem dL_gate_17 : decode cL_gate 17 = .ok (.putfield 13, 3) := by decide +kernel
theorem dL_gate_20 : decode cL_gate 20 = .ok (.goto 11, 3) := by decide +kernel
theorem dL_gate_23 : decode cL_gate 23 = .ok (.astore 5, 2) := by decide +kernel
theorem dL_gate_25 : decode cL_gate 25 = .ok (.iconst 1, 1) := by decide +kernel
theorem dL_gate_26 : decode cL_gate 26 = .ok (.ireturn, 1) := by decide +kernel
theorem dL_gate_27 : decode cL_gate 27 = .ok (.astore 5, 2) := by decide +kernel
theorem dL_gate_29 : decode cL_gate 29 = .ok (.iconst 2, 1) := by decide +kernel
theorem dL_gate_30 : decode cL_gate 30 = .ok (.ireturn, 1) := by decide +kernel
theorem dL_gate_31 : decode cL_gate 31 = .ok (.iconst 0, 1) := by decide +kernel
theorem dL_gate_32 : decode cL_gate 32 = .ok (.ireturn, 1) := by decide +kernel
theorem dL_market_0 : decode cL_market 0 = .ok (.aload_n 2, 1) := by decide +kernel
theorem dL_market_1 : decode cL_market 1 = .ok (.aload_n 0, 1) := by decide +kernel
theorem dL_market_2 : decode cL_market 2 = .ok (.iload_n 1, 1) := by decide +kernel
theorem dL_market_3 : decode cL_market 3 = .ok (.invokevirtual 33, 3) := by decide +kernel
theorem dL_market_6 : decode cL_market 6 = .ok (.i2l, 1) := by decide +kernel
theorem dL_market_7 : decode cL_market 7 = .ok (.putfield 13, 3) := by decide +kernel
theorem dL_market_10 : decode cL_market 10 = .ok (.goto 6, 3) := by decide +kernel
theorem dL_market_13 : decode cL_market 13 = .ok (.astore_n 3, 1) := by decide +kernel
theorem dL_market_14 : decode cL_market 14 = .ok (.iconst 1, 1) := by decide +kernel
theorem dL_market_15 : decode cL_market 15 = .ok (.ireturn, 1) := by decide +kernel
theorem dL_market_16 : decode cL_market 16 = .ok (.iconst 0, 1) := by decide +kernel
theorem dL_market_17 : decode cL_market 17 = .ok (.ireturn, 1) := by decide +kernel
theorem dL_road_0 : decode cL_road 0 = .ok (.aload 5, 2) := by decide +kernel
theorem dL_road_2 : decode cL_road 2 = .ok (.aload_n 0, 1) := by decide +kernel
theorem dL_road_3 : decode cL_road 3 = .ok (.iload_n 1, 1) := by decide +kernel
theorem dL_road_4 : decode cL_road 4 = .ok (.iload_n 2, 1) := by decide +kernel
theorem dL_road_5 : decode cL_road 5 = .ok (.iload_n 3, 1) := by decide +kernel
theorem dL_road_6 : decode cL_road 6 = .ok (.iload 4, 2) := by decide +kernel
theorem dL_road_8 : decode cL_road 8 = .ok (.invokevirtual 37, 3) := by decide +kernel
theorem dL_road_11 : decode cL_road 11 = .ok (.i2l, 1) := by decide +kernel
theorem dL_road_12 : decode cL_road 12 = .ok (.putfield 13, 3) := by decide +kernel
theorem dL_road_15 : decode cL_road 15 = .ok (.goto 11, 3) := by decide +kernel
theorem dL_road_18 : decode cL_road 18 = .ok (.astore 6, 2) := by decide +kernel
theorem dL_road_20 : decode cL_road 20 = .ok (.iconst 1, 1) := by decide +kernel
theorem dL_road_21 : decode cL_road 21 = .ok (.ireturn, 1) := by decide +kernel
theorem dL_road_22 : decode cL_road 22 = .ok (.astore 6, 2) := by decide +kernel
theorem dL_road_24 : decode cL_road 24 = .ok (.iconst 2, 1) := by decide +kernel
theorem dL_road_25 : decode cL_road 25 = .ok (.ireturn, 1) := by decide +kernel
theorem dL_road_26 : decode cL_road 26 = .ok (.iconst 0, 1) := by decide +kernel
theorem dL_road_27 : decode cL_road 27 = .ok (.ireturn, 1) := by decide +kernel
theorem dL_mine_0 : decode cL_mine 0 = .ok (.aload 4, 2) := by decide +kernel
theorem dL_mine_2 : decode cL_mine 2 = .ok (.aload_n 0, 1) := by decide +kernel
theorem dL_mine_3 : decode cL_mine 3 = .ok (.iload_n 1, 1) := by decide +kernel
theorem dL_mine_4 : decode cL_mine 4 = .ok (.iload_n 2, 1) := by decide +kernel
theorem dL_mine_5 : decode cL_mine 5 = .ok (.iload_n 3, 1) := by decide +kernel
theorem dL_mine_6 : decode cL_mine 6 = .ok (.invokevirtual 40, 3) := by decide +kernel
theorem dL_mine_9 : decode cL_mine 9 = .ok (.i2l, 1) := by decide +kernel
theorem dL_mine_10 : decode cL_mine 10 = .ok (.putfield 13, 3) := by decide +kernel
theorem dL_mine_13 : decode cL_mine 13 = .ok (.goto 15, 3) := by decide +kernel
theorem dL_mine_16 : decode cL_mine 16 = .ok (.astore 5, 2) := by decide +kernel
theorem dL_mine_18 : decode cL_mine 18 = .ok (.iconst 1, 1) := by decide +kernel
theorem dL_mine_19 : decode cL_mine 19 = .ok (.ireturn, 1) := by decide +kernel
theorem dL_mine_20 : decode cL_mine 20 = .ok (.astore 5, 2) := by decide +kernel
theorem dL_mine_22 : decode cL_mine 22 = .ok (.iconst 2, 1) := by decide +kernel
theorem dL_mine_23 : decode cL_mine 23 = .ok (.ireturn, 1) := by decide +kernel
theorem dL_mine_24 : decode cL_mine 24 = .ok (.astore 5, 2) := by decide +kernel
theorem dL_mine_26 : decode cL_mine 26 = .ok (.iconst 3, 1) := by decide +kernel
theorem dL_mine_27 : decode cL_mine 27 = .ok (.ireturn, 1) := by decide +kernel
theorem dL_mine_28 : decode cL_mine 28 = .ok (.iconst 0, 1) := by decide +kernel
theorem dL_mine_29 : decode cL_mine 29 = .ok (.ireturn, 1) := by decide +kernel
theorem dL_use_0 : decode cL_use 0 = .ok (.aload 4, 2) := by decide +kernel
theorem dL_use_2 : decode cL_use 2 = .ok (.aload_n 0, 1) := by decide +kernel
theorem dL_use_3 : decode cL_use 3 = .ok (.iload_n 1, 1) := by decide +kernel
theorem dL_use_4 : decode cL_use 4 = .ok (.iload_n 2, 1) := by decide +kernel
theorem dL_use_5 : decode cL_use 5 = .ok (.iload_n 3, 1) := by decide +kernel
theorem dL_use_6 : decode cL_use 6 = .ok (.invokevirtual 43, 3) := by decide +kernel
theorem dL_use_9 : decode cL_use 9 = .ok (.i2l, 1) := by decide +kernel
theorem dL_use_10 : decode cL_use 10 = .ok (.putfield 13, 3) := by decide +kernel
theorem dL_use_13 : decode cL_use 13 = .ok (.goto 15, 3) := by decide +kernel
theorem dL_use_16 : decode cL_use 16 = .ok (.astore 5, 2) := by decide +kernel
theorem dL_use_18 : decode cL_use 18 = .ok (.iconst 1, 1) := by decide +kernel
theorem dL_use_19 : decode cL_use 19 = .ok (.ireturn, 1) := by decide +kernel
theorem dL_use_20 : decode cL_use 20 = .ok (.astore 5, 2) := by decide +kernel
theorem dL_use_22 : decode cL_use 22 = .ok (.iconst 2, 1) := by decide +kernel
theorem dL_use_23 : decode cL_use 23 = .ok (.ireturn, 1) := by decide +kernel
theorem dL_use_24 : decode cL_use 24 = .ok (.astore 5, 2) := by decide +kernel
theorem dL_use_26 : decode cL_use 26 = .ok (.iconst 3, 1) := by decide +kernel
theorem dL_use_27 : decode cL_use 27 = .ok (.ireturn, 1) := by decide +kernel
theorem dL_use_28 : decode cL_use 28 = .ok (.iconst 0, 1) := by decide +kernel
theorem dL_use_29 : decode cL_use 29 = .ok (.ireturn, 1) := by decide +kernel
theorem dL_house_0 : decode cL_house 0 = .ok (.aload 4, 2) := by decide +kernel
theorem dL_house_2 : decode cL_house 2 = .ok (.aload_n 0, 1) := by decide +kernel
theorem dL_house_3 : decode cL_house 3 = .ok (.iload_n 1, 1) := by decide +kernel
theorem dL_house_4 : decode cL_house 4 = .ok (.iload_n 2, 1) := by decide +kernel
theorem dL_house_5 : decode cL_house 5 = .ok (.iload_n 3, 1) := by decide +kernel
theorem dL_house_6 : decode cL_house 6 = .ok (.invokevirtual 46, 3) := by decide +kernel
theorem dL_house_9 : decode cL_house 9 = .ok (.i2l, 1) := by decide +kernel
theorem dL_house_10 : decode cL_house 10 = .ok (.putfield 13, 3) := by decide +kernel
theorem dL_house_13 : decode cL_house 13 = .ok (.goto 15, 3) := by decide +kernel
theorem dL_house_16 : decode cL_house 16 = .ok (.astore 5, 2) := by decide +kernel
theorem dL_house_18 : decode cL_house 18 = .ok (.iconst 1, 1) := by decide +kernel
theorem dL_house_19 : decode cL_house 19 = .ok (.ireturn, 1) := by decide +kernel
theorem dL_house_20 : decode cL_house 20 = .ok (.astore 5, 2) := by decide +kernel
theorem dL_house_22 : decode cL_house 22 = .ok (.iconst 2, 1) := by decide +kernel
theorem dL_house_23 : decode cL_house 23 = .ok (.ireturn, 1) := by decide +kernel
theorem dL_house_24 : decode cL_house 24 = .ok (.astore 5, 2) := by decide +kernel
theorem dL_house_26 : decode cL_house 26 = .ok (.iconst 3, 1) := by decide +kernel
theorem dL_house_27 : decode cL_house 27 = .ok (.ireturn, 1) := by decide +kernel
theorem dL_house_28 : decode cL_house 28 = .ok (.iconst 0, 1) := by decide +kernel
theorem dL_house_29 : decode cL_house 29 = .ok (.ireturn, 1) := by decide +kernel
theorem dL_change_0 : decode cL_change 0 = .ok (.aload 4, 2) := by decide +kernel
theorem dL_change_2 : decode cL_change 2 = .ok (.aload_n 0, 1) := by decide +kernel
theorem dL_change_3 : decode cL_change 3 = .ok (.iload_n 1, 1) := by decide +kernel
theorem dL_change_4 : decode cL_change 4 = .ok (.iload_n 2, 1) := by decide +kernel
theorem dL_change_5 : decode cL_change 5 = .ok (.iload_n 3, 1) := by decide +kernel
theorem dL_change_6 : decode cL_change 6 = .ok (.invokevirtual 49, 3) := by decide +kernel
theorem dL_change_9 : decode cL_change 9 = .ok (.i2l, 1) := by decide +kernel
theorem dL_change_10 : decode cL_change 10 = .ok (.putfield 13, 3) := by decide +kernel
theorem dL_change_13 : decode cL_change 13 = .ok (.goto 15, 3) := by decide +kernel
theorem dL_change_16 : decode cL_change 16 = .ok (.astore 5, 2) := by decide +kernel
theorem dL_change_18 : decode cL_change 18 = .ok (.iconst 1, 1) := by decide +kernel
theorem dL_change_19 : decode cL_change 19 = .ok (.ireturn, 1) := by decide +kernel
theorem dL_change_20 : decode cL_change 20 = .ok (.astore 5, 2) := by decide +kernel
theorem dL_change_22 : decode cL_change 22 = .ok (.iconst 2, 1) := by decide +kernel
theorem dL_change_23 : decode cL_change 23 = .ok (.ireturn, 1) := by decide +kernel
theorem dL_change_24 : decode cL_change 24 = .ok (.astore 5, 2) := by decide +kernel
theorem dL_change_26 : decode cL_change 26 = .ok (.iconst 3, 1) := by decide +kernel
theorem dL_change_27 : decode cL_change 27 = .ok (.ireturn, 1) := by decide +kernel
theorem dL_change_28 : decode cL_change 28 = .ok (.iconst 0, 1) := by decide +kernel
theorem dL_change_29 : decode cL_change 29 = .ok (.ireturn, 1) := by decide +kernel
theorem dL_send_0 : decode cL_send 0 = .ok (.aload_n 3, 1) := by decide +kernel
theorem dL_send_1 : decode cL_send 1 = .ok (.aload_n 0, 1) := by decide +kernel
theorem dL_send_2 : decode cL_send 2 = .ok (.iload_n 1, 1) := by decide +kernel
theorem dL_send_3 : decode cL_send 3 = .ok (.iload_n 2, 1) := by decide +kernel
theorem dL_send_4 : decode cL_send 4 = .ok (.invokevirtual 52, 3) := by decide +kernel
theorem dL_send_7 : decode cL_send 7 = .ok (.i2l, 1) := by decide +kernel
theorem dL_send_8 : decode cL_send 8 = .ok (.putfield 13, 3) := by decide +kernel
theorem dL_send_11 : decode cL_send 11 = .ok (.goto 11, 3) := by decide +kernel
theorem dL_send_14 : decode cL_send 14 = .ok (.astore 4, 2) := by decide +kernel
theorem dL_send_16 : decode cL_send 16 = .ok (.iconst 1, 1) := by decide +kernel
theorem dL_send_17 : decode cL_send 17 = .ok (.ireturn, 1) := by decide +kernel
theorem dL_send_18 : decode cL_send 18 = .ok (.astore 4, 2) := by decide +kernel
theorem dL_send_20 : decode cL_send 20 = .ok (.iconst 2, 1) := by decide +kernel
theorem dL_send_21 : decode cL_send 21 = .ok (.ireturn, 1) := by decide +kernel
theorem dL_send_22 : decode cL_send 22 = .ok (.iconst 0, 1) := by decide +kernel
theorem dL_send_23 : decode cL_send 23 = .ok (.ireturn, 1) := by decide +kernel
theorem dL_pass_0 : decode cL_pass 0 = .ok (.aload_n 2, 1) := by decide +kernel
theorem dL_pass_1 : decode cL_pass 1 = .ok (.aload_n 0, 1) := by decide +kernel
theorem dL_pass_2 : decode cL_pass 2 = .ok (.iload_n 1, 1) := by decide +kernel
theorem dL_pass_3 : decode cL_pass 3 = .ok (.invokevirtual 56, 3) := by decide +kernel
theorem dL_pass_6 : decode cL_pass 6 = .ok (.i2l, 1) := by decide +kernel
theorem dL_pass_7 : decode cL_pass 7 = .ok (.putfield 13, 3) := by decide +kernel
theorem dL_pass_10 : decode cL_pass 10 = .ok (.goto 9, 3) := by decide +kernel
theorem dL_pass_13 : decode cL_pass 13 = .ok (.astore_n 3, 1) := by decide +kernel
theorem dL_pass_14 : decode cL_pass 14 = .ok (.iconst 1, 1) := by decide +kernel
theorem dL_pass_15 : decode cL_pass 15 = .ok (.ireturn, 1) := by decide +kernel
theorem dL_pass_16 : decode cL_pass 16 = .ok (.astore_n 3, 1) := by decide +kernel
theorem dL_pass_17 : decode cL_pass 17 = .ok (.iconst 2, 1) := by decide +kernel
theorem dL_pass_18 : decode cL_pass 18 = .ok (.ireturn, 1) := by decide +kernel
theorem dL_pass_19 : decode cL_pass 19 = .ok (.iconst 0, 1) := by decide +kernel
theorem dL_pass_20 : decode cL_pass 20 = .ok (.ireturn, 1) := by decide +kernel
theorem dL_owe_0 : decode cL_owe 0 = .ok (.aload 5, 2) := by decide +kernel
theorem dL_owe_2 : decode cL_owe 2 = .ok (.aload_n 0, 1) := by decide +kernel
theorem dL_owe_3 : decode cL_owe 3 = .ok (.iload_n 1, 1) := by decide +kernel
theorem dL_owe_4 : decode cL_owe 4 = .ok (.iload_n 2, 1) := by decide +kernel
theorem dL_owe_5 : decode cL_owe 5 = .ok (.iload_n 3, 1) := by decide +kernel
theorem dL_owe_6 : decode cL_owe 6 = .ok (.iload 4, 2) := by decide +kernel
theorem dL_owe_8 : decode cL_owe 8 = .ok (.invokevirtual 59, 3) := by decide +kernel
theorem dL_owe_11 : decode cL_owe 11 = .ok (.i2l, 1) := by decide +kernel
theorem dL_owe_12 : decode cL_owe 12 = .ok (.putfield 13, 3) := by decide +kernel
theorem dL_owe_15 : decode cL_owe 15 = .ok (.goto 15, 3) := by decide +kernel
theorem dL_owe_18 : decode cL_owe 18 = .ok (.astore 6, 2) := by decide +kernel
theorem dL_owe_20 : decode cL_owe 20 = .ok (.iconst 1, 1) := by decide +kernel
theorem dL_owe_21 : decode cL_owe 21 = .ok (.ireturn, 1) := by decide +kernel
theorem dL_owe_22 : decode cL_owe 22 = .ok (.astore 6, 2) := by decide +kernel
theorem dL_owe_24 : decode cL_owe 24 = .ok (.iconst 2, 1) := by decide +kernel
theorem dL_owe_25 : decode cL_owe 25 = .ok (.ireturn, 1) := by decide +kernel
theorem dL_owe_26 : decode cL_owe 26 = .ok (.astore 6, 2) := by decide +kernel
theorem dL_owe_28 : decode cL_owe 28 = .ok (.iconst 3, 1) := by decide +kernel
theorem dL_owe_29 : decode cL_owe 29 = .ok (.ireturn, 1) := by decide +kernel
theorem dL_owe_30 : decode cL_owe 30 = .ok (.iconst 0, 1) := by decide +kernel
theorem dL_owe_31 : decode cL_owe 31 = .ok (.ireturn, 1) := by decide +kernel
theorem dL_settle_0 : decode cL_settle 0 = .ok (.aload_n 3, 1) := by decide +kernel
theorem dL_settle_1 : decode cL_settle 1 = .ok (.aload_n 0, 1) := by decide +kernel
theorem dL_settle_2 : decode cL_settle 2 = .ok (.iload_n 1, 1) := by decide +kernel
theorem dL_settle_3 : decode cL_settle 3 = .ok (.iload_n 2, 1) := by decide +kernel
theorem dL_settle_4 : decode cL_settle 4 = .ok (.invokevirtual 62, 3) := by decide +kernel
theorem dL_settle_7 : decode cL_settle 7 = .ok (.i2l, 1) := by decide +kernel
theorem dL_settle_8 : decode cL_settle 8 = .ok (.putfield 13, 3) := by decide +kernel
theorem dL_settle_11 : decode cL_settle 11 = .ok (.goto 15, 3) := by decide +kernel
theorem dL_settle_14 : decode cL_settle 14 = .ok (.astore 4, 2) := by decide +kernel
theorem dL_settle_16 : decode cL_settle 16 = .ok (.iconst 1, 1) := by decide +kernel
theorem dL_settle_17 : decode cL_settle 17 = .ok (.ireturn, 1) := by decide +kernel
theorem dL_settle_18 : decode cL_settle 18 = .ok (.astore 4, 2) := by decide +kernel
theorem dL_settle_20 : decode cL_settle 20 = .ok (.iconst 2, 1) := by decide +kernel
theorem dL_settle_21 : decode cL_settle 21 = .ok (.ireturn, 1) := by decide +kernel
theorem dL_settle_22 : decode cL_settle 22 = .ok (.astore 4, 2) := by decide +kernel
theorem dL_settle_24 : decode cL_settle 24 = .ok (.iconst 3, 1) := by decide +kernel
theorem dL_settle_25 : decode cL_settle 25 = .ok (.ireturn, 1) := by decide +kernel
theorem dL_settle_26 : decode cL_settle 26 = .ok (.iconst 0, 1) := by decide +kernel
theorem dL_settle_27 : decode cL_settle 27 = .ok (.ireturn, 1) := by decide +kernel
theorem dL_till_0 : decode cL_till 0 = .ok (.aload 4, 2) := by decide +kernel
theorem dL_till_2 : decode cL_till 2 = .ok (.aload_n 0, 1) := by decide +kernel
theorem dL_till_3 : decode cL_till 3 = .ok (.iload_n 1, 1) := by decide +kernel
theorem dL_till_4 : decode cL_till 4 = .ok (.iload_n 2, 1) := by decide +kernel
theorem dL_till_5 : decode cL_till 5 = .ok (.iload_n 3, 1) := by decide +kernel
theorem dL_till_6 : decode cL_till 6 = .ok (.invokevirtual 65, 3) := by decide +kernel
theorem dL_till_9 : decode cL_till 9 = .ok (.i2l, 1) := by decide +kernel
theorem dL_till_10 : decode cL_till 10 = .ok (.putfield 13, 3) := by decide +kernel
theorem dL_till_13 : decode cL_till 13 = .ok (.goto 11, 3) := by decide +kernel
theorem dL_till_16 : decode cL_till 16 = .ok (.astore 5, 2) := by decide +kernel
theorem dL_till_18 : decode cL_till 18 = .ok (.iconst 1, 1) := by decide +kernel
theorem dL_till_19 : decode cL_till 19 = .ok (.ireturn, 1) := by decide +kernel
theorem dL_till_20 : decode cL_till 20 = .ok (.astore 5, 2) := by decide +kernel
theorem dL_till_22 : decode cL_till 22 = .ok (.iconst 2, 1) := by decide +kernel
theorem dL_till_23 : decode cL_till 23 = .ok (.ireturn, 1) := by decide +kernel
theorem dL_till_24 : decode cL_till 24 = .ok (.iconst 0, 1) := by decide +kernel
theorem dL_till_25 : decode cL_till 25 = .ok (.ireturn, 1) := by decide +kernel
theorem dL_give_0 : decode cL_give 0 = .ok (.aload_n 3, 1) := by decide +kernel
theorem dL_give_1 : decode cL_give 1 = .ok (.aload_n 0, 1) := by decide +kernel
theorem dL_give_2 : decode cL_give 2 = .ok (.iload_n 1, 1) := by decide +kernel
theorem dL_give_3 : decode cL_give 3 = .ok (.iload_n 2, 1) := by decide +kernel
theorem dL_give_4 : decode cL_give 4 = .ok (.invokevirtual 68, 3) := by decide +kernel
theorem dL_give_7 : decode cL_give 7 = .ok (.i2l, 1) := by decide +kernel
theorem dL_give_8 : decode cL_give 8 = .ok (.putfield 13, 3) := by decide +kernel
theorem dL_give_11 : decode cL_give 11 = .ok (.goto 15, 3) := by decide +kernel
theorem dL_give_14 : decode cL_give 14 = .ok (.astore 4, 2) := by decide +kernel
theorem dL_give_16 : decode cL_give 16 = .ok (.iconst 1, 1) := by decide +kernel
theorem dL_give_17 : decode cL_give 17 = .ok (.ireturn, 1) := by decide +kernel
theorem dL_give_18 : decode cL_give 18 = .ok (.astore 4, 2) := by decide +kernel
theorem dL_give_20 : decode cL_give 20 = .ok (.iconst 2, 1) := by decide +kernel
theorem dL_give_21 : decode cL_give 21 = .ok (.ireturn, 1) := by decide +kernel
theorem dL_give_22 : decode cL_give 22 = .ok (.astore 4, 2) := by decide +kernel
theorem dL_give_24 : decode cL_give 24 = .ok (.iconst 3, 1) := by decide +kernel
theorem dL_give_25 : decode cL_give 25 = .ok (.ireturn, 1) := by decide +kernel
theorem dL_give_26 : decode cL_give 26 = .ok (.iconst 0, 1) := by decide +kernel
theorem dL_give_27 : decode cL_give 27 = .ok (.ireturn, 1) := by decide +kernel
theorem dL_coins_0 : decode cL_coins 0 = .ok (.aload_n 3, 1) := by decide +kernel
theorem dL_coins_1 : decode cL_coins 1 = .ok (.aload_n 0, 1) := by decide +kernel
theorem dL_coins_2 : decode cL_coins 2 = .ok (.iload_n 1, 1) := by decide +kernel
theorem dL_coins_3 : decode cL_coins 3 = .ok (.iload_n 2, 1) := by decide +kernel
theorem dL_coins_4 : decode cL_coins 4 = .ok (.invokevirtual 71, 3) := by decide +kernel
theorem dL_coins_7 : decode cL_coins 7 = .ok (.i2l, 1) := by decide +kernel
theorem dL_coins_8 : decode cL_coins 8 = .ok (.putfield 13, 3) := by decide +kernel
theorem dL_coins_11 : decode cL_coins 11 = .ok (.goto 11, 3) := by decide +kernel
theorem dL_coins_14 : decode cL_coins 14 = .ok (.astore 4, 2) := by decide +kernel
theorem dL_coins_16 : decode cL_coins 16 = .ok (.iconst 1, 1) := by decide +kernel
theorem dL_coins_17 : decode cL_coins 17 = .ok (.ireturn, 1) := by decide +kernel
theorem dL_coins_18 : decode cL_coins 18 = .ok (.astore 4, 2) := by decide +kernel
theorem dL_coins_20 : decode cL_coins 20 = .ok (.iconst 2, 1) := by decide +kernel
theorem dL_coins_21 : decode cL_coins 21 = .ok (.ireturn, 1) := by decide +kernel
theorem dL_coins_22 : decode cL_coins 22 = .ok (.iconst 0, 1) := by decide +kernel
theorem dL_coins_23 : decode cL_coins 23 = .ok (.ireturn, 1) := by decide +kernel
theorem dL_ofCountry_0 : decode cL_ofCountry 0 = .ok (.aload_n 3, 1) := by decide +kernel
theorem dL_ofCountry_1 : decode cL_ofCountry 1 = .ok (.aload_n 0, 1) := by decide +kernel
theorem dL_ofCountry_2 : decode cL_ofCountry 2 = .ok (.iload_n 1, 1) := by decide +kernel
theorem dL_ofCountry_3 : decode cL_ofCountry 3 = .ok (.iload_n 2, 1) := by decide +kernel
theorem dL_ofCountry_4 : decode cL_ofCountry 4 = .ok (.invokevirtual 74, 3) := by decide +kernel
theorem dL_ofCountry_7 : decode cL_ofCountry 7 = .ok (.i2l, 1) := by decide +kernel
theorem dL_ofCountry_8 : decode cL_ofCountry 8 = .ok (.putfield 13, 3) := by decide +kernel
theorem dL_ofCountry_11 : decode cL_ofCountry 11 = .ok (.goto 11, 3) := by decide +kernel
theorem dL_ofCountry_14 : decode cL_ofCountry 14 = .ok (.astore 4, 2) := by decide +kernel
theorem dL_ofCountry_16 : decode cL_ofCountry 16 = .ok (.iconst 1, 1) := by decide +kernel
theorem dL_ofCountry_17 : decode cL_ofCountry 17 = .ok (.ireturn, 1) := by decide +kernel
theorem dL_ofCountry_18 : decode cL_ofCountry 18 = .ok (.astore 4, 2) := by decide +kernel
theorem dL_ofCountry_20 : decode cL_ofCountry 20 = .ok (.iconst 2, 1) := by decide +kernel
theorem dL_ofCountry_21 : decode cL_ofCountry 21 = .ok (.ireturn, 1) := by decide +kernel
theorem dL_ofCountry_22 : decode cL_ofCountry 22 = .ok (.iconst 0, 1) := by decide +kernel
theorem dL_ofCountry_23 : decode cL_ofCountry 23 = .ok (.ireturn, 1) := by decide +kernel
theorem dL_ofHouse_0 : decode cL_ofHouse 0 = .ok (.aload_n 3, 1) := by decide +kernel
theorem dL_ofHouse_1 : decode cL_ofHouse 1 = .ok (.aload_n 0, 1) := by decide +kernel
theorem dL_ofHouse_2 : decode cL_ofHouse 2 = .ok (.iload_n 1, 1) := by decide +kernel
theorem dL_ofHouse_3 : decode cL_ofHouse 3 = .ok (.iload_n 2, 1) := by decide +kernel
theorem dL_ofHouse_4 : decode cL_ofHouse 4 = .ok (.invokevirtual 77, 3) := by decide +kernel
theorem dL_ofHouse_7 : decode cL_ofHouse 7 = .ok (.i2l, 1) := by decide +kernel
theorem dL_ofHouse_8 : decode cL_ofHouse 8 = .ok (.putfield 13, 3) := by decide +kernel
theorem dL_ofHouse_11 : decode cL_ofHouse 11 = .ok (.goto 11, 3) := by decide +kernel
theorem dL_ofHouse_14 : decode cL_ofHouse 14 = .ok (.astore 4, 2) := by decide +kernel
theorem dL_ofHouse_16 : decode cL_ofHouse 16 = .ok (.iconst 1, 1) := by decide +kernel
theorem dL_ofHouse_17 : decode cL_ofHouse 17 = .ok (.ireturn, 1) := by decide +kernel
theorem dL_ofHouse_18 : decode cL_ofHouse 18 = .ok (.astore 4, 2) := by decide +kernel
theorem dL_ofHouse_20 : decode cL_ofHouse 20 = .ok (.iconst 2, 1) := by decide +kernel
theorem dL_ofHouse_21 : decode cL_ofHouse 21 = .ok (.ireturn, 1) := by decide +kernel
theorem dL_ofHouse_22 : decode cL_ofHouse 22 = .ok (.iconst 0, 1) := by decide +kernel
theorem dL_ofHouse_23 : decode cL_ofHouse 23 = .ok (.ireturn, 1) := by decide +kernel
theorem dL_ofDebt_0 : decode cL_ofDebt 0 = .ok (.aload_n 3, 1) := by decide +kernel
theorem dL_ofDebt_1 : decode cL_ofDebt 1 = .ok (.aload_n 0, 1) := by decide +kernel
theorem dL_ofDebt_2 : decode cL_ofDebt 2 = .ok (.iload_n 1, 1) := by decide +kernel
theorem dL_ofDebt_3 : decode cL_ofDebt 3 = .ok (.iload_n 2, 1) := by decide +kernel
theorem dL_ofDebt_4 : decode cL_ofDebt 4 = .ok (.invokevirtual 80, 3) := by decide +kernel
theorem dL_ofDebt_7 : decode cL_ofDebt 7 = .ok (.i2l, 1) := by decide +kernel
theorem dL_ofDebt_8 : decode cL_ofDebt 8 = .ok (.putfield 13, 3) := by decide +kernel
theorem dL_ofDebt_11 : decode cL_ofDebt 11 = .ok (.goto 11, 3) := by decide +kernel
theorem dL_ofDebt_14 : decode cL_ofDebt 14 = .ok (.astore 4, 2) := by decide +kernel
theorem dL_ofDebt_16 : decode cL_ofDebt 16 = .ok (.iconst 1, 1) := by decide +kernel
theorem dL_ofDebt_17 : decode cL_ofDebt 17 = .ok (.ireturn, 1) := by decide +kernel
theorem dL_ofDebt_18 : decode cL_ofDebt 18 = .ok (.astore 4, 2) := by decide +kernel
theorem dL_ofDebt_20 : decode cL_ofDebt 20 = .ok (.iconst 2, 1) := by decide +kernel
theorem dL_ofDebt_21 : decode cL_ofDebt 21 = .ok (.ireturn, 1) := by decide +kernel
theorem dL_ofDebt_22 : decode cL_ofDebt 22 = .ok (.iconst 0, 1) := by decide +kernel
theorem dL_ofDebt_23 : decode cL_ofDebt 23 = .ok (.ireturn, 1) := by decide +kernel
theorem dL_world_0 : decode cL_world 0 = .ok (.aload_n 3, 1) := by decide +kernel
theorem dL_world_1 : decode cL_world 1 = .ok (.aload_n 0, 1) := by decide +kernel
theorem dL_world_2 : decode cL_world 2 = .ok (.iload_n 1, 1) := by decide +kernel
theorem dL_world_3 : decode cL_world 3 = .ok (.iload_n 2, 1) := by decide +kernel
theorem dL_world_4 : decode cL_world 4 = .ok (.invokevirtual 83, 3) := by decide +kernel
theorem dL_world_7 : decode cL_world 7 = .ok (.i2l, 1) := by decide +kernel
theorem dL_world_8 : decode cL_world 8 = .ok (.putfield 13, 3) := by decide +kernel
theorem dL_world_11 : decode cL_world 11 = .ok (.goto 7, 3) := by decide +kernel
theorem dL_world_14 : decode cL_world 14 = .ok (.astore 4, 2) := by decide +kernel
theorem dL_world_16 : decode cL_world 16 = .ok (.iconst 1, 1) := by decide +kernel
theorem dL_world_17 : decode cL_world 17 = .ok (.ireturn, 1) := by decide +kernel
theorem dL_world_18 : decode cL_world 18 = .ok (.iconst 0, 1) := by decide +kernel
theorem dL_world_19 : decode cL_world 19 = .ok (.ireturn, 1) := by decide +kernel
theorem dL_sign_0 : decode cL_sign 0 = .ok (.aload_n 2, 1) := by decide +kernel
theorem dL_sign_1 : decode cL_sign 1 = .ok (.aload_n 0, 1) := by decide +kernel
theorem dL_sign_2 : decode cL_sign 2 = .ok (.iload_n 1, 1) := by decide +kernel
theorem dL_sign_3 : decode cL_sign 3 = .ok (.invokevirtual 86, 3) := by decide +kernel
theorem dL_sign_6 : decode cL_sign 6 = .ok (.putfield 90, 3) := by decide +kernel
theorem dL_sign_9 : decode cL_sign 9 = .ok (.goto 6, 3) := by decide +kernel
theorem dL_sign_12 : decode cL_sign 12 = .ok (.astore_n 3, 1) := by decide +kernel
theorem dL_sign_13 : decode cL_sign 13 = .ok (.iconst 1, 1) := by decide +kernel
theorem dL_sign_14 : decode cL_sign 14 = .ok (.ireturn, 1) := by decide +kernel
theorem dL_sign_15 : decode cL_sign 15 = .ok (.iconst 0, 1) := by decide +kernel
theorem dL_sign_16 : decode cL_sign 16 = .ok (.ireturn, 1) := by decide +kernel
theorem dL_trip_0 : decode cL_trip 0 = .ok (.aload 5, 2) := by decide +kernel
theorem dL_trip_2 : decode cL_trip 2 = .ok (.aload_n 0, 1) := by decide +kernel
theorem dL_trip_3 : decode cL_trip 3 = .ok (.iload_n 1, 1) := by decide +kernel
theorem dL_trip_4 : decode cL_trip 4 = .ok (.iload_n 2, 1) := by decide +kernel
theorem dL_trip_5 : decode cL_trip 5 = .ok (.iload_n 3, 1) := by decide +kernel
theorem dL_trip_6 : decode cL_trip 6 = .ok (.iload 4, 2) := by decide +kernel
theorem dL_trip_8 : decode cL_trip 8 = .ok (.invokevirtual 94, 3) := by decide +kernel
theorem dL_trip_11 : decode cL_trip 11 = .ok (.i2l, 1) := by decide +kernel
theorem dL_trip_12 : decode cL_trip 12 = .ok (.putfield 13, 3) := by decide +kernel
theorem dL_trip_15 : decode cL_trip 15 = .ok (.goto 11, 3) := by decide +kernel
theorem dL_trip_18 : decode cL_trip 18 = .ok (.astore 6, 2) := by decide +kernel
theorem dL_trip_20 : decode cL_trip 20 = .ok (.iconst 1, 1) := by decide +kernel
theorem dL_trip_21 : decode cL_trip 21 = .ok (.ireturn, 1) := by decide +kernel
theorem dL_trip_22 : decode cL_trip 22 = .ok (.astore 6, 2) := by decide +kernel
theorem dL_trip_24 : decode cL_trip 24 = .ok (.iconst 2, 1) := by decide +kernel
theorem dL_trip_25 : decode cL_trip 25 = .ok (.ireturn, 1) := by decide +kernel
theorem dL_trip_26 : decode cL_trip 26 = .ok (.iconst 0, 1) := by decide +kernel
theorem dL_trip_27 : decode cL_trip 27 = .ok (.ireturn, 1) := by decide +kernel
theorem dL_bestTrip_0 : decode cL_bestTrip 0 = .ok (.aload 4, 2) := by decide +kernel
theorem dL_bestTrip_2 : decode cL_bestTrip 2 = .ok (.aload_n 0, 1) := by decide +kernel
theorem dL_bestTrip_3 : decode cL_bestTrip 3 = .ok (.iload_n 1, 1) := by decide +kernel
theorem dL_bestTrip_4 : decode cL_bestTrip 4 = .ok (.iload_n 2, 1) := by decide +kernel
theorem dL_bestTrip_5 : decode cL_bestTrip 5 = .ok (.iload_n 3, 1) := by decide +kernel
theorem dL_bestTrip_6 : decode cL_bestTrip 6 = .ok (.invokevirtual 97, 3) := by decide +kernel
theorem dL_bestTrip_9 : decode cL_bestTrip 9 = .ok (.i2l, 1) := by decide +kernel
theorem dL_bestTrip_10 : decode cL_bestTrip 10 = .ok (.putfield 13, 3) := by decide +kernel
theorem dL_bestTrip_13 : decode cL_bestTrip 13 = .ok (.goto 11, 3) := by decide +kernel
theorem dL_bestTrip_16 : decode cL_bestTrip 16 = .ok (.astore 5, 2) := by decide +kernel
theorem dL_bestTrip_18 : decode cL_bestTrip 18 = .ok (.iconst 1, 1) := by decide +kernel
theorem dL_bestTrip_19 : decode cL_bestTrip 19 = .ok (.ireturn, 1) := by decide +kernel
theorem dL_bestTrip_20 : decode cL_bestTrip 20 = .ok (.astore 5, 2) := by decide +kernel
theorem dL_bestTrip_22 : decode cL_bestTrip 22 = .ok (.iconst 2, 1) := by decide +kernel
theorem dL_bestTrip_23 : decode cL_bestTrip 23 = .ok (.ireturn, 1) := by decide +kernel
theorem dL_bestTrip_24 : decode cL_bestTrip 24 = .ok (.iconst 0, 1) := by decide +kernel
theorem dL_bestTrip_25 : decode cL_bestTrip 25 = .ok (.ireturn, 1) := by decide +kernel
theorem dL_rest_0 : decode cL_rest 0 = .ok (.aload_n 2, 1) := by decide +kernel
theorem dL_rest_1 : decode cL_rest 1 = .ok (.aload_n 0, 1) := by decide +kernel
theorem dL_rest_2 : decode cL_rest 2 = .ok (.iload_n 1, 1) := by decide +kernel
theorem dL_rest_3 : decode cL_rest 3 = .ok (.invokevirtual 100, 3) := by decide +kernel
theorem dL_rest_6 : decode cL_rest 6 = .ok (.ifCond .eq 7, 3) := by decide +kernel
theorem dL_rest_9 : decode cL_rest 9 = .ok (.lconst 1, 1) := by decide +kernel
theorem dL_rest_10 : decode cL_rest 10 = .ok (.goto 4, 3) := by decide +kernel
theorem dL_rest_13 : decode cL_rest 13 = .ok (.lconst 0, 1) := by decide +kernel
theorem dL_rest_14 : decode cL_rest 14 = .ok (.putfield 13, 3) := by decide +kernel
theorem dL_rest_17 : decode cL_rest 17 = .ok (.goto 6, 3) := by decide +kernel
theorem dL_rest_20 : decode cL_rest 20 = .ok (.astore_n 3, 1) := by decide +kernel
theorem dL_rest_21 : decode cL_rest 21 = .ok (.iconst 1, 1) := by decide +kernel
theorem dL_rest_22 : decode cL_rest 22 = .ok (.ireturn, 1) := by decide +kernel
theorem dL_rest_23 : decode cL_rest 23 = .ok (.iconst 0, 1) := by decide +kernel
theorem dL_rest_24 : decode cL_rest 24 = .ok (.ireturn, 1) := by decide +kernel
theorem dL_last_0 : decode cL_last 0 = .ok (.aload 4, 2) := by decide +kernel
theorem dL_last_2 : decode cL_last 2 = .ok (.aload_n 0, 1) := by decide +kernel
theorem dL_last_3 : decode cL_last 3 = .ok (.iload_n 1, 1) := by decide +kernel
theorem dL_last_4 : decode cL_last 4 = .ok (.iload_n 2, 1) := by decide +kernel
theorem dL_last_5 : decode cL_last 5 = .ok (.iload_n 3, 1) := by decide +kernel
theorem dL_last_6 : decode cL_last 6 = .ok (.invokevirtual 104, 3) := by decide +kernel
theorem dL_last_9 : decode cL_last 9 = .ok (.i2l, 1) := by decide +kernel
theorem dL_last_10 : decode cL_last 10 = .ok (.putfield 13, 3) := by decide +kernel
theorem dL_last_13 : decode cL_last 13 = .ok (.goto 11, 3) := by decide +kernel
theorem dL_last_16 : decode cL_last 16 = .ok (.astore 5, 2) := by decide +kernel
theorem dL_last_18 : decode cL_last 18 = .ok (.iconst 1, 1) := by decide +kernel
theorem dL_last_19 : decode cL_last 19 = .ok (.ireturn, 1) := by decide +kernel
theorem dL_last_20 : decode cL_last 20 = .ok (.astore 5, 2) := by decide +kernel
theorem dL_last_22 : decode cL_last 22 = .ok (.iconst 2, 1) := by decide +kernel
theorem dL_last_23 : decode cL_last 23 = .ok (.ireturn, 1) := by decide +kernel
theorem dL_last_24 : decode cL_last 24 = .ok (.iconst 0, 1) := by decide +kernel
theorem dL_last_25 : decode cL_last 25 = .ok (.ireturn, 1) := by decide +kernel
theorem dL_law__0 : decode cL_law_ 0 = .ok (.new 8, 3) := by decide +kernel
theorem dL_law__3 : decode cL_law_ 3 = .ok (.dup, 1) := by decide +kernel
theorem dL_law__4 : decode cL_law_ 4 = .ok (.invokespecial 107, 3) := by decide +kernel
theorem dL_law__7 : decode cL_law_ 7 = .ok (.astore_n 1, 1) := by decide +kernel
theorem dL_law__8 : decode cL_law_ 8 = .ok (.new 108, 3) := by decide +kernel
theorem dL_law__11 : decode cL_law_ 11 = .ok (.dup, 1) := by decide +kernel
theorem dL_law__12 : decode cL_law_ 12 = .ok (.invokespecial 110, 3) := by decide +kernel
theorem dL_law__15 : decode cL_law_ 15 = .ok (.astore_n 2, 1) := by decide +kernel
theorem dL_law__16 : decode cL_law_ 16 = .ok (.new 14, 3) := by decide +kernel
theorem dL_law__19 : decode cL_law_ 19 = .ok (.dup, 1) := by decide +kernel
theorem dL_law__20 : decode cL_law_ 20 = .ok (.invokespecial 111, 3) := by decide +kernel
theorem dL_law__23 : decode cL_law_ 23 = .ok (.astore_n 3, 1) := by decide +kernel
theorem dL_law__24 : decode cL_law_ 24 = .ok (.iconst 0, 1) := by decide +kernel
theorem dL_law__25 : decode cL_law_ 25 = .ok (.istore 4, 2) := by decide +kernel
theorem dL_law__27 : decode cL_law_ 27 = .ok (.iload 4, 2) := by decide +kernel
theorem dL_law__29 : decode cL_law_ 29 = .ok (.aload_n 0, 1) := by decide +kernel
theorem dL_law__30 : decode cL_law_ 30 = .ok (.arraylength, 1) := by decide +kernel
theorem dL_law__31 : decode cL_law_ 31 = .ok (.iconst 5, 1) := by decide +kernel
theorem dL_law__32 : decode cL_law_ 32 = .ok (.isub, 1) := by decide +kernel
theorem dL_law__33 : decode cL_law_ 33 = .ok (.if_icmp .gt 1335, 3) := by decide +kernel
theorem dL_law__36 : decode cL_law_ 36 = .ok (.aload_n 0, 1) := by decide +kernel
theorem dL_law__37 : decode cL_law_ 37 = .ok (.iload 4, 2) := by decide +kernel
theorem dL_law__39 : decode cL_law_ 39 = .ok (.iaload, 1) := by decide +kernel
theorem dL_law__40 : decode cL_law_ 40 = .ok (.bipush 31, 2) := by decide +kernel
theorem dL_law__42 : decode cL_law_ 42 = .ok (.iand, 1) := by decide +kernel
theorem dL_law__43 : decode cL_law_ 43 = .ok (.tableswitch 1319 0 26 #[121, 185, 237, 305, 333, 397, 449, 501, 553, 605, 645, 673, 737, 777, 829, 869, 909, 949, 989, 1029, 1069, 1097, 1161, 1213, 1241, 1293, 1306], 121) := by decide +kernel
theorem dL_law__164 : decode cL_law_ 164 = .ok (.aload_n 1, 1) := by decide +kernel
theorem dL_law__165 : decode cL_law_ 165 = .ok (.aload_n 0, 1) := by decide +kernel
theorem dL_law__166 : decode cL_law_ 166 = .ok (.iload 4, 2) := by decide +kernel
theorem dL_law__168 : decode cL_law_ 168 = .ok (.iconst 1, 1) := by decide +kernel
theorem dL_law__169 : decode cL_law_ 169 = .ok (.iadd, 1) := by decide +kernel
theorem dL_law__170 : decode cL_law_ 170 = .ok (.iaload, 1) := by decide +kernel
theorem dL_law__171 : decode cL_law_ 171 = .ok (.aload_n 0, 1) := by decide +kernel
theorem dL_law__172 : decode cL_law_ 172 = .ok (.iload 4, 2) := by decide +kernel
theorem dL_law__174 : decode cL_law_ 174 = .ok (.iconst 2, 1) := by decide +kernel
theorem dL_law__175 : decode cL_law_ 175 = .ok (.iadd, 1) := by decide +kernel
theorem dL_law__176 : decode cL_law_ 176 = .ok (.iaload, 1) := by decide +kernel
theorem dL_law__177 : decode cL_law_ 177 = .ok (.aload_n 0, 1) := by decide +kernel
theorem dL_law__178 : decode cL_law_ 178 = .ok (.iload 4, 2) := by decide +kernel
theorem dL_law__180 : decode cL_law_ 180 = .ok (.iconst 3, 1) := by decide +kernel
theorem dL_law__181 : decode cL_law_ 181 = .ok (.iadd, 1) := by decide +kernel
theorem dL_law__182 : decode cL_law_ 182 = .ok (.iaload, 1) := by decide +kernel
theorem dL_law__183 : decode cL_law_ 183 = .ok (.aload_n 0, 1) := by decide +kernel
theorem dL_law__184 : decode cL_law_ 184 = .ok (.iload 4, 2) := by decide +kernel
theorem dL_law__186 : decode cL_law_ 186 = .ok (.iconst 4, 1) := by decide +kernel
theorem dL_law__187 : decode cL_law_ 187 = .ok (.iadd, 1) := by decide +kernel
theorem dL_law__188 : decode cL_law_ 188 = .ok (.iaload, 1) := by decide +kernel
theorem dL_law__189 : decode cL_law_ 189 = .ok (.aload_n 3, 1) := by decide +kernel
theorem dL_law__190 : decode cL_law_ 190 = .ok (.invokestatic 112, 3) := by decide +kernel
theorem dL_law__193 : decode cL_law_ 193 = .ok (.istore 5, 2) := by decide +kernel
theorem dL_law__195 : decode cL_law_ 195 = .ok (.aload_n 2, 1) := by decide +kernel
theorem dL_law__196 : decode cL_law_ 196 = .ok (.aload_n 0, 1) := by decide +kernel
theorem dL_law__197 : decode cL_law_ 197 = .ok (.iload 4, 2) := by decide +kernel
theorem dL_law__199 : decode cL_law_ 199 = .ok (.iconst 1, 1) := by decide +kernel
theorem dL_law__200 : decode cL_law_ 200 = .ok (.iadd, 1) := by decide +kernel
theorem dL_law__201 : decode cL_law_ 201 = .ok (.iaload, 1) := by decide +kernel
theorem dL_law__202 : decode cL_law_ 202 = .ok (.aload_n 0, 1) := by decide +kernel
theorem dL_law__203 : decode cL_law_ 203 = .ok (.iload 4, 2) := by decide +kernel
theorem dL_law__205 : decode cL_law_ 205 = .ok (.iconst 2, 1) := by decide +kernel
theorem dL_law__206 : decode cL_law_ 206 = .ok (.iadd, 1) := by decide +kernel
theorem dL_law__207 : decode cL_law_ 207 = .ok (.iaload, 1) := by decide +kernel
theorem dL_law__208 : decode cL_law_ 208 = .ok (.aload_n 0, 1) := by decide +kernel
theorem dL_law__209 : decode cL_law_ 209 = .ok (.iload 4, 2) := by decide +kernel
theorem dL_law__211 : decode cL_law_ 211 = .ok (.iconst 3, 1) := by decide +kernel
theorem dL_law__212 : decode cL_law_ 212 = .ok (.iadd, 1) := by decide +kernel
theorem dL_law__213 : decode cL_law_ 213 = .ok (.iaload, 1) := by decide +kernel
theorem dL_law__214 : decode cL_law_ 214 = .ok (.aload_n 0, 1) := by decide +kernel
theorem dL_law__215 : decode cL_law_ 215 = .ok (.iload 4, 2) := by decide +kernel
theorem dL_law__217 : decode cL_law_ 217 = .ok (.iconst 4, 1) := by decide +kernel
theorem dL_law__218 : decode cL_law_ 218 = .ok (.iadd, 1) := by decide +kernel
theorem dL_law__219 : decode cL_law_ 219 = .ok (.iaload, 1) := by decide +kernel
theorem dL_law__220 : decode cL_law_ 220 = .ok (.invokevirtual 117, 3) := by decide +kernel
theorem dL_law__223 : decode cL_law_ 223 = .ok (.istore 6, 2) := by decide +kernel
theorem dL_law__225 : decode cL_law_ 225 = .ok (.goto 1137, 3) := by decide +kernel
theorem dL_law__228 : decode cL_law_ 228 = .ok (.aload_n 1, 1) := by decide +kernel
theorem dL_law__229 : decode cL_law_ 229 = .ok (.aload_n 0, 1) := by decide +kernel
theorem dL_law__230 : decode cL_law_ 230 = .ok (.iload 4, 2) := by decide +kernel
theorem dL_law__232 : decode cL_law_ 232 = .ok (.iconst 1, 1) := by decide +kernel
theorem dL_law__233 : decode cL_law_ 233 = .ok (.iadd, 1) := by decide +kernel
theorem dL_law__234 : decode cL_law_ 234 = .ok (.iaload, 1) := by decide +kernel
theorem dL_law__235 : decode cL_law_ 235 = .ok (.aload_n 0, 1) := by decide +kernel
theorem dL_law__236 : decode cL_law_ 236 = .ok (.iload 4, 2) := by decide +kernel
theorem dL_law__238 : decode cL_law_ 238 = .ok (.iconst 2, 1) := by decide +kernel
theorem dL_law__239 : decode cL_law_ 239 = .ok (.iadd, 1) := by decide +kernel
theorem dL_law__240 : decode cL_law_ 240 = .ok (.iaload, 1) := by decide +kernel
theorem dL_law__241 : decode cL_law_ 241 = .ok (.aload_n 0, 1) := by decide +kernel
theorem dL_law__242 : decode cL_law_ 242 = .ok (.iload 4, 2) := by decide +kernel
theorem dL_law__244 : decode cL_law_ 244 = .ok (.iconst 3, 1) := by decide +kernel
theorem dL_law__245 : decode cL_law_ 245 = .ok (.iadd, 1) := by decide +kernel
theorem dL_law__246 : decode cL_law_ 246 = .ok (.iaload, 1) := by decide +kernel
theorem dL_law__247 : decode cL_law_ 247 = .ok (.aload_n 3, 1) := by decide +kernel
theorem dL_law__248 : decode cL_law_ 248 = .ok (.invokestatic 118, 3) := by decide +kernel
theorem dL_law__251 : decode cL_law_ 251 = .ok (.istore 5, 2) := by decide +kernel
theorem dL_law__253 : decode cL_law_ 253 = .ok (.aload_n 2, 1) := by decide +kernel
theorem dL_law__254 : decode cL_law_ 254 = .ok (.aload_n 0, 1) := by decide +kernel
theorem dL_law__255 : decode cL_law_ 255 = .ok (.iload 4, 2) := by decide +kernel
theorem dL_law__257 : decode cL_law_ 257 = .ok (.iconst 1, 1) := by decide +kernel
theorem dL_law__258 : decode cL_law_ 258 = .ok (.iadd, 1) := by decide +kernel
theorem dL_law__259 : decode cL_law_ 259 = .ok (.iaload, 1) := by decide +kernel
theorem dL_law__260 : decode cL_law_ 260 = .ok (.aload_n 0, 1) := by decide +kernel
theorem dL_law__261 : decode cL_law_ 261 = .ok (.iload 4, 2) := by decide +kernel
theorem dL_law__263 : decode cL_law_ 263 = .ok (.iconst 2, 1) := by decide +kernel
theorem dL_law__264 : decode cL_law_ 264 = .ok (.iadd, 1) := by decide +kernel
theorem dL_law__265 : decode cL_law_ 265 = .ok (.iaload, 1) := by decide +kernel
theorem dL_law__266 : decode cL_law_ 266 = .ok (.aload_n 0, 1) := by decide +kernel
theorem dL_law__267 : decode cL_law_ 267 = .ok (.iload 4, 2) := by decide +kernel
theorem dL_law__269 : decode cL_law_ 269 = .ok (.iconst 3, 1) := by decide +kernel
theorem dL_law__270 : decode cL_law_ 270 = .ok (.iadd, 1) := by decide +kernel
theorem dL_law__271 : decode cL_law_ 271 = .ok (.iaload, 1) := by decide +kernel
theorem dL_law__272 : decode cL_law_ 272 = .ok (.invokevirtual 121, 3) := by decide +kernel
theorem dL_law__275 : decode cL_law_ 275 = .ok (.istore 6, 2) := by decide +kernel
theorem dL_law__277 : decode cL_law_ 277 = .ok (.goto 1085, 3) := by decide +kernel
theorem dL_law__280 : decode cL_law_ 280 = .ok (.aload_n 1, 1) := by decide +kernel
theorem dL_law__281 : decode cL_law_ 281 = .ok (.aload_n 0, 1) := by decide +kernel
theorem dL_law__282 : decode cL_law_ 282 = .ok (.iload 4, 2) := by decide +kernel
theorem dL_law__284 : decode cL_law_ 284 = .ok (.iconst 1, 1) := by decide +kernel
theorem dL_law__285 : decode cL_law_ 285 = .ok (.iadd, 1) := by decide +kernel
theorem dL_law__286 : decode cL_law_ 286 = .ok (.iaload, 1) := by decide +kernel
theorem dL_law__287 : decode cL_law_ 287 = .ok (.aload_n 0, 1) := by decide +kernel
theorem dL_law__288 : decode cL_law_ 288 = .ok (.iload 4, 2) := by decide +kernel
theorem dL_law__290 : decode cL_law_ 290 = .ok (.iconst 2, 1) := by decide +kernel
theorem dL_law__291 : decode cL_law_ 291 = .ok (.iadd, 1) := by decide +kernel
theorem dL_law__292 : decode cL_law_ 292 = .ok (.iaload, 1) := by decide +kernel
theorem dL_law__293 : decode cL_law_ 293 = .ok (.aload_n 0, 1) := by decide +kernel
theorem dL_law__294 : decode cL_law_ 294 = .ok (.iload 4, 2) := by decide +kernel
theorem dL_law__296 : decode cL_law_ 296 = .ok (.iconst 3, 1) := by decide +kernel
theorem dL_law__297 : decode cL_law_ 297 = .ok (.iadd, 1) := by decide +kernel
theorem dL_law__298 : decode cL_law_ 298 = .ok (.iaload, 1) := by decide +kernel
theorem dL_law__299 : decode cL_law_ 299 = .ok (.ifCond .eq 7, 3) := by decide +kernel
theorem dL_law__302 : decode cL_law_ 302 = .ok (.iconst 1, 1) := by decide +kernel
theorem dL_law__303 : decode cL_law_ 303 = .ok (.goto 4, 3) := by decide +kernel
theorem dL_law__306 : decode cL_law_ 306 = .ok (.iconst 0, 1) := by decide +kernel
theorem dL_law__307 : decode cL_law_ 307 = .ok (.aload_n 3, 1) := by decide +kernel
theorem dL_law__308 : decode cL_law_ 308 = .ok (.invokestatic 122, 3) := by decide +kernel
theorem dL_law__311 : decode cL_law_ 311 = .ok (.istore 5, 2) := by decide +kernel
theorem dL_law__313 : decode cL_law_ 313 = .ok (.aload_n 2, 1) := by decide +kernel
theorem dL_law__314 : decode cL_law_ 314 = .ok (.aload_n 0, 1) := by decide +kernel
theorem dL_law__315 : decode cL_law_ 315 = .ok (.iload 4, 2) := by decide +kernel
theorem dL_law__317 : decode cL_law_ 317 = .ok (.iconst 1, 1) := by decide +kernel
theorem dL_law__318 : decode cL_law_ 318 = .ok (.iadd, 1) := by decide +kernel
theorem dL_law__319 : decode cL_law_ 319 = .ok (.iaload, 1) := by decide +kernel
theorem dL_law__320 : decode cL_law_ 320 = .ok (.aload_n 0, 1) := by decide +kernel
theorem dL_law__321 : decode cL_law_ 321 = .ok (.iload 4, 2) := by decide +kernel
theorem dL_law__323 : decode cL_law_ 323 = .ok (.iconst 2, 1) := by decide +kernel
theorem dL_law__324 : decode cL_law_ 324 = .ok (.iadd, 1) := by decide +kernel
theorem dL_law__325 : decode cL_law_ 325 = .ok (.iaload, 1) := by decide +kernel
theorem dL_law__326 : decode cL_law_ 326 = .ok (.aload_n 0, 1) := by decide +kernel
theorem dL_law__327 : decode cL_law_ 327 = .ok (.iload 4, 2) := by decide +kernel
theorem dL_law__329 : decode cL_law_ 329 = .ok (.iconst 3, 1) := by decide +kernel
theorem dL_law__330 : decode cL_law_ 330 = .ok (.iadd, 1) := by decide +kernel
theorem dL_law__331 : decode cL_law_ 331 = .ok (.iaload, 1) := by decide +kernel
theorem dL_law__332 : decode cL_law_ 332 = .ok (.ifCond .eq 7, 3) := by decide +kernel
theorem dL_law__335 : decode cL_law_ 335 = .ok (.iconst 1, 1) := by decide +kernel
theorem dL_law__336 : decode cL_law_ 336 = .ok (.goto 4, 3) := by decide +kernel
theorem dL_law__339 : decode cL_law_ 339 = .ok (.iconst 0, 1) := by decide +kernel
theorem dL_law__340 : decode cL_law_ 340 = .ok (.invokevirtual 125, 3) := by decide +kernel
theorem dL_law__343 : decode cL_law_ 343 = .ok (.istore 6, 2) := by decide +kernel
theorem dL_law__345 : decode cL_law_ 345 = .ok (.goto 1017, 3) := by decide +kernel
theorem dL_law__348 : decode cL_law_ 348 = .ok (.aload_n 1, 1) := by decide +kernel
theorem dL_law__349 : decode cL_law_ 349 = .ok (.aload_n 0, 1) := by decide +kernel
theorem dL_law__350 : decode cL_law_ 350 = .ok (.iload 4, 2) := by decide +kernel
theorem dL_law__352 : decode cL_law_ 352 = .ok (.iconst 1, 1) := by decide +kernel
theorem dL_law__353 : decode cL_law_ 353 = .ok (.iadd, 1) := by decide +kernel
theorem dL_law__354 : decode cL_law_ 354 = .ok (.iaload, 1) := by decide +kernel
theorem dL_law__355 : decode cL_law_ 355 = .ok (.aload_n 3, 1) := by decide +kernel
theorem dL_law__356 : decode cL_law_ 356 = .ok (.invokestatic 126, 3) := by decide +kernel
theorem dL_law__359 : decode cL_law_ 359 = .ok (.istore 5, 2) := by decide +kernel
theorem dL_law__361 : decode cL_law_ 361 = .ok (.aload_n 2, 1) := by decide +kernel
theorem dL_law__362 : decode cL_law_ 362 = .ok (.aload_n 0, 1) := by decide +kernel
theorem dL_law__363 : decode cL_law_ 363 = .ok (.iload 4, 2) := by decide +kernel
theorem dL_law__365 : decode cL_law_ 365 = .ok (.iconst 1, 1) := by decide +kernel
theorem dL_law__366 : decode cL_law_ 366 = .ok (.iadd, 1) := by decide +kernel
theorem dL_law__367 : decode cL_law_ 367 = .ok (.iaload, 1) := by decide +kernel
theorem dL_law__368 : decode cL_law_ 368 = .ok (.invokevirtual 129, 3) := by decide +kernel
theorem dL_law__371 : decode cL_law_ 371 = .ok (.istore 6, 2) := by decide +kernel
theorem dL_law__373 : decode cL_law_ 373 = .ok (.goto 989, 3) := by decide +kernel
theorem dL_law__376 : decode cL_law_ 376 = .ok (.aload_n 1, 1) := by decide +kernel
theorem dL_law__377 : decode cL_law_ 377 = .ok (.aload_n 0, 1) := by decide +kernel
theorem dL_law__378 : decode cL_law_ 378 = .ok (.iload 4, 2) := by decide +kernel
theorem dL_law__380 : decode cL_law_ 380 = .ok (.iconst 1, 1) := by decide +kernel
theorem dL_law__381 : decode cL_law_ 381 = .ok (.iadd, 1) := by decide +kernel
theorem dL_law__382 : decode cL_law_ 382 = .ok (.iaload, 1) := by decide +kernel
theorem dL_law__383 : decode cL_law_ 383 = .ok (.aload_n 0, 1) := by decide +kernel
theorem dL_law__384 : decode cL_law_ 384 = .ok (.iload 4, 2) := by decide +kernel
theorem dL_law__386 : decode cL_law_ 386 = .ok (.iconst 2, 1) := by decide +kernel
theorem dL_law__387 : decode cL_law_ 387 = .ok (.iadd, 1) := by decide +kernel
theorem dL_law__388 : decode cL_law_ 388 = .ok (.iaload, 1) := by decide +kernel
theorem dL_law__389 : decode cL_law_ 389 = .ok (.aload_n 0, 1) := by decide +kernel
theorem dL_law__390 : decode cL_law_ 390 = .ok (.iload 4, 2) := by decide +kernel
theorem dL_law__392 : decode cL_law_ 392 = .ok (.iconst 3, 1) := by decide +kernel
theorem dL_law__393 : decode cL_law_ 393 = .ok (.iadd, 1) := by decide +kernel
theorem dL_law__394 : decode cL_law_ 394 = .ok (.iaload, 1) := by decide +kernel
theorem dL_law__395 : decode cL_law_ 395 = .ok (.aload_n 0, 1) := by decide +kernel
theorem dL_law__396 : decode cL_law_ 396 = .ok (.iload 4, 2) := by decide +kernel
theorem dL_law__398 : decode cL_law_ 398 = .ok (.iconst 4, 1) := by decide +kernel
theorem dL_law__399 : decode cL_law_ 399 = .ok (.iadd, 1) := by decide +kernel
theorem dL_law__400 : decode cL_law_ 400 = .ok (.iaload, 1) := by decide +kernel
theorem dL_law__401 : decode cL_law_ 401 = .ok (.aload_n 3, 1) := by decide +kernel
theorem dL_law__402 : decode cL_law_ 402 = .ok (.invokestatic 130, 3) := by decide +kernel
theorem dL_law__405 : decode cL_law_ 405 = .ok (.istore 5, 2) := by decide +kernel
theorem dL_law__407 : decode cL_law_ 407 = .ok (.aload_n 2, 1) := by decide +kernel
theorem dL_law__408 : decode cL_law_ 408 = .ok (.aload_n 0, 1) := by decide +kernel
theorem dL_law__409 : decode cL_law_ 409 = .ok (.iload 4, 2) := by decide +kernel
theorem dL_law__411 : decode cL_law_ 411 = .ok (.iconst 1, 1) := by decide +kernel
theorem dL_law__412 : decode cL_law_ 412 = .ok (.iadd, 1) := by decide +kernel
theorem dL_law__413 : decode cL_law_ 413 = .ok (.iaload, 1) := by decide +kernel
theorem dL_law__414 : decode cL_law_ 414 = .ok (.aload_n 0, 1) := by decide +kernel
theorem dL_law__415 : decode cL_law_ 415 = .ok (.iload 4, 2) := by decide +kernel
theorem dL_law__417 : decode cL_law_ 417 = .ok (.iconst 2, 1) := by decide +kernel
theorem dL_law__418 : decode cL_law_ 418 = .ok (.iadd, 1) := by decide +kernel
theorem dL_law__419 : decode cL_law_ 419 = .ok (.iaload, 1) := by decide +kernel
theorem dL_law__420 : decode cL_law_ 420 = .ok (.aload_n 0, 1) := by decide +kernel
theorem dL_law__421 : decode cL_law_ 421 = .ok (.iload 4, 2) := by decide +kernel
theorem dL_law__423 : decode cL_law_ 423 = .ok (.iconst 3, 1) := by decide +kernel
theorem dL_law__424 : decode cL_law_ 424 = .ok (.iadd, 1) := by decide +kernel
theorem dL_law__425 : decode cL_law_ 425 = .ok (.iaload, 1) := by decide +kernel
theorem dL_law__426 : decode cL_law_ 426 = .ok (.aload_n 0, 1) := by decide +kernel
theorem dL_law__427 : decode cL_law_ 427 = .ok (.iload 4, 2) := by decide +kernel
theorem dL_law__429 : decode cL_law_ 429 = .ok (.iconst 4, 1) := by decide +kernel
theorem dL_law__430 : decode cL_law_ 430 = .ok (.iadd, 1) := by decide +kernel
theorem dL_law__431 : decode cL_law_ 431 = .ok (.iaload, 1) := by decide +kernel
theorem dL_law__432 : decode cL_law_ 432 = .ok (.invokevirtual 132, 3) := by decide +kernel
theorem dL_law__435 : decode cL_law_ 435 = .ok (.istore 6, 2) := by decide +kernel
theorem dL_law__437 : decode cL_law_ 437 = .ok (.goto 925, 3) := by decide +kernel
theorem dL_law__440 : decode cL_law_ 440 = .ok (.aload_n 1, 1) := by decide +kernel
theorem dL_law__441 : decode cL_law_ 441 = .ok (.aload_n 0, 1) := by decide +kernel
theorem dL_law__442 : decode cL_law_ 442 = .ok (.iload 4, 2) := by decide +kernel
theorem dL_law__444 : decode cL_law_ 444 = .ok (.iconst 1, 1) := by decide +kernel
theorem dL_law__445 : decode cL_law_ 445 = .ok (.iadd, 1) := by decide +kernel
theorem dL_law__446 : decode cL_law_ 446 = .ok (.iaload, 1) := by decide +kernel
theorem dL_law__447 : decode cL_law_ 447 = .ok (.aload_n 0, 1) := by decide +kernel
theorem dL_law__448 : decode cL_law_ 448 = .ok (.iload 4, 2) := by decide +kernel
theorem dL_law__450 : decode cL_law_ 450 = .ok (.iconst 2, 1) := by decide +kernel
theorem dL_law__451 : decode cL_law_ 451 = .ok (.iadd, 1) := by decide +kernel
theorem dL_law__452 : decode cL_law_ 452 = .ok (.iaload, 1) := by decide +kernel
theorem dL_law__453 : decode cL_law_ 453 = .ok (.aload_n 0, 1) := by decide +kernel
theorem dL_law__454 : decode cL_law_ 454 = .ok (.iload 4, 2) := by decide +kernel
theorem dL_law__456 : decode cL_law_ 456 = .ok (.iconst 3, 1) := by decide +kernel
theorem dL_law__457 : decode cL_law_ 457 = .ok (.iadd, 1) := by decide +kernel
theorem dL_law__458 : decode cL_law_ 458 = .ok (.iaload, 1) := by decide +kernel
theorem dL_law__459 : decode cL_law_ 459 = .ok (.aload_n 3, 1) := by decide +kernel
theorem dL_law__460 : decode cL_law_ 460 = .ok (.invokestatic 133, 3) := by decide +kernel
theorem dL_law__463 : decode cL_law_ 463 = .ok (.istore 5, 2) := by decide +kernel
theorem dL_law__465 : decode cL_law_ 465 = .ok (.aload_n 2, 1) := by decide +kernel
theorem dL_law__466 : decode cL_law_ 466 = .ok (.aload_n 0, 1) := by decide +kernel
theorem dL_law__467 : decode cL_law_ 467 = .ok (.iload 4, 2) := by decide +kernel
theorem dL_law__469 : decode cL_law_ 469 = .ok (.iconst 1, 1) := by decide +kernel
theorem dL_law__470 : decode cL_law_ 470 = .ok (.iadd, 1) := by decide +kernel
theorem dL_law__471 : decode cL_law_ 471 = .ok (.iaload, 1) := by decide +kernel
theorem dL_law__472 : decode cL_law_ 472 = .ok (.aload_n 0, 1) := by decide +kernel
theorem dL_law__473 : decode cL_law_ 473 = .ok (.iload 4, 2) := by decide +kernel
theorem dL_law__475 : decode cL_law_ 475 = .ok (.iconst 2, 1) := by decide +kernel
theorem dL_law__476 : decode cL_law_ 476 = .ok (.iadd, 1) := by decide +kernel
theorem dL_law__477 : decode cL_law_ 477 = .ok (.iaload, 1) := by decide +kernel
theorem dL_law__478 : decode cL_law_ 478 = .ok (.aload_n 0, 1) := by decide +kernel
theorem dL_law__479 : decode cL_law_ 479 = .ok (.iload 4, 2) := by decide +kernel
theorem dL_law__481 : decode cL_law_ 481 = .ok (.iconst 3, 1) := by decide +kernel
theorem dL_law__482 : decode cL_law_ 482 = .ok (.iadd, 1) := by decide +kernel
theorem dL_law__483 : decode cL_law_ 483 = .ok (.iaload, 1) := by decide +kernel
theorem dL_law__484 : decode cL_law_ 484 = .ok (.invokevirtual 135, 3) := by decide +kernel
theorem dL_law__487 : decode cL_law_ 487 = .ok (.istore 6, 2) := by decide +kernel
theorem dL_law__489 : decode cL_law_ 489 = .ok (.goto 873, 3) := by decide +kernel
theorem dL_law__492 : decode cL_law_ 492 = .ok (.aload_n 1, 1) := by decide +kernel
theorem dL_law__493 : decode cL_law_ 493 = .ok (.aload_n 0, 1) := by decide +kernel
theorem dL_law__494 : decode cL_law_ 494 = .ok (.iload 4, 2) := by decide +kernel
theorem dL_law__496 : decode cL_law_ 496 = .ok (.iconst 1, 1) := by decide +kernel
theorem dL_law__497 : decode cL_law_ 497 = .ok (.iadd, 1) := by decide +kernel
theorem dL_law__498 : decode cL_law_ 498 = .ok (.iaload, 1) := by decide +kernel
theorem dL_law__499 : decode cL_law_ 499 = .ok (.aload_n 0, 1) := by decide +kernel
theorem dL_law__500 : decode cL_law_ 500 = .ok (.iload 4, 2) := by decide +kernel
theorem dL_law__502 : decode cL_law_ 502 = .ok (.iconst 2, 1) := by decide +kernel
theorem dL_law__503 : decode cL_law_ 503 = .ok (.iadd, 1) := by decide +kernel
theorem dL_law__504 : decode cL_law_ 504 = .ok (.iaload, 1) := by decide +kernel
theorem dL_law__505 : decode cL_law_ 505 = .ok (.aload_n 0, 1) := by decide +kernel
theorem dL_law__506 : decode cL_law_ 506 = .ok (.iload 4, 2) := by decide +kernel
theorem dL_law__508 : decode cL_law_ 508 = .ok (.iconst 3, 1) := by decide +kernel
theorem dL_law__509 : decode cL_law_ 509 = .ok (.iadd, 1) := by decide +kernel
theorem dL_law__510 : decode cL_law_ 510 = .ok (.iaload, 1) := by decide +kernel
theorem dL_law__511 : decode cL_law_ 511 = .ok (.aload_n 3, 1) := by decide +kernel
theorem dL_law__512 : decode cL_law_ 512 = .ok (.invokestatic 136, 3) := by decide +kernel
theorem dL_law__515 : decode cL_law_ 515 = .ok (.istore 5, 2) := by decide +kernel
theorem dL_law__517 : decode cL_law_ 517 = .ok (.aload_n 2, 1) := by decide +kernel
theorem dL_law__518 : decode cL_law_ 518 = .ok (.aload_n 0, 1) := by decide +kernel
theorem dL_law__519 : decode cL_law_ 519 = .ok (.iload 4, 2) := by decide +kernel
theorem dL_law__521 : decode cL_law_ 521 = .ok (.iconst 1, 1) := by decide +kernel
theorem dL_law__522 : decode cL_law_ 522 = .ok (.iadd, 1) := by decide +kernel
theorem dL_law__523 : decode cL_law_ 523 = .ok (.iaload, 1) := by decide +kernel
theorem dL_law__524 : decode cL_law_ 524 = .ok (.aload_n 0, 1) := by decide +kernel
theorem dL_law__525 : decode cL_law_ 525 = .ok (.iload 4, 2) := by decide +kernel
theorem dL_law__527 : decode cL_law_ 527 = .ok (.iconst 2, 1) := by decide +kernel
theorem dL_law__528 : decode cL_law_ 528 = .ok (.iadd, 1) := by decide +kernel
theorem dL_law__529 : decode cL_law_ 529 = .ok (.iaload, 1) := by decide +kernel
theorem dL_law__530 : decode cL_law_ 530 = .ok (.aload_n 0, 1) := by decide +kernel
theorem dL_law__531 : decode cL_law_ 531 = .ok (.iload 4, 2) := by decide +kernel
theorem dL_law__533 : decode cL_law_ 533 = .ok (.iconst 3, 1) := by decide +kernel
theorem dL_law__534 : decode cL_law_ 534 = .ok (.iadd, 1) := by decide +kernel
theorem dL_law__535 : decode cL_law_ 535 = .ok (.iaload, 1) := by decide +kernel
theorem dL_law__536 : decode cL_law_ 536 = .ok (.invokevirtual 138, 3) := by decide +kernel
theorem dL_law__539 : decode cL_law_ 539 = .ok (.istore 6, 2) := by decide +kernel
theorem dL_law__541 : decode cL_law_ 541 = .ok (.goto 821, 3) := by decide +kernel
theorem dL_law__544 : decode cL_law_ 544 = .ok (.aload_n 1, 1) := by decide +kernel
theorem dL_law__545 : decode cL_law_ 545 = .ok (.aload_n 0, 1) := by decide +kernel
theorem dL_law__546 : decode cL_law_ 546 = .ok (.iload 4, 2) := by decide +kernel
theorem dL_law__548 : decode cL_law_ 548 = .ok (.iconst 1, 1) := by decide +kernel
theorem dL_law__549 : decode cL_law_ 549 = .ok (.iadd, 1) := by decide +kernel
theorem dL_law__550 : decode cL_law_ 550 = .ok (.iaload, 1) := by decide +kernel
theorem dL_law__551 : decode cL_law_ 551 = .ok (.aload_n 0, 1) := by decide +kernel
theorem dL_law__552 : decode cL_law_ 552 = .ok (.iload 4, 2) := by decide +kernel
theorem dL_law__554 : decode cL_law_ 554 = .ok (.iconst 2, 1) := by decide +kernel
theorem dL_law__555 : decode cL_law_ 555 = .ok (.iadd, 1) := by decide +kernel
theorem dL_law__556 : decode cL_law_ 556 = .ok (.iaload, 1) := by decide +kernel
theorem dL_law__557 : decode cL_law_ 557 = .ok (.aload_n 0, 1) := by decide +kernel
theorem dL_law__558 : decode cL_law_ 558 = .ok (.iload 4, 2) := by decide +kernel
theorem dL_law__560 : decode cL_law_ 560 = .ok (.iconst 3, 1) := by decide +kernel
theorem dL_law__561 : decode cL_law_ 561 = .ok (.iadd, 1) := by decide +kernel
theorem dL_law__562 : decode cL_law_ 562 = .ok (.iaload, 1) := by decide +kernel
theorem dL_law__563 : decode cL_law_ 563 = .ok (.aload_n 3, 1) := by decide +kernel
theorem dL_law__564 : decode cL_law_ 564 = .ok (.invokestatic 139, 3) := by decide +kernel
theorem dL_law__567 : decode cL_law_ 567 = .ok (.istore 5, 2) := by decide +kernel
theorem dL_law__569 : decode cL_law_ 569 = .ok (.aload_n 2, 1) := by decide +kernel
theorem dL_law__570 : decode cL_law_ 570 = .ok (.aload_n 0, 1) := by decide +kernel
theorem dL_law__571 : decode cL_law_ 571 = .ok (.iload 4, 2) := by decide +kernel
theorem dL_law__573 : decode cL_law_ 573 = .ok (.iconst 1, 1) := by decide +kernel
theorem dL_law__574 : decode cL_law_ 574 = .ok (.iadd, 1) := by decide +kernel
theorem dL_law__575 : decode cL_law_ 575 = .ok (.iaload, 1) := by decide +kernel
theorem dL_law__576 : decode cL_law_ 576 = .ok (.aload_n 0, 1) := by decide +kernel
theorem dL_law__577 : decode cL_law_ 577 = .ok (.iload 4, 2) := by decide +kernel
theorem dL_law__579 : decode cL_law_ 579 = .ok (.iconst 2, 1) := by decide +kernel
theorem dL_law__580 : decode cL_law_ 580 = .ok (.iadd, 1) := by decide +kernel
theorem dL_law__581 : decode cL_law_ 581 = .ok (.iaload, 1) := by decide +kernel
theorem dL_law__582 : decode cL_law_ 582 = .ok (.aload_n 0, 1) := by decide +kernel
theorem dL_law__583 : decode cL_law_ 583 = .ok (.iload 4, 2) := by decide +kernel
theorem dL_law__585 : decode cL_law_ 585 = .ok (.iconst 3, 1) := by decide +kernel
theorem dL_law__586 : decode cL_law_ 586 = .ok (.iadd, 1) := by decide +kernel
theorem dL_law__587 : decode cL_law_ 587 = .ok (.iaload, 1) := by decide +kernel
theorem dL_law__588 : decode cL_law_ 588 = .ok (.invokevirtual 141, 3) := by decide +kernel
theorem dL_law__591 : decode cL_law_ 591 = .ok (.istore 6, 2) := by decide +kernel
theorem dL_law__593 : decode cL_law_ 593 = .ok (.goto 769, 3) := by decide +kernel
theorem dL_law__596 : decode cL_law_ 596 = .ok (.aload_n 1, 1) := by decide +kernel
theorem dL_law__597 : decode cL_law_ 597 = .ok (.aload_n 0, 1) := by decide +kernel
theorem dL_law__598 : decode cL_law_ 598 = .ok (.iload 4, 2) := by decide +kernel
theorem dL_law__600 : decode cL_law_ 600 = .ok (.iconst 1, 1) := by decide +kernel
theorem dL_law__601 : decode cL_law_ 601 = .ok (.iadd, 1) := by decide +kernel
theorem dL_law__602 : decode cL_law_ 602 = .ok (.iaload, 1) := by decide +kernel
theorem dL_law__603 : decode cL_law_ 603 = .ok (.aload_n 0, 1) := by decide +kernel
theorem dL_law__604 : decode cL_law_ 604 = .ok (.iload 4, 2) := by decide +kernel
theorem dL_law__606 : decode cL_law_ 606 = .ok (.iconst 2, 1) := by decide +kernel
theorem dL_law__607 : decode cL_law_ 607 = .ok (.iadd, 1) := by decide +kernel
theorem dL_law__608 : decode cL_law_ 608 = .ok (.iaload, 1) := by decide +kernel
theorem dL_law__609 : decode cL_law_ 609 = .ok (.aload_n 0, 1) := by decide +kernel
theorem dL_law__610 : decode cL_law_ 610 = .ok (.iload 4, 2) := by decide +kernel
theorem dL_law__612 : decode cL_law_ 612 = .ok (.iconst 3, 1) := by decide +kernel
theorem dL_law__613 : decode cL_law_ 613 = .ok (.iadd, 1) := by decide +kernel
theorem dL_law__614 : decode cL_law_ 614 = .ok (.iaload, 1) := by decide +kernel
theorem dL_law__615 : decode cL_law_ 615 = .ok (.aload_n 3, 1) := by decide +kernel
theorem dL_law__616 : decode cL_law_ 616 = .ok (.invokestatic 142, 3) := by decide +kernel
theorem dL_law__619 : decode cL_law_ 619 = .ok (.istore 5, 2) := by decide +kernel
theorem dL_law__621 : decode cL_law_ 621 = .ok (.aload_n 2, 1) := by decide +kernel
theorem dL_law__622 : decode cL_law_ 622 = .ok (.aload_n 0, 1) := by decide +kernel
theorem dL_law__623 : decode cL_law_ 623 = .ok (.iload 4, 2) := by decide +kernel
theorem dL_law__625 : decode cL_law_ 625 = .ok (.iconst 1, 1) := by decide +kernel
theorem dL_law__626 : decode cL_law_ 626 = .ok (.iadd, 1) := by decide +kernel
theorem dL_law__627 : decode cL_law_ 627 = .ok (.iaload, 1) := by decide +kernel
theorem dL_law__628 : decode cL_law_ 628 = .ok (.aload_n 0, 1) := by decide +kernel
theorem dL_law__629 : decode cL_law_ 629 = .ok (.iload 4, 2) := by decide +kernel
theorem dL_law__631 : decode cL_law_ 631 = .ok (.iconst 2, 1) := by decide +kernel
theorem dL_law__632 : decode cL_law_ 632 = .ok (.iadd, 1) := by decide +kernel
theorem dL_law__633 : decode cL_law_ 633 = .ok (.iaload, 1) := by decide +kernel
theorem dL_law__634 : decode cL_law_ 634 = .ok (.aload_n 0, 1) := by decide +kernel
theorem dL_law__635 : decode cL_law_ 635 = .ok (.iload 4, 2) := by decide +kernel
theorem dL_law__637 : decode cL_law_ 637 = .ok (.iconst 3, 1) := by decide +kernel
theorem dL_law__638 : decode cL_law_ 638 = .ok (.iadd, 1) := by decide +kernel
theorem dL_law__639 : decode cL_law_ 639 = .ok (.iaload, 1) := by decide +kernel
theorem dL_law__640 : decode cL_law_ 640 = .ok (.invokevirtual 144, 3) := by decide +kernel
theorem dL_law__643 : decode cL_law_ 643 = .ok (.istore 6, 2) := by decide +kernel
theorem dL_law__645 : decode cL_law_ 645 = .ok (.goto 717, 3) := by decide +kernel
theorem dL_law__648 : decode cL_law_ 648 = .ok (.aload_n 1, 1) := by decide +kernel
theorem dL_law__649 : decode cL_law_ 649 = .ok (.aload_n 0, 1) := by decide +kernel
theorem dL_law__650 : decode cL_law_ 650 = .ok (.iload 4, 2) := by decide +kernel
theorem dL_law__652 : decode cL_law_ 652 = .ok (.iconst 1, 1) := by decide +kernel
theorem dL_law__653 : decode cL_law_ 653 = .ok (.iadd, 1) := by decide +kernel
theorem dL_law__654 : decode cL_law_ 654 = .ok (.iaload, 1) := by decide +kernel
theorem dL_law__655 : decode cL_law_ 655 = .ok (.aload_n 0, 1) := by decide +kernel
theorem dL_law__656 : decode cL_law_ 656 = .ok (.iload 4, 2) := by decide +kernel
theorem dL_law__658 : decode cL_law_ 658 = .ok (.iconst 2, 1) := by decide +kernel
theorem dL_law__659 : decode cL_law_ 659 = .ok (.iadd, 1) := by decide +kernel
theorem dL_law__660 : decode cL_law_ 660 = .ok (.iaload, 1) := by decide +kernel
theorem dL_law__661 : decode cL_law_ 661 = .ok (.aload_n 3, 1) := by decide +kernel
theorem dL_law__662 : decode cL_law_ 662 = .ok (.invokestatic 145, 3) := by decide +kernel
theorem dL_law__665 : decode cL_law_ 665 = .ok (.istore 5, 2) := by decide +kernel
theorem dL_law__667 : decode cL_law_ 667 = .ok (.aload_n 2, 1) := by decide +kernel
theorem dL_law__668 : decode cL_law_ 668 = .ok (.aload_n 0, 1) := by decide +kernel
theorem dL_law__669 : decode cL_law_ 669 = .ok (.iload 4, 2) := by decide +kernel
theorem dL_law__671 : decode cL_law_ 671 = .ok (.iconst 1, 1) := by decide +kernel
theorem dL_law__672 : decode cL_law_ 672 = .ok (.iadd, 1) := by decide +kernel
theorem dL_law__673 : decode cL_law_ 673 = .ok (.iaload, 1) := by decide +kernel
theorem dL_law__674 : decode cL_law_ 674 = .ok (.aload_n 0, 1) := by decide +kernel
theorem dL_law__675 : decode cL_law_ 675 = .ok (.iload 4, 2) := by decide +kernel
theorem dL_law__677 : decode cL_law_ 677 = .ok (.iconst 2, 1) := by decide +kernel
theorem dL_law__678 : decode cL_law_ 678 = .ok (.iadd, 1) := by decide +kernel
theorem dL_law__679 : decode cL_law_ 679 = .ok (.iaload, 1) := by decide +kernel
theorem dL_law__680 : decode cL_law_ 680 = .ok (.invokevirtual 148, 3) := by decide +kernel
theorem dL_law__683 : decode cL_law_ 683 = .ok (.istore 6, 2) := by decide +kernel
theorem dL_law__685 : decode cL_law_ 685 = .ok (.goto 677, 3) := by decide +kernel
theorem dL_law__688 : decode cL_law_ 688 = .ok (.aload_n 1, 1) := by decide +kernel
theorem dL_law__689 : decode cL_law_ 689 = .ok (.aload_n 0, 1) := by decide +kernel
theorem dL_law__690 : decode cL_law_ 690 = .ok (.iload 4, 2) := by decide +kernel
theorem dL_law__692 : decode cL_law_ 692 = .ok (.iconst 1, 1) := by decide +kernel
theorem dL_law__693 : decode cL_law_ 693 = .ok (.iadd, 1) := by decide +kernel
theorem dL_law__694 : decode cL_law_ 694 = .ok (.iaload, 1) := by decide +kernel
theorem dL_law__695 : decode cL_law_ 695 = .ok (.aload_n 3, 1) := by decide +kernel
theorem dL_law__696 : decode cL_law_ 696 = .ok (.invokestatic 149, 3) := by decide +kernel
theorem dL_law__699 : decode cL_law_ 699 = .ok (.istore 5, 2) := by decide +kernel
theorem dL_law__701 : decode cL_law_ 701 = .ok (.aload_n 2, 1) := by decide +kernel
theorem dL_law__702 : decode cL_law_ 702 = .ok (.aload_n 0, 1) := by decide +kernel
theorem dL_law__703 : decode cL_law_ 703 = .ok (.iload 4, 2) := by decide +kernel
theorem dL_law__705 : decode cL_law_ 705 = .ok (.iconst 1, 1) := by decide +kernel
theorem dL_law__706 : decode cL_law_ 706 = .ok (.iadd, 1) := by decide +kernel
theorem dL_law__707 : decode cL_law_ 707 = .ok (.iaload, 1) := by decide +kernel
theorem dL_law__708 : decode cL_law_ 708 = .ok (.invokevirtual 151, 3) := by decide +kernel
theorem dL_law__711 : decode cL_law_ 711 = .ok (.istore 6, 2) := by decide +kernel
theorem dL_law__713 : decode cL_law_ 713 = .ok (.goto 649, 3) := by decide +kernel
theorem dL_law__716 : decode cL_law_ 716 = .ok (.aload_n 1, 1) := by decide +kernel
theorem dL_law__717 : decode cL_law_ 717 = .ok (.aload_n 0, 1) := by decide +kernel
theorem dL_law__718 : decode cL_law_ 718 = .ok (.iload 4, 2) := by decide +kernel
theorem dL_law__720 : decode cL_law_ 720 = .ok (.iconst 1, 1) := by decide +kernel
theorem dL_law__721 : decode cL_law_ 721 = .ok (.iadd, 1) := by decide +kernel
theorem dL_law__722 : decode cL_law_ 722 = .ok (.iaload, 1) := by decide +kernel
theorem dL_law__723 : decode cL_law_ 723 = .ok (.aload_n 0, 1) := by decide +kernel
theorem dL_law__724 : decode cL_law_ 724 = .ok (.iload 4, 2) := by decide +kernel
theorem dL_law__726 : decode cL_law_ 726 = .ok (.iconst 2, 1) := by decide +kernel
theorem dL_law__727 : decode cL_law_ 727 = .ok (.iadd, 1) := by decide +kernel
theorem dL_law__728 : decode cL_law_ 728 = .ok (.iaload, 1) := by decide +kernel
theorem dL_law__729 : decode cL_law_ 729 = .ok (.aload_n 0, 1) := by decide +kernel
theorem dL_law__730 : decode cL_law_ 730 = .ok (.iload 4, 2) := by decide +kernel
theorem dL_law__732 : decode cL_law_ 732 = .ok (.iconst 3, 1) := by decide +kernel
theorem dL_law__733 : decode cL_law_ 733 = .ok (.iadd, 1) := by decide +kernel
theorem dL_law__734 : decode cL_law_ 734 = .ok (.iaload, 1) := by decide +kernel
theorem dL_law__735 : decode cL_law_ 735 = .ok (.aload_n 0, 1) := by decide +kernel
theorem dL_law__736 : decode cL_law_ 736 = .ok (.iload 4, 2) := by decide +kernel
theorem dL_law__738 : decode cL_law_ 738 = .ok (.iconst 4, 1) := by decide +kernel
theorem dL_law__739 : decode cL_law_ 739 = .ok (.iadd, 1) := by decide +kernel
theorem dL_law__740 : decode cL_law_ 740 = .ok (.iaload, 1) := by decide +kernel
theorem dL_law__741 : decode cL_law_ 741 = .ok (.aload_n 3, 1) := by decide +kernel
theorem dL_law__742 : decode cL_law_ 742 = .ok (.invokestatic 152, 3) := by decide +kernel
theorem dL_law__745 : decode cL_law_ 745 = .ok (.istore 5, 2) := by decide +kernel
theorem dL_law__747 : decode cL_law_ 747 = .ok (.aload_n 2, 1) := by decide +kernel
theorem dL_law__748 : decode cL_law_ 748 = .ok (.aload_n 0, 1) := by decide +kernel
theorem dL_law__749 : decode cL_law_ 749 = .ok (.iload 4, 2) := by decide +kernel
theorem dL_law__751 : decode cL_law_ 751 = .ok (.iconst 1, 1) := by decide +kernel
theorem dL_law__752 : decode cL_law_ 752 = .ok (.iadd, 1) := by decide +kernel
theorem dL_law__753 : decode cL_law_ 753 = .ok (.iaload, 1) := by decide +kernel
theorem dL_law__754 : decode cL_law_ 754 = .ok (.aload_n 0, 1) := by decide +kernel
theorem dL_law__755 : decode cL_law_ 755 = .ok (.iload 4, 2) := by decide +kernel
theorem dL_law__757 : decode cL_law_ 757 = .ok (.iconst 2, 1) := by decide +kernel
theorem dL_law__758 : decode cL_law_ 758 = .ok (.iadd, 1) := by decide +kernel
theorem dL_law__759 : decode cL_law_ 759 = .ok (.iaload, 1) := by decide +kernel
theorem dL_law__760 : decode cL_law_ 760 = .ok (.aload_n 0, 1) := by decide +kernel
theorem dL_law__761 : decode cL_law_ 761 = .ok (.iload 4, 2) := by decide +kernel
theorem dL_law__763 : decode cL_law_ 763 = .ok (.iconst 3, 1) := by decide +kernel
theorem dL_law__764 : decode cL_law_ 764 = .ok (.iadd, 1) := by decide +kernel
theorem dL_law__765 : decode cL_law_ 765 = .ok (.iaload, 1) := by decide +kernel
theorem dL_law__766 : decode cL_law_ 766 = .ok (.aload_n 0, 1) := by decide +kernel
theorem dL_law__767 : decode cL_law_ 767 = .ok (.iload 4, 2) := by decide +kernel
theorem dL_law__769 : decode cL_law_ 769 = .ok (.iconst 4, 1) := by decide +kernel
theorem dL_law__770 : decode cL_law_ 770 = .ok (.iadd, 1) := by decide +kernel
theorem dL_law__771 : decode cL_law_ 771 = .ok (.iaload, 1) := by decide +kernel
theorem dL_law__772 : decode cL_law_ 772 = .ok (.invokevirtual 154, 3) := by decide +kernel
theorem dL_law__775 : decode cL_law_ 775 = .ok (.istore 6, 2) := by decide +kernel
theorem dL_law__777 : decode cL_law_ 777 = .ok (.goto 585, 3) := by decide +kernel
theorem dL_law__780 : decode cL_law_ 780 = .ok (.aload_n 1, 1) := by decide +kernel
theorem dL_law__781 : decode cL_law_ 781 = .ok (.aload_n 0, 1) := by decide +kernel
theorem dL_law__782 : decode cL_law_ 782 = .ok (.iload 4, 2) := by decide +kernel
theorem dL_law__784 : decode cL_law_ 784 = .ok (.iconst 1, 1) := by decide +kernel
theorem dL_law__785 : decode cL_law_ 785 = .ok (.iadd, 1) := by decide +kernel
theorem dL_law__786 : decode cL_law_ 786 = .ok (.iaload, 1) := by decide +kernel
theorem dL_law__787 : decode cL_law_ 787 = .ok (.aload_n 0, 1) := by decide +kernel
theorem dL_law__788 : decode cL_law_ 788 = .ok (.iload 4, 2) := by decide +kernel
theorem dL_law__790 : decode cL_law_ 790 = .ok (.iconst 2, 1) := by decide +kernel
theorem dL_law__791 : decode cL_law_ 791 = .ok (.iadd, 1) := by decide +kernel
theorem dL_law__792 : decode cL_law_ 792 = .ok (.iaload, 1) := by decide +kernel
theorem dL_law__793 : decode cL_law_ 793 = .ok (.aload_n 3, 1) := by decide +kernel
theorem dL_law__794 : decode cL_law_ 794 = .ok (.invokestatic 155, 3) := by decide +kernel
theorem dL_law__797 : decode cL_law_ 797 = .ok (.istore 5, 2) := by decide +kernel
theorem dL_law__799 : decode cL_law_ 799 = .ok (.aload_n 2, 1) := by decide +kernel
theorem dL_law__800 : decode cL_law_ 800 = .ok (.aload_n 0, 1) := by decide +kernel
theorem dL_law__801 : decode cL_law_ 801 = .ok (.iload 4, 2) := by decide +kernel
theorem dL_law__803 : decode cL_law_ 803 = .ok (.iconst 1, 1) := by decide +kernel
theorem dL_law__804 : decode cL_law_ 804 = .ok (.iadd, 1) := by decide +kernel
theorem dL_law__805 : decode cL_law_ 805 = .ok (.iaload, 1) := by decide +kernel
theorem dL_law__806 : decode cL_law_ 806 = .ok (.aload_n 0, 1) := by decide +kernel
theorem dL_law__807 : decode cL_law_ 807 = .ok (.iload 4, 2) := by decide +kernel
theorem dL_law__809 : decode cL_law_ 809 = .ok (.iconst 2, 1) := by decide +kernel
theorem dL_law__810 : decode cL_law_ 810 = .ok (.iadd, 1) := by decide +kernel
theorem dL_law__811 : decode cL_law_ 811 = .ok (.iaload, 1) := by decide +kernel
theorem dL_law__812 : decode cL_law_ 812 = .ok (.invokevirtual 157, 3) := by decide +kernel
theorem dL_law__815 : decode cL_law_ 815 = .ok (.istore 6, 2) := by decide +kernel
theorem dL_law__817 : decode cL_law_ 817 = .ok (.goto 545, 3) := by decide +kernel
theorem dL_law__820 : decode cL_law_ 820 = .ok (.aload_n 1, 1) := by decide +kernel
theorem dL_law__821 : decode cL_law_ 821 = .ok (.aload_n 0, 1) := by decide +kernel
theorem dL_law__822 : decode cL_law_ 822 = .ok (.iload 4, 2) := by decide +kernel
theorem dL_law__824 : decode cL_law_ 824 = .ok (.iconst 1, 1) := by decide +kernel
theorem dL_law__825 : decode cL_law_ 825 = .ok (.iadd, 1) := by decide +kernel
theorem dL_law__826 : decode cL_law_ 826 = .ok (.iaload, 1) := by decide +kernel
theorem dL_law__827 : decode cL_law_ 827 = .ok (.aload_n 0, 1) := by decide +kernel
theorem dL_law__828 : decode cL_law_ 828 = .ok (.iload 4, 2) := by decide +kernel
theorem dL_law__830 : decode cL_law_ 830 = .ok (.iconst 2, 1) := by decide +kernel
theorem dL_law__831 : decode cL_law_ 831 = .ok (.iadd, 1) := by decide +kernel
theorem dL_law__832 : decode cL_law_ 832 = .ok (.iaload, 1) := by decide +kernel
theorem dL_law__833 : decode cL_law_ 833 = .ok (.aload_n 0, 1) := by decide +kernel
theorem dL_law__834 : decode cL_law_ 834 = .ok (.iload 4, 2) := by decide +kernel
theorem dL_law__836 : decode cL_law_ 836 = .ok (.iconst 3, 1) := by decide +kernel
theorem dL_law__837 : decode cL_law_ 837 = .ok (.iadd, 1) := by decide +kernel
theorem dL_law__838 : decode cL_law_ 838 = .ok (.iaload, 1) := by decide +kernel
theorem dL_law__839 : decode cL_law_ 839 = .ok (.aload_n 3, 1) := by decide +kernel
theorem dL_law__840 : decode cL_law_ 840 = .ok (.invokestatic 158, 3) := by decide +kernel
theorem dL_law__843 : decode cL_law_ 843 = .ok (.istore 5, 2) := by decide +kernel
theorem dL_law__845 : decode cL_law_ 845 = .ok (.aload_n 2, 1) := by decide +kernel
theorem dL_law__846 : decode cL_law_ 846 = .ok (.aload_n 0, 1) := by decide +kernel
theorem dL_law__847 : decode cL_law_ 847 = .ok (.iload 4, 2) := by decide +kernel
theorem dL_law__849 : decode cL_law_ 849 = .ok (.iconst 1, 1) := by decide +kernel
theorem dL_law__850 : decode cL_law_ 850 = .ok (.iadd, 1) := by decide +kernel
theorem dL_law__851 : decode cL_law_ 851 = .ok (.iaload, 1) := by decide +kernel
theorem dL_law__852 : decode cL_law_ 852 = .ok (.aload_n 0, 1) := by decide +kernel
theorem dL_law__853 : decode cL_law_ 853 = .ok (.iload 4, 2) := by decide +kernel
theorem dL_law__855 : decode cL_law_ 855 = .ok (.iconst 2, 1) := by decide +kernel
theorem dL_law__856 : decode cL_law_ 856 = .ok (.iadd, 1) := by decide +kernel
theorem dL_law__857 : decode cL_law_ 857 = .ok (.iaload, 1) := by decide +kernel
theorem dL_law__858 : decode cL_law_ 858 = .ok (.aload_n 0, 1) := by decide +kernel
theorem dL_law__859 : decode cL_law_ 859 = .ok (.iload 4, 2) := by decide +kernel
theorem dL_law__861 : decode cL_law_ 861 = .ok (.iconst 3, 1) := by decide +kernel
theorem dL_law__862 : decode cL_law_ 862 = .ok (.iadd, 1) := by decide +kernel
theorem dL_law__863 : decode cL_law_ 863 = .ok (.iaload, 1) := by decide +kernel
theorem dL_law__864 : decode cL_law_ 864 = .ok (.invokevirtual 160, 3) := by decide +kernel
theorem dL_law__867 : decode cL_law_ 867 = .ok (.istore 6, 2) := by decide +kernel
theorem dL_law__869 : decode cL_law_ 869 = .ok (.goto 493, 3) := by decide +kernel
theorem dL_law__872 : decode cL_law_ 872 = .ok (.aload_n 1, 1) := by decide +kernel
theorem dL_law__873 : decode cL_law_ 873 = .ok (.aload_n 0, 1) := by decide +kernel
theorem dL_law__874 : decode cL_law_ 874 = .ok (.iload 4, 2) := by decide +kernel
theorem dL_law__876 : decode cL_law_ 876 = .ok (.iconst 1, 1) := by decide +kernel
theorem dL_law__877 : decode cL_law_ 877 = .ok (.iadd, 1) := by decide +kernel
theorem dL_law__878 : decode cL_law_ 878 = .ok (.iaload, 1) := by decide +kernel
theorem dL_law__879 : decode cL_law_ 879 = .ok (.aload_n 0, 1) := by decide +kernel
theorem dL_law__880 : decode cL_law_ 880 = .ok (.iload 4, 2) := by decide +kernel
theorem dL_law__882 : decode cL_law_ 882 = .ok (.iconst 2, 1) := by decide +kernel
theorem dL_law__883 : decode cL_law_ 883 = .ok (.iadd, 1) := by decide +kernel
theorem dL_law__884 : decode cL_law_ 884 = .ok (.iaload, 1) := by decide +kernel
theorem dL_law__885 : decode cL_law_ 885 = .ok (.aload_n 3, 1) := by decide +kernel
theorem dL_law__886 : decode cL_law_ 886 = .ok (.invokestatic 161, 3) := by decide +kernel
theorem dL_law__889 : decode cL_law_ 889 = .ok (.istore 5, 2) := by decide +kernel
theorem dL_law__891 : decode cL_law_ 891 = .ok (.aload_n 2, 1) := by decide +kernel
theorem dL_law__892 : decode cL_law_ 892 = .ok (.aload_n 0, 1) := by decide +kernel
theorem dL_law__893 : decode cL_law_ 893 = .ok (.iload 4, 2) := by decide +kernel
theorem dL_law__895 : decode cL_law_ 895 = .ok (.iconst 1, 1) := by decide +kernel
theorem dL_law__896 : decode cL_law_ 896 = .ok (.iadd, 1) := by decide +kernel
theorem dL_law__897 : decode cL_law_ 897 = .ok (.iaload, 1) := by decide +kernel
theorem dL_law__898 : decode cL_law_ 898 = .ok (.aload_n 0, 1) := by decide +kernel
theorem dL_law__899 : decode cL_law_ 899 = .ok (.iload 4, 2) := by decide +kernel
theorem dL_law__901 : decode cL_law_ 901 = .ok (.iconst 2, 1) := by decide +kernel
theorem dL_law__902 : decode cL_law_ 902 = .ok (.iadd, 1) := by decide +kernel
theorem dL_law__903 : decode cL_law_ 903 = .ok (.iaload, 1) := by decide +kernel
theorem dL_law__904 : decode cL_law_ 904 = .ok (.invokevirtual 163, 3) := by decide +kernel
theorem dL_law__907 : decode cL_law_ 907 = .ok (.istore 6, 2) := by decide +kernel
theorem dL_law__909 : decode cL_law_ 909 = .ok (.goto 453, 3) := by decide +kernel
theorem dL_law__912 : decode cL_law_ 912 = .ok (.aload_n 1, 1) := by decide +kernel
theorem dL_law__913 : decode cL_law_ 913 = .ok (.aload_n 0, 1) := by decide +kernel
theorem dL_law__914 : decode cL_law_ 914 = .ok (.iload 4, 2) := by decide +kernel
theorem dL_law__916 : decode cL_law_ 916 = .ok (.iconst 1, 1) := by decide +kernel
theorem dL_law__917 : decode cL_law_ 917 = .ok (.iadd, 1) := by decide +kernel
theorem dL_law__918 : decode cL_law_ 918 = .ok (.iaload, 1) := by decide +kernel
theorem dL_law__919 : decode cL_law_ 919 = .ok (.aload_n 0, 1) := by decide +kernel
theorem dL_law__920 : decode cL_law_ 920 = .ok (.iload 4, 2) := by decide +kernel
theorem dL_law__922 : decode cL_law_ 922 = .ok (.iconst 2, 1) := by decide +kernel
theorem dL_law__923 : decode cL_law_ 923 = .ok (.iadd, 1) := by decide +kernel
theorem dL_law__924 : decode cL_law_ 924 = .ok (.iaload, 1) := by decide +kernel
theorem dL_law__925 : decode cL_law_ 925 = .ok (.aload_n 3, 1) := by decide +kernel
theorem dL_law__926 : decode cL_law_ 926 = .ok (.invokestatic 164, 3) := by decide +kernel
theorem dL_law__929 : decode cL_law_ 929 = .ok (.istore 5, 2) := by decide +kernel
theorem dL_law__931 : decode cL_law_ 931 = .ok (.aload_n 2, 1) := by decide +kernel
theorem dL_law__932 : decode cL_law_ 932 = .ok (.aload_n 0, 1) := by decide +kernel
theorem dL_law__933 : decode cL_law_ 933 = .ok (.iload 4, 2) := by decide +kernel
theorem dL_law__935 : decode cL_law_ 935 = .ok (.iconst 1, 1) := by decide +kernel
theorem dL_law__936 : decode cL_law_ 936 = .ok (.iadd, 1) := by decide +kernel
theorem dL_law__937 : decode cL_law_ 937 = .ok (.iaload, 1) := by decide +kernel
theorem dL_law__938 : decode cL_law_ 938 = .ok (.aload_n 0, 1) := by decide +kernel
theorem dL_law__939 : decode cL_law_ 939 = .ok (.iload 4, 2) := by decide +kernel
theorem dL_law__941 : decode cL_law_ 941 = .ok (.iconst 2, 1) := by decide +kernel
theorem dL_law__942 : decode cL_law_ 942 = .ok (.iadd, 1) := by decide +kernel
theorem dL_law__943 : decode cL_law_ 943 = .ok (.iaload, 1) := by decide +kernel
theorem dL_law__944 : decode cL_law_ 944 = .ok (.invokevirtual 166, 3) := by decide +kernel
theorem dL_law__947 : decode cL_law_ 947 = .ok (.istore 6, 2) := by decide +kernel
theorem dL_law__949 : decode cL_law_ 949 = .ok (.goto 413, 3) := by decide +kernel
theorem dL_law__952 : decode cL_law_ 952 = .ok (.aload_n 1, 1) := by decide +kernel
theorem dL_law__953 : decode cL_law_ 953 = .ok (.aload_n 0, 1) := by decide +kernel
theorem dL_law__954 : decode cL_law_ 954 = .ok (.iload 4, 2) := by decide +kernel
theorem dL_law__956 : decode cL_law_ 956 = .ok (.iconst 1, 1) := by decide +kernel
theorem dL_law__957 : decode cL_law_ 957 = .ok (.iadd, 1) := by decide +kernel
theorem dL_law__958 : decode cL_law_ 958 = .ok (.iaload, 1) := by decide +kernel
theorem dL_law__959 : decode cL_law_ 959 = .ok (.aload_n 0, 1) := by decide +kernel
theorem dL_law__960 : decode cL_law_ 960 = .ok (.iload 4, 2) := by decide +kernel
theorem dL_law__962 : decode cL_law_ 962 = .ok (.iconst 2, 1) := by decide +kernel
theorem dL_law__963 : decode cL_law_ 963 = .ok (.iadd, 1) := by decide +kernel
theorem dL_law__964 : decode cL_law_ 964 = .ok (.iaload, 1) := by decide +kernel
theorem dL_law__965 : decode cL_law_ 965 = .ok (.aload_n 3, 1) := by decide +kernel
theorem dL_law__966 : decode cL_law_ 966 = .ok (.invokestatic 167, 3) := by decide +kernel
theorem dL_law__969 : decode cL_law_ 969 = .ok (.istore 5, 2) := by decide +kernel
theorem dL_law__971 : decode cL_law_ 971 = .ok (.aload_n 2, 1) := by decide +kernel
theorem dL_law__972 : decode cL_law_ 972 = .ok (.aload_n 0, 1) := by decide +kernel
theorem dL_law__973 : decode cL_law_ 973 = .ok (.iload 4, 2) := by decide +kernel
theorem dL_law__975 : decode cL_law_ 975 = .ok (.iconst 1, 1) := by decide +kernel
theorem dL_law__976 : decode cL_law_ 976 = .ok (.iadd, 1) := by decide +kernel
theorem dL_law__977 : decode cL_law_ 977 = .ok (.iaload, 1) := by decide +kernel
theorem dL_law__978 : decode cL_law_ 978 = .ok (.aload_n 0, 1) := by decide +kernel
theorem dL_law__979 : decode cL_law_ 979 = .ok (.iload 4, 2) := by decide +kernel
theorem dL_law__981 : decode cL_law_ 981 = .ok (.iconst 2, 1) := by decide +kernel
theorem dL_law__982 : decode cL_law_ 982 = .ok (.iadd, 1) := by decide +kernel
theorem dL_law__983 : decode cL_law_ 983 = .ok (.iaload, 1) := by decide +kernel
theorem dL_law__984 : decode cL_law_ 984 = .ok (.invokevirtual 169, 3) := by decide +kernel
theorem dL_law__987 : decode cL_law_ 987 = .ok (.istore 6, 2) := by decide +kernel
theorem dL_law__989 : decode cL_law_ 989 = .ok (.goto 373, 3) := by decide +kernel
theorem dL_law__992 : decode cL_law_ 992 = .ok (.aload_n 1, 1) := by decide +kernel
theorem dL_law__993 : decode cL_law_ 993 = .ok (.aload_n 0, 1) := by decide +kernel
theorem dL_law__994 : decode cL_law_ 994 = .ok (.iload 4, 2) := by decide +kernel
theorem dL_law__996 : decode cL_law_ 996 = .ok (.iconst 1, 1) := by decide +kernel
theorem dL_law__997 : decode cL_law_ 997 = .ok (.iadd, 1) := by decide +kernel
theorem dL_law__998 : decode cL_law_ 998 = .ok (.iaload, 1) := by decide +kernel
theorem dL_law__999 : decode cL_law_ 999 = .ok (.aload_n 0, 1) := by decide +kernel
theorem dL_law__1000 : decode cL_law_ 1000 = .ok (.iload 4, 2) := by decide +kernel
theorem dL_law__1002 : decode cL_law_ 1002 = .ok (.iconst 2, 1) := by decide +kernel
theorem dL_law__1003 : decode cL_law_ 1003 = .ok (.iadd, 1) := by decide +kernel
theorem dL_law__1004 : decode cL_law_ 1004 = .ok (.iaload, 1) := by decide +kernel
theorem dL_law__1005 : decode cL_law_ 1005 = .ok (.aload_n 3, 1) := by decide +kernel
theorem dL_law__1006 : decode cL_law_ 1006 = .ok (.invokestatic 170, 3) := by decide +kernel
theorem dL_law__1009 : decode cL_law_ 1009 = .ok (.istore 5, 2) := by decide +kernel
theorem dL_law__1011 : decode cL_law_ 1011 = .ok (.aload_n 2, 1) := by decide +kernel
theorem dL_law__1012 : decode cL_law_ 1012 = .ok (.aload_n 0, 1) := by decide +kernel
theorem dL_law__1013 : decode cL_law_ 1013 = .ok (.iload 4, 2) := by decide +kernel
theorem dL_law__1015 : decode cL_law_ 1015 = .ok (.iconst 1, 1) := by decide +kernel
theorem dL_law__1016 : decode cL_law_ 1016 = .ok (.iadd, 1) := by decide +kernel
theorem dL_law__1017 : decode cL_law_ 1017 = .ok (.iaload, 1) := by decide +kernel
theorem dL_law__1018 : decode cL_law_ 1018 = .ok (.aload_n 0, 1) := by decide +kernel
theorem dL_law__1019 : decode cL_law_ 1019 = .ok (.iload 4, 2) := by decide +kernel
theorem dL_law__1021 : decode cL_law_ 1021 = .ok (.iconst 2, 1) := by decide +kernel
theorem dL_law__1022 : decode cL_law_ 1022 = .ok (.iadd, 1) := by decide +kernel
theorem dL_law__1023 : decode cL_law_ 1023 = .ok (.iaload, 1) := by decide +kernel
theorem dL_law__1024 : decode cL_law_ 1024 = .ok (.invokevirtual 172, 3) := by decide +kernel
theorem dL_law__1027 : decode cL_law_ 1027 = .ok (.istore 6, 2) := by decide +kernel
theorem dL_law__1029 : decode cL_law_ 1029 = .ok (.goto 333, 3) := by decide +kernel
theorem dL_law__1032 : decode cL_law_ 1032 = .ok (.aload_n 1, 1) := by decide +kernel
theorem dL_law__1033 : decode cL_law_ 1033 = .ok (.aload_n 0, 1) := by decide +kernel
theorem dL_law__1034 : decode cL_law_ 1034 = .ok (.iload 4, 2) := by decide +kernel
theorem dL_law__1036 : decode cL_law_ 1036 = .ok (.iconst 1, 1) := by decide +kernel
theorem dL_law__1037 : decode cL_law_ 1037 = .ok (.iadd, 1) := by decide +kernel
theorem dL_law__1038 : decode cL_law_ 1038 = .ok (.iaload, 1) := by decide +kernel
theorem dL_law__1039 : decode cL_law_ 1039 = .ok (.aload_n 0, 1) := by decide +kernel
theorem dL_law__1040 : decode cL_law_ 1040 = .ok (.iload 4, 2) := by decide +kernel
theorem dL_law__1042 : decode cL_law_ 1042 = .ok (.iconst 2, 1) := by decide +kernel
theorem dL_law__1043 : decode cL_law_ 1043 = .ok (.iadd, 1) := by decide +kernel
theorem dL_law__1044 : decode cL_law_ 1044 = .ok (.iaload, 1) := by decide +kernel
theorem dL_law__1045 : decode cL_law_ 1045 = .ok (.aload_n 3, 1) := by decide +kernel
theorem dL_law__1046 : decode cL_law_ 1046 = .ok (.invokestatic 173, 3) := by decide +kernel
theorem dL_law__1049 : decode cL_law_ 1049 = .ok (.istore 5, 2) := by decide +kernel
theorem dL_law__1051 : decode cL_law_ 1051 = .ok (.aload_n 2, 1) := by decide +kernel
theorem dL_law__1052 : decode cL_law_ 1052 = .ok (.aload_n 0, 1) := by decide +kernel
theorem dL_law__1053 : decode cL_law_ 1053 = .ok (.iload 4, 2) := by decide +kernel
theorem dL_law__1055 : decode cL_law_ 1055 = .ok (.iconst 1, 1) := by decide +kernel
theorem dL_law__1056 : decode cL_law_ 1056 = .ok (.iadd, 1) := by decide +kernel
theorem dL_law__1057 : decode cL_law_ 1057 = .ok (.iaload, 1) := by decide +kernel
theorem dL_law__1058 : decode cL_law_ 1058 = .ok (.aload_n 0, 1) := by decide +kernel
theorem dL_law__1059 : decode cL_law_ 1059 = .ok (.iload 4, 2) := by decide +kernel
theorem dL_law__1061 : decode cL_law_ 1061 = .ok (.iconst 2, 1) := by decide +kernel
theorem dL_law__1062 : decode cL_law_ 1062 = .ok (.iadd, 1) := by decide +kernel
theorem dL_law__1063 : decode cL_law_ 1063 = .ok (.iaload, 1) := by decide +kernel
theorem dL_law__1064 : decode cL_law_ 1064 = .ok (.invokevirtual 175, 3) := by decide +kernel
theorem dL_law__1067 : decode cL_law_ 1067 = .ok (.istore 6, 2) := by decide +kernel
theorem dL_law__1069 : decode cL_law_ 1069 = .ok (.goto 293, 3) := by decide +kernel
theorem dL_law__1072 : decode cL_law_ 1072 = .ok (.aload_n 1, 1) := by decide +kernel
theorem dL_law__1073 : decode cL_law_ 1073 = .ok (.aload_n 0, 1) := by decide +kernel
theorem dL_law__1074 : decode cL_law_ 1074 = .ok (.iload 4, 2) := by decide +kernel
theorem dL_law__1076 : decode cL_law_ 1076 = .ok (.iconst 1, 1) := by decide +kernel
theorem dL_law__1077 : decode cL_law_ 1077 = .ok (.iadd, 1) := by decide +kernel
theorem dL_law__1078 : decode cL_law_ 1078 = .ok (.iaload, 1) := by decide +kernel
theorem dL_law__1079 : decode cL_law_ 1079 = .ok (.aload_n 0, 1) := by decide +kernel
theorem dL_law__1080 : decode cL_law_ 1080 = .ok (.iload 4, 2) := by decide +kernel
theorem dL_law__1082 : decode cL_law_ 1082 = .ok (.iconst 2, 1) := by decide +kernel
theorem dL_law__1083 : decode cL_law_ 1083 = .ok (.iadd, 1) := by decide +kernel
theorem dL_law__1084 : decode cL_law_ 1084 = .ok (.iaload, 1) := by decide +kernel
theorem dL_law__1085 : decode cL_law_ 1085 = .ok (.aload_n 3, 1) := by decide +kernel
theorem dL_law__1086 : decode cL_law_ 1086 = .ok (.invokestatic 176, 3) := by decide +kernel
theorem dL_law__1089 : decode cL_law_ 1089 = .ok (.istore 5, 2) := by decide +kernel
theorem dL_law__1091 : decode cL_law_ 1091 = .ok (.aload_n 2, 1) := by decide +kernel
theorem dL_law__1092 : decode cL_law_ 1092 = .ok (.aload_n 0, 1) := by decide +kernel
theorem dL_law__1093 : decode cL_law_ 1093 = .ok (.iload 4, 2) := by decide +kernel
theorem dL_law__1095 : decode cL_law_ 1095 = .ok (.iconst 1, 1) := by decide +kernel
theorem dL_law__1096 : decode cL_law_ 1096 = .ok (.iadd, 1) := by decide +kernel
theorem dL_law__1097 : decode cL_law_ 1097 = .ok (.iaload, 1) := by decide +kernel
theorem dL_law__1098 : decode cL_law_ 1098 = .ok (.aload_n 0, 1) := by decide +kernel
theorem dL_law__1099 : decode cL_law_ 1099 = .ok (.iload 4, 2) := by decide +kernel
theorem dL_law__1101 : decode cL_law_ 1101 = .ok (.iconst 2, 1) := by decide +kernel
theorem dL_law__1102 : decode cL_law_ 1102 = .ok (.iadd, 1) := by decide +kernel
theorem dL_law__1103 : decode cL_law_ 1103 = .ok (.iaload, 1) := by decide +kernel
theorem dL_law__1104 : decode cL_law_ 1104 = .ok (.invokevirtual 178, 3) := by decide +kernel
theorem dL_law__1107 : decode cL_law_ 1107 = .ok (.istore 6, 2) := by decide +kernel
theorem dL_law__1109 : decode cL_law_ 1109 = .ok (.goto 253, 3) := by decide +kernel
theorem dL_law__1112 : decode cL_law_ 1112 = .ok (.aload_n 1, 1) := by decide +kernel
theorem dL_law__1113 : decode cL_law_ 1113 = .ok (.aload_n 0, 1) := by decide +kernel
theorem dL_law__1114 : decode cL_law_ 1114 = .ok (.iload 4, 2) := by decide +kernel
theorem dL_law__1116 : decode cL_law_ 1116 = .ok (.iconst 1, 1) := by decide +kernel
theorem dL_law__1117 : decode cL_law_ 1117 = .ok (.iadd, 1) := by decide +kernel
theorem dL_law__1118 : decode cL_law_ 1118 = .ok (.iaload, 1) := by decide +kernel
theorem dL_law__1119 : decode cL_law_ 1119 = .ok (.aload_n 3, 1) := by decide +kernel
theorem dL_law__1120 : decode cL_law_ 1120 = .ok (.invokestatic 179, 3) := by decide +kernel
theorem dL_law__1123 : decode cL_law_ 1123 = .ok (.istore 5, 2) := by decide +kernel
theorem dL_law__1125 : decode cL_law_ 1125 = .ok (.aload_n 2, 1) := by decide +kernel
theorem dL_law__1126 : decode cL_law_ 1126 = .ok (.aload_n 0, 1) := by decide +kernel
theorem dL_law__1127 : decode cL_law_ 1127 = .ok (.iload 4, 2) := by decide +kernel
theorem dL_law__1129 : decode cL_law_ 1129 = .ok (.iconst 1, 1) := by decide +kernel
theorem dL_law__1130 : decode cL_law_ 1130 = .ok (.iadd, 1) := by decide +kernel
theorem dL_law__1131 : decode cL_law_ 1131 = .ok (.iaload, 1) := by decide +kernel
theorem dL_law__1132 : decode cL_law_ 1132 = .ok (.invokevirtual 181, 3) := by decide +kernel
theorem dL_law__1135 : decode cL_law_ 1135 = .ok (.astore 6, 2) := by decide +kernel
theorem dL_law__1137 : decode cL_law_ 1137 = .ok (.goto 225, 3) := by decide +kernel
theorem dL_law__1140 : decode cL_law_ 1140 = .ok (.aload_n 1, 1) := by decide +kernel
theorem dL_law__1141 : decode cL_law_ 1141 = .ok (.aload_n 0, 1) := by decide +kernel
theorem dL_law__1142 : decode cL_law_ 1142 = .ok (.iload 4, 2) := by decide +kernel
theorem dL_law__1144 : decode cL_law_ 1144 = .ok (.iconst 1, 1) := by decide +kernel
theorem dL_law__1145 : decode cL_law_ 1145 = .ok (.iadd, 1) := by decide +kernel
theorem dL_law__1146 : decode cL_law_ 1146 = .ok (.iaload, 1) := by decide +kernel
theorem dL_law__1147 : decode cL_law_ 1147 = .ok (.aload_n 0, 1) := by decide +kernel
theorem dL_law__1148 : decode cL_law_ 1148 = .ok (.iload 4, 2) := by decide +kernel
theorem dL_law__1150 : decode cL_law_ 1150 = .ok (.iconst 2, 1) := by decide +kernel
theorem dL_law__1151 : decode cL_law_ 1151 = .ok (.iadd, 1) := by decide +kernel
theorem dL_law__1152 : decode cL_law_ 1152 = .ok (.iaload, 1) := by decide +kernel
theorem dL_law__1153 : decode cL_law_ 1153 = .ok (.aload_n 0, 1) := by decide +kernel
theorem dL_law__1154 : decode cL_law_ 1154 = .ok (.iload 4, 2) := by decide +kernel
theorem dL_law__1156 : decode cL_law_ 1156 = .ok (.iconst 3, 1) := by decide +kernel
theorem dL_law__1157 : decode cL_law_ 1157 = .ok (.iadd, 1) := by decide +kernel
theorem dL_law__1158 : decode cL_law_ 1158 = .ok (.iaload, 1) := by decide +kernel
theorem dL_law__1159 : decode cL_law_ 1159 = .ok (.aload_n 0, 1) := by decide +kernel
theorem dL_law__1160 : decode cL_law_ 1160 = .ok (.iload 4, 2) := by decide +kernel
theorem dL_law__1162 : decode cL_law_ 1162 = .ok (.iconst 4, 1) := by decide +kernel
theorem dL_law__1163 : decode cL_law_ 1163 = .ok (.iadd, 1) := by decide +kernel
theorem dL_law__1164 : decode cL_law_ 1164 = .ok (.iaload, 1) := by decide +kernel
theorem dL_law__1165 : decode cL_law_ 1165 = .ok (.aload_n 3, 1) := by decide +kernel
theorem dL_law__1166 : decode cL_law_ 1166 = .ok (.invokestatic 182, 3) := by decide +kernel
theorem dL_law__1169 : decode cL_law_ 1169 = .ok (.istore 5, 2) := by decide +kernel
theorem dL_law__1171 : decode cL_law_ 1171 = .ok (.aload_n 2, 1) := by decide +kernel
theorem dL_law__1172 : decode cL_law_ 1172 = .ok (.aload_n 0, 1) := by decide +kernel
theorem dL_law__1173 : decode cL_law_ 1173 = .ok (.iload 4, 2) := by decide +kernel
theorem dL_law__1175 : decode cL_law_ 1175 = .ok (.iconst 1, 1) := by decide +kernel
theorem dL_law__1176 : decode cL_law_ 1176 = .ok (.iadd, 1) := by decide +kernel
theorem dL_law__1177 : decode cL_law_ 1177 = .ok (.iaload, 1) := by decide +kernel
theorem dL_law__1178 : decode cL_law_ 1178 = .ok (.aload_n 0, 1) := by decide +kernel
theorem dL_law__1179 : decode cL_law_ 1179 = .ok (.iload 4, 2) := by decide +kernel
theorem dL_law__1181 : decode cL_law_ 1181 = .ok (.iconst 2, 1) := by decide +kernel
theorem dL_law__1182 : decode cL_law_ 1182 = .ok (.iadd, 1) := by decide +kernel
theorem dL_law__1183 : decode cL_law_ 1183 = .ok (.iaload, 1) := by decide +kernel
theorem dL_law__1184 : decode cL_law_ 1184 = .ok (.aload_n 0, 1) := by decide +kernel
theorem dL_law__1185 : decode cL_law_ 1185 = .ok (.iload 4, 2) := by decide +kernel
theorem dL_law__1187 : decode cL_law_ 1187 = .ok (.iconst 3, 1) := by decide +kernel
theorem dL_law__1188 : decode cL_law_ 1188 = .ok (.iadd, 1) := by decide +kernel
theorem dL_law__1189 : decode cL_law_ 1189 = .ok (.iaload, 1) := by decide +kernel
theorem dL_law__1190 : decode cL_law_ 1190 = .ok (.aload_n 0, 1) := by decide +kernel
theorem dL_law__1191 : decode cL_law_ 1191 = .ok (.iload 4, 2) := by decide +kernel
theorem dL_law__1193 : decode cL_law_ 1193 = .ok (.iconst 4, 1) := by decide +kernel
theorem dL_law__1194 : decode cL_law_ 1194 = .ok (.iadd, 1) := by decide +kernel
theorem dL_law__1195 : decode cL_law_ 1195 = .ok (.iaload, 1) := by decide +kernel
theorem dL_law__1196 : decode cL_law_ 1196 = .ok (.invokevirtual 184, 3) := by decide +kernel
theorem dL_law__1199 : decode cL_law_ 1199 = .ok (.istore 6, 2) := by decide +kernel
theorem dL_law__1201 : decode cL_law_ 1201 = .ok (.goto 161, 3) := by decide +kernel
theorem dL_law__1204 : decode cL_law_ 1204 = .ok (.aload_n 1, 1) := by decide +kernel
theorem dL_law__1205 : decode cL_law_ 1205 = .ok (.aload_n 0, 1) := by decide +kernel
theorem dL_law__1206 : decode cL_law_ 1206 = .ok (.iload 4, 2) := by decide +kernel
theorem dL_law__1208 : decode cL_law_ 1208 = .ok (.iconst 1, 1) := by decide +kernel
theorem dL_law__1209 : decode cL_law_ 1209 = .ok (.iadd, 1) := by decide +kernel
theorem dL_law__1210 : decode cL_law_ 1210 = .ok (.iaload, 1) := by decide +kernel
theorem dL_law__1211 : decode cL_law_ 1211 = .ok (.aload_n 0, 1) := by decide +kernel
theorem dL_law__1212 : decode cL_law_ 1212 = .ok (.iload 4, 2) := by decide +kernel
theorem dL_law__1214 : decode cL_law_ 1214 = .ok (.iconst 2, 1) := by decide +kernel
theorem dL_law__1215 : decode cL_law_ 1215 = .ok (.iadd, 1) := by decide +kernel
theorem dL_law__1216 : decode cL_law_ 1216 = .ok (.iaload, 1) := by decide +kernel
theorem dL_law__1217 : decode cL_law_ 1217 = .ok (.aload_n 0, 1) := by decide +kernel
theorem dL_law__1218 : decode cL_law_ 1218 = .ok (.iload 4, 2) := by decide +kernel
theorem dL_law__1220 : decode cL_law_ 1220 = .ok (.iconst 3, 1) := by decide +kernel
theorem dL_law__1221 : decode cL_law_ 1221 = .ok (.iadd, 1) := by decide +kernel
theorem dL_law__1222 : decode cL_law_ 1222 = .ok (.iaload, 1) := by decide +kernel
theorem dL_law__1223 : decode cL_law_ 1223 = .ok (.aload_n 3, 1) := by decide +kernel
theorem dL_law__1224 : decode cL_law_ 1224 = .ok (.invokestatic 185, 3) := by decide +kernel
theorem dL_law__1227 : decode cL_law_ 1227 = .ok (.istore 5, 2) := by decide +kernel
theorem dL_law__1229 : decode cL_law_ 1229 = .ok (.aload_n 2, 1) := by decide +kernel
theorem dL_law__1230 : decode cL_law_ 1230 = .ok (.aload_n 0, 1) := by decide +kernel
theorem dL_law__1231 : decode cL_law_ 1231 = .ok (.iload 4, 2) := by decide +kernel
theorem dL_law__1233 : decode cL_law_ 1233 = .ok (.iconst 1, 1) := by decide +kernel
theorem dL_law__1234 : decode cL_law_ 1234 = .ok (.iadd, 1) := by decide +kernel
theorem dL_law__1235 : decode cL_law_ 1235 = .ok (.iaload, 1) := by decide +kernel
theorem dL_law__1236 : decode cL_law_ 1236 = .ok (.aload_n 0, 1) := by decide +kernel
theorem dL_law__1237 : decode cL_law_ 1237 = .ok (.iload 4, 2) := by decide +kernel
theorem dL_law__1239 : decode cL_law_ 1239 = .ok (.iconst 2, 1) := by decide +kernel
theorem dL_law__1240 : decode cL_law_ 1240 = .ok (.iadd, 1) := by decide +kernel
theorem dL_law__1241 : decode cL_law_ 1241 = .ok (.iaload, 1) := by decide +kernel
theorem dL_law__1242 : decode cL_law_ 1242 = .ok (.aload_n 0, 1) := by decide +kernel
theorem dL_law__1243 : decode cL_law_ 1243 = .ok (.iload 4, 2) := by decide +kernel
theorem dL_law__1245 : decode cL_law_ 1245 = .ok (.iconst 3, 1) := by decide +kernel
theorem dL_law__1246 : decode cL_law_ 1246 = .ok (.iadd, 1) := by decide +kernel
theorem dL_law__1247 : decode cL_law_ 1247 = .ok (.iaload, 1) := by decide +kernel
theorem dL_law__1248 : decode cL_law_ 1248 = .ok (.invokevirtual 187, 3) := by decide +kernel
theorem dL_law__1251 : decode cL_law_ 1251 = .ok (.istore 6, 2) := by decide +kernel
theorem dL_law__1253 : decode cL_law_ 1253 = .ok (.goto 109, 3) := by decide +kernel
theorem dL_law__1256 : decode cL_law_ 1256 = .ok (.aload_n 1, 1) := by decide +kernel
theorem dL_law__1257 : decode cL_law_ 1257 = .ok (.aload_n 0, 1) := by decide +kernel
theorem dL_law__1258 : decode cL_law_ 1258 = .ok (.iload 4, 2) := by decide +kernel
theorem dL_law__1260 : decode cL_law_ 1260 = .ok (.iconst 1, 1) := by decide +kernel
theorem dL_law__1261 : decode cL_law_ 1261 = .ok (.iadd, 1) := by decide +kernel
theorem dL_law__1262 : decode cL_law_ 1262 = .ok (.iaload, 1) := by decide +kernel
theorem dL_law__1263 : decode cL_law_ 1263 = .ok (.aload_n 3, 1) := by decide +kernel
theorem dL_law__1264 : decode cL_law_ 1264 = .ok (.invokestatic 188, 3) := by decide +kernel
theorem dL_law__1267 : decode cL_law_ 1267 = .ok (.istore 5, 2) := by decide +kernel
theorem dL_law__1269 : decode cL_law_ 1269 = .ok (.aload_n 2, 1) := by decide +kernel
theorem dL_law__1270 : decode cL_law_ 1270 = .ok (.aload_n 0, 1) := by decide +kernel
theorem dL_law__1271 : decode cL_law_ 1271 = .ok (.iload 4, 2) := by decide +kernel
theorem dL_law__1273 : decode cL_law_ 1273 = .ok (.iconst 1, 1) := by decide +kernel
theorem dL_law__1274 : decode cL_law_ 1274 = .ok (.iadd, 1) := by decide +kernel
theorem dL_law__1275 : decode cL_law_ 1275 = .ok (.iaload, 1) := by decide +kernel
theorem dL_law__1276 : decode cL_law_ 1276 = .ok (.invokevirtual 190, 3) := by decide +kernel
theorem dL_law__1279 : decode cL_law_ 1279 = .ok (.istore 6, 2) := by decide +kernel
theorem dL_law__1281 : decode cL_law_ 1281 = .ok (.goto 81, 3) := by decide +kernel
theorem dL_law__1284 : decode cL_law_ 1284 = .ok (.aload_n 1, 1) := by decide +kernel
theorem dL_law__1285 : decode cL_law_ 1285 = .ok (.aload_n 0, 1) := by decide +kernel
theorem dL_law__1286 : decode cL_law_ 1286 = .ok (.iload 4, 2) := by decide +kernel
theorem dL_law__1288 : decode cL_law_ 1288 = .ok (.iconst 1, 1) := by decide +kernel
theorem dL_law__1289 : decode cL_law_ 1289 = .ok (.iadd, 1) := by decide +kernel
theorem dL_law__1290 : decode cL_law_ 1290 = .ok (.iaload, 1) := by decide +kernel
theorem dL_law__1291 : decode cL_law_ 1291 = .ok (.aload_n 0, 1) := by decide +kernel
theorem dL_law__1292 : decode cL_law_ 1292 = .ok (.iload 4, 2) := by decide +kernel
theorem dL_law__1294 : decode cL_law_ 1294 = .ok (.iconst 2, 1) := by decide +kernel
theorem dL_law__1295 : decode cL_law_ 1295 = .ok (.iadd, 1) := by decide +kernel
theorem dL_law__1296 : decode cL_law_ 1296 = .ok (.iaload, 1) := by decide +kernel
theorem dL_law__1297 : decode cL_law_ 1297 = .ok (.aload_n 0, 1) := by decide +kernel
theorem dL_law__1298 : decode cL_law_ 1298 = .ok (.iload 4, 2) := by decide +kernel
theorem dL_law__1300 : decode cL_law_ 1300 = .ok (.iconst 3, 1) := by decide +kernel
theorem dL_law__1301 : decode cL_law_ 1301 = .ok (.iadd, 1) := by decide +kernel
theorem dL_law__1302 : decode cL_law_ 1302 = .ok (.iaload, 1) := by decide +kernel
theorem dL_law__1303 : decode cL_law_ 1303 = .ok (.aload_n 3, 1) := by decide +kernel
theorem dL_law__1304 : decode cL_law_ 1304 = .ok (.invokestatic 191, 3) := by decide +kernel
theorem dL_law__1307 : decode cL_law_ 1307 = .ok (.istore 5, 2) := by decide +kernel
theorem dL_law__1309 : decode cL_law_ 1309 = .ok (.aload_n 2, 1) := by decide +kernel
theorem dL_law__1310 : decode cL_law_ 1310 = .ok (.aload_n 0, 1) := by decide +kernel
theorem dL_law__1311 : decode cL_law_ 1311 = .ok (.iload 4, 2) := by decide +kernel
theorem dL_law__1313 : decode cL_law_ 1313 = .ok (.iconst 1, 1) := by decide +kernel
theorem dL_law__1314 : decode cL_law_ 1314 = .ok (.iadd, 1) := by decide +kernel
theorem dL_law__1315 : decode cL_law_ 1315 = .ok (.iaload, 1) := by decide +kernel
theorem dL_law__1316 : decode cL_law_ 1316 = .ok (.aload_n 0, 1) := by decide +kernel
theorem dL_law__1317 : decode cL_law_ 1317 = .ok (.iload 4, 2) := by decide +kernel
theorem dL_law__1319 : decode cL_law_ 1319 = .ok (.iconst 2, 1) := by decide +kernel
theorem dL_law__1320 : decode cL_law_ 1320 = .ok (.iadd, 1) := by decide +kernel
theorem dL_law__1321 : decode cL_law_ 1321 = .ok (.iaload, 1) := by decide +kernel
theorem dL_law__1322 : decode cL_law_ 1322 = .ok (.aload_n 0, 1) := by decide +kernel
theorem dL_law__1323 : decode cL_law_ 1323 = .ok (.iload 4, 2) := by decide +kernel
theorem dL_law__1325 : decode cL_law_ 1325 = .ok (.iconst 3, 1) := by decide +kernel
theorem dL_law__1326 : decode cL_law_ 1326 = .ok (.iadd, 1) := by decide +kernel
theorem dL_law__1327 : decode cL_law_ 1327 = .ok (.iaload, 1) := by decide +kernel
theorem dL_law__1328 : decode cL_law_ 1328 = .ok (.invokevirtual 193, 3) := by decide +kernel
theorem dL_law__1331 : decode cL_law_ 1331 = .ok (.istore 6, 2) := by decide +kernel
theorem dL_law__1333 : decode cL_law_ 1333 = .ok (.goto 29, 3) := by decide +kernel
theorem dL_law__1336 : decode cL_law_ 1336 = .ok (.aload_n 1, 1) := by decide +kernel
theorem dL_law__1337 : decode cL_law_ 1337 = .ok (.invokevirtual 194, 3) := by decide +kernel
theorem dL_law__1340 : decode cL_law_ 1340 = .ok (.aload_n 2, 1) := by decide +kernel
theorem dL_law__1341 : decode cL_law_ 1341 = .ok (.invokevirtual 198, 3) := by decide +kernel
theorem dL_law__1344 : decode cL_law_ 1344 = .ok (.if_icmp .eq 18, 3) := by decide +kernel
theorem dL_law__1347 : decode cL_law_ 1347 = .ok (.iconst 0, 1) := by decide +kernel
theorem dL_law__1348 : decode cL_law_ 1348 = .ok (.ireturn, 1) := by decide +kernel
theorem dL_law__1349 : decode cL_law_ 1349 = .ok (.aload_n 1, 1) := by decide +kernel
theorem dL_law__1350 : decode cL_law_ 1350 = .ok (.invokevirtual 199, 3) := by decide +kernel
theorem dL_law__1353 : decode cL_law_ 1353 = .ok (.pop2, 1) := by decide +kernel
theorem dL_law__1354 : decode cL_law_ 1354 = .ok (.aload_n 2, 1) := by decide +kernel
theorem dL_law__1355 : decode cL_law_ 1355 = .ok (.invokevirtual 203, 3) := by decide +kernel
theorem dL_law__1358 : decode cL_law_ 1358 = .ok (.pop2, 1) := by decide +kernel
theorem dL_law__1359 : decode cL_law_ 1359 = .ok (.goto 3, 3) := by decide +kernel
theorem dL_law__1362 : decode cL_law_ 1362 = .ok (.iinc 4 5, 3) := by decide +kernel
theorem dL_law__1365 : decode cL_law_ 1365 = .ok (.goto (-1338), 3) := by decide +kernel
theorem dL_law__1368 : decode cL_law_ 1368 = .ok (.iconst 1, 1) := by decide +kernel
theorem dL_law__1369 : decode cL_law_ 1369 = .ok (.ireturn, 1) := by decide +kernel
