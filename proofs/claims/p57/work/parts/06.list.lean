theorem dJx35411_init_45d68_0 : decode cJx35411_init_45d68 0 = .ok (.aload_n 0, 1) := by decide +kernel
theorem dJx35411_init_45d68_1 : decode cJx35411_init_45d68 1 = .ok (.aload_n 1, 1) := by decide +kernel
theorem dJx35411_init_45d68_2 : decode cJx35411_init_45d68 2 = .ok (.putfield 1, 3) := by decide +kernel
theorem dJx35411_init_45d68_5 : decode cJx35411_init_45d68 5 = .ok (.aload_n 0, 1) := by decide +kernel
theorem dJx35411_init_45d68_6 : decode cJx35411_init_45d68 6 = .ok (.invokespecial 7, 3) := by decide +kernel
theorem dJx35411_init_45d68_9 : decode cJx35411_init_45d68 9 = .ok (.aload_n 0, 1) := by decide +kernel
theorem dJx35411_init_45d68_10 : decode cJx35411_init_45d68 10 = .ok (.iconst (-1), 1) := by decide +kernel
theorem dJx35411_init_45d68_11 : decode cJx35411_init_45d68 11 = .ok (.putfield 13, 3) := by decide +kernel
theorem dJx35411_init_45d68_14 : decode cJx35411_init_45d68 14 = .ok (.aload_n 0, 1) := by decide +kernel
theorem dJx35411_init_45d68_15 : decode cJx35411_init_45d68 15 = .ok (.aload_n 0, 1) := by decide +kernel
theorem dJx35411_init_45d68_16 : decode cJx35411_init_45d68 16 = .ok (.getfield 1, 3) := by decide +kernel
theorem dJx35411_init_45d68_19 : decode cJx35411_init_45d68 19 = .ok (.getfield 17, 3) := by decide +kernel
theorem dJx35411_init_45d68_22 : decode cJx35411_init_45d68 22 = .ok (.putfield 22, 3) := by decide +kernel
theorem dJx35411_init_45d68_25 : decode cJx35411_init_45d68 25 = .ok (.return_, 1) := by decide +kernel
theorem dJx4a65c_iterator_32c93_0 : decode cJx4a65c_iterator_32c93 0 = .ok (.new 267, 3) := by decide +kernel
theorem dJx4a65c_iterator_32c93_3 : decode cJx4a65c_iterator_32c93 3 = .ok (.dup, 1) := by decide +kernel
theorem dJx4a65c_iterator_32c93_4 : decode cJx4a65c_iterator_32c93 4 = .ok (.aload_n 0, 1) := by decide +kernel
theorem dJx4a65c_iterator_32c93_5 : decode cJx4a65c_iterator_32c93 5 = .ok (.invokespecial 269, 3) := by decide +kernel
theorem dJx4a65c_iterator_32c93_8 : decode cJx4a65c_iterator_32c93 8 = .ok (.areturn, 1) := by decide +kernel
theorem dJx35411_hasNext_aae02_0 : decode cJx35411_hasNext_aae02 0 = .ok (.aload_n 0, 1) := by decide +kernel
theorem dJx35411_hasNext_aae02_1 : decode cJx35411_hasNext_aae02 1 = .ok (.getfield 25, 3) := by decide +kernel
theorem dJx35411_hasNext_aae02_4 : decode cJx35411_hasNext_aae02 4 = .ok (.aload_n 0, 1) := by decide +kernel
theorem dJx35411_hasNext_aae02_5 : decode cJx35411_hasNext_aae02 5 = .ok (.getfield 1, 3) := by decide +kernel
theorem dJx35411_hasNext_aae02_8 : decode cJx35411_hasNext_aae02 8 = .ok (.getfield 28, 3) := by decide +kernel
theorem dJx35411_hasNext_aae02_11 : decode cJx35411_hasNext_aae02 11 = .ok (.if_icmp .eq 7, 3) := by decide +kernel
theorem dJx35411_hasNext_aae02_18 : decode cJx35411_hasNext_aae02 18 = .ok (.iconst 0, 1) := by decide +kernel
theorem dJx35411_hasNext_aae02_19 : decode cJx35411_hasNext_aae02 19 = .ok (.ireturn, 1) := by decide +kernel
theorem dJx35411_hasNext_aae02_14 : decode cJx35411_hasNext_aae02 14 = .ok (.iconst 1, 1) := by decide +kernel
theorem dJx35411_hasNext_aae02_15 : decode cJx35411_hasNext_aae02 15 = .ok (.goto 4, 3) := by decide +kernel
theorem dJx35411_checkForComodification_da8c8_0 : decode cJx35411_checkForComodification_da8c8 0 = .ok (.aload_n 0, 1) := by decide +kernel
theorem dJx35411_checkForComodification_da8c8_1 : decode cJx35411_checkForComodification_da8c8 1 = .ok (.getfield 1, 3) := by decide +kernel
theorem dJx35411_checkForComodification_da8c8_4 : decode cJx35411_checkForComodification_da8c8 4 = .ok (.getfield 17, 3) := by decide +kernel
theorem dJx35411_checkForComodification_da8c8_7 : decode cJx35411_checkForComodification_da8c8 7 = .ok (.aload_n 0, 1) := by decide +kernel
theorem dJx35411_checkForComodification_da8c8_8 : decode cJx35411_checkForComodification_da8c8 8 = .ok (.getfield 22, 3) := by decide +kernel
theorem dJx35411_checkForComodification_da8c8_11 : decode cJx35411_checkForComodification_da8c8 11 = .ok (.if_icmp .eq 11, 3) := by decide +kernel
theorem dJx35411_checkForComodification_da8c8_22 : decode cJx35411_checkForComodification_da8c8 22 = .ok (.return_, 1) := by decide +kernel
theorem dJx35411_next_0502b_0 : decode cJx35411_next_0502b 0 = .ok (.aload_n 0, 1) := by decide +kernel
theorem dJx35411_next_0502b_1 : decode cJx35411_next_0502b 1 = .ok (.invokevirtual 31, 3) := by decide +kernel
theorem dJx35411_next_0502b_4 : decode cJx35411_next_0502b 4 = .ok (.aload_n 0, 1) := by decide +kernel
theorem dJx35411_next_0502b_5 : decode cJx35411_next_0502b 5 = .ok (.getfield 25, 3) := by decide +kernel
theorem dJx35411_next_0502b_8 : decode cJx35411_next_0502b 8 = .ok (.istore_n 1, 1) := by decide +kernel
theorem dJx35411_next_0502b_9 : decode cJx35411_next_0502b 9 = .ok (.iload_n 1, 1) := by decide +kernel
theorem dJx35411_next_0502b_10 : decode cJx35411_next_0502b 10 = .ok (.aload_n 0, 1) := by decide +kernel
theorem dJx35411_next_0502b_11 : decode cJx35411_next_0502b 11 = .ok (.getfield 1, 3) := by decide +kernel
theorem dJx35411_next_0502b_14 : decode cJx35411_next_0502b 14 = .ok (.getfield 28, 3) := by decide +kernel
theorem dJx35411_next_0502b_17 : decode cJx35411_next_0502b 17 = .ok (.if_icmp .lt 11, 3) := by decide +kernel
theorem dJx35411_next_0502b_28 : decode cJx35411_next_0502b 28 = .ok (.aload_n 0, 1) := by decide +kernel
theorem dJx35411_next_0502b_29 : decode cJx35411_next_0502b 29 = .ok (.getfield 1, 3) := by decide +kernel
theorem dJx35411_next_0502b_32 : decode cJx35411_next_0502b 32 = .ok (.getfield 37, 3) := by decide +kernel
theorem dJx35411_next_0502b_35 : decode cJx35411_next_0502b 35 = .ok (.astore_n 2, 1) := by decide +kernel
theorem dJx35411_next_0502b_36 : decode cJx35411_next_0502b 36 = .ok (.iload_n 1, 1) := by decide +kernel
theorem dJx35411_next_0502b_37 : decode cJx35411_next_0502b 37 = .ok (.aload_n 2, 1) := by decide +kernel
theorem dJx35411_next_0502b_38 : decode cJx35411_next_0502b 38 = .ok (.arraylength, 1) := by decide +kernel
theorem dJx35411_next_0502b_39 : decode cJx35411_next_0502b 39 = .ok (.if_icmp .lt 11, 3) := by decide +kernel
theorem dJx35411_next_0502b_50 : decode cJx35411_next_0502b 50 = .ok (.aload_n 0, 1) := by decide +kernel
theorem dJx35411_next_0502b_51 : decode cJx35411_next_0502b 51 = .ok (.iload_n 1, 1) := by decide +kernel
theorem dJx35411_next_0502b_52 : decode cJx35411_next_0502b 52 = .ok (.iconst 1, 1) := by decide +kernel
theorem dJx35411_next_0502b_53 : decode cJx35411_next_0502b 53 = .ok (.iadd, 1) := by decide +kernel
theorem dJx35411_next_0502b_54 : decode cJx35411_next_0502b 54 = .ok (.putfield 25, 3) := by decide +kernel
theorem dJx35411_next_0502b_57 : decode cJx35411_next_0502b 57 = .ok (.aload_n 2, 1) := by decide +kernel
theorem dJx35411_next_0502b_58 : decode cJx35411_next_0502b 58 = .ok (.aload_n 0, 1) := by decide +kernel
theorem dJx35411_next_0502b_59 : decode cJx35411_next_0502b 59 = .ok (.iload_n 1, 1) := by decide +kernel
theorem dJx35411_next_0502b_60 : decode cJx35411_next_0502b 60 = .ok (.dup_x1, 1) := by decide +kernel
theorem dJx35411_next_0502b_61 : decode cJx35411_next_0502b 61 = .ok (.putfield 13, 3) := by decide +kernel
theorem dJx35411_next_0502b_64 : decode cJx35411_next_0502b 64 = .ok (.aaload, 1) := by decide +kernel
theorem dJx35411_next_0502b_65 : decode cJx35411_next_0502b 65 = .ok (.areturn, 1) := by decide +kernel
theorem dJ3_checkIndex_8e157_0 : decode cJ3_checkIndex_8e157 0 = .ok (.iload_n 0, 1) := by decide +kernel
theorem dJ3_checkIndex_8e157_1 : decode cJ3_checkIndex_8e157 1 = .ok (.ifCond .lt 8, 3) := by decide +kernel
theorem dJ3_checkIndex_8e157_4 : decode cJ3_checkIndex_8e157 4 = .ok (.iload_n 0, 1) := by decide +kernel
theorem dJ3_checkIndex_8e157_5 : decode cJ3_checkIndex_8e157 5 = .ok (.iload_n 1, 1) := by decide +kernel
theorem dJ3_checkIndex_8e157_6 : decode cJ3_checkIndex_8e157 6 = .ok (.if_icmp .lt 10, 3) := by decide +kernel
theorem dJ3_checkIndex_8e157_16 : decode cJ3_checkIndex_8e157 16 = .ok (.iload_n 0, 1) := by decide +kernel
theorem dJ3_checkIndex_8e157_17 : decode cJ3_checkIndex_8e157 17 = .ok (.ireturn, 1) := by decide +kernel
theorem dJ15_checkIndex_7cf53_0 : decode cJ15_checkIndex_7cf53 0 = .ok (.iload_n 0, 1) := by decide +kernel
theorem dJ15_checkIndex_7cf53_1 : decode cJ15_checkIndex_7cf53 1 = .ok (.iload_n 1, 1) := by decide +kernel
theorem dJ15_checkIndex_7cf53_2 : decode cJ15_checkIndex_7cf53 2 = .ok (.aconst_null, 1) := by decide +kernel
theorem dJ15_checkIndex_7cf53_3 : decode cJ15_checkIndex_7cf53 3 = .ok (.invokestatic 105, 3) := by decide +kernel
theorem dJ15_checkIndex_7cf53_6 : decode cJ15_checkIndex_7cf53 6 = .ok (.ireturn, 1) := by decide +kernel
theorem dJx4a65c_elementData_915e3_0 : decode cJx4a65c_elementData_915e3 0 = .ok (.aload_n 0, 1) := by decide +kernel
theorem dJx4a65c_elementData_915e3_1 : decode cJx4a65c_elementData_915e3 1 = .ok (.getfield 9, 3) := by decide +kernel
theorem dJx4a65c_elementData_915e3_4 : decode cJx4a65c_elementData_915e3 4 = .ok (.iload_n 1, 1) := by decide +kernel
theorem dJx4a65c_elementData_915e3_5 : decode cJx4a65c_elementData_915e3 5 = .ok (.aaload, 1) := by decide +kernel
theorem dJx4a65c_elementData_915e3_6 : decode cJx4a65c_elementData_915e3 6 = .ok (.areturn, 1) := by decide +kernel
theorem dJx4a65c_get_915e3_0 : decode cJx4a65c_get_915e3 0 = .ok (.iload_n 1, 1) := by decide +kernel
theorem dJx4a65c_get_915e3_1 : decode cJx4a65c_get_915e3 1 = .ok (.aload_n 0, 1) := by decide +kernel
theorem dJx4a65c_get_915e3_2 : decode cJx4a65c_get_915e3 2 = .ok (.getfield 48, 3) := by decide +kernel
theorem dJx4a65c_get_915e3_5 : decode cJx4a65c_get_915e3 5 = .ok (.invokestatic 118, 3) := by decide +kernel
theorem dJx4a65c_get_915e3_8 : decode cJx4a65c_get_915e3 8 = .ok (.pop, 1) := by decide +kernel
theorem dJx4a65c_get_915e3_9 : decode cJx4a65c_get_915e3 9 = .ok (.aload_n 0, 1) := by decide +kernel
theorem dJx4a65c_get_915e3_10 : decode cJx4a65c_get_915e3 10 = .ok (.iload_n 1, 1) := by decide +kernel
theorem dJx4a65c_get_915e3_11 : decode cJx4a65c_get_915e3 11 = .ok (.invokevirtual 123, 3) := by decide +kernel
theorem dJx4a65c_get_915e3_14 : decode cJx4a65c_get_915e3 14 = .ok (.areturn, 1) := by decide +kernel
theorem dJx4a65c_grow_92f84_0 : decode cJx4a65c_grow_92f84 0 = .ok (.aload_n 0, 1) := by decide +kernel
theorem dJx4a65c_grow_92f84_1 : decode cJx4a65c_grow_92f84 1 = .ok (.getfield 9, 3) := by decide +kernel
theorem dJx4a65c_grow_92f84_4 : decode cJx4a65c_grow_92f84 4 = .ok (.arraylength, 1) := by decide +kernel
theorem dJx4a65c_grow_92f84_5 : decode cJx4a65c_grow_92f84 5 = .ok (.istore_n 2, 1) := by decide +kernel
theorem dJx4a65c_grow_92f84_6 : decode cJx4a65c_grow_92f84 6 = .ok (.iload_n 2, 1) := by decide +kernel
theorem dJx4a65c_grow_92f84_7 : decode cJx4a65c_grow_92f84 7 = .ok (.ifCond .gt 13, 3) := by decide +kernel
theorem dJx4a65c_grow_92f84_10 : decode cJx4a65c_grow_92f84 10 = .ok (.aload_n 0, 1) := by decide +kernel
theorem dJx4a65c_grow_92f84_11 : decode cJx4a65c_grow_92f84 11 = .ok (.getfield 9, 3) := by decide +kernel
theorem dJx4a65c_grow_92f84_14 : decode cJx4a65c_grow_92f84 14 = .ok (.getstatic 39, 3) := by decide +kernel
theorem dJx4a65c_grow_92f84_17 : decode cJx4a65c_grow_92f84 17 = .ok (.if_acmp .eq 28, 3) := by decide +kernel
theorem dJx4a65c_grow_92f84_45 : decode cJx4a65c_grow_92f84 45 = .ok (.aload_n 0, 1) := by decide +kernel
theorem dJx4a65c_grow_92f84_46 : decode cJx4a65c_grow_92f84 46 = .ok (.bipush 10, 2) := by decide +kernel
theorem dJx4a65c_grow_92f84_48 : decode cJx4a65c_grow_92f84 48 = .ok (.iload_n 1, 1) := by decide +kernel
theorem dJx4a65c_grow_92f84_49 : decode cJx4a65c_grow_92f84 49 = .ok (.invokestatic 79, 3) := by decide +kernel
theorem dJx4a65c_grow_92f84_52 : decode cJx4a65c_grow_92f84 52 = .ok (.anewarray 7, 3) := by decide +kernel
theorem dJx4a65c_grow_92f84_55 : decode cJx4a65c_grow_92f84 55 = .ok (.dup_x1, 1) := by decide +kernel
theorem dJx4a65c_grow_92f84_56 : decode cJx4a65c_grow_92f84 56 = .ok (.putfield 9, 3) := by decide +kernel
theorem dJx4a65c_grow_92f84_59 : decode cJx4a65c_grow_92f84 59 = .ok (.areturn, 1) := by decide +kernel
theorem dJx4a65c_grow_d5877_0 : decode cJx4a65c_grow_d5877 0 = .ok (.aload_n 0, 1) := by decide +kernel
theorem dJx4a65c_grow_d5877_1 : decode cJx4a65c_grow_d5877 1 = .ok (.aload_n 0, 1) := by decide +kernel
theorem dJx4a65c_grow_d5877_2 : decode cJx4a65c_grow_d5877 2 = .ok (.getfield 48, 3) := by decide +kernel
theorem dJx4a65c_grow_d5877_5 : decode cJx4a65c_grow_d5877 5 = .ok (.iconst 1, 1) := by decide +kernel
theorem dJx4a65c_grow_d5877_6 : decode cJx4a65c_grow_d5877 6 = .ok (.iadd, 1) := by decide +kernel
theorem dJx4a65c_grow_d5877_7 : decode cJx4a65c_grow_d5877 7 = .ok (.invokevirtual 69, 3) := by decide +kernel
theorem dJx4a65c_grow_d5877_10 : decode cJx4a65c_grow_d5877 10 = .ok (.areturn, 1) := by decide +kernel
theorem dJ8_newLength_cabcc_0 : decode cJ8_newLength_cabcc 0 = .ok (.iload_n 0, 1) := by decide +kernel
theorem dJ8_newLength_cabcc_1 : decode cJ8_newLength_cabcc 1 = .ok (.iload_n 1, 1) := by decide +kernel
theorem dJ8_newLength_cabcc_2 : decode cJ8_newLength_cabcc 2 = .ok (.iload_n 2, 1) := by decide +kernel
theorem dJ8_newLength_cabcc_3 : decode cJ8_newLength_cabcc 3 = .ok (.invokestatic 194, 3) := by decide +kernel
theorem dJ8_newLength_cabcc_6 : decode cJ8_newLength_cabcc 6 = .ok (.iadd, 1) := by decide +kernel
theorem dJ8_newLength_cabcc_7 : decode cJ8_newLength_cabcc 7 = .ok (.istore_n 3, 1) := by decide +kernel
theorem dJ8_newLength_cabcc_8 : decode cJ8_newLength_cabcc 8 = .ok (.iconst 0, 1) := by decide +kernel
theorem dJ8_newLength_cabcc_9 : decode cJ8_newLength_cabcc 9 = .ok (.iload_n 3, 1) := by decide +kernel
theorem dJ8_newLength_cabcc_10 : decode cJ8_newLength_cabcc 10 = .ok (.if_icmp .ge 11, 3) := by decide +kernel
theorem dJ8_newLength_cabcc_13 : decode cJ8_newLength_cabcc 13 = .ok (.iload_n 3, 1) := by decide +kernel
theorem dJ8_newLength_cabcc_14 : decode cJ8_newLength_cabcc 14 = .ok (.ldc 200, 2) := by decide +kernel
theorem dJ8_newLength_cabcc_16 : decode cJ8_newLength_cabcc 16 = .ok (.if_icmp .gt 5, 3) := by decide +kernel
theorem dJ8_newLength_cabcc_19 : decode cJ8_newLength_cabcc 19 = .ok (.iload_n 3, 1) := by decide +kernel
theorem dJ8_newLength_cabcc_20 : decode cJ8_newLength_cabcc 20 = .ok (.ireturn, 1) := by decide +kernel
theorem dJ7_copyOf_6403c_0 : decode cJ7_copyOf_6403c 0 = .ok (.aload_n 2, 1) := by decide +kernel
theorem dJ7_copyOf_6403c_1 : decode cJ7_copyOf_6403c 1 = .ok (.ldc 110, 2) := by decide +kernel
theorem dJ7_copyOf_6403c_3 : decode cJ7_copyOf_6403c 3 = .ok (.if_acmp .ne 10, 3) := by decide +kernel
theorem dJ7_copyOf_6403c_6 : decode cJ7_copyOf_6403c 6 = .ok (.iload_n 1, 1) := by decide +kernel
theorem dJ7_copyOf_6403c_7 : decode cJ7_copyOf_6403c 7 = .ok (.anewarray 2, 3) := by decide +kernel
theorem dJ7_copyOf_6403c_10 : decode cJ7_copyOf_6403c 10 = .ok (.goto 14, 3) := by decide +kernel
theorem dJ7_copyOf_6403c_24 : decode cJ7_copyOf_6403c 24 = .ok (.astore_n 3, 1) := by decide +kernel
theorem dJ7_copyOf_6403c_25 : decode cJ7_copyOf_6403c 25 = .ok (.aload_n 0, 1) := by decide +kernel
theorem dJ7_copyOf_6403c_26 : decode cJ7_copyOf_6403c 26 = .ok (.iconst 0, 1) := by decide +kernel
theorem dJ7_copyOf_6403c_27 : decode cJ7_copyOf_6403c 27 = .ok (.aload_n 3, 1) := by decide +kernel
theorem dJ7_copyOf_6403c_28 : decode cJ7_copyOf_6403c 28 = .ok (.iconst 0, 1) := by decide +kernel
theorem dJ7_copyOf_6403c_29 : decode cJ7_copyOf_6403c 29 = .ok (.aload_n 0, 1) := by decide +kernel
theorem dJ7_copyOf_6403c_30 : decode cJ7_copyOf_6403c 30 = .ok (.arraylength, 1) := by decide +kernel
theorem dJ7_copyOf_6403c_31 : decode cJ7_copyOf_6403c 31 = .ok (.iload_n 1, 1) := by decide +kernel
theorem dJ7_copyOf_6403c_32 : decode cJ7_copyOf_6403c 32 = .ok (.invokestatic 304, 3) := by decide +kernel
theorem dJ7_copyOf_6403c_35 : decode cJ7_copyOf_6403c 35 = .ok (.invokestatic 150, 3) := by decide +kernel
theorem dJ7_copyOf_6403c_38 : decode cJ7_copyOf_6403c 38 = .ok (.aload_n 3, 1) := by decide +kernel
theorem dJ7_copyOf_6403c_39 : decode cJ7_copyOf_6403c 39 = .ok (.areturn, 1) := by decide +kernel
theorem dJ7_copyOf_1904c_0 : decode cJ7_copyOf_1904c 0 = .ok (.aload_n 0, 1) := by decide +kernel
theorem dJ7_copyOf_1904c_1 : decode cJ7_copyOf_1904c 1 = .ok (.iload_n 1, 1) := by decide +kernel
theorem dJ7_copyOf_1904c_2 : decode cJ7_copyOf_1904c 2 = .ok (.aload_n 0, 1) := by decide +kernel
theorem dJ7_copyOf_1904c_3 : decode cJ7_copyOf_1904c 3 = .ok (.invokevirtual 86, 3) := by decide +kernel
theorem dJ7_copyOf_1904c_6 : decode cJ7_copyOf_1904c 6 = .ok (.invokestatic 300, 3) := by decide +kernel
theorem dJ7_copyOf_1904c_9 : decode cJ7_copyOf_1904c 9 = .ok (.areturn, 1) := by decide +kernel
theorem dJx4a65c_grow_92f84_20 : decode cJx4a65c_grow_92f84 20 = .ok (.iload_n 2, 1) := by decide +kernel
theorem dJx4a65c_grow_92f84_21 : decode cJx4a65c_grow_92f84 21 = .ok (.iload_n 1, 1) := by decide +kernel
theorem dJx4a65c_grow_92f84_22 : decode cJx4a65c_grow_92f84 22 = .ok (.iload_n 2, 1) := by decide +kernel
theorem dJx4a65c_grow_92f84_23 : decode cJx4a65c_grow_92f84 23 = .ok (.isub, 1) := by decide +kernel
theorem dJx4a65c_grow_92f84_24 : decode cJx4a65c_grow_92f84 24 = .ok (.iload_n 2, 1) := by decide +kernel
theorem dJx4a65c_grow_92f84_25 : decode cJx4a65c_grow_92f84 25 = .ok (.iconst 1, 1) := by decide +kernel
theorem dJx4a65c_grow_92f84_26 : decode cJx4a65c_grow_92f84 26 = .ok (.ishr, 1) := by decide +kernel
theorem dJx4a65c_grow_92f84_27 : decode cJx4a65c_grow_92f84 27 = .ok (.invokestatic 73, 3) := by decide +kernel
theorem dJx4a65c_grow_92f84_30 : decode cJx4a65c_grow_92f84 30 = .ok (.istore_n 3, 1) := by decide +kernel
theorem dJx4a65c_grow_92f84_31 : decode cJx4a65c_grow_92f84 31 = .ok (.aload_n 0, 1) := by decide +kernel
theorem dJx4a65c_grow_92f84_32 : decode cJx4a65c_grow_92f84 32 = .ok (.aload_n 0, 1) := by decide +kernel
theorem dJx4a65c_grow_92f84_33 : decode cJx4a65c_grow_92f84 33 = .ok (.getfield 9, 3) := by decide +kernel
theorem dJx4a65c_grow_92f84_36 : decode cJx4a65c_grow_92f84 36 = .ok (.iload_n 3, 1) := by decide +kernel
theorem dJx4a65c_grow_92f84_37 : decode cJx4a65c_grow_92f84 37 = .ok (.invokestatic 66, 3) := by decide +kernel
theorem dJx4a65c_grow_92f84_40 : decode cJx4a65c_grow_92f84 40 = .ok (.dup_x1, 1) := by decide +kernel
theorem dJx4a65c_grow_92f84_41 : decode cJx4a65c_grow_92f84 41 = .ok (.putfield 9, 3) := by decide +kernel
theorem dJx4a65c_grow_92f84_44 : decode cJx4a65c_grow_92f84 44 = .ok (.areturn, 1) := by decide +kernel
theorem dJx4a65c_add_72be8_0 : decode cJx4a65c_add_72be8 0 = .ok (.iload_n 3, 1) := by decide +kernel
theorem dJx4a65c_add_72be8_1 : decode cJx4a65c_add_72be8 1 = .ok (.aload_n 2, 1) := by decide +kernel
theorem dJx4a65c_add_72be8_2 : decode cJx4a65c_add_72be8 2 = .ok (.arraylength, 1) := by decide +kernel
theorem dJx4a65c_add_72be8_3 : decode cJx4a65c_add_72be8 3 = .ok (.if_icmp .ne 8, 3) := by decide +kernel
theorem dJx4a65c_add_72be8_6 : decode cJx4a65c_add_72be8 6 = .ok (.aload_n 0, 1) := by decide +kernel
theorem dJx4a65c_add_72be8_7 : decode cJx4a65c_add_72be8 7 = .ok (.invokevirtual 129, 3) := by decide +kernel
theorem dJx4a65c_add_72be8_10 : decode cJx4a65c_add_72be8 10 = .ok (.astore_n 2, 1) := by decide +kernel
theorem dJx4a65c_add_72be8_11 : decode cJx4a65c_add_72be8 11 = .ok (.aload_n 2, 1) := by decide +kernel
theorem dJx4a65c_add_72be8_12 : decode cJx4a65c_add_72be8 12 = .ok (.iload_n 3, 1) := by decide +kernel
theorem dJx4a65c_add_72be8_13 : decode cJx4a65c_add_72be8 13 = .ok (.aload_n 1, 1) := by decide +kernel
theorem dJx4a65c_add_72be8_14 : decode cJx4a65c_add_72be8 14 = .ok (.aastore, 1) := by decide +kernel
theorem dJx4a65c_add_72be8_15 : decode cJx4a65c_add_72be8 15 = .ok (.aload_n 0, 1) := by decide +kernel
theorem dJx4a65c_add_72be8_16 : decode cJx4a65c_add_72be8 16 = .ok (.iload_n 3, 1) := by decide +kernel
theorem dJx4a65c_add_72be8_17 : decode cJx4a65c_add_72be8 17 = .ok (.iconst 1, 1) := by decide +kernel
theorem dJx4a65c_add_72be8_18 : decode cJx4a65c_add_72be8 18 = .ok (.iadd, 1) := by decide +kernel
theorem dJx4a65c_add_72be8_19 : decode cJx4a65c_add_72be8 19 = .ok (.putfield 48, 3) := by decide +kernel
theorem dJx4a65c_add_72be8_22 : decode cJx4a65c_add_72be8 22 = .ok (.return_, 1) := by decide +kernel
theorem dJx4a65c_add_9ea2d_0 : decode cJx4a65c_add_9ea2d 0 = .ok (.aload_n 0, 1) := by decide +kernel
theorem dJx4a65c_add_9ea2d_1 : decode cJx4a65c_add_9ea2d 1 = .ok (.dup, 1) := by decide +kernel
theorem dJx4a65c_add_9ea2d_2 : decode cJx4a65c_add_9ea2d 2 = .ok (.getfield 63, 3) := by decide +kernel
theorem dJx4a65c_add_9ea2d_5 : decode cJx4a65c_add_9ea2d 5 = .ok (.iconst 1, 1) := by decide +kernel
theorem dJx4a65c_add_9ea2d_6 : decode cJx4a65c_add_9ea2d 6 = .ok (.iadd, 1) := by decide +kernel
theorem dJx4a65c_add_9ea2d_7 : decode cJx4a65c_add_9ea2d 7 = .ok (.putfield 63, 3) := by decide +kernel
theorem dJx4a65c_add_9ea2d_10 : decode cJx4a65c_add_9ea2d 10 = .ok (.aload_n 0, 1) := by decide +kernel
theorem dJx4a65c_add_9ea2d_11 : decode cJx4a65c_add_9ea2d 11 = .ok (.aload_n 1, 1) := by decide +kernel
theorem dJx4a65c_add_9ea2d_12 : decode cJx4a65c_add_9ea2d 12 = .ok (.aload_n 0, 1) := by decide +kernel
theorem dJx4a65c_add_9ea2d_13 : decode cJx4a65c_add_9ea2d 13 = .ok (.getfield 9, 3) := by decide +kernel
theorem dJx4a65c_add_9ea2d_16 : decode cJx4a65c_add_9ea2d 16 = .ok (.aload_n 0, 1) := by decide +kernel
theorem dJx4a65c_add_9ea2d_17 : decode cJx4a65c_add_9ea2d 17 = .ok (.getfield 48, 3) := by decide +kernel
theorem dJx4a65c_add_9ea2d_20 : decode cJx4a65c_add_9ea2d 20 = .ok (.invokevirtual 131, 3) := by decide +kernel
theorem dJx4a65c_add_9ea2d_23 : decode cJx4a65c_add_9ea2d 23 = .ok (.iconst 1, 1) := by decide +kernel
theorem dJx4a65c_add_9ea2d_24 : decode cJx4a65c_add_9ea2d 24 = .ok (.ireturn, 1) := by decide +kernel
abbrev wzJ15_checkIndex_7cf53 : List Cond := .code yJ15_checkIndex_7cf53 cJ15_checkIndex_7cf53 2 (some .int) :: zx_G
abbrev wzJ3_checkIndex_8e157 : List Cond := .code yJ3_checkIndex_8e157 cJ3_checkIndex_8e157 3 (some .int) :: zx_G
abbrev wzJ7_copyOf_1904c : List Cond := .code yJ7_copyOf_1904c cJ7_copyOf_1904c 2 (some (.array (.object "java/lang/Object"))) :: zx_G
abbrev wzJ7_copyOf_6403c : List Cond := .code yJ7_copyOf_6403c cJ7_copyOf_6403c 4 (some (.array (.object "java/lang/Object"))) :: zx_G
abbrev wzJ8_newLength_cabcc : List Cond := .code yJ8_newLength_cabcc cJ8_newLength_cabcc 4 (some .int) :: zx_G
abbrev wzJx35411_checkForComodification_da8c8 : List Cond := .code yJx35411_checkForComodification_da8c8 cJx35411_checkForComodification_da8c8 1 none :: zx_G
abbrev wzJx35411_hasNext_aae02 : List Cond := .code yJx35411_hasNext_aae02 cJx35411_hasNext_aae02 1 (some .boolean) :: zx_G
abbrev wzJx35411_init_45d68 : List Cond := .code yJx35411_init_45d68 cJx35411_init_45d68 2 none :: zx_G
abbrev wzJx35411_next_0502b : List Cond := .code yJx35411_next_0502b cJx35411_next_0502b 3 (some (.object "java/lang/Object")) :: zx_G
abbrev wzJx4a65c_add_72be8 : List Cond := .code yJx4a65c_add_72be8 cJx4a65c_add_72be8 4 none :: zx_G
abbrev wzJx4a65c_add_9ea2d : List Cond := .code yJx4a65c_add_9ea2d cJx4a65c_add_9ea2d 2 (some .boolean) :: zx_G
abbrev wzJx4a65c_elementData_915e3 : List Cond := .code yJx4a65c_elementData_915e3 cJx4a65c_elementData_915e3 2 (some (.object "java/lang/Object")) :: zx_G
abbrev wzJx4a65c_get_915e3 : List Cond := .code yJx4a65c_get_915e3 cJx4a65c_get_915e3 2 (some (.object "java/lang/Object")) :: zx_G
abbrev wzJx4a65c_grow_92f84 : List Cond := .code yJx4a65c_grow_92f84 cJx4a65c_grow_92f84 4 (some (.array (.object "java/lang/Object"))) :: zx_G
abbrev wzJx4a65c_grow_d5877 : List Cond := .code yJx4a65c_grow_d5877 cJx4a65c_grow_d5877 1 (some (.array (.object "java/lang/Object"))) :: zx_G
abbrev wzJx4a65c_iterator_32c93 : List Cond := .code yJx4a65c_iterator_32c93 cJx4a65c_iterator_32c93 1 (some (.object "java/util/Iterator")) :: zx_G
theorem mm_5 : (.selects RJx4a65c yJx4a65c_add_72be8 yJx4a65c_add_72be8 : Cond) ∈ zx_G := zx_wi 5 (by decide +kernel) (by decide +kernel)
theorem mm_6 : (.selects RJx4a65c yJx4a65c_grow_d5877 yJx4a65c_grow_d5877 : Cond) ∈ zx_G := zx_wi 6 (by decide +kernel) (by decide +kernel)
theorem mm_7 : (.selects RJx4a65c yJx4a65c_grow_92f84 yJx4a65c_grow_92f84 : Cond) ∈ zx_G := zx_wi 7 (by decide +kernel) (by decide +kernel)
theorem mm_85 : (.initialized RJ8 : Cond) ∈ zx_G := zx_wi 85 (by decide +kernel) (by decide +kernel)
theorem mm_86 : (.initialized "java/lang/Math" : Cond) ∈ zx_G := zx_wi 86 (by decide +kernel) (by decide +kernel)
theorem mm_87 : (.initialized "java/lang/System" : Cond) ∈ zx_G := zx_wi 87 (by decide +kernel) (by decide +kernel)
theorem mm_91 : (.initialized RJ15 : Cond) ∈ zx_G := zx_wi 91 (by decide +kernel) (by decide +kernel)
theorem mm_92 : (.initialized RJ3 : Cond) ∈ zx_G := zx_wi 92 (by decide +kernel) (by decide +kernel)
theorem mm_93 : (.initialized RJx35411 : Cond) ∈ zx_G := zx_wi 93 (by decide +kernel) (by decide +kernel)
theorem mm_214 : (.fieldLink RJx35411 37 "java/util/ArrayList" "elementData" "[Ljava/lang/Object;" : Cond) ∈ zx_G := zx_wi 214 (by decide +kernel) (by decide +kernel)
theorem mm_218 : (.fieldLink RJx35411 17 "java/util/ArrayList" "modCount" "I" : Cond) ∈ zx_G := zx_wi 218 (by decide +kernel) (by decide +kernel)
theorem mm_219 : (.sameField "java/util/ArrayList" "java/util/AbstractList" "modCount" "I" : Cond) ∈ zx_G := zx_wi 219 (by decide +kernel) (by decide +kernel)
theorem mm_220 : (.fieldLink RJx4a65c 63 "java/util/ArrayList" "modCount" "I" : Cond) ∈ zx_G := zx_wi 220 (by decide +kernel) (by decide +kernel)
theorem mm_260 : (.methodLink RJx4a65c 118 yJ15_checkIndex_7cf53 : Cond) ∈ zx_G := zx_wi 260 (by decide +kernel) (by decide +kernel)
theorem mm_261 : (.static yJ15_checkIndex_7cf53 : Cond) ∈ zx_G := zx_wi 261 (by decide +kernel) (by decide +kernel)
theorem mm_262 : (.code yJ15_checkIndex_7cf53 cJ15_checkIndex_7cf53 2 (some .int) : Cond) ∈ zx_G := zx_wi 262 (by decide +kernel) (by decide +kernel)
theorem mm_263 : (.methodLink RJ15 105 yJ3_checkIndex_8e157 : Cond) ∈ zx_G := zx_wi 263 (by decide +kernel) (by decide +kernel)
theorem mm_264 : (.static yJ3_checkIndex_8e157 : Cond) ∈ zx_G := zx_wi 264 (by decide +kernel) (by decide +kernel)
theorem mm_265 : (.code yJ3_checkIndex_8e157 cJ3_checkIndex_8e157 3 (some .int) : Cond) ∈ zx_G := zx_wi 265 (by decide +kernel) (by decide +kernel)
theorem mm_266 : (.methodLink RJx4a65c 123 yJx4a65c_elementData_915e3 : Cond) ∈ zx_G := zx_wi 266 (by decide +kernel) (by decide +kernel)
theorem mm_267 : (.instanceMethod yJx4a65c_elementData_915e3 : Cond) ∈ zx_G := zx_wi 267 (by decide +kernel) (by decide +kernel)
theorem mm_268 : (.selects RJx4a65c yJx4a65c_elementData_915e3 yJx4a65c_elementData_915e3 : Cond) ∈ zx_G := zx_wi 268 (by decide +kernel) (by decide +kernel)
theorem mm_269 : (.code yJx4a65c_elementData_915e3 cJx4a65c_elementData_915e3 2 (some (.object "java/lang/Object")) : Cond) ∈ zx_G := zx_wi 269 (by decide +kernel) (by decide +kernel)
theorem mm_279 : (.static Lib.Math.max.name : Cond) ∈ zx_G := zx_wi 279 (by decide +kernel) (by decide +kernel)
theorem mm_280 : (.code Lib.Math.max.name Lib.Math.max.code 2 (some .int) : Cond) ∈ zx_G := zx_wi 280 (by decide +kernel) (by decide +kernel)
theorem mm_766 : (.methodLink RJ7 304 Lib.Math.min.name : Cond) ∈ zx_G := zx_wi 766 (by decide +kernel) (by decide +kernel)
theorem mm_767 : (.static Lib.Math.min.name : Cond) ∈ zx_G := zx_wi 767 (by decide +kernel) (by decide +kernel)
theorem mm_768 : (.code Lib.Math.min.name Lib.Math.min.code 2 (some .int) : Cond) ∈ zx_G := zx_wi 768 (by decide +kernel) (by decide +kernel)
theorem mm_769 : (.methodLink RJ7 150 arraycopyName : Cond) ∈ zx_G := zx_wi 769 (by decide +kernel) (by decide +kernel)
theorem mm_770 : (.static arraycopyName : Cond) ∈ zx_G := zx_wi 770 (by decide +kernel) (by decide +kernel)
theorem mm_771 : (.native arraycopyName : Cond) ∈ zx_G := zx_wi 771 (by decide +kernel) (by decide +kernel)
theorem mm_776 : (.methodLink RJx4a65c 131 yJx4a65c_add_72be8 : Cond) ∈ zx_G := zx_wi 776 (by decide +kernel) (by decide +kernel)
theorem mm_778 : (.instanceMethod yJx4a65c_add_72be8 : Cond) ∈ zx_G := zx_wi 778 (by decide +kernel) (by decide +kernel)
theorem mm_779 : (.code yJx4a65c_add_72be8 cJx4a65c_add_72be8 4 none : Cond) ∈ zx_G := zx_wi 779 (by decide +kernel) (by decide +kernel)
theorem mm_780 : (.methodLink RJx4a65c 129 yJx4a65c_grow_d5877 : Cond) ∈ zx_G := zx_wi 780 (by decide +kernel) (by decide +kernel)
theorem mm_782 : (.instanceMethod yJx4a65c_grow_d5877 : Cond) ∈ zx_G := zx_wi 782 (by decide +kernel) (by decide +kernel)
theorem mm_783 : (.code yJx4a65c_grow_d5877 cJx4a65c_grow_d5877 1 (some (.array (.object "java/lang/Object"))) : Cond) ∈ zx_G := zx_wi 783 (by decide +kernel) (by decide +kernel)
theorem mm_784 : (.methodLink RJx4a65c 69 yJx4a65c_grow_92f84 : Cond) ∈ zx_G := zx_wi 784 (by decide +kernel) (by decide +kernel)
theorem mm_786 : (.instanceMethod yJx4a65c_grow_92f84 : Cond) ∈ zx_G := zx_wi 786 (by decide +kernel) (by decide +kernel)
theorem mm_787 : (.code yJx4a65c_grow_92f84 cJx4a65c_grow_92f84 4 (some (.array (.object "java/lang/Object"))) : Cond) ∈ zx_G := zx_wi 787 (by decide +kernel) (by decide +kernel)
theorem mm_788 : (.methodLink RJx4a65c 73 yJ8_newLength_cabcc : Cond) ∈ zx_G := zx_wi 788 (by decide +kernel) (by decide +kernel)
theorem mm_789 : (.static yJ8_newLength_cabcc : Cond) ∈ zx_G := zx_wi 789 (by decide +kernel) (by decide +kernel)
theorem mm_790 : (.code yJ8_newLength_cabcc cJ8_newLength_cabcc 4 (some .int) : Cond) ∈ zx_G := zx_wi 790 (by decide +kernel) (by decide +kernel)
theorem mm_791 : (.methodLink RJ8 194 Lib.Math.max.name : Cond) ∈ zx_G := zx_wi 791 (by decide +kernel) (by decide +kernel)
theorem mm_792 : (.constant RJ8 200 (2147483639) : Cond) ∈ zx_G := zx_wi 792 (by decide +kernel) (by decide +kernel)
theorem mm_796 : (.methodLink RJx4a65c 66 yJ7_copyOf_1904c : Cond) ∈ zx_G := zx_wi 796 (by decide +kernel) (by decide +kernel)
theorem mm_797 : (.static yJ7_copyOf_1904c : Cond) ∈ zx_G := zx_wi 797 (by decide +kernel) (by decide +kernel)
theorem mm_798 : (.code yJ7_copyOf_1904c cJ7_copyOf_1904c 2 (some (.array (.object "java/lang/Object"))) : Cond) ∈ zx_G := zx_wi 798 (by decide +kernel) (by decide +kernel)
theorem mm_799 : (.methodLink RJ7 86 ⟨"java/lang/Object", "getClass", "()Ljava/lang/Class;"⟩ : Cond) ∈ zx_G := zx_wi 799 (by decide +kernel) (by decide +kernel)
theorem mm_800 : (.instanceMethod ⟨"java/lang/Object", "getClass", "()Ljava/lang/Class;"⟩ : Cond) ∈ zx_G := zx_wi 800 (by decide +kernel) (by decide +kernel)
theorem mm_828 : (.native ⟨"java/lang/Object", "getClass", "()Ljava/lang/Class;"⟩ : Cond) ∈ zx_G := zx_wi 828 (by decide +kernel) (by decide +kernel)
theorem mm_829 : (.methodLink RJ7 300 yJ7_copyOf_6403c : Cond) ∈ zx_G := zx_wi 829 (by decide +kernel) (by decide +kernel)
theorem mm_830 : (.static yJ7_copyOf_6403c : Cond) ∈ zx_G := zx_wi 830 (by decide +kernel) (by decide +kernel)
theorem mm_831 : (.code yJ7_copyOf_6403c cJ7_copyOf_6403c 4 (some (.array (.object "java/lang/Object"))) : Cond) ∈ zx_G := zx_wi 831 (by decide +kernel) (by decide +kernel)
theorem mm_832 : (.classLink RJ7 110 "[Ljava/lang/Object;" : Cond) ∈ zx_G := zx_wi 832 (by decide +kernel) (by decide +kernel)
theorem mm_834 : (.classLink RJ7 2 "java/lang/Object" : Cond) ∈ zx_G := zx_wi 834 (by decide +kernel) (by decide +kernel)
theorem mm_835 : (.methodLink RJx4a65c 79 Lib.Math.max.name : Cond) ∈ zx_G := zx_wi 835 (by decide +kernel) (by decide +kernel)
theorem mm_836 : (.classLink RJx4a65c 7 "java/lang/Object" : Cond) ∈ zx_G := zx_wi 836 (by decide +kernel) (by decide +kernel)
theorem mm_1673 : (.classLink RJx4a65c 267 RJx35411 : Cond) ∈ zx_G := zx_wi 1673 (by decide +kernel) (by decide +kernel)
theorem mm_1674 : (.instantiable RJx35411 4 : Cond) ∈ zx_G := zx_wi 1674 (by decide +kernel) (by decide +kernel)
theorem mm_1675 : (.methodLink RJx4a65c 269 yJx35411_init_45d68 : Cond) ∈ zx_G := zx_wi 1675 (by decide +kernel) (by decide +kernel)
theorem mm_1676 : (.instanceMethod yJx35411_init_45d68 : Cond) ∈ zx_G := zx_wi 1676 (by decide +kernel) (by decide +kernel)
theorem mm_1677 : (.code yJx35411_init_45d68 cJx35411_init_45d68 2 none : Cond) ∈ zx_G := zx_wi 1677 (by decide +kernel) (by decide +kernel)
theorem mm_1678 : (.methodLink RJx35411 7 objectInit : Cond) ∈ zx_G := zx_wi 1678 (by decide +kernel) (by decide +kernel)
theorem mm_1679 : (.fieldLink RJx35411 25 "java/util/ArrayList$Itr" "cursor" "I" : Cond) ∈ zx_G := zx_wi 1679 (by decide +kernel) (by decide +kernel)
theorem mm_1680 : (.fieldLink RJx35411 13 "java/util/ArrayList$Itr" "lastRet" "I" : Cond) ∈ zx_G := zx_wi 1680 (by decide +kernel) (by decide +kernel)
theorem mm_1681 : (.fieldLink RJx35411 22 "java/util/ArrayList$Itr" "expectedModCount" "I" : Cond) ∈ zx_G := zx_wi 1681 (by decide +kernel) (by decide +kernel)
theorem mm_1682 : (.fieldLink RJx35411 1 "java/util/ArrayList$Itr" "this$0" "Ljava/util/ArrayList;" : Cond) ∈ zx_G := zx_wi 1682 (by decide +kernel) (by decide +kernel)
theorem mm_1711 : (.methodLink RJx35411 31 yJx35411_checkForComodification_da8c8 : Cond) ∈ zx_G := zx_wi 1711 (by decide +kernel) (by decide +kernel)
theorem mm_1712 : (.instanceMethod yJx35411_checkForComodification_da8c8 : Cond) ∈ zx_G := zx_wi 1712 (by decide +kernel) (by decide +kernel)
theorem mm_1713 : (.selects RJx35411 yJx35411_checkForComodification_da8c8 yJx35411_checkForComodification_da8c8 : Cond) ∈ zx_G := zx_wi 1713 (by decide +kernel) (by decide +kernel)
theorem mm_1714 : (.code yJx35411_checkForComodification_da8c8 cJx35411_checkForComodification_da8c8 1 none : Cond) ∈ zx_G := zx_wi 1714 (by decide +kernel) (by decide +kernel)
theorem mm_2489 : (.selects "[Ljava/lang/Object;" ⟨"java/lang/Object", "getClass", "()Ljava/lang/Class;"⟩ ⟨"java/lang/Object", "getClass", "()Ljava/lang/Class;"⟩ : Cond) ∈ zx_G := zx_wi 2489 (by decide +kernel) (by decide +kernel)
theorem uz_Jx35411 : ∀ w ∈ u_ws RJx35411 TJx35411 4, w ∈ zx_G := zx_us [1683, 1685, 1687, 1689] (by decide +kernel)
set_option maxHeartbeats 4000000 in
set_option maxRecDepth 100000 in
theorem c_X8_isWithin_0_0_9 (l : Launch) (hst : l.stackTraces = false) (D : va_G) (cy : Nat → ClassId) (ed sz : Nat) : Met l yX8_isWithin wzX8_isWithin ({ frames := 0, cells := 0, slots := 0, locals := 0 }) (zx_Pc D cy ed sz [.int 0, .int 0, .int 9] []) (va_Qi (fun (r9 : Int32) (u9 : Unit) => r9 = 1) (fun (u9 : Unit) (t9 : State) => zx_At D cy (va_A [] sz) [] t9) (va_A [] sz)) 0 0 (va_A [] sz) := by
  refine Met.ofW (cc := cX8_isWithin) (maxL := 3) (ret := (some .boolean)) (by decide) rfl ?_
  intro p e s m args below meth c s₁ B hml hv
  obtain ⟨rfl, hsz, hP, hK, hD0, hZ, hN⟩ := hv
  have hx := B.exec
  have hb := B.bytes
  have hr := B.returns
  have hts := atoms_spec (ws := wzX8_isWithin) B.pre
  have hown : s.vm.findClass RX8 = some m.cls := findClass_of_methodNamed B.named
  have hlocks := B.notSynchronized
  subst hsz
  have hD := hD0.self (sz := s.heap.size)
  generalize hAe : va_A [] s.heap.size = A at hD hZ ⊢
  have hA : ∀ q : Nat, s.heap.size ≤ q → A q := fun q h => by rw [← hAe]; exact Or.inr h
  have hS : va_S A s.heap s.heap [] := va_S.rf
  have hP : va_P D vwCl [] s.heap := hP
  have hl := lv_entry ([.int 0, .int 0, .int 9]) (n := 3) (Nat.le_of_ble_eq_true rfl)
  rw [lg_entry_eq]
  generalize (lg_sl ([.int 0, .int 0, .int 9]) ++ List.replicate (3 - (lg_sl ([.int 0, .int 0, .int 9])).length) Slot.unset).toArray = ls at hl ⊢
  have hl : lv_has ls 3 [(0, .int 0), (1, .int 0), (2, .int 9)] := hl
  refine lv_iload_n hx hb dX8_isWithin_0 rfl (lv_at hl 0 rfl) ?_
  refine lv_iload_n hx hb dX8_isWithin_1 rfl (lv_at hl 1 rfl) ?_
  refine lv_icmp_lt (tgt := 14) hx hb dX8_isWithin_2 (by decide) (fun c_142 => absurd c_142 (by decide)) (fun _ => ?_)
  refine lv_iload_n hx hb dX8_isWithin_5 rfl (lv_at hl 0 rfl) ?_
  refine lv_iload_n hx hb dX8_isWithin_6 rfl (lv_at hl 2 rfl) ?_
  refine lv_icmp_gt (tgt := 14) hx hb dX8_isWithin_7 (by decide) (fun c_143 => absurd c_143 (by decide)) (fun _ => ?_)
  refine lv_iconst (v := 1) hx hb dX8_isWithin_10 (by decide) ?_
  refine lv_goto (tgt := 15) hx hb dX8_isWithin_11 (by decide) ?_
  have hP9 := hP.sub (ws' := []) [] rfl
  have hD9 := hD.sub (ws' := []) [] (by decide) rfl
  exact W.zret (v := 1) hx hb hr rfl (fun t ht hW => ⟨⟨1, (), rfl, rfl, zx_fin hP9 hD9 hK ht hW⟩, hS.F ht⟩) hS.2.2 dX8_isWithin_15
set_option maxHeartbeats 4000000 in
set_option maxRecDepth 100000 in
theorem c_X8_isWithin_0_0_1048575 (l : Launch) (hst : l.stackTraces = false) (D : va_G) (cy : Nat → ClassId) (ed sz : Nat) : Met l yX8_isWithin wzX8_isWithin ({ frames := 0, cells := 0, slots := 0, locals := 0 }) (zx_Pc D cy ed sz [.int 0, .int 0, .int 1048575] []) (va_Qi (fun (r9 : Int32) (u9 : Unit) => r9 = 1) (fun (u9 : Unit) (t9 : State) => zx_At D cy (va_A [] sz) [] t9) (va_A [] sz)) 0 0 (va_A [] sz) := by
  refine Met.ofW (cc := cX8_isWithin) (maxL := 3) (ret := (some .boolean)) (by decide) rfl ?_
  intro p e s m args below meth c s₁ B hml hv
  obtain ⟨rfl, hsz, hP, hK, hD0, hZ, hN⟩ := hv
  have hx := B.exec
  have hb := B.bytes
  have hr := B.returns
  have hts := atoms_spec (ws := wzX8_isWithin) B.pre
  have hown : s.vm.findClass RX8 = some m.cls := findClass_of_methodNamed B.named
  have hlocks := B.notSynchronized
  subst hsz
  have hD := hD0.self (sz := s.heap.size)
  generalize hAe : va_A [] s.heap.size = A at hD hZ ⊢
  have hA : ∀ q : Nat, s.heap.size ≤ q → A q := fun q h => by rw [← hAe]; exact Or.inr h
  have hS : va_S A s.heap s.heap [] := va_S.rf
  have hP : va_P D vwCl [] s.heap := hP
  have hl := lv_entry ([.int 0, .int 0, .int 1048575]) (n := 3) (Nat.le_of_ble_eq_true rfl)
  rw [lg_entry_eq]
  generalize (lg_sl ([.int 0, .int 0, .int 1048575]) ++ List.replicate (3 - (lg_sl ([.int 0, .int 0, .int 1048575])).length) Slot.unset).toArray = ls at hl ⊢
  have hl : lv_has ls 3 [(0, .int 0), (1, .int 0), (2, .int 1048575)] := hl
  refine lv_iload_n hx hb dX8_isWithin_0 rfl (lv_at hl 0 rfl) ?_
  refine lv_iload_n hx hb dX8_isWithin_1 rfl (lv_at hl 1 rfl) ?_
  refine lv_icmp_lt (tgt := 14) hx hb dX8_isWithin_2 (by decide) (fun c_144 => absurd c_144 (by decide)) (fun _ => ?_)
  refine lv_iload_n hx hb dX8_isWithin_5 rfl (lv_at hl 0 rfl) ?_
  refine lv_iload_n hx hb dX8_isWithin_6 rfl (lv_at hl 2 rfl) ?_
  refine lv_icmp_gt (tgt := 14) hx hb dX8_isWithin_7 (by decide) (fun c_145 => absurd c_145 (by decide)) (fun _ => ?_)
  refine lv_iconst (v := 1) hx hb dX8_isWithin_10 (by decide) ?_
  refine lv_goto (tgt := 15) hx hb dX8_isWithin_11 (by decide) ?_
  have hP9 := hP.sub (ws' := []) [] rfl
  have hD9 := hD.sub (ws' := []) [] (by decide) rfl
  exact W.zret (v := 1) hx hb hr rfl (fun t ht hW => ⟨⟨1, (), rfl, rfl, zx_fin hP9 hD9 hK ht hW⟩, hS.F ht⟩) hS.2.2 dX8_isWithin_15
set_option maxHeartbeats 4000000 in
set_option maxRecDepth 100000 in
theorem c_X15_in_0_0_9 (l : Launch) (hst : l.stackTraces = false) (D : va_G) (cy : Nat → ClassId) (ed sz : Nat) : Met l yX15_in wzX15_in ({ frames := 0, cells := 0, slots := 0, locals := 0 }) (zx_Pc D cy ed sz [.int 0, .int 0, .int 9] []) (va_Qi (fun (r9 : Int32) (u9 : Unit) => r9 = 1) (fun (u9 : Unit) (t9 : State) => zx_At D cy (va_A [] sz) [] t9) (va_A [] sz)) 0 0 (va_A [] sz) := by
  refine Met.ofW (cc := cX15_in) (maxL := 3) (ret := (some .boolean)) (by decide) rfl ?_
  intro p e s m args below meth c s₁ B hml hv
  obtain ⟨rfl, hsz, hP, hK, hD0, hZ, hN⟩ := hv
  have hx := B.exec
  have hb := B.bytes
  have hr := B.returns
  have hts := atoms_spec (ws := wzX15_in) B.pre
  have hown : s.vm.findClass RX15 = some m.cls := findClass_of_methodNamed B.named
  have hlocks := B.notSynchronized
  subst hsz
  have hD := hD0.self (sz := s.heap.size)
  generalize hAe : va_A [] s.heap.size = A at hD hZ ⊢
  have hA : ∀ q : Nat, s.heap.size ≤ q → A q := fun q h => by rw [← hAe]; exact Or.inr h
  have hS : va_S A s.heap s.heap [] := va_S.rf
  have hP : va_P D vwCl [] s.heap := hP
  have hl := lv_entry ([.int 0, .int 0, .int 9]) (n := 3) (Nat.le_of_ble_eq_true rfl)
  rw [lg_entry_eq]
  generalize (lg_sl ([.int 0, .int 0, .int 9]) ++ List.replicate (3 - (lg_sl ([.int 0, .int 0, .int 9])).length) Slot.unset).toArray = ls at hl ⊢
  have hl : lv_has ls 3 [(0, .int 0), (1, .int 0), (2, .int 9)] := hl
  refine lv_iload_n hx hb dX15_in_0 rfl (lv_at hl 0 rfl) ?_
  refine lv_iload_n hx hb dX15_in_1 rfl (lv_at hl 1 rfl) ?_
  refine lv_icmp_lt (tgt := 14) hx hb dX15_in_2 (by decide) (fun c_146 => absurd c_146 (by decide)) (fun _ => ?_)
  refine lv_iload_n hx hb dX15_in_5 rfl (lv_at hl 0 rfl) ?_
  refine lv_iload_n hx hb dX15_in_6 rfl (lv_at hl 2 rfl) ?_
  refine lv_icmp_gt (tgt := 14) hx hb dX15_in_7 (by decide) (fun c_147 => absurd c_147 (by decide)) (fun _ => ?_)
  refine lv_iconst (v := 1) hx hb dX15_in_10 (by decide) ?_
  refine lv_goto (tgt := 15) hx hb dX15_in_11 (by decide) ?_
  have hP9 := hP.sub (ws' := []) [] rfl
  have hD9 := hD.sub (ws' := []) [] (by decide) rfl
  exact W.zret (v := 1) hx hb hr rfl (fun t ht hW => ⟨⟨1, (), rfl, rfl, zx_fin hP9 hD9 hK ht hW⟩, hS.F ht⟩) hS.2.2 dX15_in_15
set_option maxHeartbeats 4000000 in
set_option maxRecDepth 100000 in
theorem c_X15_in_0_0_1048575 (l : Launch) (hst : l.stackTraces = false) (D : va_G) (cy : Nat → ClassId) (ed sz : Nat) : Met l yX15_in wzX15_in ({ frames := 0, cells := 0, slots := 0, locals := 0 }) (zx_Pc D cy ed sz [.int 0, .int 0, .int 1048575] []) (va_Qi (fun (r9 : Int32) (u9 : Unit) => r9 = 1) (fun (u9 : Unit) (t9 : State) => zx_At D cy (va_A [] sz) [] t9) (va_A [] sz)) 0 0 (va_A [] sz) := by
  refine Met.ofW (cc := cX15_in) (maxL := 3) (ret := (some .boolean)) (by decide) rfl ?_
  intro p e s m args below meth c s₁ B hml hv
  obtain ⟨rfl, hsz, hP, hK, hD0, hZ, hN⟩ := hv
  have hx := B.exec
  have hb := B.bytes
  have hr := B.returns
  have hts := atoms_spec (ws := wzX15_in) B.pre
  have hown : s.vm.findClass RX15 = some m.cls := findClass_of_methodNamed B.named
  have hlocks := B.notSynchronized
  subst hsz
  have hD := hD0.self (sz := s.heap.size)
  generalize hAe : va_A [] s.heap.size = A at hD hZ ⊢
  have hA : ∀ q : Nat, s.heap.size ≤ q → A q := fun q h => by rw [← hAe]; exact Or.inr h
  have hS : va_S A s.heap s.heap [] := va_S.rf
  have hP : va_P D vwCl [] s.heap := hP
  have hl := lv_entry ([.int 0, .int 0, .int 1048575]) (n := 3) (Nat.le_of_ble_eq_true rfl)
  rw [lg_entry_eq]
  generalize (lg_sl ([.int 0, .int 0, .int 1048575]) ++ List.replicate (3 - (lg_sl ([.int 0, .int 0, .int 1048575])).length) Slot.unset).toArray = ls at hl ⊢
  have hl : lv_has ls 3 [(0, .int 0), (1, .int 0), (2, .int 1048575)] := hl
  refine lv_iload_n hx hb dX15_in_0 rfl (lv_at hl 0 rfl) ?_
  refine lv_iload_n hx hb dX15_in_1 rfl (lv_at hl 1 rfl) ?_
  refine lv_icmp_lt (tgt := 14) hx hb dX15_in_2 (by decide) (fun c_148 => absurd c_148 (by decide)) (fun _ => ?_)
  refine lv_iload_n hx hb dX15_in_5 rfl (lv_at hl 0 rfl) ?_
  refine lv_iload_n hx hb dX15_in_6 rfl (lv_at hl 2 rfl) ?_
  refine lv_icmp_gt (tgt := 14) hx hb dX15_in_7 (by decide) (fun c_149 => absurd c_149 (by decide)) (fun _ => ?_)
  refine lv_iconst (v := 1) hx hb dX15_in_10 (by decide) ?_
  refine lv_goto (tgt := 15) hx hb dX15_in_11 (by decide) ?_
  have hP9 := hP.sub (ws' := []) [] rfl
  have hD9 := hD.sub (ws' := []) [] (by decide) rfl
  exact W.zret (v := 1) hx hb hr rfl (fun t ht hW => ⟨⟨1, (), rfl, rfl, zx_fin hP9 hD9 hK ht hW⟩, hS.F ht⟩) hS.2.2 dX15_in_15
set_option maxHeartbeats 4000000 in
set_option maxRecDepth 100000 in
theorem c_X15_in_0_0_19 (l : Launch) (hst : l.stackTraces = false) (D : va_G) (cy : Nat → ClassId) (ed sz : Nat) : Met l yX15_in wzX15_in ({ frames := 0, cells := 0, slots := 0, locals := 0 }) (zx_Pc D cy ed sz [.int 0, .int 0, .int 19] []) (va_Qi (fun (r9 : Int32) (u9 : Unit) => r9 = 1) (fun (u9 : Unit) (t9 : State) => zx_At D cy (va_A [] sz) [] t9) (va_A [] sz)) 0 0 (va_A [] sz) := by
  refine Met.ofW (cc := cX15_in) (maxL := 3) (ret := (some .boolean)) (by decide) rfl ?_
  intro p e s m args below meth c s₁ B hml hv
  obtain ⟨rfl, hsz, hP, hK, hD0, hZ, hN⟩ := hv
  have hx := B.exec
  have hb := B.bytes
  have hr := B.returns
  have hts := atoms_spec (ws := wzX15_in) B.pre
  have hown : s.vm.findClass RX15 = some m.cls := findClass_of_methodNamed B.named
  have hlocks := B.notSynchronized
  subst hsz
  have hD := hD0.self (sz := s.heap.size)
  generalize hAe : va_A [] s.heap.size = A at hD hZ ⊢
  have hA : ∀ q : Nat, s.heap.size ≤ q → A q := fun q h => by rw [← hAe]; exact Or.inr h
  have hS : va_S A s.heap s.heap [] := va_S.rf
  have hP : va_P D vwCl [] s.heap := hP
  have hl := lv_entry ([.int 0, .int 0, .int 19]) (n := 3) (Nat.le_of_ble_eq_true rfl)
  rw [lg_entry_eq]
  generalize (lg_sl ([.int 0, .int 0, .int 19]) ++ List.replicate (3 - (lg_sl ([.int 0, .int 0, .int 19])).length) Slot.unset).toArray = ls at hl ⊢
  have hl : lv_has ls 3 [(0, .int 0), (1, .int 0), (2, .int 19)] := hl
  refine lv_iload_n hx hb dX15_in_0 rfl (lv_at hl 0 rfl) ?_
  refine lv_iload_n hx hb dX15_in_1 rfl (lv_at hl 1 rfl) ?_
  refine lv_icmp_lt (tgt := 14) hx hb dX15_in_2 (by decide) (fun c_150 => absurd c_150 (by decide)) (fun _ => ?_)
  refine lv_iload_n hx hb dX15_in_5 rfl (lv_at hl 0 rfl) ?_
  refine lv_iload_n hx hb dX15_in_6 rfl (lv_at hl 2 rfl) ?_
  refine lv_icmp_gt (tgt := 14) hx hb dX15_in_7 (by decide) (fun c_151 => absurd c_151 (by decide)) (fun _ => ?_)
  refine lv_iconst (v := 1) hx hb dX15_in_10 (by decide) ?_
  refine lv_goto (tgt := 15) hx hb dX15_in_11 (by decide) ?_
  have hP9 := hP.sub (ws' := []) [] rfl
  have hD9 := hD.sub (ws' := []) [] (by decide) rfl
  exact W.zret (v := 1) hx hb hr rfl (fun t ht hW => ⟨⟨1, (), rfl, rfl, zx_fin hP9 hD9 hK ht hW⟩, hS.F ht⟩) hS.2.2 dX15_in_15
set_option maxHeartbeats 4000000 in
set_option maxRecDepth 100000 in
theorem c_X15_in_0_0_7 (l : Launch) (hst : l.stackTraces = false) (D : va_G) (cy : Nat → ClassId) (ed sz : Nat) : Met l yX15_in wzX15_in ({ frames := 0, cells := 0, slots := 0, locals := 0 }) (zx_Pc D cy ed sz [.int 0, .int 0, .int 7] []) (va_Qi (fun (r9 : Int32) (u9 : Unit) => r9 = 1) (fun (u9 : Unit) (t9 : State) => zx_At D cy (va_A [] sz) [] t9) (va_A [] sz)) 0 0 (va_A [] sz) := by
  refine Met.ofW (cc := cX15_in) (maxL := 3) (ret := (some .boolean)) (by decide) rfl ?_
  intro p e s m args below meth c s₁ B hml hv
  obtain ⟨rfl, hsz, hP, hK, hD0, hZ, hN⟩ := hv
  have hx := B.exec
  have hb := B.bytes
  have hr := B.returns
  have hts := atoms_spec (ws := wzX15_in) B.pre
  have hown : s.vm.findClass RX15 = some m.cls := findClass_of_methodNamed B.named
  have hlocks := B.notSynchronized
  subst hsz
  have hD := hD0.self (sz := s.heap.size)
  generalize hAe : va_A [] s.heap.size = A at hD hZ ⊢
  have hA : ∀ q : Nat, s.heap.size ≤ q → A q := fun q h => by rw [← hAe]; exact Or.inr h
  have hS : va_S A s.heap s.heap [] := va_S.rf
  have hP : va_P D vwCl [] s.heap := hP
  have hl := lv_entry ([.int 0, .int 0, .int 7]) (n := 3) (Nat.le_of_ble_eq_true rfl)
  rw [lg_entry_eq]
  generalize (lg_sl ([.int 0, .int 0, .int 7]) ++ List.replicate (3 - (lg_sl ([.int 0, .int 0, .int 7])).length) Slot.unset).toArray = ls at hl ⊢
  have hl : lv_has ls 3 [(0, .int 0), (1, .int 0), (2, .int 7)] := hl
  refine lv_iload_n hx hb dX15_in_0 rfl (lv_at hl 0 rfl) ?_
  refine lv_iload_n hx hb dX15_in_1 rfl (lv_at hl 1 rfl) ?_
  refine lv_icmp_lt (tgt := 14) hx hb dX15_in_2 (by decide) (fun c_152 => absurd c_152 (by decide)) (fun _ => ?_)
  refine lv_iload_n hx hb dX15_in_5 rfl (lv_at hl 0 rfl) ?_
  refine lv_iload_n hx hb dX15_in_6 rfl (lv_at hl 2 rfl) ?_
  refine lv_icmp_gt (tgt := 14) hx hb dX15_in_7 (by decide) (fun c_153 => absurd c_153 (by decide)) (fun _ => ?_)
  refine lv_iconst (v := 1) hx hb dX15_in_10 (by decide) ?_
  refine lv_goto (tgt := 15) hx hb dX15_in_11 (by decide) ?_
  have hP9 := hP.sub (ws' := []) [] rfl
  have hD9 := hD.sub (ws' := []) [] (by decide) rfl
  exact W.zret (v := 1) hx hb hr rfl (fun t ht hW => ⟨⟨1, (), rfl, rfl, zx_fin hP9 hD9 hK ht hW⟩, hS.F ht⟩) hS.2.2 dX15_in_15
set_option maxHeartbeats 4000000 in
set_option maxRecDepth 100000 in
theorem c_Itr_init (l : Launch) (hst : l.stackTraces = false) (D : va_G) (cy : Nat → ClassId) (ed sz : Nat) (it : Nat) (pa : Nat) (el : Nat) (mc : Int32) (n : Int32) (cu : Int32) (lr : Int32) (xm : Int32) : Met l yJx35411_init_45d68 wzJx35411_init_45d68 ({ frames := 1, cells := 0, slots := 0, locals := 12 }) (zx_Pc D cy ed sz [.ref it, .ref pa] [(it, .inr (3, [.int cu, .int lr, .int xm, .null])), (pa, .inr (4, [.int mc, .ref el, .int n]))]) (va_Qv (fun (u9 : Unit) => True) (fun (u9 : Unit) (t9 : State) => zx_At D cy (va_A [(it, .inr (3, [.int cu, .int lr, .int xm, .null])), (pa, .inr (4, [.int mc, .ref el, .int n]))] sz) [(it, .inr (3, [.int cu, .int (-1), .int mc, .ref pa])), (pa, .inr (4, [.int mc, .ref el, .int n]))] t9) (va_A [(it, .inr (3, [.int cu, .int lr, .int xm, .null])), (pa, .inr (4, [.int mc, .ref el, .int n]))] sz)) 0 0 (va_A [(it, .inr (3, [.int cu, .int lr, .int xm, .null])), (pa, .inr (4, [.int mc, .ref el, .int n]))] sz) := by
  refine Met.ofW (cc := cJx35411_init_45d68) (maxL := 2) (ret := none) (by decide) rfl ?_
  intro p e s m args below meth c s₁ B hml hv
  obtain ⟨rfl, hsz, hP, hK, hD0, hZ, hN⟩ := hv
  have hx := B.exec
  have hb := B.bytes
  have hr := B.returns
  have hts := atoms_spec (ws := wzJx35411_init_45d68) B.pre
  have hown : s.vm.findClass RJx35411 = some m.cls := findClass_of_methodNamed B.named
  have hlocks := B.notSynchronized
  have hin : meth.name = "<init>" := (name_of_methodNamed B.named B.method).1
  subst hsz
  have hD := hD0.self (sz := s.heap.size)
  generalize hAe : va_A [(it, .inr (3, [.int cu, .int lr, .int xm, .null])), (pa, .inr (4, [.int mc, .ref el, .int n]))] s.heap.size = A at hD hZ ⊢
  have hA : ∀ q : Nat, s.heap.size ≤ q → A q := fun q h => by rw [← hAe]; exact Or.inr h
  have hS : va_S A s.heap s.heap [] := va_S.rf
  have hP : va_P D vwCl [(it, .inr (3, [.int cu, .int lr, .int xm, .null])), (pa, .inr (4, [.int mc, .ref el, .int n]))] s.heap := hP
  have hl := lv_entry ([.ref it, .ref pa]) (n := 2) (Nat.le_of_ble_eq_true rfl)
  rw [lg_entry_eq]
  generalize (lg_sl ([.ref it, .ref pa]) ++ List.replicate (2 - (lg_sl ([.ref it, .ref pa])).length) Slot.unset).toArray = ls at hl ⊢
  have hl : lv_has ls 2 [(0, .ref it), (1, .ref pa)] := hl
  refine lv_aload_n hx hb dJx35411_init_45d68_0 rfl (lv_at hl 0 rfl) ?_
  refine lv_aload_n hx hb dJx35411_init_45d68_1 rfl (lv_at hl 1 rfl) ?_
  refine va_putF (D := D) (ci := 3) (v := .ref pa) (ty := .object "java/util/ArrayList") (C := RJx35411) (T := TJx35411) (N := 4) hx hb hts (fun w h => zx_Gc (uz_Jx35411 w h)) tyJx35411 tyJx35411_ok nmJx35411 hown hK hP hD hS 0 rfl rfl 3 (by decide) (hts (.fieldLink RJx35411 1 "java/util/ArrayList$Itr" "this$0" "Ljava/util/ArrayList;") (zx_Gc mm_1682)) (fun _ h9 => h9) rfl hin rfl (by decide +kernel) rfl rfl (Nat.le_of_ble_eq_true rfl) dJx35411_init_45d68_2 (fun H locs hP hD hS => ?_)
  have hP : va_P D vwCl [(it, .inr (3, [.int cu, .int lr, .int xm, .ref pa])), (pa, .inr (4, [.int mc, .ref el, .int n]))] H := hP
  have hD : va_D A [(it, .inr (3, [.int cu, .int lr, .int xm, .ref pa])), (pa, .inr (4, [.int mc, .ref el, .int n]))] := hD
  refine lv_aload_n hx hb dJx35411_init_45d68_5 rfl (lv_at hl 0 rfl) ?_
  refine W.objInit hx hb hown (hts (.methodLink RJx35411 7 objectInit) (zx_Gc mm_1678)) (hts (.instanceMethod objectInit) (zx_Gc mm_119)) (hts (.code objectInit ⟨#[0xb1]⟩ 1 none) (zx_Gc mm_120)) rfl (by rw [hml]; exact hl.1) rfl dJx35411_init_45d68_6 (Nat.le_of_ble_eq_true rfl) (Nat.le_of_ble_eq_true rfl) ?_
  refine W.eq (g2 := F0 m 9 ls []) rfl ?_
  refine lv_aload_n hx hb dJx35411_init_45d68_9 rfl (lv_at hl 0 rfl) ?_
  refine lv_iconst (v := (-1)) hx hb dJx35411_init_45d68_10 (by decide) ?_
  refine va_put (D := D) (ci := 3) (v := .int (-1)) (ty := .int) (C := RJx35411) (T := TJx35411) (N := 4) hx hb hts (fun w h => zx_Gc (uz_Jx35411 w h)) tyJx35411 tyJx35411_ok nmJx35411 hown hK hP hD hS 0 rfl rfl 1 (by decide) (hts (.fieldLink RJx35411 13 "java/util/ArrayList$Itr" "lastRet" "I") (zx_Gc mm_1680)) (fun _ h9 => h9) rfl (by decide +kernel) rfl rfl (Nat.le_of_ble_eq_true rfl) dJx35411_init_45d68_11 (fun H locs hP hD hS => ?_)
  have hP : va_P D vwCl [(it, .inr (3, [.int cu, .int (-1), .int xm, .ref pa])), (pa, .inr (4, [.int mc, .ref el, .int n]))] H := hP
  have hD : va_D A [(it, .inr (3, [.int cu, .int (-1), .int xm, .ref pa])), (pa, .inr (4, [.int mc, .ref el, .int n]))] := hD
  refine lv_aload_n hx hb dJx35411_init_45d68_14 rfl (lv_at hl 0 rfl) ?_
  refine lv_aload_n hx hb dJx35411_init_45d68_15 rfl (lv_at hl 0 rfl) ?_
  refine va_get (D := D) (ci := 3) (v := .ref pa) (C := RJx35411) (T := TJx35411) (N := 4) hx hb hts (fun w h => zx_Gc (uz_Jx35411 w h)) hown hK hP 0 rfl rfl 3 (by decide) (hts (.fieldLink RJx35411 1 "java/util/ArrayList$Itr" "this$0" "Ljava/util/ArrayList;") (zx_Gc mm_1682)) (fun _ h9 => h9) rfl dJx35411_init_45d68_16 ?_
  refine va_get (D := D) (ci := 4) (v := .int mc) (C := RJx4a65c) (T := TJx4a65c) (N := 3) hx hb hts (fun w h => zx_Gc (uz_Jx4a65c w h)) hown hK hP 1 rfl rfl 0 (by decide) (hts (.fieldLink RJx35411 17 "java/util/ArrayList" "modCount" "I") (zx_Gc mm_218)) (fun x9 h9 => u_same (hts (.sameField "java/util/ArrayList" "java/util/AbstractList" "modCount" "I") (zx_Gc mm_219)) x9 h9) rfl dJx35411_init_45d68_19 ?_
  refine va_put (D := D) (ci := 3) (v := .int mc) (ty := .int) (C := RJx35411) (T := TJx35411) (N := 4) hx hb hts (fun w h => zx_Gc (uz_Jx35411 w h)) tyJx35411 tyJx35411_ok nmJx35411 hown hK hP hD hS 0 rfl rfl 2 (by decide) (hts (.fieldLink RJx35411 22 "java/util/ArrayList$Itr" "expectedModCount" "I") (zx_Gc mm_1681)) (fun _ h9 => h9) rfl (by decide +kernel) rfl rfl (Nat.le_of_ble_eq_true rfl) dJx35411_init_45d68_22 (fun H locs hP hD hS => ?_)
  have hP : va_P D vwCl [(it, .inr (3, [.int cu, .int (-1), .int mc, .ref pa])), (pa, .inr (4, [.int mc, .ref el, .int n]))] H := hP
  have hD : va_D A [(it, .inr (3, [.int cu, .int (-1), .int mc, .ref pa])), (pa, .inr (4, [.int mc, .ref el, .int n]))] := hD
  have hP9 := hP.sub (ws' := [(it, .inr (3, [.int cu, .int (-1), .int mc, .ref pa])), (pa, .inr (4, [.int mc, .ref el, .int n]))]) [0, 1] rfl
  have hD9 := hD.sub (ws' := [(it, .inr (3, [.int cu, .int (-1), .int mc, .ref pa])), (pa, .inr (4, [.int mc, .ref el, .int n]))]) [0, 1] (by decide) rfl
  exact W.vret hx hb hr (fun t ht hW => ⟨⟨(), rfl, trivial, zx_fin hP9 hD9 hK ht hW⟩, hS.F ht⟩) hS.2.2 dJx35411_init_45d68_25
set_option maxHeartbeats 4000000 in
set_option maxRecDepth 100000 in
theorem c_AL_iterator (l : Launch) (hst : l.stackTraces = false) (D : va_G) (cy : Nat → ClassId) (ed sz : Nat) (pa : Nat) (el : Nat) (mc : Int32) (n : Int32) : Met l yJx4a65c_iterator_32c93 wzJx4a65c_iterator_32c93 ({ frames := 2, cells := 1, slots := 4, locals := 33 }) (zx_Pc D cy ed sz [.ref pa] [(pa, .inr (4, [.int mc, .ref el, .int n]))]) (va_Qr (fun (u9 : Unit) => True) (fun (u9 : Unit) (ra : Nat) (t9 : State) => (zx_At D cy (va_A [(pa, .inr (4, [.int mc, .ref el, .int n]))] sz) [(ra, .inr (3, [.int 0, .int (-1), .int mc, .ref pa])), (pa, .inr (4, [.int mc, .ref el, .int n]))] t9 ∧ sz + 1 ≤ t9.heap.size)) (va_A [(pa, .inr (4, [.int mc, .ref el, .int n]))] sz)) 1 4 (va_A [(pa, .inr (4, [.int mc, .ref el, .int n]))] sz) := by
  refine Met.ofW (cc := cJx4a65c_iterator_32c93) (maxL := 1) (ret := (some (.object "java/util/Iterator"))) (by decide) rfl ?_
  intro p e s m args below meth c s₁ B hml hv
  obtain ⟨rfl, hsz, hP, hK, hD0, hZ, hN⟩ := hv
  have hx := B.exec
  have hb := B.bytes
  have hr := B.returns
  have hts := atoms_spec (ws := wzJx4a65c_iterator_32c93) B.pre
  have hown : s.vm.findClass RJx4a65c = some m.cls := findClass_of_methodNamed B.named
  have hlocks := B.notSynchronized
  subst hsz
  have hD := hD0.self (sz := s.heap.size)
  generalize hAe : va_A [(pa, .inr (4, [.int mc, .ref el, .int n]))] s.heap.size = A at hD hZ ⊢
  have hA : ∀ q : Nat, s.heap.size ≤ q → A q := fun q h => by rw [← hAe]; exact Or.inr h
  have hS : va_S A s.heap s.heap [] := va_S.rf
  have hP : va_P D vwCl [(pa, .inr (4, [.int mc, .ref el, .int n]))] s.heap := hP
  have hl := lv_entry ([.ref pa]) (n := 1) (Nat.le_of_ble_eq_true rfl)
  rw [lg_entry_eq]
  generalize (lg_sl ([.ref pa]) ++ List.replicate (1 - (lg_sl ([.ref pa])).length) Slot.unset).toArray = ls at hl ⊢
  have hl : lv_has ls 1 [(0, .ref pa)] := hl
  refine va_new (ci := 3) (fs := [.int 0, .int 0, .int 0, .null]) (C := RJx35411) (T := TJx35411) (N := 4) hx hb hts (fun w h => zx_Gc (uz_Jx35411 w h)) tyJx35411 tyJx35411_ok hown (hts (.classLink RJx4a65c 267 RJx35411) (zx_Gc mm_1673)) (hts (.instantiable RJx35411 4) (zx_Gc mm_1674)) (hts (.initialized RJx35411) (zx_Gc mm_93)) hK hP hD hS hA rfl (fun j hj => by rcases (show j = 0 ∨ j = 1 ∨ j = 2 ∨ j = 3 by omega) with rfl | rfl | rfl | rfl <;> rfl) (Nat.le_of_ble_eq_true rfl) (Nat.le_of_ble_eq_true rfl) dJx4a65c_iterator_32c93_0 (fun q_154 H hP hD hS => ?_)
  have hP : va_P D vwCl [(pa, .inr (4, [.int mc, .ref el, .int n])), (q_154, .inr (3, [.int 0, .int 0, .int 0, .null]))] H := hP
  have hD : va_D A [(pa, .inr (4, [.int mc, .ref el, .int n])), (q_154, .inr (3, [.int 0, .int 0, .int 0, .null]))] := hD
  refine W.widen (k := 1) (n := 4) (Nat.le_of_ble_eq_true rfl) (Nat.le_of_ble_eq_true rfl) ?_
  refine lv_dup hx hb dJx4a65c_iterator_32c93_3 rfl ?_
  refine lv_aload_n hx hb dJx4a65c_iterator_32c93_4 rfl (lv_at hl 0 rfl) ?_
  have hPc := hP.sub (ws' := [(q_154, .inr (3, [.int 0, .int 0, .int 0, .null])), (pa, .inr (4, [.int mc, .ref el, .int n]))]) [1, 0] rfl
  have hDc := hD.sub (ws' := [(q_154, .inr (3, [.int 0, .int 0, .int 0, .null])), (pa, .inr (4, [.int mc, .ref el, .int n]))]) [1, 0] (by decide) rfl
  have hFc := va_free (wc := [(q_154, .inr (3, [.int 0, .int 0, .int 0, .null])), (pa, .inr (4, [.int mc, .ref el, .int n]))]) hD hS hA [1, 0] rfl
  refine va_callv (va_runI (As := [.ref pa]) (rest := [.ref q_154]) ⟨hx, hb, hml, hown, hts⟩ (c_Itr_init l hst D cy ed H.size q_154 pa el mc n 0 0 0) (cwI 1 hts (zx_GI mm_1677) rfl rfl rfl (hts (.initialized RJx35411) (zx_Gc mm_93)) (hts (.methodLink RJx4a65c 269 yJx35411_init_45d68) (zx_Gc mm_1675)) (hts (.instanceMethod yJx35411_init_45d68) (zx_Gc mm_1676)) rfl (by decide +kernel) ⟨(Nat.le_of_ble_eq_true rfl), (Nat.le_of_ble_eq_true rfl)⟩) ⟨zx_blind, zx_give hPc hK hDc hS hFc hZ hN⟩ rfl rfl hl.1 rfl (lv_room (Nat.le_of_ble_eq_true rfl)) dJx4a65c_iterator_32c93_5 ⟨(Nat.le_of_ble_eq_true rfl), (Nat.le_of_ble_eq_true rfl)⟩) hS (fun q _ h => hFc q h) hFc (fun u t H1 locs ht hvm hw hB hz1 hk1 hS => ?_)
  obtain ⟨hP, hD⟩ := zx_join (wr := []) (w1 := [(q_154, .inr (3, [.int 0, .int (-1), .int mc, .ref pa])), (pa, .inr (4, [.int mc, .ref el, .int n]))]) [1, 0] [] rfl rfl (by decide) (by decide) hP hD hk1 hFc hB ht
  generalize H1 = H at hP hS ⊢
  have hP : va_P D vwCl [(q_154, .inr (3, [.int 0, .int (-1), .int mc, .ref pa])), (pa, .inr (4, [.int mc, .ref el, .int n]))] H := hP
  have hD : va_D A [(q_154, .inr (3, [.int 0, .int (-1), .int mc, .ref pa])), (pa, .inr (4, [.int mc, .ref el, .int n]))] := hD
  refine W.widen (k := 1) (n := 4) (Nat.le_of_ble_eq_true rfl) (Nat.le_of_ble_eq_true rfl) ?_
  have hP9 := hP.sub (ws' := [(q_154, .inr (3, [.int 0, .int (-1), .int mc, .ref pa])), (pa, .inr (4, [.int mc, .ref el, .int n]))]) [0, 1] rfl
  have hD9 := hD.sub (ws' := [(q_154, .inr (3, [.int 0, .int (-1), .int mc, .ref pa])), (pa, .inr (4, [.int mc, .ref el, .int n]))]) [0, 1] (by decide) rfl
  exact W.aret (v := .ref q_154) hx hb hr (.inl ⟨_, rfl⟩) (.inr ⟨_, rfl⟩) (fun t ht hW => ⟨⟨(), q_154, rfl, trivial, ⟨zx_fin hP9 hD9 hK ht hW, by rw [ht]; exact zx_grown1 hAe hP9 hD9⟩⟩, hS.F ht⟩) hS.2.2 dJx4a65c_iterator_32c93_8
set_option maxHeartbeats 4000000 in
set_option maxRecDepth 100000 in
theorem c_Itr_hasNext_0 (l : Launch) (hst : l.stackTraces = false) (D : va_G) (cy : Nat → ClassId) (ed sz : Nat) (it : Nat) (pa : Nat) (el : Nat) (mc : Int32) : Met l yJx35411_hasNext_aae02 wzJx35411_hasNext_aae02 ({ frames := 0, cells := 0, slots := 0, locals := 0 }) (zx_Pc D cy ed sz [.ref it] [(it, .inr (3, [.int 0, .int (-1), .int mc, .ref pa])), (pa, .inr (4, [.int mc, .ref el, .int 0]))]) (va_Qi (fun (r9 : Int32) (u9 : Unit) => r9 = 0) (fun (u9 : Unit) (t9 : State) => zx_At D cy (va_A [(it, .inr (3, [.int 0, .int (-1), .int mc, .ref pa])), (pa, .inr (4, [.int mc, .ref el, .int 0]))] sz) [(it, .inr (3, [.int 0, .int (-1), .int mc, .ref pa])), (pa, .inr (4, [.int mc, .ref el, .int 0]))] t9) (va_A [(it, .inr (3, [.int 0, .int (-1), .int mc, .ref pa])), (pa, .inr (4, [.int mc, .ref el, .int 0]))] sz)) 0 0 (va_A [(it, .inr (3, [.int 0, .int (-1), .int mc, .ref pa])), (pa, .inr (4, [.int mc, .ref el, .int 0]))] sz) := by
  refine Met.ofW (cc := cJx35411_hasNext_aae02) (maxL := 1) (ret := (some .boolean)) (by decide) rfl ?_
  intro p e s m args below meth c s₁ B hml hv
  obtain ⟨rfl, hsz, hP, hK, hD0, hZ, hN⟩ := hv
  have hx := B.exec
  have hb := B.bytes
  have hr := B.returns
  have hts := atoms_spec (ws := wzJx35411_hasNext_aae02) B.pre
  have hown : s.vm.findClass RJx35411 = some m.cls := findClass_of_methodNamed B.named
  have hlocks := B.notSynchronized
  subst hsz
  have hD := hD0.self (sz := s.heap.size)
  generalize hAe : va_A [(it, .inr (3, [.int 0, .int (-1), .int mc, .ref pa])), (pa, .inr (4, [.int mc, .ref el, .int 0]))] s.heap.size = A at hD hZ ⊢
  have hA : ∀ q : Nat, s.heap.size ≤ q → A q := fun q h => by rw [← hAe]; exact Or.inr h
  have hS : va_S A s.heap s.heap [] := va_S.rf
  have hP : va_P D vwCl [(it, .inr (3, [.int 0, .int (-1), .int mc, .ref pa])), (pa, .inr (4, [.int mc, .ref el, .int 0]))] s.heap := hP
  have hl := lv_entry ([.ref it]) (n := 1) (Nat.le_of_ble_eq_true rfl)
  rw [lg_entry_eq]
  generalize (lg_sl ([.ref it]) ++ List.replicate (1 - (lg_sl ([.ref it])).length) Slot.unset).toArray = ls at hl ⊢
  have hl : lv_has ls 1 [(0, .ref it)] := hl
  refine lv_aload_n hx hb dJx35411_hasNext_aae02_0 rfl (lv_at hl 0 rfl) ?_
  refine va_get (D := D) (ci := 3) (v := .int 0) (C := RJx35411) (T := TJx35411) (N := 4) hx hb hts (fun w h => zx_Gc (uz_Jx35411 w h)) hown hK hP 0 rfl rfl 0 (by decide) (hts (.fieldLink RJx35411 25 "java/util/ArrayList$Itr" "cursor" "I") (zx_Gc mm_1679)) (fun _ h9 => h9) rfl dJx35411_hasNext_aae02_1 ?_
  refine lv_aload_n hx hb dJx35411_hasNext_aae02_4 rfl (lv_at hl 0 rfl) ?_
  refine va_get (D := D) (ci := 3) (v := .ref pa) (C := RJx35411) (T := TJx35411) (N := 4) hx hb hts (fun w h => zx_Gc (uz_Jx35411 w h)) hown hK hP 0 rfl rfl 3 (by decide) (hts (.fieldLink RJx35411 1 "java/util/ArrayList$Itr" "this$0" "Ljava/util/ArrayList;") (zx_Gc mm_1682)) (fun _ h9 => h9) rfl dJx35411_hasNext_aae02_5 ?_
  refine va_getN (host := "java/util/ArrayList") (ref := "java/util/ArrayList") (D := D) (ci := 4) (v := .int 0) (C := RJx4a65c) (T := TJx4a65c) (N := 3) hx hb hts (fun w h => zx_Gc (uz_Jx4a65c w h)) hown hK hP 1 rfl rfl 2 (by decide) (va_Nw.use rfl (hN.1 _ _ _ _ _ _ (List.mem_of_getElem? (i := 215) (by decide +kernel)))) (fun _ h9 => h9) rfl dJx35411_hasNext_aae02_8 ?_
  refine lv_icmp_eq (tgt := 18) hx hb dJx35411_hasNext_aae02_11 (by decide) (fun _ => ?_) (fun c_155 => absurd (by decide) c_155)
  refine lv_iconst (v := 0) hx hb dJx35411_hasNext_aae02_18 (by decide) ?_
  have hP9 := hP.sub (ws' := [(it, .inr (3, [.int 0, .int (-1), .int mc, .ref pa])), (pa, .inr (4, [.int mc, .ref el, .int 0]))]) [0, 1] rfl
  have hD9 := hD.sub (ws' := [(it, .inr (3, [.int 0, .int (-1), .int mc, .ref pa])), (pa, .inr (4, [.int mc, .ref el, .int 0]))]) [0, 1] (by decide) rfl
  exact W.zret (v := 0) hx hb hr rfl (fun t ht hW => ⟨⟨0, (), rfl, rfl, zx_fin hP9 hD9 hK ht hW⟩, hS.F ht⟩) hS.2.2 dJx35411_hasNext_aae02_19
set_option maxHeartbeats 4000000 in
set_option maxRecDepth 100000 in
theorem c_Itr_hasNext_0_6 (l : Launch) (hst : l.stackTraces = false) (D : va_G) (cy : Nat → ClassId) (ed sz : Nat) (it : Nat) (pa : Nat) (el : Nat) (mc : Int32) : Met l yJx35411_hasNext_aae02 wzJx35411_hasNext_aae02 ({ frames := 0, cells := 0, slots := 0, locals := 0 }) (zx_Pc D cy ed sz [.ref it] [(it, .inr (3, [.int 0, .int (-1), .int mc, .ref pa])), (pa, .inr (4, [.int mc, .ref el, .int 6]))]) (va_Qi (fun (r9 : Int32) (u9 : Unit) => r9 = 1) (fun (u9 : Unit) (t9 : State) => zx_At D cy (va_A [(it, .inr (3, [.int 0, .int (-1), .int mc, .ref pa])), (pa, .inr (4, [.int mc, .ref el, .int 6]))] sz) [(it, .inr (3, [.int 0, .int (-1), .int mc, .ref pa])), (pa, .inr (4, [.int mc, .ref el, .int 6]))] t9) (va_A [(it, .inr (3, [.int 0, .int (-1), .int mc, .ref pa])), (pa, .inr (4, [.int mc, .ref el, .int 6]))] sz)) 0 0 (va_A [(it, .inr (3, [.int 0, .int (-1), .int mc, .ref pa])), (pa, .inr (4, [.int mc, .ref el, .int 6]))] sz) := by
  refine Met.ofW (cc := cJx35411_hasNext_aae02) (maxL := 1) (ret := (some .boolean)) (by decide) rfl ?_
  intro p e s m args below meth c s₁ B hml hv
  obtain ⟨rfl, hsz, hP, hK, hD0, hZ, hN⟩ := hv
  have hx := B.exec
  have hb := B.bytes
  have hr := B.returns
  have hts := atoms_spec (ws := wzJx35411_hasNext_aae02) B.pre
  have hown : s.vm.findClass RJx35411 = some m.cls := findClass_of_methodNamed B.named
  have hlocks := B.notSynchronized
  subst hsz
  have hD := hD0.self (sz := s.heap.size)
  generalize hAe : va_A [(it, .inr (3, [.int 0, .int (-1), .int mc, .ref pa])), (pa, .inr (4, [.int mc, .ref el, .int 6]))] s.heap.size = A at hD hZ ⊢
  have hA : ∀ q : Nat, s.heap.size ≤ q → A q := fun q h => by rw [← hAe]; exact Or.inr h
  have hS : va_S A s.heap s.heap [] := va_S.rf
  have hP : va_P D vwCl [(it, .inr (3, [.int 0, .int (-1), .int mc, .ref pa])), (pa, .inr (4, [.int mc, .ref el, .int 6]))] s.heap := hP
  have hl := lv_entry ([.ref it]) (n := 1) (Nat.le_of_ble_eq_true rfl)
  rw [lg_entry_eq]
  generalize (lg_sl ([.ref it]) ++ List.replicate (1 - (lg_sl ([.ref it])).length) Slot.unset).toArray = ls at hl ⊢
  have hl : lv_has ls 1 [(0, .ref it)] := hl
  refine lv_aload_n hx hb dJx35411_hasNext_aae02_0 rfl (lv_at hl 0 rfl) ?_
  refine va_get (D := D) (ci := 3) (v := .int 0) (C := RJx35411) (T := TJx35411) (N := 4) hx hb hts (fun w h => zx_Gc (uz_Jx35411 w h)) hown hK hP 0 rfl rfl 0 (by decide) (hts (.fieldLink RJx35411 25 "java/util/ArrayList$Itr" "cursor" "I") (zx_Gc mm_1679)) (fun _ h9 => h9) rfl dJx35411_hasNext_aae02_1 ?_
  refine lv_aload_n hx hb dJx35411_hasNext_aae02_4 rfl (lv_at hl 0 rfl) ?_
  refine va_get (D := D) (ci := 3) (v := .ref pa) (C := RJx35411) (T := TJx35411) (N := 4) hx hb hts (fun w h => zx_Gc (uz_Jx35411 w h)) hown hK hP 0 rfl rfl 3 (by decide) (hts (.fieldLink RJx35411 1 "java/util/ArrayList$Itr" "this$0" "Ljava/util/ArrayList;") (zx_Gc mm_1682)) (fun _ h9 => h9) rfl dJx35411_hasNext_aae02_5 ?_
  refine va_getN (host := "java/util/ArrayList") (ref := "java/util/ArrayList") (D := D) (ci := 4) (v := .int 6) (C := RJx4a65c) (T := TJx4a65c) (N := 3) hx hb hts (fun w h => zx_Gc (uz_Jx4a65c w h)) hown hK hP 1 rfl rfl 2 (by decide) (va_Nw.use rfl (hN.1 _ _ _ _ _ _ (List.mem_of_getElem? (i := 215) (by decide +kernel)))) (fun _ h9 => h9) rfl dJx35411_hasNext_aae02_8 ?_
  refine lv_icmp_eq (tgt := 18) hx hb dJx35411_hasNext_aae02_11 (by decide) (fun c_156 => absurd c_156 (by decide)) (fun _ => ?_)
  refine lv_iconst (v := 1) hx hb dJx35411_hasNext_aae02_14 (by decide) ?_
  refine lv_goto (tgt := 19) hx hb dJx35411_hasNext_aae02_15 (by decide) ?_
  have hP9 := hP.sub (ws' := [(it, .inr (3, [.int 0, .int (-1), .int mc, .ref pa])), (pa, .inr (4, [.int mc, .ref el, .int 6]))]) [0, 1] rfl
  have hD9 := hD.sub (ws' := [(it, .inr (3, [.int 0, .int (-1), .int mc, .ref pa])), (pa, .inr (4, [.int mc, .ref el, .int 6]))]) [0, 1] (by decide) rfl
  exact W.zret (v := 1) hx hb hr rfl (fun t ht hW => ⟨⟨1, (), rfl, rfl, zx_fin hP9 hD9 hK ht hW⟩, hS.F ht⟩) hS.2.2 dJx35411_hasNext_aae02_19
set_option maxHeartbeats 4000000 in
set_option maxRecDepth 100000 in
theorem c_Itr_hasNext_1_6 (l : Launch) (hst : l.stackTraces = false) (D : va_G) (cy : Nat → ClassId) (ed sz : Nat) (it : Nat) (pa : Nat) (el : Nat) (mc : Int32) : Met l yJx35411_hasNext_aae02 wzJx35411_hasNext_aae02 ({ frames := 0, cells := 0, slots := 0, locals := 0 }) (zx_Pc D cy ed sz [.ref it] [(it, .inr (3, [.int 1, .int 0, .int mc, .ref pa])), (pa, .inr (4, [.int mc, .ref el, .int 6]))]) (va_Qi (fun (r9 : Int32) (u9 : Unit) => r9 = 1) (fun (u9 : Unit) (t9 : State) => zx_At D cy (va_A [(it, .inr (3, [.int 1, .int 0, .int mc, .ref pa])), (pa, .inr (4, [.int mc, .ref el, .int 6]))] sz) [(it, .inr (3, [.int 1, .int 0, .int mc, .ref pa])), (pa, .inr (4, [.int mc, .ref el, .int 6]))] t9) (va_A [(it, .inr (3, [.int 1, .int 0, .int mc, .ref pa])), (pa, .inr (4, [.int mc, .ref el, .int 6]))] sz)) 0 0 (va_A [(it, .inr (3, [.int 1, .int 0, .int mc, .ref pa])), (pa, .inr (4, [.int mc, .ref el, .int 6]))] sz) := by
  refine Met.ofW (cc := cJx35411_hasNext_aae02) (maxL := 1) (ret := (some .boolean)) (by decide) rfl ?_
  intro p e s m args below meth c s₁ B hml hv
  obtain ⟨rfl, hsz, hP, hK, hD0, hZ, hN⟩ := hv
  have hx := B.exec
  have hb := B.bytes
  have hr := B.returns
  have hts := atoms_spec (ws := wzJx35411_hasNext_aae02) B.pre
  have hown : s.vm.findClass RJx35411 = some m.cls := findClass_of_methodNamed B.named
  have hlocks := B.notSynchronized
  subst hsz
  have hD := hD0.self (sz := s.heap.size)
  generalize hAe : va_A [(it, .inr (3, [.int 1, .int 0, .int mc, .ref pa])), (pa, .inr (4, [.int mc, .ref el, .int 6]))] s.heap.size = A at hD hZ ⊢
  have hA : ∀ q : Nat, s.heap.size ≤ q → A q := fun q h => by rw [← hAe]; exact Or.inr h
  have hS : va_S A s.heap s.heap [] := va_S.rf
  have hP : va_P D vwCl [(it, .inr (3, [.int 1, .int 0, .int mc, .ref pa])), (pa, .inr (4, [.int mc, .ref el, .int 6]))] s.heap := hP
  have hl := lv_entry ([.ref it]) (n := 1) (Nat.le_of_ble_eq_true rfl)
  rw [lg_entry_eq]
  generalize (lg_sl ([.ref it]) ++ List.replicate (1 - (lg_sl ([.ref it])).length) Slot.unset).toArray = ls at hl ⊢
  have hl : lv_has ls 1 [(0, .ref it)] := hl
  refine lv_aload_n hx hb dJx35411_hasNext_aae02_0 rfl (lv_at hl 0 rfl) ?_
  refine va_get (D := D) (ci := 3) (v := .int 1) (C := RJx35411) (T := TJx35411) (N := 4) hx hb hts (fun w h => zx_Gc (uz_Jx35411 w h)) hown hK hP 0 rfl rfl 0 (by decide) (hts (.fieldLink RJx35411 25 "java/util/ArrayList$Itr" "cursor" "I") (zx_Gc mm_1679)) (fun _ h9 => h9) rfl dJx35411_hasNext_aae02_1 ?_
  refine lv_aload_n hx hb dJx35411_hasNext_aae02_4 rfl (lv_at hl 0 rfl) ?_
  refine va_get (D := D) (ci := 3) (v := .ref pa) (C := RJx35411) (T := TJx35411) (N := 4) hx hb hts (fun w h => zx_Gc (uz_Jx35411 w h)) hown hK hP 0 rfl rfl 3 (by decide) (hts (.fieldLink RJx35411 1 "java/util/ArrayList$Itr" "this$0" "Ljava/util/ArrayList;") (zx_Gc mm_1682)) (fun _ h9 => h9) rfl dJx35411_hasNext_aae02_5 ?_
  refine va_getN (host := "java/util/ArrayList") (ref := "java/util/ArrayList") (D := D) (ci := 4) (v := .int 6) (C := RJx4a65c) (T := TJx4a65c) (N := 3) hx hb hts (fun w h => zx_Gc (uz_Jx4a65c w h)) hown hK hP 1 rfl rfl 2 (by decide) (va_Nw.use rfl (hN.1 _ _ _ _ _ _ (List.mem_of_getElem? (i := 215) (by decide +kernel)))) (fun _ h9 => h9) rfl dJx35411_hasNext_aae02_8 ?_
  refine lv_icmp_eq (tgt := 18) hx hb dJx35411_hasNext_aae02_11 (by decide) (fun c_157 => absurd c_157 (by decide)) (fun _ => ?_)
  refine lv_iconst (v := 1) hx hb dJx35411_hasNext_aae02_14 (by decide) ?_
  refine lv_goto (tgt := 19) hx hb dJx35411_hasNext_aae02_15 (by decide) ?_
  have hP9 := hP.sub (ws' := [(it, .inr (3, [.int 1, .int 0, .int mc, .ref pa])), (pa, .inr (4, [.int mc, .ref el, .int 6]))]) [0, 1] rfl
  have hD9 := hD.sub (ws' := [(it, .inr (3, [.int 1, .int 0, .int mc, .ref pa])), (pa, .inr (4, [.int mc, .ref el, .int 6]))]) [0, 1] (by decide) rfl
  exact W.zret (v := 1) hx hb hr rfl (fun t ht hW => ⟨⟨1, (), rfl, rfl, zx_fin hP9 hD9 hK ht hW⟩, hS.F ht⟩) hS.2.2 dJx35411_hasNext_aae02_19
set_option maxHeartbeats 4000000 in
set_option maxRecDepth 100000 in
theorem c_Itr_hasNext_2_6 (l : Launch) (hst : l.stackTraces = false) (D : va_G) (cy : Nat → ClassId) (ed sz : Nat) (it : Nat) (pa : Nat) (el : Nat) (mc : Int32) : Met l yJx35411_hasNext_aae02 wzJx35411_hasNext_aae02 ({ frames := 0, cells := 0, slots := 0, locals := 0 }) (zx_Pc D cy ed sz [.ref it] [(it, .inr (3, [.int 2, .int 1, .int mc, .ref pa])), (pa, .inr (4, [.int mc, .ref el, .int 6]))]) (va_Qi (fun (r9 : Int32) (u9 : Unit) => r9 = 1) (fun (u9 : Unit) (t9 : State) => zx_At D cy (va_A [(it, .inr (3, [.int 2, .int 1, .int mc, .ref pa])), (pa, .inr (4, [.int mc, .ref el, .int 6]))] sz) [(it, .inr (3, [.int 2, .int 1, .int mc, .ref pa])), (pa, .inr (4, [.int mc, .ref el, .int 6]))] t9) (va_A [(it, .inr (3, [.int 2, .int 1, .int mc, .ref pa])), (pa, .inr (4, [.int mc, .ref el, .int 6]))] sz)) 0 0 (va_A [(it, .inr (3, [.int 2, .int 1, .int mc, .ref pa])), (pa, .inr (4, [.int mc, .ref el, .int 6]))] sz) := by
  refine Met.ofW (cc := cJx35411_hasNext_aae02) (maxL := 1) (ret := (some .boolean)) (by decide) rfl ?_
  intro p e s m args below meth c s₁ B hml hv
  obtain ⟨rfl, hsz, hP, hK, hD0, hZ, hN⟩ := hv
  have hx := B.exec
  have hb := B.bytes
  have hr := B.returns
  have hts := atoms_spec (ws := wzJx35411_hasNext_aae02) B.pre
  have hown : s.vm.findClass RJx35411 = some m.cls := findClass_of_methodNamed B.named
  have hlocks := B.notSynchronized
  subst hsz
  have hD := hD0.self (sz := s.heap.size)
  generalize hAe : va_A [(it, .inr (3, [.int 2, .int 1, .int mc, .ref pa])), (pa, .inr (4, [.int mc, .ref el, .int 6]))] s.heap.size = A at hD hZ ⊢
  have hA : ∀ q : Nat, s.heap.size ≤ q → A q := fun q h => by rw [← hAe]; exact Or.inr h
  have hS : va_S A s.heap s.heap [] := va_S.rf
  have hP : va_P D vwCl [(it, .inr (3, [.int 2, .int 1, .int mc, .ref pa])), (pa, .inr (4, [.int mc, .ref el, .int 6]))] s.heap := hP
  have hl := lv_entry ([.ref it]) (n := 1) (Nat.le_of_ble_eq_true rfl)
  rw [lg_entry_eq]
  generalize (lg_sl ([.ref it]) ++ List.replicate (1 - (lg_sl ([.ref it])).length) Slot.unset).toArray = ls at hl ⊢
  have hl : lv_has ls 1 [(0, .ref it)] := hl
  refine lv_aload_n hx hb dJx35411_hasNext_aae02_0 rfl (lv_at hl 0 rfl) ?_
  refine va_get (D := D) (ci := 3) (v := .int 2) (C := RJx35411) (T := TJx35411) (N := 4) hx hb hts (fun w h => zx_Gc (uz_Jx35411 w h)) hown hK hP 0 rfl rfl 0 (by decide) (hts (.fieldLink RJx35411 25 "java/util/ArrayList$Itr" "cursor" "I") (zx_Gc mm_1679)) (fun _ h9 => h9) rfl dJx35411_hasNext_aae02_1 ?_
  refine lv_aload_n hx hb dJx35411_hasNext_aae02_4 rfl (lv_at hl 0 rfl) ?_
  refine va_get (D := D) (ci := 3) (v := .ref pa) (C := RJx35411) (T := TJx35411) (N := 4) hx hb hts (fun w h => zx_Gc (uz_Jx35411 w h)) hown hK hP 0 rfl rfl 3 (by decide) (hts (.fieldLink RJx35411 1 "java/util/ArrayList$Itr" "this$0" "Ljava/util/ArrayList;") (zx_Gc mm_1682)) (fun _ h9 => h9) rfl dJx35411_hasNext_aae02_5 ?_
  refine va_getN (host := "java/util/ArrayList") (ref := "java/util/ArrayList") (D := D) (ci := 4) (v := .int 6) (C := RJx4a65c) (T := TJx4a65c) (N := 3) hx hb hts (fun w h => zx_Gc (uz_Jx4a65c w h)) hown hK hP 1 rfl rfl 2 (by decide) (va_Nw.use rfl (hN.1 _ _ _ _ _ _ (List.mem_of_getElem? (i := 215) (by decide +kernel)))) (fun _ h9 => h9) rfl dJx35411_hasNext_aae02_8 ?_
  refine lv_icmp_eq (tgt := 18) hx hb dJx35411_hasNext_aae02_11 (by decide) (fun c_158 => absurd c_158 (by decide)) (fun _ => ?_)
  refine lv_iconst (v := 1) hx hb dJx35411_hasNext_aae02_14 (by decide) ?_
  refine lv_goto (tgt := 19) hx hb dJx35411_hasNext_aae02_15 (by decide) ?_
  have hP9 := hP.sub (ws' := [(it, .inr (3, [.int 2, .int 1, .int mc, .ref pa])), (pa, .inr (4, [.int mc, .ref el, .int 6]))]) [0, 1] rfl
  have hD9 := hD.sub (ws' := [(it, .inr (3, [.int 2, .int 1, .int mc, .ref pa])), (pa, .inr (4, [.int mc, .ref el, .int 6]))]) [0, 1] (by decide) rfl
  exact W.zret (v := 1) hx hb hr rfl (fun t ht hW => ⟨⟨1, (), rfl, rfl, zx_fin hP9 hD9 hK ht hW⟩, hS.F ht⟩) hS.2.2 dJx35411_hasNext_aae02_19
set_option maxHeartbeats 4000000 in
set_option maxRecDepth 100000 in
theorem c_Itr_hasNext_3_6 (l : Launch) (hst : l.stackTraces = false) (D : va_G) (cy : Nat → ClassId) (ed sz : Nat) (it : Nat) (pa : Nat) (el : Nat) (mc : Int32) : Met l yJx35411_hasNext_aae02 wzJx35411_hasNext_aae02 ({ frames := 0, cells := 0, slots := 0, locals := 0 }) (zx_Pc D cy ed sz [.ref it] [(it, .inr (3, [.int 3, .int 2, .int mc, .ref pa])), (pa, .inr (4, [.int mc, .ref el, .int 6]))]) (va_Qi (fun (r9 : Int32) (u9 : Unit) => r9 = 1) (fun (u9 : Unit) (t9 : State) => zx_At D cy (va_A [(it, .inr (3, [.int 3, .int 2, .int mc, .ref pa])), (pa, .inr (4, [.int mc, .ref el, .int 6]))] sz) [(it, .inr (3, [.int 3, .int 2, .int mc, .ref pa])), (pa, .inr (4, [.int mc, .ref el, .int 6]))] t9) (va_A [(it, .inr (3, [.int 3, .int 2, .int mc, .ref pa])), (pa, .inr (4, [.int mc, .ref el, .int 6]))] sz)) 0 0 (va_A [(it, .inr (3, [.int 3, .int 2, .int mc, .ref pa])), (pa, .inr (4, [.int mc, .ref el, .int 6]))] sz) := by
  refine Met.ofW (cc := cJx35411_hasNext_aae02) (maxL := 1) (ret := (some .boolean)) (by decide) rfl ?_
  intro p e s m args below meth c s₁ B hml hv
  obtain ⟨rfl, hsz, hP, hK, hD0, hZ, hN⟩ := hv
  have hx := B.exec
  have hb := B.bytes
  have hr := B.returns
  have hts := atoms_spec (ws := wzJx35411_hasNext_aae02) B.pre
  have hown : s.vm.findClass RJx35411 = some m.cls := findClass_of_methodNamed B.named
  have hlocks := B.notSynchronized
  subst hsz
  have hD := hD0.self (sz := s.heap.size)
  generalize hAe : va_A [(it, .inr (3, [.int 3, .int 2, .int mc, .ref pa])), (pa, .inr (4, [.int mc, .ref el, .int 6]))] s.heap.size = A at hD hZ ⊢
  have hA : ∀ q : Nat, s.heap.size ≤ q → A q := fun q h => by rw [← hAe]; exact Or.inr h
  have hS : va_S A s.heap s.heap [] := va_S.rf
  have hP : va_P D vwCl [(it, .inr (3, [.int 3, .int 2, .int mc, .ref pa])), (pa, .inr (4, [.int mc, .ref el, .int 6]))] s.heap := hP
  have hl := lv_entry ([.ref it]) (n := 1) (Nat.le_of_ble_eq_true rfl)
  rw [lg_entry_eq]
  generalize (lg_sl ([.ref it]) ++ List.replicate (1 - (lg_sl ([.ref it])).length) Slot.unset).toArray = ls at hl ⊢
  have hl : lv_has ls 1 [(0, .ref it)] := hl
  refine lv_aload_n hx hb dJx35411_hasNext_aae02_0 rfl (lv_at hl 0 rfl) ?_
  refine va_get (D := D) (ci := 3) (v := .int 3) (C := RJx35411) (T := TJx35411) (N := 4) hx hb hts (fun w h => zx_Gc (uz_Jx35411 w h)) hown hK hP 0 rfl rfl 0 (by decide) (hts (.fieldLink RJx35411 25 "java/util/ArrayList$Itr" "cursor" "I") (zx_Gc mm_1679)) (fun _ h9 => h9) rfl dJx35411_hasNext_aae02_1 ?_
  refine lv_aload_n hx hb dJx35411_hasNext_aae02_4 rfl (lv_at hl 0 rfl) ?_
  refine va_get (D := D) (ci := 3) (v := .ref pa) (C := RJx35411) (T := TJx35411) (N := 4) hx hb hts (fun w h => zx_Gc (uz_Jx35411 w h)) hown hK hP 0 rfl rfl 3 (by decide) (hts (.fieldLink RJx35411 1 "java/util/ArrayList$Itr" "this$0" "Ljava/util/ArrayList;") (zx_Gc mm_1682)) (fun _ h9 => h9) rfl dJx35411_hasNext_aae02_5 ?_
  refine va_getN (host := "java/util/ArrayList") (ref := "java/util/ArrayList") (D := D) (ci := 4) (v := .int 6) (C := RJx4a65c) (T := TJx4a65c) (N := 3) hx hb hts (fun w h => zx_Gc (uz_Jx4a65c w h)) hown hK hP 1 rfl rfl 2 (by decide) (va_Nw.use rfl (hN.1 _ _ _ _ _ _ (List.mem_of_getElem? (i := 215) (by decide +kernel)))) (fun _ h9 => h9) rfl dJx35411_hasNext_aae02_8 ?_
  refine lv_icmp_eq (tgt := 18) hx hb dJx35411_hasNext_aae02_11 (by decide) (fun c_159 => absurd c_159 (by decide)) (fun _ => ?_)
  refine lv_iconst (v := 1) hx hb dJx35411_hasNext_aae02_14 (by decide) ?_
  refine lv_goto (tgt := 19) hx hb dJx35411_hasNext_aae02_15 (by decide) ?_
  have hP9 := hP.sub (ws' := [(it, .inr (3, [.int 3, .int 2, .int mc, .ref pa])), (pa, .inr (4, [.int mc, .ref el, .int 6]))]) [0, 1] rfl
  have hD9 := hD.sub (ws' := [(it, .inr (3, [.int 3, .int 2, .int mc, .ref pa])), (pa, .inr (4, [.int mc, .ref el, .int 6]))]) [0, 1] (by decide) rfl
  exact W.zret (v := 1) hx hb hr rfl (fun t ht hW => ⟨⟨1, (), rfl, rfl, zx_fin hP9 hD9 hK ht hW⟩, hS.F ht⟩) hS.2.2 dJx35411_hasNext_aae02_19
set_option maxHeartbeats 4000000 in
set_option maxRecDepth 100000 in
theorem c_Itr_hasNext_4_6 (l : Launch) (hst : l.stackTraces = false) (D : va_G) (cy : Nat → ClassId) (ed sz : Nat) (it : Nat) (pa : Nat) (el : Nat) (mc : Int32) : Met l yJx35411_hasNext_aae02 wzJx35411_hasNext_aae02 ({ frames := 0, cells := 0, slots := 0, locals := 0 }) (zx_Pc D cy ed sz [.ref it] [(it, .inr (3, [.int 4, .int 3, .int mc, .ref pa])), (pa, .inr (4, [.int mc, .ref el, .int 6]))]) (va_Qi (fun (r9 : Int32) (u9 : Unit) => r9 = 1) (fun (u9 : Unit) (t9 : State) => zx_At D cy (va_A [(it, .inr (3, [.int 4, .int 3, .int mc, .ref pa])), (pa, .inr (4, [.int mc, .ref el, .int 6]))] sz) [(it, .inr (3, [.int 4, .int 3, .int mc, .ref pa])), (pa, .inr (4, [.int mc, .ref el, .int 6]))] t9) (va_A [(it, .inr (3, [.int 4, .int 3, .int mc, .ref pa])), (pa, .inr (4, [.int mc, .ref el, .int 6]))] sz)) 0 0 (va_A [(it, .inr (3, [.int 4, .int 3, .int mc, .ref pa])), (pa, .inr (4, [.int mc, .ref el, .int 6]))] sz) := by
  refine Met.ofW (cc := cJx35411_hasNext_aae02) (maxL := 1) (ret := (some .boolean)) (by decide) rfl ?_
  intro p e s m args below meth c s₁ B hml hv
  obtain ⟨rfl, hsz, hP, hK, hD0, hZ, hN⟩ := hv
  have hx := B.exec
  have hb := B.bytes
  have hr := B.returns
  have hts := atoms_spec (ws := wzJx35411_hasNext_aae02) B.pre
  have hown : s.vm.findClass RJx35411 = some m.cls := findClass_of_methodNamed B.named
  have hlocks := B.notSynchronized
  subst hsz
  have hD := hD0.self (sz := s.heap.size)
  generalize hAe : va_A [(it, .inr (3, [.int 4, .int 3, .int mc, .ref pa])), (pa, .inr (4, [.int mc, .ref el, .int 6]))] s.heap.size = A at hD hZ ⊢
  have hA : ∀ q : Nat, s.heap.size ≤ q → A q := fun q h => by rw [← hAe]; exact Or.inr h
  have hS : va_S A s.heap s.heap [] := va_S.rf
  have hP : va_P D vwCl [(it, .inr (3, [.int 4, .int 3, .int mc, .ref pa])), (pa, .inr (4, [.int mc, .ref el, .int 6]))] s.heap := hP
  have hl := lv_entry ([.ref it]) (n := 1) (Nat.le_of_ble_eq_true rfl)
  rw [lg_entry_eq]
  generalize (lg_sl ([.ref it]) ++ List.replicate (1 - (lg_sl ([.ref it])).length) Slot.unset).toArray = ls at hl ⊢
  have hl : lv_has ls 1 [(0, .ref it)] := hl
  refine lv_aload_n hx hb dJx35411_hasNext_aae02_0 rfl (lv_at hl 0 rfl) ?_
  refine va_get (D := D) (ci := 3) (v := .int 4) (C := RJx35411) (T := TJx35411) (N := 4) hx hb hts (fun w h => zx_Gc (uz_Jx35411 w h)) hown hK hP 0 rfl rfl 0 (by decide) (hts (.fieldLink RJx35411 25 "java/util/ArrayList$Itr" "cursor" "I") (zx_Gc mm_1679)) (fun _ h9 => h9) rfl dJx35411_hasNext_aae02_1 ?_
  refine lv_aload_n hx hb dJx35411_hasNext_aae02_4 rfl (lv_at hl 0 rfl) ?_
  refine va_get (D := D) (ci := 3) (v := .ref pa) (C := RJx35411) (T := TJx35411) (N := 4) hx hb hts (fun w h => zx_Gc (uz_Jx35411 w h)) hown hK hP 0 rfl rfl 3 (by decide) (hts (.fieldLink RJx35411 1 "java/util/ArrayList$Itr" "this$0" "Ljava/util/ArrayList;") (zx_Gc mm_1682)) (fun _ h9 => h9) rfl dJx35411_hasNext_aae02_5 ?_
  refine va_getN (host := "java/util/ArrayList") (ref := "java/util/ArrayList") (D := D) (ci := 4) (v := .int 6) (C := RJx4a65c) (T := TJx4a65c) (N := 3) hx hb hts (fun w h => zx_Gc (uz_Jx4a65c w h)) hown hK hP 1 rfl rfl 2 (by decide) (va_Nw.use rfl (hN.1 _ _ _ _ _ _ (List.mem_of_getElem? (i := 215) (by decide +kernel)))) (fun _ h9 => h9) rfl dJx35411_hasNext_aae02_8 ?_
  refine lv_icmp_eq (tgt := 18) hx hb dJx35411_hasNext_aae02_11 (by decide) (fun c_160 => absurd c_160 (by decide)) (fun _ => ?_)
  refine lv_iconst (v := 1) hx hb dJx35411_hasNext_aae02_14 (by decide) ?_
  refine lv_goto (tgt := 19) hx hb dJx35411_hasNext_aae02_15 (by decide) ?_
  have hP9 := hP.sub (ws' := [(it, .inr (3, [.int 4, .int 3, .int mc, .ref pa])), (pa, .inr (4, [.int mc, .ref el, .int 6]))]) [0, 1] rfl
  have hD9 := hD.sub (ws' := [(it, .inr (3, [.int 4, .int 3, .int mc, .ref pa])), (pa, .inr (4, [.int mc, .ref el, .int 6]))]) [0, 1] (by decide) rfl
  exact W.zret (v := 1) hx hb hr rfl (fun t ht hW => ⟨⟨1, (), rfl, rfl, zx_fin hP9 hD9 hK ht hW⟩, hS.F ht⟩) hS.2.2 dJx35411_hasNext_aae02_19
set_option maxHeartbeats 4000000 in
set_option maxRecDepth 100000 in
theorem c_Itr_hasNext_5_6 (l : Launch) (hst : l.stackTraces = false) (D : va_G) (cy : Nat → ClassId) (ed sz : Nat) (it : Nat) (pa : Nat) (el : Nat) (mc : Int32) : Met l yJx35411_hasNext_aae02 wzJx35411_hasNext_aae02 ({ frames := 0, cells := 0, slots := 0, locals := 0 }) (zx_Pc D cy ed sz [.ref it] [(it, .inr (3, [.int 5, .int 4, .int mc, .ref pa])), (pa, .inr (4, [.int mc, .ref el, .int 6]))]) (va_Qi (fun (r9 : Int32) (u9 : Unit) => r9 = 1) (fun (u9 : Unit) (t9 : State) => zx_At D cy (va_A [(it, .inr (3, [.int 5, .int 4, .int mc, .ref pa])), (pa, .inr (4, [.int mc, .ref el, .int 6]))] sz) [(it, .inr (3, [.int 5, .int 4, .int mc, .ref pa])), (pa, .inr (4, [.int mc, .ref el, .int 6]))] t9) (va_A [(it, .inr (3, [.int 5, .int 4, .int mc, .ref pa])), (pa, .inr (4, [.int mc, .ref el, .int 6]))] sz)) 0 0 (va_A [(it, .inr (3, [.int 5, .int 4, .int mc, .ref pa])), (pa, .inr (4, [.int mc, .ref el, .int 6]))] sz) := by
  refine Met.ofW (cc := cJx35411_hasNext_aae02) (maxL := 1) (ret := (some .boolean)) (by decide) rfl ?_
  intro p e s m args below meth c s₁ B hml hv
  obtain ⟨rfl, hsz, hP, hK, hD0, hZ, hN⟩ := hv
  have hx := B.exec
  have hb := B.bytes
  have hr := B.returns
  have hts := atoms_spec (ws := wzJx35411_hasNext_aae02) B.pre
  have hown : s.vm.findClass RJx35411 = some m.cls := findClass_of_methodNamed B.named
  have hlocks := B.notSynchronized
  subst hsz
  have hD := hD0.self (sz := s.heap.size)
  generalize hAe : va_A [(it, .inr (3, [.int 5, .int 4, .int mc, .ref pa])), (pa, .inr (4, [.int mc, .ref el, .int 6]))] s.heap.size = A at hD hZ ⊢
  have hA : ∀ q : Nat, s.heap.size ≤ q → A q := fun q h => by rw [← hAe]; exact Or.inr h
  have hS : va_S A s.heap s.heap [] := va_S.rf
  have hP : va_P D vwCl [(it, .inr (3, [.int 5, .int 4, .int mc, .ref pa])), (pa, .inr (4, [.int mc, .ref el, .int 6]))] s.heap := hP
  have hl := lv_entry ([.ref it]) (n := 1) (Nat.le_of_ble_eq_true rfl)
  rw [lg_entry_eq]
  generalize (lg_sl ([.ref it]) ++ List.replicate (1 - (lg_sl ([.ref it])).length) Slot.unset).toArray = ls at hl ⊢
  have hl : lv_has ls 1 [(0, .ref it)] := hl
  refine lv_aload_n hx hb dJx35411_hasNext_aae02_0 rfl (lv_at hl 0 rfl) ?_
  refine va_get (D := D) (ci := 3) (v := .int 5) (C := RJx35411) (T := TJx35411) (N := 4) hx hb hts (fun w h => zx_Gc (uz_Jx35411 w h)) hown hK hP 0 rfl rfl 0 (by decide) (hts (.fieldLink RJx35411 25 "java/util/ArrayList$Itr" "cursor" "I") (zx_Gc mm_1679)) (fun _ h9 => h9) rfl dJx35411_hasNext_aae02_1 ?_
  refine lv_aload_n hx hb dJx35411_hasNext_aae02_4 rfl (lv_at hl 0 rfl) ?_
  refine va_get (D := D) (ci := 3) (v := .ref pa) (C := RJx35411) (T := TJx35411) (N := 4) hx hb hts (fun w h => zx_Gc (uz_Jx35411 w h)) hown hK hP 0 rfl rfl 3 (by decide) (hts (.fieldLink RJx35411 1 "java/util/ArrayList$Itr" "this$0" "Ljava/util/ArrayList;") (zx_Gc mm_1682)) (fun _ h9 => h9) rfl dJx35411_hasNext_aae02_5 ?_
  refine va_getN (host := "java/util/ArrayList") (ref := "java/util/ArrayList") (D := D) (ci := 4) (v := .int 6) (C := RJx4a65c) (T := TJx4a65c) (N := 3) hx hb hts (fun w h => zx_Gc (uz_Jx4a65c w h)) hown hK hP 1 rfl rfl 2 (by decide) (va_Nw.use rfl (hN.1 _ _ _ _ _ _ (List.mem_of_getElem? (i := 215) (by decide +kernel)))) (fun _ h9 => h9) rfl dJx35411_hasNext_aae02_8 ?_
  refine lv_icmp_eq (tgt := 18) hx hb dJx35411_hasNext_aae02_11 (by decide) (fun c_161 => absurd c_161 (by decide)) (fun _ => ?_)
  refine lv_iconst (v := 1) hx hb dJx35411_hasNext_aae02_14 (by decide) ?_
  refine lv_goto (tgt := 19) hx hb dJx35411_hasNext_aae02_15 (by decide) ?_
  have hP9 := hP.sub (ws' := [(it, .inr (3, [.int 5, .int 4, .int mc, .ref pa])), (pa, .inr (4, [.int mc, .ref el, .int 6]))]) [0, 1] rfl
  have hD9 := hD.sub (ws' := [(it, .inr (3, [.int 5, .int 4, .int mc, .ref pa])), (pa, .inr (4, [.int mc, .ref el, .int 6]))]) [0, 1] (by decide) rfl
  exact W.zret (v := 1) hx hb hr rfl (fun t ht hW => ⟨⟨1, (), rfl, rfl, zx_fin hP9 hD9 hK ht hW⟩, hS.F ht⟩) hS.2.2 dJx35411_hasNext_aae02_19
set_option maxHeartbeats 4000000 in
set_option maxRecDepth 100000 in
theorem c_Itr_hasNext_6_6 (l : Launch) (hst : l.stackTraces = false) (D : va_G) (cy : Nat → ClassId) (ed sz : Nat) (it : Nat) (pa : Nat) (el : Nat) (mc : Int32) : Met l yJx35411_hasNext_aae02 wzJx35411_hasNext_aae02 ({ frames := 0, cells := 0, slots := 0, locals := 0 }) (zx_Pc D cy ed sz [.ref it] [(it, .inr (3, [.int 6, .int 5, .int mc, .ref pa])), (pa, .inr (4, [.int mc, .ref el, .int 6]))]) (va_Qi (fun (r9 : Int32) (u9 : Unit) => r9 = 0) (fun (u9 : Unit) (t9 : State) => zx_At D cy (va_A [(it, .inr (3, [.int 6, .int 5, .int mc, .ref pa])), (pa, .inr (4, [.int mc, .ref el, .int 6]))] sz) [(it, .inr (3, [.int 6, .int 5, .int mc, .ref pa])), (pa, .inr (4, [.int mc, .ref el, .int 6]))] t9) (va_A [(it, .inr (3, [.int 6, .int 5, .int mc, .ref pa])), (pa, .inr (4, [.int mc, .ref el, .int 6]))] sz)) 0 0 (va_A [(it, .inr (3, [.int 6, .int 5, .int mc, .ref pa])), (pa, .inr (4, [.int mc, .ref el, .int 6]))] sz) := by
  refine Met.ofW (cc := cJx35411_hasNext_aae02) (maxL := 1) (ret := (some .boolean)) (by decide) rfl ?_
  intro p e s m args below meth c s₁ B hml hv
  obtain ⟨rfl, hsz, hP, hK, hD0, hZ, hN⟩ := hv
  have hx := B.exec
  have hb := B.bytes
  have hr := B.returns
  have hts := atoms_spec (ws := wzJx35411_hasNext_aae02) B.pre
  have hown : s.vm.findClass RJx35411 = some m.cls := findClass_of_methodNamed B.named
  have hlocks := B.notSynchronized
  subst hsz
  have hD := hD0.self (sz := s.heap.size)
  generalize hAe : va_A [(it, .inr (3, [.int 6, .int 5, .int mc, .ref pa])), (pa, .inr (4, [.int mc, .ref el, .int 6]))] s.heap.size = A at hD hZ ⊢
  have hA : ∀ q : Nat, s.heap.size ≤ q → A q := fun q h => by rw [← hAe]; exact Or.inr h
  have hS : va_S A s.heap s.heap [] := va_S.rf
  have hP : va_P D vwCl [(it, .inr (3, [.int 6, .int 5, .int mc, .ref pa])), (pa, .inr (4, [.int mc, .ref el, .int 6]))] s.heap := hP
  have hl := lv_entry ([.ref it]) (n := 1) (Nat.le_of_ble_eq_true rfl)
  rw [lg_entry_eq]
  generalize (lg_sl ([.ref it]) ++ List.replicate (1 - (lg_sl ([.ref it])).length) Slot.unset).toArray = ls at hl ⊢
  have hl : lv_has ls 1 [(0, .ref it)] := hl
  refine lv_aload_n hx hb dJx35411_hasNext_aae02_0 rfl (lv_at hl 0 rfl) ?_
  refine va_get (D := D) (ci := 3) (v := .int 6) (C := RJx35411) (T := TJx35411) (N := 4) hx hb hts (fun w h => zx_Gc (uz_Jx35411 w h)) hown hK hP 0 rfl rfl 0 (by decide) (hts (.fieldLink RJx35411 25 "java/util/ArrayList$Itr" "cursor" "I") (zx_Gc mm_1679)) (fun _ h9 => h9) rfl dJx35411_hasNext_aae02_1 ?_
  refine lv_aload_n hx hb dJx35411_hasNext_aae02_4 rfl (lv_at hl 0 rfl) ?_
  refine va_get (D := D) (ci := 3) (v := .ref pa) (C := RJx35411) (T := TJx35411) (N := 4) hx hb hts (fun w h => zx_Gc (uz_Jx35411 w h)) hown hK hP 0 rfl rfl 3 (by decide) (hts (.fieldLink RJx35411 1 "java/util/ArrayList$Itr" "this$0" "Ljava/util/ArrayList;") (zx_Gc mm_1682)) (fun _ h9 => h9) rfl dJx35411_hasNext_aae02_5 ?_
  refine va_getN (host := "java/util/ArrayList") (ref := "java/util/ArrayList") (D := D) (ci := 4) (v := .int 6) (C := RJx4a65c) (T := TJx4a65c) (N := 3) hx hb hts (fun w h => zx_Gc (uz_Jx4a65c w h)) hown hK hP 1 rfl rfl 2 (by decide) (va_Nw.use rfl (hN.1 _ _ _ _ _ _ (List.mem_of_getElem? (i := 215) (by decide +kernel)))) (fun _ h9 => h9) rfl dJx35411_hasNext_aae02_8 ?_
  refine lv_icmp_eq (tgt := 18) hx hb dJx35411_hasNext_aae02_11 (by decide) (fun _ => ?_) (fun c_162 => absurd (by decide) c_162)
  refine lv_iconst (v := 0) hx hb dJx35411_hasNext_aae02_18 (by decide) ?_
  have hP9 := hP.sub (ws' := [(it, .inr (3, [.int 6, .int 5, .int mc, .ref pa])), (pa, .inr (4, [.int mc, .ref el, .int 6]))]) [0, 1] rfl
  have hD9 := hD.sub (ws' := [(it, .inr (3, [.int 6, .int 5, .int mc, .ref pa])), (pa, .inr (4, [.int mc, .ref el, .int 6]))]) [0, 1] (by decide) rfl
  exact W.zret (v := 0) hx hb hr rfl (fun t ht hW => ⟨⟨0, (), rfl, rfl, zx_fin hP9 hD9 hK ht hW⟩, hS.F ht⟩) hS.2.2 dJx35411_hasNext_aae02_19
set_option maxHeartbeats 4000000 in
set_option maxRecDepth 100000 in
theorem c_Itr_check (l : Launch) (hst : l.stackTraces = false) (D : va_G) (cy : Nat → ClassId) (ed sz : Nat) (it : Nat) (pa : Nat) (el : Nat) (cu : Int32) (lr : Int32) (mc : Int32) (n : Int32) : Met l yJx35411_checkForComodification_da8c8 wzJx35411_checkForComodification_da8c8 ({ frames := 0, cells := 0, slots := 0, locals := 0 }) (zx_Pc D cy ed sz [.ref it] [(it, .inr (3, [.int cu, .int lr, .int mc, .ref pa])), (pa, .inr (4, [.int mc, .ref el, .int n]))]) (va_Qv (fun (u9 : Unit) => True) (fun (u9 : Unit) (t9 : State) => zx_At D cy (va_A [(it, .inr (3, [.int cu, .int lr, .int mc, .ref pa])), (pa, .inr (4, [.int mc, .ref el, .int n]))] sz) [(it, .inr (3, [.int cu, .int lr, .int mc, .ref pa])), (pa, .inr (4, [.int mc, .ref el, .int n]))] t9) (va_A [(it, .inr (3, [.int cu, .int lr, .int mc, .ref pa])), (pa, .inr (4, [.int mc, .ref el, .int n]))] sz)) 0 0 (va_A [(it, .inr (3, [.int cu, .int lr, .int mc, .ref pa])), (pa, .inr (4, [.int mc, .ref el, .int n]))] sz) := by
  refine Met.ofW (cc := cJx35411_checkForComodification_da8c8) (maxL := 1) (ret := none) (by decide) rfl ?_
  intro p e s m args below meth c s₁ B hml hv
  obtain ⟨rfl, hsz, hP, hK, hD0, hZ, hN⟩ := hv
  have hx := B.exec
  have hb := B.bytes
  have hr := B.returns
  have hts := atoms_spec (ws := wzJx35411_checkForComodification_da8c8) B.pre
  have hown : s.vm.findClass RJx35411 = some m.cls := findClass_of_methodNamed B.named
  have hlocks := B.notSynchronized
  subst hsz
  have hD := hD0.self (sz := s.heap.size)
  generalize hAe : va_A [(it, .inr (3, [.int cu, .int lr, .int mc, .ref pa])), (pa, .inr (4, [.int mc, .ref el, .int n]))] s.heap.size = A at hD hZ ⊢
  have hA : ∀ q : Nat, s.heap.size ≤ q → A q := fun q h => by rw [← hAe]; exact Or.inr h
  have hS : va_S A s.heap s.heap [] := va_S.rf
  have hP : va_P D vwCl [(it, .inr (3, [.int cu, .int lr, .int mc, .ref pa])), (pa, .inr (4, [.int mc, .ref el, .int n]))] s.heap := hP
  have hl := lv_entry ([.ref it]) (n := 1) (Nat.le_of_ble_eq_true rfl)
  rw [lg_entry_eq]
  generalize (lg_sl ([.ref it]) ++ List.replicate (1 - (lg_sl ([.ref it])).length) Slot.unset).toArray = ls at hl ⊢
  have hl : lv_has ls 1 [(0, .ref it)] := hl
  refine lv_aload_n hx hb dJx35411_checkForComodification_da8c8_0 rfl (lv_at hl 0 rfl) ?_
  refine va_get (D := D) (ci := 3) (v := .ref pa) (C := RJx35411) (T := TJx35411) (N := 4) hx hb hts (fun w h => zx_Gc (uz_Jx35411 w h)) hown hK hP 0 rfl rfl 3 (by decide) (hts (.fieldLink RJx35411 1 "java/util/ArrayList$Itr" "this$0" "Ljava/util/ArrayList;") (zx_Gc mm_1682)) (fun _ h9 => h9) rfl dJx35411_checkForComodification_da8c8_1 ?_
  refine va_get (D := D) (ci := 4) (v := .int mc) (C := RJx4a65c) (T := TJx4a65c) (N := 3) hx hb hts (fun w h => zx_Gc (uz_Jx4a65c w h)) hown hK hP 1 rfl rfl 0 (by decide) (hts (.fieldLink RJx35411 17 "java/util/ArrayList" "modCount" "I") (zx_Gc mm_218)) (fun x9 h9 => u_same (hts (.sameField "java/util/ArrayList" "java/util/AbstractList" "modCount" "I") (zx_Gc mm_219)) x9 h9) rfl dJx35411_checkForComodification_da8c8_4 ?_
  refine lv_aload_n hx hb dJx35411_checkForComodification_da8c8_7 rfl (lv_at hl 0 rfl) ?_
  refine va_get (D := D) (ci := 3) (v := .int mc) (C := RJx35411) (T := TJx35411) (N := 4) hx hb hts (fun w h => zx_Gc (uz_Jx35411 w h)) hown hK hP 0 rfl rfl 2 (by decide) (hts (.fieldLink RJx35411 22 "java/util/ArrayList$Itr" "expectedModCount" "I") (zx_Gc mm_1681)) (fun _ h9 => h9) rfl dJx35411_checkForComodification_da8c8_8 ?_
  refine lv_icmp_eq (tgt := 22) hx hb dJx35411_checkForComodification_da8c8_11 (by decide) (fun _ => ?_) (fun c_163 => absurd rfl c_163)
  have hP9 := hP.sub (ws' := [(it, .inr (3, [.int cu, .int lr, .int mc, .ref pa])), (pa, .inr (4, [.int mc, .ref el, .int n]))]) [0, 1] rfl
  have hD9 := hD.sub (ws' := [(it, .inr (3, [.int cu, .int lr, .int mc, .ref pa])), (pa, .inr (4, [.int mc, .ref el, .int n]))]) [0, 1] (by decide) rfl
  exact W.vret hx hb hr (fun t ht hW => ⟨⟨(), rfl, trivial, zx_fin hP9 hD9 hK ht hW⟩, hS.F ht⟩) hS.2.2 dJx35411_checkForComodification_da8c8_22
set_option maxHeartbeats 4000000 in
set_option maxRecDepth 100000 in
theorem c_Itr_next_0 (l : Launch) (hst : l.stackTraces = false) (D : va_G) (cy : Nat → ClassId) (ed sz : Nat) (it : Nat) (pa : Nat) (el : Nat) (mc : Int32) (g : Nat → Option Nat) (v : Nat) (hv : g 0 = some v) : Met l yJx35411_next_0502b wzJx35411_next_0502b ({ frames := 1, cells := 0, slots := 0, locals := 20 }) (zx_Pc D cy ed sz [.ref it] [(it, .inr (3, [.int 0, .int (-1), .int mc, .ref pa])), (pa, .inr (4, [.int mc, .ref el, .int 6])), (el, .inl (cy 2, 10, .inr (.inr (.inr (.inr g)))))]) (va_Qr (fun (u9 : Unit) => True) (fun (u9 : Unit) (ra9 : Nat) (t9 : State) => v = ra9 ∧ zx_At D cy (va_A [(it, .inr (3, [.int 0, .int (-1), .int mc, .ref pa])), (pa, .inr (4, [.int mc, .ref el, .int 6])), (el, .inl (cy 2, 10, .inr (.inr (.inr (.inr g)))))] sz) [(it, .inr (3, [.int 1, .int 0, .int mc, .ref pa])), (pa, .inr (4, [.int mc, .ref el, .int 6])), (el, .inl (cy 2, 10, .inr (.inr (.inr (.inr g)))))] t9) (va_A [(it, .inr (3, [.int 0, .int (-1), .int mc, .ref pa])), (pa, .inr (4, [.int mc, .ref el, .int 6])), (el, .inl (cy 2, 10, .inr (.inr (.inr (.inr g)))))] sz)) 0 0 (va_A [(it, .inr (3, [.int 0, .int (-1), .int mc, .ref pa])), (pa, .inr (4, [.int mc, .ref el, .int 6])), (el, .inl (cy 2, 10, .inr (.inr (.inr (.inr g)))))] sz) := by
  refine Met.ofW (cc := cJx35411_next_0502b) (maxL := 3) (ret := (some (.object "java/lang/Object"))) (by decide) rfl ?_
  intro p e s m args below meth c s₁ B hml hv
  obtain ⟨rfl, hsz, hP, hK, hD0, hZ, hN⟩ := hv
  have hx := B.exec
  have hb := B.bytes
  have hr := B.returns
  have hts := atoms_spec (ws := wzJx35411_next_0502b) B.pre
  have hown : s.vm.findClass RJx35411 = some m.cls := findClass_of_methodNamed B.named
  have hlocks := B.notSynchronized
  subst hsz
  have hD := hD0.self (sz := s.heap.size)
  generalize hAe : va_A [(it, .inr (3, [.int 0, .int (-1), .int mc, .ref pa])), (pa, .inr (4, [.int mc, .ref el, .int 6])), (el, .inl (cy 2, 10, .inr (.inr (.inr (.inr g)))))] s.heap.size = A at hD hZ ⊢
  have hA : ∀ q : Nat, s.heap.size ≤ q → A q := fun q h => by rw [← hAe]; exact Or.inr h
  have hS : va_S A s.heap s.heap [] := va_S.rf
  have hP : va_P D vwCl [(it, .inr (3, [.int 0, .int (-1), .int mc, .ref pa])), (pa, .inr (4, [.int mc, .ref el, .int 6])), (el, .inl (cy 2, 10, .inr (.inr (.inr (.inr g)))))] s.heap := hP
  have hl := lv_entry ([.ref it]) (n := 3) (Nat.le_of_ble_eq_true rfl)
  rw [lg_entry_eq]
  generalize (lg_sl ([.ref it]) ++ List.replicate (3 - (lg_sl ([.ref it])).length) Slot.unset).toArray = ls at hl ⊢
  have hl : lv_has ls 3 [(0, .ref it)] := hl
  refine lv_aload_n hx hb dJx35411_next_0502b_0 rfl (lv_at hl 0 rfl) ?_
  have hPc := hP.sub (ws' := [(it, .inr (3, [.int 0, .int (-1), .int mc, .ref pa])), (pa, .inr (4, [.int mc, .ref el, .int 6]))]) [0, 1] rfl
  have hDc := hD.sub (ws' := [(it, .inr (3, [.int 0, .int (-1), .int mc, .ref pa])), (pa, .inr (4, [.int mc, .ref el, .int 6]))]) [0, 1] (by decide) rfl
  have hFc := va_free (wc := [(it, .inr (3, [.int 0, .int (-1), .int mc, .ref pa])), (pa, .inr (4, [.int mc, .ref el, .int 6]))]) hD hS hA [0, 1] rfl
  refine va_callv (va_runV (As := []) (rest := []) ⟨hx, hb, hml, hown, hts⟩ (c_Itr_check l hst D cy ed s.heap.size it pa el 0 (-1) mc 6) (cwV 0 hts (zx_GV mm_1711 mm_1712 mm_1713 mm_93 mm_1714) rfl rfl rfl (by decide +kernel) ⟨(Nat.le_of_ble_eq_true rfl), (Nat.le_of_ble_eq_true rfl)⟩) ⟨zx_blind, va_recv hK hPc (ci := 3) (q0 := 0) rfl rfl, zx_give hPc hK hDc hS hFc hZ hN⟩ rfl rfl hl.1 rfl (lv_room (Nat.le_of_ble_eq_true rfl)) dJx35411_next_0502b_1 ⟨(Nat.le_of_ble_eq_true rfl), (Nat.le_of_ble_eq_true rfl)⟩) hS (fun q _ h => hFc q h) hFc (fun u t H1 locs ht hvm hw hB hz1 hk1 hS => ?_)
  obtain ⟨hP, hD⟩ := zx_join (wr := [(el, .inl (cy 2, 10, .inr (.inr (.inr (.inr g)))))]) (w1 := [(it, .inr (3, [.int 0, .int (-1), .int mc, .ref pa])), (pa, .inr (4, [.int mc, .ref el, .int 6]))]) [0, 1] [2] rfl rfl (by decide) (by decide) hP hD hk1 hFc hB ht
  generalize H1 = H at hP hS ⊢
  have hP : va_P D vwCl [(el, .inl (cy 2, 10, .inr (.inr (.inr (.inr g))))), (it, .inr (3, [.int 0, .int (-1), .int mc, .ref pa])), (pa, .inr (4, [.int mc, .ref el, .int 6]))] H := hP
  have hD : va_D A [(el, .inl (cy 2, 10, .inr (.inr (.inr (.inr g))))), (it, .inr (3, [.int 0, .int (-1), .int mc, .ref pa])), (pa, .inr (4, [.int mc, .ref el, .int 6]))] := hD
  refine W.widen (k := 0) (n := 0) (Nat.le_of_ble_eq_true rfl) (Nat.le_of_ble_eq_true rfl) ?_
  refine lv_aload_n hx hb dJx35411_next_0502b_4 rfl (lv_at hl 0 rfl) ?_
  refine va_get (D := D) (ci := 3) (v := .int 0) (C := RJx35411) (T := TJx35411) (N := 4) hx hb hts (fun w h => zx_Gc (uz_Jx35411 w h)) hown hK hP 1 rfl rfl 0 (by decide) (hts (.fieldLink RJx35411 25 "java/util/ArrayList$Itr" "cursor" "I") (zx_Gc mm_1679)) (fun _ h9 => h9) rfl dJx35411_next_0502b_5 ?_
  refine lv_istore_n (lv' := [(1, .int 0), (0, .ref it)]) hx hb dJx35411_next_0502b_8 rfl hl (by decide) rfl (fun ls hl => ?_)
  refine lv_iload_n hx hb dJx35411_next_0502b_9 rfl (lv_at hl 0 rfl) ?_
  refine lv_aload_n hx hb dJx35411_next_0502b_10 rfl (lv_at hl 1 rfl) ?_
  refine va_get (D := D) (ci := 3) (v := .ref pa) (C := RJx35411) (T := TJx35411) (N := 4) hx hb hts (fun w h => zx_Gc (uz_Jx35411 w h)) hown hK hP 1 rfl rfl 3 (by decide) (hts (.fieldLink RJx35411 1 "java/util/ArrayList$Itr" "this$0" "Ljava/util/ArrayList;") (zx_Gc mm_1682)) (fun _ h9 => h9) rfl dJx35411_next_0502b_11 ?_
  refine va_getN (host := "java/util/ArrayList") (ref := "java/util/ArrayList") (D := D) (ci := 4) (v := .int 6) (C := RJx4a65c) (T := TJx4a65c) (N := 3) hx hb hts (fun w h => zx_Gc (uz_Jx4a65c w h)) hown hK hP 2 rfl rfl 2 (by decide) (va_Nw.use rfl (hN.1 _ _ _ _ _ _ (List.mem_of_getElem? (i := 215) (by decide +kernel)))) (fun _ h9 => h9) rfl dJx35411_next_0502b_14 ?_
  refine lv_icmp_lt (tgt := 28) hx hb dJx35411_next_0502b_17 (by decide) (fun _ => ?_) (fun c_164 => absurd (by decide) c_164)
  refine lv_aload_n hx hb dJx35411_next_0502b_28 rfl (lv_at hl 1 rfl) ?_
  refine va_get (D := D) (ci := 3) (v := .ref pa) (C := RJx35411) (T := TJx35411) (N := 4) hx hb hts (fun w h => zx_Gc (uz_Jx35411 w h)) hown hK hP 1 rfl rfl 3 (by decide) (hts (.fieldLink RJx35411 1 "java/util/ArrayList$Itr" "this$0" "Ljava/util/ArrayList;") (zx_Gc mm_1682)) (fun _ h9 => h9) rfl dJx35411_next_0502b_29 ?_
  refine va_get (D := D) (ci := 4) (v := .ref el) (C := RJx4a65c) (T := TJx4a65c) (N := 3) hx hb hts (fun w h => zx_Gc (uz_Jx4a65c w h)) hown hK hP 2 rfl rfl 1 (by decide) (hts (.fieldLink RJx35411 37 "java/util/ArrayList" "elementData" "[Ljava/lang/Object;") (zx_Gc mm_214)) (fun _ h9 => h9) rfl dJx35411_next_0502b_32 ?_
  refine lv_astore_n (lv' := [(2, .ref el), (1, .int 0), (0, .ref it)]) hx hb dJx35411_next_0502b_35 rfl hl (by decide) rfl (fun ls hl => ?_)
  refine lv_iload_n hx hb dJx35411_next_0502b_36 rfl (lv_at hl 1 rfl) ?_
  refine lv_aload_n hx hb dJx35411_next_0502b_37 rfl (lv_at hl 0 rfl) ?_
  refine va_alen (v := 10) hx hb hK hP 0 2 rfl rfl (show Int32.ofNat 10 = 10 from by decide) dJx35411_next_0502b_38 ?_
  refine lv_icmp_lt (tgt := 50) hx hb dJx35411_next_0502b_39 (by decide) (fun _ => ?_) (fun c_165 => absurd (by decide) c_165)
  refine lv_aload_n hx hb dJx35411_next_0502b_50 rfl (lv_at hl 2 rfl) ?_
  refine lv_iload_n hx hb dJx35411_next_0502b_51 rfl (lv_at hl 1 rfl) ?_
  refine lv_iconst (v := 1) hx hb dJx35411_next_0502b_52 (by decide) ?_
  refine lv_iadd hx hb dJx35411_next_0502b_53 ?_
  refine lv_topi (fun y9 ey9 => ?_)
  obtain rfl : y9 = 1 := by rw [ey9] <;> decide
  refine va_put (D := D) (ci := 3) (v := .int 1) (ty := .int) (C := RJx35411) (T := TJx35411) (N := 4) hx hb hts (fun w h => zx_Gc (uz_Jx35411 w h)) tyJx35411 tyJx35411_ok nmJx35411 hown hK hP hD hS 1 rfl rfl 0 (by decide) (hts (.fieldLink RJx35411 25 "java/util/ArrayList$Itr" "cursor" "I") (zx_Gc mm_1679)) (fun _ h9 => h9) rfl (by decide +kernel) rfl rfl (Nat.le_of_ble_eq_true rfl) dJx35411_next_0502b_54 (fun H locs hP hD hS => ?_)
  have hP : va_P D vwCl [(el, .inl (cy 2, 10, .inr (.inr (.inr (.inr g))))), (it, .inr (3, [.int 1, .int (-1), .int mc, .ref pa])), (pa, .inr (4, [.int mc, .ref el, .int 6]))] H := hP
  have hD : va_D A [(el, .inl (cy 2, 10, .inr (.inr (.inr (.inr g))))), (it, .inr (3, [.int 1, .int (-1), .int mc, .ref pa])), (pa, .inr (4, [.int mc, .ref el, .int 6]))] := hD
  refine lv_aload_n hx hb dJx35411_next_0502b_57 rfl (lv_at hl 0 rfl) ?_
  refine lv_aload_n hx hb dJx35411_next_0502b_58 rfl (lv_at hl 2 rfl) ?_
  refine lv_iload_n hx hb dJx35411_next_0502b_59 rfl (lv_at hl 1 rfl) ?_
  refine lv_dup_x1 hx hb dJx35411_next_0502b_60 rfl rfl ?_
  refine va_put (D := D) (ci := 3) (v := .int 0) (ty := .int) (C := RJx35411) (T := TJx35411) (N := 4) hx hb hts (fun w h => zx_Gc (uz_Jx35411 w h)) tyJx35411 tyJx35411_ok nmJx35411 hown hK hP hD hS 1 rfl rfl 1 (by decide) (hts (.fieldLink RJx35411 13 "java/util/ArrayList$Itr" "lastRet" "I") (zx_Gc mm_1680)) (fun _ h9 => h9) rfl (by decide +kernel) rfl rfl (Nat.le_of_ble_eq_true rfl) dJx35411_next_0502b_61 (fun H locs hP hD hS => ?_)
  have hP : va_P D vwCl [(el, .inl (cy 2, 10, .inr (.inr (.inr (.inr g))))), (it, .inr (3, [.int 1, .int 0, .int mc, .ref pa])), (pa, .inr (4, [.int mc, .ref el, .int 6]))] H := hP
  have hD : va_D A [(el, .inl (cy 2, 10, .inr (.inr (.inr (.inr g))))), (it, .inr (3, [.int 1, .int 0, .int mc, .ref pa])), (pa, .inr (4, [.int mc, .ref el, .int 6]))] := hD
  refine zx_aldq (v := v) hx hb hK hP 0 2 rfl rfl (zx_bn (by decide)) hv dJx35411_next_0502b_64 ?_
  have hP9 := hP.sub (ws' := [(it, .inr (3, [.int 1, .int 0, .int mc, .ref pa])), (pa, .inr (4, [.int mc, .ref el, .int 6])), (el, .inl (cy 2, 10, .inr (.inr (.inr (.inr g)))))]) [1, 2, 0] rfl
  have hD9 := hD.sub (ws' := [(it, .inr (3, [.int 1, .int 0, .int mc, .ref pa])), (pa, .inr (4, [.int mc, .ref el, .int 6])), (el, .inl (cy 2, 10, .inr (.inr (.inr (.inr g)))))]) [1, 2, 0] (by decide) rfl
  exact W.aret (v := .ref v) hx hb hr (.inl ⟨_, rfl⟩) (.inr ⟨_, rfl⟩) (fun t ht hW => ⟨⟨(), v, rfl, trivial, ⟨rfl, zx_fin hP9 hD9 hK ht hW⟩⟩, hS.F ht⟩) hS.2.2 dJx35411_next_0502b_65
set_option maxHeartbeats 4000000 in
set_option maxRecDepth 100000 in
theorem c_Itr_next_1 (l : Launch) (hst : l.stackTraces = false) (D : va_G) (cy : Nat → ClassId) (ed sz : Nat) (it : Nat) (pa : Nat) (el : Nat) (mc : Int32) (g : Nat → Option Nat) (v : Nat) (hv : g 1 = some v) : Met l yJx35411_next_0502b wzJx35411_next_0502b ({ frames := 1, cells := 0, slots := 0, locals := 20 }) (zx_Pc D cy ed sz [.ref it] [(it, .inr (3, [.int 1, .int 0, .int mc, .ref pa])), (pa, .inr (4, [.int mc, .ref el, .int 6])), (el, .inl (cy 2, 10, .inr (.inr (.inr (.inr g)))))]) (va_Qr (fun (u9 : Unit) => True) (fun (u9 : Unit) (ra9 : Nat) (t9 : State) => v = ra9 ∧ zx_At D cy (va_A [(it, .inr (3, [.int 1, .int 0, .int mc, .ref pa])), (pa, .inr (4, [.int mc, .ref el, .int 6])), (el, .inl (cy 2, 10, .inr (.inr (.inr (.inr g)))))] sz) [(it, .inr (3, [.int 2, .int 1, .int mc, .ref pa])), (pa, .inr (4, [.int mc, .ref el, .int 6])), (el, .inl (cy 2, 10, .inr (.inr (.inr (.inr g)))))] t9) (va_A [(it, .inr (3, [.int 1, .int 0, .int mc, .ref pa])), (pa, .inr (4, [.int mc, .ref el, .int 6])), (el, .inl (cy 2, 10, .inr (.inr (.inr (.inr g)))))] sz)) 0 0 (va_A [(it, .inr (3, [.int 1, .int 0, .int mc, .ref pa])), (pa, .inr (4, [.int mc, .ref el, .int 6])), (el, .inl (cy 2, 10, .inr (.inr (.inr (.inr g)))))] sz) := by
  refine Met.ofW (cc := cJx35411_next_0502b) (maxL := 3) (ret := (some (.object "java/lang/Object"))) (by decide) rfl ?_
  intro p e s m args below meth c s₁ B hml hv
  obtain ⟨rfl, hsz, hP, hK, hD0, hZ, hN⟩ := hv
  have hx := B.exec
  have hb := B.bytes
  have hr := B.returns
  have hts := atoms_spec (ws := wzJx35411_next_0502b) B.pre
  have hown : s.vm.findClass RJx35411 = some m.cls := findClass_of_methodNamed B.named
  have hlocks := B.notSynchronized
  subst hsz
  have hD := hD0.self (sz := s.heap.size)
  generalize hAe : va_A [(it, .inr (3, [.int 1, .int 0, .int mc, .ref pa])), (pa, .inr (4, [.int mc, .ref el, .int 6])), (el, .inl (cy 2, 10, .inr (.inr (.inr (.inr g)))))] s.heap.size = A at hD hZ ⊢
  have hA : ∀ q : Nat, s.heap.size ≤ q → A q := fun q h => by rw [← hAe]; exact Or.inr h
  have hS : va_S A s.heap s.heap [] := va_S.rf
  have hP : va_P D vwCl [(it, .inr (3, [.int 1, .int 0, .int mc, .ref pa])), (pa, .inr (4, [.int mc, .ref el, .int 6])), (el, .inl (cy 2, 10, .inr (.inr (.inr (.inr g)))))] s.heap := hP
  have hl := lv_entry ([.ref it]) (n := 3) (Nat.le_of_ble_eq_true rfl)
  rw [lg_entry_eq]
  generalize (lg_sl ([.ref it]) ++ List.replicate (3 - (lg_sl ([.ref it])).length) Slot.unset).toArray = ls at hl ⊢
  have hl : lv_has ls 3 [(0, .ref it)] := hl
  refine lv_aload_n hx hb dJx35411_next_0502b_0 rfl (lv_at hl 0 rfl) ?_
  have hPc := hP.sub (ws' := [(it, .inr (3, [.int 1, .int 0, .int mc, .ref pa])), (pa, .inr (4, [.int mc, .ref el, .int 6]))]) [0, 1] rfl
  have hDc := hD.sub (ws' := [(it, .inr (3, [.int 1, .int 0, .int mc, .ref pa])), (pa, .inr (4, [.int mc, .ref el, .int 6]))]) [0, 1] (by decide) rfl
  have hFc := va_free (wc := [(it, .inr (3, [.int 1, .int 0, .int mc, .ref pa])), (pa, .inr (4, [.int mc, .ref el, .int 6]))]) hD hS hA [0, 1] rfl
  refine va_callv (va_runV (As := []) (rest := []) ⟨hx, hb, hml, hown, hts⟩ (c_Itr_check l hst D cy ed s.heap.size it pa el 1 0 mc 6) (cwV 0 hts (zx_GV mm_1711 mm_1712 mm_1713 mm_93 mm_1714) rfl rfl rfl (by decide +kernel) ⟨(Nat.le_of_ble_eq_true rfl), (Nat.le_of_ble_eq_true rfl)⟩) ⟨zx_blind, va_recv hK hPc (ci := 3) (q0 := 0) rfl rfl, zx_give hPc hK hDc hS hFc hZ hN⟩ rfl rfl hl.1 rfl (lv_room (Nat.le_of_ble_eq_true rfl)) dJx35411_next_0502b_1 ⟨(Nat.le_of_ble_eq_true rfl), (Nat.le_of_ble_eq_true rfl)⟩) hS (fun q _ h => hFc q h) hFc (fun u t H1 locs ht hvm hw hB hz1 hk1 hS => ?_)
  obtain ⟨hP, hD⟩ := zx_join (wr := [(el, .inl (cy 2, 10, .inr (.inr (.inr (.inr g)))))]) (w1 := [(it, .inr (3, [.int 1, .int 0, .int mc, .ref pa])), (pa, .inr (4, [.int mc, .ref el, .int 6]))]) [0, 1] [2] rfl rfl (by decide) (by decide) hP hD hk1 hFc hB ht
  generalize H1 = H at hP hS ⊢
  have hP : va_P D vwCl [(el, .inl (cy 2, 10, .inr (.inr (.inr (.inr g))))), (it, .inr (3, [.int 1, .int 0, .int mc, .ref pa])), (pa, .inr (4, [.int mc, .ref el, .int 6]))] H := hP
  have hD : va_D A [(el, .inl (cy 2, 10, .inr (.inr (.inr (.inr g))))), (it, .inr (3, [.int 1, .int 0, .int mc, .ref pa])), (pa, .inr (4, [.int mc, .ref el, .int 6]))] := hD
  refine W.widen (k := 0) (n := 0) (Nat.le_of_ble_eq_true rfl) (Nat.le_of_ble_eq_true rfl) ?_
  refine lv_aload_n hx hb dJx35411_next_0502b_4 rfl (lv_at hl 0 rfl) ?_
  refine va_get (D := D) (ci := 3) (v := .int 1) (C := RJx35411) (T := TJx35411) (N := 4) hx hb hts (fun w h => zx_Gc (uz_Jx35411 w h)) hown hK hP 1 rfl rfl 0 (by decide) (hts (.fieldLink RJx35411 25 "java/util/ArrayList$Itr" "cursor" "I") (zx_Gc mm_1679)) (fun _ h9 => h9) rfl dJx35411_next_0502b_5 ?_
  refine lv_istore_n (lv' := [(1, .int 1), (0, .ref it)]) hx hb dJx35411_next_0502b_8 rfl hl (by decide) rfl (fun ls hl => ?_)
  refine lv_iload_n hx hb dJx35411_next_0502b_9 rfl (lv_at hl 0 rfl) ?_
  refine lv_aload_n hx hb dJx35411_next_0502b_10 rfl (lv_at hl 1 rfl) ?_
  refine va_get (D := D) (ci := 3) (v := .ref pa) (C := RJx35411) (T := TJx35411) (N := 4) hx hb hts (fun w h => zx_Gc (uz_Jx35411 w h)) hown hK hP 1 rfl rfl 3 (by decide) (hts (.fieldLink RJx35411 1 "java/util/ArrayList$Itr" "this$0" "Ljava/util/ArrayList;") (zx_Gc mm_1682)) (fun _ h9 => h9) rfl dJx35411_next_0502b_11 ?_
  refine va_getN (host := "java/util/ArrayList") (ref := "java/util/ArrayList") (D := D) (ci := 4) (v := .int 6) (C := RJx4a65c) (T := TJx4a65c) (N := 3) hx hb hts (fun w h => zx_Gc (uz_Jx4a65c w h)) hown hK hP 2 rfl rfl 2 (by decide) (va_Nw.use rfl (hN.1 _ _ _ _ _ _ (List.mem_of_getElem? (i := 215) (by decide +kernel)))) (fun _ h9 => h9) rfl dJx35411_next_0502b_14 ?_
  refine lv_icmp_lt (tgt := 28) hx hb dJx35411_next_0502b_17 (by decide) (fun _ => ?_) (fun c_166 => absurd (by decide) c_166)
  refine lv_aload_n hx hb dJx35411_next_0502b_28 rfl (lv_at hl 1 rfl) ?_
  refine va_get (D := D) (ci := 3) (v := .ref pa) (C := RJx35411) (T := TJx35411) (N := 4) hx hb hts (fun w h => zx_Gc (uz_Jx35411 w h)) hown hK hP 1 rfl rfl 3 (by decide) (hts (.fieldLink RJx35411 1 "java/util/ArrayList$Itr" "this$0" "Ljava/util/ArrayList;") (zx_Gc mm_1682)) (fun _ h9 => h9) rfl dJx35411_next_0502b_29 ?_
  refine va_get (D := D) (ci := 4) (v := .ref el) (C := RJx4a65c) (T := TJx4a65c) (N := 3) hx hb hts (fun w h => zx_Gc (uz_Jx4a65c w h)) hown hK hP 2 rfl rfl 1 (by decide) (hts (.fieldLink RJx35411 37 "java/util/ArrayList" "elementData" "[Ljava/lang/Object;") (zx_Gc mm_214)) (fun _ h9 => h9) rfl dJx35411_next_0502b_32 ?_
  refine lv_astore_n (lv' := [(2, .ref el), (1, .int 1), (0, .ref it)]) hx hb dJx35411_next_0502b_35 rfl hl (by decide) rfl (fun ls hl => ?_)
  refine lv_iload_n hx hb dJx35411_next_0502b_36 rfl (lv_at hl 1 rfl) ?_
  refine lv_aload_n hx hb dJx35411_next_0502b_37 rfl (lv_at hl 0 rfl) ?_
  refine va_alen (v := 10) hx hb hK hP 0 2 rfl rfl (show Int32.ofNat 10 = 10 from by decide) dJx35411_next_0502b_38 ?_
  refine lv_icmp_lt (tgt := 50) hx hb dJx35411_next_0502b_39 (by decide) (fun _ => ?_) (fun c_167 => absurd (by decide) c_167)
  refine lv_aload_n hx hb dJx35411_next_0502b_50 rfl (lv_at hl 2 rfl) ?_
  refine lv_iload_n hx hb dJx35411_next_0502b_51 rfl (lv_at hl 1 rfl) ?_
  refine lv_iconst (v := 1) hx hb dJx35411_next_0502b_52 (by decide) ?_
  refine lv_iadd hx hb dJx35411_next_0502b_53 ?_
  refine lv_topi (fun y9 ey9 => ?_)
  obtain rfl : y9 = 2 := by rw [ey9] <;> decide
  refine va_put (D := D) (ci := 3) (v := .int 2) (ty := .int) (C := RJx35411) (T := TJx35411) (N := 4) hx hb hts (fun w h => zx_Gc (uz_Jx35411 w h)) tyJx35411 tyJx35411_ok nmJx35411 hown hK hP hD hS 1 rfl rfl 0 (by decide) (hts (.fieldLink RJx35411 25 "java/util/ArrayList$Itr" "cursor" "I") (zx_Gc mm_1679)) (fun _ h9 => h9) rfl (by decide +kernel) rfl rfl (Nat.le_of_ble_eq_true rfl) dJx35411_next_0502b_54 (fun H locs hP hD hS => ?_)
  have hP : va_P D vwCl [(el, .inl (cy 2, 10, .inr (.inr (.inr (.inr g))))), (it, .inr (3, [.int 2, .int 0, .int mc, .ref pa])), (pa, .inr (4, [.int mc, .ref el, .int 6]))] H := hP
  have hD : va_D A [(el, .inl (cy 2, 10, .inr (.inr (.inr (.inr g))))), (it, .inr (3, [.int 2, .int 0, .int mc, .ref pa])), (pa, .inr (4, [.int mc, .ref el, .int 6]))] := hD
  refine lv_aload_n hx hb dJx35411_next_0502b_57 rfl (lv_at hl 0 rfl) ?_
  refine lv_aload_n hx hb dJx35411_next_0502b_58 rfl (lv_at hl 2 rfl) ?_
  refine lv_iload_n hx hb dJx35411_next_0502b_59 rfl (lv_at hl 1 rfl) ?_
  refine lv_dup_x1 hx hb dJx35411_next_0502b_60 rfl rfl ?_
  refine va_put (D := D) (ci := 3) (v := .int 1) (ty := .int) (C := RJx35411) (T := TJx35411) (N := 4) hx hb hts (fun w h => zx_Gc (uz_Jx35411 w h)) tyJx35411 tyJx35411_ok nmJx35411 hown hK hP hD hS 1 rfl rfl 1 (by decide) (hts (.fieldLink RJx35411 13 "java/util/ArrayList$Itr" "lastRet" "I") (zx_Gc mm_1680)) (fun _ h9 => h9) rfl (by decide +kernel) rfl rfl (Nat.le_of_ble_eq_true rfl) dJx35411_next_0502b_61 (fun H locs hP hD hS => ?_)
  have hP : va_P D vwCl [(el, .inl (cy 2, 10, .inr (.inr (.inr (.inr g))))), (it, .inr (3, [.int 2, .int 1, .int mc, .ref pa])), (pa, .inr (4, [.int mc, .ref el, .int 6]))] H := hP
  have hD : va_D A [(el, .inl (cy 2, 10, .inr (.inr (.inr (.inr g))))), (it, .inr (3, [.int 2, .int 1, .int mc, .ref pa])), (pa, .inr (4, [.int mc, .ref el, .int 6]))] := hD
  refine zx_aldq (v := v) hx hb hK hP 0 2 rfl rfl (zx_bn (by decide)) hv dJx35411_next_0502b_64 ?_
  have hP9 := hP.sub (ws' := [(it, .inr (3, [.int 2, .int 1, .int mc, .ref pa])), (pa, .inr (4, [.int mc, .ref el, .int 6])), (el, .inl (cy 2, 10, .inr (.inr (.inr (.inr g)))))]) [1, 2, 0] rfl
  have hD9 := hD.sub (ws' := [(it, .inr (3, [.int 2, .int 1, .int mc, .ref pa])), (pa, .inr (4, [.int mc, .ref el, .int 6])), (el, .inl (cy 2, 10, .inr (.inr (.inr (.inr g)))))]) [1, 2, 0] (by decide) rfl
  exact W.aret (v := .ref v) hx hb hr (.inl ⟨_, rfl⟩) (.inr ⟨_, rfl⟩) (fun t ht hW => ⟨⟨(), v, rfl, trivial, ⟨rfl, zx_fin hP9 hD9 hK ht hW⟩⟩, hS.F ht⟩) hS.2.2 dJx35411_next_0502b_65
set_option maxHeartbeats 4000000 in
set_option maxRecDepth 100000 in
theorem c_Itr_next_2 (l : Launch) (hst : l.stackTraces = false) (D : va_G) (cy : Nat → ClassId) (ed sz : Nat) (it : Nat) (pa : Nat) (el : Nat) (mc : Int32) (g : Nat → Option Nat) (v : Nat) (hv : g 2 = some v) : Met l yJx35411_next_0502b wzJx35411_next_0502b ({ frames := 1, cells := 0, slots := 0, locals := 20 }) (zx_Pc D cy ed sz [.ref it] [(it, .inr (3, [.int 2, .int 1, .int mc, .ref pa])), (pa, .inr (4, [.int mc, .ref el, .int 6])), (el, .inl (cy 2, 10, .inr (.inr (.inr (.inr g)))))]) (va_Qr (fun (u9 : Unit) => True) (fun (u9 : Unit) (ra9 : Nat) (t9 : State) => v = ra9 ∧ zx_At D cy (va_A [(it, .inr (3, [.int 2, .int 1, .int mc, .ref pa])), (pa, .inr (4, [.int mc, .ref el, .int 6])), (el, .inl (cy 2, 10, .inr (.inr (.inr (.inr g)))))] sz) [(it, .inr (3, [.int 3, .int 2, .int mc, .ref pa])), (pa, .inr (4, [.int mc, .ref el, .int 6])), (el, .inl (cy 2, 10, .inr (.inr (.inr (.inr g)))))] t9) (va_A [(it, .inr (3, [.int 2, .int 1, .int mc, .ref pa])), (pa, .inr (4, [.int mc, .ref el, .int 6])), (el, .inl (cy 2, 10, .inr (.inr (.inr (.inr g)))))] sz)) 0 0 (va_A [(it, .inr (3, [.int 2, .int 1, .int mc, .ref pa])), (pa, .inr (4, [.int mc, .ref el, .int 6])), (el, .inl (cy 2, 10, .inr (.inr (.inr (.inr g)))))] sz) := by
  refine Met.ofW (cc := cJx35411_next_0502b) (maxL := 3) (ret := (some (.object "java/lang/Object"))) (by decide) rfl ?_
  intro p e s m args below meth c s₁ B hml hv
  obtain ⟨rfl, hsz, hP, hK, hD0, hZ, hN⟩ := hv
  have hx := B.exec
  have hb := B.bytes
  have hr := B.returns
  have hts := atoms_spec (ws := wzJx35411_next_0502b) B.pre
  have hown : s.vm.findClass RJx35411 = some m.cls := findClass_of_methodNamed B.named
  have hlocks := B.notSynchronized
  subst hsz
  have hD := hD0.self (sz := s.heap.size)
  generalize hAe : va_A [(it, .inr (3, [.int 2, .int 1, .int mc, .ref pa])), (pa, .inr (4, [.int mc, .ref el, .int 6])), (el, .inl (cy 2, 10, .inr (.inr (.inr (.inr g)))))] s.heap.size = A at hD hZ ⊢
  have hA : ∀ q : Nat, s.heap.size ≤ q → A q := fun q h => by rw [← hAe]; exact Or.inr h
  have hS : va_S A s.heap s.heap [] := va_S.rf
  have hP : va_P D vwCl [(it, .inr (3, [.int 2, .int 1, .int mc, .ref pa])), (pa, .inr (4, [.int mc, .ref el, .int 6])), (el, .inl (cy 2, 10, .inr (.inr (.inr (.inr g)))))] s.heap := hP
  have hl := lv_entry ([.ref it]) (n := 3) (Nat.le_of_ble_eq_true rfl)
  rw [lg_entry_eq]
  generalize (lg_sl ([.ref it]) ++ List.replicate (3 - (lg_sl ([.ref it])).length) Slot.unset).toArray = ls at hl ⊢
  have hl : lv_has ls 3 [(0, .ref it)] := hl
  refine lv_aload_n hx hb dJx35411_next_0502b_0 rfl (lv_at hl 0 rfl) ?_
  have hPc := hP.sub (ws' := [(it, .inr (3, [.int 2, .int 1, .int mc, .ref pa])), (pa, .inr (4, [.int mc, .ref el, .int 6]))]) [0, 1] rfl
  have hDc := hD.sub (ws' := [(it, .inr (3, [.int 2, .int 1, .int mc, .ref pa])), (pa, .inr (4, [.int mc, .ref el, .int 6]))]) [0, 1] (by decide) rfl
  have hFc := va_free (wc := [(it, .inr (3, [.int 2, .int 1, .int mc, .ref pa])), (pa, .inr (4, [.int mc, .ref el, .int 6]))]) hD hS hA [0, 1] rfl
  refine va_callv (va_runV (As := []) (rest := []) ⟨hx, hb, hml, hown, hts⟩ (c_Itr_check l hst D cy ed s.heap.size it pa el 2 1 mc 6) (cwV 0 hts (zx_GV mm_1711 mm_1712 mm_1713 mm_93 mm_1714) rfl rfl rfl (by decide +kernel) ⟨(Nat.le_of_ble_eq_true rfl), (Nat.le_of_ble_eq_true rfl)⟩) ⟨zx_blind, va_recv hK hPc (ci := 3) (q0 := 0) rfl rfl, zx_give hPc hK hDc hS hFc hZ hN⟩ rfl rfl hl.1 rfl (lv_room (Nat.le_of_ble_eq_true rfl)) dJx35411_next_0502b_1 ⟨(Nat.le_of_ble_eq_true rfl), (Nat.le_of_ble_eq_true rfl)⟩) hS (fun q _ h => hFc q h) hFc (fun u t H1 locs ht hvm hw hB hz1 hk1 hS => ?_)
  obtain ⟨hP, hD⟩ := zx_join (wr := [(el, .inl (cy 2, 10, .inr (.inr (.inr (.inr g)))))]) (w1 := [(it, .inr (3, [.int 2, .int 1, .int mc, .ref pa])), (pa, .inr (4, [.int mc, .ref el, .int 6]))]) [0, 1] [2] rfl rfl (by decide) (by decide) hP hD hk1 hFc hB ht
  generalize H1 = H at hP hS ⊢
  have hP : va_P D vwCl [(el, .inl (cy 2, 10, .inr (.inr (.inr (.inr g))))), (it, .inr (3, [.int 2, .int 1, .int mc, .ref pa])), (pa, .inr (4, [.int mc, .ref el, .int 6]))] H := hP
  have hD : va_D A [(el, .inl (cy 2, 10, .inr (.inr (.inr (.inr g))))), (it, .inr (3, [.int 2, .int 1, .int mc, .ref pa])), (pa, .inr (4, [.int mc, .ref el, .int 6]))] := hD
  refine W.widen (k := 0) (n := 0) (Nat.le_of_ble_eq_true rfl) (Nat.le_of_ble_eq_true rfl) ?_
  refine lv_aload_n hx hb dJx35411_next_0502b_4 rfl (lv_at hl 0 rfl) ?_
  refine va_get (D := D) (ci := 3) (v := .int 2) (C := RJx35411) (T := TJx35411) (N := 4) hx hb hts (fun w h => zx_Gc (uz_Jx35411 w h)) hown hK hP 1 rfl rfl 0 (by decide) (hts (.fieldLink RJx35411 25 "java/util/ArrayList$Itr" "cursor" "I") (zx_Gc mm_1679)) (fun _ h9 => h9) rfl dJx35411_next_0502b_5 ?_
  refine lv_istore_n (lv' := [(1, .int 2), (0, .ref it)]) hx hb dJx35411_next_0502b_8 rfl hl (by decide) rfl (fun ls hl => ?_)
  refine lv_iload_n hx hb dJx35411_next_0502b_9 rfl (lv_at hl 0 rfl) ?_
  refine lv_aload_n hx hb dJx35411_next_0502b_10 rfl (lv_at hl 1 rfl) ?_
  refine va_get (D := D) (ci := 3) (v := .ref pa) (C := RJx35411) (T := TJx35411) (N := 4) hx hb hts (fun w h => zx_Gc (uz_Jx35411 w h)) hown hK hP 1 rfl rfl 3 (by decide) (hts (.fieldLink RJx35411 1 "java/util/ArrayList$Itr" "this$0" "Ljava/util/ArrayList;") (zx_Gc mm_1682)) (fun _ h9 => h9) rfl dJx35411_next_0502b_11 ?_
  refine va_getN (host := "java/util/ArrayList") (ref := "java/util/ArrayList") (D := D) (ci := 4) (v := .int 6) (C := RJx4a65c) (T := TJx4a65c) (N := 3) hx hb hts (fun w h => zx_Gc (uz_Jx4a65c w h)) hown hK hP 2 rfl rfl 2 (by decide) (va_Nw.use rfl (hN.1 _ _ _ _ _ _ (List.mem_of_getElem? (i := 215) (by decide +kernel)))) (fun _ h9 => h9) rfl dJx35411_next_0502b_14 ?_
  refine lv_icmp_lt (tgt := 28) hx hb dJx35411_next_0502b_17 (by decide) (fun _ => ?_) (fun c_168 => absurd (by decide) c_168)
  refine lv_aload_n hx hb dJx35411_next_0502b_28 rfl (lv_at hl 1 rfl) ?_
  refine va_get (D := D) (ci := 3) (v := .ref pa) (C := RJx35411) (T := TJx35411) (N := 4) hx hb hts (fun w h => zx_Gc (uz_Jx35411 w h)) hown hK hP 1 rfl rfl 3 (by decide) (hts (.fieldLink RJx35411 1 "java/util/ArrayList$Itr" "this$0" "Ljava/util/ArrayList;") (zx_Gc mm_1682)) (fun _ h9 => h9) rfl dJx35411_next_0502b_29 ?_
  refine va_get (D := D) (ci := 4) (v := .ref el) (C := RJx4a65c) (T := TJx4a65c) (N := 3) hx hb hts (fun w h => zx_Gc (uz_Jx4a65c w h)) hown hK hP 2 rfl rfl 1 (by decide) (hts (.fieldLink RJx35411 37 "java/util/ArrayList" "elementData" "[Ljava/lang/Object;") (zx_Gc mm_214)) (fun _ h9 => h9) rfl dJx35411_next_0502b_32 ?_
  refine lv_astore_n (lv' := [(2, .ref el), (1, .int 2), (0, .ref it)]) hx hb dJx35411_next_0502b_35 rfl hl (by decide) rfl (fun ls hl => ?_)
  refine lv_iload_n hx hb dJx35411_next_0502b_36 rfl (lv_at hl 1 rfl) ?_
  refine lv_aload_n hx hb dJx35411_next_0502b_37 rfl (lv_at hl 0 rfl) ?_
  refine va_alen (v := 10) hx hb hK hP 0 2 rfl rfl (show Int32.ofNat 10 = 10 from by decide) dJx35411_next_0502b_38 ?_
  refine lv_icmp_lt (tgt := 50) hx hb dJx35411_next_0502b_39 (by decide) (fun _ => ?_) (fun c_169 => absurd (by decide) c_169)
  refine lv_aload_n hx hb dJx35411_next_0502b_50 rfl (lv_at hl 2 rfl) ?_
  refine lv_iload_n hx hb dJx35411_next_0502b_51 rfl (lv_at hl 1 rfl) ?_
  refine lv_iconst (v := 1) hx hb dJx35411_next_0502b_52 (by decide) ?_
  refine lv_iadd hx hb dJx35411_next_0502b_53 ?_
  refine lv_topi (fun y9 ey9 => ?_)
  obtain rfl : y9 = 3 := by rw [ey9] <;> decide
  refine va_put (D := D) (ci := 3) (v := .int 3) (ty := .int) (C := RJx35411) (T := TJx35411) (N := 4) hx hb hts (fun w h => zx_Gc (uz_Jx35411 w h)) tyJx35411 tyJx35411_ok nmJx35411 hown hK hP hD hS 1 rfl rfl 0 (by decide) (hts (.fieldLink RJx35411 25 "java/util/ArrayList$Itr" "cursor" "I") (zx_Gc mm_1679)) (fun _ h9 => h9) rfl (by decide +kernel) rfl rfl (Nat.le_of_ble_eq_true rfl) dJx35411_next_0502b_54 (fun H locs hP hD hS => ?_)
  have hP : va_P D vwCl [(el, .inl (cy 2, 10, .inr (.inr (.inr (.inr g))))), (it, .inr (3, [.int 3, .int 1, .int mc, .ref pa])), (pa, .inr (4, [.int mc, .ref el, .int 6]))] H := hP
  have hD : va_D A [(el, .inl (cy 2, 10, .inr (.inr (.inr (.inr g))))), (it, .inr (3, [.int 3, .int 1, .int mc, .ref pa])), (pa, .inr (4, [.int mc, .ref el, .int 6]))] := hD
  refine lv_aload_n hx hb dJx35411_next_0502b_57 rfl (lv_at hl 0 rfl) ?_
  refine lv_aload_n hx hb dJx35411_next_0502b_58 rfl (lv_at hl 2 rfl) ?_
  refine lv_iload_n hx hb dJx35411_next_0502b_59 rfl (lv_at hl 1 rfl) ?_
  refine lv_dup_x1 hx hb dJx35411_next_0502b_60 rfl rfl ?_
  refine va_put (D := D) (ci := 3) (v := .int 2) (ty := .int) (C := RJx35411) (T := TJx35411) (N := 4) hx hb hts (fun w h => zx_Gc (uz_Jx35411 w h)) tyJx35411 tyJx35411_ok nmJx35411 hown hK hP hD hS 1 rfl rfl 1 (by decide) (hts (.fieldLink RJx35411 13 "java/util/ArrayList$Itr" "lastRet" "I") (zx_Gc mm_1680)) (fun _ h9 => h9) rfl (by decide +kernel) rfl rfl (Nat.le_of_ble_eq_true rfl) dJx35411_next_0502b_61 (fun H locs hP hD hS => ?_)
  have hP : va_P D vwCl [(el, .inl (cy 2, 10, .inr (.inr (.inr (.inr g))))), (it, .inr (3, [.int 3, .int 2, .int mc, .ref pa])), (pa, .inr (4, [.int mc, .ref el, .int 6]))] H := hP
  have hD : va_D A [(el, .inl (cy 2, 10, .inr (.inr (.inr (.inr g))))), (it, .inr (3, [.int 3, .int 2, .int mc, .ref pa])), (pa, .inr (4, [.int mc, .ref el, .int 6]))] := hD
  refine zx_aldq (v := v) hx hb hK hP 0 2 rfl rfl (zx_bn (by decide)) hv dJx35411_next_0502b_64 ?_
  have hP9 := hP.sub (ws' := [(it, .inr (3, [.int 3, .int 2, .int mc, .ref pa])), (pa, .inr (4, [.int mc, .ref el, .int 6])), (el, .inl (cy 2, 10, .inr (.inr (.inr (.inr g)))))]) [1, 2, 0] rfl
  have hD9 := hD.sub (ws' := [(it, .inr (3, [.int 3, .int 2, .int mc, .ref pa])), (pa, .inr (4, [.int mc, .ref el, .int 6])), (el, .inl (cy 2, 10, .inr (.inr (.inr (.inr g)))))]) [1, 2, 0] (by decide) rfl
  exact W.aret (v := .ref v) hx hb hr (.inl ⟨_, rfl⟩) (.inr ⟨_, rfl⟩) (fun t ht hW => ⟨⟨(), v, rfl, trivial, ⟨rfl, zx_fin hP9 hD9 hK ht hW⟩⟩, hS.F ht⟩) hS.2.2 dJx35411_next_0502b_65
set_option maxHeartbeats 4000000 in
set_option maxRecDepth 100000 in
theorem c_Itr_next_3 (l : Launch) (hst : l.stackTraces = false) (D : va_G) (cy : Nat → ClassId) (ed sz : Nat) (it : Nat) (pa : Nat) (el : Nat) (mc : Int32) (g : Nat → Option Nat) (v : Nat) (hv : g 3 = some v) : Met l yJx35411_next_0502b wzJx35411_next_0502b ({ frames := 1, cells := 0, slots := 0, locals := 20 }) (zx_Pc D cy ed sz [.ref it] [(it, .inr (3, [.int 3, .int 2, .int mc, .ref pa])), (pa, .inr (4, [.int mc, .ref el, .int 6])), (el, .inl (cy 2, 10, .inr (.inr (.inr (.inr g)))))]) (va_Qr (fun (u9 : Unit) => True) (fun (u9 : Unit) (ra9 : Nat) (t9 : State) => v = ra9 ∧ zx_At D cy (va_A [(it, .inr (3, [.int 3, .int 2, .int mc, .ref pa])), (pa, .inr (4, [.int mc, .ref el, .int 6])), (el, .inl (cy 2, 10, .inr (.inr (.inr (.inr g)))))] sz) [(it, .inr (3, [.int 4, .int 3, .int mc, .ref pa])), (pa, .inr (4, [.int mc, .ref el, .int 6])), (el, .inl (cy 2, 10, .inr (.inr (.inr (.inr g)))))] t9) (va_A [(it, .inr (3, [.int 3, .int 2, .int mc, .ref pa])), (pa, .inr (4, [.int mc, .ref el, .int 6])), (el, .inl (cy 2, 10, .inr (.inr (.inr (.inr g)))))] sz)) 0 0 (va_A [(it, .inr (3, [.int 3, .int 2, .int mc, .ref pa])), (pa, .inr (4, [.int mc, .ref el, .int 6])), (el, .inl (cy 2, 10, .inr (.inr (.inr (.inr g)))))] sz) := by
  refine Met.ofW (cc := cJx35411_next_0502b) (maxL := 3) (ret := (some (.object "java/lang/Object"))) (by decide) rfl ?_
  intro p e s m args below meth c s₁ B hml hv
  obtain ⟨rfl, hsz, hP, hK, hD0, hZ, hN⟩ := hv
  have hx := B.exec
  have hb := B.bytes
  have hr := B.returns
  have hts := atoms_spec (ws := wzJx35411_next_0502b) B.pre
  have hown : s.vm.findClass RJx35411 = some m.cls := findClass_of_methodNamed B.named
  have hlocks := B.notSynchronized
  subst hsz
  have hD := hD0.self (sz := s.heap.size)
  generalize hAe : va_A [(it, .inr (3, [.int 3, .int 2, .int mc, .ref pa])), (pa, .inr (4, [.int mc, .ref el, .int 6])), (el, .inl (cy 2, 10, .inr (.inr (.inr (.inr g)))))] s.heap.size = A at hD hZ ⊢
  have hA : ∀ q : Nat, s.heap.size ≤ q → A q := fun q h => by rw [← hAe]; exact Or.inr h
  have hS : va_S A s.heap s.heap [] := va_S.rf
  have hP : va_P D vwCl [(it, .inr (3, [.int 3, .int 2, .int mc, .ref pa])), (pa, .inr (4, [.int mc, .ref el, .int 6])), (el, .inl (cy 2, 10, .inr (.inr (.inr (.inr g)))))] s.heap := hP
  have hl := lv_entry ([.ref it]) (n := 3) (Nat.le_of_ble_eq_true rfl)
  rw [lg_entry_eq]
  generalize (lg_sl ([.ref it]) ++ List.replicate (3 - (lg_sl ([.ref it])).length) Slot.unset).toArray = ls at hl ⊢
  have hl : lv_has ls 3 [(0, .ref it)] := hl
  refine lv_aload_n hx hb dJx35411_next_0502b_0 rfl (lv_at hl 0 rfl) ?_
  have hPc := hP.sub (ws' := [(it, .inr (3, [.int 3, .int 2, .int mc, .ref pa])), (pa, .inr (4, [.int mc, .ref el, .int 6]))]) [0, 1] rfl
  have hDc := hD.sub (ws' := [(it, .inr (3, [.int 3, .int 2, .int mc, .ref pa])), (pa, .inr (4, [.int mc, .ref el, .int 6]))]) [0, 1] (by decide) rfl
  have hFc := va_free (wc := [(it, .inr (3, [.int 3, .int 2, .int mc, .ref pa])), (pa, .inr (4, [.int mc, .ref el, .int 6]))]) hD hS hA [0, 1] rfl
  refine va_callv (va_runV (As := []) (rest := []) ⟨hx, hb, hml, hown, hts⟩ (c_Itr_check l hst D cy ed s.heap.size it pa el 3 2 mc 6) (cwV 0 hts (zx_GV mm_1711 mm_1712 mm_1713 mm_93 mm_1714) rfl rfl rfl (by decide +kernel) ⟨(Nat.le_of_ble_eq_true rfl), (Nat.le_of_ble_eq_true rfl)⟩) ⟨zx_blind, va_recv hK hPc (ci := 3) (q0 := 0) rfl rfl, zx_give hPc hK hDc hS hFc hZ hN⟩ rfl rfl hl.1 rfl (lv_room (Nat.le_of_ble_eq_true rfl)) dJx35411_next_0502b_1 ⟨(Nat.le_of_ble_eq_true rfl), (Nat.le_of_ble_eq_true rfl)⟩) hS (fun q _ h => hFc q h) hFc (fun u t H1 locs ht hvm hw hB hz1 hk1 hS => ?_)
  obtain ⟨hP, hD⟩ := zx_join (wr := [(el, .inl (cy 2, 10, .inr (.inr (.inr (.inr g)))))]) (w1 := [(it, .inr (3, [.int 3, .int 2, .int mc, .ref pa])), (pa, .inr (4, [.int mc, .ref el, .int 6]))]) [0, 1] [2] rfl rfl (by decide) (by decide) hP hD hk1 hFc hB ht
  generalize H1 = H at hP hS ⊢
  have hP : va_P D vwCl [(el, .inl (cy 2, 10, .inr (.inr (.inr (.inr g))))), (it, .inr (3, [.int 3, .int 2, .int mc, .ref pa])), (pa, .inr (4, [.int mc, .ref el, .int 6]))] H := hP
  have hD : va_D A [(el, .inl (cy 2, 10, .inr (.inr (.inr (.inr g))))), (it, .inr (3, [.int 3, .int 2, .int mc, .ref pa])), (pa, .inr (4, [.int mc, .ref el, .int 6]))] := hD
  refine W.widen (k := 0) (n := 0) (Nat.le_of_ble_eq_true rfl) (Nat.le_of_ble_eq_true rfl) ?_
  refine lv_aload_n hx hb dJx35411_next_0502b_4 rfl (lv_at hl 0 rfl) ?_
  refine va_get (D := D) (ci := 3) (v := .int 3) (C := RJx35411) (T := TJx35411) (N := 4) hx hb hts (fun w h => zx_Gc (uz_Jx35411 w h)) hown hK hP 1 rfl rfl 0 (by decide) (hts (.fieldLink RJx35411 25 "java/util/ArrayList$Itr" "cursor" "I") (zx_Gc mm_1679)) (fun _ h9 => h9) rfl dJx35411_next_0502b_5 ?_
  refine lv_istore_n (lv' := [(1, .int 3), (0, .ref it)]) hx hb dJx35411_next_0502b_8 rfl hl (by decide) rfl (fun ls hl => ?_)
  refine lv_iload_n hx hb dJx35411_next_0502b_9 rfl (lv_at hl 0 rfl) ?_
  refine lv_aload_n hx hb dJx35411_next_0502b_10 rfl (lv_at hl 1 rfl) ?_
  refine va_get (D := D) (ci := 3) (v := .ref pa) (C := RJx35411) (T := TJx35411) (N := 4) hx hb hts (fun w h => zx_Gc (uz_Jx35411 w h)) hown hK hP 1 rfl rfl 3 (by decide) (hts (.fieldLink RJx35411 1 "java/util/ArrayList$Itr" "this$0" "Ljava/util/ArrayList;") (zx_Gc mm_1682)) (fun _ h9 => h9) rfl dJx35411_next_0502b_11 ?_
  refine va_getN (host := "java/util/ArrayList") (ref := "java/util/ArrayList") (D := D) (ci := 4) (v := .int 6) (C := RJx4a65c) (T := TJx4a65c) (N := 3) hx hb hts (fun w h => zx_Gc (uz_Jx4a65c w h)) hown hK hP 2 rfl rfl 2 (by decide) (va_Nw.use rfl (hN.1 _ _ _ _ _ _ (List.mem_of_getElem? (i := 215) (by decide +kernel)))) (fun _ h9 => h9) rfl dJx35411_next_0502b_14 ?_
  refine lv_icmp_lt (tgt := 28) hx hb dJx35411_next_0502b_17 (by decide) (fun _ => ?_) (fun c_170 => absurd (by decide) c_170)
  refine lv_aload_n hx hb dJx35411_next_0502b_28 rfl (lv_at hl 1 rfl) ?_
  refine va_get (D := D) (ci := 3) (v := .ref pa) (C := RJx35411) (T := TJx35411) (N := 4) hx hb hts (fun w h => zx_Gc (uz_Jx35411 w h)) hown hK hP 1 rfl rfl 3 (by decide) (hts (.fieldLink RJx35411 1 "java/util/ArrayList$Itr" "this$0" "Ljava/util/ArrayList;") (zx_Gc mm_1682)) (fun _ h9 => h9) rfl dJx35411_next_0502b_29 ?_
  refine va_get (D := D) (ci := 4) (v := .ref el) (C := RJx4a65c) (T := TJx4a65c) (N := 3) hx hb hts (fun w h => zx_Gc (uz_Jx4a65c w h)) hown hK hP 2 rfl rfl 1 (by decide) (hts (.fieldLink RJx35411 37 "java/util/ArrayList" "elementData" "[Ljava/lang/Object;") (zx_Gc mm_214)) (fun _ h9 => h9) rfl dJx35411_next_0502b_32 ?_
  refine lv_astore_n (lv' := [(2, .ref el), (1, .int 3), (0, .ref it)]) hx hb dJx35411_next_0502b_35 rfl hl (by decide) rfl (fun ls hl => ?_)
  refine lv_iload_n hx hb dJx35411_next_0502b_36 rfl (lv_at hl 1 rfl) ?_
  refine lv_aload_n hx hb dJx35411_next_0502b_37 rfl (lv_at hl 0 rfl) ?_
  refine va_alen (v := 10) hx hb hK hP 0 2 rfl rfl (show Int32.ofNat 10 = 10 from by decide) dJx35411_next_0502b_38 ?_
  refine lv_icmp_lt (tgt := 50) hx hb dJx35411_next_0502b_39 (by decide) (fun _ => ?_) (fun c_171 => absurd (by decide) c_171)
  refine lv_aload_n hx hb dJx35411_next_0502b_50 rfl (lv_at hl 2 rfl) ?_
  refine lv_iload_n hx hb dJx35411_next_0502b_51 rfl (lv_at hl 1 rfl) ?_
  refine lv_iconst (v := 1) hx hb dJx35411_next_0502b_52 (by decide) ?_
  refine lv_iadd hx hb dJx35411_next_0502b_53 ?_
  refine lv_topi (fun y9 ey9 => ?_)
  obtain rfl : y9 = 4 := by rw [ey9] <;> decide
  refine va_put (D := D) (ci := 3) (v := .int 4) (ty := .int) (C := RJx35411) (T := TJx35411) (N := 4) hx hb hts (fun w h => zx_Gc (uz_Jx35411 w h)) tyJx35411 tyJx35411_ok nmJx35411 hown hK hP hD hS 1 rfl rfl 0 (by decide) (hts (.fieldLink RJx35411 25 "java/util/ArrayList$Itr" "cursor" "I") (zx_Gc mm_1679)) (fun _ h9 => h9) rfl (by decide +kernel) rfl rfl (Nat.le_of_ble_eq_true rfl) dJx35411_next_0502b_54 (fun H locs hP hD hS => ?_)
  have hP : va_P D vwCl [(el, .inl (cy 2, 10, .inr (.inr (.inr (.inr g))))), (it, .inr (3, [.int 4, .int 2, .int mc, .ref pa])), (pa, .inr (4, [.int mc, .ref el, .int 6]))] H := hP
  have hD : va_D A [(el, .inl (cy 2, 10, .inr (.inr (.inr (.inr g))))), (it, .inr (3, [.int 4, .int 2, .int mc, .ref pa])), (pa, .inr (4, [.int mc, .ref el, .int 6]))] := hD
  refine lv_aload_n hx hb dJx35411_next_0502b_57 rfl (lv_at hl 0 rfl) ?_
  refine lv_aload_n hx hb dJx35411_next_0502b_58 rfl (lv_at hl 2 rfl) ?_
  refine lv_iload_n hx hb dJx35411_next_0502b_59 rfl (lv_at hl 1 rfl) ?_
  refine lv_dup_x1 hx hb dJx35411_next_0502b_60 rfl rfl ?_
  refine va_put (D := D) (ci := 3) (v := .int 3) (ty := .int) (C := RJx35411) (T := TJx35411) (N := 4) hx hb hts (fun w h => zx_Gc (uz_Jx35411 w h)) tyJx35411 tyJx35411_ok nmJx35411 hown hK hP hD hS 1 rfl rfl 1 (by decide) (hts (.fieldLink RJx35411 13 "java/util/ArrayList$Itr" "lastRet" "I") (zx_Gc mm_1680)) (fun _ h9 => h9) rfl (by decide +kernel) rfl rfl (Nat.le_of_ble_eq_true rfl) dJx35411_next_0502b_61 (fun H locs hP hD hS => ?_)
  have hP : va_P D vwCl [(el, .inl (cy 2, 10, .inr (.inr (.inr (.inr g))))), (it, .inr (3, [.int 4, .int 3, .int mc, .ref pa])), (pa, .inr (4, [.int mc, .ref el, .int 6]))] H := hP
  have hD : va_D A [(el, .inl (cy 2, 10, .inr (.inr (.inr (.inr g))))), (it, .inr (3, [.int 4, .int 3, .int mc, .ref pa])), (pa, .inr (4, [.int mc, .ref el, .int 6]))] := hD
  refine zx_aldq (v := v) hx hb hK hP 0 2 rfl rfl (zx_bn (by decide)) hv dJx35411_next_0502b_64 ?_
  have hP9 := hP.sub (ws' := [(it, .inr (3, [.int 4, .int 3, .int mc, .ref pa])), (pa, .inr (4, [.int mc, .ref el, .int 6])), (el, .inl (cy 2, 10, .inr (.inr (.inr (.inr g)))))]) [1, 2, 0] rfl
  have hD9 := hD.sub (ws' := [(it, .inr (3, [.int 4, .int 3, .int mc, .ref pa])), (pa, .inr (4, [.int mc, .ref el, .int 6])), (el, .inl (cy 2, 10, .inr (.inr (.inr (.inr g)))))]) [1, 2, 0] (by decide) rfl
  exact W.aret (v := .ref v) hx hb hr (.inl ⟨_, rfl⟩) (.inr ⟨_, rfl⟩) (fun t ht hW => ⟨⟨(), v, rfl, trivial, ⟨rfl, zx_fin hP9 hD9 hK ht hW⟩⟩, hS.F ht⟩) hS.2.2 dJx35411_next_0502b_65
set_option maxHeartbeats 4000000 in
set_option maxRecDepth 100000 in
theorem c_Itr_next_4 (l : Launch) (hst : l.stackTraces = false) (D : va_G) (cy : Nat → ClassId) (ed sz : Nat) (it : Nat) (pa : Nat) (el : Nat) (mc : Int32) (g : Nat → Option Nat) (v : Nat) (hv : g 4 = some v) : Met l yJx35411_next_0502b wzJx35411_next_0502b ({ frames := 1, cells := 0, slots := 0, locals := 20 }) (zx_Pc D cy ed sz [.ref it] [(it, .inr (3, [.int 4, .int 3, .int mc, .ref pa])), (pa, .inr (4, [.int mc, .ref el, .int 6])), (el, .inl (cy 2, 10, .inr (.inr (.inr (.inr g)))))]) (va_Qr (fun (u9 : Unit) => True) (fun (u9 : Unit) (ra9 : Nat) (t9 : State) => v = ra9 ∧ zx_At D cy (va_A [(it, .inr (3, [.int 4, .int 3, .int mc, .ref pa])), (pa, .inr (4, [.int mc, .ref el, .int 6])), (el, .inl (cy 2, 10, .inr (.inr (.inr (.inr g)))))] sz) [(it, .inr (3, [.int 5, .int 4, .int mc, .ref pa])), (pa, .inr (4, [.int mc, .ref el, .int 6])), (el, .inl (cy 2, 10, .inr (.inr (.inr (.inr g)))))] t9) (va_A [(it, .inr (3, [.int 4, .int 3, .int mc, .ref pa])), (pa, .inr (4, [.int mc, .ref el, .int 6])), (el, .inl (cy 2, 10, .inr (.inr (.inr (.inr g)))))] sz)) 0 0 (va_A [(it, .inr (3, [.int 4, .int 3, .int mc, .ref pa])), (pa, .inr (4, [.int mc, .ref el, .int 6])), (el, .inl (cy 2, 10, .inr (.inr (.inr (.inr g)))))] sz) := by
  refine Met.ofW (cc := cJx35411_next_0502b) (maxL := 3) (ret := (some (.object "java/lang/Object"))) (by decide) rfl ?_
  intro p e s m args below meth c s₁ B hml hv
  obtain ⟨rfl, hsz, hP, hK, hD0, hZ, hN⟩ := hv
  have hx := B.exec
  have hb := B.bytes
  have hr := B.returns
  have hts := atoms_spec (ws := wzJx35411_next_0502b) B.pre
  have hown : s.vm.findClass RJx35411 = some m.cls := findClass_of_methodNamed B.named
  have hlocks := B.notSynchronized
  subst hsz
  have hD := hD0.self (sz := s.heap.size)
  generalize hAe : va_A [(it, .inr (3, [.int 4, .int 3, .int mc, .ref pa])), (pa, .inr (4, [.int mc, .ref el, .int 6])), (el, .inl (cy 2, 10, .inr (.inr (.inr (.inr g)))))] s.heap.size = A at hD hZ ⊢
  have hA : ∀ q : Nat, s.heap.size ≤ q → A q := fun q h => by rw [← hAe]; exact Or.inr h
  have hS : va_S A s.heap s.heap [] := va_S.rf
  have hP : va_P D vwCl [(it, .inr (3, [.int 4, .int 3, .int mc, .ref pa])), (pa, .inr (4, [.int mc, .ref el, .int 6])), (el, .inl (cy 2, 10, .inr (.inr (.inr (.inr g)))))] s.heap := hP
  have hl := lv_entry ([.ref it]) (n := 3) (Nat.le_of_ble_eq_true rfl)
  rw [lg_entry_eq]
  generalize (lg_sl ([.ref it]) ++ List.replicate (3 - (lg_sl ([.ref it])).length) Slot.unset).toArray = ls at hl ⊢
  have hl : lv_has ls 3 [(0, .ref it)] := hl
  refine lv_aload_n hx hb dJx35411_next_0502b_0 rfl (lv_at hl 0 rfl) ?_
  have hPc := hP.sub (ws' := [(it, .inr (3, [.int 4, .int 3, .int mc, .ref pa])), (pa, .inr (4, [.int mc, .ref el, .int 6]))]) [0, 1] rfl
  have hDc := hD.sub (ws' := [(it, .inr (3, [.int 4, .int 3, .int mc, .ref pa])), (pa, .inr (4, [.int mc, .ref el, .int 6]))]) [0, 1] (by decide) rfl
  have hFc := va_free (wc := [(it, .inr (3, [.int 4, .int 3, .int mc, .ref pa])), (pa, .inr (4, [.int mc, .ref el, .int 6]))]) hD hS hA [0, 1] rfl
  refine va_callv (va_runV (As := []) (rest := []) ⟨hx, hb, hml, hown, hts⟩ (c_Itr_check l hst D cy ed s.heap.size it pa el 4 3 mc 6) (cwV 0 hts (zx_GV mm_1711 mm_1712 mm_1713 mm_93 mm_1714) rfl rfl rfl (by decide +kernel) ⟨(Nat.le_of_ble_eq_true rfl), (Nat.le_of_ble_eq_true rfl)⟩) ⟨zx_blind, va_recv hK hPc (ci := 3) (q0 := 0) rfl rfl, zx_give hPc hK hDc hS hFc hZ hN⟩ rfl rfl hl.1 rfl (lv_room (Nat.le_of_ble_eq_true rfl)) dJx35411_next_0502b_1 ⟨(Nat.le_of_ble_eq_true rfl), (Nat.le_of_ble_eq_true rfl)⟩) hS (fun q _ h => hFc q h) hFc (fun u t H1 locs ht hvm hw hB hz1 hk1 hS => ?_)
  obtain ⟨hP, hD⟩ := zx_join (wr := [(el, .inl (cy 2, 10, .inr (.inr (.inr (.inr g)))))]) (w1 := [(it, .inr (3, [.int 4, .int 3, .int mc, .ref pa])), (pa, .inr (4, [.int mc, .ref el, .int 6]))]) [0, 1] [2] rfl rfl (by decide) (by decide) hP hD hk1 hFc hB ht
  generalize H1 = H at hP hS ⊢
  have hP : va_P D vwCl [(el, .inl (cy 2, 10, .inr (.inr (.inr (.inr g))))), (it, .inr (3, [.int 4, .int 3, .int mc, .ref pa])), (pa, .inr (4, [.int mc, .ref el, .int 6]))] H := hP
  have hD : va_D A [(el, .inl (cy 2, 10, .inr (.inr (.inr (.inr g))))), (it, .inr (3, [.int 4, .int 3, .int mc, .ref pa])), (pa, .inr (4, [.int mc, .ref el, .int 6]))] := hD
  refine W.widen (k := 0) (n := 0) (Nat.le_of_ble_eq_true rfl) (Nat.le_of_ble_eq_true rfl) ?_
  refine lv_aload_n hx hb dJx35411_next_0502b_4 rfl (lv_at hl 0 rfl) ?_
  refine va_get (D := D) (ci := 3) (v := .int 4) (C := RJx35411) (T := TJx35411) (N := 4) hx hb hts (fun w h => zx_Gc (uz_Jx35411 w h)) hown hK hP 1 rfl rfl 0 (by decide) (hts (.fieldLink RJx35411 25 "java/util/ArrayList$Itr" "cursor" "I") (zx_Gc mm_1679)) (fun _ h9 => h9) rfl dJx35411_next_0502b_5 ?_
  refine lv_istore_n (lv' := [(1, .int 4), (0, .ref it)]) hx hb dJx35411_next_0502b_8 rfl hl (by decide) rfl (fun ls hl => ?_)
  refine lv_iload_n hx hb dJx35411_next_0502b_9 rfl (lv_at hl 0 rfl) ?_
  refine lv_aload_n hx hb dJx35411_next_0502b_10 rfl (lv_at hl 1 rfl) ?_
  refine va_get (D := D) (ci := 3) (v := .ref pa) (C := RJx35411) (T := TJx35411) (N := 4) hx hb hts (fun w h => zx_Gc (uz_Jx35411 w h)) hown hK hP 1 rfl rfl 3 (by decide) (hts (.fieldLink RJx35411 1 "java/util/ArrayList$Itr" "this$0" "Ljava/util/ArrayList;") (zx_Gc mm_1682)) (fun _ h9 => h9) rfl dJx35411_next_0502b_11 ?_
  refine va_getN (host := "java/util/ArrayList") (ref := "java/util/ArrayList") (D := D) (ci := 4) (v := .int 6) (C := RJx4a65c) (T := TJx4a65c) (N := 3) hx hb hts (fun w h => zx_Gc (uz_Jx4a65c w h)) hown hK hP 2 rfl rfl 2 (by decide) (va_Nw.use rfl (hN.1 _ _ _ _ _ _ (List.mem_of_getElem? (i := 215) (by decide +kernel)))) (fun _ h9 => h9) rfl dJx35411_next_0502b_14 ?_
  refine lv_icmp_lt (tgt := 28) hx hb dJx35411_next_0502b_17 (by decide) (fun _ => ?_) (fun c_172 => absurd (by decide) c_172)
  refine lv_aload_n hx hb dJx35411_next_0502b_28 rfl (lv_at hl 1 rfl) ?_
  refine va_get (D := D) (ci := 3) (v := .ref pa) (C := RJx35411) (T := TJx35411) (N := 4) hx hb hts (fun w h => zx_Gc (uz_Jx35411 w h)) hown hK hP 1 rfl rfl 3 (by decide) (hts (.fieldLink RJx35411 1 "java/util/ArrayList$Itr" "this$0" "Ljava/util/ArrayList;") (zx_Gc mm_1682)) (fun _ h9 => h9) rfl dJx35411_next_0502b_29 ?_
  refine va_get (D := D) (ci := 4) (v := .ref el) (C := RJx4a65c) (T := TJx4a65c) (N := 3) hx hb hts (fun w h => zx_Gc (uz_Jx4a65c w h)) hown hK hP 2 rfl rfl 1 (by decide) (hts (.fieldLink RJx35411 37 "java/util/ArrayList" "elementData" "[Ljava/lang/Object;") (zx_Gc mm_214)) (fun _ h9 => h9) rfl dJx35411_next_0502b_32 ?_
  refine lv_astore_n (lv' := [(2, .ref el), (1, .int 4), (0, .ref it)]) hx hb dJx35411_next_0502b_35 rfl hl (by decide) rfl (fun ls hl => ?_)
  refine lv_iload_n hx hb dJx35411_next_0502b_36 rfl (lv_at hl 1 rfl) ?_
  refine lv_aload_n hx hb dJx35411_next_0502b_37 rfl (lv_at hl 0 rfl) ?_
  refine va_alen (v := 10) hx hb hK hP 0 2 rfl rfl (show Int32.ofNat 10 = 10 from by decide) dJx35411_next_0502b_38 ?_
  refine lv_icmp_lt (tgt := 50) hx hb dJx35411_next_0502b_39 (by decide) (fun _ => ?_) (fun c_173 => absurd (by decide) c_173)
  refine lv_aload_n hx hb dJx35411_next_0502b_50 rfl (lv_at hl 2 rfl) ?_
  refine lv_iload_n hx hb dJx35411_next_0502b_51 rfl (lv_at hl 1 rfl) ?_
  refine lv_iconst (v := 1) hx hb dJx35411_next_0502b_52 (by decide) ?_
  refine lv_iadd hx hb dJx35411_next_0502b_53 ?_
  refine lv_topi (fun y9 ey9 => ?_)
  obtain rfl : y9 = 5 := by rw [ey9] <;> decide
  refine va_put (D := D) (ci := 3) (v := .int 5) (ty := .int) (C := RJx35411) (T := TJx35411) (N := 4) hx hb hts (fun w h => zx_Gc (uz_Jx35411 w h)) tyJx35411 tyJx35411_ok nmJx35411 hown hK hP hD hS 1 rfl rfl 0 (by decide) (hts (.fieldLink RJx35411 25 "java/util/ArrayList$Itr" "cursor" "I") (zx_Gc mm_1679)) (fun _ h9 => h9) rfl (by decide +kernel) rfl rfl (Nat.le_of_ble_eq_true rfl) dJx35411_next_0502b_54 (fun H locs hP hD hS => ?_)
  have hP : va_P D vwCl [(el, .inl (cy 2, 10, .inr (.inr (.inr (.inr g))))), (it, .inr (3, [.int 5, .int 3, .int mc, .ref pa])), (pa, .inr (4, [.int mc, .ref el, .int 6]))] H := hP
  have hD : va_D A [(el, .inl (cy 2, 10, .inr (.inr (.inr (.inr g))))), (it, .inr (3, [.int 5, .int 3, .int mc, .ref pa])), (pa, .inr (4, [.int mc, .ref el, .int 6]))] := hD
  refine lv_aload_n hx hb dJx35411_next_0502b_57 rfl (lv_at hl 0 rfl) ?_
  refine lv_aload_n hx hb dJx35411_next_0502b_58 rfl (lv_at hl 2 rfl) ?_
  refine lv_iload_n hx hb dJx35411_next_0502b_59 rfl (lv_at hl 1 rfl) ?_
  refine lv_dup_x1 hx hb dJx35411_next_0502b_60 rfl rfl ?_
  refine va_put (D := D) (ci := 3) (v := .int 4) (ty := .int) (C := RJx35411) (T := TJx35411) (N := 4) hx hb hts (fun w h => zx_Gc (uz_Jx35411 w h)) tyJx35411 tyJx35411_ok nmJx35411 hown hK hP hD hS 1 rfl rfl 1 (by decide) (hts (.fieldLink RJx35411 13 "java/util/ArrayList$Itr" "lastRet" "I") (zx_Gc mm_1680)) (fun _ h9 => h9) rfl (by decide +kernel) rfl rfl (Nat.le_of_ble_eq_true rfl) dJx35411_next_0502b_61 (fun H locs hP hD hS => ?_)
  have hP : va_P D vwCl [(el, .inl (cy 2, 10, .inr (.inr (.inr (.inr g))))), (it, .inr (3, [.int 5, .int 4, .int mc, .ref pa])), (pa, .inr (4, [.int mc, .ref el, .int 6]))] H := hP
  have hD : va_D A [(el, .inl (cy 2, 10, .inr (.inr (.inr (.inr g))))), (it, .inr (3, [.int 5, .int 4, .int mc, .ref pa])), (pa, .inr (4, [.int mc, .ref el, .int 6]))] := hD
  refine zx_aldq (v := v) hx hb hK hP 0 2 rfl rfl (zx_bn (by decide)) hv dJx35411_next_0502b_64 ?_
  have hP9 := hP.sub (ws' := [(it, .inr (3, [.int 5, .int 4, .int mc, .ref pa])), (pa, .inr (4, [.int mc, .ref el, .int 6])), (el, .inl (cy 2, 10, .inr (.inr (.inr (.inr g)))))]) [1, 2, 0] rfl
  have hD9 := hD.sub (ws' := [(it, .inr (3, [.int 5, .int 4, .int mc, .ref pa])), (pa, .inr (4, [.int mc, .ref el, .int 6])), (el, .inl (cy 2, 10, .inr (.inr (.inr (.inr g)))))]) [1, 2, 0] (by decide) rfl
  exact W.aret (v := .ref v) hx hb hr (.inl ⟨_, rfl⟩) (.inr ⟨_, rfl⟩) (fun t ht hW => ⟨⟨(), v, rfl, trivial, ⟨rfl, zx_fin hP9 hD9 hK ht hW⟩⟩, hS.F ht⟩) hS.2.2 dJx35411_next_0502b_65
set_option maxHeartbeats 4000000 in
set_option maxRecDepth 100000 in
theorem c_Itr_next_5 (l : Launch) (hst : l.stackTraces = false) (D : va_G) (cy : Nat → ClassId) (ed sz : Nat) (it : Nat) (pa : Nat) (el : Nat) (mc : Int32) (g : Nat → Option Nat) (v : Nat) (hv : g 5 = some v) : Met l yJx35411_next_0502b wzJx35411_next_0502b ({ frames := 1, cells := 0, slots := 0, locals := 20 }) (zx_Pc D cy ed sz [.ref it] [(it, .inr (3, [.int 5, .int 4, .int mc, .ref pa])), (pa, .inr (4, [.int mc, .ref el, .int 6])), (el, .inl (cy 2, 10, .inr (.inr (.inr (.inr g)))))]) (va_Qr (fun (u9 : Unit) => True) (fun (u9 : Unit) (ra9 : Nat) (t9 : State) => v = ra9 ∧ zx_At D cy (va_A [(it, .inr (3, [.int 5, .int 4, .int mc, .ref pa])), (pa, .inr (4, [.int mc, .ref el, .int 6])), (el, .inl (cy 2, 10, .inr (.inr (.inr (.inr g)))))] sz) [(it, .inr (3, [.int 6, .int 5, .int mc, .ref pa])), (pa, .inr (4, [.int mc, .ref el, .int 6])), (el, .inl (cy 2, 10, .inr (.inr (.inr (.inr g)))))] t9) (va_A [(it, .inr (3, [.int 5, .int 4, .int mc, .ref pa])), (pa, .inr (4, [.int mc, .ref el, .int 6])), (el, .inl (cy 2, 10, .inr (.inr (.inr (.inr g)))))] sz)) 0 0 (va_A [(it, .inr (3, [.int 5, .int 4, .int mc, .ref pa])), (pa, .inr (4, [.int mc, .ref el, .int 6])), (el, .inl (cy 2, 10, .inr (.inr (.inr (.inr g)))))] sz) := by
  refine Met.ofW (cc := cJx35411_next_0502b) (maxL := 3) (ret := (some (.object "java/lang/Object"))) (by decide) rfl ?_
  intro p e s m args below meth c s₁ B hml hv
  obtain ⟨rfl, hsz, hP, hK, hD0, hZ, hN⟩ := hv
  have hx := B.exec
  have hb := B.bytes
  have hr := B.returns
  have hts := atoms_spec (ws := wzJx35411_next_0502b) B.pre
  have hown : s.vm.findClass RJx35411 = some m.cls := findClass_of_methodNamed B.named
  have hlocks := B.notSynchronized
  subst hsz
  have hD := hD0.self (sz := s.heap.size)
  generalize hAe : va_A [(it, .inr (3, [.int 5, .int 4, .int mc, .ref pa])), (pa, .inr (4, [.int mc, .ref el, .int 6])), (el, .inl (cy 2, 10, .inr (.inr (.inr (.inr g)))))] s.heap.size = A at hD hZ ⊢
  have hA : ∀ q : Nat, s.heap.size ≤ q → A q := fun q h => by rw [← hAe]; exact Or.inr h
  have hS : va_S A s.heap s.heap [] := va_S.rf
  have hP : va_P D vwCl [(it, .inr (3, [.int 5, .int 4, .int mc, .ref pa])), (pa, .inr (4, [.int mc, .ref el, .int 6])), (el, .inl (cy 2, 10, .inr (.inr (.inr (.inr g)))))] s.heap := hP
  have hl := lv_entry ([.ref it]) (n := 3) (Nat.le_of_ble_eq_true rfl)
  rw [lg_entry_eq]
  generalize (lg_sl ([.ref it]) ++ List.replicate (3 - (lg_sl ([.ref it])).length) Slot.unset).toArray = ls at hl ⊢
  have hl : lv_has ls 3 [(0, .ref it)] := hl
  refine lv_aload_n hx hb dJx35411_next_0502b_0 rfl (lv_at hl 0 rfl) ?_
  have hPc := hP.sub (ws' := [(it, .inr (3, [.int 5, .int 4, .int mc, .ref pa])), (pa, .inr (4, [.int mc, .ref el, .int 6]))]) [0, 1] rfl
  have hDc := hD.sub (ws' := [(it, .inr (3, [.int 5, .int 4, .int mc, .ref pa])), (pa, .inr (4, [.int mc, .ref el, .int 6]))]) [0, 1] (by decide) rfl
  have hFc := va_free (wc := [(it, .inr (3, [.int 5, .int 4, .int mc, .ref pa])), (pa, .inr (4, [.int mc, .ref el, .int 6]))]) hD hS hA [0, 1] rfl
  refine va_callv (va_runV (As := []) (rest := []) ⟨hx, hb, hml, hown, hts⟩ (c_Itr_check l hst D cy ed s.heap.size it pa el 5 4 mc 6) (cwV 0 hts (zx_GV mm_1711 mm_1712 mm_1713 mm_93 mm_1714) rfl rfl rfl (by decide +kernel) ⟨(Nat.le_of_ble_eq_true rfl), (Nat.le_of_ble_eq_true rfl)⟩) ⟨zx_blind, va_recv hK hPc (ci := 3) (q0 := 0) rfl rfl, zx_give hPc hK hDc hS hFc hZ hN⟩ rfl rfl hl.1 rfl (lv_room (Nat.le_of_ble_eq_true rfl)) dJx35411_next_0502b_1 ⟨(Nat.le_of_ble_eq_true rfl), (Nat.le_of_ble_eq_true rfl)⟩) hS (fun q _ h => hFc q h) hFc (fun u t H1 locs ht hvm hw hB hz1 hk1 hS => ?_)
  obtain ⟨hP, hD⟩ := zx_join (wr := [(el, .inl (cy 2, 10, .inr (.inr (.inr (.inr g)))))]) (w1 := [(it, .inr (3, [.int 5, .int 4, .int mc, .ref pa])), (pa, .inr (4, [.int mc, .ref el, .int 6]))]) [0, 1] [2] rfl rfl (by decide) (by decide) hP hD hk1 hFc hB ht
  generalize H1 = H at hP hS ⊢
  have hP : va_P D vwCl [(el, .inl (cy 2, 10, .inr (.inr (.inr (.inr g))))), (it, .inr (3, [.int 5, .int 4, .int mc, .ref pa])), (pa, .inr (4, [.int mc, .ref el, .int 6]))] H := hP
  have hD : va_D A [(el, .inl (cy 2, 10, .inr (.inr (.inr (.inr g))))), (it, .inr (3, [.int 5, .int 4, .int mc, .ref pa])), (pa, .inr (4, [.int mc, .ref el, .int 6]))] := hD
  refine W.widen (k := 0) (n := 0) (Nat.le_of_ble_eq_true rfl) (Nat.le_of_ble_eq_true rfl) ?_
  refine lv_aload_n hx hb dJx35411_next_0502b_4 rfl (lv_at hl 0 rfl) ?_
  refine va_get (D := D) (ci := 3) (v := .int 5) (C := RJx35411) (T := TJx35411) (N := 4) hx hb hts (fun w h => zx_Gc (uz_Jx35411 w h)) hown hK hP 1 rfl rfl 0 (by decide) (hts (.fieldLink RJx35411 25 "java/util/ArrayList$Itr" "cursor" "I") (zx_Gc mm_1679)) (fun _ h9 => h9) rfl dJx35411_next_0502b_5 ?_
  refine lv_istore_n (lv' := [(1, .int 5), (0, .ref it)]) hx hb dJx35411_next_0502b_8 rfl hl (by decide) rfl (fun ls hl => ?_)
  refine lv_iload_n hx hb dJx35411_next_0502b_9 rfl (lv_at hl 0 rfl) ?_
  refine lv_aload_n hx hb dJx35411_next_0502b_10 rfl (lv_at hl 1 rfl) ?_
  refine va_get (D := D) (ci := 3) (v := .ref pa) (C := RJx35411) (T := TJx35411) (N := 4) hx hb hts (fun w h => zx_Gc (uz_Jx35411 w h)) hown hK hP 1 rfl rfl 3 (by decide) (hts (.fieldLink RJx35411 1 "java/util/ArrayList$Itr" "this$0" "Ljava/util/ArrayList;") (zx_Gc mm_1682)) (fun _ h9 => h9) rfl dJx35411_next_0502b_11 ?_
  refine va_getN (host := "java/util/ArrayList") (ref := "java/util/ArrayList") (D := D) (ci := 4) (v := .int 6) (C := RJx4a65c) (T := TJx4a65c) (N := 3) hx hb hts (fun w h => zx_Gc (uz_Jx4a65c w h)) hown hK hP 2 rfl rfl 2 (by decide) (va_Nw.use rfl (hN.1 _ _ _ _ _ _ (List.mem_of_getElem? (i := 215) (by decide +kernel)))) (fun _ h9 => h9) rfl dJx35411_next_0502b_14 ?_
  refine lv_icmp_lt (tgt := 28) hx hb dJx35411_next_0502b_17 (by decide) (fun _ => ?_) (fun c_174 => absurd (by decide) c_174)
  refine lv_aload_n hx hb dJx35411_next_0502b_28 rfl (lv_at hl 1 rfl) ?_
  refine va_get (D := D) (ci := 3) (v := .ref pa) (C := RJx35411) (T := TJx35411) (N := 4) hx hb hts (fun w h => zx_Gc (uz_Jx35411 w h)) hown hK hP 1 rfl rfl 3 (by decide) (hts (.fieldLink RJx35411 1 "java/util/ArrayList$Itr" "this$0" "Ljava/util/ArrayList;") (zx_Gc mm_1682)) (fun _ h9 => h9) rfl dJx35411_next_0502b_29 ?_
  refine va_get (D := D) (ci := 4) (v := .ref el) (C := RJx4a65c) (T := TJx4a65c) (N := 3) hx hb hts (fun w h => zx_Gc (uz_Jx4a65c w h)) hown hK hP 2 rfl rfl 1 (by decide) (hts (.fieldLink RJx35411 37 "java/util/ArrayList" "elementData" "[Ljava/lang/Object;") (zx_Gc mm_214)) (fun _ h9 => h9) rfl dJx35411_next_0502b_32 ?_
  refine lv_astore_n (lv' := [(2, .ref el), (1, .int 5), (0, .ref it)]) hx hb dJx35411_next_0502b_35 rfl hl (by decide) rfl (fun ls hl => ?_)
  refine lv_iload_n hx hb dJx35411_next_0502b_36 rfl (lv_at hl 1 rfl) ?_
  refine lv_aload_n hx hb dJx35411_next_0502b_37 rfl (lv_at hl 0 rfl) ?_
  refine va_alen (v := 10) hx hb hK hP 0 2 rfl rfl (show Int32.ofNat 10 = 10 from by decide) dJx35411_next_0502b_38 ?_
  refine lv_icmp_lt (tgt := 50) hx hb dJx35411_next_0502b_39 (by decide) (fun _ => ?_) (fun c_175 => absurd (by decide) c_175)
  refine lv_aload_n hx hb dJx35411_next_0502b_50 rfl (lv_at hl 2 rfl) ?_
  refine lv_iload_n hx hb dJx35411_next_0502b_51 rfl (lv_at hl 1 rfl) ?_
  refine lv_iconst (v := 1) hx hb dJx35411_next_0502b_52 (by decide) ?_
  refine lv_iadd hx hb dJx35411_next_0502b_53 ?_
  refine lv_topi (fun y9 ey9 => ?_)
  obtain rfl : y9 = 6 := by rw [ey9] <;> decide
  refine va_put (D := D) (ci := 3) (v := .int 6) (ty := .int) (C := RJx35411) (T := TJx35411) (N := 4) hx hb hts (fun w h => zx_Gc (uz_Jx35411 w h)) tyJx35411 tyJx35411_ok nmJx35411 hown hK hP hD hS 1 rfl rfl 0 (by decide) (hts (.fieldLink RJx35411 25 "java/util/ArrayList$Itr" "cursor" "I") (zx_Gc mm_1679)) (fun _ h9 => h9) rfl (by decide +kernel) rfl rfl (Nat.le_of_ble_eq_true rfl) dJx35411_next_0502b_54 (fun H locs hP hD hS => ?_)
  have hP : va_P D vwCl [(el, .inl (cy 2, 10, .inr (.inr (.inr (.inr g))))), (it, .inr (3, [.int 6, .int 4, .int mc, .ref pa])), (pa, .inr (4, [.int mc, .ref el, .int 6]))] H := hP
  have hD : va_D A [(el, .inl (cy 2, 10, .inr (.inr (.inr (.inr g))))), (it, .inr (3, [.int 6, .int 4, .int mc, .ref pa])), (pa, .inr (4, [.int mc, .ref el, .int 6]))] := hD
  refine lv_aload_n hx hb dJx35411_next_0502b_57 rfl (lv_at hl 0 rfl) ?_
  refine lv_aload_n hx hb dJx35411_next_0502b_58 rfl (lv_at hl 2 rfl) ?_
  refine lv_iload_n hx hb dJx35411_next_0502b_59 rfl (lv_at hl 1 rfl) ?_
  refine lv_dup_x1 hx hb dJx35411_next_0502b_60 rfl rfl ?_
  refine va_put (D := D) (ci := 3) (v := .int 5) (ty := .int) (C := RJx35411) (T := TJx35411) (N := 4) hx hb hts (fun w h => zx_Gc (uz_Jx35411 w h)) tyJx35411 tyJx35411_ok nmJx35411 hown hK hP hD hS 1 rfl rfl 1 (by decide) (hts (.fieldLink RJx35411 13 "java/util/ArrayList$Itr" "lastRet" "I") (zx_Gc mm_1680)) (fun _ h9 => h9) rfl (by decide +kernel) rfl rfl (Nat.le_of_ble_eq_true rfl) dJx35411_next_0502b_61 (fun H locs hP hD hS => ?_)
  have hP : va_P D vwCl [(el, .inl (cy 2, 10, .inr (.inr (.inr (.inr g))))), (it, .inr (3, [.int 6, .int 5, .int mc, .ref pa])), (pa, .inr (4, [.int mc, .ref el, .int 6]))] H := hP
  have hD : va_D A [(el, .inl (cy 2, 10, .inr (.inr (.inr (.inr g))))), (it, .inr (3, [.int 6, .int 5, .int mc, .ref pa])), (pa, .inr (4, [.int mc, .ref el, .int 6]))] := hD
  refine zx_aldq (v := v) hx hb hK hP 0 2 rfl rfl (zx_bn (by decide)) hv dJx35411_next_0502b_64 ?_
  have hP9 := hP.sub (ws' := [(it, .inr (3, [.int 6, .int 5, .int mc, .ref pa])), (pa, .inr (4, [.int mc, .ref el, .int 6])), (el, .inl (cy 2, 10, .inr (.inr (.inr (.inr g)))))]) [1, 2, 0] rfl
  have hD9 := hD.sub (ws' := [(it, .inr (3, [.int 6, .int 5, .int mc, .ref pa])), (pa, .inr (4, [.int mc, .ref el, .int 6])), (el, .inl (cy 2, 10, .inr (.inr (.inr (.inr g)))))]) [1, 2, 0] (by decide) rfl
  exact W.aret (v := .ref v) hx hb hr (.inl ⟨_, rfl⟩) (.inr ⟨_, rfl⟩) (fun t ht hW => ⟨⟨(), v, rfl, trivial, ⟨rfl, zx_fin hP9 hD9 hK ht hW⟩⟩, hS.F ht⟩) hS.2.2 dJx35411_next_0502b_65
set_option maxHeartbeats 4000000 in
set_option maxRecDepth 100000 in
theorem c_J3_checkIndex (l : Launch) (hst : l.stackTraces = false) (D : va_G) (cy : Nat → ClassId) (ed sz : Nat) (p0 : Int32) (p1 : Int32) (h0 : ¬ p0 < 0) (h1 : p0 < p1) : Met l yJ3_checkIndex_8e157 wzJ3_checkIndex_8e157 ({ frames := 0, cells := 0, slots := 0, locals := 0 }) (zx_Pc D cy ed sz [.int p0, .int p1, .null] []) (va_Qi (fun (r9 : Int32) (u9 : Unit) => r9 = p0) (fun (u9 : Unit) (t9 : State) => zx_At D cy (va_A [] sz) [] t9) (va_A [] sz)) 0 0 (va_A [] sz) := by
  refine Met.ofW (cc := cJ3_checkIndex_8e157) (maxL := 3) (ret := (some .int)) (by decide) rfl ?_
  intro p e s m args below meth c s₁ B hml hv
  obtain ⟨rfl, hsz, hP, hK, hD0, hZ, hN⟩ := hv
  have hx := B.exec
  have hb := B.bytes
  have hr := B.returns
  have hts := atoms_spec (ws := wzJ3_checkIndex_8e157) B.pre
  have hown : s.vm.findClass RJ3 = some m.cls := findClass_of_methodNamed B.named
  have hlocks := B.notSynchronized
  subst hsz
  have hD := hD0.self (sz := s.heap.size)
  generalize hAe : va_A [] s.heap.size = A at hD hZ ⊢
  have hA : ∀ q : Nat, s.heap.size ≤ q → A q := fun q h => by rw [← hAe]; exact Or.inr h
  have hS : va_S A s.heap s.heap [] := va_S.rf
  have hP : va_P D vwCl [] s.heap := hP
  have hl := lv_entry ([.int p0, .int p1, .null]) (n := 3) (Nat.le_of_ble_eq_true rfl)
  rw [lg_entry_eq]
  generalize (lg_sl ([.int p0, .int p1, .null]) ++ List.replicate (3 - (lg_sl ([.int p0, .int p1, .null])).length) Slot.unset).toArray = ls at hl ⊢
  have hl : lv_has ls 3 [(0, .int p0), (1, .int p1), (2, .null)] := hl
  refine lv_iload_n hx hb dJ3_checkIndex_8e157_0 rfl (lv_at hl 0 rfl) ?_
  refine lv_if_lt (tgt := 9) hx hb dJ3_checkIndex_8e157_1 (by decide) (fun c_176 => absurd c_176 h0) (fun _ => ?_)
  refine lv_iload_n hx hb dJ3_checkIndex_8e157_4 rfl (lv_at hl 0 rfl) ?_
  refine lv_iload_n hx hb dJ3_checkIndex_8e157_5 rfl (lv_at hl 1 rfl) ?_
  refine lv_icmp_lt (tgt := 16) hx hb dJ3_checkIndex_8e157_6 (by decide) (fun _ => ?_) (fun c_177 => absurd h1 c_177)
  refine lv_iload_n hx hb dJ3_checkIndex_8e157_16 rfl (lv_at hl 0 rfl) ?_
  have hP9 := hP.sub (ws' := []) [] rfl
  have hD9 := hD.sub (ws' := []) [] (by decide) rfl
  exact W.iret (v := p0) hx hb hr (fun t ht hW => ⟨⟨p0, (), rfl, rfl, zx_fin hP9 hD9 hK ht hW⟩, hS.F ht⟩) hS.2.2 dJ3_checkIndex_8e157_17
set_option maxHeartbeats 4000000 in
set_option maxRecDepth 100000 in
theorem c_J15_checkIndex (l : Launch) (hst : l.stackTraces = false) (D : va_G) (cy : Nat → ClassId) (ed sz : Nat) (p0 : Int32) (p1 : Int32) (h0 : ¬ p0 < 0) (h1 : p0 < p1) : Met l yJ15_checkIndex_7cf53 wzJ15_checkIndex_7cf53 ({ frames := 1, cells := 0, slots := 0, locals := 22 }) (zx_Pc D cy ed sz [.int p0, .int p1] []) (va_Qi (fun (r9 : Int32) (u9 : Unit) => r9 = p0) (fun (u9 : Unit) (t9 : State) => zx_At D cy (va_A [] sz) [] t9) (va_A [] sz)) 0 0 (va_A [] sz) := by
  refine Met.ofW (cc := cJ15_checkIndex_7cf53) (maxL := 2) (ret := (some .int)) (by decide) rfl ?_
  intro p e s m args below meth c s₁ B hml hv
  obtain ⟨rfl, hsz, hP, hK, hD0, hZ, hN⟩ := hv
  have hx := B.exec
  have hb := B.bytes
  have hr := B.returns
  have hts := atoms_spec (ws := wzJ15_checkIndex_7cf53) B.pre
  have hown : s.vm.findClass RJ15 = some m.cls := findClass_of_methodNamed B.named
  have hlocks := B.notSynchronized
  subst hsz
  have hD := hD0.self (sz := s.heap.size)
  generalize hAe : va_A [] s.heap.size = A at hD hZ ⊢
  have hA : ∀ q : Nat, s.heap.size ≤ q → A q := fun q h => by rw [← hAe]; exact Or.inr h
  have hS : va_S A s.heap s.heap [] := va_S.rf
  have hP : va_P D vwCl [] s.heap := hP
  have hl := lv_entry ([.int p0, .int p1]) (n := 2) (Nat.le_of_ble_eq_true rfl)
  rw [lg_entry_eq]
  generalize (lg_sl ([.int p0, .int p1]) ++ List.replicate (2 - (lg_sl ([.int p0, .int p1])).length) Slot.unset).toArray = ls at hl ⊢
  have hl : lv_has ls 2 [(0, .int p0), (1, .int p1)] := hl
  refine lv_iload_n hx hb dJ15_checkIndex_7cf53_0 rfl (lv_at hl 0 rfl) ?_
  refine lv_iload_n hx hb dJ15_checkIndex_7cf53_1 rfl (lv_at hl 1 rfl) ?_
  refine lv_null hx hb dJ15_checkIndex_7cf53_2 ?_
  have hPc := hP.sub (ws' := []) [] rfl
  have hDc := hD.sub (ws' := []) [] (by decide) rfl
  have hFc := va_free (wc := []) hD hS hA [] rfl
  refine va_calli (va_runS (As := [.int p0, .int p1, .null]) (rest := []) ⟨hx, hb, hml, hown, hts⟩ (c_J3_checkIndex l hst D cy ed s.heap.size p0 p1 h0 h1) (va_cwS 3 hts (zx_GS mm_263 mm_264 mm_92 mm_265) rfl rfl rfl (by decide +kernel) ⟨(Nat.le_of_ble_eq_true rfl), (Nat.le_of_ble_eq_true rfl)⟩) ⟨zx_blind, zx_give hPc hK hDc hS hFc hZ hN⟩ rfl rfl hl.1 rfl (lv_room (Nat.le_of_ble_eq_true rfl)) dJ15_checkIndex_7cf53_3 ⟨(Nat.le_of_ble_eq_true rfl), (Nat.le_of_ble_eq_true rfl)⟩) hS (fun q _ h => hFc q h) hFc (fun r9 u t H1 locs ht hvm hw hB hz1 hk1 hS => ?_)
  obtain rfl : p0 = r9 := hw.symm
  obtain ⟨hP, hD⟩ := zx_join (wr := []) (w1 := []) [] [] rfl rfl (by decide) (by decide) hP hD hk1 hFc hB ht
  generalize H1 = H at hP hS ⊢
  have hP : va_P D vwCl [] H := hP
  have hD : va_D A [] := hD
  refine W.widen (k := 0) (n := 0) (Nat.le_of_ble_eq_true rfl) (Nat.le_of_ble_eq_true rfl) ?_
  have hP9 := hP.sub (ws' := []) [] rfl
  have hD9 := hD.sub (ws' := []) [] (by decide) rfl
  exact W.iret (v := p0) hx hb hr (fun t ht hW => ⟨⟨p0, (), rfl, rfl, zx_fin hP9 hD9 hK ht hW⟩, hS.F ht⟩) hS.2.2 dJ15_checkIndex_7cf53_6
set_option maxHeartbeats 4000000 in
set_option maxRecDepth 100000 in
theorem c_AL_elem_0 (l : Launch) (hst : l.stackTraces = false) (D : va_G) (cy : Nat → ClassId) (ed sz : Nat) (pa : Nat) (el : Nat) (mc : Int32) (g : Nat → Option Nat) (v : Nat) (hv : g 0 = some v) : Met l yJx4a65c_elementData_915e3 wzJx4a65c_elementData_915e3 ({ frames := 0, cells := 0, slots := 0, locals := 0 }) (zx_Pc D cy ed sz [.ref pa, .int 0] [(pa, .inr (4, [.int mc, .ref el, .int 6])), (el, .inl (cy 2, 10, .inr (.inr (.inr (.inr g)))))]) (va_Qr (fun (u9 : Unit) => True) (fun (u9 : Unit) (ra9 : Nat) (t9 : State) => v = ra9 ∧ zx_At D cy (va_A [(pa, .inr (4, [.int mc, .ref el, .int 6])), (el, .inl (cy 2, 10, .inr (.inr (.inr (.inr g)))))] sz) [(pa, .inr (4, [.int mc, .ref el, .int 6])), (el, .inl (cy 2, 10, .inr (.inr (.inr (.inr g)))))] t9) (va_A [(pa, .inr (4, [.int mc, .ref el, .int 6])), (el, .inl (cy 2, 10, .inr (.inr (.inr (.inr g)))))] sz)) 0 0 (va_A [(pa, .inr (4, [.int mc, .ref el, .int 6])), (el, .inl (cy 2, 10, .inr (.inr (.inr (.inr g)))))] sz) := by
  refine Met.ofW (cc := cJx4a65c_elementData_915e3) (maxL := 2) (ret := (some (.object "java/lang/Object"))) (by decide) rfl ?_
  intro p e s m args below meth c s₁ B hml hv
  obtain ⟨rfl, hsz, hP, hK, hD0, hZ, hN⟩ := hv
  have hx := B.exec
  have hb := B.bytes
  have hr := B.returns
  have hts := atoms_spec (ws := wzJx4a65c_elementData_915e3) B.pre
  have hown : s.vm.findClass RJx4a65c = some m.cls := findClass_of_methodNamed B.named
  have hlocks := B.notSynchronized
  subst hsz
  have hD := hD0.self (sz := s.heap.size)
  generalize hAe : va_A [(pa, .inr (4, [.int mc, .ref el, .int 6])), (el, .inl (cy 2, 10, .inr (.inr (.inr (.inr g)))))] s.heap.size = A at hD hZ ⊢
  have hA : ∀ q : Nat, s.heap.size ≤ q → A q := fun q h => by rw [← hAe]; exact Or.inr h
  have hS : va_S A s.heap s.heap [] := va_S.rf
  have hP : va_P D vwCl [(pa, .inr (4, [.int mc, .ref el, .int 6])), (el, .inl (cy 2, 10, .inr (.inr (.inr (.inr g)))))] s.heap := hP
  have hl := lv_entry ([.ref pa, .int 0]) (n := 2) (Nat.le_of_ble_eq_true rfl)
  rw [lg_entry_eq]
  generalize (lg_sl ([.ref pa, .int 0]) ++ List.replicate (2 - (lg_sl ([.ref pa, .int 0])).length) Slot.unset).toArray = ls at hl ⊢
  have hl : lv_has ls 2 [(0, .ref pa), (1, .int 0)] := hl
  refine lv_aload_n hx hb dJx4a65c_elementData_915e3_0 rfl (lv_at hl 0 rfl) ?_
  refine va_get (D := D) (ci := 4) (v := .ref el) (C := RJx4a65c) (T := TJx4a65c) (N := 3) hx hb hts (fun w h => zx_Gc (uz_Jx4a65c w h)) hown hK hP 0 rfl rfl 1 (by decide) (hts (.fieldLink RJx4a65c 9 "java/util/ArrayList" "elementData" "[Ljava/lang/Object;") (zx_Gc mm_213)) (fun _ h9 => h9) rfl dJx4a65c_elementData_915e3_1 ?_
  refine lv_iload_n hx hb dJx4a65c_elementData_915e3_4 rfl (lv_at hl 1 rfl) ?_
  refine zx_aldq (v := v) hx hb hK hP 1 2 rfl rfl (zx_bn (by decide)) hv dJx4a65c_elementData_915e3_5 ?_
  have hP9 := hP.sub (ws' := [(pa, .inr (4, [.int mc, .ref el, .int 6])), (el, .inl (cy 2, 10, .inr (.inr (.inr (.inr g)))))]) [0, 1] rfl
  have hD9 := hD.sub (ws' := [(pa, .inr (4, [.int mc, .ref el, .int 6])), (el, .inl (cy 2, 10, .inr (.inr (.inr (.inr g)))))]) [0, 1] (by decide) rfl
  exact W.aret (v := .ref v) hx hb hr (.inl ⟨_, rfl⟩) (.inr ⟨_, rfl⟩) (fun t ht hW => ⟨⟨(), v, rfl, trivial, ⟨rfl, zx_fin hP9 hD9 hK ht hW⟩⟩, hS.F ht⟩) hS.2.2 dJx4a65c_elementData_915e3_6
set_option maxHeartbeats 4000000 in
set_option maxRecDepth 100000 in
theorem c_AL_get_0 (l : Launch) (hst : l.stackTraces = false) (D : va_G) (cy : Nat → ClassId) (ed sz : Nat) (pa : Nat) (el : Nat) (mc : Int32) (g : Nat → Option Nat) (v : Nat) (hv : g 0 = some v) : Met l yJx4a65c_get_915e3 wzJx4a65c_get_915e3 ({ frames := 2, cells := 0, slots := 0, locals := 43 }) (zx_Pc D cy ed sz [.ref pa, .int 0] [(pa, .inr (4, [.int mc, .ref el, .int 6])), (el, .inl (cy 2, 10, .inr (.inr (.inr (.inr g)))))]) (va_Qr (fun (u9 : Unit) => True) (fun (u9 : Unit) (ra9 : Nat) (t9 : State) => v = ra9 ∧ zx_At D cy (va_A [(pa, .inr (4, [.int mc, .ref el, .int 6])), (el, .inl (cy 2, 10, .inr (.inr (.inr (.inr g)))))] sz) [(pa, .inr (4, [.int mc, .ref el, .int 6])), (el, .inl (cy 2, 10, .inr (.inr (.inr (.inr g)))))] t9) (va_A [(pa, .inr (4, [.int mc, .ref el, .int 6])), (el, .inl (cy 2, 10, .inr (.inr (.inr (.inr g)))))] sz)) 0 0 (va_A [(pa, .inr (4, [.int mc, .ref el, .int 6])), (el, .inl (cy 2, 10, .inr (.inr (.inr (.inr g)))))] sz) := by
  refine Met.ofW (cc := cJx4a65c_get_915e3) (maxL := 2) (ret := (some (.object "java/lang/Object"))) (by decide) rfl ?_
  intro p e s m args below meth c s₁ B hml hv
  obtain ⟨rfl, hsz, hP, hK, hD0, hZ, hN⟩ := hv
  have hx := B.exec
  have hb := B.bytes
  have hr := B.returns
  have hts := atoms_spec (ws := wzJx4a65c_get_915e3) B.pre
  have hown : s.vm.findClass RJx4a65c = some m.cls := findClass_of_methodNamed B.named
  have hlocks := B.notSynchronized
  subst hsz
  have hD := hD0.self (sz := s.heap.size)
  generalize hAe : va_A [(pa, .inr (4, [.int mc, .ref el, .int 6])), (el, .inl (cy 2, 10, .inr (.inr (.inr (.inr g)))))] s.heap.size = A at hD hZ ⊢
  have hA : ∀ q : Nat, s.heap.size ≤ q → A q := fun q h => by rw [← hAe]; exact Or.inr h
  have hS : va_S A s.heap s.heap [] := va_S.rf
  have hP : va_P D vwCl [(pa, .inr (4, [.int mc, .ref el, .int 6])), (el, .inl (cy 2, 10, .inr (.inr (.inr (.inr g)))))] s.heap := hP
  have hl := lv_entry ([.ref pa, .int 0]) (n := 2) (Nat.le_of_ble_eq_true rfl)
  rw [lg_entry_eq]
  generalize (lg_sl ([.ref pa, .int 0]) ++ List.replicate (2 - (lg_sl ([.ref pa, .int 0])).length) Slot.unset).toArray = ls at hl ⊢
  have hl : lv_has ls 2 [(0, .ref pa), (1, .int 0)] := hl
  refine lv_iload_n hx hb dJx4a65c_get_915e3_0 rfl (lv_at hl 1 rfl) ?_
  refine lv_aload_n hx hb dJx4a65c_get_915e3_1 rfl (lv_at hl 0 rfl) ?_
  refine va_get (D := D) (ci := 4) (v := .int 6) (C := RJx4a65c) (T := TJx4a65c) (N := 3) hx hb hts (fun w h => zx_Gc (uz_Jx4a65c w h)) hown hK hP 0 rfl rfl 2 (by decide) (hts (.fieldLink RJx4a65c 48 "java/util/ArrayList" "size" "I") (zx_Gc mm_216)) (fun _ h9 => h9) rfl dJx4a65c_get_915e3_2 ?_
  have hPc := hP.sub (ws' := []) [] rfl
  have hDc := hD.sub (ws' := []) [] (by decide) rfl
  have hFc := va_free (wc := []) hD hS hA [] rfl
  refine va_calli (va_runS (As := [.int 0, .int 6]) (rest := []) ⟨hx, hb, hml, hown, hts⟩ (c_J15_checkIndex l hst D cy ed s.heap.size 0 6 (by decide) (by decide)) (va_cwS 2 hts (zx_GS mm_260 mm_261 mm_91 mm_262) rfl rfl rfl (by decide +kernel) ⟨(Nat.le_of_ble_eq_true rfl), (Nat.le_of_ble_eq_true rfl)⟩) ⟨zx_blind, zx_give hPc hK hDc hS hFc hZ hN⟩ rfl rfl hl.1 rfl (lv_room (Nat.le_of_ble_eq_true rfl)) dJx4a65c_get_915e3_5 ⟨(Nat.le_of_ble_eq_true rfl), (Nat.le_of_ble_eq_true rfl)⟩) hS (fun q _ h => hFc q h) hFc (fun r9 u t H1 locs ht hvm hw hB hz1 hk1 hS => ?_)
  obtain rfl : r9 = 0 := hw
  obtain ⟨hP, hD⟩ := zx_join (wr := [(pa, .inr (4, [.int mc, .ref el, .int 6])), (el, .inl (cy 2, 10, .inr (.inr (.inr (.inr g)))))]) (w1 := []) [] [0, 1] rfl rfl (by decide) (by decide) hP hD hk1 hFc hB ht
  generalize H1 = H at hP hS ⊢
  have hP : va_P D vwCl [(pa, .inr (4, [.int mc, .ref el, .int 6])), (el, .inl (cy 2, 10, .inr (.inr (.inr (.inr g)))))] H := hP
  have hD : va_D A [(pa, .inr (4, [.int mc, .ref el, .int 6])), (el, .inl (cy 2, 10, .inr (.inr (.inr (.inr g)))))] := hD
  refine W.widen (k := 0) (n := 0) (Nat.le_of_ble_eq_true rfl) (Nat.le_of_ble_eq_true rfl) ?_
  refine lv_pop hx hb dJx4a65c_get_915e3_8 rfl ?_
  refine lv_aload_n hx hb dJx4a65c_get_915e3_9 rfl (lv_at hl 0 rfl) ?_
  refine lv_iload_n hx hb dJx4a65c_get_915e3_10 rfl (lv_at hl 1 rfl) ?_
  have hPc := hP.sub (ws' := [(pa, .inr (4, [.int mc, .ref el, .int 6])), (el, .inl (cy 2, 10, .inr (.inr (.inr (.inr g)))))]) [0, 1] rfl
  have hDc := hD.sub (ws' := [(pa, .inr (4, [.int mc, .ref el, .int 6])), (el, .inl (cy 2, 10, .inr (.inr (.inr (.inr g)))))]) [0, 1] (by decide) rfl
  have hFc := va_free (wc := [(pa, .inr (4, [.int mc, .ref el, .int 6])), (el, .inl (cy 2, 10, .inr (.inr (.inr (.inr g)))))]) hD hS hA [0, 1] rfl
  refine va_callr (va_runV (As := [.int 0]) (rest := []) ⟨hx, hb, hml, hown, hts⟩ (c_AL_elem_0 l hst D cy ed H.size pa el mc g v hv) (cwV 1 hts (zx_GV mm_266 mm_267 mm_268 mm_77 mm_269) rfl rfl rfl (by decide +kernel) ⟨(Nat.le_of_ble_eq_true rfl), (Nat.le_of_ble_eq_true rfl)⟩) ⟨zx_blind, va_recv hK hPc (ci := 4) (q0 := 0) rfl rfl, zx_give hPc hK hDc hS hFc hZ hN⟩ rfl rfl hl.1 rfl (lv_room (Nat.le_of_ble_eq_true rfl)) dJx4a65c_get_915e3_11 ⟨(Nat.le_of_ble_eq_true rfl), (Nat.le_of_ble_eq_true rfl)⟩) hS (fun q _ h => hFc q h) hFc (fun u ra9 t H1 locs ht hvm hw hB hz1 hk1 hS => ?_)
  obtain ⟨rfl, hB⟩ := hB
  obtain ⟨hP, hD⟩ := zx_join (wr := []) (w1 := [(pa, .inr (4, [.int mc, .ref el, .int 6])), (el, .inl (cy 2, 10, .inr (.inr (.inr (.inr g)))))]) [0, 1] [] rfl rfl (by decide) (by decide) hP hD hk1 hFc hB ht
  generalize H1 = H at hP hS ⊢
  have hP : va_P D vwCl [(pa, .inr (4, [.int mc, .ref el, .int 6])), (el, .inl (cy 2, 10, .inr (.inr (.inr (.inr g)))))] H := hP
  have hD : va_D A [(pa, .inr (4, [.int mc, .ref el, .int 6])), (el, .inl (cy 2, 10, .inr (.inr (.inr (.inr g)))))] := hD
  refine W.widen (k := 0) (n := 0) (Nat.le_of_ble_eq_true rfl) (Nat.le_of_ble_eq_true rfl) ?_
  have hP9 := hP.sub (ws' := [(pa, .inr (4, [.int mc, .ref el, .int 6])), (el, .inl (cy 2, 10, .inr (.inr (.inr (.inr g)))))]) [0, 1] rfl
  have hD9 := hD.sub (ws' := [(pa, .inr (4, [.int mc, .ref el, .int 6])), (el, .inl (cy 2, 10, .inr (.inr (.inr (.inr g)))))]) [0, 1] (by decide) rfl
  exact W.aret (v := .ref v) hx hb hr (.inl ⟨_, rfl⟩) (.inr ⟨_, rfl⟩) (fun t ht hW => ⟨⟨(), v, rfl, trivial, ⟨rfl, zx_fin hP9 hD9 hK ht hW⟩⟩, hS.F ht⟩) hS.2.2 dJx4a65c_get_915e3_14
set_option maxHeartbeats 4000000 in
set_option maxRecDepth 100000 in
theorem c_AL_elem_1 (l : Launch) (hst : l.stackTraces = false) (D : va_G) (cy : Nat → ClassId) (ed sz : Nat) (pa : Nat) (el : Nat) (mc : Int32) (g : Nat → Option Nat) (v : Nat) (hv : g 1 = some v) : Met l yJx4a65c_elementData_915e3 wzJx4a65c_elementData_915e3 ({ frames := 0, cells := 0, slots := 0, locals := 0 }) (zx_Pc D cy ed sz [.ref pa, .int 1] [(pa, .inr (4, [.int mc, .ref el, .int 6])), (el, .inl (cy 2, 10, .inr (.inr (.inr (.inr g)))))]) (va_Qr (fun (u9 : Unit) => True) (fun (u9 : Unit) (ra9 : Nat) (t9 : State) => v = ra9 ∧ zx_At D cy (va_A [(pa, .inr (4, [.int mc, .ref el, .int 6])), (el, .inl (cy 2, 10, .inr (.inr (.inr (.inr g)))))] sz) [(pa, .inr (4, [.int mc, .ref el, .int 6])), (el, .inl (cy 2, 10, .inr (.inr (.inr (.inr g)))))] t9) (va_A [(pa, .inr (4, [.int mc, .ref el, .int 6])), (el, .inl (cy 2, 10, .inr (.inr (.inr (.inr g)))))] sz)) 0 0 (va_A [(pa, .inr (4, [.int mc, .ref el, .int 6])), (el, .inl (cy 2, 10, .inr (.inr (.inr (.inr g)))))] sz) := by
  refine Met.ofW (cc := cJx4a65c_elementData_915e3) (maxL := 2) (ret := (some (.object "java/lang/Object"))) (by decide) rfl ?_
  intro p e s m args below meth c s₁ B hml hv
  obtain ⟨rfl, hsz, hP, hK, hD0, hZ, hN⟩ := hv
  have hx := B.exec
  have hb := B.bytes
  have hr := B.returns
  have hts := atoms_spec (ws := wzJx4a65c_elementData_915e3) B.pre
  have hown : s.vm.findClass RJx4a65c = some m.cls := findClass_of_methodNamed B.named
  have hlocks := B.notSynchronized
  subst hsz
  have hD := hD0.self (sz := s.heap.size)
  generalize hAe : va_A [(pa, .inr (4, [.int mc, .ref el, .int 6])), (el, .inl (cy 2, 10, .inr (.inr (.inr (.inr g)))))] s.heap.size = A at hD hZ ⊢
  have hA : ∀ q : Nat, s.heap.size ≤ q → A q := fun q h => by rw [← hAe]; exact Or.inr h
  have hS : va_S A s.heap s.heap [] := va_S.rf
  have hP : va_P D vwCl [(pa, .inr (4, [.int mc, .ref el, .int 6])), (el, .inl (cy 2, 10, .inr (.inr (.inr (.inr g)))))] s.heap := hP
  have hl := lv_entry ([.ref pa, .int 1]) (n := 2) (Nat.le_of_ble_eq_true rfl)
  rw [lg_entry_eq]
  generalize (lg_sl ([.ref pa, .int 1]) ++ List.replicate (2 - (lg_sl ([.ref pa, .int 1])).length) Slot.unset).toArray = ls at hl ⊢
  have hl : lv_has ls 2 [(0, .ref pa), (1, .int 1)] := hl
  refine lv_aload_n hx hb dJx4a65c_elementData_915e3_0 rfl (lv_at hl 0 rfl) ?_
  refine va_get (D := D) (ci := 4) (v := .ref el) (C := RJx4a65c) (T := TJx4a65c) (N := 3) hx hb hts (fun w h => zx_Gc (uz_Jx4a65c w h)) hown hK hP 0 rfl rfl 1 (by decide) (hts (.fieldLink RJx4a65c 9 "java/util/ArrayList" "elementData" "[Ljava/lang/Object;") (zx_Gc mm_213)) (fun _ h9 => h9) rfl dJx4a65c_elementData_915e3_1 ?_
  refine lv_iload_n hx hb dJx4a65c_elementData_915e3_4 rfl (lv_at hl 1 rfl) ?_
  refine zx_aldq (v := v) hx hb hK hP 1 2 rfl rfl (zx_bn (by decide)) hv dJx4a65c_elementData_915e3_5 ?_
  have hP9 := hP.sub (ws' := [(pa, .inr (4, [.int mc, .ref el, .int 6])), (el, .inl (cy 2, 10, .inr (.inr (.inr (.inr g)))))]) [0, 1] rfl
  have hD9 := hD.sub (ws' := [(pa, .inr (4, [.int mc, .ref el, .int 6])), (el, .inl (cy 2, 10, .inr (.inr (.inr (.inr g)))))]) [0, 1] (by decide) rfl
  exact W.aret (v := .ref v) hx hb hr (.inl ⟨_, rfl⟩) (.inr ⟨_, rfl⟩) (fun t ht hW => ⟨⟨(), v, rfl, trivial, ⟨rfl, zx_fin hP9 hD9 hK ht hW⟩⟩, hS.F ht⟩) hS.2.2 dJx4a65c_elementData_915e3_6
set_option maxHeartbeats 4000000 in
set_option maxRecDepth 100000 in
theorem c_AL_get_1 (l : Launch) (hst : l.stackTraces = false) (D : va_G) (cy : Nat → ClassId) (ed sz : Nat) (pa : Nat) (el : Nat) (mc : Int32) (g : Nat → Option Nat) (v : Nat) (hv : g 1 = some v) : Met l yJx4a65c_get_915e3 wzJx4a65c_get_915e3 ({ frames := 2, cells := 0, slots := 0, locals := 43 }) (zx_Pc D cy ed sz [.ref pa, .int 1] [(pa, .inr (4, [.int mc, .ref el, .int 6])), (el, .inl (cy 2, 10, .inr (.inr (.inr (.inr g)))))]) (va_Qr (fun (u9 : Unit) => True) (fun (u9 : Unit) (ra9 : Nat) (t9 : State) => v = ra9 ∧ zx_At D cy (va_A [(pa, .inr (4, [.int mc, .ref el, .int 6])), (el, .inl (cy 2, 10, .inr (.inr (.inr (.inr g)))))] sz) [(pa, .inr (4, [.int mc, .ref el, .int 6])), (el, .inl (cy 2, 10, .inr (.inr (.inr (.inr g)))))] t9) (va_A [(pa, .inr (4, [.int mc, .ref el, .int 6])), (el, .inl (cy 2, 10, .inr (.inr (.inr (.inr g)))))] sz)) 0 0 (va_A [(pa, .inr (4, [.int mc, .ref el, .int 6])), (el, .inl (cy 2, 10, .inr (.inr (.inr (.inr g)))))] sz) := by
  refine Met.ofW (cc := cJx4a65c_get_915e3) (maxL := 2) (ret := (some (.object "java/lang/Object"))) (by decide) rfl ?_
  intro p e s m args below meth c s₁ B hml hv
  obtain ⟨rfl, hsz, hP, hK, hD0, hZ, hN⟩ := hv
  have hx := B.exec
  have hb := B.bytes
  have hr := B.returns
  have hts := atoms_spec (ws := wzJx4a65c_get_915e3) B.pre
  have hown : s.vm.findClass RJx4a65c = some m.cls := findClass_of_methodNamed B.named
  have hlocks := B.notSynchronized
  subst hsz
  have hD := hD0.self (sz := s.heap.size)
  generalize hAe : va_A [(pa, .inr (4, [.int mc, .ref el, .int 6])), (el, .inl (cy 2, 10, .inr (.inr (.inr (.inr g)))))] s.heap.size = A at hD hZ ⊢
  have hA : ∀ q : Nat, s.heap.size ≤ q → A q := fun q h => by rw [← hAe]; exact Or.inr h
  have hS : va_S A s.heap s.heap [] := va_S.rf
  have hP : va_P D vwCl [(pa, .inr (4, [.int mc, .ref el, .int 6])), (el, .inl (cy 2, 10, .inr (.inr (.inr (.inr g)))))] s.heap := hP
  have hl := lv_entry ([.ref pa, .int 1]) (n := 2) (Nat.le_of_ble_eq_true rfl)
  rw [lg_entry_eq]
  generalize (lg_sl ([.ref pa, .int 1]) ++ List.replicate (2 - (lg_sl ([.ref pa, .int 1])).length) Slot.unset).toArray = ls at hl ⊢
  have hl : lv_has ls 2 [(0, .ref pa), (1, .int 1)] := hl
  refine lv_iload_n hx hb dJx4a65c_get_915e3_0 rfl (lv_at hl 1 rfl) ?_
  refine lv_aload_n hx hb dJx4a65c_get_915e3_1 rfl (lv_at hl 0 rfl) ?_
  refine va_get (D := D) (ci := 4) (v := .int 6) (C := RJx4a65c) (T := TJx4a65c) (N := 3) hx hb hts (fun w h => zx_Gc (uz_Jx4a65c w h)) hown hK hP 0 rfl rfl 2 (by decide) (hts (.fieldLink RJx4a65c 48 "java/util/ArrayList" "size" "I") (zx_Gc mm_216)) (fun _ h9 => h9) rfl dJx4a65c_get_915e3_2 ?_
  have hPc := hP.sub (ws' := []) [] rfl
  have hDc := hD.sub (ws' := []) [] (by decide) rfl
  have hFc := va_free (wc := []) hD hS hA [] rfl
  refine va_calli (va_runS (As := [.int 1, .int 6]) (rest := []) ⟨hx, hb, hml, hown, hts⟩ (c_J15_checkIndex l hst D cy ed s.heap.size 1 6 (by decide) (by decide)) (va_cwS 2 hts (zx_GS mm_260 mm_261 mm_91 mm_262) rfl rfl rfl (by decide +kernel) ⟨(Nat.le_of_ble_eq_true rfl), (Nat.le_of_ble_eq_true rfl)⟩) ⟨zx_blind, zx_give hPc hK hDc hS hFc hZ hN⟩ rfl rfl hl.1 rfl (lv_room (Nat.le_of_ble_eq_true rfl)) dJx4a65c_get_915e3_5 ⟨(Nat.le_of_ble_eq_true rfl), (Nat.le_of_ble_eq_true rfl)⟩) hS (fun q _ h => hFc q h) hFc (fun r9 u t H1 locs ht hvm hw hB hz1 hk1 hS => ?_)
  obtain rfl : r9 = 1 := hw
  obtain ⟨hP, hD⟩ := zx_join (wr := [(pa, .inr (4, [.int mc, .ref el, .int 6])), (el, .inl (cy 2, 10, .inr (.inr (.inr (.inr g)))))]) (w1 := []) [] [0, 1] rfl rfl (by decide) (by decide) hP hD hk1 hFc hB ht
  generalize H1 = H at hP hS ⊢
  have hP : va_P D vwCl [(pa, .inr (4, [.int mc, .ref el, .int 6])), (el, .inl (cy 2, 10, .inr (.inr (.inr (.inr g)))))] H := hP
  have hD : va_D A [(pa, .inr (4, [.int mc, .ref el, .int 6])), (el, .inl (cy 2, 10, .inr (.inr (.inr (.inr g)))))] := hD
  refine W.widen (k := 0) (n := 0) (Nat.le_of_ble_eq_true rfl) (Nat.le_of_ble_eq_true rfl) ?_
  refine lv_pop hx hb dJx4a65c_get_915e3_8 rfl ?_
  refine lv_aload_n hx hb dJx4a65c_get_915e3_9 rfl (lv_at hl 0 rfl) ?_
  refine lv_iload_n hx hb dJx4a65c_get_915e3_10 rfl (lv_at hl 1 rfl) ?_
  have hPc := hP.sub (ws' := [(pa, .inr (4, [.int mc, .ref el, .int 6])), (el, .inl (cy 2, 10, .inr (.inr (.inr (.inr g)))))]) [0, 1] rfl
  have hDc := hD.sub (ws' := [(pa, .inr (4, [.int mc, .ref el, .int 6])), (el, .inl (cy 2, 10, .inr (.inr (.inr (.inr g)))))]) [0, 1] (by decide) rfl
  have hFc := va_free (wc := [(pa, .inr (4, [.int mc, .ref el, .int 6])), (el, .inl (cy 2, 10, .inr (.inr (.inr (.inr g)))))]) hD hS hA [0, 1] rfl
  refine va_callr (va_runV (As := [.int 1]) (rest := []) ⟨hx, hb, hml, hown, hts⟩ (c_AL_elem_1 l hst D cy ed H.size pa el mc g v hv) (cwV 1 hts (zx_GV mm_266 mm_267 mm_268 mm_77 mm_269) rfl rfl rfl (by decide +kernel) ⟨(Nat.le_of_ble_eq_true rfl), (Nat.le_of_ble_eq_true rfl)⟩) ⟨zx_blind, va_recv hK hPc (ci := 4) (q0 := 0) rfl rfl, zx_give hPc hK hDc hS hFc hZ hN⟩ rfl rfl hl.1 rfl (lv_room (Nat.le_of_ble_eq_true rfl)) dJx4a65c_get_915e3_11 ⟨(Nat.le_of_ble_eq_true rfl), (Nat.le_of_ble_eq_true rfl)⟩) hS (fun q _ h => hFc q h) hFc (fun u ra9 t H1 locs ht hvm hw hB hz1 hk1 hS => ?_)
  obtain ⟨rfl, hB⟩ := hB
  obtain ⟨hP, hD⟩ := zx_join (wr := []) (w1 := [(pa, .inr (4, [.int mc, .ref el, .int 6])), (el, .inl (cy 2, 10, .inr (.inr (.inr (.inr g)))))]) [0, 1] [] rfl rfl (by decide) (by decide) hP hD hk1 hFc hB ht
  generalize H1 = H at hP hS ⊢
  have hP : va_P D vwCl [(pa, .inr (4, [.int mc, .ref el, .int 6])), (el, .inl (cy 2, 10, .inr (.inr (.inr (.inr g)))))] H := hP
  have hD : va_D A [(pa, .inr (4, [.int mc, .ref el, .int 6])), (el, .inl (cy 2, 10, .inr (.inr (.inr (.inr g)))))] := hD
  refine W.widen (k := 0) (n := 0) (Nat.le_of_ble_eq_true rfl) (Nat.le_of_ble_eq_true rfl) ?_
  have hP9 := hP.sub (ws' := [(pa, .inr (4, [.int mc, .ref el, .int 6])), (el, .inl (cy 2, 10, .inr (.inr (.inr (.inr g)))))]) [0, 1] rfl
  have hD9 := hD.sub (ws' := [(pa, .inr (4, [.int mc, .ref el, .int 6])), (el, .inl (cy 2, 10, .inr (.inr (.inr (.inr g)))))]) [0, 1] (by decide) rfl
  exact W.aret (v := .ref v) hx hb hr (.inl ⟨_, rfl⟩) (.inr ⟨_, rfl⟩) (fun t ht hW => ⟨⟨(), v, rfl, trivial, ⟨rfl, zx_fin hP9 hD9 hK ht hW⟩⟩, hS.F ht⟩) hS.2.2 dJx4a65c_get_915e3_14
set_option maxHeartbeats 4000000 in
set_option maxRecDepth 100000 in
theorem c_AL_elem_2 (l : Launch) (hst : l.stackTraces = false) (D : va_G) (cy : Nat → ClassId) (ed sz : Nat) (pa : Nat) (el : Nat) (mc : Int32) (g : Nat → Option Nat) (v : Nat) (hv : g 2 = some v) : Met l yJx4a65c_elementData_915e3 wzJx4a65c_elementData_915e3 ({ frames := 0, cells := 0, slots := 0, locals := 0 }) (zx_Pc D cy ed sz [.ref pa, .int 2] [(pa, .inr (4, [.int mc, .ref el, .int 6])), (el, .inl (cy 2, 10, .inr (.inr (.inr (.inr g)))))]) (va_Qr (fun (u9 : Unit) => True) (fun (u9 : Unit) (ra9 : Nat) (t9 : State) => v = ra9 ∧ zx_At D cy (va_A [(pa, .inr (4, [.int mc, .ref el, .int 6])), (el, .inl (cy 2, 10, .inr (.inr (.inr (.inr g)))))] sz) [(pa, .inr (4, [.int mc, .ref el, .int 6])), (el, .inl (cy 2, 10, .inr (.inr (.inr (.inr g)))))] t9) (va_A [(pa, .inr (4, [.int mc, .ref el, .int 6])), (el, .inl (cy 2, 10, .inr (.inr (.inr (.inr g)))))] sz)) 0 0 (va_A [(pa, .inr (4, [.int mc, .ref el, .int 6])), (el, .inl (cy 2, 10, .inr (.inr (.inr (.inr g)))))] sz) := by
  refine Met.ofW (cc := cJx4a65c_elementData_915e3) (maxL := 2) (ret := (some (.object "java/lang/Object"))) (by decide) rfl ?_
  intro p e s m args below meth c s₁ B hml hv
  obtain ⟨rfl, hsz, hP, hK, hD0, hZ, hN⟩ := hv
  have hx := B.exec
  have hb := B.bytes
  have hr := B.returns
  have hts := atoms_spec (ws := wzJx4a65c_elementData_915e3) B.pre
  have hown : s.vm.findClass RJx4a65c = some m.cls := findClass_of_methodNamed B.named
  have hlocks := B.notSynchronized
  subst hsz
  have hD := hD0.self (sz := s.heap.size)
  generalize hAe : va_A [(pa, .inr (4, [.int mc, .ref el, .int 6])), (el, .inl (cy 2, 10, .inr (.inr (.inr (.inr g)))))] s.heap.size = A at hD hZ ⊢
  have hA : ∀ q : Nat, s.heap.size ≤ q → A q := fun q h => by rw [← hAe]; exact Or.inr h
  have hS : va_S A s.heap s.heap [] := va_S.rf
  have hP : va_P D vwCl [(pa, .inr (4, [.int mc, .ref el, .int 6])), (el, .inl (cy 2, 10, .inr (.inr (.inr (.inr g)))))] s.heap := hP
  have hl := lv_entry ([.ref pa, .int 2]) (n := 2) (Nat.le_of_ble_eq_true rfl)
  rw [lg_entry_eq]
  generalize (lg_sl ([.ref pa, .int 2]) ++ List.replicate (2 - (lg_sl ([.ref pa, .int 2])).length) Slot.unset).toArray = ls at hl ⊢
  have hl : lv_has ls 2 [(0, .ref pa), (1, .int 2)] := hl
  refine lv_aload_n hx hb dJx4a65c_elementData_915e3_0 rfl (lv_at hl 0 rfl) ?_
  refine va_get (D := D) (ci := 4) (v := .ref el) (C := RJx4a65c) (T := TJx4a65c) (N := 3) hx hb hts (fun w h => zx_Gc (uz_Jx4a65c w h)) hown hK hP 0 rfl rfl 1 (by decide) (hts (.fieldLink RJx4a65c 9 "java/util/ArrayList" "elementData" "[Ljava/lang/Object;") (zx_Gc mm_213)) (fun _ h9 => h9) rfl dJx4a65c_elementData_915e3_1 ?_
  refine lv_iload_n hx hb dJx4a65c_elementData_915e3_4 rfl (lv_at hl 1 rfl) ?_
  refine zx_aldq (v := v) hx hb hK hP 1 2 rfl rfl (zx_bn (by decide)) hv dJx4a65c_elementData_915e3_5 ?_
  have hP9 := hP.sub (ws' := [(pa, .inr (4, [.int mc, .ref el, .int 6])), (el, .inl (cy 2, 10, .inr (.inr (.inr (.inr g)))))]) [0, 1] rfl
  have hD9 := hD.sub (ws' := [(pa, .inr (4, [.int mc, .ref el, .int 6])), (el, .inl (cy 2, 10, .inr (.inr (.inr (.inr g)))))]) [0, 1] (by decide) rfl
  exact W.aret (v := .ref v) hx hb hr (.inl ⟨_, rfl⟩) (.inr ⟨_, rfl⟩) (fun t ht hW => ⟨⟨(), v, rfl, trivial, ⟨rfl, zx_fin hP9 hD9 hK ht hW⟩⟩, hS.F ht⟩) hS.2.2 dJx4a65c_elementData_915e3_6
set_option maxHeartbeats 4000000 in
set_option maxRecDepth 100000 in
theorem c_AL_get_2 (l : Launch) (hst : l.stackTraces = false) (D : va_G) (cy : Nat → ClassId) (ed sz : Nat) (pa : Nat) (el : Nat) (mc : Int32) (g : Nat → Option Nat) (v : Nat) (hv : g 2 = some v) : Met l yJx4a65c_get_915e3 wzJx4a65c_get_915e3 ({ frames := 2, cells := 0, slots := 0, locals := 43 }) (zx_Pc D cy ed sz [.ref pa, .int 2] [(pa, .inr (4, [.int mc, .ref el, .int 6])), (el, .inl (cy 2, 10, .inr (.inr (.inr (.inr g)))))]) (va_Qr (fun (u9 : Unit) => True) (fun (u9 : Unit) (ra9 : Nat) (t9 : State) => v = ra9 ∧ zx_At D cy (va_A [(pa, .inr (4, [.int mc, .ref el, .int 6])), (el, .inl (cy 2, 10, .inr (.inr (.inr (.inr g)))))] sz) [(pa, .inr (4, [.int mc, .ref el, .int 6])), (el, .inl (cy 2, 10, .inr (.inr (.inr (.inr g)))))] t9) (va_A [(pa, .inr (4, [.int mc, .ref el, .int 6])), (el, .inl (cy 2, 10, .inr (.inr (.inr (.inr g)))))] sz)) 0 0 (va_A [(pa, .inr (4, [.int mc, .ref el, .int 6])), (el, .inl (cy 2, 10, .inr (.inr (.inr (.inr g)))))] sz) := by
  refine Met.ofW (cc := cJx4a65c_get_915e3) (maxL := 2) (ret := (some (.object "java/lang/Object"))) (by decide) rfl ?_
  intro p e s m args below meth c s₁ B hml hv
  obtain ⟨rfl, hsz, hP, hK, hD0, hZ, hN⟩ := hv
  have hx := B.exec
  have hb := B.bytes
  have hr := B.returns
  have hts := atoms_spec (ws := wzJx4a65c_get_915e3) B.pre
  have hown : s.vm.findClass RJx4a65c = some m.cls := findClass_of_methodNamed B.named
  have hlocks := B.notSynchronized
  subst hsz
  have hD := hD0.self (sz := s.heap.size)
  generalize hAe : va_A [(pa, .inr (4, [.int mc, .ref el, .int 6])), (el, .inl (cy 2, 10, .inr (.inr (.inr (.inr g)))))] s.heap.size = A at hD hZ ⊢
  have hA : ∀ q : Nat, s.heap.size ≤ q → A q := fun q h => by rw [← hAe]; exact Or.inr h
  have hS : va_S A s.heap s.heap [] := va_S.rf
  have hP : va_P D vwCl [(pa, .inr (4, [.int mc, .ref el, .int 6])), (el, .inl (cy 2, 10, .inr (.inr (.inr (.inr g)))))] s.heap := hP
  have hl := lv_entry ([.ref pa, .int 2]) (n := 2) (Nat.le_of_ble_eq_true rfl)
  rw [lg_entry_eq]
  generalize (lg_sl ([.ref pa, .int 2]) ++ List.replicate (2 - (lg_sl ([.ref pa, .int 2])).length) Slot.unset).toArray = ls at hl ⊢
  have hl : lv_has ls 2 [(0, .ref pa), (1, .int 2)] := hl
  refine lv_iload_n hx hb dJx4a65c_get_915e3_0 rfl (lv_at hl 1 rfl) ?_
  refine lv_aload_n hx hb dJx4a65c_get_915e3_1 rfl (lv_at hl 0 rfl) ?_
  refine va_get (D := D) (ci := 4) (v := .int 6) (C := RJx4a65c) (T := TJx4a65c) (N := 3) hx hb hts (fun w h => zx_Gc (uz_Jx4a65c w h)) hown hK hP 0 rfl rfl 2 (by decide) (hts (.fieldLink RJx4a65c 48 "java/util/ArrayList" "size" "I") (zx_Gc mm_216)) (fun _ h9 => h9) rfl dJx4a65c_get_915e3_2 ?_
  have hPc := hP.sub (ws' := []) [] rfl
  have hDc := hD.sub (ws' := []) [] (by decide) rfl
  have hFc := va_free (wc := []) hD hS hA [] rfl
  refine va_calli (va_runS (As := [.int 2, .int 6]) (rest := []) ⟨hx, hb, hml, hown, hts⟩ (c_J15_checkIndex l hst D cy ed s.heap.size 2 6 (by decide) (by decide)) (va_cwS 2 hts (zx_GS mm_260 mm_261 mm_91 mm_262) rfl rfl rfl (by decide +kernel) ⟨(Nat.le_of_ble_eq_true rfl), (Nat.le_of_ble_eq_true rfl)⟩) ⟨zx_blind, zx_give hPc hK hDc hS hFc hZ hN⟩ rfl rfl hl.1 rfl (lv_room (Nat.le_of_ble_eq_true rfl)) dJx4a65c_get_915e3_5 ⟨(Nat.le_of_ble_eq_true rfl), (Nat.le_of_ble_eq_true rfl)⟩) hS (fun q _ h => hFc q h) hFc (fun r9 u t H1 locs ht hvm hw hB hz1 hk1 hS => ?_)
  obtain rfl : r9 = 2 := hw
  obtain ⟨hP, hD⟩ := zx_join (wr := [(pa, .inr (4, [.int mc, .ref el, .int 6])), (el, .inl (cy 2, 10, .inr (.inr (.inr (.inr g)))))]) (w1 := []) [] [0, 1] rfl rfl (by decide) (by decide) hP hD hk1 hFc hB ht
  generalize H1 = H at hP hS ⊢
  have hP : va_P D vwCl [(pa, .inr (4, [.int mc, .ref el, .int 6])), (el, .inl (cy 2, 10, .inr (.inr (.inr (.inr g)))))] H := hP
  have hD : va_D A [(pa, .inr (4, [.int mc, .ref el, .int 6])), (el, .inl (cy 2, 10, .inr (.inr (.inr (.inr g)))))] := hD
  refine W.widen (k := 0) (n := 0) (Nat.le_of_ble_eq_true rfl) (Nat.le_of_ble_eq_true rfl) ?_
  refine lv_pop hx hb dJx4a65c_get_915e3_8 rfl ?_
  refine lv_aload_n hx hb dJx4a65c_get_915e3_9 rfl (lv_at hl 0 rfl) ?_
  refine lv_iload_n hx hb dJx4a65c_get_915e3_10 rfl (lv_at hl 1 rfl) ?_
  have hPc := hP.sub (ws' := [(pa, .inr (4, [.int mc, .ref el, .int 6])), (el, .inl (cy 2, 10, .inr (.inr (.inr (.inr g)))))]) [0, 1] rfl
  have hDc := hD.sub (ws' := [(pa, .inr (4, [.int mc, .ref el, .int 6])), (el, .inl (cy 2, 10, .inr (.inr (.inr (.inr g)))))]) [0, 1] (by decide) rfl
  have hFc := va_free (wc := [(pa, .inr (4, [.int mc, .ref el, .int 6])), (el, .inl (cy 2, 10, .inr (.inr (.inr (.inr g)))))]) hD hS hA [0, 1] rfl
  refine va_callr (va_runV (As := [.int 2]) (rest := []) ⟨hx, hb, hml, hown, hts⟩ (c_AL_elem_2 l hst D cy ed H.size pa el mc g v hv) (cwV 1 hts (zx_GV mm_266 mm_267 mm_268 mm_77 mm_269) rfl rfl rfl (by decide +kernel) ⟨(Nat.le_of_ble_eq_true rfl), (Nat.le_of_ble_eq_true rfl)⟩) ⟨zx_blind, va_recv hK hPc (ci := 4) (q0 := 0) rfl rfl, zx_give hPc hK hDc hS hFc hZ hN⟩ rfl rfl hl.1 rfl (lv_room (Nat.le_of_ble_eq_true rfl)) dJx4a65c_get_915e3_11 ⟨(Nat.le_of_ble_eq_true rfl), (Nat.le_of_ble_eq_true rfl)⟩) hS (fun q _ h => hFc q h) hFc (fun u ra9 t H1 locs ht hvm hw hB hz1 hk1 hS => ?_)
  obtain ⟨rfl, hB⟩ := hB
  obtain ⟨hP, hD⟩ := zx_join (wr := []) (w1 := [(pa, .inr (4, [.int mc, .ref el, .int 6])), (el, .inl (cy 2, 10, .inr (.inr (.inr (.inr g)))))]) [0, 1] [] rfl rfl (by decide) (by decide) hP hD hk1 hFc hB ht
  generalize H1 = H at hP hS ⊢
  have hP : va_P D vwCl [(pa, .inr (4, [.int mc, .ref el, .int 6])), (el, .inl (cy 2, 10, .inr (.inr (.inr (.inr g)))))] H := hP
  have hD : va_D A [(pa, .inr (4, [.int mc, .ref el, .int 6])), (el, .inl (cy 2, 10, .inr (.inr (.inr (.inr g)))))] := hD
  refine W.widen (k := 0) (n := 0) (Nat.le_of_ble_eq_true rfl) (Nat.le_of_ble_eq_true rfl) ?_
  have hP9 := hP.sub (ws' := [(pa, .inr (4, [.int mc, .ref el, .int 6])), (el, .inl (cy 2, 10, .inr (.inr (.inr (.inr g)))))]) [0, 1] rfl
  have hD9 := hD.sub (ws' := [(pa, .inr (4, [.int mc, .ref el, .int 6])), (el, .inl (cy 2, 10, .inr (.inr (.inr (.inr g)))))]) [0, 1] (by decide) rfl
  exact W.aret (v := .ref v) hx hb hr (.inl ⟨_, rfl⟩) (.inr ⟨_, rfl⟩) (fun t ht hW => ⟨⟨(), v, rfl, trivial, ⟨rfl, zx_fin hP9 hD9 hK ht hW⟩⟩, hS.F ht⟩) hS.2.2 dJx4a65c_get_915e3_14
set_option maxHeartbeats 4000000 in
set_option maxRecDepth 100000 in
theorem c_AL_elem_3 (l : Launch) (hst : l.stackTraces = false) (D : va_G) (cy : Nat → ClassId) (ed sz : Nat) (pa : Nat) (el : Nat) (mc : Int32) (g : Nat → Option Nat) (v : Nat) (hv : g 3 = some v) : Met l yJx4a65c_elementData_915e3 wzJx4a65c_elementData_915e3 ({ frames := 0, cells := 0, slots := 0, locals := 0 }) (zx_Pc D cy ed sz [.ref pa, .int 3] [(pa, .inr (4, [.int mc, .ref el, .int 6])), (el, .inl (cy 2, 10, .inr (.inr (.inr (.inr g)))))]) (va_Qr (fun (u9 : Unit) => True) (fun (u9 : Unit) (ra9 : Nat) (t9 : State) => v = ra9 ∧ zx_At D cy (va_A [(pa, .inr (4, [.int mc, .ref el, .int 6])), (el, .inl (cy 2, 10, .inr (.inr (.inr (.inr g)))))] sz) [(pa, .inr (4, [.int mc, .ref el, .int 6])), (el, .inl (cy 2, 10, .inr (.inr (.inr (.inr g)))))] t9) (va_A [(pa, .inr (4, [.int mc, .ref el, .int 6])), (el, .inl (cy 2, 10, .inr (.inr (.inr (.inr g)))))] sz)) 0 0 (va_A [(pa, .inr (4, [.int mc, .ref el, .int 6])), (el, .inl (cy 2, 10, .inr (.inr (.inr (.inr g)))))] sz) := by
  refine Met.ofW (cc := cJx4a65c_elementData_915e3) (maxL := 2) (ret := (some (.object "java/lang/Object"))) (by decide) rfl ?_
  intro p e s m args below meth c s₁ B hml hv
  obtain ⟨rfl, hsz, hP, hK, hD0, hZ, hN⟩ := hv
  have hx := B.exec
  have hb := B.bytes
  have hr := B.returns
  have hts := atoms_spec (ws := wzJx4a65c_elementData_915e3) B.pre
  have hown : s.vm.findClass RJx4a65c = some m.cls := findClass_of_methodNamed B.named
  have hlocks := B.notSynchronized
  subst hsz
  have hD := hD0.self (sz := s.heap.size)
  generalize hAe : va_A [(pa, .inr (4, [.int mc, .ref el, .int 6])), (el, .inl (cy 2, 10, .inr (.inr (.inr (.inr g)))))] s.heap.size = A at hD hZ ⊢
  have hA : ∀ q : Nat, s.heap.size ≤ q → A q := fun q h => by rw [← hAe]; exact Or.inr h
  have hS : va_S A s.heap s.heap [] := va_S.rf
  have hP : va_P D vwCl [(pa, .inr (4, [.int mc, .ref el, .int 6])), (el, .inl (cy 2, 10, .inr (.inr (.inr (.inr g)))))] s.heap := hP
  have hl := lv_entry ([.ref pa, .int 3]) (n := 2) (Nat.le_of_ble_eq_true rfl)
  rw [lg_entry_eq]
  generalize (lg_sl ([.ref pa, .int 3]) ++ List.replicate (2 - (lg_sl ([.ref pa, .int 3])).length) Slot.unset).toArray = ls at hl ⊢
  have hl : lv_has ls 2 [(0, .ref pa), (1, .int 3)] := hl
  refine lv_aload_n hx hb dJx4a65c_elementData_915e3_0 rfl (lv_at hl 0 rfl) ?_
  refine va_get (D := D) (ci := 4) (v := .ref el) (C := RJx4a65c) (T := TJx4a65c) (N := 3) hx hb hts (fun w h => zx_Gc (uz_Jx4a65c w h)) hown hK hP 0 rfl rfl 1 (by decide) (hts (.fieldLink RJx4a65c 9 "java/util/ArrayList" "elementData" "[Ljava/lang/Object;") (zx_Gc mm_213)) (fun _ h9 => h9) rfl dJx4a65c_elementData_915e3_1 ?_
  refine lv_iload_n hx hb dJx4a65c_elementData_915e3_4 rfl (lv_at hl 1 rfl) ?_
  refine zx_aldq (v := v) hx hb hK hP 1 2 rfl rfl (zx_bn (by decide)) hv dJx4a65c_elementData_915e3_5 ?_
  have hP9 := hP.sub (ws' := [(pa, .inr (4, [.int mc, .ref el, .int 6])), (el, .inl (cy 2, 10, .inr (.inr (.inr (.inr g)))))]) [0, 1] rfl
  have hD9 := hD.sub (ws' := [(pa, .inr (4, [.int mc, .ref el, .int 6])), (el, .inl (cy 2, 10, .inr (.inr (.inr (.inr g)))))]) [0, 1] (by decide) rfl
  exact W.aret (v := .ref v) hx hb hr (.inl ⟨_, rfl⟩) (.inr ⟨_, rfl⟩) (fun t ht hW => ⟨⟨(), v, rfl, trivial, ⟨rfl, zx_fin hP9 hD9 hK ht hW⟩⟩, hS.F ht⟩) hS.2.2 dJx4a65c_elementData_915e3_6
set_option maxHeartbeats 4000000 in
set_option maxRecDepth 100000 in
theorem c_AL_get_3 (l : Launch) (hst : l.stackTraces = false) (D : va_G) (cy : Nat → ClassId) (ed sz : Nat) (pa : Nat) (el : Nat) (mc : Int32) (g : Nat → Option Nat) (v : Nat) (hv : g 3 = some v) : Met l yJx4a65c_get_915e3 wzJx4a65c_get_915e3 ({ frames := 2, cells := 0, slots := 0, locals := 43 }) (zx_Pc D cy ed sz [.ref pa, .int 3] [(pa, .inr (4, [.int mc, .ref el, .int 6])), (el, .inl (cy 2, 10, .inr (.inr (.inr (.inr g)))))]) (va_Qr (fun (u9 : Unit) => True) (fun (u9 : Unit) (ra9 : Nat) (t9 : State) => v = ra9 ∧ zx_At D cy (va_A [(pa, .inr (4, [.int mc, .ref el, .int 6])), (el, .inl (cy 2, 10, .inr (.inr (.inr (.inr g)))))] sz) [(pa, .inr (4, [.int mc, .ref el, .int 6])), (el, .inl (cy 2, 10, .inr (.inr (.inr (.inr g)))))] t9) (va_A [(pa, .inr (4, [.int mc, .ref el, .int 6])), (el, .inl (cy 2, 10, .inr (.inr (.inr (.inr g)))))] sz)) 0 0 (va_A [(pa, .inr (4, [.int mc, .ref el, .int 6])), (el, .inl (cy 2, 10, .inr (.inr (.inr (.inr g)))))] sz) := by
  refine Met.ofW (cc := cJx4a65c_get_915e3) (maxL := 2) (ret := (some (.object "java/lang/Object"))) (by decide) rfl ?_
  intro p e s m args below meth c s₁ B hml hv
  obtain ⟨rfl, hsz, hP, hK, hD0, hZ, hN⟩ := hv
  have hx := B.exec
  have hb := B.bytes
  have hr := B.returns
  have hts := atoms_spec (ws := wzJx4a65c_get_915e3) B.pre
  have hown : s.vm.findClass RJx4a65c = some m.cls := findClass_of_methodNamed B.named
  have hlocks := B.notSynchronized
  subst hsz
  have hD := hD0.self (sz := s.heap.size)
  generalize hAe : va_A [(pa, .inr (4, [.int mc, .ref el, .int 6])), (el, .inl (cy 2, 10, .inr (.inr (.inr (.inr g)))))] s.heap.size = A at hD hZ ⊢
  have hA : ∀ q : Nat, s.heap.size ≤ q → A q := fun q h => by rw [← hAe]; exact Or.inr h
  have hS : va_S A s.heap s.heap [] := va_S.rf
  have hP : va_P D vwCl [(pa, .inr (4, [.int mc, .ref el, .int 6])), (el, .inl (cy 2, 10, .inr (.inr (.inr (.inr g)))))] s.heap := hP
  have hl := lv_entry ([.ref pa, .int 3]) (n := 2) (Nat.le_of_ble_eq_true rfl)
  rw [lg_entry_eq]
  generalize (lg_sl ([.ref pa, .int 3]) ++ List.replicate (2 - (lg_sl ([.ref pa, .int 3])).length) Slot.unset).toArray = ls at hl ⊢
  have hl : lv_has ls 2 [(0, .ref pa), (1, .int 3)] := hl
  refine lv_iload_n hx hb dJx4a65c_get_915e3_0 rfl (lv_at hl 1 rfl) ?_
  refine lv_aload_n hx hb dJx4a65c_get_915e3_1 rfl (lv_at hl 0 rfl) ?_
  refine va_get (D := D) (ci := 4) (v := .int 6) (C := RJx4a65c) (T := TJx4a65c) (N := 3) hx hb hts (fun w h => zx_Gc (uz_Jx4a65c w h)) hown hK hP 0 rfl rfl 2 (by decide) (hts (.fieldLink RJx4a65c 48 "java/util/ArrayList" "size" "I") (zx_Gc mm_216)) (fun _ h9 => h9) rfl dJx4a65c_get_915e3_2 ?_
  have hPc := hP.sub (ws' := []) [] rfl
  have hDc := hD.sub (ws' := []) [] (by decide) rfl
  have hFc := va_free (wc := []) hD hS hA [] rfl
  refine va_calli (va_runS (As := [.int 3, .int 6]) (rest := []) ⟨hx, hb, hml, hown, hts⟩ (c_J15_checkIndex l hst D cy ed s.heap.size 3 6 (by decide) (by decide)) (va_cwS 2 hts (zx_GS mm_260 mm_261 mm_91 mm_262) rfl rfl rfl (by decide +kernel) ⟨(Nat.le_of_ble_eq_true rfl), (Nat.le_of_ble_eq_true rfl)⟩) ⟨zx_blind, zx_give hPc hK hDc hS hFc hZ hN⟩ rfl rfl hl.1 rfl (lv_room (Nat.le_of_ble_eq_true rfl)) dJx4a65c_get_915e3_5 ⟨(Nat.le_of_ble_eq_true rfl), (Nat.le_of_ble_eq_true rfl)⟩) hS (fun q _ h => hFc q h) hFc (fun r9 u t H1 locs ht hvm hw hB hz1 hk1 hS => ?_)
  obtain rfl : r9 = 3 := hw
  obtain ⟨hP, hD⟩ := zx_join (wr := [(pa, .inr (4, [.int mc, .ref el, .int 6])), (el, .inl (cy 2, 10, .inr (.inr (.inr (.inr g)))))]) (w1 := []) [] [0, 1] rfl rfl (by decide) (by decide) hP hD hk1 hFc hB ht
  generalize H1 = H at hP hS ⊢
  have hP : va_P D vwCl [(pa, .inr (4, [.int mc, .ref el, .int 6])), (el, .inl (cy 2, 10, .inr (.inr (.inr (.inr g)))))] H := hP
  have hD : va_D A [(pa, .inr (4, [.int mc, .ref el, .int 6])), (el, .inl (cy 2, 10, .inr (.inr (.inr (.inr g)))))] := hD
  refine W.widen (k := 0) (n := 0) (Nat.le_of_ble_eq_true rfl) (Nat.le_of_ble_eq_true rfl) ?_
  refine lv_pop hx hb dJx4a65c_get_915e3_8 rfl ?_
  refine lv_aload_n hx hb dJx4a65c_get_915e3_9 rfl (lv_at hl 0 rfl) ?_
  refine lv_iload_n hx hb dJx4a65c_get_915e3_10 rfl (lv_at hl 1 rfl) ?_
  have hPc := hP.sub (ws' := [(pa, .inr (4, [.int mc, .ref el, .int 6])), (el, .inl (cy 2, 10, .inr (.inr (.inr (.inr g)))))]) [0, 1] rfl
  have hDc := hD.sub (ws' := [(pa, .inr (4, [.int mc, .ref el, .int 6])), (el, .inl (cy 2, 10, .inr (.inr (.inr (.inr g)))))]) [0, 1] (by decide) rfl
  have hFc := va_free (wc := [(pa, .inr (4, [.int mc, .ref el, .int 6])), (el, .inl (cy 2, 10, .inr (.inr (.inr (.inr g)))))]) hD hS hA [0, 1] rfl
  refine va_callr (va_runV (As := [.int 3]) (rest := []) ⟨hx, hb, hml, hown, hts⟩ (c_AL_elem_3 l hst D cy ed H.size pa el mc g v hv) (cwV 1 hts (zx_GV mm_266 mm_267 mm_268 mm_77 mm_269) rfl rfl rfl (by decide +kernel) ⟨(Nat.le_of_ble_eq_true rfl), (Nat.le_of_ble_eq_true rfl)⟩) ⟨zx_blind, va_recv hK hPc (ci := 4) (q0 := 0) rfl rfl, zx_give hPc hK hDc hS hFc hZ hN⟩ rfl rfl hl.1 rfl (lv_room (Nat.le_of_ble_eq_true rfl)) dJx4a65c_get_915e3_11 ⟨(Nat.le_of_ble_eq_true rfl), (Nat.le_of_ble_eq_true rfl)⟩) hS (fun q _ h => hFc q h) hFc (fun u ra9 t H1 locs ht hvm hw hB hz1 hk1 hS => ?_)
  obtain ⟨rfl, hB⟩ := hB
  obtain ⟨hP, hD⟩ := zx_join (wr := []) (w1 := [(pa, .inr (4, [.int mc, .ref el, .int 6])), (el, .inl (cy 2, 10, .inr (.inr (.inr (.inr g)))))]) [0, 1] [] rfl rfl (by decide) (by decide) hP hD hk1 hFc hB ht
  generalize H1 = H at hP hS ⊢
  have hP : va_P D vwCl [(pa, .inr (4, [.int mc, .ref el, .int 6])), (el, .inl (cy 2, 10, .inr (.inr (.inr (.inr g)))))] H := hP
  have hD : va_D A [(pa, .inr (4, [.int mc, .ref el, .int 6])), (el, .inl (cy 2, 10, .inr (.inr (.inr (.inr g)))))] := hD
  refine W.widen (k := 0) (n := 0) (Nat.le_of_ble_eq_true rfl) (Nat.le_of_ble_eq_true rfl) ?_
  have hP9 := hP.sub (ws' := [(pa, .inr (4, [.int mc, .ref el, .int 6])), (el, .inl (cy 2, 10, .inr (.inr (.inr (.inr g)))))]) [0, 1] rfl
  have hD9 := hD.sub (ws' := [(pa, .inr (4, [.int mc, .ref el, .int 6])), (el, .inl (cy 2, 10, .inr (.inr (.inr (.inr g)))))]) [0, 1] (by decide) rfl
  exact W.aret (v := .ref v) hx hb hr (.inl ⟨_, rfl⟩) (.inr ⟨_, rfl⟩) (fun t ht hW => ⟨⟨(), v, rfl, trivial, ⟨rfl, zx_fin hP9 hD9 hK ht hW⟩⟩, hS.F ht⟩) hS.2.2 dJx4a65c_get_915e3_14
set_option maxHeartbeats 4000000 in
set_option maxRecDepth 100000 in
theorem c_AL_elem_4 (l : Launch) (hst : l.stackTraces = false) (D : va_G) (cy : Nat → ClassId) (ed sz : Nat) (pa : Nat) (el : Nat) (mc : Int32) (g : Nat → Option Nat) (v : Nat) (hv : g 4 = some v) : Met l yJx4a65c_elementData_915e3 wzJx4a65c_elementData_915e3 ({ frames := 0, cells := 0, slots := 0, locals := 0 }) (zx_Pc D cy ed sz [.ref pa, .int 4] [(pa, .inr (4, [.int mc, .ref el, .int 6])), (el, .inl (cy 2, 10, .inr (.inr (.inr (.inr g)))))]) (va_Qr (fun (u9 : Unit) => True) (fun (u9 : Unit) (ra9 : Nat) (t9 : State) => v = ra9 ∧ zx_At D cy (va_A [(pa, .inr (4, [.int mc, .ref el, .int 6])), (el, .inl (cy 2, 10, .inr (.inr (.inr (.inr g)))))] sz) [(pa, .inr (4, [.int mc, .ref el, .int 6])), (el, .inl (cy 2, 10, .inr (.inr (.inr (.inr g)))))] t9) (va_A [(pa, .inr (4, [.int mc, .ref el, .int 6])), (el, .inl (cy 2, 10, .inr (.inr (.inr (.inr g)))))] sz)) 0 0 (va_A [(pa, .inr (4, [.int mc, .ref el, .int 6])), (el, .inl (cy 2, 10, .inr (.inr (.inr (.inr g)))))] sz) := by
  refine Met.ofW (cc := cJx4a65c_elementData_915e3) (maxL := 2) (ret := (some (.object "java/lang/Object"))) (by decide) rfl ?_
  intro p e s m args below meth c s₁ B hml hv
  obtain ⟨rfl, hsz, hP, hK, hD0, hZ, hN⟩ := hv
  have hx := B.exec
  have hb := B.bytes
  have hr := B.returns
  have hts := atoms_spec (ws := wzJx4a65c_elementData_915e3) B.pre
  have hown : s.vm.findClass RJx4a65c = some m.cls := findClass_of_methodNamed B.named
  have hlocks := B.notSynchronized
  subst hsz
  have hD := hD0.self (sz := s.heap.size)
  generalize hAe : va_A [(pa, .inr (4, [.int mc, .ref el, .int 6])), (el, .inl (cy 2, 10, .inr (.inr (.inr (.inr g)))))] s.heap.size = A at hD hZ ⊢
  have hA : ∀ q : Nat, s.heap.size ≤ q → A q := fun q h => by rw [← hAe]; exact Or.inr h
  have hS : va_S A s.heap s.heap [] := va_S.rf
  have hP : va_P D vwCl [(pa, .inr (4, [.int mc, .ref el, .int 6])), (el, .inl (cy 2, 10, .inr (.inr (.inr (.inr g)))))] s.heap := hP
  have hl := lv_entry ([.ref pa, .int 4]) (n := 2) (Nat.le_of_ble_eq_true rfl)
  rw [lg_entry_eq]
  generalize (lg_sl ([.ref pa, .int 4]) ++ List.replicate (2 - (lg_sl ([.ref pa, .int 4])).length) Slot.unset).toArray = ls at hl ⊢
  have hl : lv_has ls 2 [(0, .ref pa), (1, .int 4)] := hl
  refine lv_aload_n hx hb dJx4a65c_elementData_915e3_0 rfl (lv_at hl 0 rfl) ?_
  refine va_get (D := D) (ci := 4) (v := .ref el) (C := RJx4a65c) (T := TJx4a65c) (N := 3) hx hb hts (fun w h => zx_Gc (uz_Jx4a65c w h)) hown hK hP 0 rfl rfl 1 (by decide) (hts (.fieldLink RJx4a65c 9 "java/util/ArrayList" "elementData" "[Ljava/lang/Object;") (zx_Gc mm_213)) (fun _ h9 => h9) rfl dJx4a65c_elementData_915e3_1 ?_
  refine lv_iload_n hx hb dJx4a65c_elementData_915e3_4 rfl (lv_at hl 1 rfl) ?_
  refine zx_aldq (v := v) hx hb hK hP 1 2 rfl rfl (zx_bn (by decide)) hv dJx4a65c_elementData_915e3_5 ?_
  have hP9 := hP.sub (ws' := [(pa, .inr (4, [.int mc, .ref el, .int 6])), (el, .inl (cy 2, 10, .inr (.inr (.inr (.inr g)))))]) [0, 1] rfl
  have hD9 := hD.sub (ws' := [(pa, .inr (4, [.int mc, .ref el, .int 6])), (el, .inl (cy 2, 10, .inr (.inr (.inr (.inr g)))))]) [0, 1] (by decide) rfl
  exact W.aret (v := .ref v) hx hb hr (.inl ⟨_, rfl⟩) (.inr ⟨_, rfl⟩) (fun t ht hW => ⟨⟨(), v, rfl, trivial, ⟨rfl, zx_fin hP9 hD9 hK ht hW⟩⟩, hS.F ht⟩) hS.2.2 dJx4a65c_elementData_915e3_6
set_option maxHeartbeats 4000000 in
set_option maxRecDepth 100000 in
theorem c_AL_get_4 (l : Launch) (hst : l.stackTraces = false) (D : va_G) (cy : Nat → ClassId) (ed sz : Nat) (pa : Nat) (el : Nat) (mc : Int32) (g : Nat → Option Nat) (v : Nat) (hv : g 4 = some v) : Met l yJx4a65c_get_915e3 wzJx4a65c_get_915e3 ({ frames := 2, cells := 0, slots := 0, locals := 43 }) (zx_Pc D cy ed sz [.ref pa, .int 4] [(pa, .inr (4, [.int mc, .ref el, .int 6])), (el, .inl (cy 2, 10, .inr (.inr (.inr (.inr g)))))]) (va_Qr (fun (u9 : Unit) => True) (fun (u9 : Unit) (ra9 : Nat) (t9 : State) => v = ra9 ∧ zx_At D cy (va_A [(pa, .inr (4, [.int mc, .ref el, .int 6])), (el, .inl (cy 2, 10, .inr (.inr (.inr (.inr g)))))] sz) [(pa, .inr (4, [.int mc, .ref el, .int 6])), (el, .inl (cy 2, 10, .inr (.inr (.inr (.inr g)))))] t9) (va_A [(pa, .inr (4, [.int mc, .ref el, .int 6])), (el, .inl (cy 2, 10, .inr (.inr (.inr (.inr g)))))] sz)) 0 0 (va_A [(pa, .inr (4, [.int mc, .ref el, .int 6])), (el, .inl (cy 2, 10, .inr (.inr (.inr (.inr g)))))] sz) := by
  refine Met.ofW (cc := cJx4a65c_get_915e3) (maxL := 2) (ret := (some (.object "java/lang/Object"))) (by decide) rfl ?_
  intro p e s m args below meth c s₁ B hml hv
  obtain ⟨rfl, hsz, hP, hK, hD0, hZ, hN⟩ := hv
  have hx := B.exec
  have hb := B.bytes
  have hr := B.returns
  have hts := atoms_spec (ws := wzJx4a65c_get_915e3) B.pre
  have hown : s.vm.findClass RJx4a65c = some m.cls := findClass_of_methodNamed B.named
  have hlocks := B.notSynchronized
  subst hsz
  have hD := hD0.self (sz := s.heap.size)
  generalize hAe : va_A [(pa, .inr (4, [.int mc, .ref el, .int 6])), (el, .inl (cy 2, 10, .inr (.inr (.inr (.inr g)))))] s.heap.size = A at hD hZ ⊢
  have hA : ∀ q : Nat, s.heap.size ≤ q → A q := fun q h => by rw [← hAe]; exact Or.inr h
  have hS : va_S A s.heap s.heap [] := va_S.rf
  have hP : va_P D vwCl [(pa, .inr (4, [.int mc, .ref el, .int 6])), (el, .inl (cy 2, 10, .inr (.inr (.inr (.inr g)))))] s.heap := hP
  have hl := lv_entry ([.ref pa, .int 4]) (n := 2) (Nat.le_of_ble_eq_true rfl)
  rw [lg_entry_eq]
  generalize (lg_sl ([.ref pa, .int 4]) ++ List.replicate (2 - (lg_sl ([.ref pa, .int 4])).length) Slot.unset).toArray = ls at hl ⊢
  have hl : lv_has ls 2 [(0, .ref pa), (1, .int 4)] := hl
  refine lv_iload_n hx hb dJx4a65c_get_915e3_0 rfl (lv_at hl 1 rfl) ?_
  refine lv_aload_n hx hb dJx4a65c_get_915e3_1 rfl (lv_at hl 0 rfl) ?_
  refine va_get (D := D) (ci := 4) (v := .int 6) (C := RJx4a65c) (T := TJx4a65c) (N := 3) hx hb hts (fun w h => zx_Gc (uz_Jx4a65c w h)) hown hK hP 0 rfl rfl 2 (by decide) (hts (.fieldLink RJx4a65c 48 "java/util/ArrayList" "size" "I") (zx_Gc mm_216)) (fun _ h9 => h9) rfl dJx4a65c_get_915e3_2 ?_
  have hPc := hP.sub (ws' := []) [] rfl
  have hDc := hD.sub (ws' := []) [] (by decide) rfl
  have hFc := va_free (wc := []) hD hS hA [] rfl
  refine va_calli (va_runS (As := [.int 4, .int 6]) (rest := []) ⟨hx, hb, hml, hown, hts⟩ (c_J15_checkIndex l hst D cy ed s.heap.size 4 6 (by decide) (by decide)) (va_cwS 2 hts (zx_GS mm_260 mm_261 mm_91 mm_262) rfl rfl rfl (by decide +kernel) ⟨(Nat.le_of_ble_eq_true rfl), (Nat.le_of_ble_eq_true rfl)⟩) ⟨zx_blind, zx_give hPc hK hDc hS hFc hZ hN⟩ rfl rfl hl.1 rfl (lv_room (Nat.le_of_ble_eq_true rfl)) dJx4a65c_get_915e3_5 ⟨(Nat.le_of_ble_eq_true rfl), (Nat.le_of_ble_eq_true rfl)⟩) hS (fun q _ h => hFc q h) hFc (fun r9 u t H1 locs ht hvm hw hB hz1 hk1 hS => ?_)
  obtain rfl : r9 = 4 := hw
  obtain ⟨hP, hD⟩ := zx_join (wr := [(pa, .inr (4, [.int mc, .ref el, .int 6])), (el, .inl (cy 2, 10, .inr (.inr (.inr (.inr g)))))]) (w1 := []) [] [0, 1] rfl rfl (by decide) (by decide) hP hD hk1 hFc hB ht
  generalize H1 = H at hP hS ⊢
  have hP : va_P D vwCl [(pa, .inr (4, [.int mc, .ref el, .int 6])), (el, .inl (cy 2, 10, .inr (.inr (.inr (.inr g)))))] H := hP
  have hD : va_D A [(pa, .inr (4, [.int mc, .ref el, .int 6])), (el, .inl (cy 2, 10, .inr (.inr (.inr (.inr g)))))] := hD
  refine W.widen (k := 0) (n := 0) (Nat.le_of_ble_eq_true rfl) (Nat.le_of_ble_eq_true rfl) ?_
  refine lv_pop hx hb dJx4a65c_get_915e3_8 rfl ?_
  refine lv_aload_n hx hb dJx4a65c_get_915e3_9 rfl (lv_at hl 0 rfl) ?_
  refine lv_iload_n hx hb dJx4a65c_get_915e3_10 rfl (lv_at hl 1 rfl) ?_
  have hPc := hP.sub (ws' := [(pa, .inr (4, [.int mc, .ref el, .int 6])), (el, .inl (cy 2, 10, .inr (.inr (.inr (.inr g)))))]) [0, 1] rfl
  have hDc := hD.sub (ws' := [(pa, .inr (4, [.int mc, .ref el, .int 6])), (el, .inl (cy 2, 10, .inr (.inr (.inr (.inr g)))))]) [0, 1] (by decide) rfl
  have hFc := va_free (wc := [(pa, .inr (4, [.int mc, .ref el, .int 6])), (el, .inl (cy 2, 10, .inr (.inr (.inr (.inr g)))))]) hD hS hA [0, 1] rfl
  refine va_callr (va_runV (As := [.int 4]) (rest := []) ⟨hx, hb, hml, hown, hts⟩ (c_AL_elem_4 l hst D cy ed H.size pa el mc g v hv) (cwV 1 hts (zx_GV mm_266 mm_267 mm_268 mm_77 mm_269) rfl rfl rfl (by decide +kernel) ⟨(Nat.le_of_ble_eq_true rfl), (Nat.le_of_ble_eq_true rfl)⟩) ⟨zx_blind, va_recv hK hPc (ci := 4) (q0 := 0) rfl rfl, zx_give hPc hK hDc hS hFc hZ hN⟩ rfl rfl hl.1 rfl (lv_room (Nat.le_of_ble_eq_true rfl)) dJx4a65c_get_915e3_11 ⟨(Nat.le_of_ble_eq_true rfl), (Nat.le_of_ble_eq_true rfl)⟩) hS (fun q _ h => hFc q h) hFc (fun u ra9 t H1 locs ht hvm hw hB hz1 hk1 hS => ?_)
  obtain ⟨rfl, hB⟩ := hB
  obtain ⟨hP, hD⟩ := zx_join (wr := []) (w1 := [(pa, .inr (4, [.int mc, .ref el, .int 6])), (el, .inl (cy 2, 10, .inr (.inr (.inr (.inr g)))))]) [0, 1] [] rfl rfl (by decide) (by decide) hP hD hk1 hFc hB ht
  generalize H1 = H at hP hS ⊢
  have hP : va_P D vwCl [(pa, .inr (4, [.int mc, .ref el, .int 6])), (el, .inl (cy 2, 10, .inr (.inr (.inr (.inr g)))))] H := hP
  have hD : va_D A [(pa, .inr (4, [.int mc, .ref el, .int 6])), (el, .inl (cy 2, 10, .inr (.inr (.inr (.inr g)))))] := hD
  refine W.widen (k := 0) (n := 0) (Nat.le_of_ble_eq_true rfl) (Nat.le_of_ble_eq_true rfl) ?_
  have hP9 := hP.sub (ws' := [(pa, .inr (4, [.int mc, .ref el, .int 6])), (el, .inl (cy 2, 10, .inr (.inr (.inr (.inr g)))))]) [0, 1] rfl
  have hD9 := hD.sub (ws' := [(pa, .inr (4, [.int mc, .ref el, .int 6])), (el, .inl (cy 2, 10, .inr (.inr (.inr (.inr g)))))]) [0, 1] (by decide) rfl
  exact W.aret (v := .ref v) hx hb hr (.inl ⟨_, rfl⟩) (.inr ⟨_, rfl⟩) (fun t ht hW => ⟨⟨(), v, rfl, trivial, ⟨rfl, zx_fin hP9 hD9 hK ht hW⟩⟩, hS.F ht⟩) hS.2.2 dJx4a65c_get_915e3_14
set_option maxHeartbeats 4000000 in
set_option maxRecDepth 100000 in
theorem c_AL_elem_5 (l : Launch) (hst : l.stackTraces = false) (D : va_G) (cy : Nat → ClassId) (ed sz : Nat) (pa : Nat) (el : Nat) (mc : Int32) (g : Nat → Option Nat) (v : Nat) (hv : g 5 = some v) : Met l yJx4a65c_elementData_915e3 wzJx4a65c_elementData_915e3 ({ frames := 0, cells := 0, slots := 0, locals := 0 }) (zx_Pc D cy ed sz [.ref pa, .int 5] [(pa, .inr (4, [.int mc, .ref el, .int 6])), (el, .inl (cy 2, 10, .inr (.inr (.inr (.inr g)))))]) (va_Qr (fun (u9 : Unit) => True) (fun (u9 : Unit) (ra9 : Nat) (t9 : State) => v = ra9 ∧ zx_At D cy (va_A [(pa, .inr (4, [.int mc, .ref el, .int 6])), (el, .inl (cy 2, 10, .inr (.inr (.inr (.inr g)))))] sz) [(pa, .inr (4, [.int mc, .ref el, .int 6])), (el, .inl (cy 2, 10, .inr (.inr (.inr (.inr g)))))] t9) (va_A [(pa, .inr (4, [.int mc, .ref el, .int 6])), (el, .inl (cy 2, 10, .inr (.inr (.inr (.inr g)))))] sz)) 0 0 (va_A [(pa, .inr (4, [.int mc, .ref el, .int 6])), (el, .inl (cy 2, 10, .inr (.inr (.inr (.inr g)))))] sz) := by
  refine Met.ofW (cc := cJx4a65c_elementData_915e3) (maxL := 2) (ret := (some (.object "java/lang/Object"))) (by decide) rfl ?_
  intro p e s m args below meth c s₁ B hml hv
  obtain ⟨rfl, hsz, hP, hK, hD0, hZ, hN⟩ := hv
  have hx := B.exec
  have hb := B.bytes
  have hr := B.returns
  have hts := atoms_spec (ws := wzJx4a65c_elementData_915e3) B.pre
  have hown : s.vm.findClass RJx4a65c = some m.cls := findClass_of_methodNamed B.named
  have hlocks := B.notSynchronized
  subst hsz
  have hD := hD0.self (sz := s.heap.size)
  generalize hAe : va_A [(pa, .inr (4, [.int mc, .ref el, .int 6])), (el, .inl (cy 2, 10, .inr (.inr (.inr (.inr g)))))] s.heap.size = A at hD hZ ⊢
  have hA : ∀ q : Nat, s.heap.size ≤ q → A q := fun q h => by rw [← hAe]; exact Or.inr h
  have hS : va_S A s.heap s.heap [] := va_S.rf
  have hP : va_P D vwCl [(pa, .inr (4, [.int mc, .ref el, .int 6])), (el, .inl (cy 2, 10, .inr (.inr (.inr (.inr g)))))] s.heap := hP
  have hl := lv_entry ([.ref pa, .int 5]) (n := 2) (Nat.le_of_ble_eq_true rfl)
  rw [lg_entry_eq]
  generalize (lg_sl ([.ref pa, .int 5]) ++ List.replicate (2 - (lg_sl ([.ref pa, .int 5])).length) Slot.unset).toArray = ls at hl ⊢
  have hl : lv_has ls 2 [(0, .ref pa), (1, .int 5)] := hl
  refine lv_aload_n hx hb dJx4a65c_elementData_915e3_0 rfl (lv_at hl 0 rfl) ?_
  refine va_get (D := D) (ci := 4) (v := .ref el) (C := RJx4a65c) (T := TJx4a65c) (N := 3) hx hb hts (fun w h => zx_Gc (uz_Jx4a65c w h)) hown hK hP 0 rfl rfl 1 (by decide) (hts (.fieldLink RJx4a65c 9 "java/util/ArrayList" "elementData" "[Ljava/lang/Object;") (zx_Gc mm_213)) (fun _ h9 => h9) rfl dJx4a65c_elementData_915e3_1 ?_
  refine lv_iload_n hx hb dJx4a65c_elementData_915e3_4 rfl (lv_at hl 1 rfl) ?_
  refine zx_aldq (v := v) hx hb hK hP 1 2 rfl rfl (zx_bn (by decide)) hv dJx4a65c_elementData_915e3_5 ?_
  have hP9 := hP.sub (ws' := [(pa, .inr (4, [.int mc, .ref el, .int 6])), (el, .inl (cy 2, 10, .inr (.inr (.inr (.inr g)))))]) [0, 1] rfl
  have hD9 := hD.sub (ws' := [(pa, .inr (4, [.int mc, .ref el, .int 6])), (el, .inl (cy 2, 10, .inr (.inr (.inr (.inr g)))))]) [0, 1] (by decide) rfl
  exact W.aret (v := .ref v) hx hb hr (.inl ⟨_, rfl⟩) (.inr ⟨_, rfl⟩) (fun t ht hW => ⟨⟨(), v, rfl, trivial, ⟨rfl, zx_fin hP9 hD9 hK ht hW⟩⟩, hS.F ht⟩) hS.2.2 dJx4a65c_elementData_915e3_6
set_option maxHeartbeats 4000000 in
set_option maxRecDepth 100000 in
theorem c_AL_get_5 (l : Launch) (hst : l.stackTraces = false) (D : va_G) (cy : Nat → ClassId) (ed sz : Nat) (pa : Nat) (el : Nat) (mc : Int32) (g : Nat → Option Nat) (v : Nat) (hv : g 5 = some v) : Met l yJx4a65c_get_915e3 wzJx4a65c_get_915e3 ({ frames := 2, cells := 0, slots := 0, locals := 43 }) (zx_Pc D cy ed sz [.ref pa, .int 5] [(pa, .inr (4, [.int mc, .ref el, .int 6])), (el, .inl (cy 2, 10, .inr (.inr (.inr (.inr g)))))]) (va_Qr (fun (u9 : Unit) => True) (fun (u9 : Unit) (ra9 : Nat) (t9 : State) => v = ra9 ∧ zx_At D cy (va_A [(pa, .inr (4, [.int mc, .ref el, .int 6])), (el, .inl (cy 2, 10, .inr (.inr (.inr (.inr g)))))] sz) [(pa, .inr (4, [.int mc, .ref el, .int 6])), (el, .inl (cy 2, 10, .inr (.inr (.inr (.inr g)))))] t9) (va_A [(pa, .inr (4, [.int mc, .ref el, .int 6])), (el, .inl (cy 2, 10, .inr (.inr (.inr (.inr g)))))] sz)) 0 0 (va_A [(pa, .inr (4, [.int mc, .ref el, .int 6])), (el, .inl (cy 2, 10, .inr (.inr (.inr (.inr g)))))] sz) := by
  refine Met.ofW (cc := cJx4a65c_get_915e3) (maxL := 2) (ret := (some (.object "java/lang/Object"))) (by decide) rfl ?_
  intro p e s m args below meth c s₁ B hml hv
  obtain ⟨rfl, hsz, hP, hK, hD0, hZ, hN⟩ := hv
  have hx := B.exec
  have hb := B.bytes
  have hr := B.returns
  have hts := atoms_spec (ws := wzJx4a65c_get_915e3) B.pre
  have hown : s.vm.findClass RJx4a65c = some m.cls := findClass_of_methodNamed B.named
  have hlocks := B.notSynchronized
  subst hsz
  have hD := hD0.self (sz := s.heap.size)
  generalize hAe : va_A [(pa, .inr (4, [.int mc, .ref el, .int 6])), (el, .inl (cy 2, 10, .inr (.inr (.inr (.inr g)))))] s.heap.size = A at hD hZ ⊢
  have hA : ∀ q : Nat, s.heap.size ≤ q → A q := fun q h => by rw [← hAe]; exact Or.inr h
  have hS : va_S A s.heap s.heap [] := va_S.rf
  have hP : va_P D vwCl [(pa, .inr (4, [.int mc, .ref el, .int 6])), (el, .inl (cy 2, 10, .inr (.inr (.inr (.inr g)))))] s.heap := hP
  have hl := lv_entry ([.ref pa, .int 5]) (n := 2) (Nat.le_of_ble_eq_true rfl)
  rw [lg_entry_eq]
  generalize (lg_sl ([.ref pa, .int 5]) ++ List.replicate (2 - (lg_sl ([.ref pa, .int 5])).length) Slot.unset).toArray = ls at hl ⊢
  have hl : lv_has ls 2 [(0, .ref pa), (1, .int 5)] := hl
  refine lv_iload_n hx hb dJx4a65c_get_915e3_0 rfl (lv_at hl 1 rfl) ?_
  refine lv_aload_n hx hb dJx4a65c_get_915e3_1 rfl (lv_at hl 0 rfl) ?_
  refine va_get (D := D) (ci := 4) (v := .int 6) (C := RJx4a65c) (T := TJx4a65c) (N := 3) hx hb hts (fun w h => zx_Gc (uz_Jx4a65c w h)) hown hK hP 0 rfl rfl 2 (by decide) (hts (.fieldLink RJx4a65c 48 "java/util/ArrayList" "size" "I") (zx_Gc mm_216)) (fun _ h9 => h9) rfl dJx4a65c_get_915e3_2 ?_
  have hPc := hP.sub (ws' := []) [] rfl
  have hDc := hD.sub (ws' := []) [] (by decide) rfl
  have hFc := va_free (wc := []) hD hS hA [] rfl
  refine va_calli (va_runS (As := [.int 5, .int 6]) (rest := []) ⟨hx, hb, hml, hown, hts⟩ (c_J15_checkIndex l hst D cy ed s.heap.size 5 6 (by decide) (by decide)) (va_cwS 2 hts (zx_GS mm_260 mm_261 mm_91 mm_262) rfl rfl rfl (by decide +kernel) ⟨(Nat.le_of_ble_eq_true rfl), (Nat.le_of_ble_eq_true rfl)⟩) ⟨zx_blind, zx_give hPc hK hDc hS hFc hZ hN⟩ rfl rfl hl.1 rfl (lv_room (Nat.le_of_ble_eq_true rfl)) dJx4a65c_get_915e3_5 ⟨(Nat.le_of_ble_eq_true rfl), (Nat.le_of_ble_eq_true rfl)⟩) hS (fun q _ h => hFc q h) hFc (fun r9 u t H1 locs ht hvm hw hB hz1 hk1 hS => ?_)
  obtain rfl : r9 = 5 := hw
  obtain ⟨hP, hD⟩ := zx_join (wr := [(pa, .inr (4, [.int mc, .ref el, .int 6])), (el, .inl (cy 2, 10, .inr (.inr (.inr (.inr g)))))]) (w1 := []) [] [0, 1] rfl rfl (by decide) (by decide) hP hD hk1 hFc hB ht
  generalize H1 = H at hP hS ⊢
  have hP : va_P D vwCl [(pa, .inr (4, [.int mc, .ref el, .int 6])), (el, .inl (cy 2, 10, .inr (.inr (.inr (.inr g)))))] H := hP
  have hD : va_D A [(pa, .inr (4, [.int mc, .ref el, .int 6])), (el, .inl (cy 2, 10, .inr (.inr (.inr (.inr g)))))] := hD
  refine W.widen (k := 0) (n := 0) (Nat.le_of_ble_eq_true rfl) (Nat.le_of_ble_eq_true rfl) ?_
  refine lv_pop hx hb dJx4a65c_get_915e3_8 rfl ?_
  refine lv_aload_n hx hb dJx4a65c_get_915e3_9 rfl (lv_at hl 0 rfl) ?_
  refine lv_iload_n hx hb dJx4a65c_get_915e3_10 rfl (lv_at hl 1 rfl) ?_
  have hPc := hP.sub (ws' := [(pa, .inr (4, [.int mc, .ref el, .int 6])), (el, .inl (cy 2, 10, .inr (.inr (.inr (.inr g)))))]) [0, 1] rfl
  have hDc := hD.sub (ws' := [(pa, .inr (4, [.int mc, .ref el, .int 6])), (el, .inl (cy 2, 10, .inr (.inr (.inr (.inr g)))))]) [0, 1] (by decide) rfl
  have hFc := va_free (wc := [(pa, .inr (4, [.int mc, .ref el, .int 6])), (el, .inl (cy 2, 10, .inr (.inr (.inr (.inr g)))))]) hD hS hA [0, 1] rfl
  refine va_callr (va_runV (As := [.int 5]) (rest := []) ⟨hx, hb, hml, hown, hts⟩ (c_AL_elem_5 l hst D cy ed H.size pa el mc g v hv) (cwV 1 hts (zx_GV mm_266 mm_267 mm_268 mm_77 mm_269) rfl rfl rfl (by decide +kernel) ⟨(Nat.le_of_ble_eq_true rfl), (Nat.le_of_ble_eq_true rfl)⟩) ⟨zx_blind, va_recv hK hPc (ci := 4) (q0 := 0) rfl rfl, zx_give hPc hK hDc hS hFc hZ hN⟩ rfl rfl hl.1 rfl (lv_room (Nat.le_of_ble_eq_true rfl)) dJx4a65c_get_915e3_11 ⟨(Nat.le_of_ble_eq_true rfl), (Nat.le_of_ble_eq_true rfl)⟩) hS (fun q _ h => hFc q h) hFc (fun u ra9 t H1 locs ht hvm hw hB hz1 hk1 hS => ?_)
  obtain ⟨rfl, hB⟩ := hB
  obtain ⟨hP, hD⟩ := zx_join (wr := []) (w1 := [(pa, .inr (4, [.int mc, .ref el, .int 6])), (el, .inl (cy 2, 10, .inr (.inr (.inr (.inr g)))))]) [0, 1] [] rfl rfl (by decide) (by decide) hP hD hk1 hFc hB ht
  generalize H1 = H at hP hS ⊢
  have hP : va_P D vwCl [(pa, .inr (4, [.int mc, .ref el, .int 6])), (el, .inl (cy 2, 10, .inr (.inr (.inr (.inr g)))))] H := hP
  have hD : va_D A [(pa, .inr (4, [.int mc, .ref el, .int 6])), (el, .inl (cy 2, 10, .inr (.inr (.inr (.inr g)))))] := hD
  refine W.widen (k := 0) (n := 0) (Nat.le_of_ble_eq_true rfl) (Nat.le_of_ble_eq_true rfl) ?_
  have hP9 := hP.sub (ws' := [(pa, .inr (4, [.int mc, .ref el, .int 6])), (el, .inl (cy 2, 10, .inr (.inr (.inr (.inr g)))))]) [0, 1] rfl
  have hD9 := hD.sub (ws' := [(pa, .inr (4, [.int mc, .ref el, .int 6])), (el, .inl (cy 2, 10, .inr (.inr (.inr (.inr g)))))]) [0, 1] (by decide) rfl
  exact W.aret (v := .ref v) hx hb hr (.inl ⟨_, rfl⟩) (.inr ⟨_, rfl⟩) (fun t ht hW => ⟨⟨(), v, rfl, trivial, ⟨rfl, zx_fin hP9 hD9 hK ht hW⟩⟩, hS.F ht⟩) hS.2.2 dJx4a65c_get_915e3_14
set_option maxHeartbeats 4000000 in
set_option maxRecDepth 100000 in
theorem c_AL_grow1_0 (l : Launch) (hst : l.stackTraces = false) (D : va_G) (cy : Nat → ClassId) (ed sz : Nat) (pa : Nat) (mc : Int32) : Met l yJx4a65c_grow_92f84 wzJx4a65c_grow_92f84 ({ frames := 1, cells := 1, slots := 10, locals := 14 }) (zx_Pc D cy ed sz [.ref pa, .int 1] [(pa, .inr (4, [.int mc, .ref ed, .int 0]))]) (va_Qr (fun (u9 : Unit) => True) (fun (u9 : Unit) (ra : Nat) (t9 : State) => zx_At D cy (va_A [(pa, .inr (4, [.int mc, .ref ed, .int 0]))] sz) [(pa, .inr (4, [.int mc, .ref ra, .int 0])), (ra, .inl (cy 2, 10, .inr (.inr (.inr (.inr (fun _ => none))))))] t9) (va_A [(pa, .inr (4, [.int mc, .ref ed, .int 0]))] sz)) 1 10 (va_A [(pa, .inr (4, [.int mc, .ref ed, .int 0]))] sz) := by
  refine Met.ofW (cc := cJx4a65c_grow_92f84) (maxL := 4) (ret := (some (.array (.object "java/lang/Object")))) (by decide) rfl ?_
  intro p e s m args below meth c s₁ B hml hv
  obtain ⟨rfl, hsz, hP, hK, hD0, hZ, hN⟩ := hv
  have hx := B.exec
  have hb := B.bytes
  have hr := B.returns
  have hts := atoms_spec (ws := wzJx4a65c_grow_92f84) B.pre
  have hown : s.vm.findClass RJx4a65c = some m.cls := findClass_of_methodNamed B.named
  have hlocks := B.notSynchronized
  subst hsz
  have hD := hD0.self (sz := s.heap.size)
  generalize hAe : va_A [(pa, .inr (4, [.int mc, .ref ed, .int 0]))] s.heap.size = A at hD hZ ⊢
  have hA : ∀ q : Nat, s.heap.size ≤ q → A q := fun q h => by rw [← hAe]; exact Or.inr h
  have hS : va_S A s.heap s.heap [] := va_S.rf
  have hP : va_P D vwCl [(pa, .inr (4, [.int mc, .ref ed, .int 0]))] s.heap := hP
  have hl := lv_entry ([.ref pa, .int 1]) (n := 4) (Nat.le_of_ble_eq_true rfl)
  rw [lg_entry_eq]
  generalize (lg_sl ([.ref pa, .int 1]) ++ List.replicate (4 - (lg_sl ([.ref pa, .int 1])).length) Slot.unset).toArray = ls at hl ⊢
  have hl : lv_has ls 4 [(0, .ref pa), (1, .int 1)] := hl
  refine lv_aload_n hx hb dJx4a65c_grow_92f84_0 rfl (lv_at hl 0 rfl) ?_
  refine va_get (D := D) (ci := 4) (v := .ref ed) (C := RJx4a65c) (T := TJx4a65c) (N := 3) hx hb hts (fun w h => zx_Gc (uz_Jx4a65c w h)) hown hK hP 0 rfl rfl 1 (by decide) (hts (.fieldLink RJx4a65c 9 "java/util/ArrayList" "elementData" "[Ljava/lang/Object;") (zx_Gc mm_213)) (fun _ h9 => h9) rfl dJx4a65c_grow_92f84_1 ?_
  refine va_tlen (v := 0) hx hb hZ.2.2.2.1 hS rfl dJx4a65c_grow_92f84_4 ?_
  refine lv_istore_n (lv' := [(2, .int 0), (0, .ref pa), (1, .int 1)]) hx hb dJx4a65c_grow_92f84_5 rfl hl (by decide) rfl (fun ls hl => ?_)
  refine lv_iload_n hx hb dJx4a65c_grow_92f84_6 rfl (lv_at hl 0 rfl) ?_
  refine lv_if_gt (tgt := 20) hx hb dJx4a65c_grow_92f84_7 (by decide) (fun c_178 => absurd c_178 (by decide)) (fun _ => ?_)
  refine lv_aload_n hx hb dJx4a65c_grow_92f84_10 rfl (lv_at hl 1 rfl) ?_
  refine va_get (D := D) (ci := 4) (v := .ref ed) (C := RJx4a65c) (T := TJx4a65c) (N := 3) hx hb hts (fun w h => zx_Gc (uz_Jx4a65c w h)) hown hK hP 0 rfl rfl 1 (by decide) (hts (.fieldLink RJx4a65c 9 "java/util/ArrayList" "elementData" "[Ljava/lang/Object;") (zx_Gc mm_213)) (fun _ h9 => h9) rfl dJx4a65c_grow_92f84_11 ?_
  refine va_gets hx hb hZ.2.2.1 hS hown (hts (.fieldLink RJx4a65c 39 "java/util/ArrayList" "DEFAULTCAPACITY_EMPTY_ELEMENTDATA" "[Ljava/lang/Object;") (zx_Gc mm_211)) (fun _ h9 => h9) dJx4a65c_grow_92f84_14 ?_
  refine lv_acmp_eq (rx := some ed) (ry := some ed) (tgt := 45) hx hb dJx4a65c_grow_92f84_17 (by decide) (fun _ => ?_) (fun q9 => absurd rfl q9)
  refine lv_aload_n hx hb dJx4a65c_grow_92f84_45 rfl (lv_at hl 1 rfl) ?_
  refine lv_bipush (v := 10) hx hb dJx4a65c_grow_92f84_46 (by decide) ?_
  refine lv_iload_n hx hb dJx4a65c_grow_92f84_48 rfl (lv_at hl 2 rfl) ?_
  refine va_mmax hx hb (hml.trans hl.1.symm) hown (hts (.methodLink RJx4a65c 79 Lib.Math.max.name) (zx_Gc mm_835)) (hts (.static Lib.Math.max.name) (zx_Gc mm_279)) (hts (.initialized "java/lang/Math") (zx_Gc mm_86)) (hts (.code Lib.Math.max.name Lib.Math.max.code 2 (some .int)) (zx_Gc mm_280)) (Nat.le_of_ble_eq_true rfl) (Nat.le_of_ble_eq_true rfl) (Nat.le_of_ble_eq_true rfl) (Nat.le_of_ble_eq_true rfl) dJx4a65c_grow_92f84_49 ?_
  refine lv_topi (fun y9 ey9 => ?_)
  obtain rfl : y9 = 10 := by rw [ey9] <;> decide
  refine va_newq (C := "java/lang/Object") (N' := 10) hx hb hown (hts (.classLink RJx4a65c 7 "java/lang/Object") (zx_Gc mm_836)) hN.2.2.2.2.2.2.2.1 hK hP hD hS hA (by decide) (by decide) (by decide) (Nat.le_of_ble_eq_true rfl) (Nat.le_of_ble_eq_true rfl) dJx4a65c_grow_92f84_52 (fun q_179 cA9 H hK9 hP hD hS => ?_)
  obtain rfl := zx_same (c0 := cy 2) 2 rfl hK9
  have hP : va_P D vwCl [(pa, .inr (4, [.int mc, .ref ed, .int 0])), (q_179, .inl (cy 2, 10, .inr (.inr (.inr (.inr (fun _ => none))))))] H := hP
  have hD : va_D A [(pa, .inr (4, [.int mc, .ref ed, .int 0])), (q_179, .inl (cy 2, 10, .inr (.inr (.inr (.inr (fun _ => none))))))] := hD
  refine W.widen (k := 1) (n := 10) (Nat.le_of_ble_eq_true rfl) (Nat.le_of_ble_eq_true rfl) ?_
  refine lv_dup_x1 hx hb dJx4a65c_grow_92f84_55 rfl rfl ?_
  refine va_put (D := D) (ci := 4) (v := .ref q_179) (ty := .array (.object "java/lang/Object")) (C := RJx4a65c) (T := TJx4a65c) (N := 3) hx hb hts (fun w h => zx_Gc (uz_Jx4a65c w h)) tyJx4a65c tyJx4a65c_ok nmJx4a65c hown hK hP hD hS 0 rfl rfl 1 (by decide) (hts (.fieldLink RJx4a65c 9 "java/util/ArrayList" "elementData" "[Ljava/lang/Object;") (zx_Gc mm_213)) (fun _ h9 => h9) rfl (by decide +kernel) rfl rfl (Nat.le_of_ble_eq_true rfl) dJx4a65c_grow_92f84_56 (fun H locs hP hD hS => ?_)
  have hP : va_P D vwCl [(pa, .inr (4, [.int mc, .ref q_179, .int 0])), (q_179, .inl (cy 2, 10, .inr (.inr (.inr (.inr (fun _ => none))))))] H := hP
  have hD : va_D A [(pa, .inr (4, [.int mc, .ref q_179, .int 0])), (q_179, .inl (cy 2, 10, .inr (.inr (.inr (.inr (fun _ => none))))))] := hD
  have hP9 := hP.sub (ws' := [(pa, .inr (4, [.int mc, .ref q_179, .int 0])), (q_179, .inl (cy 2, 10, .inr (.inr (.inr (.inr (fun _ => none))))))]) [0, 1] rfl
  have hD9 := hD.sub (ws' := [(pa, .inr (4, [.int mc, .ref q_179, .int 0])), (q_179, .inl (cy 2, 10, .inr (.inr (.inr (.inr (fun _ => none))))))]) [0, 1] (by decide) rfl
  exact W.aret (v := .ref q_179) hx hb hr (.inr ⟨_, rfl⟩) (.inr ⟨_, rfl⟩) (fun t ht hW => ⟨⟨(), q_179, rfl, trivial, zx_fin hP9 hD9 hK ht hW⟩, hS.F ht⟩) hS.2.2 dJx4a65c_grow_92f84_59
set_option maxHeartbeats 4000000 in
set_option maxRecDepth 100000 in
theorem c_AL_grow0_0 (l : Launch) (hst : l.stackTraces = false) (D : va_G) (cy : Nat → ClassId) (ed sz : Nat) (pa : Nat) (mc : Int32) : Met l yJx4a65c_grow_d5877 wzJx4a65c_grow_d5877 ({ frames := 2, cells := 1, slots := 10, locals := 37 }) (zx_Pc D cy ed sz [.ref pa] [(pa, .inr (4, [.int mc, .ref ed, .int 0]))]) (va_Qr (fun (u9 : Unit) => True) (fun (u9 : Unit) (ra : Nat) (t9 : State) => zx_At D cy (va_A [(pa, .inr (4, [.int mc, .ref ed, .int 0]))] sz) [(pa, .inr (4, [.int mc, .ref ra, .int 0])), (ra, .inl (cy 2, 10, .inr (.inr (.inr (.inr (fun _ => none))))))] t9) (va_A [(pa, .inr (4, [.int mc, .ref ed, .int 0]))] sz)) 1 10 (va_A [(pa, .inr (4, [.int mc, .ref ed, .int 0]))] sz) := by
  refine Met.ofW (cc := cJx4a65c_grow_d5877) (maxL := 1) (ret := (some (.array (.object "java/lang/Object")))) (by decide) rfl ?_
  intro p e s m args below meth c s₁ B hml hv
  obtain ⟨rfl, hsz, hP, hK, hD0, hZ, hN⟩ := hv
  have hx := B.exec
  have hb := B.bytes
  have hr := B.returns
  have hts := atoms_spec (ws := wzJx4a65c_grow_d5877) B.pre
  have hown : s.vm.findClass RJx4a65c = some m.cls := findClass_of_methodNamed B.named
  have hlocks := B.notSynchronized
  subst hsz
  have hD := hD0.self (sz := s.heap.size)
  generalize hAe : va_A [(pa, .inr (4, [.int mc, .ref ed, .int 0]))] s.heap.size = A at hD hZ ⊢
  have hA : ∀ q : Nat, s.heap.size ≤ q → A q := fun q h => by rw [← hAe]; exact Or.inr h
  have hS : va_S A s.heap s.heap [] := va_S.rf
  have hP : va_P D vwCl [(pa, .inr (4, [.int mc, .ref ed, .int 0]))] s.heap := hP
  have hl := lv_entry ([.ref pa]) (n := 1) (Nat.le_of_ble_eq_true rfl)
  rw [lg_entry_eq]
  generalize (lg_sl ([.ref pa]) ++ List.replicate (1 - (lg_sl ([.ref pa])).length) Slot.unset).toArray = ls at hl ⊢
  have hl : lv_has ls 1 [(0, .ref pa)] := hl
  refine lv_aload_n hx hb dJx4a65c_grow_d5877_0 rfl (lv_at hl 0 rfl) ?_
  refine lv_aload_n hx hb dJx4a65c_grow_d5877_1 rfl (lv_at hl 0 rfl) ?_
  refine va_get (D := D) (ci := 4) (v := .int 0) (C := RJx4a65c) (T := TJx4a65c) (N := 3) hx hb hts (fun w h => zx_Gc (uz_Jx4a65c w h)) hown hK hP 0 rfl rfl 2 (by decide) (hts (.fieldLink RJx4a65c 48 "java/util/ArrayList" "size" "I") (zx_Gc mm_216)) (fun _ h9 => h9) rfl dJx4a65c_grow_d5877_2 ?_
  refine lv_iconst (v := 1) hx hb dJx4a65c_grow_d5877_5 (by decide) ?_
  refine lv_iadd hx hb dJx4a65c_grow_d5877_6 ?_
  refine lv_topi (fun y9 ey9 => ?_)
  obtain rfl : y9 = 1 := by rw [ey9] <;> decide
  have hPc := hP.sub (ws' := [(pa, .inr (4, [.int mc, .ref ed, .int 0]))]) [0] rfl
  have hDc := hD.sub (ws' := [(pa, .inr (4, [.int mc, .ref ed, .int 0]))]) [0] (by decide) rfl
  have hFc := va_free (wc := [(pa, .inr (4, [.int mc, .ref ed, .int 0]))]) hD hS hA [0] rfl
  refine va_callr (va_runV (As := [.int 1]) (rest := []) ⟨hx, hb, hml, hown, hts⟩ (c_AL_grow1_0 l hst D cy ed s.heap.size pa mc) (cwV 1 hts (zx_GV mm_784 mm_786 mm_7 mm_77 mm_787) rfl rfl rfl (by decide +kernel) ⟨(Nat.le_of_ble_eq_true rfl), (Nat.le_of_ble_eq_true rfl)⟩) ⟨zx_blind, va_recv hK hPc (ci := 4) (q0 := 0) rfl rfl, zx_give hPc hK hDc hS hFc hZ hN⟩ rfl rfl hl.1 rfl (lv_room (Nat.le_of_ble_eq_true rfl)) dJx4a65c_grow_d5877_7 ⟨(Nat.le_of_ble_eq_true rfl), (Nat.le_of_ble_eq_true rfl)⟩) hS (fun q _ h => hFc q h) hFc (fun u ra9 t H1 locs ht hvm hw hB hz1 hk1 hS => ?_)
  obtain ⟨a_180, rfl⟩ : ∃ z9, z9 = ra9 := ⟨_, rfl⟩
  obtain ⟨hP, hD⟩ := zx_join (wr := []) (w1 := [(pa, .inr (4, [.int mc, .ref a_180, .int 0])), (a_180, .inl (cy 2, 10, .inr (.inr (.inr (.inr (fun _ => none))))))]) [0] [] rfl rfl (by decide) (by decide) hP hD hk1 hFc hB ht
  generalize H1 = H at hP hS ⊢
  have hP : va_P D vwCl [(pa, .inr (4, [.int mc, .ref a_180, .int 0])), (a_180, .inl (cy 2, 10, .inr (.inr (.inr (.inr (fun _ => none))))))] H := hP
  have hD : va_D A [(pa, .inr (4, [.int mc, .ref a_180, .int 0])), (a_180, .inl (cy 2, 10, .inr (.inr (.inr (.inr (fun _ => none))))))] := hD
  refine W.widen (k := 1) (n := 10) (Nat.le_of_ble_eq_true rfl) (Nat.le_of_ble_eq_true rfl) ?_
  have hP9 := hP.sub (ws' := [(pa, .inr (4, [.int mc, .ref a_180, .int 0])), (a_180, .inl (cy 2, 10, .inr (.inr (.inr (.inr (fun _ => none))))))]) [0, 1] rfl
  have hD9 := hD.sub (ws' := [(pa, .inr (4, [.int mc, .ref a_180, .int 0])), (a_180, .inl (cy 2, 10, .inr (.inr (.inr (.inr (fun _ => none))))))]) [0, 1] (by decide) rfl
  exact W.aret (v := .ref a_180) hx hb hr (.inr ⟨_, rfl⟩) (.inr ⟨_, rfl⟩) (fun t ht hW => ⟨⟨(), a_180, rfl, trivial, zx_fin hP9 hD9 hK ht hW⟩, hS.F ht⟩) hS.2.2 dJx4a65c_grow_d5877_10
set_option maxHeartbeats 4000000 in
set_option maxRecDepth 100000 in
theorem c_newLength_10 (l : Launch) (hst : l.stackTraces = false) (D : va_G) (cy : Nat → ClassId) (ed sz : Nat) : Met l yJ8_newLength_cabcc wzJ8_newLength_cabcc ({ frames := 1, cells := 0, slots := 0, locals := 14 }) (zx_Pc D cy ed sz [.int 10, .int 1, .int 5] []) (va_Qi (fun (r9 : Int32) (u9 : Unit) => r9 = 15) (fun (u9 : Unit) (t9 : State) => zx_At D cy (va_A [] sz) [] t9) (va_A [] sz)) 0 0 (va_A [] sz) := by
  refine Met.ofW (cc := cJ8_newLength_cabcc) (maxL := 4) (ret := (some .int)) (by decide) rfl ?_
  intro p e s m args below meth c s₁ B hml hv
  obtain ⟨rfl, hsz, hP, hK, hD0, hZ, hN⟩ := hv
  have hx := B.exec
  have hb := B.bytes
  have hr := B.returns
  have hts := atoms_spec (ws := wzJ8_newLength_cabcc) B.pre
  have hown : s.vm.findClass RJ8 = some m.cls := findClass_of_methodNamed B.named
  have hlocks := B.notSynchronized
  subst hsz
  have hD := hD0.self (sz := s.heap.size)
  generalize hAe : va_A [] s.heap.size = A at hD hZ ⊢
  have hA : ∀ q : Nat, s.heap.size ≤ q → A q := fun q h => by rw [← hAe]; exact Or.inr h
  have hS : va_S A s.heap s.heap [] := va_S.rf
  have hP : va_P D vwCl [] s.heap := hP
  have hl := lv_entry ([.int 10, .int 1, .int 5]) (n := 4) (Nat.le_of_ble_eq_true rfl)
  rw [lg_entry_eq]
  generalize (lg_sl ([.int 10, .int 1, .int 5]) ++ List.replicate (4 - (lg_sl ([.int 10, .int 1, .int 5])).length) Slot.unset).toArray = ls at hl ⊢
  have hl : lv_has ls 4 [(0, .int 10), (1, .int 1), (2, .int 5)] := hl
  refine lv_iload_n hx hb dJ8_newLength_cabcc_0 rfl (lv_at hl 0 rfl) ?_
  refine lv_iload_n hx hb dJ8_newLength_cabcc_1 rfl (lv_at hl 1 rfl) ?_
  refine lv_iload_n hx hb dJ8_newLength_cabcc_2 rfl (lv_at hl 2 rfl) ?_
  refine va_mmax hx hb (hml.trans hl.1.symm) hown (hts (.methodLink RJ8 194 Lib.Math.max.name) (zx_Gc mm_791)) (hts (.static Lib.Math.max.name) (zx_Gc mm_279)) (hts (.initialized "java/lang/Math") (zx_Gc mm_86)) (hts (.code Lib.Math.max.name Lib.Math.max.code 2 (some .int)) (zx_Gc mm_280)) (Nat.le_of_ble_eq_true rfl) (Nat.le_of_ble_eq_true rfl) (Nat.le_of_ble_eq_true rfl) (Nat.le_of_ble_eq_true rfl) dJ8_newLength_cabcc_3 ?_
  refine lv_topi (fun y9 ey9 => ?_)
  obtain rfl : y9 = 5 := by rw [ey9] <;> decide
  refine lv_iadd hx hb dJ8_newLength_cabcc_6 ?_
  refine lv_topi (fun y9 ey9 => ?_)
  obtain rfl : y9 = 15 := by rw [ey9] <;> decide
  refine lv_istore_n (lv' := [(3, .int 15), (0, .int 10), (1, .int 1), (2, .int 5)]) hx hb dJ8_newLength_cabcc_7 rfl hl (by decide) rfl (fun ls hl => ?_)
  refine lv_iconst (v := 0) hx hb dJ8_newLength_cabcc_8 (by decide) ?_
  refine lv_iload_n hx hb dJ8_newLength_cabcc_9 rfl (lv_at hl 0 rfl) ?_
  refine lv_icmp_ge (tgt := 21) hx hb dJ8_newLength_cabcc_10 (by decide) (fun c_181 => absurd c_181 (by decide)) (fun _ => ?_)
  refine lv_iload_n hx hb dJ8_newLength_cabcc_13 rfl (lv_at hl 0 rfl) ?_
  refine lv_ldc (v := 2147483639) hx hb hown (hts (.constant RJ8 200 (2147483639)) (zx_Gc mm_792)) dJ8_newLength_cabcc_14 ?_
  refine lv_icmp_gt (tgt := 21) hx hb dJ8_newLength_cabcc_16 (by decide) (fun c_182 => absurd c_182 (by decide)) (fun _ => ?_)
  refine lv_iload_n hx hb dJ8_newLength_cabcc_19 rfl (lv_at hl 0 rfl) ?_
  have hP9 := hP.sub (ws' := []) [] rfl
  have hD9 := hD.sub (ws' := []) [] (by decide) rfl
  exact W.iret (v := 15) hx hb hr (fun t ht hW => ⟨⟨15, (), rfl, rfl, zx_fin hP9 hD9 hK ht hW⟩, hS.F ht⟩) hS.2.2 dJ8_newLength_cabcc_20
set_option maxHeartbeats 4000000 in
set_option maxRecDepth 100000 in
theorem c_copyOf3_10 (l : Launch) (hst : l.stackTraces = false) (D : va_G) (cy : Nat → ClassId) (ed sz : Nat) (el : Nat) (g : Nat → Option Nat) (p0 : Nat) (p1 : Nat) (p2 : Nat) (p3 : Nat) (p4 : Nat) (p5 : Nat) (p6 : Nat) (p7 : Nat) (p8 : Nat) (p9 : Nat) (f0 : List Value) (f1 : List Value) (f2 : List Value) (f3 : List Value) (f4 : List Value) (f5 : List Value) (f6 : List Value) (f7 : List Value) (f8 : List Value) (f9 : List Value) (hg0 : g 0 = some p0) (hg1 : g 1 = some p1) (hg2 : g 2 = some p2) (hg3 : g 3 = some p3) (hg4 : g 4 = some p4) (hg5 : g 5 = some p5) (hg6 : g 6 = some p6) (hg7 : g 7 = some p7) (hg8 : g 8 = some p8) (hg9 : g 9 = some p9) : Met l yJ7_copyOf_6403c wzJ7_copyOf_6403c ({ frames := 1, cells := 1, slots := 15, locals := 30 }) (zx_Pc D cy ed sz [.ref el, .int 15, .ref (cy 6)] [(el, .inl (cy 2, 10, .inr (.inr (.inr (.inr g))))), (p0, .inr (17, f0)), (p1, .inr (17, f1)), (p2, .inr (17, f2)), (p3, .inr (17, f3)), (p4, .inr (17, f4)), (p5, .inr (17, f5)), (p6, .inr (17, f6)), (p7, .inr (17, f7)), (p8, .inr (17, f8)), (p9, .inr (17, f9))]) (va_Qr (fun (u9 : Nat → Option Nat) => match u9 with | g2 => ∀ j, j < 10 → g2 j = g j) (fun (u9 : Nat → Option Nat) (ra : Nat) (t9 : State) => match u9 with | g2 => zx_At D cy (va_A [(el, .inl (cy 2, 10, .inr (.inr (.inr (.inr g))))), (p0, .inr (17, f0)), (p1, .inr (17, f1)), (p2, .inr (17, f2)), (p3, .inr (17, f3)), (p4, .inr (17, f4)), (p5, .inr (17, f5)), (p6, .inr (17, f6)), (p7, .inr (17, f7)), (p8, .inr (17, f8)), (p9, .inr (17, f9))] sz) [(ra, .inl (cy 2, 15, .inr (.inr (.inr (.inr g2))))), (p0, .inr (17, f0)), (p1, .inr (17, f1)), (p2, .inr (17, f2)), (p3, .inr (17, f3)), (p4, .inr (17, f4)), (p5, .inr (17, f5)), (p6, .inr (17, f6)), (p7, .inr (17, f7)), (p8, .inr (17, f8)), (p9, .inr (17, f9))] t9) (va_A [(el, .inl (cy 2, 10, .inr (.inr (.inr (.inr g))))), (p0, .inr (17, f0)), (p1, .inr (17, f1)), (p2, .inr (17, f2)), (p3, .inr (17, f3)), (p4, .inr (17, f4)), (p5, .inr (17, f5)), (p6, .inr (17, f6)), (p7, .inr (17, f7)), (p8, .inr (17, f8)), (p9, .inr (17, f9))] sz)) 1 15 (va_A [(el, .inl (cy 2, 10, .inr (.inr (.inr (.inr g))))), (p0, .inr (17, f0)), (p1, .inr (17, f1)), (p2, .inr (17, f2)), (p3, .inr (17, f3)), (p4, .inr (17, f4)), (p5, .inr (17, f5)), (p6, .inr (17, f6)), (p7, .inr (17, f7)), (p8, .inr (17, f8)), (p9, .inr (17, f9))] sz) := by
  refine Met.ofW (cc := cJ7_copyOf_6403c) (maxL := 4) (ret := (some (.array (.object "java/lang/Object")))) (by decide) rfl ?_
  intro p e s m args below meth c s₁ B hml hv
  obtain ⟨rfl, hsz, hP, hK, hD0, hZ, hN⟩ := hv
  have hx := B.exec
  have hb := B.bytes
  have hr := B.returns
  have hts := atoms_spec (ws := wzJ7_copyOf_6403c) B.pre
  have hown : s.vm.findClass RJ7 = some m.cls := findClass_of_methodNamed B.named
  have hlocks := B.notSynchronized
  subst hsz
  have hD := hD0.self (sz := s.heap.size)
  generalize hAe : va_A [(el, .inl (cy 2, 10, .inr (.inr (.inr (.inr g))))), (p0, .inr (17, f0)), (p1, .inr (17, f1)), (p2, .inr (17, f2)), (p3, .inr (17, f3)), (p4, .inr (17, f4)), (p5, .inr (17, f5)), (p6, .inr (17, f6)), (p7, .inr (17, f7)), (p8, .inr (17, f8)), (p9, .inr (17, f9))] s.heap.size = A at hD hZ ⊢
  have hA : ∀ q : Nat, s.heap.size ≤ q → A q := fun q h => by rw [← hAe]; exact Or.inr h
  have hS : va_S A s.heap s.heap [] := va_S.rf
  have hP : va_P D vwCl [(el, .inl (cy 2, 10, .inr (.inr (.inr (.inr g))))), (p0, .inr (17, f0)), (p1, .inr (17, f1)), (p2, .inr (17, f2)), (p3, .inr (17, f3)), (p4, .inr (17, f4)), (p5, .inr (17, f5)), (p6, .inr (17, f6)), (p7, .inr (17, f7)), (p8, .inr (17, f8)), (p9, .inr (17, f9))] s.heap := hP
  have hl := lv_entry ([.ref el, .int 15, .ref (cy 6)]) (n := 4) (Nat.le_of_ble_eq_true rfl)
  rw [lg_entry_eq]
  generalize (lg_sl ([.ref el, .int 15, .ref (cy 6)]) ++ List.replicate (4 - (lg_sl ([.ref el, .int 15, .ref (cy 6)])).length) Slot.unset).toArray = ls at hl ⊢
  have hl : lv_has ls 4 [(0, .ref el), (1, .int 15), (2, .ref (cy 6))] := hl
  refine lv_aload_n hx hb dJ7_copyOf_6403c_0 rfl (lv_at hl 2 rfl) ?_
  refine va_ldcM hx hb hown (hts (.classLink RJ7 110 "[Ljava/lang/Object;") (zx_Gc mm_832)) hN.2.2.2.2.2.2.2.2.1 dJ7_copyOf_6403c_1 ?_
  refine lv_acmp_ne (rx := some (cy 6)) (ry := some (cy 6)) (tgt := 13) hx hb dJ7_copyOf_6403c_3 (by decide) (fun q9 => absurd rfl q9) (fun _ => ?_)
  refine lv_iload_n hx hb dJ7_copyOf_6403c_6 rfl (lv_at hl 1 rfl) ?_
  refine va_newq (C := "java/lang/Object") (N' := 15) hx hb hown (hts (.classLink RJ7 2 "java/lang/Object") (zx_Gc mm_834)) hN.2.2.2.2.2.2.2.1 hK hP hD hS hA (by decide) (by decide) (by decide) (Nat.le_of_ble_eq_true rfl) (Nat.le_of_ble_eq_true rfl) dJ7_copyOf_6403c_7 (fun q_183 cA9 H hK9 hP hD hS => ?_)
  obtain rfl := zx_same (c0 := cy 2) 2 rfl hK9
  have hP : va_P D vwCl [(el, .inl (cy 2, 10, .inr (.inr (.inr (.inr g))))), (p0, .inr (17, f0)), (p1, .inr (17, f1)), (p2, .inr (17, f2)), (p3, .inr (17, f3)), (p4, .inr (17, f4)), (p5, .inr (17, f5)), (p6, .inr (17, f6)), (p7, .inr (17, f7)), (p8, .inr (17, f8)), (p9, .inr (17, f9)), (q_183, .inl (cy 2, 15, .inr (.inr (.inr (.inr (fun _ => none))))))] H := hP
  have hD : va_D A [(el, .inl (cy 2, 10, .inr (.inr (.inr (.inr g))))), (p0, .inr (17, f0)), (p1, .inr (17, f1)), (p2, .inr (17, f2)), (p3, .inr (17, f3)), (p4, .inr (17, f4)), (p5, .inr (17, f5)), (p6, .inr (17, f6)), (p7, .inr (17, f7)), (p8, .inr (17, f8)), (p9, .inr (17, f9)), (q_183, .inl (cy 2, 15, .inr (.inr (.inr (.inr (fun _ => none))))))] := hD
  refine W.widen (k := 1) (n := 15) (Nat.le_of_ble_eq_true rfl) (Nat.le_of_ble_eq_true rfl) ?_
  refine lv_goto (tgt := 24) hx hb dJ7_copyOf_6403c_10 (by decide) ?_
  refine lv_astore_n (lv' := [(3, .ref q_183), (0, .ref el), (1, .int 15), (2, .ref (cy 6))]) hx hb dJ7_copyOf_6403c_24 rfl hl (by decide) rfl (fun ls hl => ?_)
  refine lv_aload_n hx hb dJ7_copyOf_6403c_25 rfl (lv_at hl 1 rfl) ?_
  refine lv_iconst (v := 0) hx hb dJ7_copyOf_6403c_26 (by decide) ?_
  refine lv_aload_n hx hb dJ7_copyOf_6403c_27 rfl (lv_at hl 0 rfl) ?_
  refine lv_iconst (v := 0) hx hb dJ7_copyOf_6403c_28 (by decide) ?_
  refine lv_aload_n hx hb dJ7_copyOf_6403c_29 rfl (lv_at hl 1 rfl) ?_
  refine va_alen (v := 10) hx hb hK hP 0 2 rfl rfl (show Int32.ofNat 10 = 10 from by decide) dJ7_copyOf_6403c_30 ?_
  refine lv_iload_n hx hb dJ7_copyOf_6403c_31 rfl (lv_at hl 2 rfl) ?_
  refine va_mmin hx hb (hml.trans hl.1.symm) hown (hts (.methodLink RJ7 304 Lib.Math.min.name) (zx_Gc mm_766)) (hts (.static Lib.Math.min.name) (zx_Gc mm_767)) (hts (.initialized "java/lang/Math") (zx_Gc mm_86)) (hts (.code Lib.Math.min.name Lib.Math.min.code 2 (some .int)) (zx_Gc mm_768)) (Nat.le_of_ble_eq_true rfl) (Nat.le_of_ble_eq_true rfl) (Nat.le_of_ble_eq_true rfl) (Nat.le_of_ble_eq_true rfl) dJ7_copyOf_6403c_32 ?_
  refine lv_topi (fun y9 ey9 => ?_)
  obtain rfl : y9 = 10 := by rw [ey9] <;> decide
  have hel9 : ∀ i9 : Nat, i9 < 10 → ∀ y9 : Nat, g i9 = some y9 → ∃ cellV : Cell, H[y9]? = some cellV ∧ cellV.vm.isStatics = false ∧ s.vm.findClass RX12 = some cellV.cls := by
    intro i9 hi9 y9 hy9
    rcases (show i9 = 0 ∨ i9 = 1 ∨ i9 = 2 ∨ i9 = 3 ∨ i9 = 4 ∨ i9 = 5 ∨ i9 = 6 ∨ i9 = 7 ∨ i9 = 8 ∨ i9 = 9 by omega) with rfl | rfl | rfl | rfl | rfl | rfl | rfl | rfl | rfl | rfl
    · obtain rfl : p0 = y9 := Option.some.inj (hg0.symm.trans hy9)
      exact va_recv hK hP (ci := 17) (q0 := 1) rfl rfl
    · obtain rfl : p1 = y9 := Option.some.inj (hg1.symm.trans hy9)
      exact va_recv hK hP (ci := 17) (q0 := 2) rfl rfl
    · obtain rfl : p2 = y9 := Option.some.inj (hg2.symm.trans hy9)
      exact va_recv hK hP (ci := 17) (q0 := 3) rfl rfl
    · obtain rfl : p3 = y9 := Option.some.inj (hg3.symm.trans hy9)
      exact va_recv hK hP (ci := 17) (q0 := 4) rfl rfl
    · obtain rfl : p4 = y9 := Option.some.inj (hg4.symm.trans hy9)
      exact va_recv hK hP (ci := 17) (q0 := 5) rfl rfl
    · obtain rfl : p5 = y9 := Option.some.inj (hg5.symm.trans hy9)
      exact va_recv hK hP (ci := 17) (q0 := 6) rfl rfl
    · obtain rfl : p6 = y9 := Option.some.inj (hg6.symm.trans hy9)
      exact va_recv hK hP (ci := 17) (q0 := 7) rfl rfl
    · obtain rfl : p7 = y9 := Option.some.inj (hg7.symm.trans hy9)
      exact va_recv hK hP (ci := 17) (q0 := 8) rfl rfl
    · obtain rfl : p8 = y9 := Option.some.inj (hg8.symm.trans hy9)
      exact va_recv hK hP (ci := 17) (q0 := 9) rfl rfl
    · obtain rfl : p9 = y9 := Option.some.inj (hg9.symm.trans hy9)
      exact va_recv hK hP (ci := 17) (q0 := 10) rfl rfl
  refine va_copyq (C := RX12) hx hb (hml.trans hl.1.symm) hown (hts (.methodLink RJ7 150 arraycopyName) (zx_Gc mm_769)) (hts (.native arraycopyName) (zx_Gc mm_771)) (hts (.static arraycopyName) (zx_Gc mm_770)) (hts (.initialized "java/lang/System") (zx_Gc mm_87)) hK hP hD hS 0 11 2 2 rfl rfl rfl rfl (by decide) (by decide) (by decide) (by decide) (by decide) (fun i9 hi9 y9 hy9 => hel9 i9 (by rw [show (10 : Int32).toNatClampNeg = 10 from by decide] at hi9; exact hi9) y9 (by rw [show (0 : Int32).toNatClampNeg = 0 from by decide, Nat.zero_add] at hy9; exact hy9)) (fun comp c9 h8 h9 => by obtain ⟨c1, c2, f1, f2, f3⟩ := Cond.castable_spec (hN.2.2.1 "RefereehallModel$Person" "java/lang/Object" (List.mem_of_getElem? (i := 2467) (by decide +kernel))); cases h9.symm.trans f1; cases h8.symm.trans f2; exact f3) (Nat.le_of_ble_eq_true rfl) (Nat.le_of_ble_eq_true rfl) dJ7_copyOf_6403c_35 (fun H locs hP hD hS => ?_)
  have hP : va_P D vwCl [(el, .inl (cy 2, 10, .inr (.inr (.inr (.inr g))))), (p0, .inr (17, f0)), (p1, .inr (17, f1)), (p2, .inr (17, f2)), (p3, .inr (17, f3)), (p4, .inr (17, f4)), (p5, .inr (17, f5)), (p6, .inr (17, f6)), (p7, .inr (17, f7)), (p8, .inr (17, f8)), (p9, .inr (17, f9)), (q_183, .inl (cy 2, 15, .inr (.inr (.inr (.inr (va_cpy g (fun _ => none) (0 : Int32).toNatClampNeg (0 : Int32).toNatClampNeg (10 : Int32).toNatClampNeg))))))] H := hP
  have hD : va_D A [(el, .inl (cy 2, 10, .inr (.inr (.inr (.inr g))))), (p0, .inr (17, f0)), (p1, .inr (17, f1)), (p2, .inr (17, f2)), (p3, .inr (17, f3)), (p4, .inr (17, f4)), (p5, .inr (17, f5)), (p6, .inr (17, f6)), (p7, .inr (17, f7)), (p8, .inr (17, f8)), (p9, .inr (17, f9)), (q_183, .inl (cy 2, 15, .inr (.inr (.inr (.inr (va_cpy g (fun _ => none) (0 : Int32).toNatClampNeg (0 : Int32).toNatClampNeg (10 : Int32).toNatClampNeg))))))] := hD
  refine lv_aload_n hx hb dJ7_copyOf_6403c_38 rfl (lv_at hl 0 rfl) ?_
  have hP9 := hP.sub (ws' := [(q_183, .inl (cy 2, 15, .inr (.inr (.inr (.inr (va_cpy g (fun _ => none) (0 : Int32).toNatClampNeg (0 : Int32).toNatClampNeg (10 : Int32).toNatClampNeg)))))), (p0, .inr (17, f0)), (p1, .inr (17, f1)), (p2, .inr (17, f2)), (p3, .inr (17, f3)), (p4, .inr (17, f4)), (p5, .inr (17, f5)), (p6, .inr (17, f6)), (p7, .inr (17, f7)), (p8, .inr (17, f8)), (p9, .inr (17, f9))]) [11, 1, 2, 3, 4, 5, 6, 7, 8, 9, 10] rfl
  have hD9 := hD.sub (ws' := [(q_183, .inl (cy 2, 15, .inr (.inr (.inr (.inr (va_cpy g (fun _ => none) (0 : Int32).toNatClampNeg (0 : Int32).toNatClampNeg (10 : Int32).toNatClampNeg)))))), (p0, .inr (17, f0)), (p1, .inr (17, f1)), (p2, .inr (17, f2)), (p3, .inr (17, f3)), (p4, .inr (17, f4)), (p5, .inr (17, f5)), (p6, .inr (17, f6)), (p7, .inr (17, f7)), (p8, .inr (17, f8)), (p9, .inr (17, f9))]) [11, 1, 2, 3, 4, 5, 6, 7, 8, 9, 10] (by decide) rfl
  exact W.aret (v := .ref q_183) hx hb hr (.inr ⟨_, rfl⟩) (.inr ⟨_, rfl⟩) (fun t ht hW => ⟨⟨(va_cpy g (fun _ => none) (0 : Int32).toNatClampNeg (0 : Int32).toNatClampNeg (10 : Int32).toNatClampNeg), q_183, rfl, (fun j9 hj9 => zx_cpy (by decide) (by decide) (by rw [show (10 : Int32).toNatClampNeg = 10 from by decide]; exact hj9)), zx_fin hP9 hD9 hK ht hW⟩, hS.F ht⟩) hS.2.2 dJ7_copyOf_6403c_39
set_option maxHeartbeats 4000000 in
set_option maxRecDepth 100000 in
theorem c_copyOf2_10 (l : Launch) (hst : l.stackTraces = false) (D : va_G) (cy : Nat → ClassId) (ed sz : Nat) (el : Nat) (g : Nat → Option Nat) (p0 : Nat) (p1 : Nat) (p2 : Nat) (p3 : Nat) (p4 : Nat) (p5 : Nat) (p6 : Nat) (p7 : Nat) (p8 : Nat) (p9 : Nat) (f0 : List Value) (f1 : List Value) (f2 : List Value) (f3 : List Value) (f4 : List Value) (f5 : List Value) (f6 : List Value) (f7 : List Value) (f8 : List Value) (f9 : List Value) (hg0 : g 0 = some p0) (hg1 : g 1 = some p1) (hg2 : g 2 = some p2) (hg3 : g 3 = some p3) (hg4 : g 4 = some p4) (hg5 : g 5 = some p5) (hg6 : g 6 = some p6) (hg7 : g 7 = some p7) (hg8 : g 8 = some p8) (hg9 : g 9 = some p9) : Met l yJ7_copyOf_1904c wzJ7_copyOf_1904c ({ frames := 2, cells := 1, slots := 15, locals := 53 }) (zx_Pc D cy ed sz [.ref el, .int 15] [(el, .inl (cy 2, 10, .inr (.inr (.inr (.inr g))))), (p0, .inr (17, f0)), (p1, .inr (17, f1)), (p2, .inr (17, f2)), (p3, .inr (17, f3)), (p4, .inr (17, f4)), (p5, .inr (17, f5)), (p6, .inr (17, f6)), (p7, .inr (17, f7)), (p8, .inr (17, f8)), (p9, .inr (17, f9))]) (va_Qr (fun (u9 : Nat → Option Nat) => match u9 with | g2 => ∀ j, j < 10 → g2 j = g j) (fun (u9 : Nat → Option Nat) (ra : Nat) (t9 : State) => match u9 with | g2 => zx_At D cy (va_A [(el, .inl (cy 2, 10, .inr (.inr (.inr (.inr g))))), (p0, .inr (17, f0)), (p1, .inr (17, f1)), (p2, .inr (17, f2)), (p3, .inr (17, f3)), (p4, .inr (17, f4)), (p5, .inr (17, f5)), (p6, .inr (17, f6)), (p7, .inr (17, f7)), (p8, .inr (17, f8)), (p9, .inr (17, f9))] sz) [(ra, .inl (cy 2, 15, .inr (.inr (.inr (.inr g2))))), (p0, .inr (17, f0)), (p1, .inr (17, f1)), (p2, .inr (17, f2)), (p3, .inr (17, f3)), (p4, .inr (17, f4)), (p5, .inr (17, f5)), (p6, .inr (17, f6)), (p7, .inr (17, f7)), (p8, .inr (17, f8)), (p9, .inr (17, f9))] t9) (va_A [(el, .inl (cy 2, 10, .inr (.inr (.inr (.inr g))))), (p0, .inr (17, f0)), (p1, .inr (17, f1)), (p2, .inr (17, f2)), (p3, .inr (17, f3)), (p4, .inr (17, f4)), (p5, .inr (17, f5)), (p6, .inr (17, f6)), (p7, .inr (17, f7)), (p8, .inr (17, f8)), (p9, .inr (17, f9))] sz)) 1 15 (va_A [(el, .inl (cy 2, 10, .inr (.inr (.inr (.inr g))))), (p0, .inr (17, f0)), (p1, .inr (17, f1)), (p2, .inr (17, f2)), (p3, .inr (17, f3)), (p4, .inr (17, f4)), (p5, .inr (17, f5)), (p6, .inr (17, f6)), (p7, .inr (17, f7)), (p8, .inr (17, f8)), (p9, .inr (17, f9))] sz) := by
  refine Met.ofW (cc := cJ7_copyOf_1904c) (maxL := 2) (ret := (some (.array (.object "java/lang/Object")))) (by decide) rfl ?_
  intro p e s m args below meth c s₁ B hml hv
  obtain ⟨rfl, hsz, hP, hK, hD0, hZ, hN⟩ := hv
  have hx := B.exec
  have hb := B.bytes
  have hr := B.returns
  have hts := atoms_spec (ws := wzJ7_copyOf_1904c) B.pre
  have hown : s.vm.findClass RJ7 = some m.cls := findClass_of_methodNamed B.named
  have hlocks := B.notSynchronized
  subst hsz
  have hD := hD0.self (sz := s.heap.size)
  generalize hAe : va_A [(el, .inl (cy 2, 10, .inr (.inr (.inr (.inr g))))), (p0, .inr (17, f0)), (p1, .inr (17, f1)), (p2, .inr (17, f2)), (p3, .inr (17, f3)), (p4, .inr (17, f4)), (p5, .inr (17, f5)), (p6, .inr (17, f6)), (p7, .inr (17, f7)), (p8, .inr (17, f8)), (p9, .inr (17, f9))] s.heap.size = A at hD hZ ⊢
  have hA : ∀ q : Nat, s.heap.size ≤ q → A q := fun q h => by rw [← hAe]; exact Or.inr h
  have hS : va_S A s.heap s.heap [] := va_S.rf
  have hP : va_P D vwCl [(el, .inl (cy 2, 10, .inr (.inr (.inr (.inr g))))), (p0, .inr (17, f0)), (p1, .inr (17, f1)), (p2, .inr (17, f2)), (p3, .inr (17, f3)), (p4, .inr (17, f4)), (p5, .inr (17, f5)), (p6, .inr (17, f6)), (p7, .inr (17, f7)), (p8, .inr (17, f8)), (p9, .inr (17, f9))] s.heap := hP
  have hl := lv_entry ([.ref el, .int 15]) (n := 2) (Nat.le_of_ble_eq_true rfl)
  rw [lg_entry_eq]
  generalize (lg_sl ([.ref el, .int 15]) ++ List.replicate (2 - (lg_sl ([.ref el, .int 15])).length) Slot.unset).toArray = ls at hl ⊢
  have hl : lv_has ls 2 [(0, .ref el), (1, .int 15)] := hl
  refine lv_aload_n hx hb dJ7_copyOf_1904c_0 rfl (lv_at hl 0 rfl) ?_
  refine lv_iload_n hx hb dJ7_copyOf_1904c_1 rfl (lv_at hl 1 rfl) ?_
  refine lv_aload_n hx hb dJ7_copyOf_1904c_2 rfl (lv_at hl 0 rfl) ?_
  refine va_getC (C := "[Ljava/lang/Object;") hx hb (hml.trans hl.1.symm) hown (hts (.methodLink RJ7 86 ⟨"java/lang/Object", "getClass", "()Ljava/lang/Class;"⟩) (zx_Gc mm_799)) (va_Dc.use hN.2.2.2.2.2.2.2.2.2) (hts (.selects "[Ljava/lang/Object;" ⟨"java/lang/Object", "getClass", "()Ljava/lang/Class;"⟩ ⟨"java/lang/Object", "getClass", "()Ljava/lang/Class;"⟩) (zx_Gc mm_2489)) (hts (.instanceMethod ⟨"java/lang/Object", "getClass", "()Ljava/lang/Class;"⟩) (zx_Gc mm_800)) (hts (.native ⟨"java/lang/Object", "getClass", "()Ljava/lang/Class;"⟩) (zx_Gc mm_828)) hN.2.2.2.2.2.2.2.2.1 (zx_arrc hK hP (q0 := 0) 2 rfl rfl) (Nat.le_of_ble_eq_true rfl) (Nat.le_of_ble_eq_true rfl) dJ7_copyOf_1904c_3 ?_
  have hPc := hP.sub (ws' := [(el, .inl (cy 2, 10, .inr (.inr (.inr (.inr g))))), (p0, .inr (17, f0)), (p1, .inr (17, f1)), (p2, .inr (17, f2)), (p3, .inr (17, f3)), (p4, .inr (17, f4)), (p5, .inr (17, f5)), (p6, .inr (17, f6)), (p7, .inr (17, f7)), (p8, .inr (17, f8)), (p9, .inr (17, f9))]) [0, 1, 2, 3, 4, 5, 6, 7, 8, 9, 10] rfl
  have hDc := hD.sub (ws' := [(el, .inl (cy 2, 10, .inr (.inr (.inr (.inr g))))), (p0, .inr (17, f0)), (p1, .inr (17, f1)), (p2, .inr (17, f2)), (p3, .inr (17, f3)), (p4, .inr (17, f4)), (p5, .inr (17, f5)), (p6, .inr (17, f6)), (p7, .inr (17, f7)), (p8, .inr (17, f8)), (p9, .inr (17, f9))]) [0, 1, 2, 3, 4, 5, 6, 7, 8, 9, 10] (by decide) rfl
  have hFc := va_free (wc := [(el, .inl (cy 2, 10, .inr (.inr (.inr (.inr g))))), (p0, .inr (17, f0)), (p1, .inr (17, f1)), (p2, .inr (17, f2)), (p3, .inr (17, f3)), (p4, .inr (17, f4)), (p5, .inr (17, f5)), (p6, .inr (17, f6)), (p7, .inr (17, f7)), (p8, .inr (17, f8)), (p9, .inr (17, f9))]) hD hS hA [0, 1, 2, 3, 4, 5, 6, 7, 8, 9, 10] rfl
  refine va_callr (va_runS (As := [.ref el, .int 15, .ref (cy 6)]) (rest := []) ⟨hx, hb, hml, hown, hts⟩ (c_copyOf3_10 l hst D cy ed s.heap.size el g p0 p1 p2 p3 p4 p5 p6 p7 p8 p9 f0 f1 f2 f3 f4 f5 f6 f7 f8 f9 hg0 hg1 hg2 hg3 hg4 hg5 hg6 hg7 hg8 hg9) (va_cwS 3 hts (zx_GS mm_829 mm_830 mm_73 mm_831) rfl rfl rfl (by decide +kernel) ⟨(Nat.le_of_ble_eq_true rfl), (Nat.le_of_ble_eq_true rfl)⟩) ⟨zx_blind, zx_give hPc hK hDc hS hFc hZ hN⟩ rfl rfl hl.1 rfl (lv_room (Nat.le_of_ble_eq_true rfl)) dJ7_copyOf_1904c_6 ⟨(Nat.le_of_ble_eq_true rfl), (Nat.le_of_ble_eq_true rfl)⟩) hS (fun q _ h => hFc q h) hFc (fun u ra9 t H1 locs ht hvm hw hB hz1 hk1 hS => ?_)
  obtain ⟨g2_184, rfl⟩ : ∃ z9, z9 = u := ⟨_, rfl⟩
  obtain ⟨a_185, rfl⟩ : ∃ z9, z9 = ra9 := ⟨_, rfl⟩
  have h_186 := hw
  obtain ⟨hP, hD⟩ := zx_join (wr := []) (w1 := [(a_185, .inl (cy 2, 15, .inr (.inr (.inr (.inr g2_184))))), (p0, .inr (17, f0)), (p1, .inr (17, f1)), (p2, .inr (17, f2)), (p3, .inr (17, f3)), (p4, .inr (17, f4)), (p5, .inr (17, f5)), (p6, .inr (17, f6)), (p7, .inr (17, f7)), (p8, .inr (17, f8)), (p9, .inr (17, f9))]) [0, 1, 2, 3, 4, 5, 6, 7, 8, 9, 10] [] rfl rfl (by decide) (by decide) hP hD hk1 hFc hB ht
  generalize H1 = H at hP hS ⊢
  have hP : va_P D vwCl [(a_185, .inl (cy 2, 15, .inr (.inr (.inr (.inr g2_184))))), (p0, .inr (17, f0)), (p1, .inr (17, f1)), (p2, .inr (17, f2)), (p3, .inr (17, f3)), (p4, .inr (17, f4)), (p5, .inr (17, f5)), (p6, .inr (17, f6)), (p7, .inr (17, f7)), (p8, .inr (17, f8)), (p9, .inr (17, f9))] H := hP
  have hD : va_D A [(a_185, .inl (cy 2, 15, .inr (.inr (.inr (.inr g2_184))))), (p0, .inr (17, f0)), (p1, .inr (17, f1)), (p2, .inr (17, f2)), (p3, .inr (17, f3)), (p4, .inr (17, f4)), (p5, .inr (17, f5)), (p6, .inr (17, f6)), (p7, .inr (17, f7)), (p8, .inr (17, f8)), (p9, .inr (17, f9))] := hD
  refine W.widen (k := 1) (n := 15) (Nat.le_of_ble_eq_true rfl) (Nat.le_of_ble_eq_true rfl) ?_
  have hP9 := hP.sub (ws' := [(a_185, .inl (cy 2, 15, .inr (.inr (.inr (.inr g2_184))))), (p0, .inr (17, f0)), (p1, .inr (17, f1)), (p2, .inr (17, f2)), (p3, .inr (17, f3)), (p4, .inr (17, f4)), (p5, .inr (17, f5)), (p6, .inr (17, f6)), (p7, .inr (17, f7)), (p8, .inr (17, f8)), (p9, .inr (17, f9))]) [0, 1, 2, 3, 4, 5, 6, 7, 8, 9, 10] rfl
  have hD9 := hD.sub (ws' := [(a_185, .inl (cy 2, 15, .inr (.inr (.inr (.inr g2_184))))), (p0, .inr (17, f0)), (p1, .inr (17, f1)), (p2, .inr (17, f2)), (p3, .inr (17, f3)), (p4, .inr (17, f4)), (p5, .inr (17, f5)), (p6, .inr (17, f6)), (p7, .inr (17, f7)), (p8, .inr (17, f8)), (p9, .inr (17, f9))]) [0, 1, 2, 3, 4, 5, 6, 7, 8, 9, 10] (by decide) rfl
  exact W.aret (v := .ref a_185) hx hb hr (.inr ⟨_, rfl⟩) (.inr ⟨_, rfl⟩) (fun t ht hW => ⟨⟨g2_184, a_185, rfl, h_186, zx_fin hP9 hD9 hK ht hW⟩, hS.F ht⟩) hS.2.2 dJ7_copyOf_1904c_9
set_option maxHeartbeats 4000000 in
set_option maxRecDepth 100000 in
theorem c_AL_grow1_10 (l : Launch) (hst : l.stackTraces = false) (D : va_G) (cy : Nat → ClassId) (ed sz : Nat) (pa : Nat) (el : Nat) (mc : Int32) (g : Nat → Option Nat) (p0 : Nat) (p1 : Nat) (p2 : Nat) (p3 : Nat) (p4 : Nat) (p5 : Nat) (p6 : Nat) (p7 : Nat) (p8 : Nat) (p9 : Nat) (f0 : List Value) (f1 : List Value) (f2 : List Value) (f3 : List Value) (f4 : List Value) (f5 : List Value) (f6 : List Value) (f7 : List Value) (f8 : List Value) (f9 : List Value) (hg0 : g 0 = some p0) (hg1 : g 1 = some p1) (hg2 : g 2 = some p2) (hg3 : g 3 = some p3) (hg4 : g 4 = some p4) (hg5 : g 5 = some p5) (hg6 : g 6 = some p6) (hg7 : g 7 = some p7) (hg8 : g 8 = some p8) (hg9 : g 9 = some p9) : Met l yJx4a65c_grow_92f84 wzJx4a65c_grow_92f84 ({ frames := 3, cells := 1, slots := 15, locals := 74 }) (zx_Pc D cy ed sz [.ref pa, .int 11] [(pa, .inr (4, [.int mc, .ref el, .int 10])), (el, .inl (cy 2, 10, .inr (.inr (.inr (.inr g))))), (p0, .inr (17, f0)), (p1, .inr (17, f1)), (p2, .inr (17, f2)), (p3, .inr (17, f3)), (p4, .inr (17, f4)), (p5, .inr (17, f5)), (p6, .inr (17, f6)), (p7, .inr (17, f7)), (p8, .inr (17, f8)), (p9, .inr (17, f9))]) (va_Qr (fun (u9 : Nat → Option Nat) => match u9 with | g2 => ∀ j, j < 10 → g2 j = g j) (fun (u9 : Nat → Option Nat) (ra : Nat) (t9 : State) => match u9 with | g2 => zx_At D cy (va_A [(pa, .inr (4, [.int mc, .ref el, .int 10])), (el, .inl (cy 2, 10, .inr (.inr (.inr (.inr g))))), (p0, .inr (17, f0)), (p1, .inr (17, f1)), (p2, .inr (17, f2)), (p3, .inr (17, f3)), (p4, .inr (17, f4)), (p5, .inr (17, f5)), (p6, .inr (17, f6)), (p7, .inr (17, f7)), (p8, .inr (17, f8)), (p9, .inr (17, f9))] sz) [(pa, .inr (4, [.int mc, .ref ra, .int 10])), (ra, .inl (cy 2, 15, .inr (.inr (.inr (.inr g2))))), (p0, .inr (17, f0)), (p1, .inr (17, f1)), (p2, .inr (17, f2)), (p3, .inr (17, f3)), (p4, .inr (17, f4)), (p5, .inr (17, f5)), (p6, .inr (17, f6)), (p7, .inr (17, f7)), (p8, .inr (17, f8)), (p9, .inr (17, f9))] t9) (va_A [(pa, .inr (4, [.int mc, .ref el, .int 10])), (el, .inl (cy 2, 10, .inr (.inr (.inr (.inr g))))), (p0, .inr (17, f0)), (p1, .inr (17, f1)), (p2, .inr (17, f2)), (p3, .inr (17, f3)), (p4, .inr (17, f4)), (p5, .inr (17, f5)), (p6, .inr (17, f6)), (p7, .inr (17, f7)), (p8, .inr (17, f8)), (p9, .inr (17, f9))] sz)) 1 15 (va_A [(pa, .inr (4, [.int mc, .ref el, .int 10])), (el, .inl (cy 2, 10, .inr (.inr (.inr (.inr g))))), (p0, .inr (17, f0)), (p1, .inr (17, f1)), (p2, .inr (17, f2)), (p3, .inr (17, f3)), (p4, .inr (17, f4)), (p5, .inr (17, f5)), (p6, .inr (17, f6)), (p7, .inr (17, f7)), (p8, .inr (17, f8)), (p9, .inr (17, f9))] sz) := by
  refine Met.ofW (cc := cJx4a65c_grow_92f84) (maxL := 4) (ret := (some (.array (.object "java/lang/Object")))) (by decide) rfl ?_
  intro p e s m args below meth c s₁ B hml hv
  obtain ⟨rfl, hsz, hP, hK, hD0, hZ, hN⟩ := hv
  have hx := B.exec
  have hb := B.bytes
  have hr := B.returns
  have hts := atoms_spec (ws := wzJx4a65c_grow_92f84) B.pre
  have hown : s.vm.findClass RJx4a65c = some m.cls := findClass_of_methodNamed B.named
  have hlocks := B.notSynchronized
  subst hsz
  have hD := hD0.self (sz := s.heap.size)
  generalize hAe : va_A [(pa, .inr (4, [.int mc, .ref el, .int 10])), (el, .inl (cy 2, 10, .inr (.inr (.inr (.inr g))))), (p0, .inr (17, f0)), (p1, .inr (17, f1)), (p2, .inr (17, f2)), (p3, .inr (17, f3)), (p4, .inr (17, f4)), (p5, .inr (17, f5)), (p6, .inr (17, f6)), (p7, .inr (17, f7)), (p8, .inr (17, f8)), (p9, .inr (17, f9))] s.heap.size = A at hD hZ ⊢
  have hA : ∀ q : Nat, s.heap.size ≤ q → A q := fun q h => by rw [← hAe]; exact Or.inr h
  have hS : va_S A s.heap s.heap [] := va_S.rf
  have hP : va_P D vwCl [(pa, .inr (4, [.int mc, .ref el, .int 10])), (el, .inl (cy 2, 10, .inr (.inr (.inr (.inr g))))), (p0, .inr (17, f0)), (p1, .inr (17, f1)), (p2, .inr (17, f2)), (p3, .inr (17, f3)), (p4, .inr (17, f4)), (p5, .inr (17, f5)), (p6, .inr (17, f6)), (p7, .inr (17, f7)), (p8, .inr (17, f8)), (p9, .inr (17, f9))] s.heap := hP
  have hl := lv_entry ([.ref pa, .int 11]) (n := 4) (Nat.le_of_ble_eq_true rfl)
  rw [lg_entry_eq]
  generalize (lg_sl ([.ref pa, .int 11]) ++ List.replicate (4 - (lg_sl ([.ref pa, .int 11])).length) Slot.unset).toArray = ls at hl ⊢
  have hl : lv_has ls 4 [(0, .ref pa), (1, .int 11)] := hl
  refine lv_aload_n hx hb dJx4a65c_grow_92f84_0 rfl (lv_at hl 0 rfl) ?_
  refine va_get (D := D) (ci := 4) (v := .ref el) (C := RJx4a65c) (T := TJx4a65c) (N := 3) hx hb hts (fun w h => zx_Gc (uz_Jx4a65c w h)) hown hK hP 0 rfl rfl 1 (by decide) (hts (.fieldLink RJx4a65c 9 "java/util/ArrayList" "elementData" "[Ljava/lang/Object;") (zx_Gc mm_213)) (fun _ h9 => h9) rfl dJx4a65c_grow_92f84_1 ?_
  refine va_alen (v := 10) hx hb hK hP 1 2 rfl rfl (show Int32.ofNat 10 = 10 from by decide) dJx4a65c_grow_92f84_4 ?_
  refine lv_istore_n (lv' := [(2, .int 10), (0, .ref pa), (1, .int 11)]) hx hb dJx4a65c_grow_92f84_5 rfl hl (by decide) rfl (fun ls hl => ?_)
  refine lv_iload_n hx hb dJx4a65c_grow_92f84_6 rfl (lv_at hl 0 rfl) ?_
  refine lv_if_gt (tgt := 20) hx hb dJx4a65c_grow_92f84_7 (by decide) (fun _ => ?_) (fun c_187 => absurd (by decide) c_187)
  refine lv_iload_n hx hb dJx4a65c_grow_92f84_20 rfl (lv_at hl 0 rfl) ?_
  refine lv_iload_n hx hb dJx4a65c_grow_92f84_21 rfl (lv_at hl 2 rfl) ?_
  refine lv_iload_n hx hb dJx4a65c_grow_92f84_22 rfl (lv_at hl 0 rfl) ?_
  refine lv_isub hx hb dJx4a65c_grow_92f84_23 ?_
  refine lv_topi (fun y9 ey9 => ?_)
  obtain rfl : y9 = 1 := by rw [ey9] <;> decide
  refine lv_iload_n hx hb dJx4a65c_grow_92f84_24 rfl (lv_at hl 0 rfl) ?_
  refine lv_iconst (v := 1) hx hb dJx4a65c_grow_92f84_25 (by decide) ?_
  refine lv_ishr hx hb dJx4a65c_grow_92f84_26 ?_
  refine lv_topi (fun y9 ey9 => ?_)
  obtain rfl : y9 = 5 := by rw [ey9] <;> decide
  have hPc := hP.sub (ws' := []) [] rfl
  have hDc := hD.sub (ws' := []) [] (by decide) rfl
  have hFc := va_free (wc := []) hD hS hA [] rfl
  refine va_calli (va_runS (As := [.int 10, .int 1, .int 5]) (rest := []) ⟨hx, hb, hml, hown, hts⟩ (c_newLength_10 l hst D cy ed s.heap.size ) (va_cwS 3 hts (zx_GS mm_788 mm_789 mm_85 mm_790) rfl rfl rfl (by decide +kernel) ⟨(Nat.le_of_ble_eq_true rfl), (Nat.le_of_ble_eq_true rfl)⟩) ⟨zx_blind, zx_give hPc hK hDc hS hFc hZ hN⟩ rfl rfl hl.1 rfl (lv_room (Nat.le_of_ble_eq_true rfl)) dJx4a65c_grow_92f84_27 ⟨(Nat.le_of_ble_eq_true rfl), (Nat.le_of_ble_eq_true rfl)⟩) hS (fun q _ h => hFc q h) hFc (fun r9 u t H1 locs ht hvm hw hB hz1 hk1 hS => ?_)
  obtain rfl : r9 = 15 := hw
  obtain ⟨hP, hD⟩ := zx_join (wr := [(pa, .inr (4, [.int mc, .ref el, .int 10])), (el, .inl (cy 2, 10, .inr (.inr (.inr (.inr g))))), (p0, .inr (17, f0)), (p1, .inr (17, f1)), (p2, .inr (17, f2)), (p3, .inr (17, f3)), (p4, .inr (17, f4)), (p5, .inr (17, f5)), (p6, .inr (17, f6)), (p7, .inr (17, f7)), (p8, .inr (17, f8)), (p9, .inr (17, f9))]) (w1 := []) [] [0, 1, 2, 3, 4, 5, 6, 7, 8, 9, 10, 11] rfl rfl (by decide) (by decide) hP hD hk1 hFc hB ht
  generalize H1 = H at hP hS ⊢
  have hP : va_P D vwCl [(pa, .inr (4, [.int mc, .ref el, .int 10])), (el, .inl (cy 2, 10, .inr (.inr (.inr (.inr g))))), (p0, .inr (17, f0)), (p1, .inr (17, f1)), (p2, .inr (17, f2)), (p3, .inr (17, f3)), (p4, .inr (17, f4)), (p5, .inr (17, f5)), (p6, .inr (17, f6)), (p7, .inr (17, f7)), (p8, .inr (17, f8)), (p9, .inr (17, f9))] H := hP
  have hD : va_D A [(pa, .inr (4, [.int mc, .ref el, .int 10])), (el, .inl (cy 2, 10, .inr (.inr (.inr (.inr g))))), (p0, .inr (17, f0)), (p1, .inr (17, f1)), (p2, .inr (17, f2)), (p3, .inr (17, f3)), (p4, .inr (17, f4)), (p5, .inr (17, f5)), (p6, .inr (17, f6)), (p7, .inr (17, f7)), (p8, .inr (17, f8)), (p9, .inr (17, f9))] := hD
  refine W.widen (k := 0) (n := 0) (Nat.le_of_ble_eq_true rfl) (Nat.le_of_ble_eq_true rfl) ?_
  refine lv_istore_n (lv' := [(3, .int 15), (2, .int 10), (0, .ref pa), (1, .int 11)]) hx hb dJx4a65c_grow_92f84_30 rfl hl (by decide) rfl (fun ls hl => ?_)
  refine lv_aload_n hx hb dJx4a65c_grow_92f84_31 rfl (lv_at hl 2 rfl) ?_
  refine lv_aload_n hx hb dJx4a65c_grow_92f84_32 rfl (lv_at hl 2 rfl) ?_
  refine va_get (D := D) (ci := 4) (v := .ref el) (C := RJx4a65c) (T := TJx4a65c) (N := 3) hx hb hts (fun w h => zx_Gc (uz_Jx4a65c w h)) hown hK hP 0 rfl rfl 1 (by decide) (hts (.fieldLink RJx4a65c 9 "java/util/ArrayList" "elementData" "[Ljava/lang/Object;") (zx_Gc mm_213)) (fun _ h9 => h9) rfl dJx4a65c_grow_92f84_33 ?_
  refine lv_iload_n hx hb dJx4a65c_grow_92f84_36 rfl (lv_at hl 0 rfl) ?_
  have hPc := hP.sub (ws' := [(el, .inl (cy 2, 10, .inr (.inr (.inr (.inr g))))), (p0, .inr (17, f0)), (p1, .inr (17, f1)), (p2, .inr (17, f2)), (p3, .inr (17, f3)), (p4, .inr (17, f4)), (p5, .inr (17, f5)), (p6, .inr (17, f6)), (p7, .inr (17, f7)), (p8, .inr (17, f8)), (p9, .inr (17, f9))]) [1, 2, 3, 4, 5, 6, 7, 8, 9, 10, 11] rfl
  have hDc := hD.sub (ws' := [(el, .inl (cy 2, 10, .inr (.inr (.inr (.inr g))))), (p0, .inr (17, f0)), (p1, .inr (17, f1)), (p2, .inr (17, f2)), (p3, .inr (17, f3)), (p4, .inr (17, f4)), (p5, .inr (17, f5)), (p6, .inr (17, f6)), (p7, .inr (17, f7)), (p8, .inr (17, f8)), (p9, .inr (17, f9))]) [1, 2, 3, 4, 5, 6, 7, 8, 9, 10, 11] (by decide) rfl
  have hFc := va_free (wc := [(el, .inl (cy 2, 10, .inr (.inr (.inr (.inr g))))), (p0, .inr (17, f0)), (p1, .inr (17, f1)), (p2, .inr (17, f2)), (p3, .inr (17, f3)), (p4, .inr (17, f4)), (p5, .inr (17, f5)), (p6, .inr (17, f6)), (p7, .inr (17, f7)), (p8, .inr (17, f8)), (p9, .inr (17, f9))]) hD hS hA [1, 2, 3, 4, 5, 6, 7, 8, 9, 10, 11] rfl
  refine va_callr (va_runS (As := [.ref el, .int 15]) (rest := [.ref pa]) ⟨hx, hb, hml, hown, hts⟩ (c_copyOf2_10 l hst D cy ed H.size el g p0 p1 p2 p3 p4 p5 p6 p7 p8 p9 f0 f1 f2 f3 f4 f5 f6 f7 f8 f9 hg0 hg1 hg2 hg3 hg4 hg5 hg6 hg7 hg8 hg9) (va_cwS 2 hts (zx_GS mm_796 mm_797 mm_73 mm_798) rfl rfl rfl (by decide +kernel) ⟨(Nat.le_of_ble_eq_true rfl), (Nat.le_of_ble_eq_true rfl)⟩) ⟨zx_blind, zx_give hPc hK hDc hS hFc hZ hN⟩ rfl rfl hl.1 rfl (lv_room (Nat.le_of_ble_eq_true rfl)) dJx4a65c_grow_92f84_37 ⟨(Nat.le_of_ble_eq_true rfl), (Nat.le_of_ble_eq_true rfl)⟩) hS (fun q _ h => hFc q h) hFc (fun u ra9 t H1 locs ht hvm hw hB hz1 hk1 hS => ?_)
  obtain ⟨g2_188, rfl⟩ : ∃ z9, z9 = u := ⟨_, rfl⟩
  obtain ⟨a_189, rfl⟩ : ∃ z9, z9 = ra9 := ⟨_, rfl⟩
  have h_190 := hw
  obtain ⟨hP, hD⟩ := zx_join (wr := [(pa, .inr (4, [.int mc, .ref el, .int 10]))]) (w1 := [(a_189, .inl (cy 2, 15, .inr (.inr (.inr (.inr g2_188))))), (p0, .inr (17, f0)), (p1, .inr (17, f1)), (p2, .inr (17, f2)), (p3, .inr (17, f3)), (p4, .inr (17, f4)), (p5, .inr (17, f5)), (p6, .inr (17, f6)), (p7, .inr (17, f7)), (p8, .inr (17, f8)), (p9, .inr (17, f9))]) [1, 2, 3, 4, 5, 6, 7, 8, 9, 10, 11] [0] rfl rfl (by decide) (by decide) hP hD hk1 hFc hB ht
  generalize H1 = H at hP hS ⊢
  have hP : va_P D vwCl [(pa, .inr (4, [.int mc, .ref el, .int 10])), (a_189, .inl (cy 2, 15, .inr (.inr (.inr (.inr g2_188))))), (p0, .inr (17, f0)), (p1, .inr (17, f1)), (p2, .inr (17, f2)), (p3, .inr (17, f3)), (p4, .inr (17, f4)), (p5, .inr (17, f5)), (p6, .inr (17, f6)), (p7, .inr (17, f7)), (p8, .inr (17, f8)), (p9, .inr (17, f9))] H := hP
  have hD : va_D A [(pa, .inr (4, [.int mc, .ref el, .int 10])), (a_189, .inl (cy 2, 15, .inr (.inr (.inr (.inr g2_188))))), (p0, .inr (17, f0)), (p1, .inr (17, f1)), (p2, .inr (17, f2)), (p3, .inr (17, f3)), (p4, .inr (17, f4)), (p5, .inr (17, f5)), (p6, .inr (17, f6)), (p7, .inr (17, f7)), (p8, .inr (17, f8)), (p9, .inr (17, f9))] := hD
  refine W.widen (k := 1) (n := 15) (Nat.le_of_ble_eq_true rfl) (Nat.le_of_ble_eq_true rfl) ?_
  refine lv_dup_x1 hx hb dJx4a65c_grow_92f84_40 rfl rfl ?_
  refine va_put (D := D) (ci := 4) (v := .ref a_189) (ty := .array (.object "java/lang/Object")) (C := RJx4a65c) (T := TJx4a65c) (N := 3) hx hb hts (fun w h => zx_Gc (uz_Jx4a65c w h)) tyJx4a65c tyJx4a65c_ok nmJx4a65c hown hK hP hD hS 0 rfl rfl 1 (by decide) (hts (.fieldLink RJx4a65c 9 "java/util/ArrayList" "elementData" "[Ljava/lang/Object;") (zx_Gc mm_213)) (fun _ h9 => h9) rfl (by decide +kernel) rfl rfl (Nat.le_of_ble_eq_true rfl) dJx4a65c_grow_92f84_41 (fun H locs hP hD hS => ?_)
  have hP : va_P D vwCl [(pa, .inr (4, [.int mc, .ref a_189, .int 10])), (a_189, .inl (cy 2, 15, .inr (.inr (.inr (.inr g2_188))))), (p0, .inr (17, f0)), (p1, .inr (17, f1)), (p2, .inr (17, f2)), (p3, .inr (17, f3)), (p4, .inr (17, f4)), (p5, .inr (17, f5)), (p6, .inr (17, f6)), (p7, .inr (17, f7)), (p8, .inr (17, f8)), (p9, .inr (17, f9))] H := hP
  have hD : va_D A [(pa, .inr (4, [.int mc, .ref a_189, .int 10])), (a_189, .inl (cy 2, 15, .inr (.inr (.inr (.inr g2_188))))), (p0, .inr (17, f0)), (p1, .inr (17, f1)), (p2, .inr (17, f2)), (p3, .inr (17, f3)), (p4, .inr (17, f4)), (p5, .inr (17, f5)), (p6, .inr (17, f6)), (p7, .inr (17, f7)), (p8, .inr (17, f8)), (p9, .inr (17, f9))] := hD
  have hP9 := hP.sub (ws' := [(pa, .inr (4, [.int mc, .ref a_189, .int 10])), (a_189, .inl (cy 2, 15, .inr (.inr (.inr (.inr g2_188))))), (p0, .inr (17, f0)), (p1, .inr (17, f1)), (p2, .inr (17, f2)), (p3, .inr (17, f3)), (p4, .inr (17, f4)), (p5, .inr (17, f5)), (p6, .inr (17, f6)), (p7, .inr (17, f7)), (p8, .inr (17, f8)), (p9, .inr (17, f9))]) [0, 1, 2, 3, 4, 5, 6, 7, 8, 9, 10, 11] rfl
  have hD9 := hD.sub (ws' := [(pa, .inr (4, [.int mc, .ref a_189, .int 10])), (a_189, .inl (cy 2, 15, .inr (.inr (.inr (.inr g2_188))))), (p0, .inr (17, f0)), (p1, .inr (17, f1)), (p2, .inr (17, f2)), (p3, .inr (17, f3)), (p4, .inr (17, f4)), (p5, .inr (17, f5)), (p6, .inr (17, f6)), (p7, .inr (17, f7)), (p8, .inr (17, f8)), (p9, .inr (17, f9))]) [0, 1, 2, 3, 4, 5, 6, 7, 8, 9, 10, 11] (by decide) rfl
  exact W.aret (v := .ref a_189) hx hb hr (.inr ⟨_, rfl⟩) (.inr ⟨_, rfl⟩) (fun t ht hW => ⟨⟨g2_188, a_189, rfl, h_190, zx_fin hP9 hD9 hK ht hW⟩, hS.F ht⟩) hS.2.2 dJx4a65c_grow_92f84_44
set_option maxHeartbeats 4000000 in
set_option maxRecDepth 100000 in
theorem c_AL_grow0_10 (l : Launch) (hst : l.stackTraces = false) (D : va_G) (cy : Nat → ClassId) (ed sz : Nat) (pa : Nat) (el : Nat) (mc : Int32) (g : Nat → Option Nat) (p0 : Nat) (p1 : Nat) (p2 : Nat) (p3 : Nat) (p4 : Nat) (p5 : Nat) (p6 : Nat) (p7 : Nat) (p8 : Nat) (p9 : Nat) (f0 : List Value) (f1 : List Value) (f2 : List Value) (f3 : List Value) (f4 : List Value) (f5 : List Value) (f6 : List Value) (f7 : List Value) (f8 : List Value) (f9 : List Value) (hg0 : g 0 = some p0) (hg1 : g 1 = some p1) (hg2 : g 2 = some p2) (hg3 : g 3 = some p3) (hg4 : g 4 = some p4) (hg5 : g 5 = some p5) (hg6 : g 6 = some p6) (hg7 : g 7 = some p7) (hg8 : g 8 = some p8) (hg9 : g 9 = some p9) : Met l yJx4a65c_grow_d5877 wzJx4a65c_grow_d5877 ({ frames := 4, cells := 1, slots := 15, locals := 97 }) (zx_Pc D cy ed sz [.ref pa] [(pa, .inr (4, [.int mc, .ref el, .int 10])), (el, .inl (cy 2, 10, .inr (.inr (.inr (.inr g))))), (p0, .inr (17, f0)), (p1, .inr (17, f1)), (p2, .inr (17, f2)), (p3, .inr (17, f3)), (p4, .inr (17, f4)), (p5, .inr (17, f5)), (p6, .inr (17, f6)), (p7, .inr (17, f7)), (p8, .inr (17, f8)), (p9, .inr (17, f9))]) (va_Qr (fun (u9 : Nat → Option Nat) => match u9 with | g2 => ∀ j, j < 10 → g2 j = g j) (fun (u9 : Nat → Option Nat) (ra : Nat) (t9 : State) => match u9 with | g2 => zx_At D cy (va_A [(pa, .inr (4, [.int mc, .ref el, .int 10])), (el, .inl (cy 2, 10, .inr (.inr (.inr (.inr g))))), (p0, .inr (17, f0)), (p1, .inr (17, f1)), (p2, .inr (17, f2)), (p3, .inr (17, f3)), (p4, .inr (17, f4)), (p5, .inr (17, f5)), (p6, .inr (17, f6)), (p7, .inr (17, f7)), (p8, .inr (17, f8)), (p9, .inr (17, f9))] sz) [(pa, .inr (4, [.int mc, .ref ra, .int 10])), (ra, .inl (cy 2, 15, .inr (.inr (.inr (.inr g2))))), (p0, .inr (17, f0)), (p1, .inr (17, f1)), (p2, .inr (17, f2)), (p3, .inr (17, f3)), (p4, .inr (17, f4)), (p5, .inr (17, f5)), (p6, .inr (17, f6)), (p7, .inr (17, f7)), (p8, .inr (17, f8)), (p9, .inr (17, f9))] t9) (va_A [(pa, .inr (4, [.int mc, .ref el, .int 10])), (el, .inl (cy 2, 10, .inr (.inr (.inr (.inr g))))), (p0, .inr (17, f0)), (p1, .inr (17, f1)), (p2, .inr (17, f2)), (p3, .inr (17, f3)), (p4, .inr (17, f4)), (p5, .inr (17, f5)), (p6, .inr (17, f6)), (p7, .inr (17, f7)), (p8, .inr (17, f8)), (p9, .inr (17, f9))] sz)) 1 15 (va_A [(pa, .inr (4, [.int mc, .ref el, .int 10])), (el, .inl (cy 2, 10, .inr (.inr (.inr (.inr g))))), (p0, .inr (17, f0)), (p1, .inr (17, f1)), (p2, .inr (17, f2)), (p3, .inr (17, f3)), (p4, .inr (17, f4)), (p5, .inr (17, f5)), (p6, .inr (17, f6)), (p7, .inr (17, f7)), (p8, .inr (17, f8)), (p9, .inr (17, f9))] sz) := by
  refine Met.ofW (cc := cJx4a65c_grow_d5877) (maxL := 1) (ret := (some (.array (.object "java/lang/Object")))) (by decide) rfl ?_
  intro p e s m args below meth c s₁ B hml hv
  obtain ⟨rfl, hsz, hP, hK, hD0, hZ, hN⟩ := hv
  have hx := B.exec
  have hb := B.bytes
  have hr := B.returns
  have hts := atoms_spec (ws := wzJx4a65c_grow_d5877) B.pre
  have hown : s.vm.findClass RJx4a65c = some m.cls := findClass_of_methodNamed B.named
  have hlocks := B.notSynchronized
  subst hsz
  have hD := hD0.self (sz := s.heap.size)
  generalize hAe : va_A [(pa, .inr (4, [.int mc, .ref el, .int 10])), (el, .inl (cy 2, 10, .inr (.inr (.inr (.inr g))))), (p0, .inr (17, f0)), (p1, .inr (17, f1)), (p2, .inr (17, f2)), (p3, .inr (17, f3)), (p4, .inr (17, f4)), (p5, .inr (17, f5)), (p6, .inr (17, f6)), (p7, .inr (17, f7)), (p8, .inr (17, f8)), (p9, .inr (17, f9))] s.heap.size = A at hD hZ ⊢
  have hA : ∀ q : Nat, s.heap.size ≤ q → A q := fun q h => by rw [← hAe]; exact Or.inr h
  have hS : va_S A s.heap s.heap [] := va_S.rf
  have hP : va_P D vwCl [(pa, .inr (4, [.int mc, .ref el, .int 10])), (el, .inl (cy 2, 10, .inr (.inr (.inr (.inr g))))), (p0, .inr (17, f0)), (p1, .inr (17, f1)), (p2, .inr (17, f2)), (p3, .inr (17, f3)), (p4, .inr (17, f4)), (p5, .inr (17, f5)), (p6, .inr (17, f6)), (p7, .inr (17, f7)), (p8, .inr (17, f8)), (p9, .inr (17, f9))] s.heap := hP
  have hl := lv_entry ([.ref pa]) (n := 1) (Nat.le_of_ble_eq_true rfl)
  rw [lg_entry_eq]
  generalize (lg_sl ([.ref pa]) ++ List.replicate (1 - (lg_sl ([.ref pa])).length) Slot.unset).toArray = ls at hl ⊢
  have hl : lv_has ls 1 [(0, .ref pa)] := hl
  refine lv_aload_n hx hb dJx4a65c_grow_d5877_0 rfl (lv_at hl 0 rfl) ?_
  refine lv_aload_n hx hb dJx4a65c_grow_d5877_1 rfl (lv_at hl 0 rfl) ?_
  refine va_get (D := D) (ci := 4) (v := .int 10) (C := RJx4a65c) (T := TJx4a65c) (N := 3) hx hb hts (fun w h => zx_Gc (uz_Jx4a65c w h)) hown hK hP 0 rfl rfl 2 (by decide) (hts (.fieldLink RJx4a65c 48 "java/util/ArrayList" "size" "I") (zx_Gc mm_216)) (fun _ h9 => h9) rfl dJx4a65c_grow_d5877_2 ?_
  refine lv_iconst (v := 1) hx hb dJx4a65c_grow_d5877_5 (by decide) ?_
  refine lv_iadd hx hb dJx4a65c_grow_d5877_6 ?_
  refine lv_topi (fun y9 ey9 => ?_)
  obtain rfl : y9 = 11 := by rw [ey9] <;> decide
  have hPc := hP.sub (ws' := [(pa, .inr (4, [.int mc, .ref el, .int 10])), (el, .inl (cy 2, 10, .inr (.inr (.inr (.inr g))))), (p0, .inr (17, f0)), (p1, .inr (17, f1)), (p2, .inr (17, f2)), (p3, .inr (17, f3)), (p4, .inr (17, f4)), (p5, .inr (17, f5)), (p6, .inr (17, f6)), (p7, .inr (17, f7)), (p8, .inr (17, f8)), (p9, .inr (17, f9))]) [0, 1, 2, 3, 4, 5, 6, 7, 8, 9, 10, 11] rfl
  have hDc := hD.sub (ws' := [(pa, .inr (4, [.int mc, .ref el, .int 10])), (el, .inl (cy 2, 10, .inr (.inr (.inr (.inr g))))), (p0, .inr (17, f0)), (p1, .inr (17, f1)), (p2, .inr (17, f2)), (p3, .inr (17, f3)), (p4, .inr (17, f4)), (p5, .inr (17, f5)), (p6, .inr (17, f6)), (p7, .inr (17, f7)), (p8, .inr (17, f8)), (p9, .inr (17, f9))]) [0, 1, 2, 3, 4, 5, 6, 7, 8, 9, 10, 11] (by decide) rfl
  have hFc := va_free (wc := [(pa, .inr (4, [.int mc, .ref el, .int 10])), (el, .inl (cy 2, 10, .inr (.inr (.inr (.inr g))))), (p0, .inr (17, f0)), (p1, .inr (17, f1)), (p2, .inr (17, f2)), (p3, .inr (17, f3)), (p4, .inr (17, f4)), (p5, .inr (17, f5)), (p6, .inr (17, f6)), (p7, .inr (17, f7)), (p8, .inr (17, f8)), (p9, .inr (17, f9))]) hD hS hA [0, 1, 2, 3, 4, 5, 6, 7, 8, 9, 10, 11] rfl
  refine va_callr (va_runV (As := [.int 11]) (rest := []) ⟨hx, hb, hml, hown, hts⟩ (c_AL_grow1_10 l hst D cy ed s.heap.size pa el mc g p0 p1 p2 p3 p4 p5 p6 p7 p8 p9 f0 f1 f2 f3 f4 f5 f6 f7 f8 f9 hg0 hg1 hg2 hg3 hg4 hg5 hg6 hg7 hg8 hg9) (cwV 1 hts (zx_GV mm_784 mm_786 mm_7 mm_77 mm_787) rfl rfl rfl (by decide +kernel) ⟨(Nat.le_of_ble_eq_true rfl), (Nat.le_of_ble_eq_true rfl)⟩) ⟨zx_blind, va_recv hK hPc (ci := 4) (q0 := 0) rfl rfl, zx_give hPc hK hDc hS hFc hZ hN⟩ rfl rfl hl.1 rfl (lv_room (Nat.le_of_ble_eq_true rfl)) dJx4a65c_grow_d5877_7 ⟨(Nat.le_of_ble_eq_true rfl), (Nat.le_of_ble_eq_true rfl)⟩) hS (fun q _ h => hFc q h) hFc (fun u ra9 t H1 locs ht hvm hw hB hz1 hk1 hS => ?_)
  obtain ⟨g2_191, rfl⟩ : ∃ z9, z9 = u := ⟨_, rfl⟩
  obtain ⟨a_192, rfl⟩ : ∃ z9, z9 = ra9 := ⟨_, rfl⟩
  have h_193 := hw
  obtain ⟨hP, hD⟩ := zx_join (wr := []) (w1 := [(pa, .inr (4, [.int mc, .ref a_192, .int 10])), (a_192, .inl (cy 2, 15, .inr (.inr (.inr (.inr g2_191))))), (p0, .inr (17, f0)), (p1, .inr (17, f1)), (p2, .inr (17, f2)), (p3, .inr (17, f3)), (p4, .inr (17, f4)), (p5, .inr (17, f5)), (p6, .inr (17, f6)), (p7, .inr (17, f7)), (p8, .inr (17, f8)), (p9, .inr (17, f9))]) [0, 1, 2, 3, 4, 5, 6, 7, 8, 9, 10, 11] [] rfl rfl (by decide) (by decide) hP hD hk1 hFc hB ht
  generalize H1 = H at hP hS ⊢
  have hP : va_P D vwCl [(pa, .inr (4, [.int mc, .ref a_192, .int 10])), (a_192, .inl (cy 2, 15, .inr (.inr (.inr (.inr g2_191))))), (p0, .inr (17, f0)), (p1, .inr (17, f1)), (p2, .inr (17, f2)), (p3, .inr (17, f3)), (p4, .inr (17, f4)), (p5, .inr (17, f5)), (p6, .inr (17, f6)), (p7, .inr (17, f7)), (p8, .inr (17, f8)), (p9, .inr (17, f9))] H := hP
  have hD : va_D A [(pa, .inr (4, [.int mc, .ref a_192, .int 10])), (a_192, .inl (cy 2, 15, .inr (.inr (.inr (.inr g2_191))))), (p0, .inr (17, f0)), (p1, .inr (17, f1)), (p2, .inr (17, f2)), (p3, .inr (17, f3)), (p4, .inr (17, f4)), (p5, .inr (17, f5)), (p6, .inr (17, f6)), (p7, .inr (17, f7)), (p8, .inr (17, f8)), (p9, .inr (17, f9))] := hD
  refine W.widen (k := 1) (n := 15) (Nat.le_of_ble_eq_true rfl) (Nat.le_of_ble_eq_true rfl) ?_
  have hP9 := hP.sub (ws' := [(pa, .inr (4, [.int mc, .ref a_192, .int 10])), (a_192, .inl (cy 2, 15, .inr (.inr (.inr (.inr g2_191))))), (p0, .inr (17, f0)), (p1, .inr (17, f1)), (p2, .inr (17, f2)), (p3, .inr (17, f3)), (p4, .inr (17, f4)), (p5, .inr (17, f5)), (p6, .inr (17, f6)), (p7, .inr (17, f7)), (p8, .inr (17, f8)), (p9, .inr (17, f9))]) [0, 1, 2, 3, 4, 5, 6, 7, 8, 9, 10, 11] rfl
  have hD9 := hD.sub (ws' := [(pa, .inr (4, [.int mc, .ref a_192, .int 10])), (a_192, .inl (cy 2, 15, .inr (.inr (.inr (.inr g2_191))))), (p0, .inr (17, f0)), (p1, .inr (17, f1)), (p2, .inr (17, f2)), (p3, .inr (17, f3)), (p4, .inr (17, f4)), (p5, .inr (17, f5)), (p6, .inr (17, f6)), (p7, .inr (17, f7)), (p8, .inr (17, f8)), (p9, .inr (17, f9))]) [0, 1, 2, 3, 4, 5, 6, 7, 8, 9, 10, 11] (by decide) rfl
  exact W.aret (v := .ref a_192) hx hb hr (.inr ⟨_, rfl⟩) (.inr ⟨_, rfl⟩) (fun t ht hW => ⟨⟨g2_191, a_192, rfl, h_193, zx_fin hP9 hD9 hK ht hW⟩, hS.F ht⟩) hS.2.2 dJx4a65c_grow_d5877_10
set_option maxHeartbeats 4000000 in
set_option maxRecDepth 100000 in
theorem c_newLength_15 (l : Launch) (hst : l.stackTraces = false) (D : va_G) (cy : Nat → ClassId) (ed sz : Nat) : Met l yJ8_newLength_cabcc wzJ8_newLength_cabcc ({ frames := 1, cells := 0, slots := 0, locals := 14 }) (zx_Pc D cy ed sz [.int 15, .int 1, .int 7] []) (va_Qi (fun (r9 : Int32) (u9 : Unit) => r9 = 22) (fun (u9 : Unit) (t9 : State) => zx_At D cy (va_A [] sz) [] t9) (va_A [] sz)) 0 0 (va_A [] sz) := by
  refine Met.ofW (cc := cJ8_newLength_cabcc) (maxL := 4) (ret := (some .int)) (by decide) rfl ?_
  intro p e s m args below meth c s₁ B hml hv
  obtain ⟨rfl, hsz, hP, hK, hD0, hZ, hN⟩ := hv
  have hx := B.exec
  have hb := B.bytes
  have hr := B.returns
  have hts := atoms_spec (ws := wzJ8_newLength_cabcc) B.pre
  have hown : s.vm.findClass RJ8 = some m.cls := findClass_of_methodNamed B.named
  have hlocks := B.notSynchronized
  subst hsz
  have hD := hD0.self (sz := s.heap.size)
  generalize hAe : va_A [] s.heap.size = A at hD hZ ⊢
  have hA : ∀ q : Nat, s.heap.size ≤ q → A q := fun q h => by rw [← hAe]; exact Or.inr h
  have hS : va_S A s.heap s.heap [] := va_S.rf
  have hP : va_P D vwCl [] s.heap := hP
  have hl := lv_entry ([.int 15, .int 1, .int 7]) (n := 4) (Nat.le_of_ble_eq_true rfl)
  rw [lg_entry_eq]
  generalize (lg_sl ([.int 15, .int 1, .int 7]) ++ List.replicate (4 - (lg_sl ([.int 15, .int 1, .int 7])).length) Slot.unset).toArray = ls at hl ⊢
  have hl : lv_has ls 4 [(0, .int 15), (1, .int 1), (2, .int 7)] := hl
  refine lv_iload_n hx hb dJ8_newLength_cabcc_0 rfl (lv_at hl 0 rfl) ?_
  refine lv_iload_n hx hb dJ8_newLength_cabcc_1 rfl (lv_at hl 1 rfl) ?_
  refine lv_iload_n hx hb dJ8_newLength_cabcc_2 rfl (lv_at hl 2 rfl) ?_
  refine va_mmax hx hb (hml.trans hl.1.symm) hown (hts (.methodLink RJ8 194 Lib.Math.max.name) (zx_Gc mm_791)) (hts (.static Lib.Math.max.name) (zx_Gc mm_279)) (hts (.initialized "java/lang/Math") (zx_Gc mm_86)) (hts (.code Lib.Math.max.name Lib.Math.max.code 2 (some .int)) (zx_Gc mm_280)) (Nat.le_of_ble_eq_true rfl) (Nat.le_of_ble_eq_true rfl) (Nat.le_of_ble_eq_true rfl) (Nat.le_of_ble_eq_true rfl) dJ8_newLength_cabcc_3 ?_
  refine lv_topi (fun y9 ey9 => ?_)
  obtain rfl : y9 = 7 := by rw [ey9] <;> decide
  refine lv_iadd hx hb dJ8_newLength_cabcc_6 ?_
  refine lv_topi (fun y9 ey9 => ?_)
  obtain rfl : y9 = 22 := by rw [ey9] <;> decide
  refine lv_istore_n (lv' := [(3, .int 22), (0, .int 15), (1, .int 1), (2, .int 7)]) hx hb dJ8_newLength_cabcc_7 rfl hl (by decide) rfl (fun ls hl => ?_)
  refine lv_iconst (v := 0) hx hb dJ8_newLength_cabcc_8 (by decide) ?_
  refine lv_iload_n hx hb dJ8_newLength_cabcc_9 rfl (lv_at hl 0 rfl) ?_
  refine lv_icmp_ge (tgt := 21) hx hb dJ8_newLength_cabcc_10 (by decide) (fun c_194 => absurd c_194 (by decide)) (fun _ => ?_)
  refine lv_iload_n hx hb dJ8_newLength_cabcc_13 rfl (lv_at hl 0 rfl) ?_
  refine lv_ldc (v := 2147483639) hx hb hown (hts (.constant RJ8 200 (2147483639)) (zx_Gc mm_792)) dJ8_newLength_cabcc_14 ?_
  refine lv_icmp_gt (tgt := 21) hx hb dJ8_newLength_cabcc_16 (by decide) (fun c_195 => absurd c_195 (by decide)) (fun _ => ?_)
  refine lv_iload_n hx hb dJ8_newLength_cabcc_19 rfl (lv_at hl 0 rfl) ?_
  have hP9 := hP.sub (ws' := []) [] rfl
  have hD9 := hD.sub (ws' := []) [] (by decide) rfl
  exact W.iret (v := 22) hx hb hr (fun t ht hW => ⟨⟨22, (), rfl, rfl, zx_fin hP9 hD9 hK ht hW⟩, hS.F ht⟩) hS.2.2 dJ8_newLength_cabcc_20
set_option maxHeartbeats 4000000 in
set_option maxRecDepth 100000 in
theorem c_copyOf3_15 (l : Launch) (hst : l.stackTraces = false) (D : va_G) (cy : Nat → ClassId) (ed sz : Nat) (el : Nat) (g : Nat → Option Nat) (p0 : Nat) (p1 : Nat) (p2 : Nat) (p3 : Nat) (p4 : Nat) (p5 : Nat) (p6 : Nat) (p7 : Nat) (p8 : Nat) (p9 : Nat) (p10 : Nat) (p11 : Nat) (p12 : Nat) (p13 : Nat) (p14 : Nat) (f0 : List Value) (f1 : List Value) (f2 : List Value) (f3 : List Value) (f4 : List Value) (f5 : List Value) (f6 : List Value) (f7 : List Value) (f8 : List Value) (f9 : List Value) (f10 : List Value) (f11 : List Value) (f12 : List Value) (f13 : List Value) (f14 : List Value) (hg0 : g 0 = some p0) (hg1 : g 1 = some p1) (hg2 : g 2 = some p2) (hg3 : g 3 = some p3) (hg4 : g 4 = some p4) (hg5 : g 5 = some p5) (hg6 : g 6 = some p6) (hg7 : g 7 = some p7) (hg8 : g 8 = some p8) (hg9 : g 9 = some p9) (hg10 : g 10 = some p10) (hg11 : g 11 = some p11) (hg12 : g 12 = some p12) (hg13 : g 13 = some p13) (hg14 : g 14 = some p14) : Met l yJ7_copyOf_6403c wzJ7_copyOf_6403c ({ frames := 1, cells := 1, slots := 22, locals := 30 }) (zx_Pc D cy ed sz [.ref el, .int 22, .ref (cy 6)] [(el, .inl (cy 2, 15, .inr (.inr (.inr (.inr g))))), (p0, .inr (17, f0)), (p1, .inr (17, f1)), (p2, .inr (17, f2)), (p3, .inr (17, f3)), (p4, .inr (17, f4)), (p5, .inr (17, f5)), (p6, .inr (17, f6)), (p7, .inr (17, f7)), (p8, .inr (17, f8)), (p9, .inr (17, f9)), (p10, .inr (17, f10)), (p11, .inr (17, f11)), (p12, .inr (17, f12)), (p13, .inr (17, f13)), (p14, .inr (17, f14))]) (va_Qr (fun (u9 : Nat → Option Nat) => match u9 with | g2 => ∀ j, j < 15 → g2 j = g j) (fun (u9 : Nat → Option Nat) (ra : Nat) (t9 : State) => match u9 with | g2 => zx_At D cy (va_A [(el, .inl (cy 2, 15, .inr (.inr (.inr (.inr g))))), (p0, .inr (17, f0)), (p1, .inr (17, f1)), (p2, .inr (17, f2)), (p3, .inr (17, f3)), (p4, .inr (17, f4)), (p5, .inr (17, f5)), (p6, .inr (17, f6)), (p7, .inr (17, f7)), (p8, .inr (17, f8)), (p9, .inr (17, f9)), (p10, .inr (17, f10)), (p11, .inr (17, f11)), (p12, .inr (17, f12)), (p13, .inr (17, f13)), (p14, .inr (17, f14))] sz) [(ra, .inl (cy 2, 22, .inr (.inr (.inr (.inr g2))))), (p0, .inr (17, f0)), (p1, .inr (17, f1)), (p2, .inr (17, f2)), (p3, .inr (17, f3)), (p4, .inr (17, f4)), (p5, .inr (17, f5)), (p6, .inr (17, f6)), (p7, .inr (17, f7)), (p8, .inr (17, f8)), (p9, .inr (17, f9)), (p10, .inr (17, f10)), (p11, .inr (17, f11)), (p12, .inr (17, f12)), (p13, .inr (17, f13)), (p14, .inr (17, f14))] t9) (va_A [(el, .inl (cy 2, 15, .inr (.inr (.inr (.inr g))))), (p0, .inr (17, f0)), (p1, .inr (17, f1)), (p2, .inr (17, f2)), (p3, .inr (17, f3)), (p4, .inr (17, f4)), (p5, .inr (17, f5)), (p6, .inr (17, f6)), (p7, .inr (17, f7)), (p8, .inr (17, f8)), (p9, .inr (17, f9)), (p10, .inr (17, f10)), (p11, .inr (17, f11)), (p12, .inr (17, f12)), (p13, .inr (17, f13)), (p14, .inr (17, f14))] sz)) 1 22 (va_A [(el, .inl (cy 2, 15, .inr (.inr (.inr (.inr g))))), (p0, .inr (17, f0)), (p1, .inr (17, f1)), (p2, .inr (17, f2)), (p3, .inr (17, f3)), (p4, .inr (17, f4)), (p5, .inr (17, f5)), (p6, .inr (17, f6)), (p7, .inr (17, f7)), (p8, .inr (17, f8)), (p9, .inr (17, f9)), (p10, .inr (17, f10)), (p11, .inr (17, f11)), (p12, .inr (17, f12)), (p13, .inr (17, f13)), (p14, .inr (17, f14))] sz) := by
  refine Met.ofW (cc := cJ7_copyOf_6403c) (maxL := 4) (ret := (some (.array (.object "java/lang/Object")))) (by decide) rfl ?_
  intro p e s m args below meth c s₁ B hml hv
  obtain ⟨rfl, hsz, hP, hK, hD0, hZ, hN⟩ := hv
  have hx := B.exec
  have hb := B.bytes
  have hr := B.returns
  have hts := atoms_spec (ws := wzJ7_copyOf_6403c) B.pre
  have hown : s.vm.findClass RJ7 = some m.cls := findClass_of_methodNamed B.named
  have hlocks := B.notSynchronized
  subst hsz
  have hD := hD0.self (sz := s.heap.size)
  generalize hAe : va_A [(el, .inl (cy 2, 15, .inr (.inr (.inr (.inr g))))), (p0, .inr (17, f0)), (p1, .inr (17, f1)), (p2, .inr (17, f2)), (p3, .inr (17, f3)), (p4, .inr (17, f4)), (p5, .inr (17, f5)), (p6, .inr (17, f6)), (p7, .inr (17, f7)), (p8, .inr (17, f8)), (p9, .inr (17, f9)), (p10, .inr (17, f10)), (p11, .inr (17, f11)), (p12, .inr (17, f12)), (p13, .inr (17, f13)), (p14, .inr (17, f14))] s.heap.size = A at hD hZ ⊢
  have hA : ∀ q : Nat, s.heap.size ≤ q → A q := fun q h => by rw [← hAe]; exact Or.inr h
  have hS : va_S A s.heap s.heap [] := va_S.rf
  have hP : va_P D vwCl [(el, .inl (cy 2, 15, .inr (.inr (.inr (.inr g))))), (p0, .inr (17, f0)), (p1, .inr (17, f1)), (p2, .inr (17, f2)), (p3, .inr (17, f3)), (p4, .inr (17, f4)), (p5, .inr (17, f5)), (p6, .inr (17, f6)), (p7, .inr (17, f7)), (p8, .inr (17, f8)), (p9, .inr (17, f9)), (p10, .inr (17, f10)), (p11, .inr (17, f11)), (p12, .inr (17, f12)), (p13, .inr (17, f13)), (p14, .inr (17, f14))] s.heap := hP
  have hl := lv_entry ([.ref el, .int 22, .ref (cy 6)]) (n := 4) (Nat.le_of_ble_eq_true rfl)
  rw [lg_entry_eq]
  generalize (lg_sl ([.ref el, .int 22, .ref (cy 6)]) ++ List.replicate (4 - (lg_sl ([.ref el, .int 22, .ref (cy 6)])).length) Slot.unset).toArray = ls at hl ⊢
  have hl : lv_has ls 4 [(0, .ref el), (1, .int 22), (2, .ref (cy 6))] := hl
  refine lv_aload_n hx hb dJ7_copyOf_6403c_0 rfl (lv_at hl 2 rfl) ?_
  refine va_ldcM hx hb hown (hts (.classLink RJ7 110 "[Ljava/lang/Object;") (zx_Gc mm_832)) hN.2.2.2.2.2.2.2.2.1 dJ7_copyOf_6403c_1 ?_
  refine lv_acmp_ne (rx := some (cy 6)) (ry := some (cy 6)) (tgt := 13) hx hb dJ7_copyOf_6403c_3 (by decide) (fun q9 => absurd rfl q9) (fun _ => ?_)
  refine lv_iload_n hx hb dJ7_copyOf_6403c_6 rfl (lv_at hl 1 rfl) ?_
  refine va_newq (C := "java/lang/Object") (N' := 22) hx hb hown (hts (.classLink RJ7 2 "java/lang/Object") (zx_Gc mm_834)) hN.2.2.2.2.2.2.2.1 hK hP hD hS hA (by decide) (by decide) (by decide) (Nat.le_of_ble_eq_true rfl) (Nat.le_of_ble_eq_true rfl) dJ7_copyOf_6403c_7 (fun q_196 cA9 H hK9 hP hD hS => ?_)
  obtain rfl := zx_same (c0 := cy 2) 2 rfl hK9
  have hP : va_P D vwCl [(el, .inl (cy 2, 15, .inr (.inr (.inr (.inr g))))), (p0, .inr (17, f0)), (p1, .inr (17, f1)), (p2, .inr (17, f2)), (p3, .inr (17, f3)), (p4, .inr (17, f4)), (p5, .inr (17, f5)), (p6, .inr (17, f6)), (p7, .inr (17, f7)), (p8, .inr (17, f8)), (p9, .inr (17, f9)), (p10, .inr (17, f10)), (p11, .inr (17, f11)), (p12, .inr (17, f12)), (p13, .inr (17, f13)), (p14, .inr (17, f14)), (q_196, .inl (cy 2, 22, .inr (.inr (.inr (.inr (fun _ => none))))))] H := hP
  have hD : va_D A [(el, .inl (cy 2, 15, .inr (.inr (.inr (.inr g))))), (p0, .inr (17, f0)), (p1, .inr (17, f1)), (p2, .inr (17, f2)), (p3, .inr (17, f3)), (p4, .inr (17, f4)), (p5, .inr (17, f5)), (p6, .inr (17, f6)), (p7, .inr (17, f7)), (p8, .inr (17, f8)), (p9, .inr (17, f9)), (p10, .inr (17, f10)), (p11, .inr (17, f11)), (p12, .inr (17, f12)), (p13, .inr (17, f13)), (p14, .inr (17, f14)), (q_196, .inl (cy 2, 22, .inr (.inr (.inr (.inr (fun _ => none))))))] := hD
  refine W.widen (k := 1) (n := 22) (Nat.le_of_ble_eq_true rfl) (Nat.le_of_ble_eq_true rfl) ?_
  refine lv_goto (tgt := 24) hx hb dJ7_copyOf_6403c_10 (by decide) ?_
  refine lv_astore_n (lv' := [(3, .ref q_196), (0, .ref el), (1, .int 22), (2, .ref (cy 6))]) hx hb dJ7_copyOf_6403c_24 rfl hl (by decide) rfl (fun ls hl => ?_)
  refine lv_aload_n hx hb dJ7_copyOf_6403c_25 rfl (lv_at hl 1 rfl) ?_
  refine lv_iconst (v := 0) hx hb dJ7_copyOf_6403c_26 (by decide) ?_
  refine lv_aload_n hx hb dJ7_copyOf_6403c_27 rfl (lv_at hl 0 rfl) ?_
  refine lv_iconst (v := 0) hx hb dJ7_copyOf_6403c_28 (by decide) ?_
  refine lv_aload_n hx hb dJ7_copyOf_6403c_29 rfl (lv_at hl 1 rfl) ?_
  refine va_alen (v := 15) hx hb hK hP 0 2 rfl rfl (show Int32.ofNat 15 = 15 from by decide) dJ7_copyOf_6403c_30 ?_
  refine lv_iload_n hx hb dJ7_copyOf_6403c_31 rfl (lv_at hl 2 rfl) ?_
  refine va_mmin hx hb (hml.trans hl.1.symm) hown (hts (.methodLink RJ7 304 Lib.Math.min.name) (zx_Gc mm_766)) (hts (.static Lib.Math.min.name) (zx_Gc mm_767)) (hts (.initialized "java/lang/Math") (zx_Gc mm_86)) (hts (.code Lib.Math.min.name Lib.Math.min.code 2 (some .int)) (zx_Gc mm_768)) (Nat.le_of_ble_eq_true rfl) (Nat.le_of_ble_eq_true rfl) (Nat.le_of_ble_eq_true rfl) (Nat.le_of_ble_eq_true rfl) dJ7_copyOf_6403c_32 ?_
  refine lv_topi (fun y9 ey9 => ?_)
  obtain rfl : y9 = 15 := by rw [ey9] <;> decide
  have hel9 : ∀ i9 : Nat, i9 < 15 → ∀ y9 : Nat, g i9 = some y9 → ∃ cellV : Cell, H[y9]? = some cellV ∧ cellV.vm.isStatics = false ∧ s.vm.findClass RX12 = some cellV.cls := by
    intro i9 hi9 y9 hy9
    rcases (show i9 = 0 ∨ i9 = 1 ∨ i9 = 2 ∨ i9 = 3 ∨ i9 = 4 ∨ i9 = 5 ∨ i9 = 6 ∨ i9 = 7 ∨ i9 = 8 ∨ i9 = 9 ∨ i9 = 10 ∨ i9 = 11 ∨ i9 = 12 ∨ i9 = 13 ∨ i9 = 14 by omega) with rfl | rfl | rfl | rfl | rfl | rfl | rfl | rfl | rfl | rfl | rfl | rfl | rfl | rfl | rfl
    · obtain rfl : p0 = y9 := Option.some.inj (hg0.symm.trans hy9)
      exact va_recv hK hP (ci := 17) (q0 := 1) rfl rfl
    · obtain rfl : p1 = y9 := Option.some.inj (hg1.symm.trans hy9)
      exact va_recv hK hP (ci := 17) (q0 := 2) rfl rfl
    · obtain rfl : p2 = y9 := Option.some.inj (hg2.symm.trans hy9)
      exact va_recv hK hP (ci := 17) (q0 := 3) rfl rfl
    · obtain rfl : p3 = y9 := Option.some.inj (hg3.symm.trans hy9)
      exact va_recv hK hP (ci := 17) (q0 := 4) rfl rfl
    · obtain rfl : p4 = y9 := Option.some.inj (hg4.symm.trans hy9)
      exact va_recv hK hP (ci := 17) (q0 := 5) rfl rfl
    · obtain rfl : p5 = y9 := Option.some.inj (hg5.symm.trans hy9)
      exact va_recv hK hP (ci := 17) (q0 := 6) rfl rfl
    · obtain rfl : p6 = y9 := Option.some.inj (hg6.symm.trans hy9)
      exact va_recv hK hP (ci := 17) (q0 := 7) rfl rfl
    · obtain rfl : p7 = y9 := Option.some.inj (hg7.symm.trans hy9)
      exact va_recv hK hP (ci := 17) (q0 := 8) rfl rfl
    · obtain rfl : p8 = y9 := Option.some.inj (hg8.symm.trans hy9)
      exact va_recv hK hP (ci := 17) (q0 := 9) rfl rfl
    · obtain rfl : p9 = y9 := Option.some.inj (hg9.symm.trans hy9)
      exact va_recv hK hP (ci := 17) (q0 := 10) rfl rfl
    · obtain rfl : p10 = y9 := Option.some.inj (hg10.symm.trans hy9)
      exact va_recv hK hP (ci := 17) (q0 := 11) rfl rfl
    · obtain rfl : p11 = y9 := Option.some.inj (hg11.symm.trans hy9)
      exact va_recv hK hP (ci := 17) (q0 := 12) rfl rfl
    · obtain rfl : p12 = y9 := Option.some.inj (hg12.symm.trans hy9)
      exact va_recv hK hP (ci := 17) (q0 := 13) rfl rfl
    · obtain rfl : p13 = y9 := Option.some.inj (hg13.symm.trans hy9)
      exact va_recv hK hP (ci := 17) (q0 := 14) rfl rfl
    · obtain rfl : p14 = y9 := Option.some.inj (hg14.symm.trans hy9)
      exact va_recv hK hP (ci := 17) (q0 := 15) rfl rfl
  refine va_copyq (C := RX12) hx hb (hml.trans hl.1.symm) hown (hts (.methodLink RJ7 150 arraycopyName) (zx_Gc mm_769)) (hts (.native arraycopyName) (zx_Gc mm_771)) (hts (.static arraycopyName) (zx_Gc mm_770)) (hts (.initialized "java/lang/System") (zx_Gc mm_87)) hK hP hD hS 0 16 2 2 rfl rfl rfl rfl (by decide) (by decide) (by decide) (by decide) (by decide) (fun i9 hi9 y9 hy9 => hel9 i9 (by rw [show (15 : Int32).toNatClampNeg = 15 from by decide] at hi9; exact hi9) y9 (by rw [show (0 : Int32).toNatClampNeg = 0 from by decide, Nat.zero_add] at hy9; exact hy9)) (fun comp c9 h8 h9 => by obtain ⟨c1, c2, f1, f2, f3⟩ := Cond.castable_spec (hN.2.2.1 "RefereehallModel$Person" "java/lang/Object" (List.mem_of_getElem? (i := 2467) (by decide +kernel))); cases h9.symm.trans f1; cases h8.symm.trans f2; exact f3) (Nat.le_of_ble_eq_true rfl) (Nat.le_of_ble_eq_true rfl) dJ7_copyOf_6403c_35 (fun H locs hP hD hS => ?_)
  have hP : va_P D vwCl [(el, .inl (cy 2, 15, .inr (.inr (.inr (.inr g))))), (p0, .inr (17, f0)), (p1, .inr (17, f1)), (p2, .inr (17, f2)), (p3, .inr (17, f3)), (p4, .inr (17, f4)), (p5, .inr (17, f5)), (p6, .inr (17, f6)), (p7, .inr (17, f7)), (p8, .inr (17, f8)), (p9, .inr (17, f9)), (p10, .inr (17, f10)), (p11, .inr (17, f11)), (p12, .inr (17, f12)), (p13, .inr (17, f13)), (p14, .inr (17, f14)), (q_196, .inl (cy 2, 22, .inr (.inr (.inr (.inr (va_cpy g (fun _ => none) (0 : Int32).toNatClampNeg (0 : Int32).toNatClampNeg (15 : Int32).toNatClampNeg))))))] H := hP
  have hD : va_D A [(el, .inl (cy 2, 15, .inr (.inr (.inr (.inr g))))), (p0, .inr (17, f0)), (p1, .inr (17, f1)), (p2, .inr (17, f2)), (p3, .inr (17, f3)), (p4, .inr (17, f4)), (p5, .inr (17, f5)), (p6, .inr (17, f6)), (p7, .inr (17, f7)), (p8, .inr (17, f8)), (p9, .inr (17, f9)), (p10, .inr (17, f10)), (p11, .inr (17, f11)), (p12, .inr (17, f12)), (p13, .inr (17, f13)), (p14, .inr (17, f14)), (q_196, .inl (cy 2, 22, .inr (.inr (.inr (.inr (va_cpy g (fun _ => none) (0 : Int32).toNatClampNeg (0 : Int32).toNatClampNeg (15 : Int32).toNatClampNeg))))))] := hD
  refine lv_aload_n hx hb dJ7_copyOf_6403c_38 rfl (lv_at hl 0 rfl) ?_
  have hP9 := hP.sub (ws' := [(q_196, .inl (cy 2, 22, .inr (.inr (.inr (.inr (va_cpy g (fun _ => none) (0 : Int32).toNatClampNeg (0 : Int32).toNatClampNeg (15 : Int32).toNatClampNeg)))))), (p0, .inr (17, f0)), (p1, .inr (17, f1)), (p2, .inr (17, f2)), (p3, .inr (17, f3)), (p4, .inr (17, f4)), (p5, .inr (17, f5)), (p6, .inr (17, f6)), (p7, .inr (17, f7)), (p8, .inr (17, f8)), (p9, .inr (17, f9)), (p10, .inr (17, f10)), (p11, .inr (17, f11)), (p12, .inr (17, f12)), (p13, .inr (17, f13)), (p14, .inr (17, f14))]) [16, 1, 2, 3, 4, 5, 6, 7, 8, 9, 10, 11, 12, 13, 14, 15] rfl
  have hD9 := hD.sub (ws' := [(q_196, .inl (cy 2, 22, .inr (.inr (.inr (.inr (va_cpy g (fun _ => none) (0 : Int32).toNatClampNeg (0 : Int32).toNatClampNeg (15 : Int32).toNatClampNeg)))))), (p0, .inr (17, f0)), (p1, .inr (17, f1)), (p2, .inr (17, f2)), (p3, .inr (17, f3)), (p4, .inr (17, f4)), (p5, .inr (17, f5)), (p6, .inr (17, f6)), (p7, .inr (17, f7)), (p8, .inr (17, f8)), (p9, .inr (17, f9)), (p10, .inr (17, f10)), (p11, .inr (17, f11)), (p12, .inr (17, f12)), (p13, .inr (17, f13)), (p14, .inr (17, f14))]) [16, 1, 2, 3, 4, 5, 6, 7, 8, 9, 10, 11, 12, 13, 14, 15] (by decide) rfl
  exact W.aret (v := .ref q_196) hx hb hr (.inr ⟨_, rfl⟩) (.inr ⟨_, rfl⟩) (fun t ht hW => ⟨⟨(va_cpy g (fun _ => none) (0 : Int32).toNatClampNeg (0 : Int32).toNatClampNeg (15 : Int32).toNatClampNeg), q_196, rfl, (fun j9 hj9 => zx_cpy (by decide) (by decide) (by rw [show (15 : Int32).toNatClampNeg = 15 from by decide]; exact hj9)), zx_fin hP9 hD9 hK ht hW⟩, hS.F ht⟩) hS.2.2 dJ7_copyOf_6403c_39
set_option maxHeartbeats 4000000 in
set_option maxRecDepth 100000 in
theorem c_copyOf2_15 (l : Launch) (hst : l.stackTraces = false) (D : va_G) (cy : Nat → ClassId) (ed sz : Nat) (el : Nat) (g : Nat → Option Nat) (p0 : Nat) (p1 : Nat) (p2 : Nat) (p3 : Nat) (p4 : Nat) (p5 : Nat) (p6 : Nat) (p7 : Nat) (p8 : Nat) (p9 : Nat) (p10 : Nat) (p11 : Nat) (p12 : Nat) (p13 : Nat) (p14 : Nat) (f0 : List Value) (f1 : List Value) (f2 : List Value) (f3 : List Value) (f4 : List Value) (f5 : List Value) (f6 : List Value) (f7 : List Value) (f8 : List Value) (f9 : List Value) (f10 : List Value) (f11 : List Value) (f12 : List Value) (f13 : List Value) (f14 : List Value) (hg0 : g 0 = some p0) (hg1 : g 1 = some p1) (hg2 : g 2 = some p2) (hg3 : g 3 = some p3) (hg4 : g 4 = some p4) (hg5 : g 5 = some p5) (hg6 : g 6 = some p6) (hg7 : g 7 = some p7) (hg8 : g 8 = some p8) (hg9 : g 9 = some p9) (hg10 : g 10 = some p10) (hg11 : g 11 = some p11) (hg12 : g 12 = some p12) (hg13 : g 13 = some p13) (hg14 : g 14 = some p14) : Met l yJ7_copyOf_1904c wzJ7_copyOf_1904c ({ frames := 2, cells := 1, slots := 22, locals := 53 }) (zx_Pc D cy ed sz [.ref el, .int 22] [(el, .inl (cy 2, 15, .inr (.inr (.inr (.inr g))))), (p0, .inr (17, f0)), (p1, .inr (17, f1)), (p2, .inr (17, f2)), (p3, .inr (17, f3)), (p4, .inr (17, f4)), (p5, .inr (17, f5)), (p6, .inr (17, f6)), (p7, .inr (17, f7)), (p8, .inr (17, f8)), (p9, .inr (17, f9)), (p10, .inr (17, f10)), (p11, .inr (17, f11)), (p12, .inr (17, f12)), (p13, .inr (17, f13)), (p14, .inr (17, f14))]) (va_Qr (fun (u9 : Nat → Option Nat) => match u9 with | g2 => ∀ j, j < 15 → g2 j = g j) (fun (u9 : Nat → Option Nat) (ra : Nat) (t9 : State) => match u9 with | g2 => zx_At D cy (va_A [(el, .inl (cy 2, 15, .inr (.inr (.inr (.inr g))))), (p0, .inr (17, f0)), (p1, .inr (17, f1)), (p2, .inr (17, f2)), (p3, .inr (17, f3)), (p4, .inr (17, f4)), (p5, .inr (17, f5)), (p6, .inr (17, f6)), (p7, .inr (17, f7)), (p8, .inr (17, f8)), (p9, .inr (17, f9)), (p10, .inr (17, f10)), (p11, .inr (17, f11)), (p12, .inr (17, f12)), (p13, .inr (17, f13)), (p14, .inr (17, f14))] sz) [(ra, .inl (cy 2, 22, .inr (.inr (.inr (.inr g2))))), (p0, .inr (17, f0)), (p1, .inr (17, f1)), (p2, .inr (17, f2)), (p3, .inr (17, f3)), (p4, .inr (17, f4)), (p5, .inr (17, f5)), (p6, .inr (17, f6)), (p7, .inr (17, f7)), (p8, .inr (17, f8)), (p9, .inr (17, f9)), (p10, .inr (17, f10)), (p11, .inr (17, f11)), (p12, .inr (17, f12)), (p13, .inr (17, f13)), (p14, .inr (17, f14))] t9) (va_A [(el, .inl (cy 2, 15, .inr (.inr (.inr (.inr g))))), (p0, .inr (17, f0)), (p1, .inr (17, f1)), (p2, .inr (17, f2)), (p3, .inr (17, f3)), (p4, .inr (17, f4)), (p5, .inr (17, f5)), (p6, .inr (17, f6)), (p7, .inr (17, f7)), (p8, .inr (17, f8)), (p9, .inr (17, f9)), (p10, .inr (17, f10)), (p11, .inr (17, f11)), (p12, .inr (17, f12)), (p13, .inr (17, f13)), (p14, .inr (17, f14))] sz)) 1 22 (va_A [(el, .inl (cy 2, 15, .inr (.inr (.inr (.inr g))))), (p0, .inr (17, f0)), (p1, .inr (17, f1)), (p2, .inr (17, f2)), (p3, .inr (17, f3)), (p4, .inr (17, f4)), (p5, .inr (17, f5)), (p6, .inr (17, f6)), (p7, .inr (17, f7)), (p8, .inr (17, f8)), (p9, .inr (17, f9)), (p10, .inr (17, f10)), (p11, .inr (17, f11)), (p12, .inr (17, f12)), (p13, .inr (17, f13)), (p14, .inr (17, f14))] sz) := by
  refine Met.ofW (cc := cJ7_copyOf_1904c) (maxL := 2) (ret := (some (.array (.object "java/lang/Object")))) (by decide) rfl ?_
  intro p e s m args below meth c s₁ B hml hv
  obtain ⟨rfl, hsz, hP, hK, hD0, hZ, hN⟩ := hv
  have hx := B.exec
  have hb := B.bytes
  have hr := B.returns
  have hts := atoms_spec (ws := wzJ7_copyOf_1904c) B.pre
  have hown : s.vm.findClass RJ7 = some m.cls := findClass_of_methodNamed B.named
  have hlocks := B.notSynchronized
  subst hsz
  have hD := hD0.self (sz := s.heap.size)
  generalize hAe : va_A [(el, .inl (cy 2, 15, .inr (.inr (.inr (.inr g))))), (p0, .inr (17, f0)), (p1, .inr (17, f1)), (p2, .inr (17, f2)), (p3, .inr (17, f3)), (p4, .inr (17, f4)), (p5, .inr (17, f5)), (p6, .inr (17, f6)), (p7, .inr (17, f7)), (p8, .inr (17, f8)), (p9, .inr (17, f9)), (p10, .inr (17, f10)), (p11, .inr (17, f11)), (p12, .inr (17, f12)), (p13, .inr (17, f13)), (p14, .inr (17, f14))] s.heap.size = A at hD hZ ⊢
  have hA : ∀ q : Nat, s.heap.size ≤ q → A q := fun q h => by rw [← hAe]; exact Or.inr h
  have hS : va_S A s.heap s.heap [] := va_S.rf
  have hP : va_P D vwCl [(el, .inl (cy 2, 15, .inr (.inr (.inr (.inr g))))), (p0, .inr (17, f0)), (p1, .inr (17, f1)), (p2, .inr (17, f2)), (p3, .inr (17, f3)), (p4, .inr (17, f4)), (p5, .inr (17, f5)), (p6, .inr (17, f6)), (p7, .inr (17, f7)), (p8, .inr (17, f8)), (p9, .inr (17, f9)), (p10, .inr (17, f10)), (p11, .inr (17, f11)), (p12, .inr (17, f12)), (p13, .inr (17, f13)), (p14, .inr (17, f14))] s.heap := hP
  have hl := lv_entry ([.ref el, .int 22]) (n := 2) (Nat.le_of_ble_eq_true rfl)
  rw [lg_entry_eq]
  generalize (lg_sl ([.ref el, .int 22]) ++ List.replicate (2 - (lg_sl ([.ref el, .int 22])).length) Slot.unset).toArray = ls at hl ⊢
  have hl : lv_has ls 2 [(0, .ref el), (1, .int 22)] := hl
  refine lv_aload_n hx hb dJ7_copyOf_1904c_0 rfl (lv_at hl 0 rfl) ?_
  refine lv_iload_n hx hb dJ7_copyOf_1904c_1 rfl (lv_at hl 1 rfl) ?_
  refine lv_aload_n hx hb dJ7_copyOf_1904c_2 rfl (lv_at hl 0 rfl) ?_
  refine va_getC (C := "[Ljava/lang/Object;") hx hb (hml.trans hl.1.symm) hown (hts (.methodLink RJ7 86 ⟨"java/lang/Object", "getClass", "()Ljava/lang/Class;"⟩) (zx_Gc mm_799)) (va_Dc.use hN.2.2.2.2.2.2.2.2.2) (hts (.selects "[Ljava/lang/Object;" ⟨"java/lang/Object", "getClass", "()Ljava/lang/Class;"⟩ ⟨"java/lang/Object", "getClass", "()Ljava/lang/Class;"⟩) (zx_Gc mm_2489)) (hts (.instanceMethod ⟨"java/lang/Object", "getClass", "()Ljava/lang/Class;"⟩) (zx_Gc mm_800)) (hts (.native ⟨"java/lang/Object", "getClass", "()Ljava/lang/Class;"⟩) (zx_Gc mm_828)) hN.2.2.2.2.2.2.2.2.1 (zx_arrc hK hP (q0 := 0) 2 rfl rfl) (Nat.le_of_ble_eq_true rfl) (Nat.le_of_ble_eq_true rfl) dJ7_copyOf_1904c_3 ?_
  have hPc := hP.sub (ws' := [(el, .inl (cy 2, 15, .inr (.inr (.inr (.inr g))))), (p0, .inr (17, f0)), (p1, .inr (17, f1)), (p2, .inr (17, f2)), (p3, .inr (17, f3)), (p4, .inr (17, f4)), (p5, .inr (17, f5)), (p6, .inr (17, f6)), (p7, .inr (17, f7)), (p8, .inr (17, f8)), (p9, .inr (17, f9)), (p10, .inr (17, f10)), (p11, .inr (17, f11)), (p12, .inr (17, f12)), (p13, .inr (17, f13)), (p14, .inr (17, f14))]) [0, 1, 2, 3, 4, 5, 6, 7, 8, 9, 10, 11, 12, 13, 14, 15] rfl
  have hDc := hD.sub (ws' := [(el, .inl (cy 2, 15, .inr (.inr (.inr (.inr g))))), (p0, .inr (17, f0)), (p1, .inr (17, f1)), (p2, .inr (17, f2)), (p3, .inr (17, f3)), (p4, .inr (17, f4)), (p5, .inr (17, f5)), (p6, .inr (17, f6)), (p7, .inr (17, f7)), (p8, .inr (17, f8)), (p9, .inr (17, f9)), (p10, .inr (17, f10)), (p11, .inr (17, f11)), (p12, .inr (17, f12)), (p13, .inr (17, f13)), (p14, .inr (17, f14))]) [0, 1, 2, 3, 4, 5, 6, 7, 8, 9, 10, 11, 12, 13, 14, 15] (by decide) rfl
  have hFc := va_free (wc := [(el, .inl (cy 2, 15, .inr (.inr (.inr (.inr g))))), (p0, .inr (17, f0)), (p1, .inr (17, f1)), (p2, .inr (17, f2)), (p3, .inr (17, f3)), (p4, .inr (17, f4)), (p5, .inr (17, f5)), (p6, .inr (17, f6)), (p7, .inr (17, f7)), (p8, .inr (17, f8)), (p9, .inr (17, f9)), (p10, .inr (17, f10)), (p11, .inr (17, f11)), (p12, .inr (17, f12)), (p13, .inr (17, f13)), (p14, .inr (17, f14))]) hD hS hA [0, 1, 2, 3, 4, 5, 6, 7, 8, 9, 10, 11, 12, 13, 14, 15] rfl
  refine va_callr (va_runS (As := [.ref el, .int 22, .ref (cy 6)]) (rest := []) ⟨hx, hb, hml, hown, hts⟩ (c_copyOf3_15 l hst D cy ed s.heap.size el g p0 p1 p2 p3 p4 p5 p6 p7 p8 p9 p10 p11 p12 p13 p14 f0 f1 f2 f3 f4 f5 f6 f7 f8 f9 f10 f11 f12 f13 f14 hg0 hg1 hg2 hg3 hg4 hg5 hg6 hg7 hg8 hg9 hg10 hg11 hg12 hg13 hg14) (va_cwS 3 hts (zx_GS mm_829 mm_830 mm_73 mm_831) rfl rfl rfl (by decide +kernel) ⟨(Nat.le_of_ble_eq_true rfl), (Nat.le_of_ble_eq_true rfl)⟩) ⟨zx_blind, zx_give hPc hK hDc hS hFc hZ hN⟩ rfl rfl hl.1 rfl (lv_room (Nat.le_of_ble_eq_true rfl)) dJ7_copyOf_1904c_6 ⟨(Nat.le_of_ble_eq_true rfl), (Nat.le_of_ble_eq_true rfl)⟩) hS (fun q _ h => hFc q h) hFc (fun u ra9 t H1 locs ht hvm hw hB hz1 hk1 hS => ?_)
  obtain ⟨g2_197, rfl⟩ : ∃ z9, z9 = u := ⟨_, rfl⟩
  obtain ⟨a_198, rfl⟩ : ∃ z9, z9 = ra9 := ⟨_, rfl⟩
  have h_199 := hw
  obtain ⟨hP, hD⟩ := zx_join (wr := []) (w1 := [(a_198, .inl (cy 2, 22, .inr (.inr (.inr (.inr g2_197))))), (p0, .inr (17, f0)), (p1, .inr (17, f1)), (p2, .inr (17, f2)), (p3, .inr (17, f3)), (p4, .inr (17, f4)), (p5, .inr (17, f5)), (p6, .inr (17, f6)), (p7, .inr (17, f7)), (p8, .inr (17, f8)), (p9, .inr (17, f9)), (p10, .inr (17, f10)), (p11, .inr (17, f11)), (p12, .inr (17, f12)), (p13, .inr (17, f13)), (p14, .inr (17, f14))]) [0, 1, 2, 3, 4, 5, 6, 7, 8, 9, 10, 11, 12, 13, 14, 15] [] rfl rfl (by decide) (by decide) hP hD hk1 hFc hB ht
  generalize H1 = H at hP hS ⊢
  have hP : va_P D vwCl [(a_198, .inl (cy 2, 22, .inr (.inr (.inr (.inr g2_197))))), (p0, .inr (17, f0)), (p1, .inr (17, f1)), (p2, .inr (17, f2)), (p3, .inr (17, f3)), (p4, .inr (17, f4)), (p5, .inr (17, f5)), (p6, .inr (17, f6)), (p7, .inr (17, f7)), (p8, .inr (17, f8)), (p9, .inr (17, f9)), (p10, .inr (17, f10)), (p11, .inr (17, f11)), (p12, .inr (17, f12)), (p13, .inr (17, f13)), (p14, .inr (17, f14))] H := hP
  have hD : va_D A [(a_198, .inl (cy 2, 22, .inr (.inr (.inr (.inr g2_197))))), (p0, .inr (17, f0)), (p1, .inr (17, f1)), (p2, .inr (17, f2)), (p3, .inr (17, f3)), (p4, .inr (17, f4)), (p5, .inr (17, f5)), (p6, .inr (17, f6)), (p7, .inr (17, f7)), (p8, .inr (17, f8)), (p9, .inr (17, f9)), (p10, .inr (17, f10)), (p11, .inr (17, f11)), (p12, .inr (17, f12)), (p13, .inr (17, f13)), (p14, .inr (17, f14))] := hD
  refine W.widen (k := 1) (n := 22) (Nat.le_of_ble_eq_true rfl) (Nat.le_of_ble_eq_true rfl) ?_
  have hP9 := hP.sub (ws' := [(a_198, .inl (cy 2, 22, .inr (.inr (.inr (.inr g2_197))))), (p0, .inr (17, f0)), (p1, .inr (17, f1)), (p2, .inr (17, f2)), (p3, .inr (17, f3)), (p4, .inr (17, f4)), (p5, .inr (17, f5)), (p6, .inr (17, f6)), (p7, .inr (17, f7)), (p8, .inr (17, f8)), (p9, .inr (17, f9)), (p10, .inr (17, f10)), (p11, .inr (17, f11)), (p12, .inr (17, f12)), (p13, .inr (17, f13)), (p14, .inr (17, f14))]) [0, 1, 2, 3, 4, 5, 6, 7, 8, 9, 10, 11, 12, 13, 14, 15] rfl
  have hD9 := hD.sub (ws' := [(a_198, .inl (cy 2, 22, .inr (.inr (.inr (.inr g2_197))))), (p0, .inr (17, f0)), (p1, .inr (17, f1)), (p2, .inr (17, f2)), (p3, .inr (17, f3)), (p4, .inr (17, f4)), (p5, .inr (17, f5)), (p6, .inr (17, f6)), (p7, .inr (17, f7)), (p8, .inr (17, f8)), (p9, .inr (17, f9)), (p10, .inr (17, f10)), (p11, .inr (17, f11)), (p12, .inr (17, f12)), (p13, .inr (17, f13)), (p14, .inr (17, f14))]) [0, 1, 2, 3, 4, 5, 6, 7, 8, 9, 10, 11, 12, 13, 14, 15] (by decide) rfl
  exact W.aret (v := .ref a_198) hx hb hr (.inr ⟨_, rfl⟩) (.inr ⟨_, rfl⟩) (fun t ht hW => ⟨⟨g2_197, a_198, rfl, h_199, zx_fin hP9 hD9 hK ht hW⟩, hS.F ht⟩) hS.2.2 dJ7_copyOf_1904c_9
set_option maxHeartbeats 4000000 in
set_option maxRecDepth 100000 in
theorem c_AL_grow1_15 (l : Launch) (hst : l.stackTraces = false) (D : va_G) (cy : Nat → ClassId) (ed sz : Nat) (pa : Nat) (el : Nat) (mc : Int32) (g : Nat → Option Nat) (p0 : Nat) (p1 : Nat) (p2 : Nat) (p3 : Nat) (p4 : Nat) (p5 : Nat) (p6 : Nat) (p7 : Nat) (p8 : Nat) (p9 : Nat) (p10 : Nat) (p11 : Nat) (p12 : Nat) (p13 : Nat) (p14 : Nat) (f0 : List Value) (f1 : List Value) (f2 : List Value) (f3 : List Value) (f4 : List Value) (f5 : List Value) (f6 : List Value) (f7 : List Value) (f8 : List Value) (f9 : List Value) (f10 : List Value) (f11 : List Value) (f12 : List Value) (f13 : List Value) (f14 : List Value) (hg0 : g 0 = some p0) (hg1 : g 1 = some p1) (hg2 : g 2 = some p2) (hg3 : g 3 = some p3) (hg4 : g 4 = some p4) (hg5 : g 5 = some p5) (hg6 : g 6 = some p6) (hg7 : g 7 = some p7) (hg8 : g 8 = some p8) (hg9 : g 9 = some p9) (hg10 : g 10 = some p10) (hg11 : g 11 = some p11) (hg12 : g 12 = some p12) (hg13 : g 13 = some p13) (hg14 : g 14 = some p14) : Met l yJx4a65c_grow_92f84 wzJx4a65c_grow_92f84 ({ frames := 3, cells := 1, slots := 22, locals := 74 }) (zx_Pc D cy ed sz [.ref pa, .int 16] [(pa, .inr (4, [.int mc, .ref el, .int 15])), (el, .inl (cy 2, 15, .inr (.inr (.inr (.inr g))))), (p0, .inr (17, f0)), (p1, .inr (17, f1)), (p2, .inr (17, f2)), (p3, .inr (17, f3)), (p4, .inr (17, f4)), (p5, .inr (17, f5)), (p6, .inr (17, f6)), (p7, .inr (17, f7)), (p8, .inr (17, f8)), (p9, .inr (17, f9)), (p10, .inr (17, f10)), (p11, .inr (17, f11)), (p12, .inr (17, f12)), (p13, .inr (17, f13)), (p14, .inr (17, f14))]) (va_Qr (fun (u9 : Nat → Option Nat) => match u9 with | g2 => ∀ j, j < 15 → g2 j = g j) (fun (u9 : Nat → Option Nat) (ra : Nat) (t9 : State) => match u9 with | g2 => zx_At D cy (va_A [(pa, .inr (4, [.int mc, .ref el, .int 15])), (el, .inl (cy 2, 15, .inr (.inr (.inr (.inr g))))), (p0, .inr (17, f0)), (p1, .inr (17, f1)), (p2, .inr (17, f2)), (p3, .inr (17, f3)), (p4, .inr (17, f4)), (p5, .inr (17, f5)), (p6, .inr (17, f6)), (p7, .inr (17, f7)), (p8, .inr (17, f8)), (p9, .inr (17, f9)), (p10, .inr (17, f10)), (p11, .inr (17, f11)), (p12, .inr (17, f12)), (p13, .inr (17, f13)), (p14, .inr (17, f14))] sz) [(pa, .inr (4, [.int mc, .ref ra, .int 15])), (ra, .inl (cy 2, 22, .inr (.inr (.inr (.inr g2))))), (p0, .inr (17, f0)), (p1, .inr (17, f1)), (p2, .inr (17, f2)), (p3, .inr (17, f3)), (p4, .inr (17, f4)), (p5, .inr (17, f5)), (p6, .inr (17, f6)), (p7, .inr (17, f7)), (p8, .inr (17, f8)), (p9, .inr (17, f9)), (p10, .inr (17, f10)), (p11, .inr (17, f11)), (p12, .inr (17, f12)), (p13, .inr (17, f13)), (p14, .inr (17, f14))] t9) (va_A [(pa, .inr (4, [.int mc, .ref el, .int 15])), (el, .inl (cy 2, 15, .inr (.inr (.inr (.inr g))))), (p0, .inr (17, f0)), (p1, .inr (17, f1)), (p2, .inr (17, f2)), (p3, .inr (17, f3)), (p4, .inr (17, f4)), (p5, .inr (17, f5)), (p6, .inr (17, f6)), (p7, .inr (17, f7)), (p8, .inr (17, f8)), (p9, .inr (17, f9)), (p10, .inr (17, f10)), (p11, .inr (17, f11)), (p12, .inr (17, f12)), (p13, .inr (17, f13)), (p14, .inr (17, f14))] sz)) 1 22 (va_A [(pa, .inr (4, [.int mc, .ref el, .int 15])), (el, .inl (cy 2, 15, .inr (.inr (.inr (.inr g))))), (p0, .inr (17, f0)), (p1, .inr (17, f1)), (p2, .inr (17, f2)), (p3, .inr (17, f3)), (p4, .inr (17, f4)), (p5, .inr (17, f5)), (p6, .inr (17, f6)), (p7, .inr (17, f7)), (p8, .inr (17, f8)), (p9, .inr (17, f9)), (p10, .inr (17, f10)), (p11, .inr (17, f11)), (p12, .inr (17, f12)), (p13, .inr (17, f13)), (p14, .inr (17, f14))] sz) := by
  refine Met.ofW (cc := cJx4a65c_grow_92f84) (maxL := 4) (ret := (some (.array (.object "java/lang/Object")))) (by decide) rfl ?_
  intro p e s m args below meth c s₁ B hml hv
  obtain ⟨rfl, hsz, hP, hK, hD0, hZ, hN⟩ := hv
  have hx := B.exec
  have hb := B.bytes
  have hr := B.returns
  have hts := atoms_spec (ws := wzJx4a65c_grow_92f84) B.pre
  have hown : s.vm.findClass RJx4a65c = some m.cls := findClass_of_methodNamed B.named
  have hlocks := B.notSynchronized
  subst hsz
  have hD := hD0.self (sz := s.heap.size)
  generalize hAe : va_A [(pa, .inr (4, [.int mc, .ref el, .int 15])), (el, .inl (cy 2, 15, .inr (.inr (.inr (.inr g))))), (p0, .inr (17, f0)), (p1, .inr (17, f1)), (p2, .inr (17, f2)), (p3, .inr (17, f3)), (p4, .inr (17, f4)), (p5, .inr (17, f5)), (p6, .inr (17, f6)), (p7, .inr (17, f7)), (p8, .inr (17, f8)), (p9, .inr (17, f9)), (p10, .inr (17, f10)), (p11, .inr (17, f11)), (p12, .inr (17, f12)), (p13, .inr (17, f13)), (p14, .inr (17, f14))] s.heap.size = A at hD hZ ⊢
  have hA : ∀ q : Nat, s.heap.size ≤ q → A q := fun q h => by rw [← hAe]; exact Or.inr h
  have hS : va_S A s.heap s.heap [] := va_S.rf
  have hP : va_P D vwCl [(pa, .inr (4, [.int mc, .ref el, .int 15])), (el, .inl (cy 2, 15, .inr (.inr (.inr (.inr g))))), (p0, .inr (17, f0)), (p1, .inr (17, f1)), (p2, .inr (17, f2)), (p3, .inr (17, f3)), (p4, .inr (17, f4)), (p5, .inr (17, f5)), (p6, .inr (17, f6)), (p7, .inr (17, f7)), (p8, .inr (17, f8)), (p9, .inr (17, f9)), (p10, .inr (17, f10)), (p11, .inr (17, f11)), (p12, .inr (17, f12)), (p13, .inr (17, f13)), (p14, .inr (17, f14))] s.heap := hP
  have hl := lv_entry ([.ref pa, .int 16]) (n := 4) (Nat.le_of_ble_eq_true rfl)
  rw [lg_entry_eq]
  generalize (lg_sl ([.ref pa, .int 16]) ++ List.replicate (4 - (lg_sl ([.ref pa, .int 16])).length) Slot.unset).toArray = ls at hl ⊢
  have hl : lv_has ls 4 [(0, .ref pa), (1, .int 16)] := hl
  refine lv_aload_n hx hb dJx4a65c_grow_92f84_0 rfl (lv_at hl 0 rfl) ?_
  refine va_get (D := D) (ci := 4) (v := .ref el) (C := RJx4a65c) (T := TJx4a65c) (N := 3) hx hb hts (fun w h => zx_Gc (uz_Jx4a65c w h)) hown hK hP 0 rfl rfl 1 (by decide) (hts (.fieldLink RJx4a65c 9 "java/util/ArrayList" "elementData" "[Ljava/lang/Object;") (zx_Gc mm_213)) (fun _ h9 => h9) rfl dJx4a65c_grow_92f84_1 ?_
  refine va_alen (v := 15) hx hb hK hP 1 2 rfl rfl (show Int32.ofNat 15 = 15 from by decide) dJx4a65c_grow_92f84_4 ?_
  refine lv_istore_n (lv' := [(2, .int 15), (0, .ref pa), (1, .int 16)]) hx hb dJx4a65c_grow_92f84_5 rfl hl (by decide) rfl (fun ls hl => ?_)
  refine lv_iload_n hx hb dJx4a65c_grow_92f84_6 rfl (lv_at hl 0 rfl) ?_
  refine lv_if_gt (tgt := 20) hx hb dJx4a65c_grow_92f84_7 (by decide) (fun _ => ?_) (fun c_200 => absurd (by decide) c_200)
  refine lv_iload_n hx hb dJx4a65c_grow_92f84_20 rfl (lv_at hl 0 rfl) ?_
  refine lv_iload_n hx hb dJx4a65c_grow_92f84_21 rfl (lv_at hl 2 rfl) ?_
  refine lv_iload_n hx hb dJx4a65c_grow_92f84_22 rfl (lv_at hl 0 rfl) ?_
  refine lv_isub hx hb dJx4a65c_grow_92f84_23 ?_
  refine lv_topi (fun y9 ey9 => ?_)
  obtain rfl : y9 = 1 := by rw [ey9] <;> decide
  refine lv_iload_n hx hb dJx4a65c_grow_92f84_24 rfl (lv_at hl 0 rfl) ?_
  refine lv_iconst (v := 1) hx hb dJx4a65c_grow_92f84_25 (by decide) ?_
  refine lv_ishr hx hb dJx4a65c_grow_92f84_26 ?_
  refine lv_topi (fun y9 ey9 => ?_)
  obtain rfl : y9 = 7 := by rw [ey9] <;> decide
  have hPc := hP.sub (ws' := []) [] rfl
  have hDc := hD.sub (ws' := []) [] (by decide) rfl
  have hFc := va_free (wc := []) hD hS hA [] rfl
  refine va_calli (va_runS (As := [.int 15, .int 1, .int 7]) (rest := []) ⟨hx, hb, hml, hown, hts⟩ (c_newLength_15 l hst D cy ed s.heap.size ) (va_cwS 3 hts (zx_GS mm_788 mm_789 mm_85 mm_790) rfl rfl rfl (by decide +kernel) ⟨(Nat.le_of_ble_eq_true rfl), (Nat.le_of_ble_eq_true rfl)⟩) ⟨zx_blind, zx_give hPc hK hDc hS hFc hZ hN⟩ rfl rfl hl.1 rfl (lv_room (Nat.le_of_ble_eq_true rfl)) dJx4a65c_grow_92f84_27 ⟨(Nat.le_of_ble_eq_true rfl), (Nat.le_of_ble_eq_true rfl)⟩) hS (fun q _ h => hFc q h) hFc (fun r9 u t H1 locs ht hvm hw hB hz1 hk1 hS => ?_)
  obtain rfl : r9 = 22 := hw
  obtain ⟨hP, hD⟩ := zx_join (wr := [(pa, .inr (4, [.int mc, .ref el, .int 15])), (el, .inl (cy 2, 15, .inr (.inr (.inr (.inr g))))), (p0, .inr (17, f0)), (p1, .inr (17, f1)), (p2, .inr (17, f2)), (p3, .inr (17, f3)), (p4, .inr (17, f4)), (p5, .inr (17, f5)), (p6, .inr (17, f6)), (p7, .inr (17, f7)), (p8, .inr (17, f8)), (p9, .inr (17, f9)), (p10, .inr (17, f10)), (p11, .inr (17, f11)), (p12, .inr (17, f12)), (p13, .inr (17, f13)), (p14, .inr (17, f14))]) (w1 := []) [] [0, 1, 2, 3, 4, 5, 6, 7, 8, 9, 10, 11, 12, 13, 14, 15, 16] rfl rfl (by decide) (by decide) hP hD hk1 hFc hB ht
  generalize H1 = H at hP hS ⊢
  have hP : va_P D vwCl [(pa, .inr (4, [.int mc, .ref el, .int 15])), (el, .inl (cy 2, 15, .inr (.inr (.inr (.inr g))))), (p0, .inr (17, f0)), (p1, .inr (17, f1)), (p2, .inr (17, f2)), (p3, .inr (17, f3)), (p4, .inr (17, f4)), (p5, .inr (17, f5)), (p6, .inr (17, f6)), (p7, .inr (17, f7)), (p8, .inr (17, f8)), (p9, .inr (17, f9)), (p10, .inr (17, f10)), (p11, .inr (17, f11)), (p12, .inr (17, f12)), (p13, .inr (17, f13)), (p14, .inr (17, f14))] H := hP
  have hD : va_D A [(pa, .inr (4, [.int mc, .ref el, .int 15])), (el, .inl (cy 2, 15, .inr (.inr (.inr (.inr g))))), (p0, .inr (17, f0)), (p1, .inr (17, f1)), (p2, .inr (17, f2)), (p3, .inr (17, f3)), (p4, .inr (17, f4)), (p5, .inr (17, f5)), (p6, .inr (17, f6)), (p7, .inr (17, f7)), (p8, .inr (17, f8)), (p9, .inr (17, f9)), (p10, .inr (17, f10)), (p11, .inr (17, f11)), (p12, .inr (17, f12)), (p13, .inr (17, f13)), (p14, .inr (17, f14))] := hD
  refine W.widen (k := 0) (n := 0) (Nat.le_of_ble_eq_true rfl) (Nat.le_of_ble_eq_true rfl) ?_
  refine lv_istore_n (lv' := [(3, .int 22), (2, .int 15), (0, .ref pa), (1, .int 16)]) hx hb dJx4a65c_grow_92f84_30 rfl hl (by decide) rfl (fun ls hl => ?_)
  refine lv_aload_n hx hb dJx4a65c_grow_92f84_31 rfl (lv_at hl 2 rfl) ?_
  refine lv_aload_n hx hb dJx4a65c_grow_92f84_32 rfl (lv_at hl 2 rfl) ?_
  refine va_get (D := D) (ci := 4) (v := .ref el) (C := RJx4a65c) (T := TJx4a65c) (N := 3) hx hb hts (fun w h => zx_Gc (uz_Jx4a65c w h)) hown hK hP 0 rfl rfl 1 (by decide) (hts (.fieldLink RJx4a65c 9 "java/util/ArrayList" "elementData" "[Ljava/lang/Object;") (zx_Gc mm_213)) (fun _ h9 => h9) rfl dJx4a65c_grow_92f84_33 ?_
  refine lv_iload_n hx hb dJx4a65c_grow_92f84_36 rfl (lv_at hl 0 rfl) ?_
  have hPc := hP.sub (ws' := [(el, .inl (cy 2, 15, .inr (.inr (.inr (.inr g))))), (p0, .inr (17, f0)), (p1, .inr (17, f1)), (p2, .inr (17, f2)), (p3, .inr (17, f3)), (p4, .inr (17, f4)), (p5, .inr (17, f5)), (p6, .inr (17, f6)), (p7, .inr (17, f7)), (p8, .inr (17, f8)), (p9, .inr (17, f9)), (p10, .inr (17, f10)), (p11, .inr (17, f11)), (p12, .inr (17, f12)), (p13, .inr (17, f13)), (p14, .inr (17, f14))]) [1, 2, 3, 4, 5, 6, 7, 8, 9, 10, 11, 12, 13, 14, 15, 16] rfl
  have hDc := hD.sub (ws' := [(el, .inl (cy 2, 15, .inr (.inr (.inr (.inr g))))), (p0, .inr (17, f0)), (p1, .inr (17, f1)), (p2, .inr (17, f2)), (p3, .inr (17, f3)), (p4, .inr (17, f4)), (p5, .inr (17, f5)), (p6, .inr (17, f6)), (p7, .inr (17, f7)), (p8, .inr (17, f8)), (p9, .inr (17, f9)), (p10, .inr (17, f10)), (p11, .inr (17, f11)), (p12, .inr (17, f12)), (p13, .inr (17, f13)), (p14, .inr (17, f14))]) [1, 2, 3, 4, 5, 6, 7, 8, 9, 10, 11, 12, 13, 14, 15, 16] (by decide) rfl
  have hFc := va_free (wc := [(el, .inl (cy 2, 15, .inr (.inr (.inr (.inr g))))), (p0, .inr (17, f0)), (p1, .inr (17, f1)), (p2, .inr (17, f2)), (p3, .inr (17, f3)), (p4, .inr (17, f4)), (p5, .inr (17, f5)), (p6, .inr (17, f6)), (p7, .inr (17, f7)), (p8, .inr (17, f8)), (p9, .inr (17, f9)), (p10, .inr (17, f10)), (p11, .inr (17, f11)), (p12, .inr (17, f12)), (p13, .inr (17, f13)), (p14, .inr (17, f14))]) hD hS hA [1, 2, 3, 4, 5, 6, 7, 8, 9, 10, 11, 12, 13, 14, 15, 16] rfl
  refine va_callr (va_runS (As := [.ref el, .int 22]) (rest := [.ref pa]) ⟨hx, hb, hml, hown, hts⟩ (c_copyOf2_15 l hst D cy ed H.size el g p0 p1 p2 p3 p4 p5 p6 p7 p8 p9 p10 p11 p12 p13 p14 f0 f1 f2 f3 f4 f5 f6 f7 f8 f9 f10 f11 f12 f13 f14 hg0 hg1 hg2 hg3 hg4 hg5 hg6 hg7 hg8 hg9 hg10 hg11 hg12 hg13 hg14) (va_cwS 2 hts (zx_GS mm_796 mm_797 mm_73 mm_798) rfl rfl rfl (by decide +kernel) ⟨(Nat.le_of_ble_eq_true rfl), (Nat.le_of_ble_eq_true rfl)⟩) ⟨zx_blind, zx_give hPc hK hDc hS hFc hZ hN⟩ rfl rfl hl.1 rfl (lv_room (Nat.le_of_ble_eq_true rfl)) dJx4a65c_grow_92f84_37 ⟨(Nat.le_of_ble_eq_true rfl), (Nat.le_of_ble_eq_true rfl)⟩) hS (fun q _ h => hFc q h) hFc (fun u ra9 t H1 locs ht hvm hw hB hz1 hk1 hS => ?_)
  obtain ⟨g2_201, rfl⟩ : ∃ z9, z9 = u := ⟨_, rfl⟩
  obtain ⟨a_202, rfl⟩ : ∃ z9, z9 = ra9 := ⟨_, rfl⟩
  have h_203 := hw
  obtain ⟨hP, hD⟩ := zx_join (wr := [(pa, .inr (4, [.int mc, .ref el, .int 15]))]) (w1 := [(a_202, .inl (cy 2, 22, .inr (.inr (.inr (.inr g2_201))))), (p0, .inr (17, f0)), (p1, .inr (17, f1)), (p2, .inr (17, f2)), (p3, .inr (17, f3)), (p4, .inr (17, f4)), (p5, .inr (17, f5)), (p6, .inr (17, f6)), (p7, .inr (17, f7)), (p8, .inr (17, f8)), (p9, .inr (17, f9)), (p10, .inr (17, f10)), (p11, .inr (17, f11)), (p12, .inr (17, f12)), (p13, .inr (17, f13)), (p14, .inr (17, f14))]) [1, 2, 3, 4, 5, 6, 7, 8, 9, 10, 11, 12, 13, 14, 15, 16] [0] rfl rfl (by decide) (by decide) hP hD hk1 hFc hB ht
  generalize H1 = H at hP hS ⊢
  have hP : va_P D vwCl [(pa, .inr (4, [.int mc, .ref el, .int 15])), (a_202, .inl (cy 2, 22, .inr (.inr (.inr (.inr g2_201))))), (p0, .inr (17, f0)), (p1, .inr (17, f1)), (p2, .inr (17, f2)), (p3, .inr (17, f3)), (p4, .inr (17, f4)), (p5, .inr (17, f5)), (p6, .inr (17, f6)), (p7, .inr (17, f7)), (p8, .inr (17, f8)), (p9, .inr (17, f9)), (p10, .inr (17, f10)), (p11, .inr (17, f11)), (p12, .inr (17, f12)), (p13, .inr (17, f13)), (p14, .inr (17, f14))] H := hP
  have hD : va_D A [(pa, .inr (4, [.int mc, .ref el, .int 15])), (a_202, .inl (cy 2, 22, .inr (.inr (.inr (.inr g2_201))))), (p0, .inr (17, f0)), (p1, .inr (17, f1)), (p2, .inr (17, f2)), (p3, .inr (17, f3)), (p4, .inr (17, f4)), (p5, .inr (17, f5)), (p6, .inr (17, f6)), (p7, .inr (17, f7)), (p8, .inr (17, f8)), (p9, .inr (17, f9)), (p10, .inr (17, f10)), (p11, .inr (17, f11)), (p12, .inr (17, f12)), (p13, .inr (17, f13)), (p14, .inr (17, f14))] := hD
  refine W.widen (k := 1) (n := 22) (Nat.le_of_ble_eq_true rfl) (Nat.le_of_ble_eq_true rfl) ?_
  refine lv_dup_x1 hx hb dJx4a65c_grow_92f84_40 rfl rfl ?_
  refine va_put (D := D) (ci := 4) (v := .ref a_202) (ty := .array (.object "java/lang/Object")) (C := RJx4a65c) (T := TJx4a65c) (N := 3) hx hb hts (fun w h => zx_Gc (uz_Jx4a65c w h)) tyJx4a65c tyJx4a65c_ok nmJx4a65c hown hK hP hD hS 0 rfl rfl 1 (by decide) (hts (.fieldLink RJx4a65c 9 "java/util/ArrayList" "elementData" "[Ljava/lang/Object;") (zx_Gc mm_213)) (fun _ h9 => h9) rfl (by decide +kernel) rfl rfl (Nat.le_of_ble_eq_true rfl) dJx4a65c_grow_92f84_41 (fun H locs hP hD hS => ?_)
  have hP : va_P D vwCl [(pa, .inr (4, [.int mc, .ref a_202, .int 15])), (a_202, .inl (cy 2, 22, .inr (.inr (.inr (.inr g2_201))))), (p0, .inr (17, f0)), (p1, .inr (17, f1)), (p2, .inr (17, f2)), (p3, .inr (17, f3)), (p4, .inr (17, f4)), (p5, .inr (17, f5)), (p6, .inr (17, f6)), (p7, .inr (17, f7)), (p8, .inr (17, f8)), (p9, .inr (17, f9)), (p10, .inr (17, f10)), (p11, .inr (17, f11)), (p12, .inr (17, f12)), (p13, .inr (17, f13)), (p14, .inr (17, f14))] H := hP
  have hD : va_D A [(pa, .inr (4, [.int mc, .ref a_202, .int 15])), (a_202, .inl (cy 2, 22, .inr (.inr (.inr (.inr g2_201))))), (p0, .inr (17, f0)), (p1, .inr (17, f1)), (p2, .inr (17, f2)), (p3, .inr (17, f3)), (p4, .inr (17, f4)), (p5, .inr (17, f5)), (p6, .inr (17, f6)), (p7, .inr (17, f7)), (p8, .inr (17, f8)), (p9, .inr (17, f9)), (p10, .inr (17, f10)), (p11, .inr (17, f11)), (p12, .inr (17, f12)), (p13, .inr (17, f13)), (p14, .inr (17, f14))] := hD
  have hP9 := hP.sub (ws' := [(pa, .inr (4, [.int mc, .ref a_202, .int 15])), (a_202, .inl (cy 2, 22, .inr (.inr (.inr (.inr g2_201))))), (p0, .inr (17, f0)), (p1, .inr (17, f1)), (p2, .inr (17, f2)), (p3, .inr (17, f3)), (p4, .inr (17, f4)), (p5, .inr (17, f5)), (p6, .inr (17, f6)), (p7, .inr (17, f7)), (p8, .inr (17, f8)), (p9, .inr (17, f9)), (p10, .inr (17, f10)), (p11, .inr (17, f11)), (p12, .inr (17, f12)), (p13, .inr (17, f13)), (p14, .inr (17, f14))]) [0, 1, 2, 3, 4, 5, 6, 7, 8, 9, 10, 11, 12, 13, 14, 15, 16] rfl
  have hD9 := hD.sub (ws' := [(pa, .inr (4, [.int mc, .ref a_202, .int 15])), (a_202, .inl (cy 2, 22, .inr (.inr (.inr (.inr g2_201))))), (p0, .inr (17, f0)), (p1, .inr (17, f1)), (p2, .inr (17, f2)), (p3, .inr (17, f3)), (p4, .inr (17, f4)), (p5, .inr (17, f5)), (p6, .inr (17, f6)), (p7, .inr (17, f7)), (p8, .inr (17, f8)), (p9, .inr (17, f9)), (p10, .inr (17, f10)), (p11, .inr (17, f11)), (p12, .inr (17, f12)), (p13, .inr (17, f13)), (p14, .inr (17, f14))]) [0, 1, 2, 3, 4, 5, 6, 7, 8, 9, 10, 11, 12, 13, 14, 15, 16] (by decide) rfl
  exact W.aret (v := .ref a_202) hx hb hr (.inr ⟨_, rfl⟩) (.inr ⟨_, rfl⟩) (fun t ht hW => ⟨⟨g2_201, a_202, rfl, h_203, zx_fin hP9 hD9 hK ht hW⟩, hS.F ht⟩) hS.2.2 dJx4a65c_grow_92f84_44
set_option maxHeartbeats 4000000 in
set_option maxRecDepth 100000 in
theorem c_AL_grow0_15 (l : Launch) (hst : l.stackTraces = false) (D : va_G) (cy : Nat → ClassId) (ed sz : Nat) (pa : Nat) (el : Nat) (mc : Int32) (g : Nat → Option Nat) (p0 : Nat) (p1 : Nat) (p2 : Nat) (p3 : Nat) (p4 : Nat) (p5 : Nat) (p6 : Nat) (p7 : Nat) (p8 : Nat) (p9 : Nat) (p10 : Nat) (p11 : Nat) (p12 : Nat) (p13 : Nat) (p14 : Nat) (f0 : List Value) (f1 : List Value) (f2 : List Value) (f3 : List Value) (f4 : List Value) (f5 : List Value) (f6 : List Value) (f7 : List Value) (f8 : List Value) (f9 : List Value) (f10 : List Value) (f11 : List Value) (f12 : List Value) (f13 : List Value) (f14 : List Value) (hg0 : g 0 = some p0) (hg1 : g 1 = some p1) (hg2 : g 2 = some p2) (hg3 : g 3 = some p3) (hg4 : g 4 = some p4) (hg5 : g 5 = some p5) (hg6 : g 6 = some p6) (hg7 : g 7 = some p7) (hg8 : g 8 = some p8) (hg9 : g 9 = some p9) (hg10 : g 10 = some p10) (hg11 : g 11 = some p11) (hg12 : g 12 = some p12) (hg13 : g 13 = some p13) (hg14 : g 14 = some p14) : Met l yJx4a65c_grow_d5877 wzJx4a65c_grow_d5877 ({ frames := 4, cells := 1, slots := 22, locals := 97 }) (zx_Pc D cy ed sz [.ref pa] [(pa, .inr (4, [.int mc, .ref el, .int 15])), (el, .inl (cy 2, 15, .inr (.inr (.inr (.inr g))))), (p0, .inr (17, f0)), (p1, .inr (17, f1)), (p2, .inr (17, f2)), (p3, .inr (17, f3)), (p4, .inr (17, f4)), (p5, .inr (17, f5)), (p6, .inr (17, f6)), (p7, .inr (17, f7)), (p8, .inr (17, f8)), (p9, .inr (17, f9)), (p10, .inr (17, f10)), (p11, .inr (17, f11)), (p12, .inr (17, f12)), (p13, .inr (17, f13)), (p14, .inr (17, f14))]) (va_Qr (fun (u9 : Nat → Option Nat) => match u9 with | g2 => ∀ j, j < 15 → g2 j = g j) (fun (u9 : Nat → Option Nat) (ra : Nat) (t9 : State) => match u9 with | g2 => zx_At D cy (va_A [(pa, .inr (4, [.int mc, .ref el, .int 15])), (el, .inl (cy 2, 15, .inr (.inr (.inr (.inr g))))), (p0, .inr (17, f0)), (p1, .inr (17, f1)), (p2, .inr (17, f2)), (p3, .inr (17, f3)), (p4, .inr (17, f4)), (p5, .inr (17, f5)), (p6, .inr (17, f6)), (p7, .inr (17, f7)), (p8, .inr (17, f8)), (p9, .inr (17, f9)), (p10, .inr (17, f10)), (p11, .inr (17, f11)), (p12, .inr (17, f12)), (p13, .inr (17, f13)), (p14, .inr (17, f14))] sz) [(pa, .inr (4, [.int mc, .ref ra, .int 15])), (ra, .inl (cy 2, 22, .inr (.inr (.inr (.inr g2))))), (p0, .inr (17, f0)), (p1, .inr (17, f1)), (p2, .inr (17, f2)), (p3, .inr (17, f3)), (p4, .inr (17, f4)), (p5, .inr (17, f5)), (p6, .inr (17, f6)), (p7, .inr (17, f7)), (p8, .inr (17, f8)), (p9, .inr (17, f9)), (p10, .inr (17, f10)), (p11, .inr (17, f11)), (p12, .inr (17, f12)), (p13, .inr (17, f13)), (p14, .inr (17, f14))] t9) (va_A [(pa, .inr (4, [.int mc, .ref el, .int 15])), (el, .inl (cy 2, 15, .inr (.inr (.inr (.inr g))))), (p0, .inr (17, f0)), (p1, .inr (17, f1)), (p2, .inr (17, f2)), (p3, .inr (17, f3)), (p4, .inr (17, f4)), (p5, .inr (17, f5)), (p6, .inr (17, f6)), (p7, .inr (17, f7)), (p8, .inr (17, f8)), (p9, .inr (17, f9)), (p10, .inr (17, f10)), (p11, .inr (17, f11)), (p12, .inr (17, f12)), (p13, .inr (17, f13)), (p14, .inr (17, f14))] sz)) 1 22 (va_A [(pa, .inr (4, [.int mc, .ref el, .int 15])), (el, .inl (cy 2, 15, .inr (.inr (.inr (.inr g))))), (p0, .inr (17, f0)), (p1, .inr (17, f1)), (p2, .inr (17, f2)), (p3, .inr (17, f3)), (p4, .inr (17, f4)), (p5, .inr (17, f5)), (p6, .inr (17, f6)), (p7, .inr (17, f7)), (p8, .inr (17, f8)), (p9, .inr (17, f9)), (p10, .inr (17, f10)), (p11, .inr (17, f11)), (p12, .inr (17, f12)), (p13, .inr (17, f13)), (p14, .inr (17, f14))] sz) := by
  refine Met.ofW (cc := cJx4a65c_grow_d5877) (maxL := 1) (ret := (some (.array (.object "java/lang/Object")))) (by decide) rfl ?_
  intro p e s m args below meth c s₁ B hml hv
  obtain ⟨rfl, hsz, hP, hK, hD0, hZ, hN⟩ := hv
  have hx := B.exec
  have hb := B.bytes
  have hr := B.returns
  have hts := atoms_spec (ws := wzJx4a65c_grow_d5877) B.pre
  have hown : s.vm.findClass RJx4a65c = some m.cls := findClass_of_methodNamed B.named
  have hlocks := B.notSynchronized
  subst hsz
  have hD := hD0.self (sz := s.heap.size)
  generalize hAe : va_A [(pa, .inr (4, [.int mc, .ref el, .int 15])), (el, .inl (cy 2, 15, .inr (.inr (.inr (.inr g))))), (p0, .inr (17, f0)), (p1, .inr (17, f1)), (p2, .inr (17, f2)), (p3, .inr (17, f3)), (p4, .inr (17, f4)), (p5, .inr (17, f5)), (p6, .inr (17, f6)), (p7, .inr (17, f7)), (p8, .inr (17, f8)), (p9, .inr (17, f9)), (p10, .inr (17, f10)), (p11, .inr (17, f11)), (p12, .inr (17, f12)), (p13, .inr (17, f13)), (p14, .inr (17, f14))] s.heap.size = A at hD hZ ⊢
  have hA : ∀ q : Nat, s.heap.size ≤ q → A q := fun q h => by rw [← hAe]; exact Or.inr h
  have hS : va_S A s.heap s.heap [] := va_S.rf
  have hP : va_P D vwCl [(pa, .inr (4, [.int mc, .ref el, .int 15])), (el, .inl (cy 2, 15, .inr (.inr (.inr (.inr g))))), (p0, .inr (17, f0)), (p1, .inr (17, f1)), (p2, .inr (17, f2)), (p3, .inr (17, f3)), (p4, .inr (17, f4)), (p5, .inr (17, f5)), (p6, .inr (17, f6)), (p7, .inr (17, f7)), (p8, .inr (17, f8)), (p9, .inr (17, f9)), (p10, .inr (17, f10)), (p11, .inr (17, f11)), (p12, .inr (17, f12)), (p13, .inr (17, f13)), (p14, .inr (17, f14))] s.heap := hP
  have hl := lv_entry ([.ref pa]) (n := 1) (Nat.le_of_ble_eq_true rfl)
  rw [lg_entry_eq]
  generalize (lg_sl ([.ref pa]) ++ List.replicate (1 - (lg_sl ([.ref pa])).length) Slot.unset).toArray = ls at hl ⊢
  have hl : lv_has ls 1 [(0, .ref pa)] := hl
  refine lv_aload_n hx hb dJx4a65c_grow_d5877_0 rfl (lv_at hl 0 rfl) ?_
  refine lv_aload_n hx hb dJx4a65c_grow_d5877_1 rfl (lv_at hl 0 rfl) ?_
  refine va_get (D := D) (ci := 4) (v := .int 15) (C := RJx4a65c) (T := TJx4a65c) (N := 3) hx hb hts (fun w h => zx_Gc (uz_Jx4a65c w h)) hown hK hP 0 rfl rfl 2 (by decide) (hts (.fieldLink RJx4a65c 48 "java/util/ArrayList" "size" "I") (zx_Gc mm_216)) (fun _ h9 => h9) rfl dJx4a65c_grow_d5877_2 ?_
  refine lv_iconst (v := 1) hx hb dJx4a65c_grow_d5877_5 (by decide) ?_
  refine lv_iadd hx hb dJx4a65c_grow_d5877_6 ?_
  refine lv_topi (fun y9 ey9 => ?_)
  obtain rfl : y9 = 16 := by rw [ey9] <;> decide
  have hPc := hP.sub (ws' := [(pa, .inr (4, [.int mc, .ref el, .int 15])), (el, .inl (cy 2, 15, .inr (.inr (.inr (.inr g))))), (p0, .inr (17, f0)), (p1, .inr (17, f1)), (p2, .inr (17, f2)), (p3, .inr (17, f3)), (p4, .inr (17, f4)), (p5, .inr (17, f5)), (p6, .inr (17, f6)), (p7, .inr (17, f7)), (p8, .inr (17, f8)), (p9, .inr (17, f9)), (p10, .inr (17, f10)), (p11, .inr (17, f11)), (p12, .inr (17, f12)), (p13, .inr (17, f13)), (p14, .inr (17, f14))]) [0, 1, 2, 3, 4, 5, 6, 7, 8, 9, 10, 11, 12, 13, 14, 15, 16] rfl
  have hDc := hD.sub (ws' := [(pa, .inr (4, [.int mc, .ref el, .int 15])), (el, .inl (cy 2, 15, .inr (.inr (.inr (.inr g))))), (p0, .inr (17, f0)), (p1, .inr (17, f1)), (p2, .inr (17, f2)), (p3, .inr (17, f3)), (p4, .inr (17, f4)), (p5, .inr (17, f5)), (p6, .inr (17, f6)), (p7, .inr (17, f7)), (p8, .inr (17, f8)), (p9, .inr (17, f9)), (p10, .inr (17, f10)), (p11, .inr (17, f11)), (p12, .inr (17, f12)), (p13, .inr (17, f13)), (p14, .inr (17, f14))]) [0, 1, 2, 3, 4, 5, 6, 7, 8, 9, 10, 11, 12, 13, 14, 15, 16] (by decide) rfl
  have hFc := va_free (wc := [(pa, .inr (4, [.int mc, .ref el, .int 15])), (el, .inl (cy 2, 15, .inr (.inr (.inr (.inr g))))), (p0, .inr (17, f0)), (p1, .inr (17, f1)), (p2, .inr (17, f2)), (p3, .inr (17, f3)), (p4, .inr (17, f4)), (p5, .inr (17, f5)), (p6, .inr (17, f6)), (p7, .inr (17, f7)), (p8, .inr (17, f8)), (p9, .inr (17, f9)), (p10, .inr (17, f10)), (p11, .inr (17, f11)), (p12, .inr (17, f12)), (p13, .inr (17, f13)), (p14, .inr (17, f14))]) hD hS hA [0, 1, 2, 3, 4, 5, 6, 7, 8, 9, 10, 11, 12, 13, 14, 15, 16] rfl
  refine va_callr (va_runV (As := [.int 16]) (rest := []) ⟨hx, hb, hml, hown, hts⟩ (c_AL_grow1_15 l hst D cy ed s.heap.size pa el mc g p0 p1 p2 p3 p4 p5 p6 p7 p8 p9 p10 p11 p12 p13 p14 f0 f1 f2 f3 f4 f5 f6 f7 f8 f9 f10 f11 f12 f13 f14 hg0 hg1 hg2 hg3 hg4 hg5 hg6 hg7 hg8 hg9 hg10 hg11 hg12 hg13 hg14) (cwV 1 hts (zx_GV mm_784 mm_786 mm_7 mm_77 mm_787) rfl rfl rfl (by decide +kernel) ⟨(Nat.le_of_ble_eq_true rfl), (Nat.le_of_ble_eq_true rfl)⟩) ⟨zx_blind, va_recv hK hPc (ci := 4) (q0 := 0) rfl rfl, zx_give hPc hK hDc hS hFc hZ hN⟩ rfl rfl hl.1 rfl (lv_room (Nat.le_of_ble_eq_true rfl)) dJx4a65c_grow_d5877_7 ⟨(Nat.le_of_ble_eq_true rfl), (Nat.le_of_ble_eq_true rfl)⟩) hS (fun q _ h => hFc q h) hFc (fun u ra9 t H1 locs ht hvm hw hB hz1 hk1 hS => ?_)
  obtain ⟨g2_204, rfl⟩ : ∃ z9, z9 = u := ⟨_, rfl⟩
  obtain ⟨a_205, rfl⟩ : ∃ z9, z9 = ra9 := ⟨_, rfl⟩
  have h_206 := hw
  obtain ⟨hP, hD⟩ := zx_join (wr := []) (w1 := [(pa, .inr (4, [.int mc, .ref a_205, .int 15])), (a_205, .inl (cy 2, 22, .inr (.inr (.inr (.inr g2_204))))), (p0, .inr (17, f0)), (p1, .inr (17, f1)), (p2, .inr (17, f2)), (p3, .inr (17, f3)), (p4, .inr (17, f4)), (p5, .inr (17, f5)), (p6, .inr (17, f6)), (p7, .inr (17, f7)), (p8, .inr (17, f8)), (p9, .inr (17, f9)), (p10, .inr (17, f10)), (p11, .inr (17, f11)), (p12, .inr (17, f12)), (p13, .inr (17, f13)), (p14, .inr (17, f14))]) [0, 1, 2, 3, 4, 5, 6, 7, 8, 9, 10, 11, 12, 13, 14, 15, 16] [] rfl rfl (by decide) (by decide) hP hD hk1 hFc hB ht
  generalize H1 = H at hP hS ⊢
  have hP : va_P D vwCl [(pa, .inr (4, [.int mc, .ref a_205, .int 15])), (a_205, .inl (cy 2, 22, .inr (.inr (.inr (.inr g2_204))))), (p0, .inr (17, f0)), (p1, .inr (17, f1)), (p2, .inr (17, f2)), (p3, .inr (17, f3)), (p4, .inr (17, f4)), (p5, .inr (17, f5)), (p6, .inr (17, f6)), (p7, .inr (17, f7)), (p8, .inr (17, f8)), (p9, .inr (17, f9)), (p10, .inr (17, f10)), (p11, .inr (17, f11)), (p12, .inr (17, f12)), (p13, .inr (17, f13)), (p14, .inr (17, f14))] H := hP
  have hD : va_D A [(pa, .inr (4, [.int mc, .ref a_205, .int 15])), (a_205, .inl (cy 2, 22, .inr (.inr (.inr (.inr g2_204))))), (p0, .inr (17, f0)), (p1, .inr (17, f1)), (p2, .inr (17, f2)), (p3, .inr (17, f3)), (p4, .inr (17, f4)), (p5, .inr (17, f5)), (p6, .inr (17, f6)), (p7, .inr (17, f7)), (p8, .inr (17, f8)), (p9, .inr (17, f9)), (p10, .inr (17, f10)), (p11, .inr (17, f11)), (p12, .inr (17, f12)), (p13, .inr (17, f13)), (p14, .inr (17, f14))] := hD
  refine W.widen (k := 1) (n := 22) (Nat.le_of_ble_eq_true rfl) (Nat.le_of_ble_eq_true rfl) ?_
  have hP9 := hP.sub (ws' := [(pa, .inr (4, [.int mc, .ref a_205, .int 15])), (a_205, .inl (cy 2, 22, .inr (.inr (.inr (.inr g2_204))))), (p0, .inr (17, f0)), (p1, .inr (17, f1)), (p2, .inr (17, f2)), (p3, .inr (17, f3)), (p4, .inr (17, f4)), (p5, .inr (17, f5)), (p6, .inr (17, f6)), (p7, .inr (17, f7)), (p8, .inr (17, f8)), (p9, .inr (17, f9)), (p10, .inr (17, f10)), (p11, .inr (17, f11)), (p12, .inr (17, f12)), (p13, .inr (17, f13)), (p14, .inr (17, f14))]) [0, 1, 2, 3, 4, 5, 6, 7, 8, 9, 10, 11, 12, 13, 14, 15, 16] rfl
  have hD9 := hD.sub (ws' := [(pa, .inr (4, [.int mc, .ref a_205, .int 15])), (a_205, .inl (cy 2, 22, .inr (.inr (.inr (.inr g2_204))))), (p0, .inr (17, f0)), (p1, .inr (17, f1)), (p2, .inr (17, f2)), (p3, .inr (17, f3)), (p4, .inr (17, f4)), (p5, .inr (17, f5)), (p6, .inr (17, f6)), (p7, .inr (17, f7)), (p8, .inr (17, f8)), (p9, .inr (17, f9)), (p10, .inr (17, f10)), (p11, .inr (17, f11)), (p12, .inr (17, f12)), (p13, .inr (17, f13)), (p14, .inr (17, f14))]) [0, 1, 2, 3, 4, 5, 6, 7, 8, 9, 10, 11, 12, 13, 14, 15, 16] (by decide) rfl
  exact W.aret (v := .ref a_205) hx hb hr (.inr ⟨_, rfl⟩) (.inr ⟨_, rfl⟩) (fun t ht hW => ⟨⟨g2_204, a_205, rfl, h_206, zx_fin hP9 hD9 hK ht hW⟩, hS.F ht⟩) hS.2.2 dJx4a65c_grow_d5877_10
set_option maxHeartbeats 4000000 in
set_option maxRecDepth 100000 in
theorem c_AL_add3_X3_0 (l : Launch) (hst : l.stackTraces = false) (D : va_G) (cy : Nat → ClassId) (ed sz : Nat) (pa : Nat) (mc : Int32) (pp : Nat) (fp : List Value) : Met l yJx4a65c_add_72be8 wzJx4a65c_add_72be8 ({ frames := 3, cells := 1, slots := 10, locals := 57 }) (zx_Pc D cy ed sz [.ref pa, .ref pp, .ref ed, .int 0] [(pa, .inr (4, [.int mc, .ref ed, .int 0])), (pp, .inr (8, fp))]) (va_Qv (fun (u9 : Nat × (Nat → Option Nat)) => match u9 with | (qx, g2) => g2 0 = some pp) (fun (u9 : Nat × (Nat → Option Nat)) (t9 : State) => match u9 with | (qx, g2) => zx_At D cy (va_A [(pa, .inr (4, [.int mc, .ref ed, .int 0])), (pp, .inr (8, fp))] sz) [(pa, .inr (4, [.int mc, .ref qx, .int 1])), (qx, .inl (cy 2, 10, .inr (.inr (.inr (.inr g2))))), (pp, .inr (8, fp))] t9) (va_A [(pa, .inr (4, [.int mc, .ref ed, .int 0])), (pp, .inr (8, fp))] sz)) 1 10 (va_A [(pa, .inr (4, [.int mc, .ref ed, .int 0])), (pp, .inr (8, fp))] sz) := by
  refine Met.ofW (cc := cJx4a65c_add_72be8) (maxL := 4) (ret := none) (by decide) rfl ?_
  intro p e s m args below meth c s₁ B hml hv
  obtain ⟨rfl, hsz, hP, hK, hD0, hZ, hN⟩ := hv
  have hx := B.exec
  have hb := B.bytes
  have hr := B.returns
  have hts := atoms_spec (ws := wzJx4a65c_add_72be8) B.pre
  have hown : s.vm.findClass RJx4a65c = some m.cls := findClass_of_methodNamed B.named
  have hlocks := B.notSynchronized
  subst hsz
  have hD := hD0.self (sz := s.heap.size)
  generalize hAe : va_A [(pa, .inr (4, [.int mc, .ref ed, .int 0])), (pp, .inr (8, fp))] s.heap.size = A at hD hZ ⊢
  have hA : ∀ q : Nat, s.heap.size ≤ q → A q := fun q h => by rw [← hAe]; exact Or.inr h
  have hS : va_S A s.heap s.heap [] := va_S.rf
  have hP : va_P D vwCl [(pa, .inr (4, [.int mc, .ref ed, .int 0])), (pp, .inr (8, fp))] s.heap := hP
  have hl := lv_entry ([.ref pa, .ref pp, .ref ed, .int 0]) (n := 4) (Nat.le_of_ble_eq_true rfl)
  rw [lg_entry_eq]
  generalize (lg_sl ([.ref pa, .ref pp, .ref ed, .int 0]) ++ List.replicate (4 - (lg_sl ([.ref pa, .ref pp, .ref ed, .int 0])).length) Slot.unset).toArray = ls at hl ⊢
  have hl : lv_has ls 4 [(0, .ref pa), (1, .ref pp), (2, .ref ed), (3, .int 0)] := hl
  refine lv_iload_n hx hb dJx4a65c_add_72be8_0 rfl (lv_at hl 3 rfl) ?_
  refine lv_aload_n hx hb dJx4a65c_add_72be8_1 rfl (lv_at hl 2 rfl) ?_
  refine va_tlen (v := 0) hx hb hZ.2.2.2.1 hS rfl dJx4a65c_add_72be8_2 ?_
  refine lv_icmp_ne (tgt := 11) hx hb dJx4a65c_add_72be8_3 (by decide) (fun c_207 => absurd c_207 (by decide)) (fun _ => ?_)
  refine lv_aload_n hx hb dJx4a65c_add_72be8_6 rfl (lv_at hl 0 rfl) ?_
  have hPc := hP.sub (ws' := [(pa, .inr (4, [.int mc, .ref ed, .int 0]))]) [0] rfl
  have hDc := hD.sub (ws' := [(pa, .inr (4, [.int mc, .ref ed, .int 0]))]) [0] (by decide) rfl
  have hFc := va_free (wc := [(pa, .inr (4, [.int mc, .ref ed, .int 0]))]) hD hS hA [0] rfl
  refine va_callr (va_runV (As := []) (rest := []) ⟨hx, hb, hml, hown, hts⟩ (c_AL_grow0_0 l hst D cy ed s.heap.size pa mc) (cwV 0 hts (zx_GV mm_780 mm_782 mm_6 mm_77 mm_783) rfl rfl rfl (by decide +kernel) ⟨(Nat.le_of_ble_eq_true rfl), (Nat.le_of_ble_eq_true rfl)⟩) ⟨zx_blind, va_recv hK hPc (ci := 4) (q0 := 0) rfl rfl, zx_give hPc hK hDc hS hFc hZ hN⟩ rfl rfl hl.1 rfl (lv_room (Nat.le_of_ble_eq_true rfl)) dJx4a65c_add_72be8_7 ⟨(Nat.le_of_ble_eq_true rfl), (Nat.le_of_ble_eq_true rfl)⟩) hS (fun q _ h => hFc q h) hFc (fun u ra9 t H1 locs ht hvm hw hB hz1 hk1 hS => ?_)
  obtain ⟨a_208, rfl⟩ : ∃ z9, z9 = ra9 := ⟨_, rfl⟩
  obtain ⟨hP, hD⟩ := zx_join (wr := [(pp, .inr (8, fp))]) (w1 := [(pa, .inr (4, [.int mc, .ref a_208, .int 0])), (a_208, .inl (cy 2, 10, .inr (.inr (.inr (.inr (fun _ => none))))))]) [0] [1] rfl rfl (by decide) (by decide) hP hD hk1 hFc hB ht
  generalize H1 = H at hP hS ⊢
  have hP : va_P D vwCl [(pp, .inr (8, fp)), (pa, .inr (4, [.int mc, .ref a_208, .int 0])), (a_208, .inl (cy 2, 10, .inr (.inr (.inr (.inr (fun _ => none))))))] H := hP
  have hD : va_D A [(pp, .inr (8, fp)), (pa, .inr (4, [.int mc, .ref a_208, .int 0])), (a_208, .inl (cy 2, 10, .inr (.inr (.inr (.inr (fun _ => none))))))] := hD
  refine W.widen (k := 1) (n := 10) (Nat.le_of_ble_eq_true rfl) (Nat.le_of_ble_eq_true rfl) ?_
  refine lv_astore_n (lv' := [(2, .ref a_208), (0, .ref pa), (1, .ref pp), (3, .int 0)]) hx hb dJx4a65c_add_72be8_10 rfl hl (by decide) rfl (fun ls hl => ?_)
  refine lv_aload_n hx hb dJx4a65c_add_72be8_11 rfl (lv_at hl 0 rfl) ?_
  refine lv_iload_n hx hb dJx4a65c_add_72be8_12 rfl (lv_at hl 3 rfl) ?_
  refine lv_aload_n hx hb dJx4a65c_add_72be8_13 rfl (lv_at hl 2 rfl) ?_
  refine va_astqO (E := "java/lang/Object") hx hb hK hP hD hS 2 2 0 8 rfl rfl (hN.2.2.1 _ _ (List.mem_of_getElem? (i := 2472) (by decide +kernel))) rfl rfl (zx_bn (by decide)) dJx4a65c_add_72be8_14 (fun H locs hP hD hS => ?_)
  have hP : va_P D vwCl [(pp, .inr (8, fp)), (pa, .inr (4, [.int mc, .ref a_208, .int 0])), (a_208, .inl (cy 2, 10, .inr (.inr (.inr (.inr (va_up (fun _ => none) (0 : Int32).toNatClampNeg (some pp)))))))] H := hP
  have hD : va_D A [(pp, .inr (8, fp)), (pa, .inr (4, [.int mc, .ref a_208, .int 0])), (a_208, .inl (cy 2, 10, .inr (.inr (.inr (.inr (va_up (fun _ => none) (0 : Int32).toNatClampNeg (some pp)))))))] := hD
  refine lv_aload_n hx hb dJx4a65c_add_72be8_15 rfl (lv_at hl 1 rfl) ?_
  refine lv_iload_n hx hb dJx4a65c_add_72be8_16 rfl (lv_at hl 3 rfl) ?_
  refine lv_iconst (v := 1) hx hb dJx4a65c_add_72be8_17 (by decide) ?_
  refine lv_iadd hx hb dJx4a65c_add_72be8_18 ?_
  refine lv_topi (fun y9 ey9 => ?_)
  obtain rfl : y9 = 1 := by rw [ey9] <;> decide
  refine va_put (D := D) (ci := 4) (v := .int 1) (ty := .int) (C := RJx4a65c) (T := TJx4a65c) (N := 3) hx hb hts (fun w h => zx_Gc (uz_Jx4a65c w h)) tyJx4a65c tyJx4a65c_ok nmJx4a65c hown hK hP hD hS 1 rfl rfl 2 (by decide) (hts (.fieldLink RJx4a65c 48 "java/util/ArrayList" "size" "I") (zx_Gc mm_216)) (fun _ h9 => h9) rfl (by decide +kernel) rfl rfl (Nat.le_of_ble_eq_true rfl) dJx4a65c_add_72be8_19 (fun H locs hP hD hS => ?_)
  have hP : va_P D vwCl [(pp, .inr (8, fp)), (pa, .inr (4, [.int mc, .ref a_208, .int 1])), (a_208, .inl (cy 2, 10, .inr (.inr (.inr (.inr (va_up (fun _ => none) (0 : Int32).toNatClampNeg (some pp)))))))] H := hP
  have hD : va_D A [(pp, .inr (8, fp)), (pa, .inr (4, [.int mc, .ref a_208, .int 1])), (a_208, .inl (cy 2, 10, .inr (.inr (.inr (.inr (va_up (fun _ => none) (0 : Int32).toNatClampNeg (some pp)))))))] := hD
  have hP9 := hP.sub (ws' := [(pa, .inr (4, [.int mc, .ref a_208, .int 1])), (a_208, .inl (cy 2, 10, .inr (.inr (.inr (.inr (va_up (fun _ => none) (0 : Int32).toNatClampNeg (some pp))))))), (pp, .inr (8, fp))]) [1, 2, 0] rfl
  have hD9 := hD.sub (ws' := [(pa, .inr (4, [.int mc, .ref a_208, .int 1])), (a_208, .inl (cy 2, 10, .inr (.inr (.inr (.inr (va_up (fun _ => none) (0 : Int32).toNatClampNeg (some pp))))))), (pp, .inr (8, fp))]) [1, 2, 0] (by decide) rfl
  exact W.vret hx hb hr (fun t ht hW => ⟨⟨⟨a_208, (va_up (fun _ => none) (0 : Int32).toNatClampNeg (some pp))⟩, rfl, zx_up_at _ (by decide), zx_fin hP9 hD9 hK ht hW⟩, hS.F ht⟩) hS.2.2 dJx4a65c_add_72be8_22
set_option maxHeartbeats 4000000 in
set_option maxRecDepth 100000 in
theorem c_AL_add1_X3_0 (l : Launch) (hst : l.stackTraces = false) (D : va_G) (cy : Nat → ClassId) (ed sz : Nat) (pa : Nat) (mc : Int32) (pp : Nat) (fp : List Value) : Met l yJx4a65c_add_9ea2d wzJx4a65c_add_9ea2d ({ frames := 4, cells := 1, slots := 10, locals := 80 }) (zx_Pc D cy ed sz [.ref pa, .ref pp] [(pa, .inr (4, [.int mc, .ref ed, .int 0])), (pp, .inr (8, fp))]) (va_Qi (fun (r9 : Int32) (u9 : Int32 × Nat × (Nat → Option Nat)) => match u9 with | (mx, qx, g2) => r9 = 1 ∧ g2 0 = some pp) (fun (u9 : Int32 × Nat × (Nat → Option Nat)) (t9 : State) => match u9 with | (mx, qx, g2) => zx_At D cy (va_A [(pa, .inr (4, [.int mc, .ref ed, .int 0])), (pp, .inr (8, fp))] sz) [(pa, .inr (4, [.int mx, .ref qx, .int 1])), (qx, .inl (cy 2, 10, .inr (.inr (.inr (.inr g2))))), (pp, .inr (8, fp))] t9) (va_A [(pa, .inr (4, [.int mc, .ref ed, .int 0])), (pp, .inr (8, fp))] sz)) 1 10 (va_A [(pa, .inr (4, [.int mc, .ref ed, .int 0])), (pp, .inr (8, fp))] sz) := by
  refine Met.ofW (cc := cJx4a65c_add_9ea2d) (maxL := 2) (ret := (some .boolean)) (by decide) rfl ?_
  intro p e s m args below meth c s₁ B hml hv
  obtain ⟨rfl, hsz, hP, hK, hD0, hZ, hN⟩ := hv
  have hx := B.exec
  have hb := B.bytes
  have hr := B.returns
  have hts := atoms_spec (ws := wzJx4a65c_add_9ea2d) B.pre
  have hown : s.vm.findClass RJx4a65c = some m.cls := findClass_of_methodNamed B.named
  have hlocks := B.notSynchronized
  subst hsz
  have hD := hD0.self (sz := s.heap.size)
  generalize hAe : va_A [(pa, .inr (4, [.int mc, .ref ed, .int 0])), (pp, .inr (8, fp))] s.heap.size = A at hD hZ ⊢
  have hA : ∀ q : Nat, s.heap.size ≤ q → A q := fun q h => by rw [← hAe]; exact Or.inr h
  have hS : va_S A s.heap s.heap [] := va_S.rf
  have hP : va_P D vwCl [(pa, .inr (4, [.int mc, .ref ed, .int 0])), (pp, .inr (8, fp))] s.heap := hP
  have hl := lv_entry ([.ref pa, .ref pp]) (n := 2) (Nat.le_of_ble_eq_true rfl)
  rw [lg_entry_eq]
  generalize (lg_sl ([.ref pa, .ref pp]) ++ List.replicate (2 - (lg_sl ([.ref pa, .ref pp])).length) Slot.unset).toArray = ls at hl ⊢
  have hl : lv_has ls 2 [(0, .ref pa), (1, .ref pp)] := hl
  refine lv_aload_n hx hb dJx4a65c_add_9ea2d_0 rfl (lv_at hl 0 rfl) ?_
  refine lv_dup hx hb dJx4a65c_add_9ea2d_1 rfl ?_
  refine va_get (D := D) (ci := 4) (v := .int mc) (C := RJx4a65c) (T := TJx4a65c) (N := 3) hx hb hts (fun w h => zx_Gc (uz_Jx4a65c w h)) hown hK hP 0 rfl rfl 0 (by decide) (hts (.fieldLink RJx4a65c 63 "java/util/ArrayList" "modCount" "I") (zx_Gc mm_220)) (fun x9 h9 => u_same (hts (.sameField "java/util/ArrayList" "java/util/AbstractList" "modCount" "I") (zx_Gc mm_219)) x9 h9) rfl dJx4a65c_add_9ea2d_2 ?_
  refine lv_iconst (v := 1) hx hb dJx4a65c_add_9ea2d_5 (by decide) ?_
  refine lv_iadd hx hb dJx4a65c_add_9ea2d_6 ?_
  refine va_put (D := D) (ci := 4) (v := .int (mc + (1 : Int32))) (ty := .int) (C := RJx4a65c) (T := TJx4a65c) (N := 3) hx hb hts (fun w h => zx_Gc (uz_Jx4a65c w h)) tyJx4a65c tyJx4a65c_ok nmJx4a65c hown hK hP hD hS 0 rfl rfl 0 (by decide) (hts (.fieldLink RJx4a65c 63 "java/util/ArrayList" "modCount" "I") (zx_Gc mm_220)) (fun x9 h9 => u_same (hts (.sameField "java/util/ArrayList" "java/util/AbstractList" "modCount" "I") (zx_Gc mm_219)) x9 h9) rfl (by decide +kernel) rfl rfl (Nat.le_of_ble_eq_true rfl) dJx4a65c_add_9ea2d_7 (fun H locs hP hD hS => ?_)
  have hP : va_P D vwCl [(pa, .inr (4, [.int (mc + (1 : Int32)), .ref ed, .int 0])), (pp, .inr (8, fp))] H := hP
  have hD : va_D A [(pa, .inr (4, [.int (mc + (1 : Int32)), .ref ed, .int 0])), (pp, .inr (8, fp))] := hD
  refine lv_aload_n hx hb dJx4a65c_add_9ea2d_10 rfl (lv_at hl 0 rfl) ?_
  refine lv_aload_n hx hb dJx4a65c_add_9ea2d_11 rfl (lv_at hl 1 rfl) ?_
  refine lv_aload_n hx hb dJx4a65c_add_9ea2d_12 rfl (lv_at hl 0 rfl) ?_
  refine va_get (D := D) (ci := 4) (v := .ref ed) (C := RJx4a65c) (T := TJx4a65c) (N := 3) hx hb hts (fun w h => zx_Gc (uz_Jx4a65c w h)) hown hK hP 0 rfl rfl 1 (by decide) (hts (.fieldLink RJx4a65c 9 "java/util/ArrayList" "elementData" "[Ljava/lang/Object;") (zx_Gc mm_213)) (fun _ h9 => h9) rfl dJx4a65c_add_9ea2d_13 ?_
  refine lv_aload_n hx hb dJx4a65c_add_9ea2d_16 rfl (lv_at hl 0 rfl) ?_
  refine va_get (D := D) (ci := 4) (v := .int 0) (C := RJx4a65c) (T := TJx4a65c) (N := 3) hx hb hts (fun w h => zx_Gc (uz_Jx4a65c w h)) hown hK hP 0 rfl rfl 2 (by decide) (hts (.fieldLink RJx4a65c 48 "java/util/ArrayList" "size" "I") (zx_Gc mm_216)) (fun _ h9 => h9) rfl dJx4a65c_add_9ea2d_17 ?_
  have hPc := hP.sub (ws' := [(pa, .inr (4, [.int (mc + (1 : Int32)), .ref ed, .int 0])), (pp, .inr (8, fp))]) [0, 1] rfl
  have hDc := hD.sub (ws' := [(pa, .inr (4, [.int (mc + (1 : Int32)), .ref ed, .int 0])), (pp, .inr (8, fp))]) [0, 1] (by decide) rfl
  have hFc := va_free (wc := [(pa, .inr (4, [.int (mc + (1 : Int32)), .ref ed, .int 0])), (pp, .inr (8, fp))]) hD hS hA [0, 1] rfl
  refine va_callv (va_runV (As := [.ref pp, .ref ed, .int 0]) (rest := []) ⟨hx, hb, hml, hown, hts⟩ (c_AL_add3_X3_0 l hst D cy ed H.size pa (mc + (1 : Int32)) pp fp) (cwV 3 hts (zx_GV mm_776 mm_778 mm_5 mm_77 mm_779) rfl rfl rfl (by decide +kernel) ⟨(Nat.le_of_ble_eq_true rfl), (Nat.le_of_ble_eq_true rfl)⟩) ⟨zx_blind, va_recv hK hPc (ci := 4) (q0 := 0) rfl rfl, zx_give hPc hK hDc hS hFc hZ hN⟩ rfl rfl hl.1 rfl (lv_room (Nat.le_of_ble_eq_true rfl)) dJx4a65c_add_9ea2d_20 ⟨(Nat.le_of_ble_eq_true rfl), (Nat.le_of_ble_eq_true rfl)⟩) hS (fun q _ h => hFc q h) hFc (fun u t H1 locs ht hvm hw hB hz1 hk1 hS => ?_)
  obtain ⟨qx_209, g2_210⟩ := u
  have h_211 := hw
  obtain ⟨hP, hD⟩ := zx_join (wr := []) (w1 := [(pa, .inr (4, [.int (mc + (1 : Int32)), .ref qx_209, .int 1])), (qx_209, .inl (cy 2, 10, .inr (.inr (.inr (.inr g2_210))))), (pp, .inr (8, fp))]) [0, 1] [] rfl rfl (by decide) (by decide) hP hD hk1 hFc hB ht
  generalize H1 = H at hP hS ⊢
  have hP : va_P D vwCl [(pa, .inr (4, [.int (mc + (1 : Int32)), .ref qx_209, .int 1])), (qx_209, .inl (cy 2, 10, .inr (.inr (.inr (.inr g2_210))))), (pp, .inr (8, fp))] H := hP
  have hD : va_D A [(pa, .inr (4, [.int (mc + (1 : Int32)), .ref qx_209, .int 1])), (qx_209, .inl (cy 2, 10, .inr (.inr (.inr (.inr g2_210))))), (pp, .inr (8, fp))] := hD
  refine W.widen (k := 1) (n := 10) (Nat.le_of_ble_eq_true rfl) (Nat.le_of_ble_eq_true rfl) ?_
  refine lv_iconst (v := 1) hx hb dJx4a65c_add_9ea2d_23 (by decide) ?_
  have hP9 := hP.sub (ws' := [(pa, .inr (4, [.int (mc + (1 : Int32)), .ref qx_209, .int 1])), (qx_209, .inl (cy 2, 10, .inr (.inr (.inr (.inr g2_210))))), (pp, .inr (8, fp))]) [0, 1, 2] rfl
  have hD9 := hD.sub (ws' := [(pa, .inr (4, [.int (mc + (1 : Int32)), .ref qx_209, .int 1])), (qx_209, .inl (cy 2, 10, .inr (.inr (.inr (.inr g2_210))))), (pp, .inr (8, fp))]) [0, 1, 2] (by decide) rfl
  exact W.zret (v := 1) hx hb hr rfl (fun t ht hW => ⟨⟨1, ⟨(mc + (1 : Int32)), qx_209, g2_210⟩, rfl, ⟨rfl, h_211⟩, zx_fin hP9 hD9 hK ht hW⟩, hS.F ht⟩) hS.2.2 dJx4a65c_add_9ea2d_24
set_option maxHeartbeats 4000000 in
set_option maxRecDepth 100000 in
theorem c_AL_add3_X11_0 (l : Launch) (hst : l.stackTraces = false) (D : va_G) (cy : Nat → ClassId) (ed sz : Nat) (pa : Nat) (mc : Int32) (pp : Nat) (fp : List Value) : Met l yJx4a65c_add_72be8 wzJx4a65c_add_72be8 ({ frames := 3, cells := 1, slots := 10, locals := 57 }) (zx_Pc D cy ed sz [.ref pa, .ref pp, .ref ed, .int 0] [(pa, .inr (4, [.int mc, .ref ed, .int 0])), (pp, .inr (16, fp))]) (va_Qv (fun (u9 : Nat × (Nat → Option Nat)) => match u9 with | (qx, g2) => g2 0 = some pp) (fun (u9 : Nat × (Nat → Option Nat)) (t9 : State) => match u9 with | (qx, g2) => zx_At D cy (va_A [(pa, .inr (4, [.int mc, .ref ed, .int 0])), (pp, .inr (16, fp))] sz) [(pa, .inr (4, [.int mc, .ref qx, .int 1])), (qx, .inl (cy 2, 10, .inr (.inr (.inr (.inr g2))))), (pp, .inr (16, fp))] t9) (va_A [(pa, .inr (4, [.int mc, .ref ed, .int 0])), (pp, .inr (16, fp))] sz)) 1 10 (va_A [(pa, .inr (4, [.int mc, .ref ed, .int 0])), (pp, .inr (16, fp))] sz) := by
  refine Met.ofW (cc := cJx4a65c_add_72be8) (maxL := 4) (ret := none) (by decide) rfl ?_
  intro p e s m args below meth c s₁ B hml hv
  obtain ⟨rfl, hsz, hP, hK, hD0, hZ, hN⟩ := hv
  have hx := B.exec
  have hb := B.bytes
  have hr := B.returns
  have hts := atoms_spec (ws := wzJx4a65c_add_72be8) B.pre
  have hown : s.vm.findClass RJx4a65c = some m.cls := findClass_of_methodNamed B.named
  have hlocks := B.notSynchronized
  subst hsz
  have hD := hD0.self (sz := s.heap.size)
  generalize hAe : va_A [(pa, .inr (4, [.int mc, .ref ed, .int 0])), (pp, .inr (16, fp))] s.heap.size = A at hD hZ ⊢
  have hA : ∀ q : Nat, s.heap.size ≤ q → A q := fun q h => by rw [← hAe]; exact Or.inr h
  have hS : va_S A s.heap s.heap [] := va_S.rf
  have hP : va_P D vwCl [(pa, .inr (4, [.int mc, .ref ed, .int 0])), (pp, .inr (16, fp))] s.heap := hP
  have hl := lv_entry ([.ref pa, .ref pp, .ref ed, .int 0]) (n := 4) (Nat.le_of_ble_eq_true rfl)
  rw [lg_entry_eq]
  generalize (lg_sl ([.ref pa, .ref pp, .ref ed, .int 0]) ++ List.replicate (4 - (lg_sl ([.ref pa, .ref pp, .ref ed, .int 0])).length) Slot.unset).toArray = ls at hl ⊢
  have hl : lv_has ls 4 [(0, .ref pa), (1, .ref pp), (2, .ref ed), (3, .int 0)] := hl
  refine lv_iload_n hx hb dJx4a65c_add_72be8_0 rfl (lv_at hl 3 rfl) ?_
  refine lv_aload_n hx hb dJx4a65c_add_72be8_1 rfl (lv_at hl 2 rfl) ?_
  refine va_tlen (v := 0) hx hb hZ.2.2.2.1 hS rfl dJx4a65c_add_72be8_2 ?_
  refine lv_icmp_ne (tgt := 11) hx hb dJx4a65c_add_72be8_3 (by decide) (fun c_212 => absurd c_212 (by decide)) (fun _ => ?_)
  refine lv_aload_n hx hb dJx4a65c_add_72be8_6 rfl (lv_at hl 0 rfl) ?_
  have hPc := hP.sub (ws' := [(pa, .inr (4, [.int mc, .ref ed, .int 0]))]) [0] rfl
  have hDc := hD.sub (ws' := [(pa, .inr (4, [.int mc, .ref ed, .int 0]))]) [0] (by decide) rfl
  have hFc := va_free (wc := [(pa, .inr (4, [.int mc, .ref ed, .int 0]))]) hD hS hA [0] rfl
  refine va_callr (va_runV (As := []) (rest := []) ⟨hx, hb, hml, hown, hts⟩ (c_AL_grow0_0 l hst D cy ed s.heap.size pa mc) (cwV 0 hts (zx_GV mm_780 mm_782 mm_6 mm_77 mm_783) rfl rfl rfl (by decide +kernel) ⟨(Nat.le_of_ble_eq_true rfl), (Nat.le_of_ble_eq_true rfl)⟩) ⟨zx_blind, va_recv hK hPc (ci := 4) (q0 := 0) rfl rfl, zx_give hPc hK hDc hS hFc hZ hN⟩ rfl rfl hl.1 rfl (lv_room (Nat.le_of_ble_eq_true rfl)) dJx4a65c_add_72be8_7 ⟨(Nat.le_of_ble_eq_true rfl), (Nat.le_of_ble_eq_true rfl)⟩) hS (fun q _ h => hFc q h) hFc (fun u ra9 t H1 locs ht hvm hw hB hz1 hk1 hS => ?_)
  obtain ⟨a_213, rfl⟩ : ∃ z9, z9 = ra9 := ⟨_, rfl⟩
  obtain ⟨hP, hD⟩ := zx_join (wr := [(pp, .inr (16, fp))]) (w1 := [(pa, .inr (4, [.int mc, .ref a_213, .int 0])), (a_213, .inl (cy 2, 10, .inr (.inr (.inr (.inr (fun _ => none))))))]) [0] [1] rfl rfl (by decide) (by decide) hP hD hk1 hFc hB ht
  generalize H1 = H at hP hS ⊢
  have hP : va_P D vwCl [(pp, .inr (16, fp)), (pa, .inr (4, [.int mc, .ref a_213, .int 0])), (a_213, .inl (cy 2, 10, .inr (.inr (.inr (.inr (fun _ => none))))))] H := hP
  have hD : va_D A [(pp, .inr (16, fp)), (pa, .inr (4, [.int mc, .ref a_213, .int 0])), (a_213, .inl (cy 2, 10, .inr (.inr (.inr (.inr (fun _ => none))))))] := hD
  refine W.widen (k := 1) (n := 10) (Nat.le_of_ble_eq_true rfl) (Nat.le_of_ble_eq_true rfl) ?_
  refine lv_astore_n (lv' := [(2, .ref a_213), (0, .ref pa), (1, .ref pp), (3, .int 0)]) hx hb dJx4a65c_add_72be8_10 rfl hl (by decide) rfl (fun ls hl => ?_)
  refine lv_aload_n hx hb dJx4a65c_add_72be8_11 rfl (lv_at hl 0 rfl) ?_
  refine lv_iload_n hx hb dJx4a65c_add_72be8_12 rfl (lv_at hl 3 rfl) ?_
  refine lv_aload_n hx hb dJx4a65c_add_72be8_13 rfl (lv_at hl 2 rfl) ?_
  refine va_astqO (E := "java/lang/Object") hx hb hK hP hD hS 2 2 0 16 rfl rfl (hN.2.2.1 _ _ (List.mem_of_getElem? (i := 2477) (by decide +kernel))) rfl rfl (zx_bn (by decide)) dJx4a65c_add_72be8_14 (fun H locs hP hD hS => ?_)
  have hP : va_P D vwCl [(pp, .inr (16, fp)), (pa, .inr (4, [.int mc, .ref a_213, .int 0])), (a_213, .inl (cy 2, 10, .inr (.inr (.inr (.inr (va_up (fun _ => none) (0 : Int32).toNatClampNeg (some pp)))))))] H := hP
  have hD : va_D A [(pp, .inr (16, fp)), (pa, .inr (4, [.int mc, .ref a_213, .int 0])), (a_213, .inl (cy 2, 10, .inr (.inr (.inr (.inr (va_up (fun _ => none) (0 : Int32).toNatClampNeg (some pp)))))))] := hD
  refine lv_aload_n hx hb dJx4a65c_add_72be8_15 rfl (lv_at hl 1 rfl) ?_
  refine lv_iload_n hx hb dJx4a65c_add_72be8_16 rfl (lv_at hl 3 rfl) ?_
  refine lv_iconst (v := 1) hx hb dJx4a65c_add_72be8_17 (by decide) ?_
  refine lv_iadd hx hb dJx4a65c_add_72be8_18 ?_
  refine lv_topi (fun y9 ey9 => ?_)
  obtain rfl : y9 = 1 := by rw [ey9] <;> decide
  refine va_put (D := D) (ci := 4) (v := .int 1) (ty := .int) (C := RJx4a65c) (T := TJx4a65c) (N := 3) hx hb hts (fun w h => zx_Gc (uz_Jx4a65c w h)) tyJx4a65c tyJx4a65c_ok nmJx4a65c hown hK hP hD hS 1 rfl rfl 2 (by decide) (hts (.fieldLink RJx4a65c 48 "java/util/ArrayList" "size" "I") (zx_Gc mm_216)) (fun _ h9 => h9) rfl (by decide +kernel) rfl rfl (Nat.le_of_ble_eq_true rfl) dJx4a65c_add_72be8_19 (fun H locs hP hD hS => ?_)
  have hP : va_P D vwCl [(pp, .inr (16, fp)), (pa, .inr (4, [.int mc, .ref a_213, .int 1])), (a_213, .inl (cy 2, 10, .inr (.inr (.inr (.inr (va_up (fun _ => none) (0 : Int32).toNatClampNeg (some pp)))))))] H := hP
  have hD : va_D A [(pp, .inr (16, fp)), (pa, .inr (4, [.int mc, .ref a_213, .int 1])), (a_213, .inl (cy 2, 10, .inr (.inr (.inr (.inr (va_up (fun _ => none) (0 : Int32).toNatClampNeg (some pp)))))))] := hD
  have hP9 := hP.sub (ws' := [(pa, .inr (4, [.int mc, .ref a_213, .int 1])), (a_213, .inl (cy 2, 10, .inr (.inr (.inr (.inr (va_up (fun _ => none) (0 : Int32).toNatClampNeg (some pp))))))), (pp, .inr (16, fp))]) [1, 2, 0] rfl
  have hD9 := hD.sub (ws' := [(pa, .inr (4, [.int mc, .ref a_213, .int 1])), (a_213, .inl (cy 2, 10, .inr (.inr (.inr (.inr (va_up (fun _ => none) (0 : Int32).toNatClampNeg (some pp))))))), (pp, .inr (16, fp))]) [1, 2, 0] (by decide) rfl
  exact W.vret hx hb hr (fun t ht hW => ⟨⟨⟨a_213, (va_up (fun _ => none) (0 : Int32).toNatClampNeg (some pp))⟩, rfl, zx_up_at _ (by decide), zx_fin hP9 hD9 hK ht hW⟩, hS.F ht⟩) hS.2.2 dJx4a65c_add_72be8_22
set_option maxHeartbeats 4000000 in
set_option maxRecDepth 100000 in
theorem c_AL_add1_X11_0 (l : Launch) (hst : l.stackTraces = false) (D : va_G) (cy : Nat → ClassId) (ed sz : Nat) (pa : Nat) (mc : Int32) (pp : Nat) (fp : List Value) : Met l yJx4a65c_add_9ea2d wzJx4a65c_add_9ea2d ({ frames := 4, cells := 1, slots := 10, locals := 80 }) (zx_Pc D cy ed sz [.ref pa, .ref pp] [(pa, .inr (4, [.int mc, .ref ed, .int 0])), (pp, .inr (16, fp))]) (va_Qi (fun (r9 : Int32) (u9 : Int32 × Nat × (Nat → Option Nat)) => match u9 with | (mx, qx, g2) => r9 = 1 ∧ g2 0 = some pp) (fun (u9 : Int32 × Nat × (Nat → Option Nat)) (t9 : State) => match u9 with | (mx, qx, g2) => zx_At D cy (va_A [(pa, .inr (4, [.int mc, .ref ed, .int 0])), (pp, .inr (16, fp))] sz) [(pa, .inr (4, [.int mx, .ref qx, .int 1])), (qx, .inl (cy 2, 10, .inr (.inr (.inr (.inr g2))))), (pp, .inr (16, fp))] t9) (va_A [(pa, .inr (4, [.int mc, .ref ed, .int 0])), (pp, .inr (16, fp))] sz)) 1 10 (va_A [(pa, .inr (4, [.int mc, .ref ed, .int 0])), (pp, .inr (16, fp))] sz) := by
  refine Met.ofW (cc := cJx4a65c_add_9ea2d) (maxL := 2) (ret := (some .boolean)) (by decide) rfl ?_
  intro p e s m args below meth c s₁ B hml hv
  obtain ⟨rfl, hsz, hP, hK, hD0, hZ, hN⟩ := hv
  have hx := B.exec
  have hb := B.bytes
  have hr := B.returns
  have hts := atoms_spec (ws := wzJx4a65c_add_9ea2d) B.pre
  have hown : s.vm.findClass RJx4a65c = some m.cls := findClass_of_methodNamed B.named
  have hlocks := B.notSynchronized
  subst hsz
  have hD := hD0.self (sz := s.heap.size)
  generalize hAe : va_A [(pa, .inr (4, [.int mc, .ref ed, .int 0])), (pp, .inr (16, fp))] s.heap.size = A at hD hZ ⊢
  have hA : ∀ q : Nat, s.heap.size ≤ q → A q := fun q h => by rw [← hAe]; exact Or.inr h
  have hS : va_S A s.heap s.heap [] := va_S.rf
  have hP : va_P D vwCl [(pa, .inr (4, [.int mc, .ref ed, .int 0])), (pp, .inr (16, fp))] s.heap := hP
  have hl := lv_entry ([.ref pa, .ref pp]) (n := 2) (Nat.le_of_ble_eq_true rfl)
  rw [lg_entry_eq]
  generalize (lg_sl ([.ref pa, .ref pp]) ++ List.replicate (2 - (lg_sl ([.ref pa, .ref pp])).length) Slot.unset).toArray = ls at hl ⊢
  have hl : lv_has ls 2 [(0, .ref pa), (1, .ref pp)] := hl
  refine lv_aload_n hx hb dJx4a65c_add_9ea2d_0 rfl (lv_at hl 0 rfl) ?_
  refine lv_dup hx hb dJx4a65c_add_9ea2d_1 rfl ?_
  refine va_get (D := D) (ci := 4) (v := .int mc) (C := RJx4a65c) (T := TJx4a65c) (N := 3) hx hb hts (fun w h => zx_Gc (uz_Jx4a65c w h)) hown hK hP 0 rfl rfl 0 (by decide) (hts (.fieldLink RJx4a65c 63 "java/util/ArrayList" "modCount" "I") (zx_Gc mm_220)) (fun x9 h9 => u_same (hts (.sameField "java/util/ArrayList" "java/util/AbstractList" "modCount" "I") (zx_Gc mm_219)) x9 h9) rfl dJx4a65c_add_9ea2d_2 ?_
  refine lv_iconst (v := 1) hx hb dJx4a65c_add_9ea2d_5 (by decide) ?_
  refine lv_iadd hx hb dJx4a65c_add_9ea2d_6 ?_
  refine va_put (D := D) (ci := 4) (v := .int (mc + (1 : Int32))) (ty := .int) (C := RJx4a65c) (T := TJx4a65c) (N := 3) hx hb hts (fun w h => zx_Gc (uz_Jx4a65c w h)) tyJx4a65c tyJx4a65c_ok nmJx4a65c hown hK hP hD hS 0 rfl rfl 0 (by decide) (hts (.fieldLink RJx4a65c 63 "java/util/ArrayList" "modCount" "I") (zx_Gc mm_220)) (fun x9 h9 => u_same (hts (.sameField "java/util/ArrayList" "java/util/AbstractList" "modCount" "I") (zx_Gc mm_219)) x9 h9) rfl (by decide +kernel) rfl rfl (Nat.le_of_ble_eq_true rfl) dJx4a65c_add_9ea2d_7 (fun H locs hP hD hS => ?_)
  have hP : va_P D vwCl [(pa, .inr (4, [.int (mc + (1 : Int32)), .ref ed, .int 0])), (pp, .inr (16, fp))] H := hP
  have hD : va_D A [(pa, .inr (4, [.int (mc + (1 : Int32)), .ref ed, .int 0])), (pp, .inr (16, fp))] := hD
  refine lv_aload_n hx hb dJx4a65c_add_9ea2d_10 rfl (lv_at hl 0 rfl) ?_
  refine lv_aload_n hx hb dJx4a65c_add_9ea2d_11 rfl (lv_at hl 1 rfl) ?_
  refine lv_aload_n hx hb dJx4a65c_add_9ea2d_12 rfl (lv_at hl 0 rfl) ?_
  refine va_get (D := D) (ci := 4) (v := .ref ed) (C := RJx4a65c) (T := TJx4a65c) (N := 3) hx hb hts (fun w h => zx_Gc (uz_Jx4a65c w h)) hown hK hP 0 rfl rfl 1 (by decide) (hts (.fieldLink RJx4a65c 9 "java/util/ArrayList" "elementData" "[Ljava/lang/Object;") (zx_Gc mm_213)) (fun _ h9 => h9) rfl dJx4a65c_add_9ea2d_13 ?_
  refine lv_aload_n hx hb dJx4a65c_add_9ea2d_16 rfl (lv_at hl 0 rfl) ?_
  refine va_get (D := D) (ci := 4) (v := .int 0) (C := RJx4a65c) (T := TJx4a65c) (N := 3) hx hb hts (fun w h => zx_Gc (uz_Jx4a65c w h)) hown hK hP 0 rfl rfl 2 (by decide) (hts (.fieldLink RJx4a65c 48 "java/util/ArrayList" "size" "I") (zx_Gc mm_216)) (fun _ h9 => h9) rfl dJx4a65c_add_9ea2d_17 ?_
  have hPc := hP.sub (ws' := [(pa, .inr (4, [.int (mc + (1 : Int32)), .ref ed, .int 0])), (pp, .inr (16, fp))]) [0, 1] rfl
  have hDc := hD.sub (ws' := [(pa, .inr (4, [.int (mc + (1 : Int32)), .ref ed, .int 0])), (pp, .inr (16, fp))]) [0, 1] (by decide) rfl
  have hFc := va_free (wc := [(pa, .inr (4, [.int (mc + (1 : Int32)), .ref ed, .int 0])), (pp, .inr (16, fp))]) hD hS hA [0, 1] rfl
  refine va_callv (va_runV (As := [.ref pp, .ref ed, .int 0]) (rest := []) ⟨hx, hb, hml, hown, hts⟩ (c_AL_add3_X11_0 l hst D cy ed H.size pa (mc + (1 : Int32)) pp fp) (cwV 3 hts (zx_GV mm_776 mm_778 mm_5 mm_77 mm_779) rfl rfl rfl (by decide +kernel) ⟨(Nat.le_of_ble_eq_true rfl), (Nat.le_of_ble_eq_true rfl)⟩) ⟨zx_blind, va_recv hK hPc (ci := 4) (q0 := 0) rfl rfl, zx_give hPc hK hDc hS hFc hZ hN⟩ rfl rfl hl.1 rfl (lv_room (Nat.le_of_ble_eq_true rfl)) dJx4a65c_add_9ea2d_20 ⟨(Nat.le_of_ble_eq_true rfl), (Nat.le_of_ble_eq_true rfl)⟩) hS (fun q _ h => hFc q h) hFc (fun u t H1 locs ht hvm hw hB hz1 hk1 hS => ?_)
  obtain ⟨qx_214, g2_215⟩ := u
  have h_216 := hw
  obtain ⟨hP, hD⟩ := zx_join (wr := []) (w1 := [(pa, .inr (4, [.int (mc + (1 : Int32)), .ref qx_214, .int 1])), (qx_214, .inl (cy 2, 10, .inr (.inr (.inr (.inr g2_215))))), (pp, .inr (16, fp))]) [0, 1] [] rfl rfl (by decide) (by decide) hP hD hk1 hFc hB ht
  generalize H1 = H at hP hS ⊢
  have hP : va_P D vwCl [(pa, .inr (4, [.int (mc + (1 : Int32)), .ref qx_214, .int 1])), (qx_214, .inl (cy 2, 10, .inr (.inr (.inr (.inr g2_215))))), (pp, .inr (16, fp))] H := hP
  have hD : va_D A [(pa, .inr (4, [.int (mc + (1 : Int32)), .ref qx_214, .int 1])), (qx_214, .inl (cy 2, 10, .inr (.inr (.inr (.inr g2_215))))), (pp, .inr (16, fp))] := hD
  refine W.widen (k := 1) (n := 10) (Nat.le_of_ble_eq_true rfl) (Nat.le_of_ble_eq_true rfl) ?_
  refine lv_iconst (v := 1) hx hb dJx4a65c_add_9ea2d_23 (by decide) ?_
  have hP9 := hP.sub (ws' := [(pa, .inr (4, [.int (mc + (1 : Int32)), .ref qx_214, .int 1])), (qx_214, .inl (cy 2, 10, .inr (.inr (.inr (.inr g2_215))))), (pp, .inr (16, fp))]) [0, 1, 2] rfl
  have hD9 := hD.sub (ws' := [(pa, .inr (4, [.int (mc + (1 : Int32)), .ref qx_214, .int 1])), (qx_214, .inl (cy 2, 10, .inr (.inr (.inr (.inr g2_215))))), (pp, .inr (16, fp))]) [0, 1, 2] (by decide) rfl
  exact W.zret (v := 1) hx hb hr rfl (fun t ht hW => ⟨⟨1, ⟨(mc + (1 : Int32)), qx_214, g2_215⟩, rfl, ⟨rfl, h_216⟩, zx_fin hP9 hD9 hK ht hW⟩, hS.F ht⟩) hS.2.2 dJx4a65c_add_9ea2d_24
set_option maxHeartbeats 4000000 in
set_option maxRecDepth 100000 in
theorem c_AL_add3_X3_1 (l : Launch) (hst : l.stackTraces = false) (D : va_G) (cy : Nat → ClassId) (ed sz : Nat) (pa : Nat) (el : Nat) (mc : Int32) (g : Nat → Option Nat) (pp : Nat) (fp : List Value) : Met l yJx4a65c_add_72be8 wzJx4a65c_add_72be8 ({ frames := 0, cells := 0, slots := 0, locals := 0 }) (zx_Pc D cy ed sz [.ref pa, .ref pp, .ref el, .int 1] [(pa, .inr (4, [.int mc, .ref el, .int 1])), (el, .inl (cy 2, 10, .inr (.inr (.inr (.inr g))))), (pp, .inr (8, fp))]) (va_Qv (fun (u9 : Nat × (Nat → Option Nat)) => match u9 with | (qx, g2) => g2 1 = some pp ∧ ∀ j, j < 1 → g2 j = g j) (fun (u9 : Nat × (Nat → Option Nat)) (t9 : State) => match u9 with | (qx, g2) => zx_At D cy (va_A [(pa, .inr (4, [.int mc, .ref el, .int 1])), (el, .inl (cy 2, 10, .inr (.inr (.inr (.inr g))))), (pp, .inr (8, fp))] sz) [(pa, .inr (4, [.int mc, .ref qx, .int 2])), (qx, .inl (cy 2, 10, .inr (.inr (.inr (.inr g2))))), (pp, .inr (8, fp))] t9) (va_A [(pa, .inr (4, [.int mc, .ref el, .int 1])), (el, .inl (cy 2, 10, .inr (.inr (.inr (.inr g))))), (pp, .inr (8, fp))] sz)) 0 0 (va_A [(pa, .inr (4, [.int mc, .ref el, .int 1])), (el, .inl (cy 2, 10, .inr (.inr (.inr (.inr g))))), (pp, .inr (8, fp))] sz) := by
  refine Met.ofW (cc := cJx4a65c_add_72be8) (maxL := 4) (ret := none) (by decide) rfl ?_
  intro p e s m args below meth c s₁ B hml hv
  obtain ⟨rfl, hsz, hP, hK, hD0, hZ, hN⟩ := hv
  have hx := B.exec
  have hb := B.bytes
  have hr := B.returns
  have hts := atoms_spec (ws := wzJx4a65c_add_72be8) B.pre
  have hown : s.vm.findClass RJx4a65c = some m.cls := findClass_of_methodNamed B.named
  have hlocks := B.notSynchronized
  subst hsz
  have hD := hD0.self (sz := s.heap.size)
  generalize hAe : va_A [(pa, .inr (4, [.int mc, .ref el, .int 1])), (el, .inl (cy 2, 10, .inr (.inr (.inr (.inr g))))), (pp, .inr (8, fp))] s.heap.size = A at hD hZ ⊢
  have hA : ∀ q : Nat, s.heap.size ≤ q → A q := fun q h => by rw [← hAe]; exact Or.inr h
  have hS : va_S A s.heap s.heap [] := va_S.rf
  have hP : va_P D vwCl [(pa, .inr (4, [.int mc, .ref el, .int 1])), (el, .inl (cy 2, 10, .inr (.inr (.inr (.inr g))))), (pp, .inr (8, fp))] s.heap := hP
  have hl := lv_entry ([.ref pa, .ref pp, .ref el, .int 1]) (n := 4) (Nat.le_of_ble_eq_true rfl)
  rw [lg_entry_eq]
  generalize (lg_sl ([.ref pa, .ref pp, .ref el, .int 1]) ++ List.replicate (4 - (lg_sl ([.ref pa, .ref pp, .ref el, .int 1])).length) Slot.unset).toArray = ls at hl ⊢
  have hl : lv_has ls 4 [(0, .ref pa), (1, .ref pp), (2, .ref el), (3, .int 1)] := hl
  refine lv_iload_n hx hb dJx4a65c_add_72be8_0 rfl (lv_at hl 3 rfl) ?_
  refine lv_aload_n hx hb dJx4a65c_add_72be8_1 rfl (lv_at hl 2 rfl) ?_
  refine va_alen (v := 10) hx hb hK hP 1 2 rfl rfl (show Int32.ofNat 10 = 10 from by decide) dJx4a65c_add_72be8_2 ?_
  refine lv_icmp_ne (tgt := 11) hx hb dJx4a65c_add_72be8_3 (by decide) (fun _ => ?_) (fun c_217 => absurd c_217 (by decide))
  refine lv_aload_n hx hb dJx4a65c_add_72be8_11 rfl (lv_at hl 2 rfl) ?_
  refine lv_iload_n hx hb dJx4a65c_add_72be8_12 rfl (lv_at hl 3 rfl) ?_
  refine lv_aload_n hx hb dJx4a65c_add_72be8_13 rfl (lv_at hl 1 rfl) ?_
  refine va_astqO (E := "java/lang/Object") hx hb hK hP hD hS 1 2 2 8 rfl rfl (hN.2.2.1 _ _ (List.mem_of_getElem? (i := 2472) (by decide +kernel))) rfl rfl (zx_bn (by decide)) dJx4a65c_add_72be8_14 (fun H locs hP hD hS => ?_)
  have hP : va_P D vwCl [(pa, .inr (4, [.int mc, .ref el, .int 1])), (el, .inl (cy 2, 10, .inr (.inr (.inr (.inr (va_up g (1 : Int32).toNatClampNeg (some pp))))))), (pp, .inr (8, fp))] H := hP
  have hD : va_D A [(pa, .inr (4, [.int mc, .ref el, .int 1])), (el, .inl (cy 2, 10, .inr (.inr (.inr (.inr (va_up g (1 : Int32).toNatClampNeg (some pp))))))), (pp, .inr (8, fp))] := hD
  refine lv_aload_n hx hb dJx4a65c_add_72be8_15 rfl (lv_at hl 0 rfl) ?_
  refine lv_iload_n hx hb dJx4a65c_add_72be8_16 rfl (lv_at hl 3 rfl) ?_
  refine lv_iconst (v := 1) hx hb dJx4a65c_add_72be8_17 (by decide) ?_
  refine lv_iadd hx hb dJx4a65c_add_72be8_18 ?_
  refine lv_topi (fun y9 ey9 => ?_)
  obtain rfl : y9 = 2 := by rw [ey9] <;> decide
  refine va_put (D := D) (ci := 4) (v := .int 2) (ty := .int) (C := RJx4a65c) (T := TJx4a65c) (N := 3) hx hb hts (fun w h => zx_Gc (uz_Jx4a65c w h)) tyJx4a65c tyJx4a65c_ok nmJx4a65c hown hK hP hD hS 0 rfl rfl 2 (by decide) (hts (.fieldLink RJx4a65c 48 "java/util/ArrayList" "size" "I") (zx_Gc mm_216)) (fun _ h9 => h9) rfl (by decide +kernel) rfl rfl (Nat.le_of_ble_eq_true rfl) dJx4a65c_add_72be8_19 (fun H locs hP hD hS => ?_)
  have hP : va_P D vwCl [(pa, .inr (4, [.int mc, .ref el, .int 2])), (el, .inl (cy 2, 10, .inr (.inr (.inr (.inr (va_up g (1 : Int32).toNatClampNeg (some pp))))))), (pp, .inr (8, fp))] H := hP
  have hD : va_D A [(pa, .inr (4, [.int mc, .ref el, .int 2])), (el, .inl (cy 2, 10, .inr (.inr (.inr (.inr (va_up g (1 : Int32).toNatClampNeg (some pp))))))), (pp, .inr (8, fp))] := hD
  have hP9 := hP.sub (ws' := [(pa, .inr (4, [.int mc, .ref el, .int 2])), (el, .inl (cy 2, 10, .inr (.inr (.inr (.inr (va_up g (1 : Int32).toNatClampNeg (some pp))))))), (pp, .inr (8, fp))]) [0, 1, 2] rfl
  have hD9 := hD.sub (ws' := [(pa, .inr (4, [.int mc, .ref el, .int 2])), (el, .inl (cy 2, 10, .inr (.inr (.inr (.inr (va_up g (1 : Int32).toNatClampNeg (some pp))))))), (pp, .inr (8, fp))]) [0, 1, 2] (by decide) rfl
  exact W.vret hx hb hr (fun t ht hW => ⟨⟨⟨el, (va_up g (1 : Int32).toNatClampNeg (some pp))⟩, rfl, ⟨zx_up_at _ (by decide), fun j9 hj9 => zx_up_ne _ (by show j9 ≠ 1; omega)⟩, zx_fin hP9 hD9 hK ht hW⟩, hS.F ht⟩) hS.2.2 dJx4a65c_add_72be8_22
set_option maxHeartbeats 4000000 in
set_option maxRecDepth 100000 in
theorem c_AL_add1_X3_1 (l : Launch) (hst : l.stackTraces = false) (D : va_G) (cy : Nat → ClassId) (ed sz : Nat) (pa : Nat) (el : Nat) (mc : Int32) (g : Nat → Option Nat) (pp : Nat) (fp : List Value) : Met l yJx4a65c_add_9ea2d wzJx4a65c_add_9ea2d ({ frames := 1, cells := 0, slots := 0, locals := 23 }) (zx_Pc D cy ed sz [.ref pa, .ref pp] [(pa, .inr (4, [.int mc, .ref el, .int 1])), (el, .inl (cy 2, 10, .inr (.inr (.inr (.inr g))))), (pp, .inr (8, fp))]) (va_Qi (fun (r9 : Int32) (u9 : Int32 × Nat × (Nat → Option Nat)) => match u9 with | (mx, qx, g2) => r9 = 1 ∧ g2 1 = some pp ∧ ∀ j, j < 1 → g2 j = g j) (fun (u9 : Int32 × Nat × (Nat → Option Nat)) (t9 : State) => match u9 with | (mx, qx, g2) => zx_At D cy (va_A [(pa, .inr (4, [.int mc, .ref el, .int 1])), (el, .inl (cy 2, 10, .inr (.inr (.inr (.inr g))))), (pp, .inr (8, fp))] sz) [(pa, .inr (4, [.int mx, .ref qx, .int 2])), (qx, .inl (cy 2, 10, .inr (.inr (.inr (.inr g2))))), (pp, .inr (8, fp))] t9) (va_A [(pa, .inr (4, [.int mc, .ref el, .int 1])), (el, .inl (cy 2, 10, .inr (.inr (.inr (.inr g))))), (pp, .inr (8, fp))] sz)) 0 0 (va_A [(pa, .inr (4, [.int mc, .ref el, .int 1])), (el, .inl (cy 2, 10, .inr (.inr (.inr (.inr g))))), (pp, .inr (8, fp))] sz) := by
  refine Met.ofW (cc := cJx4a65c_add_9ea2d) (maxL := 2) (ret := (some .boolean)) (by decide) rfl ?_
  intro p e s m args below meth c s₁ B hml hv
  obtain ⟨rfl, hsz, hP, hK, hD0, hZ, hN⟩ := hv
  have hx := B.exec
  have hb := B.bytes
  have hr := B.returns
  have hts := atoms_spec (ws := wzJx4a65c_add_9ea2d) B.pre
  have hown : s.vm.findClass RJx4a65c = some m.cls := findClass_of_methodNamed B.named
  have hlocks := B.notSynchronized
  subst hsz
  have hD := hD0.self (sz := s.heap.size)
  generalize hAe : va_A [(pa, .inr (4, [.int mc, .ref el, .int 1])), (el, .inl (cy 2, 10, .inr (.inr (.inr (.inr g))))), (pp, .inr (8, fp))] s.heap.size = A at hD hZ ⊢
  have hA : ∀ q : Nat, s.heap.size ≤ q → A q := fun q h => by rw [← hAe]; exact Or.inr h
  have hS : va_S A s.heap s.heap [] := va_S.rf
  have hP : va_P D vwCl [(pa, .inr (4, [.int mc, .ref el, .int 1])), (el, .inl (cy 2, 10, .inr (.inr (.inr (.inr g))))), (pp, .inr (8, fp))] s.heap := hP
  have hl := lv_entry ([.ref pa, .ref pp]) (n := 2) (Nat.le_of_ble_eq_true rfl)
  rw [lg_entry_eq]
  generalize (lg_sl ([.ref pa, .ref pp]) ++ List.replicate (2 - (lg_sl ([.ref pa, .ref pp])).length) Slot.unset).toArray = ls at hl ⊢
  have hl : lv_has ls 2 [(0, .ref pa), (1, .ref pp)] := hl
  refine lv_aload_n hx hb dJx4a65c_add_9ea2d_0 rfl (lv_at hl 0 rfl) ?_
  refine lv_dup hx hb dJx4a65c_add_9ea2d_1 rfl ?_
  refine va_get (D := D) (ci := 4) (v := .int mc) (C := RJx4a65c) (T := TJx4a65c) (N := 3) hx hb hts (fun w h => zx_Gc (uz_Jx4a65c w h)) hown hK hP 0 rfl rfl 0 (by decide) (hts (.fieldLink RJx4a65c 63 "java/util/ArrayList" "modCount" "I") (zx_Gc mm_220)) (fun x9 h9 => u_same (hts (.sameField "java/util/ArrayList" "java/util/AbstractList" "modCount" "I") (zx_Gc mm_219)) x9 h9) rfl dJx4a65c_add_9ea2d_2 ?_
  refine lv_iconst (v := 1) hx hb dJx4a65c_add_9ea2d_5 (by decide) ?_
  refine lv_iadd hx hb dJx4a65c_add_9ea2d_6 ?_
  refine va_put (D := D) (ci := 4) (v := .int (mc + (1 : Int32))) (ty := .int) (C := RJx4a65c) (T := TJx4a65c) (N := 3) hx hb hts (fun w h => zx_Gc (uz_Jx4a65c w h)) tyJx4a65c tyJx4a65c_ok nmJx4a65c hown hK hP hD hS 0 rfl rfl 0 (by decide) (hts (.fieldLink RJx4a65c 63 "java/util/ArrayList" "modCount" "I") (zx_Gc mm_220)) (fun x9 h9 => u_same (hts (.sameField "java/util/ArrayList" "java/util/AbstractList" "modCount" "I") (zx_Gc mm_219)) x9 h9) rfl (by decide +kernel) rfl rfl (Nat.le_of_ble_eq_true rfl) dJx4a65c_add_9ea2d_7 (fun H locs hP hD hS => ?_)
  have hP : va_P D vwCl [(pa, .inr (4, [.int (mc + (1 : Int32)), .ref el, .int 1])), (el, .inl (cy 2, 10, .inr (.inr (.inr (.inr g))))), (pp, .inr (8, fp))] H := hP
  have hD : va_D A [(pa, .inr (4, [.int (mc + (1 : Int32)), .ref el, .int 1])), (el, .inl (cy 2, 10, .inr (.inr (.inr (.inr g))))), (pp, .inr (8, fp))] := hD
  refine lv_aload_n hx hb dJx4a65c_add_9ea2d_10 rfl (lv_at hl 0 rfl) ?_
  refine lv_aload_n hx hb dJx4a65c_add_9ea2d_11 rfl (lv_at hl 1 rfl) ?_
  refine lv_aload_n hx hb dJx4a65c_add_9ea2d_12 rfl (lv_at hl 0 rfl) ?_
  refine va_get (D := D) (ci := 4) (v := .ref el) (C := RJx4a65c) (T := TJx4a65c) (N := 3) hx hb hts (fun w h => zx_Gc (uz_Jx4a65c w h)) hown hK hP 0 rfl rfl 1 (by decide) (hts (.fieldLink RJx4a65c 9 "java/util/ArrayList" "elementData" "[Ljava/lang/Object;") (zx_Gc mm_213)) (fun _ h9 => h9) rfl dJx4a65c_add_9ea2d_13 ?_
  refine lv_aload_n hx hb dJx4a65c_add_9ea2d_16 rfl (lv_at hl 0 rfl) ?_
  refine va_get (D := D) (ci := 4) (v := .int 1) (C := RJx4a65c) (T := TJx4a65c) (N := 3) hx hb hts (fun w h => zx_Gc (uz_Jx4a65c w h)) hown hK hP 0 rfl rfl 2 (by decide) (hts (.fieldLink RJx4a65c 48 "java/util/ArrayList" "size" "I") (zx_Gc mm_216)) (fun _ h9 => h9) rfl dJx4a65c_add_9ea2d_17 ?_
  have hPc := hP.sub (ws' := [(pa, .inr (4, [.int (mc + (1 : Int32)), .ref el, .int 1])), (el, .inl (cy 2, 10, .inr (.inr (.inr (.inr g))))), (pp, .inr (8, fp))]) [0, 1, 2] rfl
  have hDc := hD.sub (ws' := [(pa, .inr (4, [.int (mc + (1 : Int32)), .ref el, .int 1])), (el, .inl (cy 2, 10, .inr (.inr (.inr (.inr g))))), (pp, .inr (8, fp))]) [0, 1, 2] (by decide) rfl
  have hFc := va_free (wc := [(pa, .inr (4, [.int (mc + (1 : Int32)), .ref el, .int 1])), (el, .inl (cy 2, 10, .inr (.inr (.inr (.inr g))))), (pp, .inr (8, fp))]) hD hS hA [0, 1, 2] rfl
  refine va_callv (va_runV (As := [.ref pp, .ref el, .int 1]) (rest := []) ⟨hx, hb, hml, hown, hts⟩ (c_AL_add3_X3_1 l hst D cy ed H.size pa el (mc + (1 : Int32)) g pp fp) (cwV 3 hts (zx_GV mm_776 mm_778 mm_5 mm_77 mm_779) rfl rfl rfl (by decide +kernel) ⟨(Nat.le_of_ble_eq_true rfl), (Nat.le_of_ble_eq_true rfl)⟩) ⟨zx_blind, va_recv hK hPc (ci := 4) (q0 := 0) rfl rfl, zx_give hPc hK hDc hS hFc hZ hN⟩ rfl rfl hl.1 rfl (lv_room (Nat.le_of_ble_eq_true rfl)) dJx4a65c_add_9ea2d_20 ⟨(Nat.le_of_ble_eq_true rfl), (Nat.le_of_ble_eq_true rfl)⟩) hS (fun q _ h => hFc q h) hFc (fun u t H1 locs ht hvm hw hB hz1 hk1 hS => ?_)
  obtain ⟨qx_218, g2_219⟩ := u
  have h_220 := hw
  obtain ⟨hP, hD⟩ := zx_join (wr := []) (w1 := [(pa, .inr (4, [.int (mc + (1 : Int32)), .ref qx_218, .int 2])), (qx_218, .inl (cy 2, 10, .inr (.inr (.inr (.inr g2_219))))), (pp, .inr (8, fp))]) [0, 1, 2] [] rfl rfl (by decide) (by decide) hP hD hk1 hFc hB ht
  generalize H1 = H at hP hS ⊢
  have hP : va_P D vwCl [(pa, .inr (4, [.int (mc + (1 : Int32)), .ref qx_218, .int 2])), (qx_218, .inl (cy 2, 10, .inr (.inr (.inr (.inr g2_219))))), (pp, .inr (8, fp))] H := hP
  have hD : va_D A [(pa, .inr (4, [.int (mc + (1 : Int32)), .ref qx_218, .int 2])), (qx_218, .inl (cy 2, 10, .inr (.inr (.inr (.inr g2_219))))), (pp, .inr (8, fp))] := hD
  refine W.widen (k := 0) (n := 0) (Nat.le_of_ble_eq_true rfl) (Nat.le_of_ble_eq_true rfl) ?_
  obtain ⟨hs_221, hs_222⟩ := h_220
  refine lv_iconst (v := 1) hx hb dJx4a65c_add_9ea2d_23 (by decide) ?_
  have hP9 := hP.sub (ws' := [(pa, .inr (4, [.int (mc + (1 : Int32)), .ref qx_218, .int 2])), (qx_218, .inl (cy 2, 10, .inr (.inr (.inr (.inr g2_219))))), (pp, .inr (8, fp))]) [0, 1, 2] rfl
  have hD9 := hD.sub (ws' := [(pa, .inr (4, [.int (mc + (1 : Int32)), .ref qx_218, .int 2])), (qx_218, .inl (cy 2, 10, .inr (.inr (.inr (.inr g2_219))))), (pp, .inr (8, fp))]) [0, 1, 2] (by decide) rfl
  exact W.zret (v := 1) hx hb hr rfl (fun t ht hW => ⟨⟨1, ⟨(mc + (1 : Int32)), qx_218, g2_219⟩, rfl, ⟨rfl, ⟨hs_221, hs_222⟩⟩, zx_fin hP9 hD9 hK ht hW⟩, hS.F ht⟩) hS.2.2 dJx4a65c_add_9ea2d_24
set_option maxHeartbeats 4000000 in
set_option maxRecDepth 100000 in
theorem c_AL_add3_X11_1 (l : Launch) (hst : l.stackTraces = false) (D : va_G) (cy : Nat → ClassId) (ed sz : Nat) (pa : Nat) (el : Nat) (mc : Int32) (g : Nat → Option Nat) (pp : Nat) (fp : List Value) : Met l yJx4a65c_add_72be8 wzJx4a65c_add_72be8 ({ frames := 0, cells := 0, slots := 0, locals := 0 }) (zx_Pc D cy ed sz [.ref pa, .ref pp, .ref el, .int 1] [(pa, .inr (4, [.int mc, .ref el, .int 1])), (el, .inl (cy 2, 10, .inr (.inr (.inr (.inr g))))), (pp, .inr (16, fp))]) (va_Qv (fun (u9 : Nat × (Nat → Option Nat)) => match u9 with | (qx, g2) => g2 1 = some pp ∧ ∀ j, j < 1 → g2 j = g j) (fun (u9 : Nat × (Nat → Option Nat)) (t9 : State) => match u9 with | (qx, g2) => zx_At D cy (va_A [(pa, .inr (4, [.int mc, .ref el, .int 1])), (el, .inl (cy 2, 10, .inr (.inr (.inr (.inr g))))), (pp, .inr (16, fp))] sz) [(pa, .inr (4, [.int mc, .ref qx, .int 2])), (qx, .inl (cy 2, 10, .inr (.inr (.inr (.inr g2))))), (pp, .inr (16, fp))] t9) (va_A [(pa, .inr (4, [.int mc, .ref el, .int 1])), (el, .inl (cy 2, 10, .inr (.inr (.inr (.inr g))))), (pp, .inr (16, fp))] sz)) 0 0 (va_A [(pa, .inr (4, [.int mc, .ref el, .int 1])), (el, .inl (cy 2, 10, .inr (.inr (.inr (.inr g))))), (pp, .inr (16, fp))] sz) := by
  refine Met.ofW (cc := cJx4a65c_add_72be8) (maxL := 4) (ret := none) (by decide) rfl ?_
  intro p e s m args below meth c s₁ B hml hv
  obtain ⟨rfl, hsz, hP, hK, hD0, hZ, hN⟩ := hv
  have hx := B.exec
  have hb := B.bytes
  have hr := B.returns
  have hts := atoms_spec (ws := wzJx4a65c_add_72be8) B.pre
  have hown : s.vm.findClass RJx4a65c = some m.cls := findClass_of_methodNamed B.named
  have hlocks := B.notSynchronized
  subst hsz
  have hD := hD0.self (sz := s.heap.size)
  generalize hAe : va_A [(pa, .inr (4, [.int mc, .ref el, .int 1])), (el, .inl (cy 2, 10, .inr (.inr (.inr (.inr g))))), (pp, .inr (16, fp))] s.heap.size = A at hD hZ ⊢
  have hA : ∀ q : Nat, s.heap.size ≤ q → A q := fun q h => by rw [← hAe]; exact Or.inr h
  have hS : va_S A s.heap s.heap [] := va_S.rf
  have hP : va_P D vwCl [(pa, .inr (4, [.int mc, .ref el, .int 1])), (el, .inl (cy 2, 10, .inr (.inr (.inr (.inr g))))), (pp, .inr (16, fp))] s.heap := hP
  have hl := lv_entry ([.ref pa, .ref pp, .ref el, .int 1]) (n := 4) (Nat.le_of_ble_eq_true rfl)
  rw [lg_entry_eq]
  generalize (lg_sl ([.ref pa, .ref pp, .ref el, .int 1]) ++ List.replicate (4 - (lg_sl ([.ref pa, .ref pp, .ref el, .int 1])).length) Slot.unset).toArray = ls at hl ⊢
  have hl : lv_has ls 4 [(0, .ref pa), (1, .ref pp), (2, .ref el), (3, .int 1)] := hl
  refine lv_iload_n hx hb dJx4a65c_add_72be8_0 rfl (lv_at hl 3 rfl) ?_
  refine lv_aload_n hx hb dJx4a65c_add_72be8_1 rfl (lv_at hl 2 rfl) ?_
  refine va_alen (v := 10) hx hb hK hP 1 2 rfl rfl (show Int32.ofNat 10 = 10 from by decide) dJx4a65c_add_72be8_2 ?_
  refine lv_icmp_ne (tgt := 11) hx hb dJx4a65c_add_72be8_3 (by decide) (fun _ => ?_) (fun c_223 => absurd c_223 (by decide))
  refine lv_aload_n hx hb dJx4a65c_add_72be8_11 rfl (lv_at hl 2 rfl) ?_
  refine lv_iload_n hx hb dJx4a65c_add_72be8_12 rfl (lv_at hl 3 rfl) ?_
  refine lv_aload_n hx hb dJx4a65c_add_72be8_13 rfl (lv_at hl 1 rfl) ?_
  refine va_astqO (E := "java/lang/Object") hx hb hK hP hD hS 1 2 2 16 rfl rfl (hN.2.2.1 _ _ (List.mem_of_getElem? (i := 2477) (by decide +kernel))) rfl rfl (zx_bn (by decide)) dJx4a65c_add_72be8_14 (fun H locs hP hD hS => ?_)
  have hP : va_P D vwCl [(pa, .inr (4, [.int mc, .ref el, .int 1])), (el, .inl (cy 2, 10, .inr (.inr (.inr (.inr (va_up g (1 : Int32).toNatClampNeg (some pp))))))), (pp, .inr (16, fp))] H := hP
  have hD : va_D A [(pa, .inr (4, [.int mc, .ref el, .int 1])), (el, .inl (cy 2, 10, .inr (.inr (.inr (.inr (va_up g (1 : Int32).toNatClampNeg (some pp))))))), (pp, .inr (16, fp))] := hD
  refine lv_aload_n hx hb dJx4a65c_add_72be8_15 rfl (lv_at hl 0 rfl) ?_
  refine lv_iload_n hx hb dJx4a65c_add_72be8_16 rfl (lv_at hl 3 rfl) ?_
  refine lv_iconst (v := 1) hx hb dJx4a65c_add_72be8_17 (by decide) ?_
  refine lv_iadd hx hb dJx4a65c_add_72be8_18 ?_
  refine lv_topi (fun y9 ey9 => ?_)
  obtain rfl : y9 = 2 := by rw [ey9] <;> decide
  refine va_put (D := D) (ci := 4) (v := .int 2) (ty := .int) (C := RJx4a65c) (T := TJx4a65c) (N := 3) hx hb hts (fun w h => zx_Gc (uz_Jx4a65c w h)) tyJx4a65c tyJx4a65c_ok nmJx4a65c hown hK hP hD hS 0 rfl rfl 2 (by decide) (hts (.fieldLink RJx4a65c 48 "java/util/ArrayList" "size" "I") (zx_Gc mm_216)) (fun _ h9 => h9) rfl (by decide +kernel) rfl rfl (Nat.le_of_ble_eq_true rfl) dJx4a65c_add_72be8_19 (fun H locs hP hD hS => ?_)
  have hP : va_P D vwCl [(pa, .inr (4, [.int mc, .ref el, .int 2])), (el, .inl (cy 2, 10, .inr (.inr (.inr (.inr (va_up g (1 : Int32).toNatClampNeg (some pp))))))), (pp, .inr (16, fp))] H := hP
  have hD : va_D A [(pa, .inr (4, [.int mc, .ref el, .int 2])), (el, .inl (cy 2, 10, .inr (.inr (.inr (.inr (va_up g (1 : Int32).toNatClampNeg (some pp))))))), (pp, .inr (16, fp))] := hD
  have hP9 := hP.sub (ws' := [(pa, .inr (4, [.int mc, .ref el, .int 2])), (el, .inl (cy 2, 10, .inr (.inr (.inr (.inr (va_up g (1 : Int32).toNatClampNeg (some pp))))))), (pp, .inr (16, fp))]) [0, 1, 2] rfl
  have hD9 := hD.sub (ws' := [(pa, .inr (4, [.int mc, .ref el, .int 2])), (el, .inl (cy 2, 10, .inr (.inr (.inr (.inr (va_up g (1 : Int32).toNatClampNeg (some pp))))))), (pp, .inr (16, fp))]) [0, 1, 2] (by decide) rfl
  exact W.vret hx hb hr (fun t ht hW => ⟨⟨⟨el, (va_up g (1 : Int32).toNatClampNeg (some pp))⟩, rfl, ⟨zx_up_at _ (by decide), fun j9 hj9 => zx_up_ne _ (by show j9 ≠ 1; omega)⟩, zx_fin hP9 hD9 hK ht hW⟩, hS.F ht⟩) hS.2.2 dJx4a65c_add_72be8_22
set_option maxHeartbeats 4000000 in
set_option maxRecDepth 100000 in
theorem c_AL_add1_X11_1 (l : Launch) (hst : l.stackTraces = false) (D : va_G) (cy : Nat → ClassId) (ed sz : Nat) (pa : Nat) (el : Nat) (mc : Int32) (g : Nat → Option Nat) (pp : Nat) (fp : List Value) : Met l yJx4a65c_add_9ea2d wzJx4a65c_add_9ea2d ({ frames := 1, cells := 0, slots := 0, locals := 23 }) (zx_Pc D cy ed sz [.ref pa, .ref pp] [(pa, .inr (4, [.int mc, .ref el, .int 1])), (el, .inl (cy 2, 10, .inr (.inr (.inr (.inr g))))), (pp, .inr (16, fp))]) (va_Qi (fun (r9 : Int32) (u9 : Int32 × Nat × (Nat → Option Nat)) => match u9 with | (mx, qx, g2) => r9 = 1 ∧ g2 1 = some pp ∧ ∀ j, j < 1 → g2 j = g j) (fun (u9 : Int32 × Nat × (Nat → Option Nat)) (t9 : State) => match u9 with | (mx, qx, g2) => zx_At D cy (va_A [(pa, .inr (4, [.int mc, .ref el, .int 1])), (el, .inl (cy 2, 10, .inr (.inr (.inr (.inr g))))), (pp, .inr (16, fp))] sz) [(pa, .inr (4, [.int mx, .ref qx, .int 2])), (qx, .inl (cy 2, 10, .inr (.inr (.inr (.inr g2))))), (pp, .inr (16, fp))] t9) (va_A [(pa, .inr (4, [.int mc, .ref el, .int 1])), (el, .inl (cy 2, 10, .inr (.inr (.inr (.inr g))))), (pp, .inr (16, fp))] sz)) 0 0 (va_A [(pa, .inr (4, [.int mc, .ref el, .int 1])), (el, .inl (cy 2, 10, .inr (.inr (.inr (.inr g))))), (pp, .inr (16, fp))] sz) := by
  refine Met.ofW (cc := cJx4a65c_add_9ea2d) (maxL := 2) (ret := (some .boolean)) (by decide) rfl ?_
  intro p e s m args below meth c s₁ B hml hv
  obtain ⟨rfl, hsz, hP, hK, hD0, hZ, hN⟩ := hv
  have hx := B.exec
  have hb := B.bytes
  have hr := B.returns
  have hts := atoms_spec (ws := wzJx4a65c_add_9ea2d) B.pre
  have hown : s.vm.findClass RJx4a65c = some m.cls := findClass_of_methodNamed B.named
  have hlocks := B.notSynchronized
  subst hsz
  have hD := hD0.self (sz := s.heap.size)
  generalize hAe : va_A [(pa, .inr (4, [.int mc, .ref el, .int 1])), (el, .inl (cy 2, 10, .inr (.inr (.inr (.inr g))))), (pp, .inr (16, fp))] s.heap.size = A at hD hZ ⊢
  have hA : ∀ q : Nat, s.heap.size ≤ q → A q := fun q h => by rw [← hAe]; exact Or.inr h
  have hS : va_S A s.heap s.heap [] := va_S.rf
  have hP : va_P D vwCl [(pa, .inr (4, [.int mc, .ref el, .int 1])), (el, .inl (cy 2, 10, .inr (.inr (.inr (.inr g))))), (pp, .inr (16, fp))] s.heap := hP
  have hl := lv_entry ([.ref pa, .ref pp]) (n := 2) (Nat.le_of_ble_eq_true rfl)
  rw [lg_entry_eq]
  generalize (lg_sl ([.ref pa, .ref pp]) ++ List.replicate (2 - (lg_sl ([.ref pa, .ref pp])).length) Slot.unset).toArray = ls at hl ⊢
  have hl : lv_has ls 2 [(0, .ref pa), (1, .ref pp)] := hl
  refine lv_aload_n hx hb dJx4a65c_add_9ea2d_0 rfl (lv_at hl 0 rfl) ?_
  refine lv_dup hx hb dJx4a65c_add_9ea2d_1 rfl ?_
  refine va_get (D := D) (ci := 4) (v := .int mc) (C := RJx4a65c) (T := TJx4a65c) (N := 3) hx hb hts (fun w h => zx_Gc (uz_Jx4a65c w h)) hown hK hP 0 rfl rfl 0 (by decide) (hts (.fieldLink RJx4a65c 63 "java/util/ArrayList" "modCount" "I") (zx_Gc mm_220)) (fun x9 h9 => u_same (hts (.sameField "java/util/ArrayList" "java/util/AbstractList" "modCount" "I") (zx_Gc mm_219)) x9 h9) rfl dJx4a65c_add_9ea2d_2 ?_
  refine lv_iconst (v := 1) hx hb dJx4a65c_add_9ea2d_5 (by decide) ?_
  refine lv_iadd hx hb dJx4a65c_add_9ea2d_6 ?_
  refine va_put (D := D) (ci := 4) (v := .int (mc + (1 : Int32))) (ty := .int) (C := RJx4a65c) (T := TJx4a65c) (N := 3) hx hb hts (fun w h => zx_Gc (uz_Jx4a65c w h)) tyJx4a65c tyJx4a65c_ok nmJx4a65c hown hK hP hD hS 0 rfl rfl 0 (by decide) (hts (.fieldLink RJx4a65c 63 "java/util/ArrayList" "modCount" "I") (zx_Gc mm_220)) (fun x9 h9 => u_same (hts (.sameField "java/util/ArrayList" "java/util/AbstractList" "modCount" "I") (zx_Gc mm_219)) x9 h9) rfl (by decide +kernel) rfl rfl (Nat.le_of_ble_eq_true rfl) dJx4a65c_add_9ea2d_7 (fun H locs hP hD hS => ?_)
  have hP : va_P D vwCl [(pa, .inr (4, [.int (mc + (1 : Int32)), .ref el, .int 1])), (el, .inl (cy 2, 10, .inr (.inr (.inr (.inr g))))), (pp, .inr (16, fp))] H := hP
  have hD : va_D A [(pa, .inr (4, [.int (mc + (1 : Int32)), .ref el, .int 1])), (el, .inl (cy 2, 10, .inr (.inr (.inr (.inr g))))), (pp, .inr (16, fp))] := hD
  refine lv_aload_n hx hb dJx4a65c_add_9ea2d_10 rfl (lv_at hl 0 rfl) ?_
  refine lv_aload_n hx hb dJx4a65c_add_9ea2d_11 rfl (lv_at hl 1 rfl) ?_
  refine lv_aload_n hx hb dJx4a65c_add_9ea2d_12 rfl (lv_at hl 0 rfl) ?_
  refine va_get (D := D) (ci := 4) (v := .ref el) (C := RJx4a65c) (T := TJx4a65c) (N := 3) hx hb hts (fun w h => zx_Gc (uz_Jx4a65c w h)) hown hK hP 0 rfl rfl 1 (by decide) (hts (.fieldLink RJx4a65c 9 "java/util/ArrayList" "elementData" "[Ljava/lang/Object;") (zx_Gc mm_213)) (fun _ h9 => h9) rfl dJx4a65c_add_9ea2d_13 ?_
  refine lv_aload_n hx hb dJx4a65c_add_9ea2d_16 rfl (lv_at hl 0 rfl) ?_
  refine va_get (D := D) (ci := 4) (v := .int 1) (C := RJx4a65c) (T := TJx4a65c) (N := 3) hx hb hts (fun w h => zx_Gc (uz_Jx4a65c w h)) hown hK hP 0 rfl rfl 2 (by decide) (hts (.fieldLink RJx4a65c 48 "java/util/ArrayList" "size" "I") (zx_Gc mm_216)) (fun _ h9 => h9) rfl dJx4a65c_add_9ea2d_17 ?_
  have hPc := hP.sub (ws' := [(pa, .inr (4, [.int (mc + (1 : Int32)), .ref el, .int 1])), (el, .inl (cy 2, 10, .inr (.inr (.inr (.inr g))))), (pp, .inr (16, fp))]) [0, 1, 2] rfl
  have hDc := hD.sub (ws' := [(pa, .inr (4, [.int (mc + (1 : Int32)), .ref el, .int 1])), (el, .inl (cy 2, 10, .inr (.inr (.inr (.inr g))))), (pp, .inr (16, fp))]) [0, 1, 2] (by decide) rfl
  have hFc := va_free (wc := [(pa, .inr (4, [.int (mc + (1 : Int32)), .ref el, .int 1])), (el, .inl (cy 2, 10, .inr (.inr (.inr (.inr g))))), (pp, .inr (16, fp))]) hD hS hA [0, 1, 2] rfl
  refine va_callv (va_runV (As := [.ref pp, .ref el, .int 1]) (rest := []) ⟨hx, hb, hml, hown, hts⟩ (c_AL_add3_X11_1 l hst D cy ed H.size pa el (mc + (1 : Int32)) g pp fp) (cwV 3 hts (zx_GV mm_776 mm_778 mm_5 mm_77 mm_779) rfl rfl rfl (by decide +kernel) ⟨(Nat.le_of_ble_eq_true rfl), (Nat.le_of_ble_eq_true rfl)⟩) ⟨zx_blind, va_recv hK hPc (ci := 4) (q0 := 0) rfl rfl, zx_give hPc hK hDc hS hFc hZ hN⟩ rfl rfl hl.1 rfl (lv_room (Nat.le_of_ble_eq_true rfl)) dJx4a65c_add_9ea2d_20 ⟨(Nat.le_of_ble_eq_true rfl), (Nat.le_of_ble_eq_true rfl)⟩) hS (fun q _ h => hFc q h) hFc (fun u t H1 locs ht hvm hw hB hz1 hk1 hS => ?_)
  obtain ⟨qx_224, g2_225⟩ := u
  have h_226 := hw
  obtain ⟨hP, hD⟩ := zx_join (wr := []) (w1 := [(pa, .inr (4, [.int (mc + (1 : Int32)), .ref qx_224, .int 2])), (qx_224, .inl (cy 2, 10, .inr (.inr (.inr (.inr g2_225))))), (pp, .inr (16, fp))]) [0, 1, 2] [] rfl rfl (by decide) (by decide) hP hD hk1 hFc hB ht
  generalize H1 = H at hP hS ⊢
  have hP : va_P D vwCl [(pa, .inr (4, [.int (mc + (1 : Int32)), .ref qx_224, .int 2])), (qx_224, .inl (cy 2, 10, .inr (.inr (.inr (.inr g2_225))))), (pp, .inr (16, fp))] H := hP
  have hD : va_D A [(pa, .inr (4, [.int (mc + (1 : Int32)), .ref qx_224, .int 2])), (qx_224, .inl (cy 2, 10, .inr (.inr (.inr (.inr g2_225))))), (pp, .inr (16, fp))] := hD
  refine W.widen (k := 0) (n := 0) (Nat.le_of_ble_eq_true rfl) (Nat.le_of_ble_eq_true rfl) ?_
  obtain ⟨hs_227, hs_228⟩ := h_226
  refine lv_iconst (v := 1) hx hb dJx4a65c_add_9ea2d_23 (by decide) ?_
  have hP9 := hP.sub (ws' := [(pa, .inr (4, [.int (mc + (1 : Int32)), .ref qx_224, .int 2])), (qx_224, .inl (cy 2, 10, .inr (.inr (.inr (.inr g2_225))))), (pp, .inr (16, fp))]) [0, 1, 2] rfl
  have hD9 := hD.sub (ws' := [(pa, .inr (4, [.int (mc + (1 : Int32)), .ref qx_224, .int 2])), (qx_224, .inl (cy 2, 10, .inr (.inr (.inr (.inr g2_225))))), (pp, .inr (16, fp))]) [0, 1, 2] (by decide) rfl
  exact W.zret (v := 1) hx hb hr rfl (fun t ht hW => ⟨⟨1, ⟨(mc + (1 : Int32)), qx_224, g2_225⟩, rfl, ⟨rfl, ⟨hs_227, hs_228⟩⟩, zx_fin hP9 hD9 hK ht hW⟩, hS.F ht⟩) hS.2.2 dJx4a65c_add_9ea2d_24
set_option maxHeartbeats 4000000 in
set_option maxRecDepth 100000 in
theorem c_AL_add3_X3_2 (l : Launch) (hst : l.stackTraces = false) (D : va_G) (cy : Nat → ClassId) (ed sz : Nat) (pa : Nat) (el : Nat) (mc : Int32) (g : Nat → Option Nat) (pp : Nat) (fp : List Value) : Met l yJx4a65c_add_72be8 wzJx4a65c_add_72be8 ({ frames := 0, cells := 0, slots := 0, locals := 0 }) (zx_Pc D cy ed sz [.ref pa, .ref pp, .ref el, .int 2] [(pa, .inr (4, [.int mc, .ref el, .int 2])), (el, .inl (cy 2, 10, .inr (.inr (.inr (.inr g))))), (pp, .inr (8, fp))]) (va_Qv (fun (u9 : Nat × (Nat → Option Nat)) => match u9 with | (qx, g2) => g2 2 = some pp ∧ ∀ j, j < 2 → g2 j = g j) (fun (u9 : Nat × (Nat → Option Nat)) (t9 : State) => match u9 with | (qx, g2) => zx_At D cy (va_A [(pa, .inr (4, [.int mc, .ref el, .int 2])), (el, .inl (cy 2, 10, .inr (.inr (.inr (.inr g))))), (pp, .inr (8, fp))] sz) [(pa, .inr (4, [.int mc, .ref qx, .int 3])), (qx, .inl (cy 2, 10, .inr (.inr (.inr (.inr g2))))), (pp, .inr (8, fp))] t9) (va_A [(pa, .inr (4, [.int mc, .ref el, .int 2])), (el, .inl (cy 2, 10, .inr (.inr (.inr (.inr g))))), (pp, .inr (8, fp))] sz)) 0 0 (va_A [(pa, .inr (4, [.int mc, .ref el, .int 2])), (el, .inl (cy 2, 10, .inr (.inr (.inr (.inr g))))), (pp, .inr (8, fp))] sz) := by
  refine Met.ofW (cc := cJx4a65c_add_72be8) (maxL := 4) (ret := none) (by decide) rfl ?_
  intro p e s m args below meth c s₁ B hml hv
  obtain ⟨rfl, hsz, hP, hK, hD0, hZ, hN⟩ := hv
  have hx := B.exec
  have hb := B.bytes
  have hr := B.returns
  have hts := atoms_spec (ws := wzJx4a65c_add_72be8) B.pre
  have hown : s.vm.findClass RJx4a65c = some m.cls := findClass_of_methodNamed B.named
  have hlocks := B.notSynchronized
  subst hsz
  have hD := hD0.self (sz := s.heap.size)
  generalize hAe : va_A [(pa, .inr (4, [.int mc, .ref el, .int 2])), (el, .inl (cy 2, 10, .inr (.inr (.inr (.inr g))))), (pp, .inr (8, fp))] s.heap.size = A at hD hZ ⊢
  have hA : ∀ q : Nat, s.heap.size ≤ q → A q := fun q h => by rw [← hAe]; exact Or.inr h
  have hS : va_S A s.heap s.heap [] := va_S.rf
  have hP : va_P D vwCl [(pa, .inr (4, [.int mc, .ref el, .int 2])), (el, .inl (cy 2, 10, .inr (.inr (.inr (.inr g))))), (pp, .inr (8, fp))] s.heap := hP
  have hl := lv_entry ([.ref pa, .ref pp, .ref el, .int 2]) (n := 4) (Nat.le_of_ble_eq_true rfl)
  rw [lg_entry_eq]
  generalize (lg_sl ([.ref pa, .ref pp, .ref el, .int 2]) ++ List.replicate (4 - (lg_sl ([.ref pa, .ref pp, .ref el, .int 2])).length) Slot.unset).toArray = ls at hl ⊢
  have hl : lv_has ls 4 [(0, .ref pa), (1, .ref pp), (2, .ref el), (3, .int 2)] := hl
  refine lv_iload_n hx hb dJx4a65c_add_72be8_0 rfl (lv_at hl 3 rfl) ?_
  refine lv_aload_n hx hb dJx4a65c_add_72be8_1 rfl (lv_at hl 2 rfl) ?_
  refine va_alen (v := 10) hx hb hK hP 1 2 rfl rfl (show Int32.ofNat 10 = 10 from by decide) dJx4a65c_add_72be8_2 ?_
  refine lv_icmp_ne (tgt := 11) hx hb dJx4a65c_add_72be8_3 (by decide) (fun _ => ?_) (fun c_229 => absurd c_229 (by decide))
  refine lv_aload_n hx hb dJx4a65c_add_72be8_11 rfl (lv_at hl 2 rfl) ?_
  refine lv_iload_n hx hb dJx4a65c_add_72be8_12 rfl (lv_at hl 3 rfl) ?_
  refine lv_aload_n hx hb dJx4a65c_add_72be8_13 rfl (lv_at hl 1 rfl) ?_
  refine va_astqO (E := "java/lang/Object") hx hb hK hP hD hS 1 2 2 8 rfl rfl (hN.2.2.1 _ _ (List.mem_of_getElem? (i := 2472) (by decide +kernel))) rfl rfl (zx_bn (by decide)) dJx4a65c_add_72be8_14 (fun H locs hP hD hS => ?_)
  have hP : va_P D vwCl [(pa, .inr (4, [.int mc, .ref el, .int 2])), (el, .inl (cy 2, 10, .inr (.inr (.inr (.inr (va_up g (2 : Int32).toNatClampNeg (some pp))))))), (pp, .inr (8, fp))] H := hP
  have hD : va_D A [(pa, .inr (4, [.int mc, .ref el, .int 2])), (el, .inl (cy 2, 10, .inr (.inr (.inr (.inr (va_up g (2 : Int32).toNatClampNeg (some pp))))))), (pp, .inr (8, fp))] := hD
  refine lv_aload_n hx hb dJx4a65c_add_72be8_15 rfl (lv_at hl 0 rfl) ?_
  refine lv_iload_n hx hb dJx4a65c_add_72be8_16 rfl (lv_at hl 3 rfl) ?_
  refine lv_iconst (v := 1) hx hb dJx4a65c_add_72be8_17 (by decide) ?_
  refine lv_iadd hx hb dJx4a65c_add_72be8_18 ?_
  refine lv_topi (fun y9 ey9 => ?_)
  obtain rfl : y9 = 3 := by rw [ey9] <;> decide
  refine va_put (D := D) (ci := 4) (v := .int 3) (ty := .int) (C := RJx4a65c) (T := TJx4a65c) (N := 3) hx hb hts (fun w h => zx_Gc (uz_Jx4a65c w h)) tyJx4a65c tyJx4a65c_ok nmJx4a65c hown hK hP hD hS 0 rfl rfl 2 (by decide) (hts (.fieldLink RJx4a65c 48 "java/util/ArrayList" "size" "I") (zx_Gc mm_216)) (fun _ h9 => h9) rfl (by decide +kernel) rfl rfl (Nat.le_of_ble_eq_true rfl) dJx4a65c_add_72be8_19 (fun H locs hP hD hS => ?_)
  have hP : va_P D vwCl [(pa, .inr (4, [.int mc, .ref el, .int 3])), (el, .inl (cy 2, 10, .inr (.inr (.inr (.inr (va_up g (2 : Int32).toNatClampNeg (some pp))))))), (pp, .inr (8, fp))] H := hP
  have hD : va_D A [(pa, .inr (4, [.int mc, .ref el, .int 3])), (el, .inl (cy 2, 10, .inr (.inr (.inr (.inr (va_up g (2 : Int32).toNatClampNeg (some pp))))))), (pp, .inr (8, fp))] := hD
  have hP9 := hP.sub (ws' := [(pa, .inr (4, [.int mc, .ref el, .int 3])), (el, .inl (cy 2, 10, .inr (.inr (.inr (.inr (va_up g (2 : Int32).toNatClampNeg (some pp))))))), (pp, .inr (8, fp))]) [0, 1, 2] rfl
  have hD9 := hD.sub (ws' := [(pa, .inr (4, [.int mc, .ref el, .int 3])), (el, .inl (cy 2, 10, .inr (.inr (.inr (.inr (va_up g (2 : Int32).toNatClampNeg (some pp))))))), (pp, .inr (8, fp))]) [0, 1, 2] (by decide) rfl
  exact W.vret hx hb hr (fun t ht hW => ⟨⟨⟨el, (va_up g (2 : Int32).toNatClampNeg (some pp))⟩, rfl, ⟨zx_up_at _ (by decide), fun j9 hj9 => zx_up_ne _ (by show j9 ≠ 2; omega)⟩, zx_fin hP9 hD9 hK ht hW⟩, hS.F ht⟩) hS.2.2 dJx4a65c_add_72be8_22
set_option maxHeartbeats 4000000 in
set_option maxRecDepth 100000 in
theorem c_AL_add1_X3_2 (l : Launch) (hst : l.stackTraces = false) (D : va_G) (cy : Nat → ClassId) (ed sz : Nat) (pa : Nat) (el : Nat) (mc : Int32) (g : Nat → Option Nat) (pp : Nat) (fp : List Value) : Met l yJx4a65c_add_9ea2d wzJx4a65c_add_9ea2d ({ frames := 1, cells := 0, slots := 0, locals := 23 }) (zx_Pc D cy ed sz [.ref pa, .ref pp] [(pa, .inr (4, [.int mc, .ref el, .int 2])), (el, .inl (cy 2, 10, .inr (.inr (.inr (.inr g))))), (pp, .inr (8, fp))]) (va_Qi (fun (r9 : Int32) (u9 : Int32 × Nat × (Nat → Option Nat)) => match u9 with | (mx, qx, g2) => r9 = 1 ∧ g2 2 = some pp ∧ ∀ j, j < 2 → g2 j = g j) (fun (u9 : Int32 × Nat × (Nat → Option Nat)) (t9 : State) => match u9 with | (mx, qx, g2) => zx_At D cy (va_A [(pa, .inr (4, [.int mc, .ref el, .int 2])), (el, .inl (cy 2, 10, .inr (.inr (.inr (.inr g))))), (pp, .inr (8, fp))] sz) [(pa, .inr (4, [.int mx, .ref qx, .int 3])), (qx, .inl (cy 2, 10, .inr (.inr (.inr (.inr g2))))), (pp, .inr (8, fp))] t9) (va_A [(pa, .inr (4, [.int mc, .ref el, .int 2])), (el, .inl (cy 2, 10, .inr (.inr (.inr (.inr g))))), (pp, .inr (8, fp))] sz)) 0 0 (va_A [(pa, .inr (4, [.int mc, .ref el, .int 2])), (el, .inl (cy 2, 10, .inr (.inr (.inr (.inr g))))), (pp, .inr (8, fp))] sz) := by
  refine Met.ofW (cc := cJx4a65c_add_9ea2d) (maxL := 2) (ret := (some .boolean)) (by decide) rfl ?_
  intro p e s m args below meth c s₁ B hml hv
  obtain ⟨rfl, hsz, hP, hK, hD0, hZ, hN⟩ := hv
  have hx := B.exec
  have hb := B.bytes
  have hr := B.returns
  have hts := atoms_spec (ws := wzJx4a65c_add_9ea2d) B.pre
  have hown : s.vm.findClass RJx4a65c = some m.cls := findClass_of_methodNamed B.named
  have hlocks := B.notSynchronized
  subst hsz
  have hD := hD0.self (sz := s.heap.size)
  generalize hAe : va_A [(pa, .inr (4, [.int mc, .ref el, .int 2])), (el, .inl (cy 2, 10, .inr (.inr (.inr (.inr g))))), (pp, .inr (8, fp))] s.heap.size = A at hD hZ ⊢
  have hA : ∀ q : Nat, s.heap.size ≤ q → A q := fun q h => by rw [← hAe]; exact Or.inr h
  have hS : va_S A s.heap s.heap [] := va_S.rf
  have hP : va_P D vwCl [(pa, .inr (4, [.int mc, .ref el, .int 2])), (el, .inl (cy 2, 10, .inr (.inr (.inr (.inr g))))), (pp, .inr (8, fp))] s.heap := hP
  have hl := lv_entry ([.ref pa, .ref pp]) (n := 2) (Nat.le_of_ble_eq_true rfl)
  rw [lg_entry_eq]
  generalize (lg_sl ([.ref pa, .ref pp]) ++ List.replicate (2 - (lg_sl ([.ref pa, .ref pp])).length) Slot.unset).toArray = ls at hl ⊢
  have hl : lv_has ls 2 [(0, .ref pa), (1, .ref pp)] := hl
  refine lv_aload_n hx hb dJx4a65c_add_9ea2d_0 rfl (lv_at hl 0 rfl) ?_
  refine lv_dup hx hb dJx4a65c_add_9ea2d_1 rfl ?_
  refine va_get (D := D) (ci := 4) (v := .int mc) (C := RJx4a65c) (T := TJx4a65c) (N := 3) hx hb hts (fun w h => zx_Gc (uz_Jx4a65c w h)) hown hK hP 0 rfl rfl 0 (by decide) (hts (.fieldLink RJx4a65c 63 "java/util/ArrayList" "modCount" "I") (zx_Gc mm_220)) (fun x9 h9 => u_same (hts (.sameField "java/util/ArrayList" "java/util/AbstractList" "modCount" "I") (zx_Gc mm_219)) x9 h9) rfl dJx4a65c_add_9ea2d_2 ?_
  refine lv_iconst (v := 1) hx hb dJx4a65c_add_9ea2d_5 (by decide) ?_
  refine lv_iadd hx hb dJx4a65c_add_9ea2d_6 ?_
  refine va_put (D := D) (ci := 4) (v := .int (mc + (1 : Int32))) (ty := .int) (C := RJx4a65c) (T := TJx4a65c) (N := 3) hx hb hts (fun w h => zx_Gc (uz_Jx4a65c w h)) tyJx4a65c tyJx4a65c_ok nmJx4a65c hown hK hP hD hS 0 rfl rfl 0 (by decide) (hts (.fieldLink RJx4a65c 63 "java/util/ArrayList" "modCount" "I") (zx_Gc mm_220)) (fun x9 h9 => u_same (hts (.sameField "java/util/ArrayList" "java/util/AbstractList" "modCount" "I") (zx_Gc mm_219)) x9 h9) rfl (by decide +kernel) rfl rfl (Nat.le_of_ble_eq_true rfl) dJx4a65c_add_9ea2d_7 (fun H locs hP hD hS => ?_)
  have hP : va_P D vwCl [(pa, .inr (4, [.int (mc + (1 : Int32)), .ref el, .int 2])), (el, .inl (cy 2, 10, .inr (.inr (.inr (.inr g))))), (pp, .inr (8, fp))] H := hP
  have hD : va_D A [(pa, .inr (4, [.int (mc + (1 : Int32)), .ref el, .int 2])), (el, .inl (cy 2, 10, .inr (.inr (.inr (.inr g))))), (pp, .inr (8, fp))] := hD
  refine lv_aload_n hx hb dJx4a65c_add_9ea2d_10 rfl (lv_at hl 0 rfl) ?_
  refine lv_aload_n hx hb dJx4a65c_add_9ea2d_11 rfl (lv_at hl 1 rfl) ?_
  refine lv_aload_n hx hb dJx4a65c_add_9ea2d_12 rfl (lv_at hl 0 rfl) ?_
  refine va_get (D := D) (ci := 4) (v := .ref el) (C := RJx4a65c) (T := TJx4a65c) (N := 3) hx hb hts (fun w h => zx_Gc (uz_Jx4a65c w h)) hown hK hP 0 rfl rfl 1 (by decide) (hts (.fieldLink RJx4a65c 9 "java/util/ArrayList" "elementData" "[Ljava/lang/Object;") (zx_Gc mm_213)) (fun _ h9 => h9) rfl dJx4a65c_add_9ea2d_13 ?_
  refine lv_aload_n hx hb dJx4a65c_add_9ea2d_16 rfl (lv_at hl 0 rfl) ?_
  refine va_get (D := D) (ci := 4) (v := .int 2) (C := RJx4a65c) (T := TJx4a65c) (N := 3) hx hb hts (fun w h => zx_Gc (uz_Jx4a65c w h)) hown hK hP 0 rfl rfl 2 (by decide) (hts (.fieldLink RJx4a65c 48 "java/util/ArrayList" "size" "I") (zx_Gc mm_216)) (fun _ h9 => h9) rfl dJx4a65c_add_9ea2d_17 ?_
  have hPc := hP.sub (ws' := [(pa, .inr (4, [.int (mc + (1 : Int32)), .ref el, .int 2])), (el, .inl (cy 2, 10, .inr (.inr (.inr (.inr g))))), (pp, .inr (8, fp))]) [0, 1, 2] rfl
  have hDc := hD.sub (ws' := [(pa, .inr (4, [.int (mc + (1 : Int32)), .ref el, .int 2])), (el, .inl (cy 2, 10, .inr (.inr (.inr (.inr g))))), (pp, .inr (8, fp))]) [0, 1, 2] (by decide) rfl
  have hFc := va_free (wc := [(pa, .inr (4, [.int (mc + (1 : Int32)), .ref el, .int 2])), (el, .inl (cy 2, 10, .inr (.inr (.inr (.inr g))))), (pp, .inr (8, fp))]) hD hS hA [0, 1, 2] rfl
  refine va_callv (va_runV (As := [.ref pp, .ref el, .int 2]) (rest := []) ⟨hx, hb, hml, hown, hts⟩ (c_AL_add3_X3_2 l hst D cy ed H.size pa el (mc + (1 : Int32)) g pp fp) (cwV 3 hts (zx_GV mm_776 mm_778 mm_5 mm_77 mm_779) rfl rfl rfl (by decide +kernel) ⟨(Nat.le_of_ble_eq_true rfl), (Nat.le_of_ble_eq_true rfl)⟩) ⟨zx_blind, va_recv hK hPc (ci := 4) (q0 := 0) rfl rfl, zx_give hPc hK hDc hS hFc hZ hN⟩ rfl rfl hl.1 rfl (lv_room (Nat.le_of_ble_eq_true rfl)) dJx4a65c_add_9ea2d_20 ⟨(Nat.le_of_ble_eq_true rfl), (Nat.le_of_ble_eq_true rfl)⟩) hS (fun q _ h => hFc q h) hFc (fun u t H1 locs ht hvm hw hB hz1 hk1 hS => ?_)
  obtain ⟨qx_230, g2_231⟩ := u
  have h_232 := hw
  obtain ⟨hP, hD⟩ := zx_join (wr := []) (w1 := [(pa, .inr (4, [.int (mc + (1 : Int32)), .ref qx_230, .int 3])), (qx_230, .inl (cy 2, 10, .inr (.inr (.inr (.inr g2_231))))), (pp, .inr (8, fp))]) [0, 1, 2] [] rfl rfl (by decide) (by decide) hP hD hk1 hFc hB ht
  generalize H1 = H at hP hS ⊢
  have hP : va_P D vwCl [(pa, .inr (4, [.int (mc + (1 : Int32)), .ref qx_230, .int 3])), (qx_230, .inl (cy 2, 10, .inr (.inr (.inr (.inr g2_231))))), (pp, .inr (8, fp))] H := hP
  have hD : va_D A [(pa, .inr (4, [.int (mc + (1 : Int32)), .ref qx_230, .int 3])), (qx_230, .inl (cy 2, 10, .inr (.inr (.inr (.inr g2_231))))), (pp, .inr (8, fp))] := hD
  refine W.widen (k := 0) (n := 0) (Nat.le_of_ble_eq_true rfl) (Nat.le_of_ble_eq_true rfl) ?_
  obtain ⟨hs_233, hs_234⟩ := h_232
  refine lv_iconst (v := 1) hx hb dJx4a65c_add_9ea2d_23 (by decide) ?_
  have hP9 := hP.sub (ws' := [(pa, .inr (4, [.int (mc + (1 : Int32)), .ref qx_230, .int 3])), (qx_230, .inl (cy 2, 10, .inr (.inr (.inr (.inr g2_231))))), (pp, .inr (8, fp))]) [0, 1, 2] rfl
  have hD9 := hD.sub (ws' := [(pa, .inr (4, [.int (mc + (1 : Int32)), .ref qx_230, .int 3])), (qx_230, .inl (cy 2, 10, .inr (.inr (.inr (.inr g2_231))))), (pp, .inr (8, fp))]) [0, 1, 2] (by decide) rfl
  exact W.zret (v := 1) hx hb hr rfl (fun t ht hW => ⟨⟨1, ⟨(mc + (1 : Int32)), qx_230, g2_231⟩, rfl, ⟨rfl, ⟨hs_233, hs_234⟩⟩, zx_fin hP9 hD9 hK ht hW⟩, hS.F ht⟩) hS.2.2 dJx4a65c_add_9ea2d_24
set_option maxHeartbeats 4000000 in
set_option maxRecDepth 100000 in
theorem c_AL_add3_X11_2 (l : Launch) (hst : l.stackTraces = false) (D : va_G) (cy : Nat → ClassId) (ed sz : Nat) (pa : Nat) (el : Nat) (mc : Int32) (g : Nat → Option Nat) (pp : Nat) (fp : List Value) : Met l yJx4a65c_add_72be8 wzJx4a65c_add_72be8 ({ frames := 0, cells := 0, slots := 0, locals := 0 }) (zx_Pc D cy ed sz [.ref pa, .ref pp, .ref el, .int 2] [(pa, .inr (4, [.int mc, .ref el, .int 2])), (el, .inl (cy 2, 10, .inr (.inr (.inr (.inr g))))), (pp, .inr (16, fp))]) (va_Qv (fun (u9 : Nat × (Nat → Option Nat)) => match u9 with | (qx, g2) => g2 2 = some pp ∧ ∀ j, j < 2 → g2 j = g j) (fun (u9 : Nat × (Nat → Option Nat)) (t9 : State) => match u9 with | (qx, g2) => zx_At D cy (va_A [(pa, .inr (4, [.int mc, .ref el, .int 2])), (el, .inl (cy 2, 10, .inr (.inr (.inr (.inr g))))), (pp, .inr (16, fp))] sz) [(pa, .inr (4, [.int mc, .ref qx, .int 3])), (qx, .inl (cy 2, 10, .inr (.inr (.inr (.inr g2))))), (pp, .inr (16, fp))] t9) (va_A [(pa, .inr (4, [.int mc, .ref el, .int 2])), (el, .inl (cy 2, 10, .inr (.inr (.inr (.inr g))))), (pp, .inr (16, fp))] sz)) 0 0 (va_A [(pa, .inr (4, [.int mc, .ref el, .int 2])), (el, .inl (cy 2, 10, .inr (.inr (.inr (.inr g))))), (pp, .inr (16, fp))] sz) := by
  refine Met.ofW (cc := cJx4a65c_add_72be8) (maxL := 4) (ret := none) (by decide) rfl ?_
  intro p e s m args below meth c s₁ B hml hv
  obtain ⟨rfl, hsz, hP, hK, hD0, hZ, hN⟩ := hv
  have hx := B.exec
  have hb := B.bytes
  have hr := B.returns
  have hts := atoms_spec (ws := wzJx4a65c_add_72be8) B.pre
  have hown : s.vm.findClass RJx4a65c = some m.cls := findClass_of_methodNamed B.named
  have hlocks := B.notSynchronized
  subst hsz
  have hD := hD0.self (sz := s.heap.size)
  generalize hAe : va_A [(pa, .inr (4, [.int mc, .ref el, .int 2])), (el, .inl (cy 2, 10, .inr (.inr (.inr (.inr g))))), (pp, .inr (16, fp))] s.heap.size = A at hD hZ ⊢
  have hA : ∀ q : Nat, s.heap.size ≤ q → A q := fun q h => by rw [← hAe]; exact Or.inr h
  have hS : va_S A s.heap s.heap [] := va_S.rf
  have hP : va_P D vwCl [(pa, .inr (4, [.int mc, .ref el, .int 2])), (el, .inl (cy 2, 10, .inr (.inr (.inr (.inr g))))), (pp, .inr (16, fp))] s.heap := hP
  have hl := lv_entry ([.ref pa, .ref pp, .ref el, .int 2]) (n := 4) (Nat.le_of_ble_eq_true rfl)
  rw [lg_entry_eq]
  generalize (lg_sl ([.ref pa, .ref pp, .ref el, .int 2]) ++ List.replicate (4 - (lg_sl ([.ref pa, .ref pp, .ref el, .int 2])).length) Slot.unset).toArray = ls at hl ⊢
  have hl : lv_has ls 4 [(0, .ref pa), (1, .ref pp), (2, .ref el), (3, .int 2)] := hl
  refine lv_iload_n hx hb dJx4a65c_add_72be8_0 rfl (lv_at hl 3 rfl) ?_
  refine lv_aload_n hx hb dJx4a65c_add_72be8_1 rfl (lv_at hl 2 rfl) ?_
  refine va_alen (v := 10) hx hb hK hP 1 2 rfl rfl (show Int32.ofNat 10 = 10 from by decide) dJx4a65c_add_72be8_2 ?_
  refine lv_icmp_ne (tgt := 11) hx hb dJx4a65c_add_72be8_3 (by decide) (fun _ => ?_) (fun c_235 => absurd c_235 (by decide))
  refine lv_aload_n hx hb dJx4a65c_add_72be8_11 rfl (lv_at hl 2 rfl) ?_
  refine lv_iload_n hx hb dJx4a65c_add_72be8_12 rfl (lv_at hl 3 rfl) ?_
  refine lv_aload_n hx hb dJx4a65c_add_72be8_13 rfl (lv_at hl 1 rfl) ?_
  refine va_astqO (E := "java/lang/Object") hx hb hK hP hD hS 1 2 2 16 rfl rfl (hN.2.2.1 _ _ (List.mem_of_getElem? (i := 2477) (by decide +kernel))) rfl rfl (zx_bn (by decide)) dJx4a65c_add_72be8_14 (fun H locs hP hD hS => ?_)
  have hP : va_P D vwCl [(pa, .inr (4, [.int mc, .ref el, .int 2])), (el, .inl (cy 2, 10, .inr (.inr (.inr (.inr (va_up g (2 : Int32).toNatClampNeg (some pp))))))), (pp, .inr (16, fp))] H := hP
  have hD : va_D A [(pa, .inr (4, [.int mc, .ref el, .int 2])), (el, .inl (cy 2, 10, .inr (.inr (.inr (.inr (va_up g (2 : Int32).toNatClampNeg (some pp))))))), (pp, .inr (16, fp))] := hD
  refine lv_aload_n hx hb dJx4a65c_add_72be8_15 rfl (lv_at hl 0 rfl) ?_
  refine lv_iload_n hx hb dJx4a65c_add_72be8_16 rfl (lv_at hl 3 rfl) ?_
  refine lv_iconst (v := 1) hx hb dJx4a65c_add_72be8_17 (by decide) ?_
  refine lv_iadd hx hb dJx4a65c_add_72be8_18 ?_
  refine lv_topi (fun y9 ey9 => ?_)
  obtain rfl : y9 = 3 := by rw [ey9] <;> decide
  refine va_put (D := D) (ci := 4) (v := .int 3) (ty := .int) (C := RJx4a65c) (T := TJx4a65c) (N := 3) hx hb hts (fun w h => zx_Gc (uz_Jx4a65c w h)) tyJx4a65c tyJx4a65c_ok nmJx4a65c hown hK hP hD hS 0 rfl rfl 2 (by decide) (hts (.fieldLink RJx4a65c 48 "java/util/ArrayList" "size" "I") (zx_Gc mm_216)) (fun _ h9 => h9) rfl (by decide +kernel) rfl rfl (Nat.le_of_ble_eq_true rfl) dJx4a65c_add_72be8_19 (fun H locs hP hD hS => ?_)
  have hP : va_P D vwCl [(pa, .inr (4, [.int mc, .ref el, .int 3])), (el, .inl (cy 2, 10, .inr (.inr (.inr (.inr (va_up g (2 : Int32).toNatClampNeg (some pp))))))), (pp, .inr (16, fp))] H := hP
  have hD : va_D A [(pa, .inr (4, [.int mc, .ref el, .int 3])), (el, .inl (cy 2, 10, .inr (.inr (.inr (.inr (va_up g (2 : Int32).toNatClampNeg (some pp))))))), (pp, .inr (16, fp))] := hD
  have hP9 := hP.sub (ws' := [(pa, .inr (4, [.int mc, .ref el, .int 3])), (el, .inl (cy 2, 10, .inr (.inr (.inr (.inr (va_up g (2 : Int32).toNatClampNeg (some pp))))))), (pp, .inr (16, fp))]) [0, 1, 2] rfl
  have hD9 := hD.sub (ws' := [(pa, .inr (4, [.int mc, .ref el, .int 3])), (el, .inl (cy 2, 10, .inr (.inr (.inr (.inr (va_up g (2 : Int32).toNatClampNeg (some pp))))))), (pp, .inr (16, fp))]) [0, 1, 2] (by decide) rfl
  exact W.vret hx hb hr (fun t ht hW => ⟨⟨⟨el, (va_up g (2 : Int32).toNatClampNeg (some pp))⟩, rfl, ⟨zx_up_at _ (by decide), fun j9 hj9 => zx_up_ne _ (by show j9 ≠ 2; omega)⟩, zx_fin hP9 hD9 hK ht hW⟩, hS.F ht⟩) hS.2.2 dJx4a65c_add_72be8_22
set_option maxHeartbeats 4000000 in
set_option maxRecDepth 100000 in
theorem c_AL_add1_X11_2 (l : Launch) (hst : l.stackTraces = false) (D : va_G) (cy : Nat → ClassId) (ed sz : Nat) (pa : Nat) (el : Nat) (mc : Int32) (g : Nat → Option Nat) (pp : Nat) (fp : List Value) : Met l yJx4a65c_add_9ea2d wzJx4a65c_add_9ea2d ({ frames := 1, cells := 0, slots := 0, locals := 23 }) (zx_Pc D cy ed sz [.ref pa, .ref pp] [(pa, .inr (4, [.int mc, .ref el, .int 2])), (el, .inl (cy 2, 10, .inr (.inr (.inr (.inr g))))), (pp, .inr (16, fp))]) (va_Qi (fun (r9 : Int32) (u9 : Int32 × Nat × (Nat → Option Nat)) => match u9 with | (mx, qx, g2) => r9 = 1 ∧ g2 2 = some pp ∧ ∀ j, j < 2 → g2 j = g j) (fun (u9 : Int32 × Nat × (Nat → Option Nat)) (t9 : State) => match u9 with | (mx, qx, g2) => zx_At D cy (va_A [(pa, .inr (4, [.int mc, .ref el, .int 2])), (el, .inl (cy 2, 10, .inr (.inr (.inr (.inr g))))), (pp, .inr (16, fp))] sz) [(pa, .inr (4, [.int mx, .ref qx, .int 3])), (qx, .inl (cy 2, 10, .inr (.inr (.inr (.inr g2))))), (pp, .inr (16, fp))] t9) (va_A [(pa, .inr (4, [.int mc, .ref el, .int 2])), (el, .inl (cy 2, 10, .inr (.inr (.inr (.inr g))))), (pp, .inr (16, fp))] sz)) 0 0 (va_A [(pa, .inr (4, [.int mc, .ref el, .int 2])), (el, .inl (cy 2, 10, .inr (.inr (.inr (.inr g))))), (pp, .inr (16, fp))] sz) := by
  refine Met.ofW (cc := cJx4a65c_add_9ea2d) (maxL := 2) (ret := (some .boolean)) (by decide) rfl ?_
  intro p e s m args below meth c s₁ B hml hv
  obtain ⟨rfl, hsz, hP, hK, hD0, hZ, hN⟩ := hv
  have hx := B.exec
  have hb := B.bytes
  have hr := B.returns
  have hts := atoms_spec (ws := wzJx4a65c_add_9ea2d) B.pre
  have hown : s.vm.findClass RJx4a65c = some m.cls := findClass_of_methodNamed B.named
  have hlocks := B.notSynchronized
  subst hsz
  have hD := hD0.self (sz := s.heap.size)
  generalize hAe : va_A [(pa, .inr (4, [.int mc, .ref el, .int 2])), (el, .inl (cy 2, 10, .inr (.inr (.inr (.inr g))))), (pp, .inr (16, fp))] s.heap.size = A at hD hZ ⊢
  have hA : ∀ q : Nat, s.heap.size ≤ q → A q := fun q h => by rw [← hAe]; exact Or.inr h
  have hS : va_S A s.heap s.heap [] := va_S.rf
  have hP : va_P D vwCl [(pa, .inr (4, [.int mc, .ref el, .int 2])), (el, .inl (cy 2, 10, .inr (.inr (.inr (.inr g))))), (pp, .inr (16, fp))] s.heap := hP
  have hl := lv_entry ([.ref pa, .ref pp]) (n := 2) (Nat.le_of_ble_eq_true rfl)
  rw [lg_entry_eq]
  generalize (lg_sl ([.ref pa, .ref pp]) ++ List.replicate (2 - (lg_sl ([.ref pa, .ref pp])).length) Slot.unset).toArray = ls at hl ⊢
  have hl : lv_has ls 2 [(0, .ref pa), (1, .ref pp)] := hl
  refine lv_aload_n hx hb dJx4a65c_add_9ea2d_0 rfl (lv_at hl 0 rfl) ?_
  refine lv_dup hx hb dJx4a65c_add_9ea2d_1 rfl ?_
  refine va_get (D := D) (ci := 4) (v := .int mc) (C := RJx4a65c) (T := TJx4a65c) (N := 3) hx hb hts (fun w h => zx_Gc (uz_Jx4a65c w h)) hown hK hP 0 rfl rfl 0 (by decide) (hts (.fieldLink RJx4a65c 63 "java/util/ArrayList" "modCount" "I") (zx_Gc mm_220)) (fun x9 h9 => u_same (hts (.sameField "java/util/ArrayList" "java/util/AbstractList" "modCount" "I") (zx_Gc mm_219)) x9 h9) rfl dJx4a65c_add_9ea2d_2 ?_
  refine lv_iconst (v := 1) hx hb dJx4a65c_add_9ea2d_5 (by decide) ?_
  refine lv_iadd hx hb dJx4a65c_add_9ea2d_6 ?_
  refine va_put (D := D) (ci := 4) (v := .int (mc + (1 : Int32))) (ty := .int) (C := RJx4a65c) (T := TJx4a65c) (N := 3) hx hb hts (fun w h => zx_Gc (uz_Jx4a65c w h)) tyJx4a65c tyJx4a65c_ok nmJx4a65c hown hK hP hD hS 0 rfl rfl 0 (by decide) (hts (.fieldLink RJx4a65c 63 "java/util/ArrayList" "modCount" "I") (zx_Gc mm_220)) (fun x9 h9 => u_same (hts (.sameField "java/util/ArrayList" "java/util/AbstractList" "modCount" "I") (zx_Gc mm_219)) x9 h9) rfl (by decide +kernel) rfl rfl (Nat.le_of_ble_eq_true rfl) dJx4a65c_add_9ea2d_7 (fun H locs hP hD hS => ?_)
  have hP : va_P D vwCl [(pa, .inr (4, [.int (mc + (1 : Int32)), .ref el, .int 2])), (el, .inl (cy 2, 10, .inr (.inr (.inr (.inr g))))), (pp, .inr (16, fp))] H := hP
  have hD : va_D A [(pa, .inr (4, [.int (mc + (1 : Int32)), .ref el, .int 2])), (el, .inl (cy 2, 10, .inr (.inr (.inr (.inr g))))), (pp, .inr (16, fp))] := hD
  refine lv_aload_n hx hb dJx4a65c_add_9ea2d_10 rfl (lv_at hl 0 rfl) ?_
  refine lv_aload_n hx hb dJx4a65c_add_9ea2d_11 rfl (lv_at hl 1 rfl) ?_
  refine lv_aload_n hx hb dJx4a65c_add_9ea2d_12 rfl (lv_at hl 0 rfl) ?_
  refine va_get (D := D) (ci := 4) (v := .ref el) (C := RJx4a65c) (T := TJx4a65c) (N := 3) hx hb hts (fun w h => zx_Gc (uz_Jx4a65c w h)) hown hK hP 0 rfl rfl 1 (by decide) (hts (.fieldLink RJx4a65c 9 "java/util/ArrayList" "elementData" "[Ljava/lang/Object;") (zx_Gc mm_213)) (fun _ h9 => h9) rfl dJx4a65c_add_9ea2d_13 ?_
  refine lv_aload_n hx hb dJx4a65c_add_9ea2d_16 rfl (lv_at hl 0 rfl) ?_
  refine va_get (D := D) (ci := 4) (v := .int 2) (C := RJx4a65c) (T := TJx4a65c) (N := 3) hx hb hts (fun w h => zx_Gc (uz_Jx4a65c w h)) hown hK hP 0 rfl rfl 2 (by decide) (hts (.fieldLink RJx4a65c 48 "java/util/ArrayList" "size" "I") (zx_Gc mm_216)) (fun _ h9 => h9) rfl dJx4a65c_add_9ea2d_17 ?_
  have hPc := hP.sub (ws' := [(pa, .inr (4, [.int (mc + (1 : Int32)), .ref el, .int 2])), (el, .inl (cy 2, 10, .inr (.inr (.inr (.inr g))))), (pp, .inr (16, fp))]) [0, 1, 2] rfl
  have hDc := hD.sub (ws' := [(pa, .inr (4, [.int (mc + (1 : Int32)), .ref el, .int 2])), (el, .inl (cy 2, 10, .inr (.inr (.inr (.inr g))))), (pp, .inr (16, fp))]) [0, 1, 2] (by decide) rfl
  have hFc := va_free (wc := [(pa, .inr (4, [.int (mc + (1 : Int32)), .ref el, .int 2])), (el, .inl (cy 2, 10, .inr (.inr (.inr (.inr g))))), (pp, .inr (16, fp))]) hD hS hA [0, 1, 2] rfl
  refine va_callv (va_runV (As := [.ref pp, .ref el, .int 2]) (rest := []) ⟨hx, hb, hml, hown, hts⟩ (c_AL_add3_X11_2 l hst D cy ed H.size pa el (mc + (1 : Int32)) g pp fp) (cwV 3 hts (zx_GV mm_776 mm_778 mm_5 mm_77 mm_779) rfl rfl rfl (by decide +kernel) ⟨(Nat.le_of_ble_eq_true rfl), (Nat.le_of_ble_eq_true rfl)⟩) ⟨zx_blind, va_recv hK hPc (ci := 4) (q0 := 0) rfl rfl, zx_give hPc hK hDc hS hFc hZ hN⟩ rfl rfl hl.1 rfl (lv_room (Nat.le_of_ble_eq_true rfl)) dJx4a65c_add_9ea2d_20 ⟨(Nat.le_of_ble_eq_true rfl), (Nat.le_of_ble_eq_true rfl)⟩) hS (fun q _ h => hFc q h) hFc (fun u t H1 locs ht hvm hw hB hz1 hk1 hS => ?_)
  obtain ⟨qx_236, g2_237⟩ := u
  have h_238 := hw
  obtain ⟨hP, hD⟩ := zx_join (wr := []) (w1 := [(pa, .inr (4, [.int (mc + (1 : Int32)), .ref qx_236, .int 3])), (qx_236, .inl (cy 2, 10, .inr (.inr (.inr (.inr g2_237))))), (pp, .inr (16, fp))]) [0, 1, 2] [] rfl rfl (by decide) (by decide) hP hD hk1 hFc hB ht
  generalize H1 = H at hP hS ⊢
  have hP : va_P D vwCl [(pa, .inr (4, [.int (mc + (1 : Int32)), .ref qx_236, .int 3])), (qx_236, .inl (cy 2, 10, .inr (.inr (.inr (.inr g2_237))))), (pp, .inr (16, fp))] H := hP
  have hD : va_D A [(pa, .inr (4, [.int (mc + (1 : Int32)), .ref qx_236, .int 3])), (qx_236, .inl (cy 2, 10, .inr (.inr (.inr (.inr g2_237))))), (pp, .inr (16, fp))] := hD
  refine W.widen (k := 0) (n := 0) (Nat.le_of_ble_eq_true rfl) (Nat.le_of_ble_eq_true rfl) ?_
  obtain ⟨hs_239, hs_240⟩ := h_238
  refine lv_iconst (v := 1) hx hb dJx4a65c_add_9ea2d_23 (by decide) ?_
  have hP9 := hP.sub (ws' := [(pa, .inr (4, [.int (mc + (1 : Int32)), .ref qx_236, .int 3])), (qx_236, .inl (cy 2, 10, .inr (.inr (.inr (.inr g2_237))))), (pp, .inr (16, fp))]) [0, 1, 2] rfl
  have hD9 := hD.sub (ws' := [(pa, .inr (4, [.int (mc + (1 : Int32)), .ref qx_236, .int 3])), (qx_236, .inl (cy 2, 10, .inr (.inr (.inr (.inr g2_237))))), (pp, .inr (16, fp))]) [0, 1, 2] (by decide) rfl
  exact W.zret (v := 1) hx hb hr rfl (fun t ht hW => ⟨⟨1, ⟨(mc + (1 : Int32)), qx_236, g2_237⟩, rfl, ⟨rfl, ⟨hs_239, hs_240⟩⟩, zx_fin hP9 hD9 hK ht hW⟩, hS.F ht⟩) hS.2.2 dJx4a65c_add_9ea2d_24
set_option maxHeartbeats 4000000 in
set_option maxRecDepth 100000 in
theorem c_AL_add3_X3_3 (l : Launch) (hst : l.stackTraces = false) (D : va_G) (cy : Nat → ClassId) (ed sz : Nat) (pa : Nat) (el : Nat) (mc : Int32) (g : Nat → Option Nat) (pp : Nat) (fp : List Value) : Met l yJx4a65c_add_72be8 wzJx4a65c_add_72be8 ({ frames := 0, cells := 0, slots := 0, locals := 0 }) (zx_Pc D cy ed sz [.ref pa, .ref pp, .ref el, .int 3] [(pa, .inr (4, [.int mc, .ref el, .int 3])), (el, .inl (cy 2, 10, .inr (.inr (.inr (.inr g))))), (pp, .inr (8, fp))]) (va_Qv (fun (u9 : Nat × (Nat → Option Nat)) => match u9 with | (qx, g2) => g2 3 = some pp ∧ ∀ j, j < 3 → g2 j = g j) (fun (u9 : Nat × (Nat → Option Nat)) (t9 : State) => match u9 with | (qx, g2) => zx_At D cy (va_A [(pa, .inr (4, [.int mc, .ref el, .int 3])), (el, .inl (cy 2, 10, .inr (.inr (.inr (.inr g))))), (pp, .inr (8, fp))] sz) [(pa, .inr (4, [.int mc, .ref qx, .int 4])), (qx, .inl (cy 2, 10, .inr (.inr (.inr (.inr g2))))), (pp, .inr (8, fp))] t9) (va_A [(pa, .inr (4, [.int mc, .ref el, .int 3])), (el, .inl (cy 2, 10, .inr (.inr (.inr (.inr g))))), (pp, .inr (8, fp))] sz)) 0 0 (va_A [(pa, .inr (4, [.int mc, .ref el, .int 3])), (el, .inl (cy 2, 10, .inr (.inr (.inr (.inr g))))), (pp, .inr (8, fp))] sz) := by
  refine Met.ofW (cc := cJx4a65c_add_72be8) (maxL := 4) (ret := none) (by decide) rfl ?_
  intro p e s m args below meth c s₁ B hml hv
  obtain ⟨rfl, hsz, hP, hK, hD0, hZ, hN⟩ := hv
  have hx := B.exec
  have hb := B.bytes
  have hr := B.returns
  have hts := atoms_spec (ws := wzJx4a65c_add_72be8) B.pre
  have hown : s.vm.findClass RJx4a65c = some m.cls := findClass_of_methodNamed B.named
  have hlocks := B.notSynchronized
  subst hsz
  have hD := hD0.self (sz := s.heap.size)
  generalize hAe : va_A [(pa, .inr (4, [.int mc, .ref el, .int 3])), (el, .inl (cy 2, 10, .inr (.inr (.inr (.inr g))))), (pp, .inr (8, fp))] s.heap.size = A at hD hZ ⊢
  have hA : ∀ q : Nat, s.heap.size ≤ q → A q := fun q h => by rw [← hAe]; exact Or.inr h
  have hS : va_S A s.heap s.heap [] := va_S.rf
  have hP : va_P D vwCl [(pa, .inr (4, [.int mc, .ref el, .int 3])), (el, .inl (cy 2, 10, .inr (.inr (.inr (.inr g))))), (pp, .inr (8, fp))] s.heap := hP
  have hl := lv_entry ([.ref pa, .ref pp, .ref el, .int 3]) (n := 4) (Nat.le_of_ble_eq_true rfl)
  rw [lg_entry_eq]
  generalize (lg_sl ([.ref pa, .ref pp, .ref el, .int 3]) ++ List.replicate (4 - (lg_sl ([.ref pa, .ref pp, .ref el, .int 3])).length) Slot.unset).toArray = ls at hl ⊢
  have hl : lv_has ls 4 [(0, .ref pa), (1, .ref pp), (2, .ref el), (3, .int 3)] := hl
  refine lv_iload_n hx hb dJx4a65c_add_72be8_0 rfl (lv_at hl 3 rfl) ?_
  refine lv_aload_n hx hb dJx4a65c_add_72be8_1 rfl (lv_at hl 2 rfl) ?_
  refine va_alen (v := 10) hx hb hK hP 1 2 rfl rfl (show Int32.ofNat 10 = 10 from by decide) dJx4a65c_add_72be8_2 ?_
  refine lv_icmp_ne (tgt := 11) hx hb dJx4a65c_add_72be8_3 (by decide) (fun _ => ?_) (fun c_241 => absurd c_241 (by decide))
  refine lv_aload_n hx hb dJx4a65c_add_72be8_11 rfl (lv_at hl 2 rfl) ?_
  refine lv_iload_n hx hb dJx4a65c_add_72be8_12 rfl (lv_at hl 3 rfl) ?_
  refine lv_aload_n hx hb dJx4a65c_add_72be8_13 rfl (lv_at hl 1 rfl) ?_
  refine va_astqO (E := "java/lang/Object") hx hb hK hP hD hS 1 2 2 8 rfl rfl (hN.2.2.1 _ _ (List.mem_of_getElem? (i := 2472) (by decide +kernel))) rfl rfl (zx_bn (by decide)) dJx4a65c_add_72be8_14 (fun H locs hP hD hS => ?_)
  have hP : va_P D vwCl [(pa, .inr (4, [.int mc, .ref el, .int 3])), (el, .inl (cy 2, 10, .inr (.inr (.inr (.inr (va_up g (3 : Int32).toNatClampNeg (some pp))))))), (pp, .inr (8, fp))] H := hP
  have hD : va_D A [(pa, .inr (4, [.int mc, .ref el, .int 3])), (el, .inl (cy 2, 10, .inr (.inr (.inr (.inr (va_up g (3 : Int32).toNatClampNeg (some pp))))))), (pp, .inr (8, fp))] := hD
  refine lv_aload_n hx hb dJx4a65c_add_72be8_15 rfl (lv_at hl 0 rfl) ?_
  refine lv_iload_n hx hb dJx4a65c_add_72be8_16 rfl (lv_at hl 3 rfl) ?_
  refine lv_iconst (v := 1) hx hb dJx4a65c_add_72be8_17 (by decide) ?_
  refine lv_iadd hx hb dJx4a65c_add_72be8_18 ?_
  refine lv_topi (fun y9 ey9 => ?_)
  obtain rfl : y9 = 4 := by rw [ey9] <;> decide
  refine va_put (D := D) (ci := 4) (v := .int 4) (ty := .int) (C := RJx4a65c) (T := TJx4a65c) (N := 3) hx hb hts (fun w h => zx_Gc (uz_Jx4a65c w h)) tyJx4a65c tyJx4a65c_ok nmJx4a65c hown hK hP hD hS 0 rfl rfl 2 (by decide) (hts (.fieldLink RJx4a65c 48 "java/util/ArrayList" "size" "I") (zx_Gc mm_216)) (fun _ h9 => h9) rfl (by decide +kernel) rfl rfl (Nat.le_of_ble_eq_true rfl) dJx4a65c_add_72be8_19 (fun H locs hP hD hS => ?_)
  have hP : va_P D vwCl [(pa, .inr (4, [.int mc, .ref el, .int 4])), (el, .inl (cy 2, 10, .inr (.inr (.inr (.inr (va_up g (3 : Int32).toNatClampNeg (some pp))))))), (pp, .inr (8, fp))] H := hP
  have hD : va_D A [(pa, .inr (4, [.int mc, .ref el, .int 4])), (el, .inl (cy 2, 10, .inr (.inr (.inr (.inr (va_up g (3 : Int32).toNatClampNeg (some pp))))))), (pp, .inr (8, fp))] := hD
  have hP9 := hP.sub (ws' := [(pa, .inr (4, [.int mc, .ref el, .int 4])), (el, .inl (cy 2, 10, .inr (.inr (.inr (.inr (va_up g (3 : Int32).toNatClampNeg (some pp))))))), (pp, .inr (8, fp))]) [0, 1, 2] rfl
  have hD9 := hD.sub (ws' := [(pa, .inr (4, [.int mc, .ref el, .int 4])), (el, .inl (cy 2, 10, .inr (.inr (.inr (.inr (va_up g (3 : Int32).toNatClampNeg (some pp))))))), (pp, .inr (8, fp))]) [0, 1, 2] (by decide) rfl
  exact W.vret hx hb hr (fun t ht hW => ⟨⟨⟨el, (va_up g (3 : Int32).toNatClampNeg (some pp))⟩, rfl, ⟨zx_up_at _ (by decide), fun j9 hj9 => zx_up_ne _ (by show j9 ≠ 3; omega)⟩, zx_fin hP9 hD9 hK ht hW⟩, hS.F ht⟩) hS.2.2 dJx4a65c_add_72be8_22
set_option maxHeartbeats 4000000 in
set_option maxRecDepth 100000 in
theorem c_AL_add1_X3_3 (l : Launch) (hst : l.stackTraces = false) (D : va_G) (cy : Nat → ClassId) (ed sz : Nat) (pa : Nat) (el : Nat) (mc : Int32) (g : Nat → Option Nat) (pp : Nat) (fp : List Value) : Met l yJx4a65c_add_9ea2d wzJx4a65c_add_9ea2d ({ frames := 1, cells := 0, slots := 0, locals := 23 }) (zx_Pc D cy ed sz [.ref pa, .ref pp] [(pa, .inr (4, [.int mc, .ref el, .int 3])), (el, .inl (cy 2, 10, .inr (.inr (.inr (.inr g))))), (pp, .inr (8, fp))]) (va_Qi (fun (r9 : Int32) (u9 : Int32 × Nat × (Nat → Option Nat)) => match u9 with | (mx, qx, g2) => r9 = 1 ∧ g2 3 = some pp ∧ ∀ j, j < 3 → g2 j = g j) (fun (u9 : Int32 × Nat × (Nat → Option Nat)) (t9 : State) => match u9 with | (mx, qx, g2) => zx_At D cy (va_A [(pa, .inr (4, [.int mc, .ref el, .int 3])), (el, .inl (cy 2, 10, .inr (.inr (.inr (.inr g))))), (pp, .inr (8, fp))] sz) [(pa, .inr (4, [.int mx, .ref qx, .int 4])), (qx, .inl (cy 2, 10, .inr (.inr (.inr (.inr g2))))), (pp, .inr (8, fp))] t9) (va_A [(pa, .inr (4, [.int mc, .ref el, .int 3])), (el, .inl (cy 2, 10, .inr (.inr (.inr (.inr g))))), (pp, .inr (8, fp))] sz)) 0 0 (va_A [(pa, .inr (4, [.int mc, .ref el, .int 3])), (el, .inl (cy 2, 10, .inr (.inr (.inr (.inr g))))), (pp, .inr (8, fp))] sz) := by
  refine Met.ofW (cc := cJx4a65c_add_9ea2d) (maxL := 2) (ret := (some .boolean)) (by decide) rfl ?_
  intro p e s m args below meth c s₁ B hml hv
  obtain ⟨rfl, hsz, hP, hK, hD0, hZ, hN⟩ := hv
  have hx := B.exec
  have hb := B.bytes
  have hr := B.returns
  have hts := atoms_spec (ws := wzJx4a65c_add_9ea2d) B.pre
  have hown : s.vm.findClass RJx4a65c = some m.cls := findClass_of_methodNamed B.named
  have hlocks := B.notSynchronized
  subst hsz
  have hD := hD0.self (sz := s.heap.size)
  generalize hAe : va_A [(pa, .inr (4, [.int mc, .ref el, .int 3])), (el, .inl (cy 2, 10, .inr (.inr (.inr (.inr g))))), (pp, .inr (8, fp))] s.heap.size = A at hD hZ ⊢
  have hA : ∀ q : Nat, s.heap.size ≤ q → A q := fun q h => by rw [← hAe]; exact Or.inr h
  have hS : va_S A s.heap s.heap [] := va_S.rf
  have hP : va_P D vwCl [(pa, .inr (4, [.int mc, .ref el, .int 3])), (el, .inl (cy 2, 10, .inr (.inr (.inr (.inr g))))), (pp, .inr (8, fp))] s.heap := hP
  have hl := lv_entry ([.ref pa, .ref pp]) (n := 2) (Nat.le_of_ble_eq_true rfl)
  rw [lg_entry_eq]
  generalize (lg_sl ([.ref pa, .ref pp]) ++ List.replicate (2 - (lg_sl ([.ref pa, .ref pp])).length) Slot.unset).toArray = ls at hl ⊢
  have hl : lv_has ls 2 [(0, .ref pa), (1, .ref pp)] := hl
  refine lv_aload_n hx hb dJx4a65c_add_9ea2d_0 rfl (lv_at hl 0 rfl) ?_
  refine lv_dup hx hb dJx4a65c_add_9ea2d_1 rfl ?_
  refine va_get (D := D) (ci := 4) (v := .int mc) (C := RJx4a65c) (T := TJx4a65c) (N := 3) hx hb hts (fun w h => zx_Gc (uz_Jx4a65c w h)) hown hK hP 0 rfl rfl 0 (by decide) (hts (.fieldLink RJx4a65c 63 "java/util/ArrayList" "modCount" "I") (zx_Gc mm_220)) (fun x9 h9 => u_same (hts (.sameField "java/util/ArrayList" "java/util/AbstractList" "modCount" "I") (zx_Gc mm_219)) x9 h9) rfl dJx4a65c_add_9ea2d_2 ?_
  refine lv_iconst (v := 1) hx hb dJx4a65c_add_9ea2d_5 (by decide) ?_
  refine lv_iadd hx hb dJx4a65c_add_9ea2d_6 ?_
  refine va_put (D := D) (ci := 4) (v := .int (mc + (1 : Int32))) (ty := .int) (C := RJx4a65c) (T := TJx4a65c) (N := 3) hx hb hts (fun w h => zx_Gc (uz_Jx4a65c w h)) tyJx4a65c tyJx4a65c_ok nmJx4a65c hown hK hP hD hS 0 rfl rfl 0 (by decide) (hts (.fieldLink RJx4a65c 63 "java/util/ArrayList" "modCount" "I") (zx_Gc mm_220)) (fun x9 h9 => u_same (hts (.sameField "java/util/ArrayList" "java/util/AbstractList" "modCount" "I") (zx_Gc mm_219)) x9 h9) rfl (by decide +kernel) rfl rfl (Nat.le_of_ble_eq_true rfl) dJx4a65c_add_9ea2d_7 (fun H locs hP hD hS => ?_)
  have hP : va_P D vwCl [(pa, .inr (4, [.int (mc + (1 : Int32)), .ref el, .int 3])), (el, .inl (cy 2, 10, .inr (.inr (.inr (.inr g))))), (pp, .inr (8, fp))] H := hP
  have hD : va_D A [(pa, .inr (4, [.int (mc + (1 : Int32)), .ref el, .int 3])), (el, .inl (cy 2, 10, .inr (.inr (.inr (.inr g))))), (pp, .inr (8, fp))] := hD
  refine lv_aload_n hx hb dJx4a65c_add_9ea2d_10 rfl (lv_at hl 0 rfl) ?_
  refine lv_aload_n hx hb dJx4a65c_add_9ea2d_11 rfl (lv_at hl 1 rfl) ?_
  refine lv_aload_n hx hb dJx4a65c_add_9ea2d_12 rfl (lv_at hl 0 rfl) ?_
  refine va_get (D := D) (ci := 4) (v := .ref el) (C := RJx4a65c) (T := TJx4a65c) (N := 3) hx hb hts (fun w h => zx_Gc (uz_Jx4a65c w h)) hown hK hP 0 rfl rfl 1 (by decide) (hts (.fieldLink RJx4a65c 9 "java/util/ArrayList" "elementData" "[Ljava/lang/Object;") (zx_Gc mm_213)) (fun _ h9 => h9) rfl dJx4a65c_add_9ea2d_13 ?_
  refine lv_aload_n hx hb dJx4a65c_add_9ea2d_16 rfl (lv_at hl 0 rfl) ?_
  refine va_get (D := D) (ci := 4) (v := .int 3) (C := RJx4a65c) (T := TJx4a65c) (N := 3) hx hb hts (fun w h => zx_Gc (uz_Jx4a65c w h)) hown hK hP 0 rfl rfl 2 (by decide) (hts (.fieldLink RJx4a65c 48 "java/util/ArrayList" "size" "I") (zx_Gc mm_216)) (fun _ h9 => h9) rfl dJx4a65c_add_9ea2d_17 ?_
  have hPc := hP.sub (ws' := [(pa, .inr (4, [.int (mc + (1 : Int32)), .ref el, .int 3])), (el, .inl (cy 2, 10, .inr (.inr (.inr (.inr g))))), (pp, .inr (8, fp))]) [0, 1, 2] rfl
  have hDc := hD.sub (ws' := [(pa, .inr (4, [.int (mc + (1 : Int32)), .ref el, .int 3])), (el, .inl (cy 2, 10, .inr (.inr (.inr (.inr g))))), (pp, .inr (8, fp))]) [0, 1, 2] (by decide) rfl
  have hFc := va_free (wc := [(pa, .inr (4, [.int (mc + (1 : Int32)), .ref el, .int 3])), (el, .inl (cy 2, 10, .inr (.inr (.inr (.inr g))))), (pp, .inr (8, fp))]) hD hS hA [0, 1, 2] rfl
  refine va_callv (va_runV (As := [.ref pp, .ref el, .int 3]) (rest := []) ⟨hx, hb, hml, hown, hts⟩ (c_AL_add3_X3_3 l hst D cy ed H.size pa el (mc + (1 : Int32)) g pp fp) (cwV 3 hts (zx_GV mm_776 mm_778 mm_5 mm_77 mm_779) rfl rfl rfl (by decide +kernel) ⟨(Nat.le_of_ble_eq_true rfl), (Nat.le_of_ble_eq_true rfl)⟩) ⟨zx_blind, va_recv hK hPc (ci := 4) (q0 := 0) rfl rfl, zx_give hPc hK hDc hS hFc hZ hN⟩ rfl rfl hl.1 rfl (lv_room (Nat.le_of_ble_eq_true rfl)) dJx4a65c_add_9ea2d_20 ⟨(Nat.le_of_ble_eq_true rfl), (Nat.le_of_ble_eq_true rfl)⟩) hS (fun q _ h => hFc q h) hFc (fun u t H1 locs ht hvm hw hB hz1 hk1 hS => ?_)
  obtain ⟨qx_242, g2_243⟩ := u
  have h_244 := hw
  obtain ⟨hP, hD⟩ := zx_join (wr := []) (w1 := [(pa, .inr (4, [.int (mc + (1 : Int32)), .ref qx_242, .int 4])), (qx_242, .inl (cy 2, 10, .inr (.inr (.inr (.inr g2_243))))), (pp, .inr (8, fp))]) [0, 1, 2] [] rfl rfl (by decide) (by decide) hP hD hk1 hFc hB ht
  generalize H1 = H at hP hS ⊢
  have hP : va_P D vwCl [(pa, .inr (4, [.int (mc + (1 : Int32)), .ref qx_242, .int 4])), (qx_242, .inl (cy 2, 10, .inr (.inr (.inr (.inr g2_243))))), (pp, .inr (8, fp))] H := hP
  have hD : va_D A [(pa, .inr (4, [.int (mc + (1 : Int32)), .ref qx_242, .int 4])), (qx_242, .inl (cy 2, 10, .inr (.inr (.inr (.inr g2_243))))), (pp, .inr (8, fp))] := hD
  refine W.widen (k := 0) (n := 0) (Nat.le_of_ble_eq_true rfl) (Nat.le_of_ble_eq_true rfl) ?_
  obtain ⟨hs_245, hs_246⟩ := h_244
  refine lv_iconst (v := 1) hx hb dJx4a65c_add_9ea2d_23 (by decide) ?_
  have hP9 := hP.sub (ws' := [(pa, .inr (4, [.int (mc + (1 : Int32)), .ref qx_242, .int 4])), (qx_242, .inl (cy 2, 10, .inr (.inr (.inr (.inr g2_243))))), (pp, .inr (8, fp))]) [0, 1, 2] rfl
  have hD9 := hD.sub (ws' := [(pa, .inr (4, [.int (mc + (1 : Int32)), .ref qx_242, .int 4])), (qx_242, .inl (cy 2, 10, .inr (.inr (.inr (.inr g2_243))))), (pp, .inr (8, fp))]) [0, 1, 2] (by decide) rfl
  exact W.zret (v := 1) hx hb hr rfl (fun t ht hW => ⟨⟨1, ⟨(mc + (1 : Int32)), qx_242, g2_243⟩, rfl, ⟨rfl, ⟨hs_245, hs_246⟩⟩, zx_fin hP9 hD9 hK ht hW⟩, hS.F ht⟩) hS.2.2 dJx4a65c_add_9ea2d_24
set_option maxHeartbeats 4000000 in
set_option maxRecDepth 100000 in
theorem c_AL_add3_X11_3 (l : Launch) (hst : l.stackTraces = false) (D : va_G) (cy : Nat → ClassId) (ed sz : Nat) (pa : Nat) (el : Nat) (mc : Int32) (g : Nat → Option Nat) (pp : Nat) (fp : List Value) : Met l yJx4a65c_add_72be8 wzJx4a65c_add_72be8 ({ frames := 0, cells := 0, slots := 0, locals := 0 }) (zx_Pc D cy ed sz [.ref pa, .ref pp, .ref el, .int 3] [(pa, .inr (4, [.int mc, .ref el, .int 3])), (el, .inl (cy 2, 10, .inr (.inr (.inr (.inr g))))), (pp, .inr (16, fp))]) (va_Qv (fun (u9 : Nat × (Nat → Option Nat)) => match u9 with | (qx, g2) => g2 3 = some pp ∧ ∀ j, j < 3 → g2 j = g j) (fun (u9 : Nat × (Nat → Option Nat)) (t9 : State) => match u9 with | (qx, g2) => zx_At D cy (va_A [(pa, .inr (4, [.int mc, .ref el, .int 3])), (el, .inl (cy 2, 10, .inr (.inr (.inr (.inr g))))), (pp, .inr (16, fp))] sz) [(pa, .inr (4, [.int mc, .ref qx, .int 4])), (qx, .inl (cy 2, 10, .inr (.inr (.inr (.inr g2))))), (pp, .inr (16, fp))] t9) (va_A [(pa, .inr (4, [.int mc, .ref el, .int 3])), (el, .inl (cy 2, 10, .inr (.inr (.inr (.inr g))))), (pp, .inr (16, fp))] sz)) 0 0 (va_A [(pa, .inr (4, [.int mc, .ref el, .int 3])), (el, .inl (cy 2, 10, .inr (.inr (.inr (.inr g))))), (pp, .inr (16, fp))] sz) := by
  refine Met.ofW (cc := cJx4a65c_add_72be8) (maxL := 4) (ret := none) (by decide) rfl ?_
  intro p e s m args below meth c s₁ B hml hv
  obtain ⟨rfl, hsz, hP, hK, hD0, hZ, hN⟩ := hv
  have hx := B.exec
  have hb := B.bytes
  have hr := B.returns
  have hts := atoms_spec (ws := wzJx4a65c_add_72be8) B.pre
  have hown : s.vm.findClass RJx4a65c = some m.cls := findClass_of_methodNamed B.named
  have hlocks := B.notSynchronized
  subst hsz
  have hD := hD0.self (sz := s.heap.size)
  generalize hAe : va_A [(pa, .inr (4, [.int mc, .ref el, .int 3])), (el, .inl (cy 2, 10, .inr (.inr (.inr (.inr g))))), (pp, .inr (16, fp))] s.heap.size = A at hD hZ ⊢
  have hA : ∀ q : Nat, s.heap.size ≤ q → A q := fun q h => by rw [← hAe]; exact Or.inr h
  have hS : va_S A s.heap s.heap [] := va_S.rf
  have hP : va_P D vwCl [(pa, .inr (4, [.int mc, .ref el, .int 3])), (el, .inl (cy 2, 10, .inr (.inr (.inr (.inr g))))), (pp, .inr (16, fp))] s.heap := hP
  have hl := lv_entry ([.ref pa, .ref pp, .ref el, .int 3]) (n := 4) (Nat.le_of_ble_eq_true rfl)
  rw [lg_entry_eq]
  generalize (lg_sl ([.ref pa, .ref pp, .ref el, .int 3]) ++ List.replicate (4 - (lg_sl ([.ref pa, .ref pp, .ref el, .int 3])).length) Slot.unset).toArray = ls at hl ⊢
  have hl : lv_has ls 4 [(0, .ref pa), (1, .ref pp), (2, .ref el), (3, .int 3)] := hl
  refine lv_iload_n hx hb dJx4a65c_add_72be8_0 rfl (lv_at hl 3 rfl) ?_
  refine lv_aload_n hx hb dJx4a65c_add_72be8_1 rfl (lv_at hl 2 rfl) ?_
  refine va_alen (v := 10) hx hb hK hP 1 2 rfl rfl (show Int32.ofNat 10 = 10 from by decide) dJx4a65c_add_72be8_2 ?_
  refine lv_icmp_ne (tgt := 11) hx hb dJx4a65c_add_72be8_3 (by decide) (fun _ => ?_) (fun c_247 => absurd c_247 (by decide))
  refine lv_aload_n hx hb dJx4a65c_add_72be8_11 rfl (lv_at hl 2 rfl) ?_
  refine lv_iload_n hx hb dJx4a65c_add_72be8_12 rfl (lv_at hl 3 rfl) ?_
  refine lv_aload_n hx hb dJx4a65c_add_72be8_13 rfl (lv_at hl 1 rfl) ?_
  refine va_astqO (E := "java/lang/Object") hx hb hK hP hD hS 1 2 2 16 rfl rfl (hN.2.2.1 _ _ (List.mem_of_getElem? (i := 2477) (by decide +kernel))) rfl rfl (zx_bn (by decide)) dJx4a65c_add_72be8_14 (fun H locs hP hD hS => ?_)
  have hP : va_P D vwCl [(pa, .inr (4, [.int mc, .ref el, .int 3])), (el, .inl (cy 2, 10, .inr (.inr (.inr (.inr (va_up g (3 : Int32).toNatClampNeg (some pp))))))), (pp, .inr (16, fp))] H := hP
  have hD : va_D A [(pa, .inr (4, [.int mc, .ref el, .int 3])), (el, .inl (cy 2, 10, .inr (.inr (.inr (.inr (va_up g (3 : Int32).toNatClampNeg (some pp))))))), (pp, .inr (16, fp))] := hD
  refine lv_aload_n hx hb dJx4a65c_add_72be8_15 rfl (lv_at hl 0 rfl) ?_
  refine lv_iload_n hx hb dJx4a65c_add_72be8_16 rfl (lv_at hl 3 rfl) ?_
  refine lv_iconst (v := 1) hx hb dJx4a65c_add_72be8_17 (by decide) ?_
  refine lv_iadd hx hb dJx4a65c_add_72be8_18 ?_
  refine lv_topi (fun y9 ey9 => ?_)
  obtain rfl : y9 = 4 := by rw [ey9] <;> decide
  refine va_put (D := D) (ci := 4) (v := .int 4) (ty := .int) (C := RJx4a65c) (T := TJx4a65c) (N := 3) hx hb hts (fun w h => zx_Gc (uz_Jx4a65c w h)) tyJx4a65c tyJx4a65c_ok nmJx4a65c hown hK hP hD hS 0 rfl rfl 2 (by decide) (hts (.fieldLink RJx4a65c 48 "java/util/ArrayList" "size" "I") (zx_Gc mm_216)) (fun _ h9 => h9) rfl (by decide +kernel) rfl rfl (Nat.le_of_ble_eq_true rfl) dJx4a65c_add_72be8_19 (fun H locs hP hD hS => ?_)
  have hP : va_P D vwCl [(pa, .inr (4, [.int mc, .ref el, .int 4])), (el, .inl (cy 2, 10, .inr (.inr (.inr (.inr (va_up g (3 : Int32).toNatClampNeg (some pp))))))), (pp, .inr (16, fp))] H := hP
  have hD : va_D A [(pa, .inr (4, [.int mc, .ref el, .int 4])), (el, .inl (cy 2, 10, .inr (.inr (.inr (.inr (va_up g (3 : Int32).toNatClampNeg (some pp))))))), (pp, .inr (16, fp))] := hD
  have hP9 := hP.sub (ws' := [(pa, .inr (4, [.int mc, .ref el, .int 4])), (el, .inl (cy 2, 10, .inr (.inr (.inr (.inr (va_up g (3 : Int32).toNatClampNeg (some pp))))))), (pp, .inr (16, fp))]) [0, 1, 2] rfl
  have hD9 := hD.sub (ws' := [(pa, .inr (4, [.int mc, .ref el, .int 4])), (el, .inl (cy 2, 10, .inr (.inr (.inr (.inr (va_up g (3 : Int32).toNatClampNeg (some pp))))))), (pp, .inr (16, fp))]) [0, 1, 2] (by decide) rfl
  exact W.vret hx hb hr (fun t ht hW => ⟨⟨⟨el, (va_up g (3 : Int32).toNatClampNeg (some pp))⟩, rfl, ⟨zx_up_at _ (by decide), fun j9 hj9 => zx_up_ne _ (by show j9 ≠ 3; omega)⟩, zx_fin hP9 hD9 hK ht hW⟩, hS.F ht⟩) hS.2.2 dJx4a65c_add_72be8_22
set_option maxHeartbeats 4000000 in
set_option maxRecDepth 100000 in
theorem c_AL_add1_X11_3 (l : Launch) (hst : l.stackTraces = false) (D : va_G) (cy : Nat → ClassId) (ed sz : Nat) (pa : Nat) (el : Nat) (mc : Int32) (g : Nat → Option Nat) (pp : Nat) (fp : List Value) : Met l yJx4a65c_add_9ea2d wzJx4a65c_add_9ea2d ({ frames := 1, cells := 0, slots := 0, locals := 23 }) (zx_Pc D cy ed sz [.ref pa, .ref pp] [(pa, .inr (4, [.int mc, .ref el, .int 3])), (el, .inl (cy 2, 10, .inr (.inr (.inr (.inr g))))), (pp, .inr (16, fp))]) (va_Qi (fun (r9 : Int32) (u9 : Int32 × Nat × (Nat → Option Nat)) => match u9 with | (mx, qx, g2) => r9 = 1 ∧ g2 3 = some pp ∧ ∀ j, j < 3 → g2 j = g j) (fun (u9 : Int32 × Nat × (Nat → Option Nat)) (t9 : State) => match u9 with | (mx, qx, g2) => zx_At D cy (va_A [(pa, .inr (4, [.int mc, .ref el, .int 3])), (el, .inl (cy 2, 10, .inr (.inr (.inr (.inr g))))), (pp, .inr (16, fp))] sz) [(pa, .inr (4, [.int mx, .ref qx, .int 4])), (qx, .inl (cy 2, 10, .inr (.inr (.inr (.inr g2))))), (pp, .inr (16, fp))] t9) (va_A [(pa, .inr (4, [.int mc, .ref el, .int 3])), (el, .inl (cy 2, 10, .inr (.inr (.inr (.inr g))))), (pp, .inr (16, fp))] sz)) 0 0 (va_A [(pa, .inr (4, [.int mc, .ref el, .int 3])), (el, .inl (cy 2, 10, .inr (.inr (.inr (.inr g))))), (pp, .inr (16, fp))] sz) := by
  refine Met.ofW (cc := cJx4a65c_add_9ea2d) (maxL := 2) (ret := (some .boolean)) (by decide) rfl ?_
  intro p e s m args below meth c s₁ B hml hv
  obtain ⟨rfl, hsz, hP, hK, hD0, hZ, hN⟩ := hv
  have hx := B.exec
  have hb := B.bytes
  have hr := B.returns
  have hts := atoms_spec (ws := wzJx4a65c_add_9ea2d) B.pre
  have hown : s.vm.findClass RJx4a65c = some m.cls := findClass_of_methodNamed B.named
  have hlocks := B.notSynchronized
  subst hsz
  have hD := hD0.self (sz := s.heap.size)
  generalize hAe : va_A [(pa, .inr (4, [.int mc, .ref el, .int 3])), (el, .inl (cy 2, 10, .inr (.inr (.inr (.inr g))))), (pp, .inr (16, fp))] s.heap.size = A at hD hZ ⊢
  have hA : ∀ q : Nat, s.heap.size ≤ q → A q := fun q h => by rw [← hAe]; exact Or.inr h
  have hS : va_S A s.heap s.heap [] := va_S.rf
  have hP : va_P D vwCl [(pa, .inr (4, [.int mc, .ref el, .int 3])), (el, .inl (cy 2, 10, .inr (.inr (.inr (.inr g))))), (pp, .inr (16, fp))] s.heap := hP
  have hl := lv_entry ([.ref pa, .ref pp]) (n := 2) (Nat.le_of_ble_eq_true rfl)
  rw [lg_entry_eq]
  generalize (lg_sl ([.ref pa, .ref pp]) ++ List.replicate (2 - (lg_sl ([.ref pa, .ref pp])).length) Slot.unset).toArray = ls at hl ⊢
  have hl : lv_has ls 2 [(0, .ref pa), (1, .ref pp)] := hl
  refine lv_aload_n hx hb dJx4a65c_add_9ea2d_0 rfl (lv_at hl 0 rfl) ?_
  refine lv_dup hx hb dJx4a65c_add_9ea2d_1 rfl ?_
  refine va_get (D := D) (ci := 4) (v := .int mc) (C := RJx4a65c) (T := TJx4a65c) (N := 3) hx hb hts (fun w h => zx_Gc (uz_Jx4a65c w h)) hown hK hP 0 rfl rfl 0 (by decide) (hts (.fieldLink RJx4a65c 63 "java/util/ArrayList" "modCount" "I") (zx_Gc mm_220)) (fun x9 h9 => u_same (hts (.sameField "java/util/ArrayList" "java/util/AbstractList" "modCount" "I") (zx_Gc mm_219)) x9 h9) rfl dJx4a65c_add_9ea2d_2 ?_
  refine lv_iconst (v := 1) hx hb dJx4a65c_add_9ea2d_5 (by decide) ?_
  refine lv_iadd hx hb dJx4a65c_add_9ea2d_6 ?_
  refine va_put (D := D) (ci := 4) (v := .int (mc + (1 : Int32))) (ty := .int) (C := RJx4a65c) (T := TJx4a65c) (N := 3) hx hb hts (fun w h => zx_Gc (uz_Jx4a65c w h)) tyJx4a65c tyJx4a65c_ok nmJx4a65c hown hK hP hD hS 0 rfl rfl 0 (by decide) (hts (.fieldLink RJx4a65c 63 "java/util/ArrayList" "modCount" "I") (zx_Gc mm_220)) (fun x9 h9 => u_same (hts (.sameField "java/util/ArrayList" "java/util/AbstractList" "modCount" "I") (zx_Gc mm_219)) x9 h9) rfl (by decide +kernel) rfl rfl (Nat.le_of_ble_eq_true rfl) dJx4a65c_add_9ea2d_7 (fun H locs hP hD hS => ?_)
  have hP : va_P D vwCl [(pa, .inr (4, [.int (mc + (1 : Int32)), .ref el, .int 3])), (el, .inl (cy 2, 10, .inr (.inr (.inr (.inr g))))), (pp, .inr (16, fp))] H := hP
  have hD : va_D A [(pa, .inr (4, [.int (mc + (1 : Int32)), .ref el, .int 3])), (el, .inl (cy 2, 10, .inr (.inr (.inr (.inr g))))), (pp, .inr (16, fp))] := hD
  refine lv_aload_n hx hb dJx4a65c_add_9ea2d_10 rfl (lv_at hl 0 rfl) ?_
  refine lv_aload_n hx hb dJx4a65c_add_9ea2d_11 rfl (lv_at hl 1 rfl) ?_
  refine lv_aload_n hx hb dJx4a65c_add_9ea2d_12 rfl (lv_at hl 0 rfl) ?_
  refine va_get (D := D) (ci := 4) (v := .ref el) (C := RJx4a65c) (T := TJx4a65c) (N := 3) hx hb hts (fun w h => zx_Gc (uz_Jx4a65c w h)) hown hK hP 0 rfl rfl 1 (by decide) (hts (.fieldLink RJx4a65c 9 "java/util/ArrayList" "elementData" "[Ljava/lang/Object;") (zx_Gc mm_213)) (fun _ h9 => h9) rfl dJx4a65c_add_9ea2d_13 ?_
  refine lv_aload_n hx hb dJx4a65c_add_9ea2d_16 rfl (lv_at hl 0 rfl) ?_
  refine va_get (D := D) (ci := 4) (v := .int 3) (C := RJx4a65c) (T := TJx4a65c) (N := 3) hx hb hts (fun w h => zx_Gc (uz_Jx4a65c w h)) hown hK hP 0 rfl rfl 2 (by decide) (hts (.fieldLink RJx4a65c 48 "java/util/ArrayList" "size" "I") (zx_Gc mm_216)) (fun _ h9 => h9) rfl dJx4a65c_add_9ea2d_17 ?_
  have hPc := hP.sub (ws' := [(pa, .inr (4, [.int (mc + (1 : Int32)), .ref el, .int 3])), (el, .inl (cy 2, 10, .inr (.inr (.inr (.inr g))))), (pp, .inr (16, fp))]) [0, 1, 2] rfl
  have hDc := hD.sub (ws' := [(pa, .inr (4, [.int (mc + (1 : Int32)), .ref el, .int 3])), (el, .inl (cy 2, 10, .inr (.inr (.inr (.inr g))))), (pp, .inr (16, fp))]) [0, 1, 2] (by decide) rfl
  have hFc := va_free (wc := [(pa, .inr (4, [.int (mc + (1 : Int32)), .ref el, .int 3])), (el, .inl (cy 2, 10, .inr (.inr (.inr (.inr g))))), (pp, .inr (16, fp))]) hD hS hA [0, 1, 2] rfl
  refine va_callv (va_runV (As := [.ref pp, .ref el, .int 3]) (rest := []) ⟨hx, hb, hml, hown, hts⟩ (c_AL_add3_X11_3 l hst D cy ed H.size pa el (mc + (1 : Int32)) g pp fp) (cwV 3 hts (zx_GV mm_776 mm_778 mm_5 mm_77 mm_779) rfl rfl rfl (by decide +kernel) ⟨(Nat.le_of_ble_eq_true rfl), (Nat.le_of_ble_eq_true rfl)⟩) ⟨zx_blind, va_recv hK hPc (ci := 4) (q0 := 0) rfl rfl, zx_give hPc hK hDc hS hFc hZ hN⟩ rfl rfl hl.1 rfl (lv_room (Nat.le_of_ble_eq_true rfl)) dJx4a65c_add_9ea2d_20 ⟨(Nat.le_of_ble_eq_true rfl), (Nat.le_of_ble_eq_true rfl)⟩) hS (fun q _ h => hFc q h) hFc (fun u t H1 locs ht hvm hw hB hz1 hk1 hS => ?_)
  obtain ⟨qx_248, g2_249⟩ := u
  have h_250 := hw
  obtain ⟨hP, hD⟩ := zx_join (wr := []) (w1 := [(pa, .inr (4, [.int (mc + (1 : Int32)), .ref qx_248, .int 4])), (qx_248, .inl (cy 2, 10, .inr (.inr (.inr (.inr g2_249))))), (pp, .inr (16, fp))]) [0, 1, 2] [] rfl rfl (by decide) (by decide) hP hD hk1 hFc hB ht
  generalize H1 = H at hP hS ⊢
  have hP : va_P D vwCl [(pa, .inr (4, [.int (mc + (1 : Int32)), .ref qx_248, .int 4])), (qx_248, .inl (cy 2, 10, .inr (.inr (.inr (.inr g2_249))))), (pp, .inr (16, fp))] H := hP
  have hD : va_D A [(pa, .inr (4, [.int (mc + (1 : Int32)), .ref qx_248, .int 4])), (qx_248, .inl (cy 2, 10, .inr (.inr (.inr (.inr g2_249))))), (pp, .inr (16, fp))] := hD
  refine W.widen (k := 0) (n := 0) (Nat.le_of_ble_eq_true rfl) (Nat.le_of_ble_eq_true rfl) ?_
  obtain ⟨hs_251, hs_252⟩ := h_250
  refine lv_iconst (v := 1) hx hb dJx4a65c_add_9ea2d_23 (by decide) ?_
  have hP9 := hP.sub (ws' := [(pa, .inr (4, [.int (mc + (1 : Int32)), .ref qx_248, .int 4])), (qx_248, .inl (cy 2, 10, .inr (.inr (.inr (.inr g2_249))))), (pp, .inr (16, fp))]) [0, 1, 2] rfl
  have hD9 := hD.sub (ws' := [(pa, .inr (4, [.int (mc + (1 : Int32)), .ref qx_248, .int 4])), (qx_248, .inl (cy 2, 10, .inr (.inr (.inr (.inr g2_249))))), (pp, .inr (16, fp))]) [0, 1, 2] (by decide) rfl
  exact W.zret (v := 1) hx hb hr rfl (fun t ht hW => ⟨⟨1, ⟨(mc + (1 : Int32)), qx_248, g2_249⟩, rfl, ⟨rfl, ⟨hs_251, hs_252⟩⟩, zx_fin hP9 hD9 hK ht hW⟩, hS.F ht⟩) hS.2.2 dJx4a65c_add_9ea2d_24
set_option maxHeartbeats 4000000 in
set_option maxRecDepth 100000 in
theorem c_AL_add3_X3_4 (l : Launch) (hst : l.stackTraces = false) (D : va_G) (cy : Nat → ClassId) (ed sz : Nat) (pa : Nat) (el : Nat) (mc : Int32) (g : Nat → Option Nat) (pp : Nat) (fp : List Value) : Met l yJx4a65c_add_72be8 wzJx4a65c_add_72be8 ({ frames := 0, cells := 0, slots := 0, locals := 0 }) (zx_Pc D cy ed sz [.ref pa, .ref pp, .ref el, .int 4] [(pa, .inr (4, [.int mc, .ref el, .int 4])), (el, .inl (cy 2, 10, .inr (.inr (.inr (.inr g))))), (pp, .inr (8, fp))]) (va_Qv (fun (u9 : Nat × (Nat → Option Nat)) => match u9 with | (qx, g2) => g2 4 = some pp ∧ ∀ j, j < 4 → g2 j = g j) (fun (u9 : Nat × (Nat → Option Nat)) (t9 : State) => match u9 with | (qx, g2) => zx_At D cy (va_A [(pa, .inr (4, [.int mc, .ref el, .int 4])), (el, .inl (cy 2, 10, .inr (.inr (.inr (.inr g))))), (pp, .inr (8, fp))] sz) [(pa, .inr (4, [.int mc, .ref qx, .int 5])), (qx, .inl (cy 2, 10, .inr (.inr (.inr (.inr g2))))), (pp, .inr (8, fp))] t9) (va_A [(pa, .inr (4, [.int mc, .ref el, .int 4])), (el, .inl (cy 2, 10, .inr (.inr (.inr (.inr g))))), (pp, .inr (8, fp))] sz)) 0 0 (va_A [(pa, .inr (4, [.int mc, .ref el, .int 4])), (el, .inl (cy 2, 10, .inr (.inr (.inr (.inr g))))), (pp, .inr (8, fp))] sz) := by
  refine Met.ofW (cc := cJx4a65c_add_72be8) (maxL := 4) (ret := none) (by decide) rfl ?_
  intro p e s m args below meth c s₁ B hml hv
  obtain ⟨rfl, hsz, hP, hK, hD0, hZ, hN⟩ := hv
  have hx := B.exec
  have hb := B.bytes
  have hr := B.returns
  have hts := atoms_spec (ws := wzJx4a65c_add_72be8) B.pre
  have hown : s.vm.findClass RJx4a65c = some m.cls := findClass_of_methodNamed B.named
  have hlocks := B.notSynchronized
  subst hsz
  have hD := hD0.self (sz := s.heap.size)
  generalize hAe : va_A [(pa, .inr (4, [.int mc, .ref el, .int 4])), (el, .inl (cy 2, 10, .inr (.inr (.inr (.inr g))))), (pp, .inr (8, fp))] s.heap.size = A at hD hZ ⊢
  have hA : ∀ q : Nat, s.heap.size ≤ q → A q := fun q h => by rw [← hAe]; exact Or.inr h
  have hS : va_S A s.heap s.heap [] := va_S.rf
  have hP : va_P D vwCl [(pa, .inr (4, [.int mc, .ref el, .int 4])), (el, .inl (cy 2, 10, .inr (.inr (.inr (.inr g))))), (pp, .inr (8, fp))] s.heap := hP
  have hl := lv_entry ([.ref pa, .ref pp, .ref el, .int 4]) (n := 4) (Nat.le_of_ble_eq_true rfl)
  rw [lg_entry_eq]
  generalize (lg_sl ([.ref pa, .ref pp, .ref el, .int 4]) ++ List.replicate (4 - (lg_sl ([.ref pa, .ref pp, .ref el, .int 4])).length) Slot.unset).toArray = ls at hl ⊢
  have hl : lv_has ls 4 [(0, .ref pa), (1, .ref pp), (2, .ref el), (3, .int 4)] := hl
  refine lv_iload_n hx hb dJx4a65c_add_72be8_0 rfl (lv_at hl 3 rfl) ?_
  refine lv_aload_n hx hb dJx4a65c_add_72be8_1 rfl (lv_at hl 2 rfl) ?_
  refine va_alen (v := 10) hx hb hK hP 1 2 rfl rfl (show Int32.ofNat 10 = 10 from by decide) dJx4a65c_add_72be8_2 ?_
  refine lv_icmp_ne (tgt := 11) hx hb dJx4a65c_add_72be8_3 (by decide) (fun _ => ?_) (fun c_253 => absurd c_253 (by decide))
  refine lv_aload_n hx hb dJx4a65c_add_72be8_11 rfl (lv_at hl 2 rfl) ?_
  refine lv_iload_n hx hb dJx4a65c_add_72be8_12 rfl (lv_at hl 3 rfl) ?_
  refine lv_aload_n hx hb dJx4a65c_add_72be8_13 rfl (lv_at hl 1 rfl) ?_
  refine va_astqO (E := "java/lang/Object") hx hb hK hP hD hS 1 2 2 8 rfl rfl (hN.2.2.1 _ _ (List.mem_of_getElem? (i := 2472) (by decide +kernel))) rfl rfl (zx_bn (by decide)) dJx4a65c_add_72be8_14 (fun H locs hP hD hS => ?_)
  have hP : va_P D vwCl [(pa, .inr (4, [.int mc, .ref el, .int 4])), (el, .inl (cy 2, 10, .inr (.inr (.inr (.inr (va_up g (4 : Int32).toNatClampNeg (some pp))))))), (pp, .inr (8, fp))] H := hP
  have hD : va_D A [(pa, .inr (4, [.int mc, .ref el, .int 4])), (el, .inl (cy 2, 10, .inr (.inr (.inr (.inr (va_up g (4 : Int32).toNatClampNeg (some pp))))))), (pp, .inr (8, fp))] := hD
  refine lv_aload_n hx hb dJx4a65c_add_72be8_15 rfl (lv_at hl 0 rfl) ?_
  refine lv_iload_n hx hb dJx4a65c_add_72be8_16 rfl (lv_at hl 3 rfl) ?_
  refine lv_iconst (v := 1) hx hb dJx4a65c_add_72be8_17 (by decide) ?_
  refine lv_iadd hx hb dJx4a65c_add_72be8_18 ?_
  refine lv_topi (fun y9 ey9 => ?_)
  obtain rfl : y9 = 5 := by rw [ey9] <;> decide
  refine va_put (D := D) (ci := 4) (v := .int 5) (ty := .int) (C := RJx4a65c) (T := TJx4a65c) (N := 3) hx hb hts (fun w h => zx_Gc (uz_Jx4a65c w h)) tyJx4a65c tyJx4a65c_ok nmJx4a65c hown hK hP hD hS 0 rfl rfl 2 (by decide) (hts (.fieldLink RJx4a65c 48 "java/util/ArrayList" "size" "I") (zx_Gc mm_216)) (fun _ h9 => h9) rfl (by decide +kernel) rfl rfl (Nat.le_of_ble_eq_true rfl) dJx4a65c_add_72be8_19 (fun H locs hP hD hS => ?_)
  have hP : va_P D vwCl [(pa, .inr (4, [.int mc, .ref el, .int 5])), (el, .inl (cy 2, 10, .inr (.inr (.inr (.inr (va_up g (4 : Int32).toNatClampNeg (some pp))))))), (pp, .inr (8, fp))] H := hP
  have hD : va_D A [(pa, .inr (4, [.int mc, .ref el, .int 5])), (el, .inl (cy 2, 10, .inr (.inr (.inr (.inr (va_up g (4 : Int32).toNatClampNeg (some pp))))))), (pp, .inr (8, fp))] := hD
  have hP9 := hP.sub (ws' := [(pa, .inr (4, [.int mc, .ref el, .int 5])), (el, .inl (cy 2, 10, .inr (.inr (.inr (.inr (va_up g (4 : Int32).toNatClampNeg (some pp))))))), (pp, .inr (8, fp))]) [0, 1, 2] rfl
  have hD9 := hD.sub (ws' := [(pa, .inr (4, [.int mc, .ref el, .int 5])), (el, .inl (cy 2, 10, .inr (.inr (.inr (.inr (va_up g (4 : Int32).toNatClampNeg (some pp))))))), (pp, .inr (8, fp))]) [0, 1, 2] (by decide) rfl
  exact W.vret hx hb hr (fun t ht hW => ⟨⟨⟨el, (va_up g (4 : Int32).toNatClampNeg (some pp))⟩, rfl, ⟨zx_up_at _ (by decide), fun j9 hj9 => zx_up_ne _ (by show j9 ≠ 4; omega)⟩, zx_fin hP9 hD9 hK ht hW⟩, hS.F ht⟩) hS.2.2 dJx4a65c_add_72be8_22
set_option maxHeartbeats 4000000 in
set_option maxRecDepth 100000 in
theorem c_AL_add1_X3_4 (l : Launch) (hst : l.stackTraces = false) (D : va_G) (cy : Nat → ClassId) (ed sz : Nat) (pa : Nat) (el : Nat) (mc : Int32) (g : Nat → Option Nat) (pp : Nat) (fp : List Value) : Met l yJx4a65c_add_9ea2d wzJx4a65c_add_9ea2d ({ frames := 1, cells := 0, slots := 0, locals := 23 }) (zx_Pc D cy ed sz [.ref pa, .ref pp] [(pa, .inr (4, [.int mc, .ref el, .int 4])), (el, .inl (cy 2, 10, .inr (.inr (.inr (.inr g))))), (pp, .inr (8, fp))]) (va_Qi (fun (r9 : Int32) (u9 : Int32 × Nat × (Nat → Option Nat)) => match u9 with | (mx, qx, g2) => r9 = 1 ∧ g2 4 = some pp ∧ ∀ j, j < 4 → g2 j = g j) (fun (u9 : Int32 × Nat × (Nat → Option Nat)) (t9 : State) => match u9 with | (mx, qx, g2) => zx_At D cy (va_A [(pa, .inr (4, [.int mc, .ref el, .int 4])), (el, .inl (cy 2, 10, .inr (.inr (.inr (.inr g))))), (pp, .inr (8, fp))] sz) [(pa, .inr (4, [.int mx, .ref qx, .int 5])), (qx, .inl (cy 2, 10, .inr (.inr (.inr (.inr g2))))), (pp, .inr (8, fp))] t9) (va_A [(pa, .inr (4, [.int mc, .ref el, .int 4])), (el, .inl (cy 2, 10, .inr (.inr (.inr (.inr g))))), (pp, .inr (8, fp))] sz)) 0 0 (va_A [(pa, .inr (4, [.int mc, .ref el, .int 4])), (el, .inl (cy 2, 10, .inr (.inr (.inr (.inr g))))), (pp, .inr (8, fp))] sz) := by
  refine Met.ofW (cc := cJx4a65c_add_9ea2d) (maxL := 2) (ret := (some .boolean)) (by decide) rfl ?_
  intro p e s m args below meth c s₁ B hml hv
  obtain ⟨rfl, hsz, hP, hK, hD0, hZ, hN⟩ := hv
  have hx := B.exec
  have hb := B.bytes
  have hr := B.returns
  have hts := atoms_spec (ws := wzJx4a65c_add_9ea2d) B.pre
  have hown : s.vm.findClass RJx4a65c = some m.cls := findClass_of_methodNamed B.named
  have hlocks := B.notSynchronized
  subst hsz
  have hD := hD0.self (sz := s.heap.size)
  generalize hAe : va_A [(pa, .inr (4, [.int mc, .ref el, .int 4])), (el, .inl (cy 2, 10, .inr (.inr (.inr (.inr g))))), (pp, .inr (8, fp))] s.heap.size = A at hD hZ ⊢
  have hA : ∀ q : Nat, s.heap.size ≤ q → A q := fun q h => by rw [← hAe]; exact Or.inr h
  have hS : va_S A s.heap s.heap [] := va_S.rf
  have hP : va_P D vwCl [(pa, .inr (4, [.int mc, .ref el, .int 4])), (el, .inl (cy 2, 10, .inr (.inr (.inr (.inr g))))), (pp, .inr (8, fp))] s.heap := hP
  have hl := lv_entry ([.ref pa, .ref pp]) (n := 2) (Nat.le_of_ble_eq_true rfl)
  rw [lg_entry_eq]
  generalize (lg_sl ([.ref pa, .ref pp]) ++ List.replicate (2 - (lg_sl ([.ref pa, .ref pp])).length) Slot.unset).toArray = ls at hl ⊢
  have hl : lv_has ls 2 [(0, .ref pa), (1, .ref pp)] := hl
  refine lv_aload_n hx hb dJx4a65c_add_9ea2d_0 rfl (lv_at hl 0 rfl) ?_
  refine lv_dup hx hb dJx4a65c_add_9ea2d_1 rfl ?_
  refine va_get (D := D) (ci := 4) (v := .int mc) (C := RJx4a65c) (T := TJx4a65c) (N := 3) hx hb hts (fun w h => zx_Gc (uz_Jx4a65c w h)) hown hK hP 0 rfl rfl 0 (by decide) (hts (.fieldLink RJx4a65c 63 "java/util/ArrayList" "modCount" "I") (zx_Gc mm_220)) (fun x9 h9 => u_same (hts (.sameField "java/util/ArrayList" "java/util/AbstractList" "modCount" "I") (zx_Gc mm_219)) x9 h9) rfl dJx4a65c_add_9ea2d_2 ?_
  refine lv_iconst (v := 1) hx hb dJx4a65c_add_9ea2d_5 (by decide) ?_
  refine lv_iadd hx hb dJx4a65c_add_9ea2d_6 ?_
  refine va_put (D := D) (ci := 4) (v := .int (mc + (1 : Int32))) (ty := .int) (C := RJx4a65c) (T := TJx4a65c) (N := 3) hx hb hts (fun w h => zx_Gc (uz_Jx4a65c w h)) tyJx4a65c tyJx4a65c_ok nmJx4a65c hown hK hP hD hS 0 rfl rfl 0 (by decide) (hts (.fieldLink RJx4a65c 63 "java/util/ArrayList" "modCount" "I") (zx_Gc mm_220)) (fun x9 h9 => u_same (hts (.sameField "java/util/ArrayList" "java/util/AbstractList" "modCount" "I") (zx_Gc mm_219)) x9 h9) rfl (by decide +kernel) rfl rfl (Nat.le_of_ble_eq_true rfl) dJx4a65c_add_9ea2d_7 (fun H locs hP hD hS => ?_)
  have hP : va_P D vwCl [(pa, .inr (4, [.int (mc + (1 : Int32)), .ref el, .int 4])), (el, .inl (cy 2, 10, .inr (.inr (.inr (.inr g))))), (pp, .inr (8, fp))] H := hP
  have hD : va_D A [(pa, .inr (4, [.int (mc + (1 : Int32)), .ref el, .int 4])), (el, .inl (cy 2, 10, .inr (.inr (.inr (.inr g))))), (pp, .inr (8, fp))] := hD
  refine lv_aload_n hx hb dJx4a65c_add_9ea2d_10 rfl (lv_at hl 0 rfl) ?_
  refine lv_aload_n hx hb dJx4a65c_add_9ea2d_11 rfl (lv_at hl 1 rfl) ?_
  refine lv_aload_n hx hb dJx4a65c_add_9ea2d_12 rfl (lv_at hl 0 rfl) ?_
  refine va_get (D := D) (ci := 4) (v := .ref el) (C := RJx4a65c) (T := TJx4a65c) (N := 3) hx hb hts (fun w h => zx_Gc (uz_Jx4a65c w h)) hown hK hP 0 rfl rfl 1 (by decide) (hts (.fieldLink RJx4a65c 9 "java/util/ArrayList" "elementData" "[Ljava/lang/Object;") (zx_Gc mm_213)) (fun _ h9 => h9) rfl dJx4a65c_add_9ea2d_13 ?_
  refine lv_aload_n hx hb dJx4a65c_add_9ea2d_16 rfl (lv_at hl 0 rfl) ?_
  refine va_get (D := D) (ci := 4) (v := .int 4) (C := RJx4a65c) (T := TJx4a65c) (N := 3) hx hb hts (fun w h => zx_Gc (uz_Jx4a65c w h)) hown hK hP 0 rfl rfl 2 (by decide) (hts (.fieldLink RJx4a65c 48 "java/util/ArrayList" "size" "I") (zx_Gc mm_216)) (fun _ h9 => h9) rfl dJx4a65c_add_9ea2d_17 ?_
  have hPc := hP.sub (ws' := [(pa, .inr (4, [.int (mc + (1 : Int32)), .ref el, .int 4])), (el, .inl (cy 2, 10, .inr (.inr (.inr (.inr g))))), (pp, .inr (8, fp))]) [0, 1, 2] rfl
  have hDc := hD.sub (ws' := [(pa, .inr (4, [.int (mc + (1 : Int32)), .ref el, .int 4])), (el, .inl (cy 2, 10, .inr (.inr (.inr (.inr g))))), (pp, .inr (8, fp))]) [0, 1, 2] (by decide) rfl
  have hFc := va_free (wc := [(pa, .inr (4, [.int (mc + (1 : Int32)), .ref el, .int 4])), (el, .inl (cy 2, 10, .inr (.inr (.inr (.inr g))))), (pp, .inr (8, fp))]) hD hS hA [0, 1, 2] rfl
  refine va_callv (va_runV (As := [.ref pp, .ref el, .int 4]) (rest := []) ⟨hx, hb, hml, hown, hts⟩ (c_AL_add3_X3_4 l hst D cy ed H.size pa el (mc + (1 : Int32)) g pp fp) (cwV 3 hts (zx_GV mm_776 mm_778 mm_5 mm_77 mm_779) rfl rfl rfl (by decide +kernel) ⟨(Nat.le_of_ble_eq_true rfl), (Nat.le_of_ble_eq_true rfl)⟩) ⟨zx_blind, va_recv hK hPc (ci := 4) (q0 := 0) rfl rfl, zx_give hPc hK hDc hS hFc hZ hN⟩ rfl rfl hl.1 rfl (lv_room (Nat.le_of_ble_eq_true rfl)) dJx4a65c_add_9ea2d_20 ⟨(Nat.le_of_ble_eq_true rfl), (Nat.le_of_ble_eq_true rfl)⟩) hS (fun q _ h => hFc q h) hFc (fun u t H1 locs ht hvm hw hB hz1 hk1 hS => ?_)
  obtain ⟨qx_254, g2_255⟩ := u
  have h_256 := hw
  obtain ⟨hP, hD⟩ := zx_join (wr := []) (w1 := [(pa, .inr (4, [.int (mc + (1 : Int32)), .ref qx_254, .int 5])), (qx_254, .inl (cy 2, 10, .inr (.inr (.inr (.inr g2_255))))), (pp, .inr (8, fp))]) [0, 1, 2] [] rfl rfl (by decide) (by decide) hP hD hk1 hFc hB ht
  generalize H1 = H at hP hS ⊢
  have hP : va_P D vwCl [(pa, .inr (4, [.int (mc + (1 : Int32)), .ref qx_254, .int 5])), (qx_254, .inl (cy 2, 10, .inr (.inr (.inr (.inr g2_255))))), (pp, .inr (8, fp))] H := hP
  have hD : va_D A [(pa, .inr (4, [.int (mc + (1 : Int32)), .ref qx_254, .int 5])), (qx_254, .inl (cy 2, 10, .inr (.inr (.inr (.inr g2_255))))), (pp, .inr (8, fp))] := hD
  refine W.widen (k := 0) (n := 0) (Nat.le_of_ble_eq_true rfl) (Nat.le_of_ble_eq_true rfl) ?_
  obtain ⟨hs_257, hs_258⟩ := h_256
  refine lv_iconst (v := 1) hx hb dJx4a65c_add_9ea2d_23 (by decide) ?_
  have hP9 := hP.sub (ws' := [(pa, .inr (4, [.int (mc + (1 : Int32)), .ref qx_254, .int 5])), (qx_254, .inl (cy 2, 10, .inr (.inr (.inr (.inr g2_255))))), (pp, .inr (8, fp))]) [0, 1, 2] rfl
  have hD9 := hD.sub (ws' := [(pa, .inr (4, [.int (mc + (1 : Int32)), .ref qx_254, .int 5])), (qx_254, .inl (cy 2, 10, .inr (.inr (.inr (.inr g2_255))))), (pp, .inr (8, fp))]) [0, 1, 2] (by decide) rfl
  exact W.zret (v := 1) hx hb hr rfl (fun t ht hW => ⟨⟨1, ⟨(mc + (1 : Int32)), qx_254, g2_255⟩, rfl, ⟨rfl, ⟨hs_257, hs_258⟩⟩, zx_fin hP9 hD9 hK ht hW⟩, hS.F ht⟩) hS.2.2 dJx4a65c_add_9ea2d_24
set_option maxHeartbeats 4000000 in
set_option maxRecDepth 100000 in
theorem c_AL_add3_X11_4 (l : Launch) (hst : l.stackTraces = false) (D : va_G) (cy : Nat → ClassId) (ed sz : Nat) (pa : Nat) (el : Nat) (mc : Int32) (g : Nat → Option Nat) (pp : Nat) (fp : List Value) : Met l yJx4a65c_add_72be8 wzJx4a65c_add_72be8 ({ frames := 0, cells := 0, slots := 0, locals := 0 }) (zx_Pc D cy ed sz [.ref pa, .ref pp, .ref el, .int 4] [(pa, .inr (4, [.int mc, .ref el, .int 4])), (el, .inl (cy 2, 10, .inr (.inr (.inr (.inr g))))), (pp, .inr (16, fp))]) (va_Qv (fun (u9 : Nat × (Nat → Option Nat)) => match u9 with | (qx, g2) => g2 4 = some pp ∧ ∀ j, j < 4 → g2 j = g j) (fun (u9 : Nat × (Nat → Option Nat)) (t9 : State) => match u9 with | (qx, g2) => zx_At D cy (va_A [(pa, .inr (4, [.int mc, .ref el, .int 4])), (el, .inl (cy 2, 10, .inr (.inr (.inr (.inr g))))), (pp, .inr (16, fp))] sz) [(pa, .inr (4, [.int mc, .ref qx, .int 5])), (qx, .inl (cy 2, 10, .inr (.inr (.inr (.inr g2))))), (pp, .inr (16, fp))] t9) (va_A [(pa, .inr (4, [.int mc, .ref el, .int 4])), (el, .inl (cy 2, 10, .inr (.inr (.inr (.inr g))))), (pp, .inr (16, fp))] sz)) 0 0 (va_A [(pa, .inr (4, [.int mc, .ref el, .int 4])), (el, .inl (cy 2, 10, .inr (.inr (.inr (.inr g))))), (pp, .inr (16, fp))] sz) := by
  refine Met.ofW (cc := cJx4a65c_add_72be8) (maxL := 4) (ret := none) (by decide) rfl ?_
  intro p e s m args below meth c s₁ B hml hv
  obtain ⟨rfl, hsz, hP, hK, hD0, hZ, hN⟩ := hv
  have hx := B.exec
  have hb := B.bytes
  have hr := B.returns
  have hts := atoms_spec (ws := wzJx4a65c_add_72be8) B.pre
  have hown : s.vm.findClass RJx4a65c = some m.cls := findClass_of_methodNamed B.named
  have hlocks := B.notSynchronized
  subst hsz
  have hD := hD0.self (sz := s.heap.size)
  generalize hAe : va_A [(pa, .inr (4, [.int mc, .ref el, .int 4])), (el, .inl (cy 2, 10, .inr (.inr (.inr (.inr g))))), (pp, .inr (16, fp))] s.heap.size = A at hD hZ ⊢
  have hA : ∀ q : Nat, s.heap.size ≤ q → A q := fun q h => by rw [← hAe]; exact Or.inr h
  have hS : va_S A s.heap s.heap [] := va_S.rf
  have hP : va_P D vwCl [(pa, .inr (4, [.int mc, .ref el, .int 4])), (el, .inl (cy 2, 10, .inr (.inr (.inr (.inr g))))), (pp, .inr (16, fp))] s.heap := hP
  have hl := lv_entry ([.ref pa, .ref pp, .ref el, .int 4]) (n := 4) (Nat.le_of_ble_eq_true rfl)
  rw [lg_entry_eq]
  generalize (lg_sl ([.ref pa, .ref pp, .ref el, .int 4]) ++ List.replicate (4 - (lg_sl ([.ref pa, .ref pp, .ref el, .int 4])).length) Slot.unset).toArray = ls at hl ⊢
  have hl : lv_has ls 4 [(0, .ref pa), (1, .ref pp), (2, .ref el), (3, .int 4)] := hl
  refine lv_iload_n hx hb dJx4a65c_add_72be8_0 rfl (lv_at hl 3 rfl) ?_
  refine lv_aload_n hx hb dJx4a65c_add_72be8_1 rfl (lv_at hl 2 rfl) ?_
  refine va_alen (v := 10) hx hb hK hP 1 2 rfl rfl (show Int32.ofNat 10 = 10 from by decide) dJx4a65c_add_72be8_2 ?_
  refine lv_icmp_ne (tgt := 11) hx hb dJx4a65c_add_72be8_3 (by decide) (fun _ => ?_) (fun c_259 => absurd c_259 (by decide))
  refine lv_aload_n hx hb dJx4a65c_add_72be8_11 rfl (lv_at hl 2 rfl) ?_
  refine lv_iload_n hx hb dJx4a65c_add_72be8_12 rfl (lv_at hl 3 rfl) ?_
  refine lv_aload_n hx hb dJx4a65c_add_72be8_13 rfl (lv_at hl 1 rfl) ?_
  refine va_astqO (E := "java/lang/Object") hx hb hK hP hD hS 1 2 2 16 rfl rfl (hN.2.2.1 _ _ (List.mem_of_getElem? (i := 2477) (by decide +kernel))) rfl rfl (zx_bn (by decide)) dJx4a65c_add_72be8_14 (fun H locs hP hD hS => ?_)
  have hP : va_P D vwCl [(pa, .inr (4, [.int mc, .ref el, .int 4])), (el, .inl (cy 2, 10, .inr (.inr (.inr (.inr (va_up g (4 : Int32).toNatClampNeg (some pp))))))), (pp, .inr (16, fp))] H := hP
  have hD : va_D A [(pa, .inr (4, [.int mc, .ref el, .int 4])), (el, .inl (cy 2, 10, .inr (.inr (.inr (.inr (va_up g (4 : Int32).toNatClampNeg (some pp))))))), (pp, .inr (16, fp))] := hD
  refine lv_aload_n hx hb dJx4a65c_add_72be8_15 rfl (lv_at hl 0 rfl) ?_
  refine lv_iload_n hx hb dJx4a65c_add_72be8_16 rfl (lv_at hl 3 rfl) ?_
  refine lv_iconst (v := 1) hx hb dJx4a65c_add_72be8_17 (by decide) ?_
  refine lv_iadd hx hb dJx4a65c_add_72be8_18 ?_
  refine lv_topi (fun y9 ey9 => ?_)
  obtain rfl : y9 = 5 := by rw [ey9] <;> decide
  refine va_put (D := D) (ci := 4) (v := .int 5) (ty := .int) (C := RJx4a65c) (T := TJx4a65c) (N := 3) hx hb hts (fun w h => zx_Gc (uz_Jx4a65c w h)) tyJx4a65c tyJx4a65c_ok nmJx4a65c hown hK hP hD hS 0 rfl rfl 2 (by decide) (hts (.fieldLink RJx4a65c 48 "java/util/ArrayList" "size" "I") (zx_Gc mm_216)) (fun _ h9 => h9) rfl (by decide +kernel) rfl rfl (Nat.le_of_ble_eq_true rfl) dJx4a65c_add_72be8_19 (fun H locs hP hD hS => ?_)
  have hP : va_P D vwCl [(pa, .inr (4, [.int mc, .ref el, .int 5])), (el, .inl (cy 2, 10, .inr (.inr (.inr (.inr (va_up g (4 : Int32).toNatClampNeg (some pp))))))), (pp, .inr (16, fp))] H := hP
  have hD : va_D A [(pa, .inr (4, [.int mc, .ref el, .int 5])), (el, .inl (cy 2, 10, .inr (.inr (.inr (.inr (va_up g (4 : Int32).toNatClampNeg (some pp))))))), (pp, .inr (16, fp))] := hD
  have hP9 := hP.sub (ws' := [(pa, .inr (4, [.int mc, .ref el, .int 5])), (el, .inl (cy 2, 10, .inr (.inr (.inr (.inr (va_up g (4 : Int32).toNatClampNeg (some pp))))))), (pp, .inr (16, fp))]) [0, 1, 2] rfl
  have hD9 := hD.sub (ws' := [(pa, .inr (4, [.int mc, .ref el, .int 5])), (el, .inl (cy 2, 10, .inr (.inr (.inr (.inr (va_up g (4 : Int32).toNatClampNeg (some pp))))))), (pp, .inr (16, fp))]) [0, 1, 2] (by decide) rfl
  exact W.vret hx hb hr (fun t ht hW => ⟨⟨⟨el, (va_up g (4 : Int32).toNatClampNeg (some pp))⟩, rfl, ⟨zx_up_at _ (by decide), fun j9 hj9 => zx_up_ne _ (by show j9 ≠ 4; omega)⟩, zx_fin hP9 hD9 hK ht hW⟩, hS.F ht⟩) hS.2.2 dJx4a65c_add_72be8_22
set_option maxHeartbeats 4000000 in
set_option maxRecDepth 100000 in
theorem c_AL_add1_X11_4 (l : Launch) (hst : l.stackTraces = false) (D : va_G) (cy : Nat → ClassId) (ed sz : Nat) (pa : Nat) (el : Nat) (mc : Int32) (g : Nat → Option Nat) (pp : Nat) (fp : List Value) : Met l yJx4a65c_add_9ea2d wzJx4a65c_add_9ea2d ({ frames := 1, cells := 0, slots := 0, locals := 23 }) (zx_Pc D cy ed sz [.ref pa, .ref pp] [(pa, .inr (4, [.int mc, .ref el, .int 4])), (el, .inl (cy 2, 10, .inr (.inr (.inr (.inr g))))), (pp, .inr (16, fp))]) (va_Qi (fun (r9 : Int32) (u9 : Int32 × Nat × (Nat → Option Nat)) => match u9 with | (mx, qx, g2) => r9 = 1 ∧ g2 4 = some pp ∧ ∀ j, j < 4 → g2 j = g j) (fun (u9 : Int32 × Nat × (Nat → Option Nat)) (t9 : State) => match u9 with | (mx, qx, g2) => zx_At D cy (va_A [(pa, .inr (4, [.int mc, .ref el, .int 4])), (el, .inl (cy 2, 10, .inr (.inr (.inr (.inr g))))), (pp, .inr (16, fp))] sz) [(pa, .inr (4, [.int mx, .ref qx, .int 5])), (qx, .inl (cy 2, 10, .inr (.inr (.inr (.inr g2))))), (pp, .inr (16, fp))] t9) (va_A [(pa, .inr (4, [.int mc, .ref el, .int 4])), (el, .inl (cy 2, 10, .inr (.inr (.inr (.inr g))))), (pp, .inr (16, fp))] sz)) 0 0 (va_A [(pa, .inr (4, [.int mc, .ref el, .int 4])), (el, .inl (cy 2, 10, .inr (.inr (.inr (.inr g))))), (pp, .inr (16, fp))] sz) := by
  refine Met.ofW (cc := cJx4a65c_add_9ea2d) (maxL := 2) (ret := (some .boolean)) (by decide) rfl ?_
  intro p e s m args below meth c s₁ B hml hv
  obtain ⟨rfl, hsz, hP, hK, hD0, hZ, hN⟩ := hv
  have hx := B.exec
  have hb := B.bytes
  have hr := B.returns
  have hts := atoms_spec (ws := wzJx4a65c_add_9ea2d) B.pre
  have hown : s.vm.findClass RJx4a65c = some m.cls := findClass_of_methodNamed B.named
  have hlocks := B.notSynchronized
  subst hsz
  have hD := hD0.self (sz := s.heap.size)
  generalize hAe : va_A [(pa, .inr (4, [.int mc, .ref el, .int 4])), (el, .inl (cy 2, 10, .inr (.inr (.inr (.inr g))))), (pp, .inr (16, fp))] s.heap.size = A at hD hZ ⊢
  have hA : ∀ q : Nat, s.heap.size ≤ q → A q := fun q h => by rw [← hAe]; exact Or.inr h
  have hS : va_S A s.heap s.heap [] := va_S.rf
  have hP : va_P D vwCl [(pa, .inr (4, [.int mc, .ref el, .int 4])), (el, .inl (cy 2, 10, .inr (.inr (.inr (.inr g))))), (pp, .inr (16, fp))] s.heap := hP
  have hl := lv_entry ([.ref pa, .ref pp]) (n := 2) (Nat.le_of_ble_eq_true rfl)
  rw [lg_entry_eq]
  generalize (lg_sl ([.ref pa, .ref pp]) ++ List.replicate (2 - (lg_sl ([.ref pa, .ref pp])).length) Slot.unset).toArray = ls at hl ⊢
  have hl : lv_has ls 2 [(0, .ref pa), (1, .ref pp)] := hl
  refine lv_aload_n hx hb dJx4a65c_add_9ea2d_0 rfl (lv_at hl 0 rfl) ?_
  refine lv_dup hx hb dJx4a65c_add_9ea2d_1 rfl ?_
  refine va_get (D := D) (ci := 4) (v := .int mc) (C := RJx4a65c) (T := TJx4a65c) (N := 3) hx hb hts (fun w h => zx_Gc (uz_Jx4a65c w h)) hown hK hP 0 rfl rfl 0 (by decide) (hts (.fieldLink RJx4a65c 63 "java/util/ArrayList" "modCount" "I") (zx_Gc mm_220)) (fun x9 h9 => u_same (hts (.sameField "java/util/ArrayList" "java/util/AbstractList" "modCount" "I") (zx_Gc mm_219)) x9 h9) rfl dJx4a65c_add_9ea2d_2 ?_
  refine lv_iconst (v := 1) hx hb dJx4a65c_add_9ea2d_5 (by decide) ?_
  refine lv_iadd hx hb dJx4a65c_add_9ea2d_6 ?_
  refine va_put (D := D) (ci := 4) (v := .int (mc + (1 : Int32))) (ty := .int) (C := RJx4a65c) (T := TJx4a65c) (N := 3) hx hb hts (fun w h => zx_Gc (uz_Jx4a65c w h)) tyJx4a65c tyJx4a65c_ok nmJx4a65c hown hK hP hD hS 0 rfl rfl 0 (by decide) (hts (.fieldLink RJx4a65c 63 "java/util/ArrayList" "modCount" "I") (zx_Gc mm_220)) (fun x9 h9 => u_same (hts (.sameField "java/util/ArrayList" "java/util/AbstractList" "modCount" "I") (zx_Gc mm_219)) x9 h9) rfl (by decide +kernel) rfl rfl (Nat.le_of_ble_eq_true rfl) dJx4a65c_add_9ea2d_7 (fun H locs hP hD hS => ?_)
  have hP : va_P D vwCl [(pa, .inr (4, [.int (mc + (1 : Int32)), .ref el, .int 4])), (el, .inl (cy 2, 10, .inr (.inr (.inr (.inr g))))), (pp, .inr (16, fp))] H := hP
  have hD : va_D A [(pa, .inr (4, [.int (mc + (1 : Int32)), .ref el, .int 4])), (el, .inl (cy 2, 10, .inr (.inr (.inr (.inr g))))), (pp, .inr (16, fp))] := hD
  refine lv_aload_n hx hb dJx4a65c_add_9ea2d_10 rfl (lv_at hl 0 rfl) ?_
  refine lv_aload_n hx hb dJx4a65c_add_9ea2d_11 rfl (lv_at hl 1 rfl) ?_
  refine lv_aload_n hx hb dJx4a65c_add_9ea2d_12 rfl (lv_at hl 0 rfl) ?_
  refine va_get (D := D) (ci := 4) (v := .ref el) (C := RJx4a65c) (T := TJx4a65c) (N := 3) hx hb hts (fun w h => zx_Gc (uz_Jx4a65c w h)) hown hK hP 0 rfl rfl 1 (by decide) (hts (.fieldLink RJx4a65c 9 "java/util/ArrayList" "elementData" "[Ljava/lang/Object;") (zx_Gc mm_213)) (fun _ h9 => h9) rfl dJx4a65c_add_9ea2d_13 ?_
  refine lv_aload_n hx hb dJx4a65c_add_9ea2d_16 rfl (lv_at hl 0 rfl) ?_
  refine va_get (D := D) (ci := 4) (v := .int 4) (C := RJx4a65c) (T := TJx4a65c) (N := 3) hx hb hts (fun w h => zx_Gc (uz_Jx4a65c w h)) hown hK hP 0 rfl rfl 2 (by decide) (hts (.fieldLink RJx4a65c 48 "java/util/ArrayList" "size" "I") (zx_Gc mm_216)) (fun _ h9 => h9) rfl dJx4a65c_add_9ea2d_17 ?_
  have hPc := hP.sub (ws' := [(pa, .inr (4, [.int (mc + (1 : Int32)), .ref el, .int 4])), (el, .inl (cy 2, 10, .inr (.inr (.inr (.inr g))))), (pp, .inr (16, fp))]) [0, 1, 2] rfl
  have hDc := hD.sub (ws' := [(pa, .inr (4, [.int (mc + (1 : Int32)), .ref el, .int 4])), (el, .inl (cy 2, 10, .inr (.inr (.inr (.inr g))))), (pp, .inr (16, fp))]) [0, 1, 2] (by decide) rfl
  have hFc := va_free (wc := [(pa, .inr (4, [.int (mc + (1 : Int32)), .ref el, .int 4])), (el, .inl (cy 2, 10, .inr (.inr (.inr (.inr g))))), (pp, .inr (16, fp))]) hD hS hA [0, 1, 2] rfl
  refine va_callv (va_runV (As := [.ref pp, .ref el, .int 4]) (rest := []) ⟨hx, hb, hml, hown, hts⟩ (c_AL_add3_X11_4 l hst D cy ed H.size pa el (mc + (1 : Int32)) g pp fp) (cwV 3 hts (zx_GV mm_776 mm_778 mm_5 mm_77 mm_779) rfl rfl rfl (by decide +kernel) ⟨(Nat.le_of_ble_eq_true rfl), (Nat.le_of_ble_eq_true rfl)⟩) ⟨zx_blind, va_recv hK hPc (ci := 4) (q0 := 0) rfl rfl, zx_give hPc hK hDc hS hFc hZ hN⟩ rfl rfl hl.1 rfl (lv_room (Nat.le_of_ble_eq_true rfl)) dJx4a65c_add_9ea2d_20 ⟨(Nat.le_of_ble_eq_true rfl), (Nat.le_of_ble_eq_true rfl)⟩) hS (fun q _ h => hFc q h) hFc (fun u t H1 locs ht hvm hw hB hz1 hk1 hS => ?_)
  obtain ⟨qx_260, g2_261⟩ := u
  have h_262 := hw
  obtain ⟨hP, hD⟩ := zx_join (wr := []) (w1 := [(pa, .inr (4, [.int (mc + (1 : Int32)), .ref qx_260, .int 5])), (qx_260, .inl (cy 2, 10, .inr (.inr (.inr (.inr g2_261))))), (pp, .inr (16, fp))]) [0, 1, 2] [] rfl rfl (by decide) (by decide) hP hD hk1 hFc hB ht
  generalize H1 = H at hP hS ⊢
  have hP : va_P D vwCl [(pa, .inr (4, [.int (mc + (1 : Int32)), .ref qx_260, .int 5])), (qx_260, .inl (cy 2, 10, .inr (.inr (.inr (.inr g2_261))))), (pp, .inr (16, fp))] H := hP
  have hD : va_D A [(pa, .inr (4, [.int (mc + (1 : Int32)), .ref qx_260, .int 5])), (qx_260, .inl (cy 2, 10, .inr (.inr (.inr (.inr g2_261))))), (pp, .inr (16, fp))] := hD
  refine W.widen (k := 0) (n := 0) (Nat.le_of_ble_eq_true rfl) (Nat.le_of_ble_eq_true rfl) ?_
  obtain ⟨hs_263, hs_264⟩ := h_262
  refine lv_iconst (v := 1) hx hb dJx4a65c_add_9ea2d_23 (by decide) ?_
  have hP9 := hP.sub (ws' := [(pa, .inr (4, [.int (mc + (1 : Int32)), .ref qx_260, .int 5])), (qx_260, .inl (cy 2, 10, .inr (.inr (.inr (.inr g2_261))))), (pp, .inr (16, fp))]) [0, 1, 2] rfl
  have hD9 := hD.sub (ws' := [(pa, .inr (4, [.int (mc + (1 : Int32)), .ref qx_260, .int 5])), (qx_260, .inl (cy 2, 10, .inr (.inr (.inr (.inr g2_261))))), (pp, .inr (16, fp))]) [0, 1, 2] (by decide) rfl
  exact W.zret (v := 1) hx hb hr rfl (fun t ht hW => ⟨⟨1, ⟨(mc + (1 : Int32)), qx_260, g2_261⟩, rfl, ⟨rfl, ⟨hs_263, hs_264⟩⟩, zx_fin hP9 hD9 hK ht hW⟩, hS.F ht⟩) hS.2.2 dJx4a65c_add_9ea2d_24
set_option maxHeartbeats 4000000 in
set_option maxRecDepth 100000 in
theorem c_AL_add3_X3_5 (l : Launch) (hst : l.stackTraces = false) (D : va_G) (cy : Nat → ClassId) (ed sz : Nat) (pa : Nat) (el : Nat) (mc : Int32) (g : Nat → Option Nat) (pp : Nat) (fp : List Value) : Met l yJx4a65c_add_72be8 wzJx4a65c_add_72be8 ({ frames := 0, cells := 0, slots := 0, locals := 0 }) (zx_Pc D cy ed sz [.ref pa, .ref pp, .ref el, .int 5] [(pa, .inr (4, [.int mc, .ref el, .int 5])), (el, .inl (cy 2, 10, .inr (.inr (.inr (.inr g))))), (pp, .inr (8, fp))]) (va_Qv (fun (u9 : Nat × (Nat → Option Nat)) => match u9 with | (qx, g2) => g2 5 = some pp ∧ ∀ j, j < 5 → g2 j = g j) (fun (u9 : Nat × (Nat → Option Nat)) (t9 : State) => match u9 with | (qx, g2) => zx_At D cy (va_A [(pa, .inr (4, [.int mc, .ref el, .int 5])), (el, .inl (cy 2, 10, .inr (.inr (.inr (.inr g))))), (pp, .inr (8, fp))] sz) [(pa, .inr (4, [.int mc, .ref qx, .int 6])), (qx, .inl (cy 2, 10, .inr (.inr (.inr (.inr g2))))), (pp, .inr (8, fp))] t9) (va_A [(pa, .inr (4, [.int mc, .ref el, .int 5])), (el, .inl (cy 2, 10, .inr (.inr (.inr (.inr g))))), (pp, .inr (8, fp))] sz)) 0 0 (va_A [(pa, .inr (4, [.int mc, .ref el, .int 5])), (el, .inl (cy 2, 10, .inr (.inr (.inr (.inr g))))), (pp, .inr (8, fp))] sz) := by
  refine Met.ofW (cc := cJx4a65c_add_72be8) (maxL := 4) (ret := none) (by decide) rfl ?_
  intro p e s m args below meth c s₁ B hml hv
  obtain ⟨rfl, hsz, hP, hK, hD0, hZ, hN⟩ := hv
  have hx := B.exec
  have hb := B.bytes
  have hr := B.returns
  have hts := atoms_spec (ws := wzJx4a65c_add_72be8) B.pre
  have hown : s.vm.findClass RJx4a65c = some m.cls := findClass_of_methodNamed B.named
  have hlocks := B.notSynchronized
  subst hsz
  have hD := hD0.self (sz := s.heap.size)
  generalize hAe : va_A [(pa, .inr (4, [.int mc, .ref el, .int 5])), (el, .inl (cy 2, 10, .inr (.inr (.inr (.inr g))))), (pp, .inr (8, fp))] s.heap.size = A at hD hZ ⊢
  have hA : ∀ q : Nat, s.heap.size ≤ q → A q := fun q h => by rw [← hAe]; exact Or.inr h
  have hS : va_S A s.heap s.heap [] := va_S.rf
  have hP : va_P D vwCl [(pa, .inr (4, [.int mc, .ref el, .int 5])), (el, .inl (cy 2, 10, .inr (.inr (.inr (.inr g))))), (pp, .inr (8, fp))] s.heap := hP
  have hl := lv_entry ([.ref pa, .ref pp, .ref el, .int 5]) (n := 4) (Nat.le_of_ble_eq_true rfl)
  rw [lg_entry_eq]
  generalize (lg_sl ([.ref pa, .ref pp, .ref el, .int 5]) ++ List.replicate (4 - (lg_sl ([.ref pa, .ref pp, .ref el, .int 5])).length) Slot.unset).toArray = ls at hl ⊢
  have hl : lv_has ls 4 [(0, .ref pa), (1, .ref pp), (2, .ref el), (3, .int 5)] := hl
  refine lv_iload_n hx hb dJx4a65c_add_72be8_0 rfl (lv_at hl 3 rfl) ?_
  refine lv_aload_n hx hb dJx4a65c_add_72be8_1 rfl (lv_at hl 2 rfl) ?_
  refine va_alen (v := 10) hx hb hK hP 1 2 rfl rfl (show Int32.ofNat 10 = 10 from by decide) dJx4a65c_add_72be8_2 ?_
  refine lv_icmp_ne (tgt := 11) hx hb dJx4a65c_add_72be8_3 (by decide) (fun _ => ?_) (fun c_265 => absurd c_265 (by decide))
  refine lv_aload_n hx hb dJx4a65c_add_72be8_11 rfl (lv_at hl 2 rfl) ?_
  refine lv_iload_n hx hb dJx4a65c_add_72be8_12 rfl (lv_at hl 3 rfl) ?_
  refine lv_aload_n hx hb dJx4a65c_add_72be8_13 rfl (lv_at hl 1 rfl) ?_
  refine va_astqO (E := "java/lang/Object") hx hb hK hP hD hS 1 2 2 8 rfl rfl (hN.2.2.1 _ _ (List.mem_of_getElem? (i := 2472) (by decide +kernel))) rfl rfl (zx_bn (by decide)) dJx4a65c_add_72be8_14 (fun H locs hP hD hS => ?_)
  have hP : va_P D vwCl [(pa, .inr (4, [.int mc, .ref el, .int 5])), (el, .inl (cy 2, 10, .inr (.inr (.inr (.inr (va_up g (5 : Int32).toNatClampNeg (some pp))))))), (pp, .inr (8, fp))] H := hP
  have hD : va_D A [(pa, .inr (4, [.int mc, .ref el, .int 5])), (el, .inl (cy 2, 10, .inr (.inr (.inr (.inr (va_up g (5 : Int32).toNatClampNeg (some pp))))))), (pp, .inr (8, fp))] := hD
  refine lv_aload_n hx hb dJx4a65c_add_72be8_15 rfl (lv_at hl 0 rfl) ?_
  refine lv_iload_n hx hb dJx4a65c_add_72be8_16 rfl (lv_at hl 3 rfl) ?_
  refine lv_iconst (v := 1) hx hb dJx4a65c_add_72be8_17 (by decide) ?_
  refine lv_iadd hx hb dJx4a65c_add_72be8_18 ?_
  refine lv_topi (fun y9 ey9 => ?_)
  obtain rfl : y9 = 6 := by rw [ey9] <;> decide
  refine va_put (D := D) (ci := 4) (v := .int 6) (ty := .int) (C := RJx4a65c) (T := TJx4a65c) (N := 3) hx hb hts (fun w h => zx_Gc (uz_Jx4a65c w h)) tyJx4a65c tyJx4a65c_ok nmJx4a65c hown hK hP hD hS 0 rfl rfl 2 (by decide) (hts (.fieldLink RJx4a65c 48 "java/util/ArrayList" "size" "I") (zx_Gc mm_216)) (fun _ h9 => h9) rfl (by decide +kernel) rfl rfl (Nat.le_of_ble_eq_true rfl) dJx4a65c_add_72be8_19 (fun H locs hP hD hS => ?_)
  have hP : va_P D vwCl [(pa, .inr (4, [.int mc, .ref el, .int 6])), (el, .inl (cy 2, 10, .inr (.inr (.inr (.inr (va_up g (5 : Int32).toNatClampNeg (some pp))))))), (pp, .inr (8, fp))] H := hP
  have hD : va_D A [(pa, .inr (4, [.int mc, .ref el, .int 6])), (el, .inl (cy 2, 10, .inr (.inr (.inr (.inr (va_up g (5 : Int32).toNatClampNeg (some pp))))))), (pp, .inr (8, fp))] := hD
  have hP9 := hP.sub (ws' := [(pa, .inr (4, [.int mc, .ref el, .int 6])), (el, .inl (cy 2, 10, .inr (.inr (.inr (.inr (va_up g (5 : Int32).toNatClampNeg (some pp))))))), (pp, .inr (8, fp))]) [0, 1, 2] rfl
  have hD9 := hD.sub (ws' := [(pa, .inr (4, [.int mc, .ref el, .int 6])), (el, .inl (cy 2, 10, .inr (.inr (.inr (.inr (va_up g (5 : Int32).toNatClampNeg (some pp))))))), (pp, .inr (8, fp))]) [0, 1, 2] (by decide) rfl
  exact W.vret hx hb hr (fun t ht hW => ⟨⟨⟨el, (va_up g (5 : Int32).toNatClampNeg (some pp))⟩, rfl, ⟨zx_up_at _ (by decide), fun j9 hj9 => zx_up_ne _ (by show j9 ≠ 5; omega)⟩, zx_fin hP9 hD9 hK ht hW⟩, hS.F ht⟩) hS.2.2 dJx4a65c_add_72be8_22
set_option maxHeartbeats 4000000 in
set_option maxRecDepth 100000 in
theorem c_AL_add1_X3_5 (l : Launch) (hst : l.stackTraces = false) (D : va_G) (cy : Nat → ClassId) (ed sz : Nat) (pa : Nat) (el : Nat) (mc : Int32) (g : Nat → Option Nat) (pp : Nat) (fp : List Value) : Met l yJx4a65c_add_9ea2d wzJx4a65c_add_9ea2d ({ frames := 1, cells := 0, slots := 0, locals := 23 }) (zx_Pc D cy ed sz [.ref pa, .ref pp] [(pa, .inr (4, [.int mc, .ref el, .int 5])), (el, .inl (cy 2, 10, .inr (.inr (.inr (.inr g))))), (pp, .inr (8, fp))]) (va_Qi (fun (r9 : Int32) (u9 : Int32 × Nat × (Nat → Option Nat)) => match u9 with | (mx, qx, g2) => r9 = 1 ∧ g2 5 = some pp ∧ ∀ j, j < 5 → g2 j = g j) (fun (u9 : Int32 × Nat × (Nat → Option Nat)) (t9 : State) => match u9 with | (mx, qx, g2) => zx_At D cy (va_A [(pa, .inr (4, [.int mc, .ref el, .int 5])), (el, .inl (cy 2, 10, .inr (.inr (.inr (.inr g))))), (pp, .inr (8, fp))] sz) [(pa, .inr (4, [.int mx, .ref qx, .int 6])), (qx, .inl (cy 2, 10, .inr (.inr (.inr (.inr g2))))), (pp, .inr (8, fp))] t9) (va_A [(pa, .inr (4, [.int mc, .ref el, .int 5])), (el, .inl (cy 2, 10, .inr (.inr (.inr (.inr g))))), (pp, .inr (8, fp))] sz)) 0 0 (va_A [(pa, .inr (4, [.int mc, .ref el, .int 5])), (el, .inl (cy 2, 10, .inr (.inr (.inr (.inr g))))), (pp, .inr (8, fp))] sz) := by
  refine Met.ofW (cc := cJx4a65c_add_9ea2d) (maxL := 2) (ret := (some .boolean)) (by decide) rfl ?_
  intro p e s m args below meth c s₁ B hml hv
  obtain ⟨rfl, hsz, hP, hK, hD0, hZ, hN⟩ := hv
  have hx := B.exec
  have hb := B.bytes
  have hr := B.returns
  have hts := atoms_spec (ws := wzJx4a65c_add_9ea2d) B.pre
  have hown : s.vm.findClass RJx4a65c = some m.cls := findClass_of_methodNamed B.named
  have hlocks := B.notSynchronized
  subst hsz
  have hD := hD0.self (sz := s.heap.size)
  generalize hAe : va_A [(pa, .inr (4, [.int mc, .ref el, .int 5])), (el, .inl (cy 2, 10, .inr (.inr (.inr (.inr g))))), (pp, .inr (8, fp))] s.heap.size = A at hD hZ ⊢
  have hA : ∀ q : Nat, s.heap.size ≤ q → A q := fun q h => by rw [← hAe]; exact Or.inr h
  have hS : va_S A s.heap s.heap [] := va_S.rf
  have hP : va_P D vwCl [(pa, .inr (4, [.int mc, .ref el, .int 5])), (el, .inl (cy 2, 10, .inr (.inr (.inr (.inr g))))), (pp, .inr (8, fp))] s.heap := hP
  have hl := lv_entry ([.ref pa, .ref pp]) (n := 2) (Nat.le_of_ble_eq_true rfl)
  rw [lg_entry_eq]
  generalize (lg_sl ([.ref pa, .ref pp]) ++ List.replicate (2 - (lg_sl ([.ref pa, .ref pp])).length) Slot.unset).toArray = ls at hl ⊢
  have hl : lv_has ls 2 [(0, .ref pa), (1, .ref pp)] := hl
  refine lv_aload_n hx hb dJx4a65c_add_9ea2d_0 rfl (lv_at hl 0 rfl) ?_
  refine lv_dup hx hb dJx4a65c_add_9ea2d_1 rfl ?_
  refine va_get (D := D) (ci := 4) (v := .int mc) (C := RJx4a65c) (T := TJx4a65c) (N := 3) hx hb hts (fun w h => zx_Gc (uz_Jx4a65c w h)) hown hK hP 0 rfl rfl 0 (by decide) (hts (.fieldLink RJx4a65c 63 "java/util/ArrayList" "modCount" "I") (zx_Gc mm_220)) (fun x9 h9 => u_same (hts (.sameField "java/util/ArrayList" "java/util/AbstractList" "modCount" "I") (zx_Gc mm_219)) x9 h9) rfl dJx4a65c_add_9ea2d_2 ?_
  refine lv_iconst (v := 1) hx hb dJx4a65c_add_9ea2d_5 (by decide) ?_
  refine lv_iadd hx hb dJx4a65c_add_9ea2d_6 ?_
  refine va_put (D := D) (ci := 4) (v := .int (mc + (1 : Int32))) (ty := .int) (C := RJx4a65c) (T := TJx4a65c) (N := 3) hx hb hts (fun w h => zx_Gc (uz_Jx4a65c w h)) tyJx4a65c tyJx4a65c_ok nmJx4a65c hown hK hP hD hS 0 rfl rfl 0 (by decide) (hts (.fieldLink RJx4a65c 63 "java/util/ArrayList" "modCount" "I") (zx_Gc mm_220)) (fun x9 h9 => u_same (hts (.sameField "java/util/ArrayList" "java/util/AbstractList" "modCount" "I") (zx_Gc mm_219)) x9 h9) rfl (by decide +kernel) rfl rfl (Nat.le_of_ble_eq_true rfl) dJx4a65c_add_9ea2d_7 (fun H locs hP hD hS => ?_)
  have hP : va_P D vwCl [(pa, .inr (4, [.int (mc + (1 : Int32)), .ref el, .int 5])), (el, .inl (cy 2, 10, .inr (.inr (.inr (.inr g))))), (pp, .inr (8, fp))] H := hP
  have hD : va_D A [(pa, .inr (4, [.int (mc + (1 : Int32)), .ref el, .int 5])), (el, .inl (cy 2, 10, .inr (.inr (.inr (.inr g))))), (pp, .inr (8, fp))] := hD
  refine lv_aload_n hx hb dJx4a65c_add_9ea2d_10 rfl (lv_at hl 0 rfl) ?_
  refine lv_aload_n hx hb dJx4a65c_add_9ea2d_11 rfl (lv_at hl 1 rfl) ?_
  refine lv_aload_n hx hb dJx4a65c_add_9ea2d_12 rfl (lv_at hl 0 rfl) ?_
  refine va_get (D := D) (ci := 4) (v := .ref el) (C := RJx4a65c) (T := TJx4a65c) (N := 3) hx hb hts (fun w h => zx_Gc (uz_Jx4a65c w h)) hown hK hP 0 rfl rfl 1 (by decide) (hts (.fieldLink RJx4a65c 9 "java/util/ArrayList" "elementData" "[Ljava/lang/Object;") (zx_Gc mm_213)) (fun _ h9 => h9) rfl dJx4a65c_add_9ea2d_13 ?_
  refine lv_aload_n hx hb dJx4a65c_add_9ea2d_16 rfl (lv_at hl 0 rfl) ?_
  refine va_get (D := D) (ci := 4) (v := .int 5) (C := RJx4a65c) (T := TJx4a65c) (N := 3) hx hb hts (fun w h => zx_Gc (uz_Jx4a65c w h)) hown hK hP 0 rfl rfl 2 (by decide) (hts (.fieldLink RJx4a65c 48 "java/util/ArrayList" "size" "I") (zx_Gc mm_216)) (fun _ h9 => h9) rfl dJx4a65c_add_9ea2d_17 ?_
  have hPc := hP.sub (ws' := [(pa, .inr (4, [.int (mc + (1 : Int32)), .ref el, .int 5])), (el, .inl (cy 2, 10, .inr (.inr (.inr (.inr g))))), (pp, .inr (8, fp))]) [0, 1, 2] rfl
  have hDc := hD.sub (ws' := [(pa, .inr (4, [.int (mc + (1 : Int32)), .ref el, .int 5])), (el, .inl (cy 2, 10, .inr (.inr (.inr (.inr g))))), (pp, .inr (8, fp))]) [0, 1, 2] (by decide) rfl
  have hFc := va_free (wc := [(pa, .inr (4, [.int (mc + (1 : Int32)), .ref el, .int 5])), (el, .inl (cy 2, 10, .inr (.inr (.inr (.inr g))))), (pp, .inr (8, fp))]) hD hS hA [0, 1, 2] rfl
  refine va_callv (va_runV (As := [.ref pp, .ref el, .int 5]) (rest := []) ⟨hx, hb, hml, hown, hts⟩ (c_AL_add3_X3_5 l hst D cy ed H.size pa el (mc + (1 : Int32)) g pp fp) (cwV 3 hts (zx_GV mm_776 mm_778 mm_5 mm_77 mm_779) rfl rfl rfl (by decide +kernel) ⟨(Nat.le_of_ble_eq_true rfl), (Nat.le_of_ble_eq_true rfl)⟩) ⟨zx_blind, va_recv hK hPc (ci := 4) (q0 := 0) rfl rfl, zx_give hPc hK hDc hS hFc hZ hN⟩ rfl rfl hl.1 rfl (lv_room (Nat.le_of_ble_eq_true rfl)) dJx4a65c_add_9ea2d_20 ⟨(Nat.le_of_ble_eq_true rfl), (Nat.le_of_ble_eq_true rfl)⟩) hS (fun q _ h => hFc q h) hFc (fun u t H1 locs ht hvm hw hB hz1 hk1 hS => ?_)
  obtain ⟨qx_266, g2_267⟩ := u
  have h_268 := hw
  obtain ⟨hP, hD⟩ := zx_join (wr := []) (w1 := [(pa, .inr (4, [.int (mc + (1 : Int32)), .ref qx_266, .int 6])), (qx_266, .inl (cy 2, 10, .inr (.inr (.inr (.inr g2_267))))), (pp, .inr (8, fp))]) [0, 1, 2] [] rfl rfl (by decide) (by decide) hP hD hk1 hFc hB ht
  generalize H1 = H at hP hS ⊢
  have hP : va_P D vwCl [(pa, .inr (4, [.int (mc + (1 : Int32)), .ref qx_266, .int 6])), (qx_266, .inl (cy 2, 10, .inr (.inr (.inr (.inr g2_267))))), (pp, .inr (8, fp))] H := hP
  have hD : va_D A [(pa, .inr (4, [.int (mc + (1 : Int32)), .ref qx_266, .int 6])), (qx_266, .inl (cy 2, 10, .inr (.inr (.inr (.inr g2_267))))), (pp, .inr (8, fp))] := hD
  refine W.widen (k := 0) (n := 0) (Nat.le_of_ble_eq_true rfl) (Nat.le_of_ble_eq_true rfl) ?_
  obtain ⟨hs_269, hs_270⟩ := h_268
  refine lv_iconst (v := 1) hx hb dJx4a65c_add_9ea2d_23 (by decide) ?_
  have hP9 := hP.sub (ws' := [(pa, .inr (4, [.int (mc + (1 : Int32)), .ref qx_266, .int 6])), (qx_266, .inl (cy 2, 10, .inr (.inr (.inr (.inr g2_267))))), (pp, .inr (8, fp))]) [0, 1, 2] rfl
  have hD9 := hD.sub (ws' := [(pa, .inr (4, [.int (mc + (1 : Int32)), .ref qx_266, .int 6])), (qx_266, .inl (cy 2, 10, .inr (.inr (.inr (.inr g2_267))))), (pp, .inr (8, fp))]) [0, 1, 2] (by decide) rfl
  exact W.zret (v := 1) hx hb hr rfl (fun t ht hW => ⟨⟨1, ⟨(mc + (1 : Int32)), qx_266, g2_267⟩, rfl, ⟨rfl, ⟨hs_269, hs_270⟩⟩, zx_fin hP9 hD9 hK ht hW⟩, hS.F ht⟩) hS.2.2 dJx4a65c_add_9ea2d_24
set_option maxHeartbeats 4000000 in
set_option maxRecDepth 100000 in
theorem c_AL_add3_X11_5 (l : Launch) (hst : l.stackTraces = false) (D : va_G) (cy : Nat → ClassId) (ed sz : Nat) (pa : Nat) (el : Nat) (mc : Int32) (g : Nat → Option Nat) (pp : Nat) (fp : List Value) : Met l yJx4a65c_add_72be8 wzJx4a65c_add_72be8 ({ frames := 0, cells := 0, slots := 0, locals := 0 }) (zx_Pc D cy ed sz [.ref pa, .ref pp, .ref el, .int 5] [(pa, .inr (4, [.int mc, .ref el, .int 5])), (el, .inl (cy 2, 10, .inr (.inr (.inr (.inr g))))), (pp, .inr (16, fp))]) (va_Qv (fun (u9 : Nat × (Nat → Option Nat)) => match u9 with | (qx, g2) => g2 5 = some pp ∧ ∀ j, j < 5 → g2 j = g j) (fun (u9 : Nat × (Nat → Option Nat)) (t9 : State) => match u9 with | (qx, g2) => zx_At D cy (va_A [(pa, .inr (4, [.int mc, .ref el, .int 5])), (el, .inl (cy 2, 10, .inr (.inr (.inr (.inr g))))), (pp, .inr (16, fp))] sz) [(pa, .inr (4, [.int mc, .ref qx, .int 6])), (qx, .inl (cy 2, 10, .inr (.inr (.inr (.inr g2))))), (pp, .inr (16, fp))] t9) (va_A [(pa, .inr (4, [.int mc, .ref el, .int 5])), (el, .inl (cy 2, 10, .inr (.inr (.inr (.inr g))))), (pp, .inr (16, fp))] sz)) 0 0 (va_A [(pa, .inr (4, [.int mc, .ref el, .int 5])), (el, .inl (cy 2, 10, .inr (.inr (.inr (.inr g))))), (pp, .inr (16, fp))] sz) := by
  refine Met.ofW (cc := cJx4a65c_add_72be8) (maxL := 4) (ret := none) (by decide) rfl ?_
  intro p e s m args below meth c s₁ B hml hv
  obtain ⟨rfl, hsz, hP, hK, hD0, hZ, hN⟩ := hv
  have hx := B.exec
  have hb := B.bytes
  have hr := B.returns
  have hts := atoms_spec (ws := wzJx4a65c_add_72be8) B.pre
  have hown : s.vm.findClass RJx4a65c = some m.cls := findClass_of_methodNamed B.named
  have hlocks := B.notSynchronized
  subst hsz
  have hD := hD0.self (sz := s.heap.size)
  generalize hAe : va_A [(pa, .inr (4, [.int mc, .ref el, .int 5])), (el, .inl (cy 2, 10, .inr (.inr (.inr (.inr g))))), (pp, .inr (16, fp))] s.heap.size = A at hD hZ ⊢
  have hA : ∀ q : Nat, s.heap.size ≤ q → A q := fun q h => by rw [← hAe]; exact Or.inr h
  have hS : va_S A s.heap s.heap [] := va_S.rf
  have hP : va_P D vwCl [(pa, .inr (4, [.int mc, .ref el, .int 5])), (el, .inl (cy 2, 10, .inr (.inr (.inr (.inr g))))), (pp, .inr (16, fp))] s.heap := hP
  have hl := lv_entry ([.ref pa, .ref pp, .ref el, .int 5]) (n := 4) (Nat.le_of_ble_eq_true rfl)
  rw [lg_entry_eq]
  generalize (lg_sl ([.ref pa, .ref pp, .ref el, .int 5]) ++ List.replicate (4 - (lg_sl ([.ref pa, .ref pp, .ref el, .int 5])).length) Slot.unset).toArray = ls at hl ⊢
  have hl : lv_has ls 4 [(0, .ref pa), (1, .ref pp), (2, .ref el), (3, .int 5)] := hl
  refine lv_iload_n hx hb dJx4a65c_add_72be8_0 rfl (lv_at hl 3 rfl) ?_
  refine lv_aload_n hx hb dJx4a65c_add_72be8_1 rfl (lv_at hl 2 rfl) ?_
  refine va_alen (v := 10) hx hb hK hP 1 2 rfl rfl (show Int32.ofNat 10 = 10 from by decide) dJx4a65c_add_72be8_2 ?_
  refine lv_icmp_ne (tgt := 11) hx hb dJx4a65c_add_72be8_3 (by decide) (fun _ => ?_) (fun c_271 => absurd c_271 (by decide))
  refine lv_aload_n hx hb dJx4a65c_add_72be8_11 rfl (lv_at hl 2 rfl) ?_
  refine lv_iload_n hx hb dJx4a65c_add_72be8_12 rfl (lv_at hl 3 rfl) ?_
  refine lv_aload_n hx hb dJx4a65c_add_72be8_13 rfl (lv_at hl 1 rfl) ?_
  refine va_astqO (E := "java/lang/Object") hx hb hK hP hD hS 1 2 2 16 rfl rfl (hN.2.2.1 _ _ (List.mem_of_getElem? (i := 2477) (by decide +kernel))) rfl rfl (zx_bn (by decide)) dJx4a65c_add_72be8_14 (fun H locs hP hD hS => ?_)
  have hP : va_P D vwCl [(pa, .inr (4, [.int mc, .ref el, .int 5])), (el, .inl (cy 2, 10, .inr (.inr (.inr (.inr (va_up g (5 : Int32).toNatClampNeg (some pp))))))), (pp, .inr (16, fp))] H := hP
  have hD : va_D A [(pa, .inr (4, [.int mc, .ref el, .int 5])), (el, .inl (cy 2, 10, .inr (.inr (.inr (.inr (va_up g (5 : Int32).toNatClampNeg (some pp))))))), (pp, .inr (16, fp))] := hD
  refine lv_aload_n hx hb dJx4a65c_add_72be8_15 rfl (lv_at hl 0 rfl) ?_
  refine lv_iload_n hx hb dJx4a65c_add_72be8_16 rfl (lv_at hl 3 rfl) ?_
  refine lv_iconst (v := 1) hx hb dJx4a65c_add_72be8_17 (by decide) ?_
  refine lv_iadd hx hb dJx4a65c_add_72be8_18 ?_
  refine lv_topi (fun y9 ey9 => ?_)
  obtain rfl : y9 = 6 := by rw [ey9] <;> decide
  refine va_put (D := D) (ci := 4) (v := .int 6) (ty := .int) (C := RJx4a65c) (T := TJx4a65c) (N := 3) hx hb hts (fun w h => zx_Gc (uz_Jx4a65c w h)) tyJx4a65c tyJx4a65c_ok nmJx4a65c hown hK hP hD hS 0 rfl rfl 2 (by decide) (hts (.fieldLink RJx4a65c 48 "java/util/ArrayList" "size" "I") (zx_Gc mm_216)) (fun _ h9 => h9) rfl (by decide +kernel) rfl rfl (Nat.le_of_ble_eq_true rfl) dJx4a65c_add_72be8_19 (fun H locs hP hD hS => ?_)
  have hP : va_P D vwCl [(pa, .inr (4, [.int mc, .ref el, .int 6])), (el, .inl (cy 2, 10, .inr (.inr (.inr (.inr (va_up g (5 : Int32).toNatClampNeg (some pp))))))), (pp, .inr (16, fp))] H := hP
  have hD : va_D A [(pa, .inr (4, [.int mc, .ref el, .int 6])), (el, .inl (cy 2, 10, .inr (.inr (.inr (.inr (va_up g (5 : Int32).toNatClampNeg (some pp))))))), (pp, .inr (16, fp))] := hD
  have hP9 := hP.sub (ws' := [(pa, .inr (4, [.int mc, .ref el, .int 6])), (el, .inl (cy 2, 10, .inr (.inr (.inr (.inr (va_up g (5 : Int32).toNatClampNeg (some pp))))))), (pp, .inr (16, fp))]) [0, 1, 2] rfl
  have hD9 := hD.sub (ws' := [(pa, .inr (4, [.int mc, .ref el, .int 6])), (el, .inl (cy 2, 10, .inr (.inr (.inr (.inr (va_up g (5 : Int32).toNatClampNeg (some pp))))))), (pp, .inr (16, fp))]) [0, 1, 2] (by decide) rfl
  exact W.vret hx hb hr (fun t ht hW => ⟨⟨⟨el, (va_up g (5 : Int32).toNatClampNeg (some pp))⟩, rfl, ⟨zx_up_at _ (by decide), fun j9 hj9 => zx_up_ne _ (by show j9 ≠ 5; omega)⟩, zx_fin hP9 hD9 hK ht hW⟩, hS.F ht⟩) hS.2.2 dJx4a65c_add_72be8_22
set_option maxHeartbeats 4000000 in
set_option maxRecDepth 100000 in
theorem c_AL_add1_X11_5 (l : Launch) (hst : l.stackTraces = false) (D : va_G) (cy : Nat → ClassId) (ed sz : Nat) (pa : Nat) (el : Nat) (mc : Int32) (g : Nat → Option Nat) (pp : Nat) (fp : List Value) : Met l yJx4a65c_add_9ea2d wzJx4a65c_add_9ea2d ({ frames := 1, cells := 0, slots := 0, locals := 23 }) (zx_Pc D cy ed sz [.ref pa, .ref pp] [(pa, .inr (4, [.int mc, .ref el, .int 5])), (el, .inl (cy 2, 10, .inr (.inr (.inr (.inr g))))), (pp, .inr (16, fp))]) (va_Qi (fun (r9 : Int32) (u9 : Int32 × Nat × (Nat → Option Nat)) => match u9 with | (mx, qx, g2) => r9 = 1 ∧ g2 5 = some pp ∧ ∀ j, j < 5 → g2 j = g j) (fun (u9 : Int32 × Nat × (Nat → Option Nat)) (t9 : State) => match u9 with | (mx, qx, g2) => zx_At D cy (va_A [(pa, .inr (4, [.int mc, .ref el, .int 5])), (el, .inl (cy 2, 10, .inr (.inr (.inr (.inr g))))), (pp, .inr (16, fp))] sz) [(pa, .inr (4, [.int mx, .ref qx, .int 6])), (qx, .inl (cy 2, 10, .inr (.inr (.inr (.inr g2))))), (pp, .inr (16, fp))] t9) (va_A [(pa, .inr (4, [.int mc, .ref el, .int 5])), (el, .inl (cy 2, 10, .inr (.inr (.inr (.inr g))))), (pp, .inr (16, fp))] sz)) 0 0 (va_A [(pa, .inr (4, [.int mc, .ref el, .int 5])), (el, .inl (cy 2, 10, .inr (.inr (.inr (.inr g))))), (pp, .inr (16, fp))] sz) := by
  refine Met.ofW (cc := cJx4a65c_add_9ea2d) (maxL := 2) (ret := (some .boolean)) (by decide) rfl ?_
  intro p e s m args below meth c s₁ B hml hv
  obtain ⟨rfl, hsz, hP, hK, hD0, hZ, hN⟩ := hv
  have hx := B.exec
  have hb := B.bytes
  have hr := B.returns
  have hts := atoms_spec (ws := wzJx4a65c_add_9ea2d) B.pre
  have hown : s.vm.findClass RJx4a65c = some m.cls := findClass_of_methodNamed B.named
  have hlocks := B.notSynchronized
  subst hsz
  have hD := hD0.self (sz := s.heap.size)
  generalize hAe : va_A [(pa, .inr (4, [.int mc, .ref el, .int 5])), (el, .inl (cy 2, 10, .inr (.inr (.inr (.inr g))))), (pp, .inr (16, fp))] s.heap.size = A at hD hZ ⊢
  have hA : ∀ q : Nat, s.heap.size ≤ q → A q := fun q h => by rw [← hAe]; exact Or.inr h
  have hS : va_S A s.heap s.heap [] := va_S.rf
  have hP : va_P D vwCl [(pa, .inr (4, [.int mc, .ref el, .int 5])), (el, .inl (cy 2, 10, .inr (.inr (.inr (.inr g))))), (pp, .inr (16, fp))] s.heap := hP
  have hl := lv_entry ([.ref pa, .ref pp]) (n := 2) (Nat.le_of_ble_eq_true rfl)
  rw [lg_entry_eq]
  generalize (lg_sl ([.ref pa, .ref pp]) ++ List.replicate (2 - (lg_sl ([.ref pa, .ref pp])).length) Slot.unset).toArray = ls at hl ⊢
  have hl : lv_has ls 2 [(0, .ref pa), (1, .ref pp)] := hl
  refine lv_aload_n hx hb dJx4a65c_add_9ea2d_0 rfl (lv_at hl 0 rfl) ?_
  refine lv_dup hx hb dJx4a65c_add_9ea2d_1 rfl ?_
  refine va_get (D := D) (ci := 4) (v := .int mc) (C := RJx4a65c) (T := TJx4a65c) (N := 3) hx hb hts (fun w h => zx_Gc (uz_Jx4a65c w h)) hown hK hP 0 rfl rfl 0 (by decide) (hts (.fieldLink RJx4a65c 63 "java/util/ArrayList" "modCount" "I") (zx_Gc mm_220)) (fun x9 h9 => u_same (hts (.sameField "java/util/ArrayList" "java/util/AbstractList" "modCount" "I") (zx_Gc mm_219)) x9 h9) rfl dJx4a65c_add_9ea2d_2 ?_
  refine lv_iconst (v := 1) hx hb dJx4a65c_add_9ea2d_5 (by decide) ?_
  refine lv_iadd hx hb dJx4a65c_add_9ea2d_6 ?_
  refine va_put (D := D) (ci := 4) (v := .int (mc + (1 : Int32))) (ty := .int) (C := RJx4a65c) (T := TJx4a65c) (N := 3) hx hb hts (fun w h => zx_Gc (uz_Jx4a65c w h)) tyJx4a65c tyJx4a65c_ok nmJx4a65c hown hK hP hD hS 0 rfl rfl 0 (by decide) (hts (.fieldLink RJx4a65c 63 "java/util/ArrayList" "modCount" "I") (zx_Gc mm_220)) (fun x9 h9 => u_same (hts (.sameField "java/util/ArrayList" "java/util/AbstractList" "modCount" "I") (zx_Gc mm_219)) x9 h9) rfl (by decide +kernel) rfl rfl (Nat.le_of_ble_eq_true rfl) dJx4a65c_add_9ea2d_7 (fun H locs hP hD hS => ?_)
  have hP : va_P D vwCl [(pa, .inr (4, [.int (mc + (1 : Int32)), .ref el, .int 5])), (el, .inl (cy 2, 10, .inr (.inr (.inr (.inr g))))), (pp, .inr (16, fp))] H := hP
  have hD : va_D A [(pa, .inr (4, [.int (mc + (1 : Int32)), .ref el, .int 5])), (el, .inl (cy 2, 10, .inr (.inr (.inr (.inr g))))), (pp, .inr (16, fp))] := hD
  refine lv_aload_n hx hb dJx4a65c_add_9ea2d_10 rfl (lv_at hl 0 rfl) ?_
  refine lv_aload_n hx hb dJx4a65c_add_9ea2d_11 rfl (lv_at hl 1 rfl) ?_
  refine lv_aload_n hx hb dJx4a65c_add_9ea2d_12 rfl (lv_at hl 0 rfl) ?_
  refine va_get (D := D) (ci := 4) (v := .ref el) (C := RJx4a65c) (T := TJx4a65c) (N := 3) hx hb hts (fun w h => zx_Gc (uz_Jx4a65c w h)) hown hK hP 0 rfl rfl 1 (by decide) (hts (.fieldLink RJx4a65c 9 "java/util/ArrayList" "elementData" "[Ljava/lang/Object;") (zx_Gc mm_213)) (fun _ h9 => h9) rfl dJx4a65c_add_9ea2d_13 ?_
  refine lv_aload_n hx hb dJx4a65c_add_9ea2d_16 rfl (lv_at hl 0 rfl) ?_
  refine va_get (D := D) (ci := 4) (v := .int 5) (C := RJx4a65c) (T := TJx4a65c) (N := 3) hx hb hts (fun w h => zx_Gc (uz_Jx4a65c w h)) hown hK hP 0 rfl rfl 2 (by decide) (hts (.fieldLink RJx4a65c 48 "java/util/ArrayList" "size" "I") (zx_Gc mm_216)) (fun _ h9 => h9) rfl dJx4a65c_add_9ea2d_17 ?_
  have hPc := hP.sub (ws' := [(pa, .inr (4, [.int (mc + (1 : Int32)), .ref el, .int 5])), (el, .inl (cy 2, 10, .inr (.inr (.inr (.inr g))))), (pp, .inr (16, fp))]) [0, 1, 2] rfl
  have hDc := hD.sub (ws' := [(pa, .inr (4, [.int (mc + (1 : Int32)), .ref el, .int 5])), (el, .inl (cy 2, 10, .inr (.inr (.inr (.inr g))))), (pp, .inr (16, fp))]) [0, 1, 2] (by decide) rfl
  have hFc := va_free (wc := [(pa, .inr (4, [.int (mc + (1 : Int32)), .ref el, .int 5])), (el, .inl (cy 2, 10, .inr (.inr (.inr (.inr g))))), (pp, .inr (16, fp))]) hD hS hA [0, 1, 2] rfl
  refine va_callv (va_runV (As := [.ref pp, .ref el, .int 5]) (rest := []) ⟨hx, hb, hml, hown, hts⟩ (c_AL_add3_X11_5 l hst D cy ed H.size pa el (mc + (1 : Int32)) g pp fp) (cwV 3 hts (zx_GV mm_776 mm_778 mm_5 mm_77 mm_779) rfl rfl rfl (by decide +kernel) ⟨(Nat.le_of_ble_eq_true rfl), (Nat.le_of_ble_eq_true rfl)⟩) ⟨zx_blind, va_recv hK hPc (ci := 4) (q0 := 0) rfl rfl, zx_give hPc hK hDc hS hFc hZ hN⟩ rfl rfl hl.1 rfl (lv_room (Nat.le_of_ble_eq_true rfl)) dJx4a65c_add_9ea2d_20 ⟨(Nat.le_of_ble_eq_true rfl), (Nat.le_of_ble_eq_true rfl)⟩) hS (fun q _ h => hFc q h) hFc (fun u t H1 locs ht hvm hw hB hz1 hk1 hS => ?_)
  obtain ⟨qx_272, g2_273⟩ := u
  have h_274 := hw
  obtain ⟨hP, hD⟩ := zx_join (wr := []) (w1 := [(pa, .inr (4, [.int (mc + (1 : Int32)), .ref qx_272, .int 6])), (qx_272, .inl (cy 2, 10, .inr (.inr (.inr (.inr g2_273))))), (pp, .inr (16, fp))]) [0, 1, 2] [] rfl rfl (by decide) (by decide) hP hD hk1 hFc hB ht
  generalize H1 = H at hP hS ⊢
  have hP : va_P D vwCl [(pa, .inr (4, [.int (mc + (1 : Int32)), .ref qx_272, .int 6])), (qx_272, .inl (cy 2, 10, .inr (.inr (.inr (.inr g2_273))))), (pp, .inr (16, fp))] H := hP
  have hD : va_D A [(pa, .inr (4, [.int (mc + (1 : Int32)), .ref qx_272, .int 6])), (qx_272, .inl (cy 2, 10, .inr (.inr (.inr (.inr g2_273))))), (pp, .inr (16, fp))] := hD
  refine W.widen (k := 0) (n := 0) (Nat.le_of_ble_eq_true rfl) (Nat.le_of_ble_eq_true rfl) ?_
  obtain ⟨hs_275, hs_276⟩ := h_274
  refine lv_iconst (v := 1) hx hb dJx4a65c_add_9ea2d_23 (by decide) ?_
  have hP9 := hP.sub (ws' := [(pa, .inr (4, [.int (mc + (1 : Int32)), .ref qx_272, .int 6])), (qx_272, .inl (cy 2, 10, .inr (.inr (.inr (.inr g2_273))))), (pp, .inr (16, fp))]) [0, 1, 2] rfl
  have hD9 := hD.sub (ws' := [(pa, .inr (4, [.int (mc + (1 : Int32)), .ref qx_272, .int 6])), (qx_272, .inl (cy 2, 10, .inr (.inr (.inr (.inr g2_273))))), (pp, .inr (16, fp))]) [0, 1, 2] (by decide) rfl
  exact W.zret (v := 1) hx hb hr rfl (fun t ht hW => ⟨⟨1, ⟨(mc + (1 : Int32)), qx_272, g2_273⟩, rfl, ⟨rfl, ⟨hs_275, hs_276⟩⟩, zx_fin hP9 hD9 hK ht hW⟩, hS.F ht⟩) hS.2.2 dJx4a65c_add_9ea2d_24
set_option maxHeartbeats 4000000 in
set_option maxRecDepth 100000 in
theorem c_AL_add3_X14_0 (l : Launch) (hst : l.stackTraces = false) (D : va_G) (cy : Nat → ClassId) (ed sz : Nat) (pa : Nat) (mc : Int32) (pp : Nat) (fp : List Value) : Met l yJx4a65c_add_72be8 wzJx4a65c_add_72be8 ({ frames := 3, cells := 1, slots := 10, locals := 57 }) (zx_Pc D cy ed sz [.ref pa, .ref pp, .ref ed, .int 0] [(pa, .inr (4, [.int mc, .ref ed, .int 0])), (pp, .inr (19, fp))]) (va_Qv (fun (u9 : Nat × (Nat → Option Nat)) => match u9 with | (qx, g2) => g2 0 = some pp) (fun (u9 : Nat × (Nat → Option Nat)) (t9 : State) => match u9 with | (qx, g2) => zx_At D cy (va_A [(pa, .inr (4, [.int mc, .ref ed, .int 0])), (pp, .inr (19, fp))] sz) [(pa, .inr (4, [.int mc, .ref qx, .int 1])), (qx, .inl (cy 2, 10, .inr (.inr (.inr (.inr g2))))), (pp, .inr (19, fp))] t9) (va_A [(pa, .inr (4, [.int mc, .ref ed, .int 0])), (pp, .inr (19, fp))] sz)) 1 10 (va_A [(pa, .inr (4, [.int mc, .ref ed, .int 0])), (pp, .inr (19, fp))] sz) := by
  refine Met.ofW (cc := cJx4a65c_add_72be8) (maxL := 4) (ret := none) (by decide) rfl ?_
  intro p e s m args below meth c s₁ B hml hv
  obtain ⟨rfl, hsz, hP, hK, hD0, hZ, hN⟩ := hv
  have hx := B.exec
  have hb := B.bytes
  have hr := B.returns
  have hts := atoms_spec (ws := wzJx4a65c_add_72be8) B.pre
  have hown : s.vm.findClass RJx4a65c = some m.cls := findClass_of_methodNamed B.named
  have hlocks := B.notSynchronized
  subst hsz
  have hD := hD0.self (sz := s.heap.size)
  generalize hAe : va_A [(pa, .inr (4, [.int mc, .ref ed, .int 0])), (pp, .inr (19, fp))] s.heap.size = A at hD hZ ⊢
  have hA : ∀ q : Nat, s.heap.size ≤ q → A q := fun q h => by rw [← hAe]; exact Or.inr h
  have hS : va_S A s.heap s.heap [] := va_S.rf
  have hP : va_P D vwCl [(pa, .inr (4, [.int mc, .ref ed, .int 0])), (pp, .inr (19, fp))] s.heap := hP
  have hl := lv_entry ([.ref pa, .ref pp, .ref ed, .int 0]) (n := 4) (Nat.le_of_ble_eq_true rfl)
  rw [lg_entry_eq]
  generalize (lg_sl ([.ref pa, .ref pp, .ref ed, .int 0]) ++ List.replicate (4 - (lg_sl ([.ref pa, .ref pp, .ref ed, .int 0])).length) Slot.unset).toArray = ls at hl ⊢
  have hl : lv_has ls 4 [(0, .ref pa), (1, .ref pp), (2, .ref ed), (3, .int 0)] := hl
  refine lv_iload_n hx hb dJx4a65c_add_72be8_0 rfl (lv_at hl 3 rfl) ?_
  refine lv_aload_n hx hb dJx4a65c_add_72be8_1 rfl (lv_at hl 2 rfl) ?_
  refine va_tlen (v := 0) hx hb hZ.2.2.2.1 hS rfl dJx4a65c_add_72be8_2 ?_
  refine lv_icmp_ne (tgt := 11) hx hb dJx4a65c_add_72be8_3 (by decide) (fun c_277 => absurd c_277 (by decide)) (fun _ => ?_)
  refine lv_aload_n hx hb dJx4a65c_add_72be8_6 rfl (lv_at hl 0 rfl) ?_
  have hPc := hP.sub (ws' := [(pa, .inr (4, [.int mc, .ref ed, .int 0]))]) [0] rfl
  have hDc := hD.sub (ws' := [(pa, .inr (4, [.int mc, .ref ed, .int 0]))]) [0] (by decide) rfl
  have hFc := va_free (wc := [(pa, .inr (4, [.int mc, .ref ed, .int 0]))]) hD hS hA [0] rfl
  refine va_callr (va_runV (As := []) (rest := []) ⟨hx, hb, hml, hown, hts⟩ (c_AL_grow0_0 l hst D cy ed s.heap.size pa mc) (cwV 0 hts (zx_GV mm_780 mm_782 mm_6 mm_77 mm_783) rfl rfl rfl (by decide +kernel) ⟨(Nat.le_of_ble_eq_true rfl), (Nat.le_of_ble_eq_true rfl)⟩) ⟨zx_blind, va_recv hK hPc (ci := 4) (q0 := 0) rfl rfl, zx_give hPc hK hDc hS hFc hZ hN⟩ rfl rfl hl.1 rfl (lv_room (Nat.le_of_ble_eq_true rfl)) dJx4a65c_add_72be8_7 ⟨(Nat.le_of_ble_eq_true rfl), (Nat.le_of_ble_eq_true rfl)⟩) hS (fun q _ h => hFc q h) hFc (fun u ra9 t H1 locs ht hvm hw hB hz1 hk1 hS => ?_)
  obtain ⟨a_278, rfl⟩ : ∃ z9, z9 = ra9 := ⟨_, rfl⟩
  obtain ⟨hP, hD⟩ := zx_join (wr := [(pp, .inr (19, fp))]) (w1 := [(pa, .inr (4, [.int mc, .ref a_278, .int 0])), (a_278, .inl (cy 2, 10, .inr (.inr (.inr (.inr (fun _ => none))))))]) [0] [1] rfl rfl (by decide) (by decide) hP hD hk1 hFc hB ht
  generalize H1 = H at hP hS ⊢
  have hP : va_P D vwCl [(pp, .inr (19, fp)), (pa, .inr (4, [.int mc, .ref a_278, .int 0])), (a_278, .inl (cy 2, 10, .inr (.inr (.inr (.inr (fun _ => none))))))] H := hP
  have hD : va_D A [(pp, .inr (19, fp)), (pa, .inr (4, [.int mc, .ref a_278, .int 0])), (a_278, .inl (cy 2, 10, .inr (.inr (.inr (.inr (fun _ => none))))))] := hD
  refine W.widen (k := 1) (n := 10) (Nat.le_of_ble_eq_true rfl) (Nat.le_of_ble_eq_true rfl) ?_
  refine lv_astore_n (lv' := [(2, .ref a_278), (0, .ref pa), (1, .ref pp), (3, .int 0)]) hx hb dJx4a65c_add_72be8_10 rfl hl (by decide) rfl (fun ls hl => ?_)
  refine lv_aload_n hx hb dJx4a65c_add_72be8_11 rfl (lv_at hl 0 rfl) ?_
  refine lv_iload_n hx hb dJx4a65c_add_72be8_12 rfl (lv_at hl 3 rfl) ?_
  refine lv_aload_n hx hb dJx4a65c_add_72be8_13 rfl (lv_at hl 2 rfl) ?_
  refine va_astqO (E := "java/lang/Object") hx hb hK hP hD hS 2 2 0 19 rfl rfl (hN.2.2.1 _ _ (List.mem_of_getElem? (i := 2479) (by decide +kernel))) rfl rfl (zx_bn (by decide)) dJx4a65c_add_72be8_14 (fun H locs hP hD hS => ?_)
  have hP : va_P D vwCl [(pp, .inr (19, fp)), (pa, .inr (4, [.int mc, .ref a_278, .int 0])), (a_278, .inl (cy 2, 10, .inr (.inr (.inr (.inr (va_up (fun _ => none) (0 : Int32).toNatClampNeg (some pp)))))))] H := hP
  have hD : va_D A [(pp, .inr (19, fp)), (pa, .inr (4, [.int mc, .ref a_278, .int 0])), (a_278, .inl (cy 2, 10, .inr (.inr (.inr (.inr (va_up (fun _ => none) (0 : Int32).toNatClampNeg (some pp)))))))] := hD
  refine lv_aload_n hx hb dJx4a65c_add_72be8_15 rfl (lv_at hl 1 rfl) ?_
  refine lv_iload_n hx hb dJx4a65c_add_72be8_16 rfl (lv_at hl 3 rfl) ?_
  refine lv_iconst (v := 1) hx hb dJx4a65c_add_72be8_17 (by decide) ?_
  refine lv_iadd hx hb dJx4a65c_add_72be8_18 ?_
  refine lv_topi (fun y9 ey9 => ?_)
  obtain rfl : y9 = 1 := by rw [ey9] <;> decide
  refine va_put (D := D) (ci := 4) (v := .int 1) (ty := .int) (C := RJx4a65c) (T := TJx4a65c) (N := 3) hx hb hts (fun w h => zx_Gc (uz_Jx4a65c w h)) tyJx4a65c tyJx4a65c_ok nmJx4a65c hown hK hP hD hS 1 rfl rfl 2 (by decide) (hts (.fieldLink RJx4a65c 48 "java/util/ArrayList" "size" "I") (zx_Gc mm_216)) (fun _ h9 => h9) rfl (by decide +kernel) rfl rfl (Nat.le_of_ble_eq_true rfl) dJx4a65c_add_72be8_19 (fun H locs hP hD hS => ?_)
  have hP : va_P D vwCl [(pp, .inr (19, fp)), (pa, .inr (4, [.int mc, .ref a_278, .int 1])), (a_278, .inl (cy 2, 10, .inr (.inr (.inr (.inr (va_up (fun _ => none) (0 : Int32).toNatClampNeg (some pp)))))))] H := hP
  have hD : va_D A [(pp, .inr (19, fp)), (pa, .inr (4, [.int mc, .ref a_278, .int 1])), (a_278, .inl (cy 2, 10, .inr (.inr (.inr (.inr (va_up (fun _ => none) (0 : Int32).toNatClampNeg (some pp)))))))] := hD
  have hP9 := hP.sub (ws' := [(pa, .inr (4, [.int mc, .ref a_278, .int 1])), (a_278, .inl (cy 2, 10, .inr (.inr (.inr (.inr (va_up (fun _ => none) (0 : Int32).toNatClampNeg (some pp))))))), (pp, .inr (19, fp))]) [1, 2, 0] rfl
  have hD9 := hD.sub (ws' := [(pa, .inr (4, [.int mc, .ref a_278, .int 1])), (a_278, .inl (cy 2, 10, .inr (.inr (.inr (.inr (va_up (fun _ => none) (0 : Int32).toNatClampNeg (some pp))))))), (pp, .inr (19, fp))]) [1, 2, 0] (by decide) rfl
  exact W.vret hx hb hr (fun t ht hW => ⟨⟨⟨a_278, (va_up (fun _ => none) (0 : Int32).toNatClampNeg (some pp))⟩, rfl, zx_up_at _ (by decide), zx_fin hP9 hD9 hK ht hW⟩, hS.F ht⟩) hS.2.2 dJx4a65c_add_72be8_22
set_option maxHeartbeats 4000000 in
set_option maxRecDepth 100000 in
theorem c_AL_add1_X14_0 (l : Launch) (hst : l.stackTraces = false) (D : va_G) (cy : Nat → ClassId) (ed sz : Nat) (pa : Nat) (mc : Int32) (pp : Nat) (fp : List Value) : Met l yJx4a65c_add_9ea2d wzJx4a65c_add_9ea2d ({ frames := 4, cells := 1, slots := 10, locals := 80 }) (zx_Pc D cy ed sz [.ref pa, .ref pp] [(pa, .inr (4, [.int mc, .ref ed, .int 0])), (pp, .inr (19, fp))]) (va_Qi (fun (r9 : Int32) (u9 : Int32 × Nat × (Nat → Option Nat)) => match u9 with | (mx, qx, g2) => r9 = 1 ∧ g2 0 = some pp) (fun (u9 : Int32 × Nat × (Nat → Option Nat)) (t9 : State) => match u9 with | (mx, qx, g2) => zx_At D cy (va_A [(pa, .inr (4, [.int mc, .ref ed, .int 0])), (pp, .inr (19, fp))] sz) [(pa, .inr (4, [.int mx, .ref qx, .int 1])), (qx, .inl (cy 2, 10, .inr (.inr (.inr (.inr g2))))), (pp, .inr (19, fp))] t9) (va_A [(pa, .inr (4, [.int mc, .ref ed, .int 0])), (pp, .inr (19, fp))] sz)) 1 10 (va_A [(pa, .inr (4, [.int mc, .ref ed, .int 0])), (pp, .inr (19, fp))] sz) := by
  refine Met.ofW (cc := cJx4a65c_add_9ea2d) (maxL := 2) (ret := (some .boolean)) (by decide) rfl ?_
  intro p e s m args below meth c s₁ B hml hv
  obtain ⟨rfl, hsz, hP, hK, hD0, hZ, hN⟩ := hv
  have hx := B.exec
  have hb := B.bytes
  have hr := B.returns
  have hts := atoms_spec (ws := wzJx4a65c_add_9ea2d) B.pre
  have hown : s.vm.findClass RJx4a65c = some m.cls := findClass_of_methodNamed B.named
  have hlocks := B.notSynchronized
  subst hsz
  have hD := hD0.self (sz := s.heap.size)
  generalize hAe : va_A [(pa, .inr (4, [.int mc, .ref ed, .int 0])), (pp, .inr (19, fp))] s.heap.size = A at hD hZ ⊢
  have hA : ∀ q : Nat, s.heap.size ≤ q → A q := fun q h => by rw [← hAe]; exact Or.inr h
  have hS : va_S A s.heap s.heap [] := va_S.rf
  have hP : va_P D vwCl [(pa, .inr (4, [.int mc, .ref ed, .int 0])), (pp, .inr (19, fp))] s.heap := hP
  have hl := lv_entry ([.ref pa, .ref pp]) (n := 2) (Nat.le_of_ble_eq_true rfl)
  rw [lg_entry_eq]
  generalize (lg_sl ([.ref pa, .ref pp]) ++ List.replicate (2 - (lg_sl ([.ref pa, .ref pp])).length) Slot.unset).toArray = ls at hl ⊢
  have hl : lv_has ls 2 [(0, .ref pa), (1, .ref pp)] := hl
  refine lv_aload_n hx hb dJx4a65c_add_9ea2d_0 rfl (lv_at hl 0 rfl) ?_
  refine lv_dup hx hb dJx4a65c_add_9ea2d_1 rfl ?_
  refine va_get (D := D) (ci := 4) (v := .int mc) (C := RJx4a65c) (T := TJx4a65c) (N := 3) hx hb hts (fun w h => zx_Gc (uz_Jx4a65c w h)) hown hK hP 0 rfl rfl 0 (by decide) (hts (.fieldLink RJx4a65c 63 "java/util/ArrayList" "modCount" "I") (zx_Gc mm_220)) (fun x9 h9 => u_same (hts (.sameField "java/util/ArrayList" "java/util/AbstractList" "modCount" "I") (zx_Gc mm_219)) x9 h9) rfl dJx4a65c_add_9ea2d_2 ?_
  refine lv_iconst (v := 1) hx hb dJx4a65c_add_9ea2d_5 (by decide) ?_
  refine lv_iadd hx hb dJx4a65c_add_9ea2d_6 ?_
  refine va_put (D := D) (ci := 4) (v := .int (mc + (1 : Int32))) (ty := .int) (C := RJx4a65c) (T := TJx4a65c) (N := 3) hx hb hts (fun w h => zx_Gc (uz_Jx4a65c w h)) tyJx4a65c tyJx4a65c_ok nmJx4a65c hown hK hP hD hS 0 rfl rfl 0 (by decide) (hts (.fieldLink RJx4a65c 63 "java/util/ArrayList" "modCount" "I") (zx_Gc mm_220)) (fun x9 h9 => u_same (hts (.sameField "java/util/ArrayList" "java/util/AbstractList" "modCount" "I") (zx_Gc mm_219)) x9 h9) rfl (by decide +kernel) rfl rfl (Nat.le_of_ble_eq_true rfl) dJx4a65c_add_9ea2d_7 (fun H locs hP hD hS => ?_)
  have hP : va_P D vwCl [(pa, .inr (4, [.int (mc + (1 : Int32)), .ref ed, .int 0])), (pp, .inr (19, fp))] H := hP
  have hD : va_D A [(pa, .inr (4, [.int (mc + (1 : Int32)), .ref ed, .int 0])), (pp, .inr (19, fp))] := hD
  refine lv_aload_n hx hb dJx4a65c_add_9ea2d_10 rfl (lv_at hl 0 rfl) ?_
  refine lv_aload_n hx hb dJx4a65c_add_9ea2d_11 rfl (lv_at hl 1 rfl) ?_
  refine lv_aload_n hx hb dJx4a65c_add_9ea2d_12 rfl (lv_at hl 0 rfl) ?_
  refine va_get (D := D) (ci := 4) (v := .ref ed) (C := RJx4a65c) (T := TJx4a65c) (N := 3) hx hb hts (fun w h => zx_Gc (uz_Jx4a65c w h)) hown hK hP 0 rfl rfl 1 (by decide) (hts (.fieldLink RJx4a65c 9 "java/util/ArrayList" "elementData" "[Ljava/lang/Object;") (zx_Gc mm_213)) (fun _ h9 => h9) rfl dJx4a65c_add_9ea2d_13 ?_
  refine lv_aload_n hx hb dJx4a65c_add_9ea2d_16 rfl (lv_at hl 0 rfl) ?_
  refine va_get (D := D) (ci := 4) (v := .int 0) (C := RJx4a65c) (T := TJx4a65c) (N := 3) hx hb hts (fun w h => zx_Gc (uz_Jx4a65c w h)) hown hK hP 0 rfl rfl 2 (by decide) (hts (.fieldLink RJx4a65c 48 "java/util/ArrayList" "size" "I") (zx_Gc mm_216)) (fun _ h9 => h9) rfl dJx4a65c_add_9ea2d_17 ?_
  have hPc := hP.sub (ws' := [(pa, .inr (4, [.int (mc + (1 : Int32)), .ref ed, .int 0])), (pp, .inr (19, fp))]) [0, 1] rfl
  have hDc := hD.sub (ws' := [(pa, .inr (4, [.int (mc + (1 : Int32)), .ref ed, .int 0])), (pp, .inr (19, fp))]) [0, 1] (by decide) rfl
  have hFc := va_free (wc := [(pa, .inr (4, [.int (mc + (1 : Int32)), .ref ed, .int 0])), (pp, .inr (19, fp))]) hD hS hA [0, 1] rfl
  refine va_callv (va_runV (As := [.ref pp, .ref ed, .int 0]) (rest := []) ⟨hx, hb, hml, hown, hts⟩ (c_AL_add3_X14_0 l hst D cy ed H.size pa (mc + (1 : Int32)) pp fp) (cwV 3 hts (zx_GV mm_776 mm_778 mm_5 mm_77 mm_779) rfl rfl rfl (by decide +kernel) ⟨(Nat.le_of_ble_eq_true rfl), (Nat.le_of_ble_eq_true rfl)⟩) ⟨zx_blind, va_recv hK hPc (ci := 4) (q0 := 0) rfl rfl, zx_give hPc hK hDc hS hFc hZ hN⟩ rfl rfl hl.1 rfl (lv_room (Nat.le_of_ble_eq_true rfl)) dJx4a65c_add_9ea2d_20 ⟨(Nat.le_of_ble_eq_true rfl), (Nat.le_of_ble_eq_true rfl)⟩) hS (fun q _ h => hFc q h) hFc (fun u t H1 locs ht hvm hw hB hz1 hk1 hS => ?_)
  obtain ⟨qx_279, g2_280⟩ := u
  have h_281 := hw
  obtain ⟨hP, hD⟩ := zx_join (wr := []) (w1 := [(pa, .inr (4, [.int (mc + (1 : Int32)), .ref qx_279, .int 1])), (qx_279, .inl (cy 2, 10, .inr (.inr (.inr (.inr g2_280))))), (pp, .inr (19, fp))]) [0, 1] [] rfl rfl (by decide) (by decide) hP hD hk1 hFc hB ht
  generalize H1 = H at hP hS ⊢
  have hP : va_P D vwCl [(pa, .inr (4, [.int (mc + (1 : Int32)), .ref qx_279, .int 1])), (qx_279, .inl (cy 2, 10, .inr (.inr (.inr (.inr g2_280))))), (pp, .inr (19, fp))] H := hP
  have hD : va_D A [(pa, .inr (4, [.int (mc + (1 : Int32)), .ref qx_279, .int 1])), (qx_279, .inl (cy 2, 10, .inr (.inr (.inr (.inr g2_280))))), (pp, .inr (19, fp))] := hD
  refine W.widen (k := 1) (n := 10) (Nat.le_of_ble_eq_true rfl) (Nat.le_of_ble_eq_true rfl) ?_
  refine lv_iconst (v := 1) hx hb dJx4a65c_add_9ea2d_23 (by decide) ?_
  have hP9 := hP.sub (ws' := [(pa, .inr (4, [.int (mc + (1 : Int32)), .ref qx_279, .int 1])), (qx_279, .inl (cy 2, 10, .inr (.inr (.inr (.inr g2_280))))), (pp, .inr (19, fp))]) [0, 1, 2] rfl
  have hD9 := hD.sub (ws' := [(pa, .inr (4, [.int (mc + (1 : Int32)), .ref qx_279, .int 1])), (qx_279, .inl (cy 2, 10, .inr (.inr (.inr (.inr g2_280))))), (pp, .inr (19, fp))]) [0, 1, 2] (by decide) rfl
  exact W.zret (v := 1) hx hb hr rfl (fun t ht hW => ⟨⟨1, ⟨(mc + (1 : Int32)), qx_279, g2_280⟩, rfl, ⟨rfl, h_281⟩, zx_fin hP9 hD9 hK ht hW⟩, hS.F ht⟩) hS.2.2 dJx4a65c_add_9ea2d_24
set_option maxHeartbeats 4000000 in
set_option maxRecDepth 100000 in
theorem c_AL_add3_X12_0 (l : Launch) (hst : l.stackTraces = false) (D : va_G) (cy : Nat → ClassId) (ed sz : Nat) (pa : Nat) (mc : Int32) (pp : Nat) (fp : List Value) : Met l yJx4a65c_add_72be8 wzJx4a65c_add_72be8 ({ frames := 3, cells := 1, slots := 10, locals := 57 }) (zx_Pc D cy ed sz [.ref pa, .ref pp, .ref ed, .int 0] [(pa, .inr (4, [.int mc, .ref ed, .int 0])), (pp, .inr (17, fp))]) (va_Qv (fun (u9 : Nat × (Nat → Option Nat)) => match u9 with | (qx, g2) => g2 0 = some pp) (fun (u9 : Nat × (Nat → Option Nat)) (t9 : State) => match u9 with | (qx, g2) => zx_At D cy (va_A [(pa, .inr (4, [.int mc, .ref ed, .int 0])), (pp, .inr (17, fp))] sz) [(pa, .inr (4, [.int mc, .ref qx, .int 1])), (qx, .inl (cy 2, 10, .inr (.inr (.inr (.inr g2))))), (pp, .inr (17, fp))] t9) (va_A [(pa, .inr (4, [.int mc, .ref ed, .int 0])), (pp, .inr (17, fp))] sz)) 1 10 (va_A [(pa, .inr (4, [.int mc, .ref ed, .int 0])), (pp, .inr (17, fp))] sz) := by
  refine Met.ofW (cc := cJx4a65c_add_72be8) (maxL := 4) (ret := none) (by decide) rfl ?_
  intro p e s m args below meth c s₁ B hml hv
  obtain ⟨rfl, hsz, hP, hK, hD0, hZ, hN⟩ := hv
  have hx := B.exec
  have hb := B.bytes
  have hr := B.returns
  have hts := atoms_spec (ws := wzJx4a65c_add_72be8) B.pre
  have hown : s.vm.findClass RJx4a65c = some m.cls := findClass_of_methodNamed B.named
  have hlocks := B.notSynchronized
  subst hsz
  have hD := hD0.self (sz := s.heap.size)
  generalize hAe : va_A [(pa, .inr (4, [.int mc, .ref ed, .int 0])), (pp, .inr (17, fp))] s.heap.size = A at hD hZ ⊢
  have hA : ∀ q : Nat, s.heap.size ≤ q → A q := fun q h => by rw [← hAe]; exact Or.inr h
  have hS : va_S A s.heap s.heap [] := va_S.rf
  have hP : va_P D vwCl [(pa, .inr (4, [.int mc, .ref ed, .int 0])), (pp, .inr (17, fp))] s.heap := hP
  have hl := lv_entry ([.ref pa, .ref pp, .ref ed, .int 0]) (n := 4) (Nat.le_of_ble_eq_true rfl)
  rw [lg_entry_eq]
  generalize (lg_sl ([.ref pa, .ref pp, .ref ed, .int 0]) ++ List.replicate (4 - (lg_sl ([.ref pa, .ref pp, .ref ed, .int 0])).length) Slot.unset).toArray = ls at hl ⊢
  have hl : lv_has ls 4 [(0, .ref pa), (1, .ref pp), (2, .ref ed), (3, .int 0)] := hl
  refine lv_iload_n hx hb dJx4a65c_add_72be8_0 rfl (lv_at hl 3 rfl) ?_
  refine lv_aload_n hx hb dJx4a65c_add_72be8_1 rfl (lv_at hl 2 rfl) ?_
  refine va_tlen (v := 0) hx hb hZ.2.2.2.1 hS rfl dJx4a65c_add_72be8_2 ?_
  refine lv_icmp_ne (tgt := 11) hx hb dJx4a65c_add_72be8_3 (by decide) (fun c_282 => absurd c_282 (by decide)) (fun _ => ?_)
  refine lv_aload_n hx hb dJx4a65c_add_72be8_6 rfl (lv_at hl 0 rfl) ?_
  have hPc := hP.sub (ws' := [(pa, .inr (4, [.int mc, .ref ed, .int 0]))]) [0] rfl
  have hDc := hD.sub (ws' := [(pa, .inr (4, [.int mc, .ref ed, .int 0]))]) [0] (by decide) rfl
  have hFc := va_free (wc := [(pa, .inr (4, [.int mc, .ref ed, .int 0]))]) hD hS hA [0] rfl
  refine va_callr (va_runV (As := []) (rest := []) ⟨hx, hb, hml, hown, hts⟩ (c_AL_grow0_0 l hst D cy ed s.heap.size pa mc) (cwV 0 hts (zx_GV mm_780 mm_782 mm_6 mm_77 mm_783) rfl rfl rfl (by decide +kernel) ⟨(Nat.le_of_ble_eq_true rfl), (Nat.le_of_ble_eq_true rfl)⟩) ⟨zx_blind, va_recv hK hPc (ci := 4) (q0 := 0) rfl rfl, zx_give hPc hK hDc hS hFc hZ hN⟩ rfl rfl hl.1 rfl (lv_room (Nat.le_of_ble_eq_true rfl)) dJx4a65c_add_72be8_7 ⟨(Nat.le_of_ble_eq_true rfl), (Nat.le_of_ble_eq_true rfl)⟩) hS (fun q _ h => hFc q h) hFc (fun u ra9 t H1 locs ht hvm hw hB hz1 hk1 hS => ?_)
  obtain ⟨a_283, rfl⟩ : ∃ z9, z9 = ra9 := ⟨_, rfl⟩
  obtain ⟨hP, hD⟩ := zx_join (wr := [(pp, .inr (17, fp))]) (w1 := [(pa, .inr (4, [.int mc, .ref a_283, .int 0])), (a_283, .inl (cy 2, 10, .inr (.inr (.inr (.inr (fun _ => none))))))]) [0] [1] rfl rfl (by decide) (by decide) hP hD hk1 hFc hB ht
  generalize H1 = H at hP hS ⊢
  have hP : va_P D vwCl [(pp, .inr (17, fp)), (pa, .inr (4, [.int mc, .ref a_283, .int 0])), (a_283, .inl (cy 2, 10, .inr (.inr (.inr (.inr (fun _ => none))))))] H := hP
  have hD : va_D A [(pp, .inr (17, fp)), (pa, .inr (4, [.int mc, .ref a_283, .int 0])), (a_283, .inl (cy 2, 10, .inr (.inr (.inr (.inr (fun _ => none))))))] := hD
  refine W.widen (k := 1) (n := 10) (Nat.le_of_ble_eq_true rfl) (Nat.le_of_ble_eq_true rfl) ?_
  refine lv_astore_n (lv' := [(2, .ref a_283), (0, .ref pa), (1, .ref pp), (3, .int 0)]) hx hb dJx4a65c_add_72be8_10 rfl hl (by decide) rfl (fun ls hl => ?_)
  refine lv_aload_n hx hb dJx4a65c_add_72be8_11 rfl (lv_at hl 0 rfl) ?_
  refine lv_iload_n hx hb dJx4a65c_add_72be8_12 rfl (lv_at hl 3 rfl) ?_
  refine lv_aload_n hx hb dJx4a65c_add_72be8_13 rfl (lv_at hl 2 rfl) ?_
  refine va_astqO (E := "java/lang/Object") hx hb hK hP hD hS 2 2 0 17 rfl rfl (hN.2.2.1 _ _ (List.mem_of_getElem? (i := 2467) (by decide +kernel))) rfl rfl (zx_bn (by decide)) dJx4a65c_add_72be8_14 (fun H locs hP hD hS => ?_)
  have hP : va_P D vwCl [(pp, .inr (17, fp)), (pa, .inr (4, [.int mc, .ref a_283, .int 0])), (a_283, .inl (cy 2, 10, .inr (.inr (.inr (.inr (va_up (fun _ => none) (0 : Int32).toNatClampNeg (some pp)))))))] H := hP
  have hD : va_D A [(pp, .inr (17, fp)), (pa, .inr (4, [.int mc, .ref a_283, .int 0])), (a_283, .inl (cy 2, 10, .inr (.inr (.inr (.inr (va_up (fun _ => none) (0 : Int32).toNatClampNeg (some pp)))))))] := hD
  refine lv_aload_n hx hb dJx4a65c_add_72be8_15 rfl (lv_at hl 1 rfl) ?_
  refine lv_iload_n hx hb dJx4a65c_add_72be8_16 rfl (lv_at hl 3 rfl) ?_
  refine lv_iconst (v := 1) hx hb dJx4a65c_add_72be8_17 (by decide) ?_
  refine lv_iadd hx hb dJx4a65c_add_72be8_18 ?_
  refine lv_topi (fun y9 ey9 => ?_)
  obtain rfl : y9 = 1 := by rw [ey9] <;> decide
  refine va_put (D := D) (ci := 4) (v := .int 1) (ty := .int) (C := RJx4a65c) (T := TJx4a65c) (N := 3) hx hb hts (fun w h => zx_Gc (uz_Jx4a65c w h)) tyJx4a65c tyJx4a65c_ok nmJx4a65c hown hK hP hD hS 1 rfl rfl 2 (by decide) (hts (.fieldLink RJx4a65c 48 "java/util/ArrayList" "size" "I") (zx_Gc mm_216)) (fun _ h9 => h9) rfl (by decide +kernel) rfl rfl (Nat.le_of_ble_eq_true rfl) dJx4a65c_add_72be8_19 (fun H locs hP hD hS => ?_)
  have hP : va_P D vwCl [(pp, .inr (17, fp)), (pa, .inr (4, [.int mc, .ref a_283, .int 1])), (a_283, .inl (cy 2, 10, .inr (.inr (.inr (.inr (va_up (fun _ => none) (0 : Int32).toNatClampNeg (some pp)))))))] H := hP
  have hD : va_D A [(pp, .inr (17, fp)), (pa, .inr (4, [.int mc, .ref a_283, .int 1])), (a_283, .inl (cy 2, 10, .inr (.inr (.inr (.inr (va_up (fun _ => none) (0 : Int32).toNatClampNeg (some pp)))))))] := hD
  have hP9 := hP.sub (ws' := [(pa, .inr (4, [.int mc, .ref a_283, .int 1])), (a_283, .inl (cy 2, 10, .inr (.inr (.inr (.inr (va_up (fun _ => none) (0 : Int32).toNatClampNeg (some pp))))))), (pp, .inr (17, fp))]) [1, 2, 0] rfl
  have hD9 := hD.sub (ws' := [(pa, .inr (4, [.int mc, .ref a_283, .int 1])), (a_283, .inl (cy 2, 10, .inr (.inr (.inr (.inr (va_up (fun _ => none) (0 : Int32).toNatClampNeg (some pp))))))), (pp, .inr (17, fp))]) [1, 2, 0] (by decide) rfl
  exact W.vret hx hb hr (fun t ht hW => ⟨⟨⟨a_283, (va_up (fun _ => none) (0 : Int32).toNatClampNeg (some pp))⟩, rfl, zx_up_at _ (by decide), zx_fin hP9 hD9 hK ht hW⟩, hS.F ht⟩) hS.2.2 dJx4a65c_add_72be8_22
set_option maxHeartbeats 4000000 in
set_option maxRecDepth 100000 in
theorem c_AL_add1_X12_0 (l : Launch) (hst : l.stackTraces = false) (D : va_G) (cy : Nat → ClassId) (ed sz : Nat) (pa : Nat) (mc : Int32) (pp : Nat) (fp : List Value) : Met l yJx4a65c_add_9ea2d wzJx4a65c_add_9ea2d ({ frames := 4, cells := 1, slots := 10, locals := 80 }) (zx_Pc D cy ed sz [.ref pa, .ref pp] [(pa, .inr (4, [.int mc, .ref ed, .int 0])), (pp, .inr (17, fp))]) (va_Qi (fun (r9 : Int32) (u9 : Int32 × Nat × (Nat → Option Nat)) => match u9 with | (mx, qx, g2) => r9 = 1 ∧ g2 0 = some pp) (fun (u9 : Int32 × Nat × (Nat → Option Nat)) (t9 : State) => match u9 with | (mx, qx, g2) => zx_At D cy (va_A [(pa, .inr (4, [.int mc, .ref ed, .int 0])), (pp, .inr (17, fp))] sz) [(pa, .inr (4, [.int mx, .ref qx, .int 1])), (qx, .inl (cy 2, 10, .inr (.inr (.inr (.inr g2))))), (pp, .inr (17, fp))] t9) (va_A [(pa, .inr (4, [.int mc, .ref ed, .int 0])), (pp, .inr (17, fp))] sz)) 1 10 (va_A [(pa, .inr (4, [.int mc, .ref ed, .int 0])), (pp, .inr (17, fp))] sz) := by
  refine Met.ofW (cc := cJx4a65c_add_9ea2d) (maxL := 2) (ret := (some .boolean)) (by decide) rfl ?_
  intro p e s m args below meth c s₁ B hml hv
  obtain ⟨rfl, hsz, hP, hK, hD0, hZ, hN⟩ := hv
  have hx := B.exec
  have hb := B.bytes
  have hr := B.returns
  have hts := atoms_spec (ws := wzJx4a65c_add_9ea2d) B.pre
  have hown : s.vm.findClass RJx4a65c = some m.cls := findClass_of_methodNamed B.named
  have hlocks := B.notSynchronized
  subst hsz
  have hD := hD0.self (sz := s.heap.size)
  generalize hAe : va_A [(pa, .inr (4, [.int mc, .ref ed, .int 0])), (pp, .inr (17, fp))] s.heap.size = A at hD hZ ⊢
  have hA : ∀ q : Nat, s.heap.size ≤ q → A q := fun q h => by rw [← hAe]; exact Or.inr h
  have hS : va_S A s.heap s.heap [] := va_S.rf
  have hP : va_P D vwCl [(pa, .inr (4, [.int mc, .ref ed, .int 0])), (pp, .inr (17, fp))] s.heap := hP
  have hl := lv_entry ([.ref pa, .ref pp]) (n := 2) (Nat.le_of_ble_eq_true rfl)
  rw [lg_entry_eq]
  generalize (lg_sl ([.ref pa, .ref pp]) ++ List.replicate (2 - (lg_sl ([.ref pa, .ref pp])).length) Slot.unset).toArray = ls at hl ⊢
  have hl : lv_has ls 2 [(0, .ref pa), (1, .ref pp)] := hl
  refine lv_aload_n hx hb dJx4a65c_add_9ea2d_0 rfl (lv_at hl 0 rfl) ?_
  refine lv_dup hx hb dJx4a65c_add_9ea2d_1 rfl ?_
  refine va_get (D := D) (ci := 4) (v := .int mc) (C := RJx4a65c) (T := TJx4a65c) (N := 3) hx hb hts (fun w h => zx_Gc (uz_Jx4a65c w h)) hown hK hP 0 rfl rfl 0 (by decide) (hts (.fieldLink RJx4a65c 63 "java/util/ArrayList" "modCount" "I") (zx_Gc mm_220)) (fun x9 h9 => u_same (hts (.sameField "java/util/ArrayList" "java/util/AbstractList" "modCount" "I") (zx_Gc mm_219)) x9 h9) rfl dJx4a65c_add_9ea2d_2 ?_
  refine lv_iconst (v := 1) hx hb dJx4a65c_add_9ea2d_5 (by decide) ?_
  refine lv_iadd hx hb dJx4a65c_add_9ea2d_6 ?_
  refine va_put (D := D) (ci := 4) (v := .int (mc + (1 : Int32))) (ty := .int) (C := RJx4a65c) (T := TJx4a65c) (N := 3) hx hb hts (fun w h => zx_Gc (uz_Jx4a65c w h)) tyJx4a65c tyJx4a65c_ok nmJx4a65c hown hK hP hD hS 0 rfl rfl 0 (by decide) (hts (.fieldLink RJx4a65c 63 "java/util/ArrayList" "modCount" "I") (zx_Gc mm_220)) (fun x9 h9 => u_same (hts (.sameField "java/util/ArrayList" "java/util/AbstractList" "modCount" "I") (zx_Gc mm_219)) x9 h9) rfl (by decide +kernel) rfl rfl (Nat.le_of_ble_eq_true rfl) dJx4a65c_add_9ea2d_7 (fun H locs hP hD hS => ?_)
  have hP : va_P D vwCl [(pa, .inr (4, [.int (mc + (1 : Int32)), .ref ed, .int 0])), (pp, .inr (17, fp))] H := hP
  have hD : va_D A [(pa, .inr (4, [.int (mc + (1 : Int32)), .ref ed, .int 0])), (pp, .inr (17, fp))] := hD
  refine lv_aload_n hx hb dJx4a65c_add_9ea2d_10 rfl (lv_at hl 0 rfl) ?_
  refine lv_aload_n hx hb dJx4a65c_add_9ea2d_11 rfl (lv_at hl 1 rfl) ?_
  refine lv_aload_n hx hb dJx4a65c_add_9ea2d_12 rfl (lv_at hl 0 rfl) ?_
  refine va_get (D := D) (ci := 4) (v := .ref ed) (C := RJx4a65c) (T := TJx4a65c) (N := 3) hx hb hts (fun w h => zx_Gc (uz_Jx4a65c w h)) hown hK hP 0 rfl rfl 1 (by decide) (hts (.fieldLink RJx4a65c 9 "java/util/ArrayList" "elementData" "[Ljava/lang/Object;") (zx_Gc mm_213)) (fun _ h9 => h9) rfl dJx4a65c_add_9ea2d_13 ?_
  refine lv_aload_n hx hb dJx4a65c_add_9ea2d_16 rfl (lv_at hl 0 rfl) ?_
  refine va_get (D := D) (ci := 4) (v := .int 0) (C := RJx4a65c) (T := TJx4a65c) (N := 3) hx hb hts (fun w h => zx_Gc (uz_Jx4a65c w h)) hown hK hP 0 rfl rfl 2 (by decide) (hts (.fieldLink RJx4a65c 48 "java/util/ArrayList" "size" "I") (zx_Gc mm_216)) (fun _ h9 => h9) rfl dJx4a65c_add_9ea2d_17 ?_
  have hPc := hP.sub (ws' := [(pa, .inr (4, [.int (mc + (1 : Int32)), .ref ed, .int 0])), (pp, .inr (17, fp))]) [0, 1] rfl
  have hDc := hD.sub (ws' := [(pa, .inr (4, [.int (mc + (1 : Int32)), .ref ed, .int 0])), (pp, .inr (17, fp))]) [0, 1] (by decide) rfl
  have hFc := va_free (wc := [(pa, .inr (4, [.int (mc + (1 : Int32)), .ref ed, .int 0])), (pp, .inr (17, fp))]) hD hS hA [0, 1] rfl
  refine va_callv (va_runV (As := [.ref pp, .ref ed, .int 0]) (rest := []) ⟨hx, hb, hml, hown, hts⟩ (c_AL_add3_X12_0 l hst D cy ed H.size pa (mc + (1 : Int32)) pp fp) (cwV 3 hts (zx_GV mm_776 mm_778 mm_5 mm_77 mm_779) rfl rfl rfl (by decide +kernel) ⟨(Nat.le_of_ble_eq_true rfl), (Nat.le_of_ble_eq_true rfl)⟩) ⟨zx_blind, va_recv hK hPc (ci := 4) (q0 := 0) rfl rfl, zx_give hPc hK hDc hS hFc hZ hN⟩ rfl rfl hl.1 rfl (lv_room (Nat.le_of_ble_eq_true rfl)) dJx4a65c_add_9ea2d_20 ⟨(Nat.le_of_ble_eq_true rfl), (Nat.le_of_ble_eq_true rfl)⟩) hS (fun q _ h => hFc q h) hFc (fun u t H1 locs ht hvm hw hB hz1 hk1 hS => ?_)
  obtain ⟨qx_284, g2_285⟩ := u
  have h_286 := hw
  obtain ⟨hP, hD⟩ := zx_join (wr := []) (w1 := [(pa, .inr (4, [.int (mc + (1 : Int32)), .ref qx_284, .int 1])), (qx_284, .inl (cy 2, 10, .inr (.inr (.inr (.inr g2_285))))), (pp, .inr (17, fp))]) [0, 1] [] rfl rfl (by decide) (by decide) hP hD hk1 hFc hB ht
  generalize H1 = H at hP hS ⊢
  have hP : va_P D vwCl [(pa, .inr (4, [.int (mc + (1 : Int32)), .ref qx_284, .int 1])), (qx_284, .inl (cy 2, 10, .inr (.inr (.inr (.inr g2_285))))), (pp, .inr (17, fp))] H := hP
  have hD : va_D A [(pa, .inr (4, [.int (mc + (1 : Int32)), .ref qx_284, .int 1])), (qx_284, .inl (cy 2, 10, .inr (.inr (.inr (.inr g2_285))))), (pp, .inr (17, fp))] := hD
  refine W.widen (k := 1) (n := 10) (Nat.le_of_ble_eq_true rfl) (Nat.le_of_ble_eq_true rfl) ?_
  refine lv_iconst (v := 1) hx hb dJx4a65c_add_9ea2d_23 (by decide) ?_
  have hP9 := hP.sub (ws' := [(pa, .inr (4, [.int (mc + (1 : Int32)), .ref qx_284, .int 1])), (qx_284, .inl (cy 2, 10, .inr (.inr (.inr (.inr g2_285))))), (pp, .inr (17, fp))]) [0, 1, 2] rfl
  have hD9 := hD.sub (ws' := [(pa, .inr (4, [.int (mc + (1 : Int32)), .ref qx_284, .int 1])), (qx_284, .inl (cy 2, 10, .inr (.inr (.inr (.inr g2_285))))), (pp, .inr (17, fp))]) [0, 1, 2] (by decide) rfl
  exact W.zret (v := 1) hx hb hr rfl (fun t ht hW => ⟨⟨1, ⟨(mc + (1 : Int32)), qx_284, g2_285⟩, rfl, ⟨rfl, h_286⟩, zx_fin hP9 hD9 hK ht hW⟩, hS.F ht⟩) hS.2.2 dJx4a65c_add_9ea2d_24
set_option maxHeartbeats 4000000 in
set_option maxRecDepth 100000 in
theorem c_AL_add3_X12_1 (l : Launch) (hst : l.stackTraces = false) (D : va_G) (cy : Nat → ClassId) (ed sz : Nat) (pa : Nat) (el : Nat) (mc : Int32) (g : Nat → Option Nat) (pp : Nat) (fp : List Value) : Met l yJx4a65c_add_72be8 wzJx4a65c_add_72be8 ({ frames := 0, cells := 0, slots := 0, locals := 0 }) (zx_Pc D cy ed sz [.ref pa, .ref pp, .ref el, .int 1] [(pa, .inr (4, [.int mc, .ref el, .int 1])), (el, .inl (cy 2, 10, .inr (.inr (.inr (.inr g))))), (pp, .inr (17, fp))]) (va_Qv (fun (u9 : Nat × (Nat → Option Nat)) => match u9 with | (qx, g2) => g2 1 = some pp ∧ ∀ j, j < 1 → g2 j = g j) (fun (u9 : Nat × (Nat → Option Nat)) (t9 : State) => match u9 with | (qx, g2) => zx_At D cy (va_A [(pa, .inr (4, [.int mc, .ref el, .int 1])), (el, .inl (cy 2, 10, .inr (.inr (.inr (.inr g))))), (pp, .inr (17, fp))] sz) [(pa, .inr (4, [.int mc, .ref qx, .int 2])), (qx, .inl (cy 2, 10, .inr (.inr (.inr (.inr g2))))), (pp, .inr (17, fp))] t9) (va_A [(pa, .inr (4, [.int mc, .ref el, .int 1])), (el, .inl (cy 2, 10, .inr (.inr (.inr (.inr g))))), (pp, .inr (17, fp))] sz)) 0 0 (va_A [(pa, .inr (4, [.int mc, .ref el, .int 1])), (el, .inl (cy 2, 10, .inr (.inr (.inr (.inr g))))), (pp, .inr (17, fp))] sz) := by
  refine Met.ofW (cc := cJx4a65c_add_72be8) (maxL := 4) (ret := none) (by decide) rfl ?_
  intro p e s m args below meth c s₁ B hml hv
  obtain ⟨rfl, hsz, hP, hK, hD0, hZ, hN⟩ := hv
  have hx := B.exec
  have hb := B.bytes
  have hr := B.returns
  have hts := atoms_spec (ws := wzJx4a65c_add_72be8) B.pre
  have hown : s.vm.findClass RJx4a65c = some m.cls := findClass_of_methodNamed B.named
  have hlocks := B.notSynchronized
  subst hsz
  have hD := hD0.self (sz := s.heap.size)
  generalize hAe : va_A [(pa, .inr (4, [.int mc, .ref el, .int 1])), (el, .inl (cy 2, 10, .inr (.inr (.inr (.inr g))))), (pp, .inr (17, fp))] s.heap.size = A at hD hZ ⊢
  have hA : ∀ q : Nat, s.heap.size ≤ q → A q := fun q h => by rw [← hAe]; exact Or.inr h
  have hS : va_S A s.heap s.heap [] := va_S.rf
  have hP : va_P D vwCl [(pa, .inr (4, [.int mc, .ref el, .int 1])), (el, .inl (cy 2, 10, .inr (.inr (.inr (.inr g))))), (pp, .inr (17, fp))] s.heap := hP
  have hl := lv_entry ([.ref pa, .ref pp, .ref el, .int 1]) (n := 4) (Nat.le_of_ble_eq_true rfl)
  rw [lg_entry_eq]
  generalize (lg_sl ([.ref pa, .ref pp, .ref el, .int 1]) ++ List.replicate (4 - (lg_sl ([.ref pa, .ref pp, .ref el, .int 1])).length) Slot.unset).toArray = ls at hl ⊢
  have hl : lv_has ls 4 [(0, .ref pa), (1, .ref pp), (2, .ref el), (3, .int 1)] := hl
  refine lv_iload_n hx hb dJx4a65c_add_72be8_0 rfl (lv_at hl 3 rfl) ?_
  refine lv_aload_n hx hb dJx4a65c_add_72be8_1 rfl (lv_at hl 2 rfl) ?_
  refine va_alen (v := 10) hx hb hK hP 1 2 rfl rfl (show Int32.ofNat 10 = 10 from by decide) dJx4a65c_add_72be8_2 ?_
  refine lv_icmp_ne (tgt := 11) hx hb dJx4a65c_add_72be8_3 (by decide) (fun _ => ?_) (fun c_287 => absurd c_287 (by decide))
  refine lv_aload_n hx hb dJx4a65c_add_72be8_11 rfl (lv_at hl 2 rfl) ?_
  refine lv_iload_n hx hb dJx4a65c_add_72be8_12 rfl (lv_at hl 3 rfl) ?_
  refine lv_aload_n hx hb dJx4a65c_add_72be8_13 rfl (lv_at hl 1 rfl) ?_
  refine va_astqO (E := "java/lang/Object") hx hb hK hP hD hS 1 2 2 17 rfl rfl (hN.2.2.1 _ _ (List.mem_of_getElem? (i := 2467) (by decide +kernel))) rfl rfl (zx_bn (by decide)) dJx4a65c_add_72be8_14 (fun H locs hP hD hS => ?_)
  have hP : va_P D vwCl [(pa, .inr (4, [.int mc, .ref el, .int 1])), (el, .inl (cy 2, 10, .inr (.inr (.inr (.inr (va_up g (1 : Int32).toNatClampNeg (some pp))))))), (pp, .inr (17, fp))] H := hP
  have hD : va_D A [(pa, .inr (4, [.int mc, .ref el, .int 1])), (el, .inl (cy 2, 10, .inr (.inr (.inr (.inr (va_up g (1 : Int32).toNatClampNeg (some pp))))))), (pp, .inr (17, fp))] := hD
  refine lv_aload_n hx hb dJx4a65c_add_72be8_15 rfl (lv_at hl 0 rfl) ?_
  refine lv_iload_n hx hb dJx4a65c_add_72be8_16 rfl (lv_at hl 3 rfl) ?_
  refine lv_iconst (v := 1) hx hb dJx4a65c_add_72be8_17 (by decide) ?_
  refine lv_iadd hx hb dJx4a65c_add_72be8_18 ?_
  refine lv_topi (fun y9 ey9 => ?_)
  obtain rfl : y9 = 2 := by rw [ey9] <;> decide
  refine va_put (D := D) (ci := 4) (v := .int 2) (ty := .int) (C := RJx4a65c) (T := TJx4a65c) (N := 3) hx hb hts (fun w h => zx_Gc (uz_Jx4a65c w h)) tyJx4a65c tyJx4a65c_ok nmJx4a65c hown hK hP hD hS 0 rfl rfl 2 (by decide) (hts (.fieldLink RJx4a65c 48 "java/util/ArrayList" "size" "I") (zx_Gc mm_216)) (fun _ h9 => h9) rfl (by decide +kernel) rfl rfl (Nat.le_of_ble_eq_true rfl) dJx4a65c_add_72be8_19 (fun H locs hP hD hS => ?_)
  have hP : va_P D vwCl [(pa, .inr (4, [.int mc, .ref el, .int 2])), (el, .inl (cy 2, 10, .inr (.inr (.inr (.inr (va_up g (1 : Int32).toNatClampNeg (some pp))))))), (pp, .inr (17, fp))] H := hP
  have hD : va_D A [(pa, .inr (4, [.int mc, .ref el, .int 2])), (el, .inl (cy 2, 10, .inr (.inr (.inr (.inr (va_up g (1 : Int32).toNatClampNeg (some pp))))))), (pp, .inr (17, fp))] := hD
  have hP9 := hP.sub (ws' := [(pa, .inr (4, [.int mc, .ref el, .int 2])), (el, .inl (cy 2, 10, .inr (.inr (.inr (.inr (va_up g (1 : Int32).toNatClampNeg (some pp))))))), (pp, .inr (17, fp))]) [0, 1, 2] rfl
  have hD9 := hD.sub (ws' := [(pa, .inr (4, [.int mc, .ref el, .int 2])), (el, .inl (cy 2, 10, .inr (.inr (.inr (.inr (va_up g (1 : Int32).toNatClampNeg (some pp))))))), (pp, .inr (17, fp))]) [0, 1, 2] (by decide) rfl
  exact W.vret hx hb hr (fun t ht hW => ⟨⟨⟨el, (va_up g (1 : Int32).toNatClampNeg (some pp))⟩, rfl, ⟨zx_up_at _ (by decide), fun j9 hj9 => zx_up_ne _ (by show j9 ≠ 1; omega)⟩, zx_fin hP9 hD9 hK ht hW⟩, hS.F ht⟩) hS.2.2 dJx4a65c_add_72be8_22
set_option maxHeartbeats 4000000 in
set_option maxRecDepth 100000 in
theorem c_AL_add1_X12_1 (l : Launch) (hst : l.stackTraces = false) (D : va_G) (cy : Nat → ClassId) (ed sz : Nat) (pa : Nat) (el : Nat) (mc : Int32) (g : Nat → Option Nat) (pp : Nat) (fp : List Value) : Met l yJx4a65c_add_9ea2d wzJx4a65c_add_9ea2d ({ frames := 1, cells := 0, slots := 0, locals := 23 }) (zx_Pc D cy ed sz [.ref pa, .ref pp] [(pa, .inr (4, [.int mc, .ref el, .int 1])), (el, .inl (cy 2, 10, .inr (.inr (.inr (.inr g))))), (pp, .inr (17, fp))]) (va_Qi (fun (r9 : Int32) (u9 : Int32 × Nat × (Nat → Option Nat)) => match u9 with | (mx, qx, g2) => r9 = 1 ∧ g2 1 = some pp ∧ ∀ j, j < 1 → g2 j = g j) (fun (u9 : Int32 × Nat × (Nat → Option Nat)) (t9 : State) => match u9 with | (mx, qx, g2) => zx_At D cy (va_A [(pa, .inr (4, [.int mc, .ref el, .int 1])), (el, .inl (cy 2, 10, .inr (.inr (.inr (.inr g))))), (pp, .inr (17, fp))] sz) [(pa, .inr (4, [.int mx, .ref qx, .int 2])), (qx, .inl (cy 2, 10, .inr (.inr (.inr (.inr g2))))), (pp, .inr (17, fp))] t9) (va_A [(pa, .inr (4, [.int mc, .ref el, .int 1])), (el, .inl (cy 2, 10, .inr (.inr (.inr (.inr g))))), (pp, .inr (17, fp))] sz)) 0 0 (va_A [(pa, .inr (4, [.int mc, .ref el, .int 1])), (el, .inl (cy 2, 10, .inr (.inr (.inr (.inr g))))), (pp, .inr (17, fp))] sz) := by
  refine Met.ofW (cc := cJx4a65c_add_9ea2d) (maxL := 2) (ret := (some .boolean)) (by decide) rfl ?_
  intro p e s m args below meth c s₁ B hml hv
  obtain ⟨rfl, hsz, hP, hK, hD0, hZ, hN⟩ := hv
  have hx := B.exec
  have hb := B.bytes
  have hr := B.returns
  have hts := atoms_spec (ws := wzJx4a65c_add_9ea2d) B.pre
  have hown : s.vm.findClass RJx4a65c = some m.cls := findClass_of_methodNamed B.named
  have hlocks := B.notSynchronized
  subst hsz
  have hD := hD0.self (sz := s.heap.size)
  generalize hAe : va_A [(pa, .inr (4, [.int mc, .ref el, .int 1])), (el, .inl (cy 2, 10, .inr (.inr (.inr (.inr g))))), (pp, .inr (17, fp))] s.heap.size = A at hD hZ ⊢
  have hA : ∀ q : Nat, s.heap.size ≤ q → A q := fun q h => by rw [← hAe]; exact Or.inr h
  have hS : va_S A s.heap s.heap [] := va_S.rf
  have hP : va_P D vwCl [(pa, .inr (4, [.int mc, .ref el, .int 1])), (el, .inl (cy 2, 10, .inr (.inr (.inr (.inr g))))), (pp, .inr (17, fp))] s.heap := hP
  have hl := lv_entry ([.ref pa, .ref pp]) (n := 2) (Nat.le_of_ble_eq_true rfl)
  rw [lg_entry_eq]
  generalize (lg_sl ([.ref pa, .ref pp]) ++ List.replicate (2 - (lg_sl ([.ref pa, .ref pp])).length) Slot.unset).toArray = ls at hl ⊢
  have hl : lv_has ls 2 [(0, .ref pa), (1, .ref pp)] := hl
  refine lv_aload_n hx hb dJx4a65c_add_9ea2d_0 rfl (lv_at hl 0 rfl) ?_
  refine lv_dup hx hb dJx4a65c_add_9ea2d_1 rfl ?_
  refine va_get (D := D) (ci := 4) (v := .int mc) (C := RJx4a65c) (T := TJx4a65c) (N := 3) hx hb hts (fun w h => zx_Gc (uz_Jx4a65c w h)) hown hK hP 0 rfl rfl 0 (by decide) (hts (.fieldLink RJx4a65c 63 "java/util/ArrayList" "modCount" "I") (zx_Gc mm_220)) (fun x9 h9 => u_same (hts (.sameField "java/util/ArrayList" "java/util/AbstractList" "modCount" "I") (zx_Gc mm_219)) x9 h9) rfl dJx4a65c_add_9ea2d_2 ?_
  refine lv_iconst (v := 1) hx hb dJx4a65c_add_9ea2d_5 (by decide) ?_
  refine lv_iadd hx hb dJx4a65c_add_9ea2d_6 ?_
  refine va_put (D := D) (ci := 4) (v := .int (mc + (1 : Int32))) (ty := .int) (C := RJx4a65c) (T := TJx4a65c) (N := 3) hx hb hts (fun w h => zx_Gc (uz_Jx4a65c w h)) tyJx4a65c tyJx4a65c_ok nmJx4a65c hown hK hP hD hS 0 rfl rfl 0 (by decide) (hts (.fieldLink RJx4a65c 63 "java/util/ArrayList" "modCount" "I") (zx_Gc mm_220)) (fun x9 h9 => u_same (hts (.sameField "java/util/ArrayList" "java/util/AbstractList" "modCount" "I") (zx_Gc mm_219)) x9 h9) rfl (by decide +kernel) rfl rfl (Nat.le_of_ble_eq_true rfl) dJx4a65c_add_9ea2d_7 (fun H locs hP hD hS => ?_)
  have hP : va_P D vwCl [(pa, .inr (4, [.int (mc + (1 : Int32)), .ref el, .int 1])), (el, .inl (cy 2, 10, .inr (.inr (.inr (.inr g))))), (pp, .inr (17, fp))] H := hP
  have hD : va_D A [(pa, .inr (4, [.int (mc + (1 : Int32)), .ref el, .int 1])), (el, .inl (cy 2, 10, .inr (.inr (.inr (.inr g))))), (pp, .inr (17, fp))] := hD
  refine lv_aload_n hx hb dJx4a65c_add_9ea2d_10 rfl (lv_at hl 0 rfl) ?_
  refine lv_aload_n hx hb dJx4a65c_add_9ea2d_11 rfl (lv_at hl 1 rfl) ?_
  refine lv_aload_n hx hb dJx4a65c_add_9ea2d_12 rfl (lv_at hl 0 rfl) ?_
  refine va_get (D := D) (ci := 4) (v := .ref el) (C := RJx4a65c) (T := TJx4a65c) (N := 3) hx hb hts (fun w h => zx_Gc (uz_Jx4a65c w h)) hown hK hP 0 rfl rfl 1 (by decide) (hts (.fieldLink RJx4a65c 9 "java/util/ArrayList" "elementData" "[Ljava/lang/Object;") (zx_Gc mm_213)) (fun _ h9 => h9) rfl dJx4a65c_add_9ea2d_13 ?_
  refine lv_aload_n hx hb dJx4a65c_add_9ea2d_16 rfl (lv_at hl 0 rfl) ?_
  refine va_get (D := D) (ci := 4) (v := .int 1) (C := RJx4a65c) (T := TJx4a65c) (N := 3) hx hb hts (fun w h => zx_Gc (uz_Jx4a65c w h)) hown hK hP 0 rfl rfl 2 (by decide) (hts (.fieldLink RJx4a65c 48 "java/util/ArrayList" "size" "I") (zx_Gc mm_216)) (fun _ h9 => h9) rfl dJx4a65c_add_9ea2d_17 ?_
  have hPc := hP.sub (ws' := [(pa, .inr (4, [.int (mc + (1 : Int32)), .ref el, .int 1])), (el, .inl (cy 2, 10, .inr (.inr (.inr (.inr g))))), (pp, .inr (17, fp))]) [0, 1, 2] rfl
  have hDc := hD.sub (ws' := [(pa, .inr (4, [.int (mc + (1 : Int32)), .ref el, .int 1])), (el, .inl (cy 2, 10, .inr (.inr (.inr (.inr g))))), (pp, .inr (17, fp))]) [0, 1, 2] (by decide) rfl
  have hFc := va_free (wc := [(pa, .inr (4, [.int (mc + (1 : Int32)), .ref el, .int 1])), (el, .inl (cy 2, 10, .inr (.inr (.inr (.inr g))))), (pp, .inr (17, fp))]) hD hS hA [0, 1, 2] rfl
  refine va_callv (va_runV (As := [.ref pp, .ref el, .int 1]) (rest := []) ⟨hx, hb, hml, hown, hts⟩ (c_AL_add3_X12_1 l hst D cy ed H.size pa el (mc + (1 : Int32)) g pp fp) (cwV 3 hts (zx_GV mm_776 mm_778 mm_5 mm_77 mm_779) rfl rfl rfl (by decide +kernel) ⟨(Nat.le_of_ble_eq_true rfl), (Nat.le_of_ble_eq_true rfl)⟩) ⟨zx_blind, va_recv hK hPc (ci := 4) (q0 := 0) rfl rfl, zx_give hPc hK hDc hS hFc hZ hN⟩ rfl rfl hl.1 rfl (lv_room (Nat.le_of_ble_eq_true rfl)) dJx4a65c_add_9ea2d_20 ⟨(Nat.le_of_ble_eq_true rfl), (Nat.le_of_ble_eq_true rfl)⟩) hS (fun q _ h => hFc q h) hFc (fun u t H1 locs ht hvm hw hB hz1 hk1 hS => ?_)
  obtain ⟨qx_288, g2_289⟩ := u
  have h_290 := hw
  obtain ⟨hP, hD⟩ := zx_join (wr := []) (w1 := [(pa, .inr (4, [.int (mc + (1 : Int32)), .ref qx_288, .int 2])), (qx_288, .inl (cy 2, 10, .inr (.inr (.inr (.inr g2_289))))), (pp, .inr (17, fp))]) [0, 1, 2] [] rfl rfl (by decide) (by decide) hP hD hk1 hFc hB ht
  generalize H1 = H at hP hS ⊢
  have hP : va_P D vwCl [(pa, .inr (4, [.int (mc + (1 : Int32)), .ref qx_288, .int 2])), (qx_288, .inl (cy 2, 10, .inr (.inr (.inr (.inr g2_289))))), (pp, .inr (17, fp))] H := hP
  have hD : va_D A [(pa, .inr (4, [.int (mc + (1 : Int32)), .ref qx_288, .int 2])), (qx_288, .inl (cy 2, 10, .inr (.inr (.inr (.inr g2_289))))), (pp, .inr (17, fp))] := hD
  refine W.widen (k := 0) (n := 0) (Nat.le_of_ble_eq_true rfl) (Nat.le_of_ble_eq_true rfl) ?_
  obtain ⟨hs_291, hs_292⟩ := h_290
  refine lv_iconst (v := 1) hx hb dJx4a65c_add_9ea2d_23 (by decide) ?_
  have hP9 := hP.sub (ws' := [(pa, .inr (4, [.int (mc + (1 : Int32)), .ref qx_288, .int 2])), (qx_288, .inl (cy 2, 10, .inr (.inr (.inr (.inr g2_289))))), (pp, .inr (17, fp))]) [0, 1, 2] rfl
  have hD9 := hD.sub (ws' := [(pa, .inr (4, [.int (mc + (1 : Int32)), .ref qx_288, .int 2])), (qx_288, .inl (cy 2, 10, .inr (.inr (.inr (.inr g2_289))))), (pp, .inr (17, fp))]) [0, 1, 2] (by decide) rfl
  exact W.zret (v := 1) hx hb hr rfl (fun t ht hW => ⟨⟨1, ⟨(mc + (1 : Int32)), qx_288, g2_289⟩, rfl, ⟨rfl, ⟨hs_291, hs_292⟩⟩, zx_fin hP9 hD9 hK ht hW⟩, hS.F ht⟩) hS.2.2 dJx4a65c_add_9ea2d_24
set_option maxHeartbeats 4000000 in
set_option maxRecDepth 100000 in
theorem c_AL_add3_X12_2 (l : Launch) (hst : l.stackTraces = false) (D : va_G) (cy : Nat → ClassId) (ed sz : Nat) (pa : Nat) (el : Nat) (mc : Int32) (g : Nat → Option Nat) (pp : Nat) (fp : List Value) : Met l yJx4a65c_add_72be8 wzJx4a65c_add_72be8 ({ frames := 0, cells := 0, slots := 0, locals := 0 }) (zx_Pc D cy ed sz [.ref pa, .ref pp, .ref el, .int 2] [(pa, .inr (4, [.int mc, .ref el, .int 2])), (el, .inl (cy 2, 10, .inr (.inr (.inr (.inr g))))), (pp, .inr (17, fp))]) (va_Qv (fun (u9 : Nat × (Nat → Option Nat)) => match u9 with | (qx, g2) => g2 2 = some pp ∧ ∀ j, j < 2 → g2 j = g j) (fun (u9 : Nat × (Nat → Option Nat)) (t9 : State) => match u9 with | (qx, g2) => zx_At D cy (va_A [(pa, .inr (4, [.int mc, .ref el, .int 2])), (el, .inl (cy 2, 10, .inr (.inr (.inr (.inr g))))), (pp, .inr (17, fp))] sz) [(pa, .inr (4, [.int mc, .ref qx, .int 3])), (qx, .inl (cy 2, 10, .inr (.inr (.inr (.inr g2))))), (pp, .inr (17, fp))] t9) (va_A [(pa, .inr (4, [.int mc, .ref el, .int 2])), (el, .inl (cy 2, 10, .inr (.inr (.inr (.inr g))))), (pp, .inr (17, fp))] sz)) 0 0 (va_A [(pa, .inr (4, [.int mc, .ref el, .int 2])), (el, .inl (cy 2, 10, .inr (.inr (.inr (.inr g))))), (pp, .inr (17, fp))] sz) := by
  refine Met.ofW (cc := cJx4a65c_add_72be8) (maxL := 4) (ret := none) (by decide) rfl ?_
  intro p e s m args below meth c s₁ B hml hv
  obtain ⟨rfl, hsz, hP, hK, hD0, hZ, hN⟩ := hv
  have hx := B.exec
  have hb := B.bytes
  have hr := B.returns
  have hts := atoms_spec (ws := wzJx4a65c_add_72be8) B.pre
  have hown : s.vm.findClass RJx4a65c = some m.cls := findClass_of_methodNamed B.named
  have hlocks := B.notSynchronized
  subst hsz
  have hD := hD0.self (sz := s.heap.size)
  generalize hAe : va_A [(pa, .inr (4, [.int mc, .ref el, .int 2])), (el, .inl (cy 2, 10, .inr (.inr (.inr (.inr g))))), (pp, .inr (17, fp))] s.heap.size = A at hD hZ ⊢
  have hA : ∀ q : Nat, s.heap.size ≤ q → A q := fun q h => by rw [← hAe]; exact Or.inr h
  have hS : va_S A s.heap s.heap [] := va_S.rf
  have hP : va_P D vwCl [(pa, .inr (4, [.int mc, .ref el, .int 2])), (el, .inl (cy 2, 10, .inr (.inr (.inr (.inr g))))), (pp, .inr (17, fp))] s.heap := hP
  have hl := lv_entry ([.ref pa, .ref pp, .ref el, .int 2]) (n := 4) (Nat.le_of_ble_eq_true rfl)
  rw [lg_entry_eq]
  generalize (lg_sl ([.ref pa, .ref pp, .ref el, .int 2]) ++ List.replicate (4 - (lg_sl ([.ref pa, .ref pp, .ref el, .int 2])).length) Slot.unset).toArray = ls at hl ⊢
  have hl : lv_has ls 4 [(0, .ref pa), (1, .ref pp), (2, .ref el), (3, .int 2)] := hl
  refine lv_iload_n hx hb dJx4a65c_add_72be8_0 rfl (lv_at hl 3 rfl) ?_
  refine lv_aload_n hx hb dJx4a65c_add_72be8_1 rfl (lv_at hl 2 rfl) ?_
  refine va_alen (v := 10) hx hb hK hP 1 2 rfl rfl (show Int32.ofNat 10 = 10 from by decide) dJx4a65c_add_72be8_2 ?_
  refine lv_icmp_ne (tgt := 11) hx hb dJx4a65c_add_72be8_3 (by decide) (fun _ => ?_) (fun c_293 => absurd c_293 (by decide))
  refine lv_aload_n hx hb dJx4a65c_add_72be8_11 rfl (lv_at hl 2 rfl) ?_
  refine lv_iload_n hx hb dJx4a65c_add_72be8_12 rfl (lv_at hl 3 rfl) ?_
  refine lv_aload_n hx hb dJx4a65c_add_72be8_13 rfl (lv_at hl 1 rfl) ?_
  refine va_astqO (E := "java/lang/Object") hx hb hK hP hD hS 1 2 2 17 rfl rfl (hN.2.2.1 _ _ (List.mem_of_getElem? (i := 2467) (by decide +kernel))) rfl rfl (zx_bn (by decide)) dJx4a65c_add_72be8_14 (fun H locs hP hD hS => ?_)
  have hP : va_P D vwCl [(pa, .inr (4, [.int mc, .ref el, .int 2])), (el, .inl (cy 2, 10, .inr (.inr (.inr (.inr (va_up g (2 : Int32).toNatClampNeg (some pp))))))), (pp, .inr (17, fp))] H := hP
  have hD : va_D A [(pa, .inr (4, [.int mc, .ref el, .int 2])), (el, .inl (cy 2, 10, .inr (.inr (.inr (.inr (va_up g (2 : Int32).toNatClampNeg (some pp))))))), (pp, .inr (17, fp))] := hD
  refine lv_aload_n hx hb dJx4a65c_add_72be8_15 rfl (lv_at hl 0 rfl) ?_
  refine lv_iload_n hx hb dJx4a65c_add_72be8_16 rfl (lv_at hl 3 rfl) ?_
  refine lv_iconst (v := 1) hx hb dJx4a65c_add_72be8_17 (by decide) ?_
  refine lv_iadd hx hb dJx4a65c_add_72be8_18 ?_
  refine lv_topi (fun y9 ey9 => ?_)
  obtain rfl : y9 = 3 := by rw [ey9] <;> decide
  refine va_put (D := D) (ci := 4) (v := .int 3) (ty := .int) (C := RJx4a65c) (T := TJx4a65c) (N := 3) hx hb hts (fun w h => zx_Gc (uz_Jx4a65c w h)) tyJx4a65c tyJx4a65c_ok nmJx4a65c hown hK hP hD hS 0 rfl rfl 2 (by decide) (hts (.fieldLink RJx4a65c 48 "java/util/ArrayList" "size" "I") (zx_Gc mm_216)) (fun _ h9 => h9) rfl (by decide +kernel) rfl rfl (Nat.le_of_ble_eq_true rfl) dJx4a65c_add_72be8_19 (fun H locs hP hD hS => ?_)
  have hP : va_P D vwCl [(pa, .inr (4, [.int mc, .ref el, .int 3])), (el, .inl (cy 2, 10, .inr (.inr (.inr (.inr (va_up g (2 : Int32).toNatClampNeg (some pp))))))), (pp, .inr (17, fp))] H := hP
  have hD : va_D A [(pa, .inr (4, [.int mc, .ref el, .int 3])), (el, .inl (cy 2, 10, .inr (.inr (.inr (.inr (va_up g (2 : Int32).toNatClampNeg (some pp))))))), (pp, .inr (17, fp))] := hD
  have hP9 := hP.sub (ws' := [(pa, .inr (4, [.int mc, .ref el, .int 3])), (el, .inl (cy 2, 10, .inr (.inr (.inr (.inr (va_up g (2 : Int32).toNatClampNeg (some pp))))))), (pp, .inr (17, fp))]) [0, 1, 2] rfl
  have hD9 := hD.sub (ws' := [(pa, .inr (4, [.int mc, .ref el, .int 3])), (el, .inl (cy 2, 10, .inr (.inr (.inr (.inr (va_up g (2 : Int32).toNatClampNeg (some pp))))))), (pp, .inr (17, fp))]) [0, 1, 2] (by decide) rfl
  exact W.vret hx hb hr (fun t ht hW => ⟨⟨⟨el, (va_up g (2 : Int32).toNatClampNeg (some pp))⟩, rfl, ⟨zx_up_at _ (by decide), fun j9 hj9 => zx_up_ne _ (by show j9 ≠ 2; omega)⟩, zx_fin hP9 hD9 hK ht hW⟩, hS.F ht⟩) hS.2.2 dJx4a65c_add_72be8_22
set_option maxHeartbeats 4000000 in
set_option maxRecDepth 100000 in
theorem c_AL_add1_X12_2 (l : Launch) (hst : l.stackTraces = false) (D : va_G) (cy : Nat → ClassId) (ed sz : Nat) (pa : Nat) (el : Nat) (mc : Int32) (g : Nat → Option Nat) (pp : Nat) (fp : List Value) : Met l yJx4a65c_add_9ea2d wzJx4a65c_add_9ea2d ({ frames := 1, cells := 0, slots := 0, locals := 23 }) (zx_Pc D cy ed sz [.ref pa, .ref pp] [(pa, .inr (4, [.int mc, .ref el, .int 2])), (el, .inl (cy 2, 10, .inr (.inr (.inr (.inr g))))), (pp, .inr (17, fp))]) (va_Qi (fun (r9 : Int32) (u9 : Int32 × Nat × (Nat → Option Nat)) => match u9 with | (mx, qx, g2) => r9 = 1 ∧ g2 2 = some pp ∧ ∀ j, j < 2 → g2 j = g j) (fun (u9 : Int32 × Nat × (Nat → Option Nat)) (t9 : State) => match u9 with | (mx, qx, g2) => zx_At D cy (va_A [(pa, .inr (4, [.int mc, .ref el, .int 2])), (el, .inl (cy 2, 10, .inr (.inr (.inr (.inr g))))), (pp, .inr (17, fp))] sz) [(pa, .inr (4, [.int mx, .ref qx, .int 3])), (qx, .inl (cy 2, 10, .inr (.inr (.inr (.inr g2))))), (pp, .inr (17, fp))] t9) (va_A [(pa, .inr (4, [.int mc, .ref el, .int 2])), (el, .inl (cy 2, 10, .inr (.inr (.inr (.inr g))))), (pp, .inr (17, fp))] sz)) 0 0 (va_A [(pa, .inr (4, [.int mc, .ref el, .int 2])), (el, .inl (cy 2, 10, .inr (.inr (.inr (.inr g))))), (pp, .inr (17, fp))] sz) := by
  refine Met.ofW (cc := cJx4a65c_add_9ea2d) (maxL := 2) (ret := (some .boolean)) (by decide) rfl ?_
  intro p e s m args below meth c s₁ B hml hv
  obtain ⟨rfl, hsz, hP, hK, hD0, hZ, hN⟩ := hv
  have hx := B.exec
  have hb := B.bytes
  have hr := B.returns
  have hts := atoms_spec (ws := wzJx4a65c_add_9ea2d) B.pre
  have hown : s.vm.findClass RJx4a65c = some m.cls := findClass_of_methodNamed B.named
  have hlocks := B.notSynchronized
  subst hsz
  have hD := hD0.self (sz := s.heap.size)
  generalize hAe : va_A [(pa, .inr (4, [.int mc, .ref el, .int 2])), (el, .inl (cy 2, 10, .inr (.inr (.inr (.inr g))))), (pp, .inr (17, fp))] s.heap.size = A at hD hZ ⊢
  have hA : ∀ q : Nat, s.heap.size ≤ q → A q := fun q h => by rw [← hAe]; exact Or.inr h
  have hS : va_S A s.heap s.heap [] := va_S.rf
  have hP : va_P D vwCl [(pa, .inr (4, [.int mc, .ref el, .int 2])), (el, .inl (cy 2, 10, .inr (.inr (.inr (.inr g))))), (pp, .inr (17, fp))] s.heap := hP
  have hl := lv_entry ([.ref pa, .ref pp]) (n := 2) (Nat.le_of_ble_eq_true rfl)
  rw [lg_entry_eq]
  generalize (lg_sl ([.ref pa, .ref pp]) ++ List.replicate (2 - (lg_sl ([.ref pa, .ref pp])).length) Slot.unset).toArray = ls at hl ⊢
  have hl : lv_has ls 2 [(0, .ref pa), (1, .ref pp)] := hl
  refine lv_aload_n hx hb dJx4a65c_add_9ea2d_0 rfl (lv_at hl 0 rfl) ?_
  refine lv_dup hx hb dJx4a65c_add_9ea2d_1 rfl ?_
  refine va_get (D := D) (ci := 4) (v := .int mc) (C := RJx4a65c) (T := TJx4a65c) (N := 3) hx hb hts (fun w h => zx_Gc (uz_Jx4a65c w h)) hown hK hP 0 rfl rfl 0 (by decide) (hts (.fieldLink RJx4a65c 63 "java/util/ArrayList" "modCount" "I") (zx_Gc mm_220)) (fun x9 h9 => u_same (hts (.sameField "java/util/ArrayList" "java/util/AbstractList" "modCount" "I") (zx_Gc mm_219)) x9 h9) rfl dJx4a65c_add_9ea2d_2 ?_
  refine lv_iconst (v := 1) hx hb dJx4a65c_add_9ea2d_5 (by decide) ?_
  refine lv_iadd hx hb dJx4a65c_add_9ea2d_6 ?_
  refine va_put (D := D) (ci := 4) (v := .int (mc + (1 : Int32))) (ty := .int) (C := RJx4a65c) (T := TJx4a65c) (N := 3) hx hb hts (fun w h => zx_Gc (uz_Jx4a65c w h)) tyJx4a65c tyJx4a65c_ok nmJx4a65c hown hK hP hD hS 0 rfl rfl 0 (by decide) (hts (.fieldLink RJx4a65c 63 "java/util/ArrayList" "modCount" "I") (zx_Gc mm_220)) (fun x9 h9 => u_same (hts (.sameField "java/util/ArrayList" "java/util/AbstractList" "modCount" "I") (zx_Gc mm_219)) x9 h9) rfl (by decide +kernel) rfl rfl (Nat.le_of_ble_eq_true rfl) dJx4a65c_add_9ea2d_7 (fun H locs hP hD hS => ?_)
  have hP : va_P D vwCl [(pa, .inr (4, [.int (mc + (1 : Int32)), .ref el, .int 2])), (el, .inl (cy 2, 10, .inr (.inr (.inr (.inr g))))), (pp, .inr (17, fp))] H := hP
  have hD : va_D A [(pa, .inr (4, [.int (mc + (1 : Int32)), .ref el, .int 2])), (el, .inl (cy 2, 10, .inr (.inr (.inr (.inr g))))), (pp, .inr (17, fp))] := hD
  refine lv_aload_n hx hb dJx4a65c_add_9ea2d_10 rfl (lv_at hl 0 rfl) ?_
  refine lv_aload_n hx hb dJx4a65c_add_9ea2d_11 rfl (lv_at hl 1 rfl) ?_
  refine lv_aload_n hx hb dJx4a65c_add_9ea2d_12 rfl (lv_at hl 0 rfl) ?_
  refine va_get (D := D) (ci := 4) (v := .ref el) (C := RJx4a65c) (T := TJx4a65c) (N := 3) hx hb hts (fun w h => zx_Gc (uz_Jx4a65c w h)) hown hK hP 0 rfl rfl 1 (by decide) (hts (.fieldLink RJx4a65c 9 "java/util/ArrayList" "elementData" "[Ljava/lang/Object;") (zx_Gc mm_213)) (fun _ h9 => h9) rfl dJx4a65c_add_9ea2d_13 ?_
  refine lv_aload_n hx hb dJx4a65c_add_9ea2d_16 rfl (lv_at hl 0 rfl) ?_
  refine va_get (D := D) (ci := 4) (v := .int 2) (C := RJx4a65c) (T := TJx4a65c) (N := 3) hx hb hts (fun w h => zx_Gc (uz_Jx4a65c w h)) hown hK hP 0 rfl rfl 2 (by decide) (hts (.fieldLink RJx4a65c 48 "java/util/ArrayList" "size" "I") (zx_Gc mm_216)) (fun _ h9 => h9) rfl dJx4a65c_add_9ea2d_17 ?_
  have hPc := hP.sub (ws' := [(pa, .inr (4, [.int (mc + (1 : Int32)), .ref el, .int 2])), (el, .inl (cy 2, 10, .inr (.inr (.inr (.inr g))))), (pp, .inr (17, fp))]) [0, 1, 2] rfl
  have hDc := hD.sub (ws' := [(pa, .inr (4, [.int (mc + (1 : Int32)), .ref el, .int 2])), (el, .inl (cy 2, 10, .inr (.inr (.inr (.inr g))))), (pp, .inr (17, fp))]) [0, 1, 2] (by decide) rfl
  have hFc := va_free (wc := [(pa, .inr (4, [.int (mc + (1 : Int32)), .ref el, .int 2])), (el, .inl (cy 2, 10, .inr (.inr (.inr (.inr g))))), (pp, .inr (17, fp))]) hD hS hA [0, 1, 2] rfl
  refine va_callv (va_runV (As := [.ref pp, .ref el, .int 2]) (rest := []) ⟨hx, hb, hml, hown, hts⟩ (c_AL_add3_X12_2 l hst D cy ed H.size pa el (mc + (1 : Int32)) g pp fp) (cwV 3 hts (zx_GV mm_776 mm_778 mm_5 mm_77 mm_779) rfl rfl rfl (by decide +kernel) ⟨(Nat.le_of_ble_eq_true rfl), (Nat.le_of_ble_eq_true rfl)⟩) ⟨zx_blind, va_recv hK hPc (ci := 4) (q0 := 0) rfl rfl, zx_give hPc hK hDc hS hFc hZ hN⟩ rfl rfl hl.1 rfl (lv_room (Nat.le_of_ble_eq_true rfl)) dJx4a65c_add_9ea2d_20 ⟨(Nat.le_of_ble_eq_true rfl), (Nat.le_of_ble_eq_true rfl)⟩) hS (fun q _ h => hFc q h) hFc (fun u t H1 locs ht hvm hw hB hz1 hk1 hS => ?_)
  obtain ⟨qx_294, g2_295⟩ := u
  have h_296 := hw
  obtain ⟨hP, hD⟩ := zx_join (wr := []) (w1 := [(pa, .inr (4, [.int (mc + (1 : Int32)), .ref qx_294, .int 3])), (qx_294, .inl (cy 2, 10, .inr (.inr (.inr (.inr g2_295))))), (pp, .inr (17, fp))]) [0, 1, 2] [] rfl rfl (by decide) (by decide) hP hD hk1 hFc hB ht
  generalize H1 = H at hP hS ⊢
  have hP : va_P D vwCl [(pa, .inr (4, [.int (mc + (1 : Int32)), .ref qx_294, .int 3])), (qx_294, .inl (cy 2, 10, .inr (.inr (.inr (.inr g2_295))))), (pp, .inr (17, fp))] H := hP
  have hD : va_D A [(pa, .inr (4, [.int (mc + (1 : Int32)), .ref qx_294, .int 3])), (qx_294, .inl (cy 2, 10, .inr (.inr (.inr (.inr g2_295))))), (pp, .inr (17, fp))] := hD
  refine W.widen (k := 0) (n := 0) (Nat.le_of_ble_eq_true rfl) (Nat.le_of_ble_eq_true rfl) ?_
  obtain ⟨hs_297, hs_298⟩ := h_296
  refine lv_iconst (v := 1) hx hb dJx4a65c_add_9ea2d_23 (by decide) ?_
  have hP9 := hP.sub (ws' := [(pa, .inr (4, [.int (mc + (1 : Int32)), .ref qx_294, .int 3])), (qx_294, .inl (cy 2, 10, .inr (.inr (.inr (.inr g2_295))))), (pp, .inr (17, fp))]) [0, 1, 2] rfl
  have hD9 := hD.sub (ws' := [(pa, .inr (4, [.int (mc + (1 : Int32)), .ref qx_294, .int 3])), (qx_294, .inl (cy 2, 10, .inr (.inr (.inr (.inr g2_295))))), (pp, .inr (17, fp))]) [0, 1, 2] (by decide) rfl
  exact W.zret (v := 1) hx hb hr rfl (fun t ht hW => ⟨⟨1, ⟨(mc + (1 : Int32)), qx_294, g2_295⟩, rfl, ⟨rfl, ⟨hs_297, hs_298⟩⟩, zx_fin hP9 hD9 hK ht hW⟩, hS.F ht⟩) hS.2.2 dJx4a65c_add_9ea2d_24
set_option maxHeartbeats 4000000 in
set_option maxRecDepth 100000 in
theorem c_AL_add3_X12_3 (l : Launch) (hst : l.stackTraces = false) (D : va_G) (cy : Nat → ClassId) (ed sz : Nat) (pa : Nat) (el : Nat) (mc : Int32) (g : Nat → Option Nat) (pp : Nat) (fp : List Value) : Met l yJx4a65c_add_72be8 wzJx4a65c_add_72be8 ({ frames := 0, cells := 0, slots := 0, locals := 0 }) (zx_Pc D cy ed sz [.ref pa, .ref pp, .ref el, .int 3] [(pa, .inr (4, [.int mc, .ref el, .int 3])), (el, .inl (cy 2, 10, .inr (.inr (.inr (.inr g))))), (pp, .inr (17, fp))]) (va_Qv (fun (u9 : Nat × (Nat → Option Nat)) => match u9 with | (qx, g2) => g2 3 = some pp ∧ ∀ j, j < 3 → g2 j = g j) (fun (u9 : Nat × (Nat → Option Nat)) (t9 : State) => match u9 with | (qx, g2) => zx_At D cy (va_A [(pa, .inr (4, [.int mc, .ref el, .int 3])), (el, .inl (cy 2, 10, .inr (.inr (.inr (.inr g))))), (pp, .inr (17, fp))] sz) [(pa, .inr (4, [.int mc, .ref qx, .int 4])), (qx, .inl (cy 2, 10, .inr (.inr (.inr (.inr g2))))), (pp, .inr (17, fp))] t9) (va_A [(pa, .inr (4, [.int mc, .ref el, .int 3])), (el, .inl (cy 2, 10, .inr (.inr (.inr (.inr g))))), (pp, .inr (17, fp))] sz)) 0 0 (va_A [(pa, .inr (4, [.int mc, .ref el, .int 3])), (el, .inl (cy 2, 10, .inr (.inr (.inr (.inr g))))), (pp, .inr (17, fp))] sz) := by
  refine Met.ofW (cc := cJx4a65c_add_72be8) (maxL := 4) (ret := none) (by decide) rfl ?_
  intro p e s m args below meth c s₁ B hml hv
  obtain ⟨rfl, hsz, hP, hK, hD0, hZ, hN⟩ := hv
  have hx := B.exec
  have hb := B.bytes
  have hr := B.returns
  have hts := atoms_spec (ws := wzJx4a65c_add_72be8) B.pre
  have hown : s.vm.findClass RJx4a65c = some m.cls := findClass_of_methodNamed B.named
  have hlocks := B.notSynchronized
  subst hsz
  have hD := hD0.self (sz := s.heap.size)
  generalize hAe : va_A [(pa, .inr (4, [.int mc, .ref el, .int 3])), (el, .inl (cy 2, 10, .inr (.inr (.inr (.inr g))))), (pp, .inr (17, fp))] s.heap.size = A at hD hZ ⊢
  have hA : ∀ q : Nat, s.heap.size ≤ q → A q := fun q h => by rw [← hAe]; exact Or.inr h
  have hS : va_S A s.heap s.heap [] := va_S.rf
  have hP : va_P D vwCl [(pa, .inr (4, [.int mc, .ref el, .int 3])), (el, .inl (cy 2, 10, .inr (.inr (.inr (.inr g))))), (pp, .inr (17, fp))] s.heap := hP
  have hl := lv_entry ([.ref pa, .ref pp, .ref el, .int 3]) (n := 4) (Nat.le_of_ble_eq_true rfl)
  rw [lg_entry_eq]
  generalize (lg_sl ([.ref pa, .ref pp, .ref el, .int 3]) ++ List.replicate (4 - (lg_sl ([.ref pa, .ref pp, .ref el, .int 3])).length) Slot.unset).toArray = ls at hl ⊢
  have hl : lv_has ls 4 [(0, .ref pa), (1, .ref pp), (2, .ref el), (3, .int 3)] := hl
  refine lv_iload_n hx hb dJx4a65c_add_72be8_0 rfl (lv_at hl 3 rfl) ?_
  refine lv_aload_n hx hb dJx4a65c_add_72be8_1 rfl (lv_at hl 2 rfl) ?_
  refine va_alen (v := 10) hx hb hK hP 1 2 rfl rfl (show Int32.ofNat 10 = 10 from by decide) dJx4a65c_add_72be8_2 ?_
  refine lv_icmp_ne (tgt := 11) hx hb dJx4a65c_add_72be8_3 (by decide) (fun _ => ?_) (fun c_299 => absurd c_299 (by decide))
  refine lv_aload_n hx hb dJx4a65c_add_72be8_11 rfl (lv_at hl 2 rfl) ?_
  refine lv_iload_n hx hb dJx4a65c_add_72be8_12 rfl (lv_at hl 3 rfl) ?_
  refine lv_aload_n hx hb dJx4a65c_add_72be8_13 rfl (lv_at hl 1 rfl) ?_
  refine va_astqO (E := "java/lang/Object") hx hb hK hP hD hS 1 2 2 17 rfl rfl (hN.2.2.1 _ _ (List.mem_of_getElem? (i := 2467) (by decide +kernel))) rfl rfl (zx_bn (by decide)) dJx4a65c_add_72be8_14 (fun H locs hP hD hS => ?_)
  have hP : va_P D vwCl [(pa, .inr (4, [.int mc, .ref el, .int 3])), (el, .inl (cy 2, 10, .inr (.inr (.inr (.inr (va_up g (3 : Int32).toNatClampNeg (some pp))))))), (pp, .inr (17, fp))] H := hP
  have hD : va_D A [(pa, .inr (4, [.int mc, .ref el, .int 3])), (el, .inl (cy 2, 10, .inr (.inr (.inr (.inr (va_up g (3 : Int32).toNatClampNeg (some pp))))))), (pp, .inr (17, fp))] := hD
  refine lv_aload_n hx hb dJx4a65c_add_72be8_15 rfl (lv_at hl 0 rfl) ?_
  refine lv_iload_n hx hb dJx4a65c_add_72be8_16 rfl (lv_at hl 3 rfl) ?_
  refine lv_iconst (v := 1) hx hb dJx4a65c_add_72be8_17 (by decide) ?_
  refine lv_iadd hx hb dJx4a65c_add_72be8_18 ?_
  refine lv_topi (fun y9 ey9 => ?_)
  obtain rfl : y9 = 4 := by rw [ey9] <;> decide
  refine va_put (D := D) (ci := 4) (v := .int 4) (ty := .int) (C := RJx4a65c) (T := TJx4a65c) (N := 3) hx hb hts (fun w h => zx_Gc (uz_Jx4a65c w h)) tyJx4a65c tyJx4a65c_ok nmJx4a65c hown hK hP hD hS 0 rfl rfl 2 (by decide) (hts (.fieldLink RJx4a65c 48 "java/util/ArrayList" "size" "I") (zx_Gc mm_216)) (fun _ h9 => h9) rfl (by decide +kernel) rfl rfl (Nat.le_of_ble_eq_true rfl) dJx4a65c_add_72be8_19 (fun H locs hP hD hS => ?_)
  have hP : va_P D vwCl [(pa, .inr (4, [.int mc, .ref el, .int 4])), (el, .inl (cy 2, 10, .inr (.inr (.inr (.inr (va_up g (3 : Int32).toNatClampNeg (some pp))))))), (pp, .inr (17, fp))] H := hP
  have hD : va_D A [(pa, .inr (4, [.int mc, .ref el, .int 4])), (el, .inl (cy 2, 10, .inr (.inr (.inr (.inr (va_up g (3 : Int32).toNatClampNeg (some pp))))))), (pp, .inr (17, fp))] := hD
  have hP9 := hP.sub (ws' := [(pa, .inr (4, [.int mc, .ref el, .int 4])), (el, .inl (cy 2, 10, .inr (.inr (.inr (.inr (va_up g (3 : Int32).toNatClampNeg (some pp))))))), (pp, .inr (17, fp))]) [0, 1, 2] rfl
  have hD9 := hD.sub (ws' := [(pa, .inr (4, [.int mc, .ref el, .int 4])), (el, .inl (cy 2, 10, .inr (.inr (.inr (.inr (va_up g (3 : Int32).toNatClampNeg (some pp))))))), (pp, .inr (17, fp))]) [0, 1, 2] (by decide) rfl
  exact W.vret hx hb hr (fun t ht hW => ⟨⟨⟨el, (va_up g (3 : Int32).toNatClampNeg (some pp))⟩, rfl, ⟨zx_up_at _ (by decide), fun j9 hj9 => zx_up_ne _ (by show j9 ≠ 3; omega)⟩, zx_fin hP9 hD9 hK ht hW⟩, hS.F ht⟩) hS.2.2 dJx4a65c_add_72be8_22
set_option maxHeartbeats 4000000 in
set_option maxRecDepth 100000 in
theorem c_AL_add1_X12_3 (l : Launch) (hst : l.stackTraces = false) (D : va_G) (cy : Nat → ClassId) (ed sz : Nat) (pa : Nat) (el : Nat) (mc : Int32) (g : Nat → Option Nat) (pp : Nat) (fp : List Value) : Met l yJx4a65c_add_9ea2d wzJx4a65c_add_9ea2d ({ frames := 1, cells := 0, slots := 0, locals := 23 }) (zx_Pc D cy ed sz [.ref pa, .ref pp] [(pa, .inr (4, [.int mc, .ref el, .int 3])), (el, .inl (cy 2, 10, .inr (.inr (.inr (.inr g))))), (pp, .inr (17, fp))]) (va_Qi (fun (r9 : Int32) (u9 : Int32 × Nat × (Nat → Option Nat)) => match u9 with | (mx, qx, g2) => r9 = 1 ∧ g2 3 = some pp ∧ ∀ j, j < 3 → g2 j = g j) (fun (u9 : Int32 × Nat × (Nat → Option Nat)) (t9 : State) => match u9 with | (mx, qx, g2) => zx_At D cy (va_A [(pa, .inr (4, [.int mc, .ref el, .int 3])), (el, .inl (cy 2, 10, .inr (.inr (.inr (.inr g))))), (pp, .inr (17, fp))] sz) [(pa, .inr (4, [.int mx, .ref qx, .int 4])), (qx, .inl (cy 2, 10, .inr (.inr (.inr (.inr g2))))), (pp, .inr (17, fp))] t9) (va_A [(pa, .inr (4, [.int mc, .ref el, .int 3])), (el, .inl (cy 2, 10, .inr (.inr (.inr (.inr g))))), (pp, .inr (17, fp))] sz)) 0 0 (va_A [(pa, .inr (4, [.int mc, .ref el, .int 3])), (el, .inl (cy 2, 10, .inr (.inr (.inr (.inr g))))), (pp, .inr (17, fp))] sz) := by
  refine Met.ofW (cc := cJx4a65c_add_9ea2d) (maxL := 2) (ret := (some .boolean)) (by decide) rfl ?_
  intro p e s m args below meth c s₁ B hml hv
  obtain ⟨rfl, hsz, hP, hK, hD0, hZ, hN⟩ := hv
  have hx := B.exec
  have hb := B.bytes
  have hr := B.returns
  have hts := atoms_spec (ws := wzJx4a65c_add_9ea2d) B.pre
  have hown : s.vm.findClass RJx4a65c = some m.cls := findClass_of_methodNamed B.named
  have hlocks := B.notSynchronized
  subst hsz
  have hD := hD0.self (sz := s.heap.size)
  generalize hAe : va_A [(pa, .inr (4, [.int mc, .ref el, .int 3])), (el, .inl (cy 2, 10, .inr (.inr (.inr (.inr g))))), (pp, .inr (17, fp))] s.heap.size = A at hD hZ ⊢
  have hA : ∀ q : Nat, s.heap.size ≤ q → A q := fun q h => by rw [← hAe]; exact Or.inr h
  have hS : va_S A s.heap s.heap [] := va_S.rf
  have hP : va_P D vwCl [(pa, .inr (4, [.int mc, .ref el, .int 3])), (el, .inl (cy 2, 10, .inr (.inr (.inr (.inr g))))), (pp, .inr (17, fp))] s.heap := hP
  have hl := lv_entry ([.ref pa, .ref pp]) (n := 2) (Nat.le_of_ble_eq_true rfl)
  rw [lg_entry_eq]
  generalize (lg_sl ([.ref pa, .ref pp]) ++ List.replicate (2 - (lg_sl ([.ref pa, .ref pp])).length) Slot.unset).toArray = ls at hl ⊢
  have hl : lv_has ls 2 [(0, .ref pa), (1, .ref pp)] := hl
  refine lv_aload_n hx hb dJx4a65c_add_9ea2d_0 rfl (lv_at hl 0 rfl) ?_
  refine lv_dup hx hb dJx4a65c_add_9ea2d_1 rfl ?_
  refine va_get (D := D) (ci := 4) (v := .int mc) (C := RJx4a65c) (T := TJx4a65c) (N := 3) hx hb hts (fun w h => zx_Gc (uz_Jx4a65c w h)) hown hK hP 0 rfl rfl 0 (by decide) (hts (.fieldLink RJx4a65c 63 "java/util/ArrayList" "modCount" "I") (zx_Gc mm_220)) (fun x9 h9 => u_same (hts (.sameField "java/util/ArrayList" "java/util/AbstractList" "modCount" "I") (zx_Gc mm_219)) x9 h9) rfl dJx4a65c_add_9ea2d_2 ?_
  refine lv_iconst (v := 1) hx hb dJx4a65c_add_9ea2d_5 (by decide) ?_
  refine lv_iadd hx hb dJx4a65c_add_9ea2d_6 ?_
  refine va_put (D := D) (ci := 4) (v := .int (mc + (1 : Int32))) (ty := .int) (C := RJx4a65c) (T := TJx4a65c) (N := 3) hx hb hts (fun w h => zx_Gc (uz_Jx4a65c w h)) tyJx4a65c tyJx4a65c_ok nmJx4a65c hown hK hP hD hS 0 rfl rfl 0 (by decide) (hts (.fieldLink RJx4a65c 63 "java/util/ArrayList" "modCount" "I") (zx_Gc mm_220)) (fun x9 h9 => u_same (hts (.sameField "java/util/ArrayList" "java/util/AbstractList" "modCount" "I") (zx_Gc mm_219)) x9 h9) rfl (by decide +kernel) rfl rfl (Nat.le_of_ble_eq_true rfl) dJx4a65c_add_9ea2d_7 (fun H locs hP hD hS => ?_)
  have hP : va_P D vwCl [(pa, .inr (4, [.int (mc + (1 : Int32)), .ref el, .int 3])), (el, .inl (cy 2, 10, .inr (.inr (.inr (.inr g))))), (pp, .inr (17, fp))] H := hP
  have hD : va_D A [(pa, .inr (4, [.int (mc + (1 : Int32)), .ref el, .int 3])), (el, .inl (cy 2, 10, .inr (.inr (.inr (.inr g))))), (pp, .inr (17, fp))] := hD
  refine lv_aload_n hx hb dJx4a65c_add_9ea2d_10 rfl (lv_at hl 0 rfl) ?_
  refine lv_aload_n hx hb dJx4a65c_add_9ea2d_11 rfl (lv_at hl 1 rfl) ?_
  refine lv_aload_n hx hb dJx4a65c_add_9ea2d_12 rfl (lv_at hl 0 rfl) ?_
  refine va_get (D := D) (ci := 4) (v := .ref el) (C := RJx4a65c) (T := TJx4a65c) (N := 3) hx hb hts (fun w h => zx_Gc (uz_Jx4a65c w h)) hown hK hP 0 rfl rfl 1 (by decide) (hts (.fieldLink RJx4a65c 9 "java/util/ArrayList" "elementData" "[Ljava/lang/Object;") (zx_Gc mm_213)) (fun _ h9 => h9) rfl dJx4a65c_add_9ea2d_13 ?_
  refine lv_aload_n hx hb dJx4a65c_add_9ea2d_16 rfl (lv_at hl 0 rfl) ?_
  refine va_get (D := D) (ci := 4) (v := .int 3) (C := RJx4a65c) (T := TJx4a65c) (N := 3) hx hb hts (fun w h => zx_Gc (uz_Jx4a65c w h)) hown hK hP 0 rfl rfl 2 (by decide) (hts (.fieldLink RJx4a65c 48 "java/util/ArrayList" "size" "I") (zx_Gc mm_216)) (fun _ h9 => h9) rfl dJx4a65c_add_9ea2d_17 ?_
  have hPc := hP.sub (ws' := [(pa, .inr (4, [.int (mc + (1 : Int32)), .ref el, .int 3])), (el, .inl (cy 2, 10, .inr (.inr (.inr (.inr g))))), (pp, .inr (17, fp))]) [0, 1, 2] rfl
  have hDc := hD.sub (ws' := [(pa, .inr (4, [.int (mc + (1 : Int32)), .ref el, .int 3])), (el, .inl (cy 2, 10, .inr (.inr (.inr (.inr g))))), (pp, .inr (17, fp))]) [0, 1, 2] (by decide) rfl
  have hFc := va_free (wc := [(pa, .inr (4, [.int (mc + (1 : Int32)), .ref el, .int 3])), (el, .inl (cy 2, 10, .inr (.inr (.inr (.inr g))))), (pp, .inr (17, fp))]) hD hS hA [0, 1, 2] rfl
  refine va_callv (va_runV (As := [.ref pp, .ref el, .int 3]) (rest := []) ⟨hx, hb, hml, hown, hts⟩ (c_AL_add3_X12_3 l hst D cy ed H.size pa el (mc + (1 : Int32)) g pp fp) (cwV 3 hts (zx_GV mm_776 mm_778 mm_5 mm_77 mm_779) rfl rfl rfl (by decide +kernel) ⟨(Nat.le_of_ble_eq_true rfl), (Nat.le_of_ble_eq_true rfl)⟩) ⟨zx_blind, va_recv hK hPc (ci := 4) (q0 := 0) rfl rfl, zx_give hPc hK hDc hS hFc hZ hN⟩ rfl rfl hl.1 rfl (lv_room (Nat.le_of_ble_eq_true rfl)) dJx4a65c_add_9ea2d_20 ⟨(Nat.le_of_ble_eq_true rfl), (Nat.le_of_ble_eq_true rfl)⟩) hS (fun q _ h => hFc q h) hFc (fun u t H1 locs ht hvm hw hB hz1 hk1 hS => ?_)
  obtain ⟨qx_300, g2_301⟩ := u
  have h_302 := hw
  obtain ⟨hP, hD⟩ := zx_join (wr := []) (w1 := [(pa, .inr (4, [.int (mc + (1 : Int32)), .ref qx_300, .int 4])), (qx_300, .inl (cy 2, 10, .inr (.inr (.inr (.inr g2_301))))), (pp, .inr (17, fp))]) [0, 1, 2] [] rfl rfl (by decide) (by decide) hP hD hk1 hFc hB ht
  generalize H1 = H at hP hS ⊢
  have hP : va_P D vwCl [(pa, .inr (4, [.int (mc + (1 : Int32)), .ref qx_300, .int 4])), (qx_300, .inl (cy 2, 10, .inr (.inr (.inr (.inr g2_301))))), (pp, .inr (17, fp))] H := hP
  have hD : va_D A [(pa, .inr (4, [.int (mc + (1 : Int32)), .ref qx_300, .int 4])), (qx_300, .inl (cy 2, 10, .inr (.inr (.inr (.inr g2_301))))), (pp, .inr (17, fp))] := hD
  refine W.widen (k := 0) (n := 0) (Nat.le_of_ble_eq_true rfl) (Nat.le_of_ble_eq_true rfl) ?_
  obtain ⟨hs_303, hs_304⟩ := h_302
  refine lv_iconst (v := 1) hx hb dJx4a65c_add_9ea2d_23 (by decide) ?_
  have hP9 := hP.sub (ws' := [(pa, .inr (4, [.int (mc + (1 : Int32)), .ref qx_300, .int 4])), (qx_300, .inl (cy 2, 10, .inr (.inr (.inr (.inr g2_301))))), (pp, .inr (17, fp))]) [0, 1, 2] rfl
  have hD9 := hD.sub (ws' := [(pa, .inr (4, [.int (mc + (1 : Int32)), .ref qx_300, .int 4])), (qx_300, .inl (cy 2, 10, .inr (.inr (.inr (.inr g2_301))))), (pp, .inr (17, fp))]) [0, 1, 2] (by decide) rfl
  exact W.zret (v := 1) hx hb hr rfl (fun t ht hW => ⟨⟨1, ⟨(mc + (1 : Int32)), qx_300, g2_301⟩, rfl, ⟨rfl, ⟨hs_303, hs_304⟩⟩, zx_fin hP9 hD9 hK ht hW⟩, hS.F ht⟩) hS.2.2 dJx4a65c_add_9ea2d_24
set_option maxHeartbeats 4000000 in
set_option maxRecDepth 100000 in
theorem c_AL_add3_X12_4 (l : Launch) (hst : l.stackTraces = false) (D : va_G) (cy : Nat → ClassId) (ed sz : Nat) (pa : Nat) (el : Nat) (mc : Int32) (g : Nat → Option Nat) (pp : Nat) (fp : List Value) : Met l yJx4a65c_add_72be8 wzJx4a65c_add_72be8 ({ frames := 0, cells := 0, slots := 0, locals := 0 }) (zx_Pc D cy ed sz [.ref pa, .ref pp, .ref el, .int 4] [(pa, .inr (4, [.int mc, .ref el, .int 4])), (el, .inl (cy 2, 10, .inr (.inr (.inr (.inr g))))), (pp, .inr (17, fp))]) (va_Qv (fun (u9 : Nat × (Nat → Option Nat)) => match u9 with | (qx, g2) => g2 4 = some pp ∧ ∀ j, j < 4 → g2 j = g j) (fun (u9 : Nat × (Nat → Option Nat)) (t9 : State) => match u9 with | (qx, g2) => zx_At D cy (va_A [(pa, .inr (4, [.int mc, .ref el, .int 4])), (el, .inl (cy 2, 10, .inr (.inr (.inr (.inr g))))), (pp, .inr (17, fp))] sz) [(pa, .inr (4, [.int mc, .ref qx, .int 5])), (qx, .inl (cy 2, 10, .inr (.inr (.inr (.inr g2))))), (pp, .inr (17, fp))] t9) (va_A [(pa, .inr (4, [.int mc, .ref el, .int 4])), (el, .inl (cy 2, 10, .inr (.inr (.inr (.inr g))))), (pp, .inr (17, fp))] sz)) 0 0 (va_A [(pa, .inr (4, [.int mc, .ref el, .int 4])), (el, .inl (cy 2, 10, .inr (.inr (.inr (.inr g))))), (pp, .inr (17, fp))] sz) := by
  refine Met.ofW (cc := cJx4a65c_add_72be8) (maxL := 4) (ret := none) (by decide) rfl ?_
  intro p e s m args below meth c s₁ B hml hv
  obtain ⟨rfl, hsz, hP, hK, hD0, hZ, hN⟩ := hv
  have hx := B.exec
  have hb := B.bytes
  have hr := B.returns
  have hts := atoms_spec (ws := wzJx4a65c_add_72be8) B.pre
  have hown : s.vm.findClass RJx4a65c = some m.cls := findClass_of_methodNamed B.named
  have hlocks := B.notSynchronized
  subst hsz
  have hD := hD0.self (sz := s.heap.size)
  generalize hAe : va_A [(pa, .inr (4, [.int mc, .ref el, .int 4])), (el, .inl (cy 2, 10, .inr (.inr (.inr (.inr g))))), (pp, .inr (17, fp))] s.heap.size = A at hD hZ ⊢
  have hA : ∀ q : Nat, s.heap.size ≤ q → A q := fun q h => by rw [← hAe]; exact Or.inr h
  have hS : va_S A s.heap s.heap [] := va_S.rf
  have hP : va_P D vwCl [(pa, .inr (4, [.int mc, .ref el, .int 4])), (el, .inl (cy 2, 10, .inr (.inr (.inr (.inr g))))), (pp, .inr (17, fp))] s.heap := hP
  have hl := lv_entry ([.ref pa, .ref pp, .ref el, .int 4]) (n := 4) (Nat.le_of_ble_eq_true rfl)
  rw [lg_entry_eq]
  generalize (lg_sl ([.ref pa, .ref pp, .ref el, .int 4]) ++ List.replicate (4 - (lg_sl ([.ref pa, .ref pp, .ref el, .int 4])).length) Slot.unset).toArray = ls at hl ⊢
  have hl : lv_has ls 4 [(0, .ref pa), (1, .ref pp), (2, .ref el), (3, .int 4)] := hl
  refine lv_iload_n hx hb dJx4a65c_add_72be8_0 rfl (lv_at hl 3 rfl) ?_
  refine lv_aload_n hx hb dJx4a65c_add_72be8_1 rfl (lv_at hl 2 rfl) ?_
  refine va_alen (v := 10) hx hb hK hP 1 2 rfl rfl (show Int32.ofNat 10 = 10 from by decide) dJx4a65c_add_72be8_2 ?_
  refine lv_icmp_ne (tgt := 11) hx hb dJx4a65c_add_72be8_3 (by decide) (fun _ => ?_) (fun c_305 => absurd c_305 (by decide))
  refine lv_aload_n hx hb dJx4a65c_add_72be8_11 rfl (lv_at hl 2 rfl) ?_
  refine lv_iload_n hx hb dJx4a65c_add_72be8_12 rfl (lv_at hl 3 rfl) ?_
  refine lv_aload_n hx hb dJx4a65c_add_72be8_13 rfl (lv_at hl 1 rfl) ?_
  refine va_astqO (E := "java/lang/Object") hx hb hK hP hD hS 1 2 2 17 rfl rfl (hN.2.2.1 _ _ (List.mem_of_getElem? (i := 2467) (by decide +kernel))) rfl rfl (zx_bn (by decide)) dJx4a65c_add_72be8_14 (fun H locs hP hD hS => ?_)
  have hP : va_P D vwCl [(pa, .inr (4, [.int mc, .ref el, .int 4])), (el, .inl (cy 2, 10, .inr (.inr (.inr (.inr (va_up g (4 : Int32).toNatClampNeg (some pp))))))), (pp, .inr (17, fp))] H := hP
  have hD : va_D A [(pa, .inr (4, [.int mc, .ref el, .int 4])), (el, .inl (cy 2, 10, .inr (.inr (.inr (.inr (va_up g (4 : Int32).toNatClampNeg (some pp))))))), (pp, .inr (17, fp))] := hD
  refine lv_aload_n hx hb dJx4a65c_add_72be8_15 rfl (lv_at hl 0 rfl) ?_
  refine lv_iload_n hx hb dJx4a65c_add_72be8_16 rfl (lv_at hl 3 rfl) ?_
  refine lv_iconst (v := 1) hx hb dJx4a65c_add_72be8_17 (by decide) ?_
  refine lv_iadd hx hb dJx4a65c_add_72be8_18 ?_
  refine lv_topi (fun y9 ey9 => ?_)
  obtain rfl : y9 = 5 := by rw [ey9] <;> decide
  refine va_put (D := D) (ci := 4) (v := .int 5) (ty := .int) (C := RJx4a65c) (T := TJx4a65c) (N := 3) hx hb hts (fun w h => zx_Gc (uz_Jx4a65c w h)) tyJx4a65c tyJx4a65c_ok nmJx4a65c hown hK hP hD hS 0 rfl rfl 2 (by decide) (hts (.fieldLink RJx4a65c 48 "java/util/ArrayList" "size" "I") (zx_Gc mm_216)) (fun _ h9 => h9) rfl (by decide +kernel) rfl rfl (Nat.le_of_ble_eq_true rfl) dJx4a65c_add_72be8_19 (fun H locs hP hD hS => ?_)
  have hP : va_P D vwCl [(pa, .inr (4, [.int mc, .ref el, .int 5])), (el, .inl (cy 2, 10, .inr (.inr (.inr (.inr (va_up g (4 : Int32).toNatClampNeg (some pp))))))), (pp, .inr (17, fp))] H := hP
  have hD : va_D A [(pa, .inr (4, [.int mc, .ref el, .int 5])), (el, .inl (cy 2, 10, .inr (.inr (.inr (.inr (va_up g (4 : Int32).toNatClampNeg (some pp))))))), (pp, .inr (17, fp))] := hD
  have hP9 := hP.sub (ws' := [(pa, .inr (4, [.int mc, .ref el, .int 5])), (el, .inl (cy 2, 10, .inr (.inr (.inr (.inr (va_up g (4 : Int32).toNatClampNeg (some pp))))))), (pp, .inr (17, fp))]) [0, 1, 2] rfl
  have hD9 := hD.sub (ws' := [(pa, .inr (4, [.int mc, .ref el, .int 5])), (el, .inl (cy 2, 10, .inr (.inr (.inr (.inr (va_up g (4 : Int32).toNatClampNeg (some pp))))))), (pp, .inr (17, fp))]) [0, 1, 2] (by decide) rfl
  exact W.vret hx hb hr (fun t ht hW => ⟨⟨⟨el, (va_up g (4 : Int32).toNatClampNeg (some pp))⟩, rfl, ⟨zx_up_at _ (by decide), fun j9 hj9 => zx_up_ne _ (by show j9 ≠ 4; omega)⟩, zx_fin hP9 hD9 hK ht hW⟩, hS.F ht⟩) hS.2.2 dJx4a65c_add_72be8_22
set_option maxHeartbeats 4000000 in
set_option maxRecDepth 100000 in
theorem c_AL_add1_X12_4 (l : Launch) (hst : l.stackTraces = false) (D : va_G) (cy : Nat → ClassId) (ed sz : Nat) (pa : Nat) (el : Nat) (mc : Int32) (g : Nat → Option Nat) (pp : Nat) (fp : List Value) : Met l yJx4a65c_add_9ea2d wzJx4a65c_add_9ea2d ({ frames := 1, cells := 0, slots := 0, locals := 23 }) (zx_Pc D cy ed sz [.ref pa, .ref pp] [(pa, .inr (4, [.int mc, .ref el, .int 4])), (el, .inl (cy 2, 10, .inr (.inr (.inr (.inr g))))), (pp, .inr (17, fp))]) (va_Qi (fun (r9 : Int32) (u9 : Int32 × Nat × (Nat → Option Nat)) => match u9 with | (mx, qx, g2) => r9 = 1 ∧ g2 4 = some pp ∧ ∀ j, j < 4 → g2 j = g j) (fun (u9 : Int32 × Nat × (Nat → Option Nat)) (t9 : State) => match u9 with | (mx, qx, g2) => zx_At D cy (va_A [(pa, .inr (4, [.int mc, .ref el, .int 4])), (el, .inl (cy 2, 10, .inr (.inr (.inr (.inr g))))), (pp, .inr (17, fp))] sz) [(pa, .inr (4, [.int mx, .ref qx, .int 5])), (qx, .inl (cy 2, 10, .inr (.inr (.inr (.inr g2))))), (pp, .inr (17, fp))] t9) (va_A [(pa, .inr (4, [.int mc, .ref el, .int 4])), (el, .inl (cy 2, 10, .inr (.inr (.inr (.inr g))))), (pp, .inr (17, fp))] sz)) 0 0 (va_A [(pa, .inr (4, [.int mc, .ref el, .int 4])), (el, .inl (cy 2, 10, .inr (.inr (.inr (.inr g))))), (pp, .inr (17, fp))] sz) := by
  refine Met.ofW (cc := cJx4a65c_add_9ea2d) (maxL := 2) (ret := (some .boolean)) (by decide) rfl ?_
  intro p e s m args below meth c s₁ B hml hv
  obtain ⟨rfl, hsz, hP, hK, hD0, hZ, hN⟩ := hv
  have hx := B.exec
  have hb := B.bytes
  have hr := B.returns
  have hts := atoms_spec (ws := wzJx4a65c_add_9ea2d) B.pre
  have hown : s.vm.findClass RJx4a65c = some m.cls := findClass_of_methodNamed B.named
  have hlocks := B.notSynchronized
  subst hsz
  have hD := hD0.self (sz := s.heap.size)
  generalize hAe : va_A [(pa, .inr (4, [.int mc, .ref el, .int 4])), (el, .inl (cy 2, 10, .inr (.inr (.inr (.inr g))))), (pp, .inr (17, fp))] s.heap.size = A at hD hZ ⊢
  have hA : ∀ q : Nat, s.heap.size ≤ q → A q := fun q h => by rw [← hAe]; exact Or.inr h
  have hS : va_S A s.heap s.heap [] := va_S.rf
  have hP : va_P D vwCl [(pa, .inr (4, [.int mc, .ref el, .int 4])), (el, .inl (cy 2, 10, .inr (.inr (.inr (.inr g))))), (pp, .inr (17, fp))] s.heap := hP
  have hl := lv_entry ([.ref pa, .ref pp]) (n := 2) (Nat.le_of_ble_eq_true rfl)
  rw [lg_entry_eq]
  generalize (lg_sl ([.ref pa, .ref pp]) ++ List.replicate (2 - (lg_sl ([.ref pa, .ref pp])).length) Slot.unset).toArray = ls at hl ⊢
  have hl : lv_has ls 2 [(0, .ref pa), (1, .ref pp)] := hl
  refine lv_aload_n hx hb dJx4a65c_add_9ea2d_0 rfl (lv_at hl 0 rfl) ?_
  refine lv_dup hx hb dJx4a65c_add_9ea2d_1 rfl ?_
  refine va_get (D := D) (ci := 4) (v := .int mc) (C := RJx4a65c) (T := TJx4a65c) (N := 3) hx hb hts (fun w h => zx_Gc (uz_Jx4a65c w h)) hown hK hP 0 rfl rfl 0 (by decide) (hts (.fieldLink RJx4a65c 63 "java/util/ArrayList" "modCount" "I") (zx_Gc mm_220)) (fun x9 h9 => u_same (hts (.sameField "java/util/ArrayList" "java/util/AbstractList" "modCount" "I") (zx_Gc mm_219)) x9 h9) rfl dJx4a65c_add_9ea2d_2 ?_
  refine lv_iconst (v := 1) hx hb dJx4a65c_add_9ea2d_5 (by decide) ?_
  refine lv_iadd hx hb dJx4a65c_add_9ea2d_6 ?_
  refine va_put (D := D) (ci := 4) (v := .int (mc + (1 : Int32))) (ty := .int) (C := RJx4a65c) (T := TJx4a65c) (N := 3) hx hb hts (fun w h => zx_Gc (uz_Jx4a65c w h)) tyJx4a65c tyJx4a65c_ok nmJx4a65c hown hK hP hD hS 0 rfl rfl 0 (by decide) (hts (.fieldLink RJx4a65c 63 "java/util/ArrayList" "modCount" "I") (zx_Gc mm_220)) (fun x9 h9 => u_same (hts (.sameField "java/util/ArrayList" "java/util/AbstractList" "modCount" "I") (zx_Gc mm_219)) x9 h9) rfl (by decide +kernel) rfl rfl (Nat.le_of_ble_eq_true rfl) dJx4a65c_add_9ea2d_7 (fun H locs hP hD hS => ?_)
  have hP : va_P D vwCl [(pa, .inr (4, [.int (mc + (1 : Int32)), .ref el, .int 4])), (el, .inl (cy 2, 10, .inr (.inr (.inr (.inr g))))), (pp, .inr (17, fp))] H := hP
  have hD : va_D A [(pa, .inr (4, [.int (mc + (1 : Int32)), .ref el, .int 4])), (el, .inl (cy 2, 10, .inr (.inr (.inr (.inr g))))), (pp, .inr (17, fp))] := hD
  refine lv_aload_n hx hb dJx4a65c_add_9ea2d_10 rfl (lv_at hl 0 rfl) ?_
  refine lv_aload_n hx hb dJx4a65c_add_9ea2d_11 rfl (lv_at hl 1 rfl) ?_
  refine lv_aload_n hx hb dJx4a65c_add_9ea2d_12 rfl (lv_at hl 0 rfl) ?_
  refine va_get (D := D) (ci := 4) (v := .ref el) (C := RJx4a65c) (T := TJx4a65c) (N := 3) hx hb hts (fun w h => zx_Gc (uz_Jx4a65c w h)) hown hK hP 0 rfl rfl 1 (by decide) (hts (.fieldLink RJx4a65c 9 "java/util/ArrayList" "elementData" "[Ljava/lang/Object;") (zx_Gc mm_213)) (fun _ h9 => h9) rfl dJx4a65c_add_9ea2d_13 ?_
  refine lv_aload_n hx hb dJx4a65c_add_9ea2d_16 rfl (lv_at hl 0 rfl) ?_
  refine va_get (D := D) (ci := 4) (v := .int 4) (C := RJx4a65c) (T := TJx4a65c) (N := 3) hx hb hts (fun w h => zx_Gc (uz_Jx4a65c w h)) hown hK hP 0 rfl rfl 2 (by decide) (hts (.fieldLink RJx4a65c 48 "java/util/ArrayList" "size" "I") (zx_Gc mm_216)) (fun _ h9 => h9) rfl dJx4a65c_add_9ea2d_17 ?_
  have hPc := hP.sub (ws' := [(pa, .inr (4, [.int (mc + (1 : Int32)), .ref el, .int 4])), (el, .inl (cy 2, 10, .inr (.inr (.inr (.inr g))))), (pp, .inr (17, fp))]) [0, 1, 2] rfl
  have hDc := hD.sub (ws' := [(pa, .inr (4, [.int (mc + (1 : Int32)), .ref el, .int 4])), (el, .inl (cy 2, 10, .inr (.inr (.inr (.inr g))))), (pp, .inr (17, fp))]) [0, 1, 2] (by decide) rfl
  have hFc := va_free (wc := [(pa, .inr (4, [.int (mc + (1 : Int32)), .ref el, .int 4])), (el, .inl (cy 2, 10, .inr (.inr (.inr (.inr g))))), (pp, .inr (17, fp))]) hD hS hA [0, 1, 2] rfl
  refine va_callv (va_runV (As := [.ref pp, .ref el, .int 4]) (rest := []) ⟨hx, hb, hml, hown, hts⟩ (c_AL_add3_X12_4 l hst D cy ed H.size pa el (mc + (1 : Int32)) g pp fp) (cwV 3 hts (zx_GV mm_776 mm_778 mm_5 mm_77 mm_779) rfl rfl rfl (by decide +kernel) ⟨(Nat.le_of_ble_eq_true rfl), (Nat.le_of_ble_eq_true rfl)⟩) ⟨zx_blind, va_recv hK hPc (ci := 4) (q0 := 0) rfl rfl, zx_give hPc hK hDc hS hFc hZ hN⟩ rfl rfl hl.1 rfl (lv_room (Nat.le_of_ble_eq_true rfl)) dJx4a65c_add_9ea2d_20 ⟨(Nat.le_of_ble_eq_true rfl), (Nat.le_of_ble_eq_true rfl)⟩) hS (fun q _ h => hFc q h) hFc (fun u t H1 locs ht hvm hw hB hz1 hk1 hS => ?_)
  obtain ⟨qx_306, g2_307⟩ := u
  have h_308 := hw
  obtain ⟨hP, hD⟩ := zx_join (wr := []) (w1 := [(pa, .inr (4, [.int (mc + (1 : Int32)), .ref qx_306, .int 5])), (qx_306, .inl (cy 2, 10, .inr (.inr (.inr (.inr g2_307))))), (pp, .inr (17, fp))]) [0, 1, 2] [] rfl rfl (by decide) (by decide) hP hD hk1 hFc hB ht
  generalize H1 = H at hP hS ⊢
  have hP : va_P D vwCl [(pa, .inr (4, [.int (mc + (1 : Int32)), .ref qx_306, .int 5])), (qx_306, .inl (cy 2, 10, .inr (.inr (.inr (.inr g2_307))))), (pp, .inr (17, fp))] H := hP
  have hD : va_D A [(pa, .inr (4, [.int (mc + (1 : Int32)), .ref qx_306, .int 5])), (qx_306, .inl (cy 2, 10, .inr (.inr (.inr (.inr g2_307))))), (pp, .inr (17, fp))] := hD
  refine W.widen (k := 0) (n := 0) (Nat.le_of_ble_eq_true rfl) (Nat.le_of_ble_eq_true rfl) ?_
  obtain ⟨hs_309, hs_310⟩ := h_308
  refine lv_iconst (v := 1) hx hb dJx4a65c_add_9ea2d_23 (by decide) ?_
  have hP9 := hP.sub (ws' := [(pa, .inr (4, [.int (mc + (1 : Int32)), .ref qx_306, .int 5])), (qx_306, .inl (cy 2, 10, .inr (.inr (.inr (.inr g2_307))))), (pp, .inr (17, fp))]) [0, 1, 2] rfl
  have hD9 := hD.sub (ws' := [(pa, .inr (4, [.int (mc + (1 : Int32)), .ref qx_306, .int 5])), (qx_306, .inl (cy 2, 10, .inr (.inr (.inr (.inr g2_307))))), (pp, .inr (17, fp))]) [0, 1, 2] (by decide) rfl
  exact W.zret (v := 1) hx hb hr rfl (fun t ht hW => ⟨⟨1, ⟨(mc + (1 : Int32)), qx_306, g2_307⟩, rfl, ⟨rfl, ⟨hs_309, hs_310⟩⟩, zx_fin hP9 hD9 hK ht hW⟩, hS.F ht⟩) hS.2.2 dJx4a65c_add_9ea2d_24
set_option maxHeartbeats 4000000 in
set_option maxRecDepth 100000 in
theorem c_AL_add3_X12_5 (l : Launch) (hst : l.stackTraces = false) (D : va_G) (cy : Nat → ClassId) (ed sz : Nat) (pa : Nat) (el : Nat) (mc : Int32) (g : Nat → Option Nat) (pp : Nat) (fp : List Value) : Met l yJx4a65c_add_72be8 wzJx4a65c_add_72be8 ({ frames := 0, cells := 0, slots := 0, locals := 0 }) (zx_Pc D cy ed sz [.ref pa, .ref pp, .ref el, .int 5] [(pa, .inr (4, [.int mc, .ref el, .int 5])), (el, .inl (cy 2, 10, .inr (.inr (.inr (.inr g))))), (pp, .inr (17, fp))]) (va_Qv (fun (u9 : Nat × (Nat → Option Nat)) => match u9 with | (qx, g2) => g2 5 = some pp ∧ ∀ j, j < 5 → g2 j = g j) (fun (u9 : Nat × (Nat → Option Nat)) (t9 : State) => match u9 with | (qx, g2) => zx_At D cy (va_A [(pa, .inr (4, [.int mc, .ref el, .int 5])), (el, .inl (cy 2, 10, .inr (.inr (.inr (.inr g))))), (pp, .inr (17, fp))] sz) [(pa, .inr (4, [.int mc, .ref qx, .int 6])), (qx, .inl (cy 2, 10, .inr (.inr (.inr (.inr g2))))), (pp, .inr (17, fp))] t9) (va_A [(pa, .inr (4, [.int mc, .ref el, .int 5])), (el, .inl (cy 2, 10, .inr (.inr (.inr (.inr g))))), (pp, .inr (17, fp))] sz)) 0 0 (va_A [(pa, .inr (4, [.int mc, .ref el, .int 5])), (el, .inl (cy 2, 10, .inr (.inr (.inr (.inr g))))), (pp, .inr (17, fp))] sz) := by
  refine Met.ofW (cc := cJx4a65c_add_72be8) (maxL := 4) (ret := none) (by decide) rfl ?_
  intro p e s m args below meth c s₁ B hml hv
  obtain ⟨rfl, hsz, hP, hK, hD0, hZ, hN⟩ := hv
  have hx := B.exec
  have hb := B.bytes
  have hr := B.returns
  have hts := atoms_spec (ws := wzJx4a65c_add_72be8) B.pre
  have hown : s.vm.findClass RJx4a65c = some m.cls := findClass_of_methodNamed B.named
  have hlocks := B.notSynchronized
  subst hsz
  have hD := hD0.self (sz := s.heap.size)
  generalize hAe : va_A [(pa, .inr (4, [.int mc, .ref el, .int 5])), (el, .inl (cy 2, 10, .inr (.inr (.inr (.inr g))))), (pp, .inr (17, fp))] s.heap.size = A at hD hZ ⊢
  have hA : ∀ q : Nat, s.heap.size ≤ q → A q := fun q h => by rw [← hAe]; exact Or.inr h
  have hS : va_S A s.heap s.heap [] := va_S.rf
  have hP : va_P D vwCl [(pa, .inr (4, [.int mc, .ref el, .int 5])), (el, .inl (cy 2, 10, .inr (.inr (.inr (.inr g))))), (pp, .inr (17, fp))] s.heap := hP
  have hl := lv_entry ([.ref pa, .ref pp, .ref el, .int 5]) (n := 4) (Nat.le_of_ble_eq_true rfl)
  rw [lg_entry_eq]
  generalize (lg_sl ([.ref pa, .ref pp, .ref el, .int 5]) ++ List.replicate (4 - (lg_sl ([.ref pa, .ref pp, .ref el, .int 5])).length) Slot.unset).toArray = ls at hl ⊢
  have hl : lv_has ls 4 [(0, .ref pa), (1, .ref pp), (2, .ref el), (3, .int 5)] := hl
  refine lv_iload_n hx hb dJx4a65c_add_72be8_0 rfl (lv_at hl 3 rfl) ?_
  refine lv_aload_n hx hb dJx4a65c_add_72be8_1 rfl (lv_at hl 2 rfl) ?_
  refine va_alen (v := 10) hx hb hK hP 1 2 rfl rfl (show Int32.ofNat 10 = 10 from by decide) dJx4a65c_add_72be8_2 ?_
  refine lv_icmp_ne (tgt := 11) hx hb dJx4a65c_add_72be8_3 (by decide) (fun _ => ?_) (fun c_311 => absurd c_311 (by decide))
  refine lv_aload_n hx hb dJx4a65c_add_72be8_11 rfl (lv_at hl 2 rfl) ?_
  refine lv_iload_n hx hb dJx4a65c_add_72be8_12 rfl (lv_at hl 3 rfl) ?_
  refine lv_aload_n hx hb dJx4a65c_add_72be8_13 rfl (lv_at hl 1 rfl) ?_
  refine va_astqO (E := "java/lang/Object") hx hb hK hP hD hS 1 2 2 17 rfl rfl (hN.2.2.1 _ _ (List.mem_of_getElem? (i := 2467) (by decide +kernel))) rfl rfl (zx_bn (by decide)) dJx4a65c_add_72be8_14 (fun H locs hP hD hS => ?_)
  have hP : va_P D vwCl [(pa, .inr (4, [.int mc, .ref el, .int 5])), (el, .inl (cy 2, 10, .inr (.inr (.inr (.inr (va_up g (5 : Int32).toNatClampNeg (some pp))))))), (pp, .inr (17, fp))] H := hP
  have hD : va_D A [(pa, .inr (4, [.int mc, .ref el, .int 5])), (el, .inl (cy 2, 10, .inr (.inr (.inr (.inr (va_up g (5 : Int32).toNatClampNeg (some pp))))))), (pp, .inr (17, fp))] := hD
  refine lv_aload_n hx hb dJx4a65c_add_72be8_15 rfl (lv_at hl 0 rfl) ?_
  refine lv_iload_n hx hb dJx4a65c_add_72be8_16 rfl (lv_at hl 3 rfl) ?_
  refine lv_iconst (v := 1) hx hb dJx4a65c_add_72be8_17 (by decide) ?_
  refine lv_iadd hx hb dJx4a65c_add_72be8_18 ?_
  refine lv_topi (fun y9 ey9 => ?_)
  obtain rfl : y9 = 6 := by rw [ey9] <;> decide
  refine va_put (D := D) (ci := 4) (v := .int 6) (ty := .int) (C := RJx4a65c) (T := TJx4a65c) (N := 3) hx hb hts (fun w h => zx_Gc (uz_Jx4a65c w h)) tyJx4a65c tyJx4a65c_ok nmJx4a65c hown hK hP hD hS 0 rfl rfl 2 (by decide) (hts (.fieldLink RJx4a65c 48 "java/util/ArrayList" "size" "I") (zx_Gc mm_216)) (fun _ h9 => h9) rfl (by decide +kernel) rfl rfl (Nat.le_of_ble_eq_true rfl) dJx4a65c_add_72be8_19 (fun H locs hP hD hS => ?_)
  have hP : va_P D vwCl [(pa, .inr (4, [.int mc, .ref el, .int 6])), (el, .inl (cy 2, 10, .inr (.inr (.inr (.inr (va_up g (5 : Int32).toNatClampNeg (some pp))))))), (pp, .inr (17, fp))] H := hP
  have hD : va_D A [(pa, .inr (4, [.int mc, .ref el, .int 6])), (el, .inl (cy 2, 10, .inr (.inr (.inr (.inr (va_up g (5 : Int32).toNatClampNeg (some pp))))))), (pp, .inr (17, fp))] := hD
  have hP9 := hP.sub (ws' := [(pa, .inr (4, [.int mc, .ref el, .int 6])), (el, .inl (cy 2, 10, .inr (.inr (.inr (.inr (va_up g (5 : Int32).toNatClampNeg (some pp))))))), (pp, .inr (17, fp))]) [0, 1, 2] rfl
  have hD9 := hD.sub (ws' := [(pa, .inr (4, [.int mc, .ref el, .int 6])), (el, .inl (cy 2, 10, .inr (.inr (.inr (.inr (va_up g (5 : Int32).toNatClampNeg (some pp))))))), (pp, .inr (17, fp))]) [0, 1, 2] (by decide) rfl
  exact W.vret hx hb hr (fun t ht hW => ⟨⟨⟨el, (va_up g (5 : Int32).toNatClampNeg (some pp))⟩, rfl, ⟨zx_up_at _ (by decide), fun j9 hj9 => zx_up_ne _ (by show j9 ≠ 5; omega)⟩, zx_fin hP9 hD9 hK ht hW⟩, hS.F ht⟩) hS.2.2 dJx4a65c_add_72be8_22
set_option maxHeartbeats 4000000 in
set_option maxRecDepth 100000 in
theorem c_AL_add1_X12_5 (l : Launch) (hst : l.stackTraces = false) (D : va_G) (cy : Nat → ClassId) (ed sz : Nat) (pa : Nat) (el : Nat) (mc : Int32) (g : Nat → Option Nat) (pp : Nat) (fp : List Value) : Met l yJx4a65c_add_9ea2d wzJx4a65c_add_9ea2d ({ frames := 1, cells := 0, slots := 0, locals := 23 }) (zx_Pc D cy ed sz [.ref pa, .ref pp] [(pa, .inr (4, [.int mc, .ref el, .int 5])), (el, .inl (cy 2, 10, .inr (.inr (.inr (.inr g))))), (pp, .inr (17, fp))]) (va_Qi (fun (r9 : Int32) (u9 : Int32 × Nat × (Nat → Option Nat)) => match u9 with | (mx, qx, g2) => r9 = 1 ∧ g2 5 = some pp ∧ ∀ j, j < 5 → g2 j = g j) (fun (u9 : Int32 × Nat × (Nat → Option Nat)) (t9 : State) => match u9 with | (mx, qx, g2) => zx_At D cy (va_A [(pa, .inr (4, [.int mc, .ref el, .int 5])), (el, .inl (cy 2, 10, .inr (.inr (.inr (.inr g))))), (pp, .inr (17, fp))] sz) [(pa, .inr (4, [.int mx, .ref qx, .int 6])), (qx, .inl (cy 2, 10, .inr (.inr (.inr (.inr g2))))), (pp, .inr (17, fp))] t9) (va_A [(pa, .inr (4, [.int mc, .ref el, .int 5])), (el, .inl (cy 2, 10, .inr (.inr (.inr (.inr g))))), (pp, .inr (17, fp))] sz)) 0 0 (va_A [(pa, .inr (4, [.int mc, .ref el, .int 5])), (el, .inl (cy 2, 10, .inr (.inr (.inr (.inr g))))), (pp, .inr (17, fp))] sz) := by
  refine Met.ofW (cc := cJx4a65c_add_9ea2d) (maxL := 2) (ret := (some .boolean)) (by decide) rfl ?_
  intro p e s m args below meth c s₁ B hml hv
  obtain ⟨rfl, hsz, hP, hK, hD0, hZ, hN⟩ := hv
  have hx := B.exec
  have hb := B.bytes
  have hr := B.returns
  have hts := atoms_spec (ws := wzJx4a65c_add_9ea2d) B.pre
  have hown : s.vm.findClass RJx4a65c = some m.cls := findClass_of_methodNamed B.named
  have hlocks := B.notSynchronized
  subst hsz
  have hD := hD0.self (sz := s.heap.size)
  generalize hAe : va_A [(pa, .inr (4, [.int mc, .ref el, .int 5])), (el, .inl (cy 2, 10, .inr (.inr (.inr (.inr g))))), (pp, .inr (17, fp))] s.heap.size = A at hD hZ ⊢
  have hA : ∀ q : Nat, s.heap.size ≤ q → A q := fun q h => by rw [← hAe]; exact Or.inr h
  have hS : va_S A s.heap s.heap [] := va_S.rf
  have hP : va_P D vwCl [(pa, .inr (4, [.int mc, .ref el, .int 5])), (el, .inl (cy 2, 10, .inr (.inr (.inr (.inr g))))), (pp, .inr (17, fp))] s.heap := hP
  have hl := lv_entry ([.ref pa, .ref pp]) (n := 2) (Nat.le_of_ble_eq_true rfl)
  rw [lg_entry_eq]
  generalize (lg_sl ([.ref pa, .ref pp]) ++ List.replicate (2 - (lg_sl ([.ref pa, .ref pp])).length) Slot.unset).toArray = ls at hl ⊢
  have hl : lv_has ls 2 [(0, .ref pa), (1, .ref pp)] := hl
  refine lv_aload_n hx hb dJx4a65c_add_9ea2d_0 rfl (lv_at hl 0 rfl) ?_
  refine lv_dup hx hb dJx4a65c_add_9ea2d_1 rfl ?_
  refine va_get (D := D) (ci := 4) (v := .int mc) (C := RJx4a65c) (T := TJx4a65c) (N := 3) hx hb hts (fun w h => zx_Gc (uz_Jx4a65c w h)) hown hK hP 0 rfl rfl 0 (by decide) (hts (.fieldLink RJx4a65c 63 "java/util/ArrayList" "modCount" "I") (zx_Gc mm_220)) (fun x9 h9 => u_same (hts (.sameField "java/util/ArrayList" "java/util/AbstractList" "modCount" "I") (zx_Gc mm_219)) x9 h9) rfl dJx4a65c_add_9ea2d_2 ?_
  refine lv_iconst (v := 1) hx hb dJx4a65c_add_9ea2d_5 (by decide) ?_
  refine lv_iadd hx hb dJx4a65c_add_9ea2d_6 ?_
  refine va_put (D := D) (ci := 4) (v := .int (mc + (1 : Int32))) (ty := .int) (C := RJx4a65c) (T := TJx4a65c) (N := 3) hx hb hts (fun w h => zx_Gc (uz_Jx4a65c w h)) tyJx4a65c tyJx4a65c_ok nmJx4a65c hown hK hP hD hS 0 rfl rfl 0 (by decide) (hts (.fieldLink RJx4a65c 63 "java/util/ArrayList" "modCount" "I") (zx_Gc mm_220)) (fun x9 h9 => u_same (hts (.sameField "java/util/ArrayList" "java/util/AbstractList" "modCount" "I") (zx_Gc mm_219)) x9 h9) rfl (by decide +kernel) rfl rfl (Nat.le_of_ble_eq_true rfl) dJx4a65c_add_9ea2d_7 (fun H locs hP hD hS => ?_)
  have hP : va_P D vwCl [(pa, .inr (4, [.int (mc + (1 : Int32)), .ref el, .int 5])), (el, .inl (cy 2, 10, .inr (.inr (.inr (.inr g))))), (pp, .inr (17, fp))] H := hP
  have hD : va_D A [(pa, .inr (4, [.int (mc + (1 : Int32)), .ref el, .int 5])), (el, .inl (cy 2, 10, .inr (.inr (.inr (.inr g))))), (pp, .inr (17, fp))] := hD
  refine lv_aload_n hx hb dJx4a65c_add_9ea2d_10 rfl (lv_at hl 0 rfl) ?_
  refine lv_aload_n hx hb dJx4a65c_add_9ea2d_11 rfl (lv_at hl 1 rfl) ?_
  refine lv_aload_n hx hb dJx4a65c_add_9ea2d_12 rfl (lv_at hl 0 rfl) ?_
  refine va_get (D := D) (ci := 4) (v := .ref el) (C := RJx4a65c) (T := TJx4a65c) (N := 3) hx hb hts (fun w h => zx_Gc (uz_Jx4a65c w h)) hown hK hP 0 rfl rfl 1 (by decide) (hts (.fieldLink RJx4a65c 9 "java/util/ArrayList" "elementData" "[Ljava/lang/Object;") (zx_Gc mm_213)) (fun _ h9 => h9) rfl dJx4a65c_add_9ea2d_13 ?_
  refine lv_aload_n hx hb dJx4a65c_add_9ea2d_16 rfl (lv_at hl 0 rfl) ?_
  refine va_get (D := D) (ci := 4) (v := .int 5) (C := RJx4a65c) (T := TJx4a65c) (N := 3) hx hb hts (fun w h => zx_Gc (uz_Jx4a65c w h)) hown hK hP 0 rfl rfl 2 (by decide) (hts (.fieldLink RJx4a65c 48 "java/util/ArrayList" "size" "I") (zx_Gc mm_216)) (fun _ h9 => h9) rfl dJx4a65c_add_9ea2d_17 ?_
  have hPc := hP.sub (ws' := [(pa, .inr (4, [.int (mc + (1 : Int32)), .ref el, .int 5])), (el, .inl (cy 2, 10, .inr (.inr (.inr (.inr g))))), (pp, .inr (17, fp))]) [0, 1, 2] rfl
  have hDc := hD.sub (ws' := [(pa, .inr (4, [.int (mc + (1 : Int32)), .ref el, .int 5])), (el, .inl (cy 2, 10, .inr (.inr (.inr (.inr g))))), (pp, .inr (17, fp))]) [0, 1, 2] (by decide) rfl
  have hFc := va_free (wc := [(pa, .inr (4, [.int (mc + (1 : Int32)), .ref el, .int 5])), (el, .inl (cy 2, 10, .inr (.inr (.inr (.inr g))))), (pp, .inr (17, fp))]) hD hS hA [0, 1, 2] rfl
  refine va_callv (va_runV (As := [.ref pp, .ref el, .int 5]) (rest := []) ⟨hx, hb, hml, hown, hts⟩ (c_AL_add3_X12_5 l hst D cy ed H.size pa el (mc + (1 : Int32)) g pp fp) (cwV 3 hts (zx_GV mm_776 mm_778 mm_5 mm_77 mm_779) rfl rfl rfl (by decide +kernel) ⟨(Nat.le_of_ble_eq_true rfl), (Nat.le_of_ble_eq_true rfl)⟩) ⟨zx_blind, va_recv hK hPc (ci := 4) (q0 := 0) rfl rfl, zx_give hPc hK hDc hS hFc hZ hN⟩ rfl rfl hl.1 rfl (lv_room (Nat.le_of_ble_eq_true rfl)) dJx4a65c_add_9ea2d_20 ⟨(Nat.le_of_ble_eq_true rfl), (Nat.le_of_ble_eq_true rfl)⟩) hS (fun q _ h => hFc q h) hFc (fun u t H1 locs ht hvm hw hB hz1 hk1 hS => ?_)
  obtain ⟨qx_312, g2_313⟩ := u
  have h_314 := hw
  obtain ⟨hP, hD⟩ := zx_join (wr := []) (w1 := [(pa, .inr (4, [.int (mc + (1 : Int32)), .ref qx_312, .int 6])), (qx_312, .inl (cy 2, 10, .inr (.inr (.inr (.inr g2_313))))), (pp, .inr (17, fp))]) [0, 1, 2] [] rfl rfl (by decide) (by decide) hP hD hk1 hFc hB ht
  generalize H1 = H at hP hS ⊢
  have hP : va_P D vwCl [(pa, .inr (4, [.int (mc + (1 : Int32)), .ref qx_312, .int 6])), (qx_312, .inl (cy 2, 10, .inr (.inr (.inr (.inr g2_313))))), (pp, .inr (17, fp))] H := hP
  have hD : va_D A [(pa, .inr (4, [.int (mc + (1 : Int32)), .ref qx_312, .int 6])), (qx_312, .inl (cy 2, 10, .inr (.inr (.inr (.inr g2_313))))), (pp, .inr (17, fp))] := hD
  refine W.widen (k := 0) (n := 0) (Nat.le_of_ble_eq_true rfl) (Nat.le_of_ble_eq_true rfl) ?_
  obtain ⟨hs_315, hs_316⟩ := h_314
  refine lv_iconst (v := 1) hx hb dJx4a65c_add_9ea2d_23 (by decide) ?_
  have hP9 := hP.sub (ws' := [(pa, .inr (4, [.int (mc + (1 : Int32)), .ref qx_312, .int 6])), (qx_312, .inl (cy 2, 10, .inr (.inr (.inr (.inr g2_313))))), (pp, .inr (17, fp))]) [0, 1, 2] rfl
  have hD9 := hD.sub (ws' := [(pa, .inr (4, [.int (mc + (1 : Int32)), .ref qx_312, .int 6])), (qx_312, .inl (cy 2, 10, .inr (.inr (.inr (.inr g2_313))))), (pp, .inr (17, fp))]) [0, 1, 2] (by decide) rfl
  exact W.zret (v := 1) hx hb hr rfl (fun t ht hW => ⟨⟨1, ⟨(mc + (1 : Int32)), qx_312, g2_313⟩, rfl, ⟨rfl, ⟨hs_315, hs_316⟩⟩, zx_fin hP9 hD9 hK ht hW⟩, hS.F ht⟩) hS.2.2 dJx4a65c_add_9ea2d_24
set_option maxHeartbeats 4000000 in
set_option maxRecDepth 100000 in
theorem c_AL_add3_X12_6 (l : Launch) (hst : l.stackTraces = false) (D : va_G) (cy : Nat → ClassId) (ed sz : Nat) (pa : Nat) (el : Nat) (mc : Int32) (g : Nat → Option Nat) (pp : Nat) (fp : List Value) : Met l yJx4a65c_add_72be8 wzJx4a65c_add_72be8 ({ frames := 0, cells := 0, slots := 0, locals := 0 }) (zx_Pc D cy ed sz [.ref pa, .ref pp, .ref el, .int 6] [(pa, .inr (4, [.int mc, .ref el, .int 6])), (el, .inl (cy 2, 10, .inr (.inr (.inr (.inr g))))), (pp, .inr (17, fp))]) (va_Qv (fun (u9 : Nat × (Nat → Option Nat)) => match u9 with | (qx, g2) => g2 6 = some pp ∧ ∀ j, j < 6 → g2 j = g j) (fun (u9 : Nat × (Nat → Option Nat)) (t9 : State) => match u9 with | (qx, g2) => zx_At D cy (va_A [(pa, .inr (4, [.int mc, .ref el, .int 6])), (el, .inl (cy 2, 10, .inr (.inr (.inr (.inr g))))), (pp, .inr (17, fp))] sz) [(pa, .inr (4, [.int mc, .ref qx, .int 7])), (qx, .inl (cy 2, 10, .inr (.inr (.inr (.inr g2))))), (pp, .inr (17, fp))] t9) (va_A [(pa, .inr (4, [.int mc, .ref el, .int 6])), (el, .inl (cy 2, 10, .inr (.inr (.inr (.inr g))))), (pp, .inr (17, fp))] sz)) 0 0 (va_A [(pa, .inr (4, [.int mc, .ref el, .int 6])), (el, .inl (cy 2, 10, .inr (.inr (.inr (.inr g))))), (pp, .inr (17, fp))] sz) := by
  refine Met.ofW (cc := cJx4a65c_add_72be8) (maxL := 4) (ret := none) (by decide) rfl ?_
  intro p e s m args below meth c s₁ B hml hv
  obtain ⟨rfl, hsz, hP, hK, hD0, hZ, hN⟩ := hv
  have hx := B.exec
  have hb := B.bytes
  have hr := B.returns
  have hts := atoms_spec (ws := wzJx4a65c_add_72be8) B.pre
  have hown : s.vm.findClass RJx4a65c = some m.cls := findClass_of_methodNamed B.named
  have hlocks := B.notSynchronized
  subst hsz
  have hD := hD0.self (sz := s.heap.size)
  generalize hAe : va_A [(pa, .inr (4, [.int mc, .ref el, .int 6])), (el, .inl (cy 2, 10, .inr (.inr (.inr (.inr g))))), (pp, .inr (17, fp))] s.heap.size = A at hD hZ ⊢
  have hA : ∀ q : Nat, s.heap.size ≤ q → A q := fun q h => by rw [← hAe]; exact Or.inr h
  have hS : va_S A s.heap s.heap [] := va_S.rf
  have hP : va_P D vwCl [(pa, .inr (4, [.int mc, .ref el, .int 6])), (el, .inl (cy 2, 10, .inr (.inr (.inr (.inr g))))), (pp, .inr (17, fp))] s.heap := hP
  have hl := lv_entry ([.ref pa, .ref pp, .ref el, .int 6]) (n := 4) (Nat.le_of_ble_eq_true rfl)
  rw [lg_entry_eq]
  generalize (lg_sl ([.ref pa, .ref pp, .ref el, .int 6]) ++ List.replicate (4 - (lg_sl ([.ref pa, .ref pp, .ref el, .int 6])).length) Slot.unset).toArray = ls at hl ⊢
  have hl : lv_has ls 4 [(0, .ref pa), (1, .ref pp), (2, .ref el), (3, .int 6)] := hl
  refine lv_iload_n hx hb dJx4a65c_add_72be8_0 rfl (lv_at hl 3 rfl) ?_
  refine lv_aload_n hx hb dJx4a65c_add_72be8_1 rfl (lv_at hl 2 rfl) ?_
  refine va_alen (v := 10) hx hb hK hP 1 2 rfl rfl (show Int32.ofNat 10 = 10 from by decide) dJx4a65c_add_72be8_2 ?_
  refine lv_icmp_ne (tgt := 11) hx hb dJx4a65c_add_72be8_3 (by decide) (fun _ => ?_) (fun c_317 => absurd c_317 (by decide))
  refine lv_aload_n hx hb dJx4a65c_add_72be8_11 rfl (lv_at hl 2 rfl) ?_
  refine lv_iload_n hx hb dJx4a65c_add_72be8_12 rfl (lv_at hl 3 rfl) ?_
  refine lv_aload_n hx hb dJx4a65c_add_72be8_13 rfl (lv_at hl 1 rfl) ?_
  refine va_astqO (E := "java/lang/Object") hx hb hK hP hD hS 1 2 2 17 rfl rfl (hN.2.2.1 _ _ (List.mem_of_getElem? (i := 2467) (by decide +kernel))) rfl rfl (zx_bn (by decide)) dJx4a65c_add_72be8_14 (fun H locs hP hD hS => ?_)
  have hP : va_P D vwCl [(pa, .inr (4, [.int mc, .ref el, .int 6])), (el, .inl (cy 2, 10, .inr (.inr (.inr (.inr (va_up g (6 : Int32).toNatClampNeg (some pp))))))), (pp, .inr (17, fp))] H := hP
  have hD : va_D A [(pa, .inr (4, [.int mc, .ref el, .int 6])), (el, .inl (cy 2, 10, .inr (.inr (.inr (.inr (va_up g (6 : Int32).toNatClampNeg (some pp))))))), (pp, .inr (17, fp))] := hD
  refine lv_aload_n hx hb dJx4a65c_add_72be8_15 rfl (lv_at hl 0 rfl) ?_
  refine lv_iload_n hx hb dJx4a65c_add_72be8_16 rfl (lv_at hl 3 rfl) ?_
  refine lv_iconst (v := 1) hx hb dJx4a65c_add_72be8_17 (by decide) ?_
  refine lv_iadd hx hb dJx4a65c_add_72be8_18 ?_
  refine lv_topi (fun y9 ey9 => ?_)
  obtain rfl : y9 = 7 := by rw [ey9] <;> decide
  refine va_put (D := D) (ci := 4) (v := .int 7) (ty := .int) (C := RJx4a65c) (T := TJx4a65c) (N := 3) hx hb hts (fun w h => zx_Gc (uz_Jx4a65c w h)) tyJx4a65c tyJx4a65c_ok nmJx4a65c hown hK hP hD hS 0 rfl rfl 2 (by decide) (hts (.fieldLink RJx4a65c 48 "java/util/ArrayList" "size" "I") (zx_Gc mm_216)) (fun _ h9 => h9) rfl (by decide +kernel) rfl rfl (Nat.le_of_ble_eq_true rfl) dJx4a65c_add_72be8_19 (fun H locs hP hD hS => ?_)
  have hP : va_P D vwCl [(pa, .inr (4, [.int mc, .ref el, .int 7])), (el, .inl (cy 2, 10, .inr (.inr (.inr (.inr (va_up g (6 : Int32).toNatClampNeg (some pp))))))), (pp, .inr (17, fp))] H := hP
  have hD : va_D A [(pa, .inr (4, [.int mc, .ref el, .int 7])), (el, .inl (cy 2, 10, .inr (.inr (.inr (.inr (va_up g (6 : Int32).toNatClampNeg (some pp))))))), (pp, .inr (17, fp))] := hD
  have hP9 := hP.sub (ws' := [(pa, .inr (4, [.int mc, .ref el, .int 7])), (el, .inl (cy 2, 10, .inr (.inr (.inr (.inr (va_up g (6 : Int32).toNatClampNeg (some pp))))))), (pp, .inr (17, fp))]) [0, 1, 2] rfl
  have hD9 := hD.sub (ws' := [(pa, .inr (4, [.int mc, .ref el, .int 7])), (el, .inl (cy 2, 10, .inr (.inr (.inr (.inr (va_up g (6 : Int32).toNatClampNeg (some pp))))))), (pp, .inr (17, fp))]) [0, 1, 2] (by decide) rfl
  exact W.vret hx hb hr (fun t ht hW => ⟨⟨⟨el, (va_up g (6 : Int32).toNatClampNeg (some pp))⟩, rfl, ⟨zx_up_at _ (by decide), fun j9 hj9 => zx_up_ne _ (by show j9 ≠ 6; omega)⟩, zx_fin hP9 hD9 hK ht hW⟩, hS.F ht⟩) hS.2.2 dJx4a65c_add_72be8_22
set_option maxHeartbeats 4000000 in
set_option maxRecDepth 100000 in
theorem c_AL_add1_X12_6 (l : Launch) (hst : l.stackTraces = false) (D : va_G) (cy : Nat → ClassId) (ed sz : Nat) (pa : Nat) (el : Nat) (mc : Int32) (g : Nat → Option Nat) (pp : Nat) (fp : List Value) : Met l yJx4a65c_add_9ea2d wzJx4a65c_add_9ea2d ({ frames := 1, cells := 0, slots := 0, locals := 23 }) (zx_Pc D cy ed sz [.ref pa, .ref pp] [(pa, .inr (4, [.int mc, .ref el, .int 6])), (el, .inl (cy 2, 10, .inr (.inr (.inr (.inr g))))), (pp, .inr (17, fp))]) (va_Qi (fun (r9 : Int32) (u9 : Int32 × Nat × (Nat → Option Nat)) => match u9 with | (mx, qx, g2) => r9 = 1 ∧ g2 6 = some pp ∧ ∀ j, j < 6 → g2 j = g j) (fun (u9 : Int32 × Nat × (Nat → Option Nat)) (t9 : State) => match u9 with | (mx, qx, g2) => zx_At D cy (va_A [(pa, .inr (4, [.int mc, .ref el, .int 6])), (el, .inl (cy 2, 10, .inr (.inr (.inr (.inr g))))), (pp, .inr (17, fp))] sz) [(pa, .inr (4, [.int mx, .ref qx, .int 7])), (qx, .inl (cy 2, 10, .inr (.inr (.inr (.inr g2))))), (pp, .inr (17, fp))] t9) (va_A [(pa, .inr (4, [.int mc, .ref el, .int 6])), (el, .inl (cy 2, 10, .inr (.inr (.inr (.inr g))))), (pp, .inr (17, fp))] sz)) 0 0 (va_A [(pa, .inr (4, [.int mc, .ref el, .int 6])), (el, .inl (cy 2, 10, .inr (.inr (.inr (.inr g))))), (pp, .inr (17, fp))] sz) := by
  refine Met.ofW (cc := cJx4a65c_add_9ea2d) (maxL := 2) (ret := (some .boolean)) (by decide) rfl ?_
  intro p e s m args below meth c s₁ B hml hv
  obtain ⟨rfl, hsz, hP, hK, hD0, hZ, hN⟩ := hv
  have hx := B.exec
  have hb := B.bytes
  have hr := B.returns
  have hts := atoms_spec (ws := wzJx4a65c_add_9ea2d) B.pre
  have hown : s.vm.findClass RJx4a65c = some m.cls := findClass_of_methodNamed B.named
  have hlocks := B.notSynchronized
  subst hsz
  have hD := hD0.self (sz := s.heap.size)
  generalize hAe : va_A [(pa, .inr (4, [.int mc, .ref el, .int 6])), (el, .inl (cy 2, 10, .inr (.inr (.inr (.inr g))))), (pp, .inr (17, fp))] s.heap.size = A at hD hZ ⊢
  have hA : ∀ q : Nat, s.heap.size ≤ q → A q := fun q h => by rw [← hAe]; exact Or.inr h
  have hS : va_S A s.heap s.heap [] := va_S.rf
  have hP : va_P D vwCl [(pa, .inr (4, [.int mc, .ref el, .int 6])), (el, .inl (cy 2, 10, .inr (.inr (.inr (.inr g))))), (pp, .inr (17, fp))] s.heap := hP
  have hl := lv_entry ([.ref pa, .ref pp]) (n := 2) (Nat.le_of_ble_eq_true rfl)
  rw [lg_entry_eq]
  generalize (lg_sl ([.ref pa, .ref pp]) ++ List.replicate (2 - (lg_sl ([.ref pa, .ref pp])).length) Slot.unset).toArray = ls at hl ⊢
  have hl : lv_has ls 2 [(0, .ref pa), (1, .ref pp)] := hl
  refine lv_aload_n hx hb dJx4a65c_add_9ea2d_0 rfl (lv_at hl 0 rfl) ?_
  refine lv_dup hx hb dJx4a65c_add_9ea2d_1 rfl ?_
  refine va_get (D := D) (ci := 4) (v := .int mc) (C := RJx4a65c) (T := TJx4a65c) (N := 3) hx hb hts (fun w h => zx_Gc (uz_Jx4a65c w h)) hown hK hP 0 rfl rfl 0 (by decide) (hts (.fieldLink RJx4a65c 63 "java/util/ArrayList" "modCount" "I") (zx_Gc mm_220)) (fun x9 h9 => u_same (hts (.sameField "java/util/ArrayList" "java/util/AbstractList" "modCount" "I") (zx_Gc mm_219)) x9 h9) rfl dJx4a65c_add_9ea2d_2 ?_
  refine lv_iconst (v := 1) hx hb dJx4a65c_add_9ea2d_5 (by decide) ?_
  refine lv_iadd hx hb dJx4a65c_add_9ea2d_6 ?_
  refine va_put (D := D) (ci := 4) (v := .int (mc + (1 : Int32))) (ty := .int) (C := RJx4a65c) (T := TJx4a65c) (N := 3) hx hb hts (fun w h => zx_Gc (uz_Jx4a65c w h)) tyJx4a65c tyJx4a65c_ok nmJx4a65c hown hK hP hD hS 0 rfl rfl 0 (by decide) (hts (.fieldLink RJx4a65c 63 "java/util/ArrayList" "modCount" "I") (zx_Gc mm_220)) (fun x9 h9 => u_same (hts (.sameField "java/util/ArrayList" "java/util/AbstractList" "modCount" "I") (zx_Gc mm_219)) x9 h9) rfl (by decide +kernel) rfl rfl (Nat.le_of_ble_eq_true rfl) dJx4a65c_add_9ea2d_7 (fun H locs hP hD hS => ?_)
  have hP : va_P D vwCl [(pa, .inr (4, [.int (mc + (1 : Int32)), .ref el, .int 6])), (el, .inl (cy 2, 10, .inr (.inr (.inr (.inr g))))), (pp, .inr (17, fp))] H := hP
  have hD : va_D A [(pa, .inr (4, [.int (mc + (1 : Int32)), .ref el, .int 6])), (el, .inl (cy 2, 10, .inr (.inr (.inr (.inr g))))), (pp, .inr (17, fp))] := hD
  refine lv_aload_n hx hb dJx4a65c_add_9ea2d_10 rfl (lv_at hl 0 rfl) ?_
  refine lv_aload_n hx hb dJx4a65c_add_9ea2d_11 rfl (lv_at hl 1 rfl) ?_
  refine lv_aload_n hx hb dJx4a65c_add_9ea2d_12 rfl (lv_at hl 0 rfl) ?_
  refine va_get (D := D) (ci := 4) (v := .ref el) (C := RJx4a65c) (T := TJx4a65c) (N := 3) hx hb hts (fun w h => zx_Gc (uz_Jx4a65c w h)) hown hK hP 0 rfl rfl 1 (by decide) (hts (.fieldLink RJx4a65c 9 "java/util/ArrayList" "elementData" "[Ljava/lang/Object;") (zx_Gc mm_213)) (fun _ h9 => h9) rfl dJx4a65c_add_9ea2d_13 ?_
  refine lv_aload_n hx hb dJx4a65c_add_9ea2d_16 rfl (lv_at hl 0 rfl) ?_
  refine va_get (D := D) (ci := 4) (v := .int 6) (C := RJx4a65c) (T := TJx4a65c) (N := 3) hx hb hts (fun w h => zx_Gc (uz_Jx4a65c w h)) hown hK hP 0 rfl rfl 2 (by decide) (hts (.fieldLink RJx4a65c 48 "java/util/ArrayList" "size" "I") (zx_Gc mm_216)) (fun _ h9 => h9) rfl dJx4a65c_add_9ea2d_17 ?_
  have hPc := hP.sub (ws' := [(pa, .inr (4, [.int (mc + (1 : Int32)), .ref el, .int 6])), (el, .inl (cy 2, 10, .inr (.inr (.inr (.inr g))))), (pp, .inr (17, fp))]) [0, 1, 2] rfl
  have hDc := hD.sub (ws' := [(pa, .inr (4, [.int (mc + (1 : Int32)), .ref el, .int 6])), (el, .inl (cy 2, 10, .inr (.inr (.inr (.inr g))))), (pp, .inr (17, fp))]) [0, 1, 2] (by decide) rfl
  have hFc := va_free (wc := [(pa, .inr (4, [.int (mc + (1 : Int32)), .ref el, .int 6])), (el, .inl (cy 2, 10, .inr (.inr (.inr (.inr g))))), (pp, .inr (17, fp))]) hD hS hA [0, 1, 2] rfl
  refine va_callv (va_runV (As := [.ref pp, .ref el, .int 6]) (rest := []) ⟨hx, hb, hml, hown, hts⟩ (c_AL_add3_X12_6 l hst D cy ed H.size pa el (mc + (1 : Int32)) g pp fp) (cwV 3 hts (zx_GV mm_776 mm_778 mm_5 mm_77 mm_779) rfl rfl rfl (by decide +kernel) ⟨(Nat.le_of_ble_eq_true rfl), (Nat.le_of_ble_eq_true rfl)⟩) ⟨zx_blind, va_recv hK hPc (ci := 4) (q0 := 0) rfl rfl, zx_give hPc hK hDc hS hFc hZ hN⟩ rfl rfl hl.1 rfl (lv_room (Nat.le_of_ble_eq_true rfl)) dJx4a65c_add_9ea2d_20 ⟨(Nat.le_of_ble_eq_true rfl), (Nat.le_of_ble_eq_true rfl)⟩) hS (fun q _ h => hFc q h) hFc (fun u t H1 locs ht hvm hw hB hz1 hk1 hS => ?_)
  obtain ⟨qx_318, g2_319⟩ := u
  have h_320 := hw
  obtain ⟨hP, hD⟩ := zx_join (wr := []) (w1 := [(pa, .inr (4, [.int (mc + (1 : Int32)), .ref qx_318, .int 7])), (qx_318, .inl (cy 2, 10, .inr (.inr (.inr (.inr g2_319))))), (pp, .inr (17, fp))]) [0, 1, 2] [] rfl rfl (by decide) (by decide) hP hD hk1 hFc hB ht
  generalize H1 = H at hP hS ⊢
  have hP : va_P D vwCl [(pa, .inr (4, [.int (mc + (1 : Int32)), .ref qx_318, .int 7])), (qx_318, .inl (cy 2, 10, .inr (.inr (.inr (.inr g2_319))))), (pp, .inr (17, fp))] H := hP
  have hD : va_D A [(pa, .inr (4, [.int (mc + (1 : Int32)), .ref qx_318, .int 7])), (qx_318, .inl (cy 2, 10, .inr (.inr (.inr (.inr g2_319))))), (pp, .inr (17, fp))] := hD
  refine W.widen (k := 0) (n := 0) (Nat.le_of_ble_eq_true rfl) (Nat.le_of_ble_eq_true rfl) ?_
  obtain ⟨hs_321, hs_322⟩ := h_320
  refine lv_iconst (v := 1) hx hb dJx4a65c_add_9ea2d_23 (by decide) ?_
  have hP9 := hP.sub (ws' := [(pa, .inr (4, [.int (mc + (1 : Int32)), .ref qx_318, .int 7])), (qx_318, .inl (cy 2, 10, .inr (.inr (.inr (.inr g2_319))))), (pp, .inr (17, fp))]) [0, 1, 2] rfl
  have hD9 := hD.sub (ws' := [(pa, .inr (4, [.int (mc + (1 : Int32)), .ref qx_318, .int 7])), (qx_318, .inl (cy 2, 10, .inr (.inr (.inr (.inr g2_319))))), (pp, .inr (17, fp))]) [0, 1, 2] (by decide) rfl
  exact W.zret (v := 1) hx hb hr rfl (fun t ht hW => ⟨⟨1, ⟨(mc + (1 : Int32)), qx_318, g2_319⟩, rfl, ⟨rfl, ⟨hs_321, hs_322⟩⟩, zx_fin hP9 hD9 hK ht hW⟩, hS.F ht⟩) hS.2.2 dJx4a65c_add_9ea2d_24
set_option maxHeartbeats 4000000 in
set_option maxRecDepth 100000 in
theorem c_AL_add3_X12_7 (l : Launch) (hst : l.stackTraces = false) (D : va_G) (cy : Nat → ClassId) (ed sz : Nat) (pa : Nat) (el : Nat) (mc : Int32) (g : Nat → Option Nat) (pp : Nat) (fp : List Value) : Met l yJx4a65c_add_72be8 wzJx4a65c_add_72be8 ({ frames := 0, cells := 0, slots := 0, locals := 0 }) (zx_Pc D cy ed sz [.ref pa, .ref pp, .ref el, .int 7] [(pa, .inr (4, [.int mc, .ref el, .int 7])), (el, .inl (cy 2, 10, .inr (.inr (.inr (.inr g))))), (pp, .inr (17, fp))]) (va_Qv (fun (u9 : Nat × (Nat → Option Nat)) => match u9 with | (qx, g2) => g2 7 = some pp ∧ ∀ j, j < 7 → g2 j = g j) (fun (u9 : Nat × (Nat → Option Nat)) (t9 : State) => match u9 with | (qx, g2) => zx_At D cy (va_A [(pa, .inr (4, [.int mc, .ref el, .int 7])), (el, .inl (cy 2, 10, .inr (.inr (.inr (.inr g))))), (pp, .inr (17, fp))] sz) [(pa, .inr (4, [.int mc, .ref qx, .int 8])), (qx, .inl (cy 2, 10, .inr (.inr (.inr (.inr g2))))), (pp, .inr (17, fp))] t9) (va_A [(pa, .inr (4, [.int mc, .ref el, .int 7])), (el, .inl (cy 2, 10, .inr (.inr (.inr (.inr g))))), (pp, .inr (17, fp))] sz)) 0 0 (va_A [(pa, .inr (4, [.int mc, .ref el, .int 7])), (el, .inl (cy 2, 10, .inr (.inr (.inr (.inr g))))), (pp, .inr (17, fp))] sz) := by
  refine Met.ofW (cc := cJx4a65c_add_72be8) (maxL := 4) (ret := none) (by decide) rfl ?_
  intro p e s m args below meth c s₁ B hml hv
  obtain ⟨rfl, hsz, hP, hK, hD0, hZ, hN⟩ := hv
  have hx := B.exec
  have hb := B.bytes
  have hr := B.returns
  have hts := atoms_spec (ws := wzJx4a65c_add_72be8) B.pre
  have hown : s.vm.findClass RJx4a65c = some m.cls := findClass_of_methodNamed B.named
  have hlocks := B.notSynchronized
  subst hsz
  have hD := hD0.self (sz := s.heap.size)
  generalize hAe : va_A [(pa, .inr (4, [.int mc, .ref el, .int 7])), (el, .inl (cy 2, 10, .inr (.inr (.inr (.inr g))))), (pp, .inr (17, fp))] s.heap.size = A at hD hZ ⊢
  have hA : ∀ q : Nat, s.heap.size ≤ q → A q := fun q h => by rw [← hAe]; exact Or.inr h
  have hS : va_S A s.heap s.heap [] := va_S.rf
  have hP : va_P D vwCl [(pa, .inr (4, [.int mc, .ref el, .int 7])), (el, .inl (cy 2, 10, .inr (.inr (.inr (.inr g))))), (pp, .inr (17, fp))] s.heap := hP
  have hl := lv_entry ([.ref pa, .ref pp, .ref el, .int 7]) (n := 4) (Nat.le_of_ble_eq_true rfl)
  rw [lg_entry_eq]
  generalize (lg_sl ([.ref pa, .ref pp, .ref el, .int 7]) ++ List.replicate (4 - (lg_sl ([.ref pa, .ref pp, .ref el, .int 7])).length) Slot.unset).toArray = ls at hl ⊢
  have hl : lv_has ls 4 [(0, .ref pa), (1, .ref pp), (2, .ref el), (3, .int 7)] := hl
  refine lv_iload_n hx hb dJx4a65c_add_72be8_0 rfl (lv_at hl 3 rfl) ?_
  refine lv_aload_n hx hb dJx4a65c_add_72be8_1 rfl (lv_at hl 2 rfl) ?_
  refine va_alen (v := 10) hx hb hK hP 1 2 rfl rfl (show Int32.ofNat 10 = 10 from by decide) dJx4a65c_add_72be8_2 ?_
  refine lv_icmp_ne (tgt := 11) hx hb dJx4a65c_add_72be8_3 (by decide) (fun _ => ?_) (fun c_323 => absurd c_323 (by decide))
  refine lv_aload_n hx hb dJx4a65c_add_72be8_11 rfl (lv_at hl 2 rfl) ?_
  refine lv_iload_n hx hb dJx4a65c_add_72be8_12 rfl (lv_at hl 3 rfl) ?_
  refine lv_aload_n hx hb dJx4a65c_add_72be8_13 rfl (lv_at hl 1 rfl) ?_
  refine va_astqO (E := "java/lang/Object") hx hb hK hP hD hS 1 2 2 17 rfl rfl (hN.2.2.1 _ _ (List.mem_of_getElem? (i := 2467) (by decide +kernel))) rfl rfl (zx_bn (by decide)) dJx4a65c_add_72be8_14 (fun H locs hP hD hS => ?_)
  have hP : va_P D vwCl [(pa, .inr (4, [.int mc, .ref el, .int 7])), (el, .inl (cy 2, 10, .inr (.inr (.inr (.inr (va_up g (7 : Int32).toNatClampNeg (some pp))))))), (pp, .inr (17, fp))] H := hP
  have hD : va_D A [(pa, .inr (4, [.int mc, .ref el, .int 7])), (el, .inl (cy 2, 10, .inr (.inr (.inr (.inr (va_up g (7 : Int32).toNatClampNeg (some pp))))))), (pp, .inr (17, fp))] := hD
  refine lv_aload_n hx hb dJx4a65c_add_72be8_15 rfl (lv_at hl 0 rfl) ?_
  refine lv_iload_n hx hb dJx4a65c_add_72be8_16 rfl (lv_at hl 3 rfl) ?_
  refine lv_iconst (v := 1) hx hb dJx4a65c_add_72be8_17 (by decide) ?_
  refine lv_iadd hx hb dJx4a65c_add_72be8_18 ?_
  refine lv_topi (fun y9 ey9 => ?_)
  obtain rfl : y9 = 8 := by rw [ey9] <;> decide
  refine va_put (D := D) (ci := 4) (v := .int 8) (ty := .int) (C := RJx4a65c) (T := TJx4a65c) (N := 3) hx hb hts (fun w h => zx_Gc (uz_Jx4a65c w h)) tyJx4a65c tyJx4a65c_ok nmJx4a65c hown hK hP hD hS 0 rfl rfl 2 (by decide) (hts (.fieldLink RJx4a65c 48 "java/util/ArrayList" "size" "I") (zx_Gc mm_216)) (fun _ h9 => h9) rfl (by decide +kernel) rfl rfl (Nat.le_of_ble_eq_true rfl) dJx4a65c_add_72be8_19 (fun H locs hP hD hS => ?_)
  have hP : va_P D vwCl [(pa, .inr (4, [.int mc, .ref el, .int 8])), (el, .inl (cy 2, 10, .inr (.inr (.inr (.inr (va_up g (7 : Int32).toNatClampNeg (some pp))))))), (pp, .inr (17, fp))] H := hP
  have hD : va_D A [(pa, .inr (4, [.int mc, .ref el, .int 8])), (el, .inl (cy 2, 10, .inr (.inr (.inr (.inr (va_up g (7 : Int32).toNatClampNeg (some pp))))))), (pp, .inr (17, fp))] := hD
  have hP9 := hP.sub (ws' := [(pa, .inr (4, [.int mc, .ref el, .int 8])), (el, .inl (cy 2, 10, .inr (.inr (.inr (.inr (va_up g (7 : Int32).toNatClampNeg (some pp))))))), (pp, .inr (17, fp))]) [0, 1, 2] rfl
  have hD9 := hD.sub (ws' := [(pa, .inr (4, [.int mc, .ref el, .int 8])), (el, .inl (cy 2, 10, .inr (.inr (.inr (.inr (va_up g (7 : Int32).toNatClampNeg (some pp))))))), (pp, .inr (17, fp))]) [0, 1, 2] (by decide) rfl
  exact W.vret hx hb hr (fun t ht hW => ⟨⟨⟨el, (va_up g (7 : Int32).toNatClampNeg (some pp))⟩, rfl, ⟨zx_up_at _ (by decide), fun j9 hj9 => zx_up_ne _ (by show j9 ≠ 7; omega)⟩, zx_fin hP9 hD9 hK ht hW⟩, hS.F ht⟩) hS.2.2 dJx4a65c_add_72be8_22
set_option maxHeartbeats 4000000 in
set_option maxRecDepth 100000 in
theorem c_AL_add1_X12_7 (l : Launch) (hst : l.stackTraces = false) (D : va_G) (cy : Nat → ClassId) (ed sz : Nat) (pa : Nat) (el : Nat) (mc : Int32) (g : Nat → Option Nat) (pp : Nat) (fp : List Value) : Met l yJx4a65c_add_9ea2d wzJx4a65c_add_9ea2d ({ frames := 1, cells := 0, slots := 0, locals := 23 }) (zx_Pc D cy ed sz [.ref pa, .ref pp] [(pa, .inr (4, [.int mc, .ref el, .int 7])), (el, .inl (cy 2, 10, .inr (.inr (.inr (.inr g))))), (pp, .inr (17, fp))]) (va_Qi (fun (r9 : Int32) (u9 : Int32 × Nat × (Nat → Option Nat)) => match u9 with | (mx, qx, g2) => r9 = 1 ∧ g2 7 = some pp ∧ ∀ j, j < 7 → g2 j = g j) (fun (u9 : Int32 × Nat × (Nat → Option Nat)) (t9 : State) => match u9 with | (mx, qx, g2) => zx_At D cy (va_A [(pa, .inr (4, [.int mc, .ref el, .int 7])), (el, .inl (cy 2, 10, .inr (.inr (.inr (.inr g))))), (pp, .inr (17, fp))] sz) [(pa, .inr (4, [.int mx, .ref qx, .int 8])), (qx, .inl (cy 2, 10, .inr (.inr (.inr (.inr g2))))), (pp, .inr (17, fp))] t9) (va_A [(pa, .inr (4, [.int mc, .ref el, .int 7])), (el, .inl (cy 2, 10, .inr (.inr (.inr (.inr g))))), (pp, .inr (17, fp))] sz)) 0 0 (va_A [(pa, .inr (4, [.int mc, .ref el, .int 7])), (el, .inl (cy 2, 10, .inr (.inr (.inr (.inr g))))), (pp, .inr (17, fp))] sz) := by
  refine Met.ofW (cc := cJx4a65c_add_9ea2d) (maxL := 2) (ret := (some .boolean)) (by decide) rfl ?_
  intro p e s m args below meth c s₁ B hml hv
  obtain ⟨rfl, hsz, hP, hK, hD0, hZ, hN⟩ := hv
  have hx := B.exec
  have hb := B.bytes
  have hr := B.returns
  have hts := atoms_spec (ws := wzJx4a65c_add_9ea2d) B.pre
  have hown : s.vm.findClass RJx4a65c = some m.cls := findClass_of_methodNamed B.named
  have hlocks := B.notSynchronized
  subst hsz
  have hD := hD0.self (sz := s.heap.size)
  generalize hAe : va_A [(pa, .inr (4, [.int mc, .ref el, .int 7])), (el, .inl (cy 2, 10, .inr (.inr (.inr (.inr g))))), (pp, .inr (17, fp))] s.heap.size = A at hD hZ ⊢
  have hA : ∀ q : Nat, s.heap.size ≤ q → A q := fun q h => by rw [← hAe]; exact Or.inr h
  have hS : va_S A s.heap s.heap [] := va_S.rf
  have hP : va_P D vwCl [(pa, .inr (4, [.int mc, .ref el, .int 7])), (el, .inl (cy 2, 10, .inr (.inr (.inr (.inr g))))), (pp, .inr (17, fp))] s.heap := hP
  have hl := lv_entry ([.ref pa, .ref pp]) (n := 2) (Nat.le_of_ble_eq_true rfl)
  rw [lg_entry_eq]
  generalize (lg_sl ([.ref pa, .ref pp]) ++ List.replicate (2 - (lg_sl ([.ref pa, .ref pp])).length) Slot.unset).toArray = ls at hl ⊢
  have hl : lv_has ls 2 [(0, .ref pa), (1, .ref pp)] := hl
  refine lv_aload_n hx hb dJx4a65c_add_9ea2d_0 rfl (lv_at hl 0 rfl) ?_
  refine lv_dup hx hb dJx4a65c_add_9ea2d_1 rfl ?_
  refine va_get (D := D) (ci := 4) (v := .int mc) (C := RJx4a65c) (T := TJx4a65c) (N := 3) hx hb hts (fun w h => zx_Gc (uz_Jx4a65c w h)) hown hK hP 0 rfl rfl 0 (by decide) (hts (.fieldLink RJx4a65c 63 "java/util/ArrayList" "modCount" "I") (zx_Gc mm_220)) (fun x9 h9 => u_same (hts (.sameField "java/util/ArrayList" "java/util/AbstractList" "modCount" "I") (zx_Gc mm_219)) x9 h9) rfl dJx4a65c_add_9ea2d_2 ?_
  refine lv_iconst (v := 1) hx hb dJx4a65c_add_9ea2d_5 (by decide) ?_
  refine lv_iadd hx hb dJx4a65c_add_9ea2d_6 ?_
  refine va_put (D := D) (ci := 4) (v := .int (mc + (1 : Int32))) (ty := .int) (C := RJx4a65c) (T := TJx4a65c) (N := 3) hx hb hts (fun w h => zx_Gc (uz_Jx4a65c w h)) tyJx4a65c tyJx4a65c_ok nmJx4a65c hown hK hP hD hS 0 rfl rfl 0 (by decide) (hts (.fieldLink RJx4a65c 63 "java/util/ArrayList" "modCount" "I") (zx_Gc mm_220)) (fun x9 h9 => u_same (hts (.sameField "java/util/ArrayList" "java/util/AbstractList" "modCount" "I") (zx_Gc mm_219)) x9 h9) rfl (by decide +kernel) rfl rfl (Nat.le_of_ble_eq_true rfl) dJx4a65c_add_9ea2d_7 (fun H locs hP hD hS => ?_)
  have hP : va_P D vwCl [(pa, .inr (4, [.int (mc + (1 : Int32)), .ref el, .int 7])), (el, .inl (cy 2, 10, .inr (.inr (.inr (.inr g))))), (pp, .inr (17, fp))] H := hP
  have hD : va_D A [(pa, .inr (4, [.int (mc + (1 : Int32)), .ref el, .int 7])), (el, .inl (cy 2, 10, .inr (.inr (.inr (.inr g))))), (pp, .inr (17, fp))] := hD
  refine lv_aload_n hx hb dJx4a65c_add_9ea2d_10 rfl (lv_at hl 0 rfl) ?_
  refine lv_aload_n hx hb dJx4a65c_add_9ea2d_11 rfl (lv_at hl 1 rfl) ?_
  refine lv_aload_n hx hb dJx4a65c_add_9ea2d_12 rfl (lv_at hl 0 rfl) ?_
  refine va_get (D := D) (ci := 4) (v := .ref el) (C := RJx4a65c) (T := TJx4a65c) (N := 3) hx hb hts (fun w h => zx_Gc (uz_Jx4a65c w h)) hown hK hP 0 rfl rfl 1 (by decide) (hts (.fieldLink RJx4a65c 9 "java/util/ArrayList" "elementData" "[Ljava/lang/Object;") (zx_Gc mm_213)) (fun _ h9 => h9) rfl dJx4a65c_add_9ea2d_13 ?_
  refine lv_aload_n hx hb dJx4a65c_add_9ea2d_16 rfl (lv_at hl 0 rfl) ?_
  refine va_get (D := D) (ci := 4) (v := .int 7) (C := RJx4a65c) (T := TJx4a65c) (N := 3) hx hb hts (fun w h => zx_Gc (uz_Jx4a65c w h)) hown hK hP 0 rfl rfl 2 (by decide) (hts (.fieldLink RJx4a65c 48 "java/util/ArrayList" "size" "I") (zx_Gc mm_216)) (fun _ h9 => h9) rfl dJx4a65c_add_9ea2d_17 ?_
  have hPc := hP.sub (ws' := [(pa, .inr (4, [.int (mc + (1 : Int32)), .ref el, .int 7])), (el, .inl (cy 2, 10, .inr (.inr (.inr (.inr g))))), (pp, .inr (17, fp))]) [0, 1, 2] rfl
  have hDc := hD.sub (ws' := [(pa, .inr (4, [.int (mc + (1 : Int32)), .ref el, .int 7])), (el, .inl (cy 2, 10, .inr (.inr (.inr (.inr g))))), (pp, .inr (17, fp))]) [0, 1, 2] (by decide) rfl
  have hFc := va_free (wc := [(pa, .inr (4, [.int (mc + (1 : Int32)), .ref el, .int 7])), (el, .inl (cy 2, 10, .inr (.inr (.inr (.inr g))))), (pp, .inr (17, fp))]) hD hS hA [0, 1, 2] rfl
  refine va_callv (va_runV (As := [.ref pp, .ref el, .int 7]) (rest := []) ⟨hx, hb, hml, hown, hts⟩ (c_AL_add3_X12_7 l hst D cy ed H.size pa el (mc + (1 : Int32)) g pp fp) (cwV 3 hts (zx_GV mm_776 mm_778 mm_5 mm_77 mm_779) rfl rfl rfl (by decide +kernel) ⟨(Nat.le_of_ble_eq_true rfl), (Nat.le_of_ble_eq_true rfl)⟩) ⟨zx_blind, va_recv hK hPc (ci := 4) (q0 := 0) rfl rfl, zx_give hPc hK hDc hS hFc hZ hN⟩ rfl rfl hl.1 rfl (lv_room (Nat.le_of_ble_eq_true rfl)) dJx4a65c_add_9ea2d_20 ⟨(Nat.le_of_ble_eq_true rfl), (Nat.le_of_ble_eq_true rfl)⟩) hS (fun q _ h => hFc q h) hFc (fun u t H1 locs ht hvm hw hB hz1 hk1 hS => ?_)
  obtain ⟨qx_324, g2_325⟩ := u
  have h_326 := hw
  obtain ⟨hP, hD⟩ := zx_join (wr := []) (w1 := [(pa, .inr (4, [.int (mc + (1 : Int32)), .ref qx_324, .int 8])), (qx_324, .inl (cy 2, 10, .inr (.inr (.inr (.inr g2_325))))), (pp, .inr (17, fp))]) [0, 1, 2] [] rfl rfl (by decide) (by decide) hP hD hk1 hFc hB ht
  generalize H1 = H at hP hS ⊢
  have hP : va_P D vwCl [(pa, .inr (4, [.int (mc + (1 : Int32)), .ref qx_324, .int 8])), (qx_324, .inl (cy 2, 10, .inr (.inr (.inr (.inr g2_325))))), (pp, .inr (17, fp))] H := hP
  have hD : va_D A [(pa, .inr (4, [.int (mc + (1 : Int32)), .ref qx_324, .int 8])), (qx_324, .inl (cy 2, 10, .inr (.inr (.inr (.inr g2_325))))), (pp, .inr (17, fp))] := hD
  refine W.widen (k := 0) (n := 0) (Nat.le_of_ble_eq_true rfl) (Nat.le_of_ble_eq_true rfl) ?_
  obtain ⟨hs_327, hs_328⟩ := h_326
  refine lv_iconst (v := 1) hx hb dJx4a65c_add_9ea2d_23 (by decide) ?_
  have hP9 := hP.sub (ws' := [(pa, .inr (4, [.int (mc + (1 : Int32)), .ref qx_324, .int 8])), (qx_324, .inl (cy 2, 10, .inr (.inr (.inr (.inr g2_325))))), (pp, .inr (17, fp))]) [0, 1, 2] rfl
  have hD9 := hD.sub (ws' := [(pa, .inr (4, [.int (mc + (1 : Int32)), .ref qx_324, .int 8])), (qx_324, .inl (cy 2, 10, .inr (.inr (.inr (.inr g2_325))))), (pp, .inr (17, fp))]) [0, 1, 2] (by decide) rfl
  exact W.zret (v := 1) hx hb hr rfl (fun t ht hW => ⟨⟨1, ⟨(mc + (1 : Int32)), qx_324, g2_325⟩, rfl, ⟨rfl, ⟨hs_327, hs_328⟩⟩, zx_fin hP9 hD9 hK ht hW⟩, hS.F ht⟩) hS.2.2 dJx4a65c_add_9ea2d_24
set_option maxHeartbeats 4000000 in
set_option maxRecDepth 100000 in
theorem c_AL_add3_X12_8 (l : Launch) (hst : l.stackTraces = false) (D : va_G) (cy : Nat → ClassId) (ed sz : Nat) (pa : Nat) (el : Nat) (mc : Int32) (g : Nat → Option Nat) (pp : Nat) (fp : List Value) : Met l yJx4a65c_add_72be8 wzJx4a65c_add_72be8 ({ frames := 0, cells := 0, slots := 0, locals := 0 }) (zx_Pc D cy ed sz [.ref pa, .ref pp, .ref el, .int 8] [(pa, .inr (4, [.int mc, .ref el, .int 8])), (el, .inl (cy 2, 10, .inr (.inr (.inr (.inr g))))), (pp, .inr (17, fp))]) (va_Qv (fun (u9 : Nat × (Nat → Option Nat)) => match u9 with | (qx, g2) => g2 8 = some pp ∧ ∀ j, j < 8 → g2 j = g j) (fun (u9 : Nat × (Nat → Option Nat)) (t9 : State) => match u9 with | (qx, g2) => zx_At D cy (va_A [(pa, .inr (4, [.int mc, .ref el, .int 8])), (el, .inl (cy 2, 10, .inr (.inr (.inr (.inr g))))), (pp, .inr (17, fp))] sz) [(pa, .inr (4, [.int mc, .ref qx, .int 9])), (qx, .inl (cy 2, 10, .inr (.inr (.inr (.inr g2))))), (pp, .inr (17, fp))] t9) (va_A [(pa, .inr (4, [.int mc, .ref el, .int 8])), (el, .inl (cy 2, 10, .inr (.inr (.inr (.inr g))))), (pp, .inr (17, fp))] sz)) 0 0 (va_A [(pa, .inr (4, [.int mc, .ref el, .int 8])), (el, .inl (cy 2, 10, .inr (.inr (.inr (.inr g))))), (pp, .inr (17, fp))] sz) := by
  refine Met.ofW (cc := cJx4a65c_add_72be8) (maxL := 4) (ret := none) (by decide) rfl ?_
  intro p e s m args below meth c s₁ B hml hv
  obtain ⟨rfl, hsz, hP, hK, hD0, hZ, hN⟩ := hv
  have hx := B.exec
  have hb := B.bytes
  have hr := B.returns
  have hts := atoms_spec (ws := wzJx4a65c_add_72be8) B.pre
  have hown : s.vm.findClass RJx4a65c = some m.cls := findClass_of_methodNamed B.named
  have hlocks := B.notSynchronized
  subst hsz
  have hD := hD0.self (sz := s.heap.size)
  generalize hAe : va_A [(pa, .inr (4, [.int mc, .ref el, .int 8])), (el, .inl (cy 2, 10, .inr (.inr (.inr (.inr g))))), (pp, .inr (17, fp))] s.heap.size = A at hD hZ ⊢
  have hA : ∀ q : Nat, s.heap.size ≤ q → A q := fun q h => by rw [← hAe]; exact Or.inr h
  have hS : va_S A s.heap s.heap [] := va_S.rf
  have hP : va_P D vwCl [(pa, .inr (4, [.int mc, .ref el, .int 8])), (el, .inl (cy 2, 10, .inr (.inr (.inr (.inr g))))), (pp, .inr (17, fp))] s.heap := hP
  have hl := lv_entry ([.ref pa, .ref pp, .ref el, .int 8]) (n := 4) (Nat.le_of_ble_eq_true rfl)
  rw [lg_entry_eq]
  generalize (lg_sl ([.ref pa, .ref pp, .ref el, .int 8]) ++ List.replicate (4 - (lg_sl ([.ref pa, .ref pp, .ref el, .int 8])).length) Slot.unset).toArray = ls at hl ⊢
  have hl : lv_has ls 4 [(0, .ref pa), (1, .ref pp), (2, .ref el), (3, .int 8)] := hl
  refine lv_iload_n hx hb dJx4a65c_add_72be8_0 rfl (lv_at hl 3 rfl) ?_
  refine lv_aload_n hx hb dJx4a65c_add_72be8_1 rfl (lv_at hl 2 rfl) ?_
  refine va_alen (v := 10) hx hb hK hP 1 2 rfl rfl (show Int32.ofNat 10 = 10 from by decide) dJx4a65c_add_72be8_2 ?_
  refine lv_icmp_ne (tgt := 11) hx hb dJx4a65c_add_72be8_3 (by decide) (fun _ => ?_) (fun c_329 => absurd c_329 (by decide))
  refine lv_aload_n hx hb dJx4a65c_add_72be8_11 rfl (lv_at hl 2 rfl) ?_
  refine lv_iload_n hx hb dJx4a65c_add_72be8_12 rfl (lv_at hl 3 rfl) ?_
  refine lv_aload_n hx hb dJx4a65c_add_72be8_13 rfl (lv_at hl 1 rfl) ?_
  refine va_astqO (E := "java/lang/Object") hx hb hK hP hD hS 1 2 2 17 rfl rfl (hN.2.2.1 _ _ (List.mem_of_getElem? (i := 2467) (by decide +kernel))) rfl rfl (zx_bn (by decide)) dJx4a65c_add_72be8_14 (fun H locs hP hD hS => ?_)
  have hP : va_P D vwCl [(pa, .inr (4, [.int mc, .ref el, .int 8])), (el, .inl (cy 2, 10, .inr (.inr (.inr (.inr (va_up g (8 : Int32).toNatClampNeg (some pp))))))), (pp, .inr (17, fp))] H := hP
  have hD : va_D A [(pa, .inr (4, [.int mc, .ref el, .int 8])), (el, .inl (cy 2, 10, .inr (.inr (.inr (.inr (va_up g (8 : Int32).toNatClampNeg (some pp))))))), (pp, .inr (17, fp))] := hD
  refine lv_aload_n hx hb dJx4a65c_add_72be8_15 rfl (lv_at hl 0 rfl) ?_
  refine lv_iload_n hx hb dJx4a65c_add_72be8_16 rfl (lv_at hl 3 rfl) ?_
  refine lv_iconst (v := 1) hx hb dJx4a65c_add_72be8_17 (by decide) ?_
  refine lv_iadd hx hb dJx4a65c_add_72be8_18 ?_
  refine lv_topi (fun y9 ey9 => ?_)
  obtain rfl : y9 = 9 := by rw [ey9] <;> decide
  refine va_put (D := D) (ci := 4) (v := .int 9) (ty := .int) (C := RJx4a65c) (T := TJx4a65c) (N := 3) hx hb hts (fun w h => zx_Gc (uz_Jx4a65c w h)) tyJx4a65c tyJx4a65c_ok nmJx4a65c hown hK hP hD hS 0 rfl rfl 2 (by decide) (hts (.fieldLink RJx4a65c 48 "java/util/ArrayList" "size" "I") (zx_Gc mm_216)) (fun _ h9 => h9) rfl (by decide +kernel) rfl rfl (Nat.le_of_ble_eq_true rfl) dJx4a65c_add_72be8_19 (fun H locs hP hD hS => ?_)
  have hP : va_P D vwCl [(pa, .inr (4, [.int mc, .ref el, .int 9])), (el, .inl (cy 2, 10, .inr (.inr (.inr (.inr (va_up g (8 : Int32).toNatClampNeg (some pp))))))), (pp, .inr (17, fp))] H := hP
  have hD : va_D A [(pa, .inr (4, [.int mc, .ref el, .int 9])), (el, .inl (cy 2, 10, .inr (.inr (.inr (.inr (va_up g (8 : Int32).toNatClampNeg (some pp))))))), (pp, .inr (17, fp))] := hD
  have hP9 := hP.sub (ws' := [(pa, .inr (4, [.int mc, .ref el, .int 9])), (el, .inl (cy 2, 10, .inr (.inr (.inr (.inr (va_up g (8 : Int32).toNatClampNeg (some pp))))))), (pp, .inr (17, fp))]) [0, 1, 2] rfl
  have hD9 := hD.sub (ws' := [(pa, .inr (4, [.int mc, .ref el, .int 9])), (el, .inl (cy 2, 10, .inr (.inr (.inr (.inr (va_up g (8 : Int32).toNatClampNeg (some pp))))))), (pp, .inr (17, fp))]) [0, 1, 2] (by decide) rfl
  exact W.vret hx hb hr (fun t ht hW => ⟨⟨⟨el, (va_up g (8 : Int32).toNatClampNeg (some pp))⟩, rfl, ⟨zx_up_at _ (by decide), fun j9 hj9 => zx_up_ne _ (by show j9 ≠ 8; omega)⟩, zx_fin hP9 hD9 hK ht hW⟩, hS.F ht⟩) hS.2.2 dJx4a65c_add_72be8_22
set_option maxHeartbeats 4000000 in
set_option maxRecDepth 100000 in
theorem c_AL_add1_X12_8 (l : Launch) (hst : l.stackTraces = false) (D : va_G) (cy : Nat → ClassId) (ed sz : Nat) (pa : Nat) (el : Nat) (mc : Int32) (g : Nat → Option Nat) (pp : Nat) (fp : List Value) : Met l yJx4a65c_add_9ea2d wzJx4a65c_add_9ea2d ({ frames := 1, cells := 0, slots := 0, locals := 23 }) (zx_Pc D cy ed sz [.ref pa, .ref pp] [(pa, .inr (4, [.int mc, .ref el, .int 8])), (el, .inl (cy 2, 10, .inr (.inr (.inr (.inr g))))), (pp, .inr (17, fp))]) (va_Qi (fun (r9 : Int32) (u9 : Int32 × Nat × (Nat → Option Nat)) => match u9 with | (mx, qx, g2) => r9 = 1 ∧ g2 8 = some pp ∧ ∀ j, j < 8 → g2 j = g j) (fun (u9 : Int32 × Nat × (Nat → Option Nat)) (t9 : State) => match u9 with | (mx, qx, g2) => zx_At D cy (va_A [(pa, .inr (4, [.int mc, .ref el, .int 8])), (el, .inl (cy 2, 10, .inr (.inr (.inr (.inr g))))), (pp, .inr (17, fp))] sz) [(pa, .inr (4, [.int mx, .ref qx, .int 9])), (qx, .inl (cy 2, 10, .inr (.inr (.inr (.inr g2))))), (pp, .inr (17, fp))] t9) (va_A [(pa, .inr (4, [.int mc, .ref el, .int 8])), (el, .inl (cy 2, 10, .inr (.inr (.inr (.inr g))))), (pp, .inr (17, fp))] sz)) 0 0 (va_A [(pa, .inr (4, [.int mc, .ref el, .int 8])), (el, .inl (cy 2, 10, .inr (.inr (.inr (.inr g))))), (pp, .inr (17, fp))] sz) := by
  refine Met.ofW (cc := cJx4a65c_add_9ea2d) (maxL := 2) (ret := (some .boolean)) (by decide) rfl ?_
  intro p e s m args below meth c s₁ B hml hv
  obtain ⟨rfl, hsz, hP, hK, hD0, hZ, hN⟩ := hv
  have hx := B.exec
  have hb := B.bytes
  have hr := B.returns
  have hts := atoms_spec (ws := wzJx4a65c_add_9ea2d) B.pre
  have hown : s.vm.findClass RJx4a65c = some m.cls := findClass_of_methodNamed B.named
  have hlocks := B.notSynchronized
  subst hsz
  have hD := hD0.self (sz := s.heap.size)
  generalize hAe : va_A [(pa, .inr (4, [.int mc, .ref el, .int 8])), (el, .inl (cy 2, 10, .inr (.inr (.inr (.inr g))))), (pp, .inr (17, fp))] s.heap.size = A at hD hZ ⊢
  have hA : ∀ q : Nat, s.heap.size ≤ q → A q := fun q h => by rw [← hAe]; exact Or.inr h
  have hS : va_S A s.heap s.heap [] := va_S.rf
  have hP : va_P D vwCl [(pa, .inr (4, [.int mc, .ref el, .int 8])), (el, .inl (cy 2, 10, .inr (.inr (.inr (.inr g))))), (pp, .inr (17, fp))] s.heap := hP
  have hl := lv_entry ([.ref pa, .ref pp]) (n := 2) (Nat.le_of_ble_eq_true rfl)
  rw [lg_entry_eq]
  generalize (lg_sl ([.ref pa, .ref pp]) ++ List.replicate (2 - (lg_sl ([.ref pa, .ref pp])).length) Slot.unset).toArray = ls at hl ⊢
  have hl : lv_has ls 2 [(0, .ref pa), (1, .ref pp)] := hl
  refine lv_aload_n hx hb dJx4a65c_add_9ea2d_0 rfl (lv_at hl 0 rfl) ?_
  refine lv_dup hx hb dJx4a65c_add_9ea2d_1 rfl ?_
  refine va_get (D := D) (ci := 4) (v := .int mc) (C := RJx4a65c) (T := TJx4a65c) (N := 3) hx hb hts (fun w h => zx_Gc (uz_Jx4a65c w h)) hown hK hP 0 rfl rfl 0 (by decide) (hts (.fieldLink RJx4a65c 63 "java/util/ArrayList" "modCount" "I") (zx_Gc mm_220)) (fun x9 h9 => u_same (hts (.sameField "java/util/ArrayList" "java/util/AbstractList" "modCount" "I") (zx_Gc mm_219)) x9 h9) rfl dJx4a65c_add_9ea2d_2 ?_
  refine lv_iconst (v := 1) hx hb dJx4a65c_add_9ea2d_5 (by decide) ?_
  refine lv_iadd hx hb dJx4a65c_add_9ea2d_6 ?_
  refine va_put (D := D) (ci := 4) (v := .int (mc + (1 : Int32))) (ty := .int) (C := RJx4a65c) (T := TJx4a65c) (N := 3) hx hb hts (fun w h => zx_Gc (uz_Jx4a65c w h)) tyJx4a65c tyJx4a65c_ok nmJx4a65c hown hK hP hD hS 0 rfl rfl 0 (by decide) (hts (.fieldLink RJx4a65c 63 "java/util/ArrayList" "modCount" "I") (zx_Gc mm_220)) (fun x9 h9 => u_same (hts (.sameField "java/util/ArrayList" "java/util/AbstractList" "modCount" "I") (zx_Gc mm_219)) x9 h9) rfl (by decide +kernel) rfl rfl (Nat.le_of_ble_eq_true rfl) dJx4a65c_add_9ea2d_7 (fun H locs hP hD hS => ?_)
  have hP : va_P D vwCl [(pa, .inr (4, [.int (mc + (1 : Int32)), .ref el, .int 8])), (el, .inl (cy 2, 10, .inr (.inr (.inr (.inr g))))), (pp, .inr (17, fp))] H := hP
  have hD : va_D A [(pa, .inr (4, [.int (mc + (1 : Int32)), .ref el, .int 8])), (el, .inl (cy 2, 10, .inr (.inr (.inr (.inr g))))), (pp, .inr (17, fp))] := hD
  refine lv_aload_n hx hb dJx4a65c_add_9ea2d_10 rfl (lv_at hl 0 rfl) ?_
  refine lv_aload_n hx hb dJx4a65c_add_9ea2d_11 rfl (lv_at hl 1 rfl) ?_
  refine lv_aload_n hx hb dJx4a65c_add_9ea2d_12 rfl (lv_at hl 0 rfl) ?_
  refine va_get (D := D) (ci := 4) (v := .ref el) (C := RJx4a65c) (T := TJx4a65c) (N := 3) hx hb hts (fun w h => zx_Gc (uz_Jx4a65c w h)) hown hK hP 0 rfl rfl 1 (by decide) (hts (.fieldLink RJx4a65c 9 "java/util/ArrayList" "elementData" "[Ljava/lang/Object;") (zx_Gc mm_213)) (fun _ h9 => h9) rfl dJx4a65c_add_9ea2d_13 ?_
  refine lv_aload_n hx hb dJx4a65c_add_9ea2d_16 rfl (lv_at hl 0 rfl) ?_
  refine va_get (D := D) (ci := 4) (v := .int 8) (C := RJx4a65c) (T := TJx4a65c) (N := 3) hx hb hts (fun w h => zx_Gc (uz_Jx4a65c w h)) hown hK hP 0 rfl rfl 2 (by decide) (hts (.fieldLink RJx4a65c 48 "java/util/ArrayList" "size" "I") (zx_Gc mm_216)) (fun _ h9 => h9) rfl dJx4a65c_add_9ea2d_17 ?_
  have hPc := hP.sub (ws' := [(pa, .inr (4, [.int (mc + (1 : Int32)), .ref el, .int 8])), (el, .inl (cy 2, 10, .inr (.inr (.inr (.inr g))))), (pp, .inr (17, fp))]) [0, 1, 2] rfl
  have hDc := hD.sub (ws' := [(pa, .inr (4, [.int (mc + (1 : Int32)), .ref el, .int 8])), (el, .inl (cy 2, 10, .inr (.inr (.inr (.inr g))))), (pp, .inr (17, fp))]) [0, 1, 2] (by decide) rfl
  have hFc := va_free (wc := [(pa, .inr (4, [.int (mc + (1 : Int32)), .ref el, .int 8])), (el, .inl (cy 2, 10, .inr (.inr (.inr (.inr g))))), (pp, .inr (17, fp))]) hD hS hA [0, 1, 2] rfl
  refine va_callv (va_runV (As := [.ref pp, .ref el, .int 8]) (rest := []) ⟨hx, hb, hml, hown, hts⟩ (c_AL_add3_X12_8 l hst D cy ed H.size pa el (mc + (1 : Int32)) g pp fp) (cwV 3 hts (zx_GV mm_776 mm_778 mm_5 mm_77 mm_779) rfl rfl rfl (by decide +kernel) ⟨(Nat.le_of_ble_eq_true rfl), (Nat.le_of_ble_eq_true rfl)⟩) ⟨zx_blind, va_recv hK hPc (ci := 4) (q0 := 0) rfl rfl, zx_give hPc hK hDc hS hFc hZ hN⟩ rfl rfl hl.1 rfl (lv_room (Nat.le_of_ble_eq_true rfl)) dJx4a65c_add_9ea2d_20 ⟨(Nat.le_of_ble_eq_true rfl), (Nat.le_of_ble_eq_true rfl)⟩) hS (fun q _ h => hFc q h) hFc (fun u t H1 locs ht hvm hw hB hz1 hk1 hS => ?_)
  obtain ⟨qx_330, g2_331⟩ := u
  have h_332 := hw
  obtain ⟨hP, hD⟩ := zx_join (wr := []) (w1 := [(pa, .inr (4, [.int (mc + (1 : Int32)), .ref qx_330, .int 9])), (qx_330, .inl (cy 2, 10, .inr (.inr (.inr (.inr g2_331))))), (pp, .inr (17, fp))]) [0, 1, 2] [] rfl rfl (by decide) (by decide) hP hD hk1 hFc hB ht
  generalize H1 = H at hP hS ⊢
  have hP : va_P D vwCl [(pa, .inr (4, [.int (mc + (1 : Int32)), .ref qx_330, .int 9])), (qx_330, .inl (cy 2, 10, .inr (.inr (.inr (.inr g2_331))))), (pp, .inr (17, fp))] H := hP
  have hD : va_D A [(pa, .inr (4, [.int (mc + (1 : Int32)), .ref qx_330, .int 9])), (qx_330, .inl (cy 2, 10, .inr (.inr (.inr (.inr g2_331))))), (pp, .inr (17, fp))] := hD
  refine W.widen (k := 0) (n := 0) (Nat.le_of_ble_eq_true rfl) (Nat.le_of_ble_eq_true rfl) ?_
  obtain ⟨hs_333, hs_334⟩ := h_332
  refine lv_iconst (v := 1) hx hb dJx4a65c_add_9ea2d_23 (by decide) ?_
  have hP9 := hP.sub (ws' := [(pa, .inr (4, [.int (mc + (1 : Int32)), .ref qx_330, .int 9])), (qx_330, .inl (cy 2, 10, .inr (.inr (.inr (.inr g2_331))))), (pp, .inr (17, fp))]) [0, 1, 2] rfl
  have hD9 := hD.sub (ws' := [(pa, .inr (4, [.int (mc + (1 : Int32)), .ref qx_330, .int 9])), (qx_330, .inl (cy 2, 10, .inr (.inr (.inr (.inr g2_331))))), (pp, .inr (17, fp))]) [0, 1, 2] (by decide) rfl
  exact W.zret (v := 1) hx hb hr rfl (fun t ht hW => ⟨⟨1, ⟨(mc + (1 : Int32)), qx_330, g2_331⟩, rfl, ⟨rfl, ⟨hs_333, hs_334⟩⟩, zx_fin hP9 hD9 hK ht hW⟩, hS.F ht⟩) hS.2.2 dJx4a65c_add_9ea2d_24
set_option maxHeartbeats 4000000 in
set_option maxRecDepth 100000 in
theorem c_AL_add3_X12_9 (l : Launch) (hst : l.stackTraces = false) (D : va_G) (cy : Nat → ClassId) (ed sz : Nat) (pa : Nat) (el : Nat) (mc : Int32) (g : Nat → Option Nat) (pp : Nat) (fp : List Value) : Met l yJx4a65c_add_72be8 wzJx4a65c_add_72be8 ({ frames := 0, cells := 0, slots := 0, locals := 0 }) (zx_Pc D cy ed sz [.ref pa, .ref pp, .ref el, .int 9] [(pa, .inr (4, [.int mc, .ref el, .int 9])), (el, .inl (cy 2, 10, .inr (.inr (.inr (.inr g))))), (pp, .inr (17, fp))]) (va_Qv (fun (u9 : Nat × (Nat → Option Nat)) => match u9 with | (qx, g2) => g2 9 = some pp ∧ ∀ j, j < 9 → g2 j = g j) (fun (u9 : Nat × (Nat → Option Nat)) (t9 : State) => match u9 with | (qx, g2) => zx_At D cy (va_A [(pa, .inr (4, [.int mc, .ref el, .int 9])), (el, .inl (cy 2, 10, .inr (.inr (.inr (.inr g))))), (pp, .inr (17, fp))] sz) [(pa, .inr (4, [.int mc, .ref qx, .int 10])), (qx, .inl (cy 2, 10, .inr (.inr (.inr (.inr g2))))), (pp, .inr (17, fp))] t9) (va_A [(pa, .inr (4, [.int mc, .ref el, .int 9])), (el, .inl (cy 2, 10, .inr (.inr (.inr (.inr g))))), (pp, .inr (17, fp))] sz)) 0 0 (va_A [(pa, .inr (4, [.int mc, .ref el, .int 9])), (el, .inl (cy 2, 10, .inr (.inr (.inr (.inr g))))), (pp, .inr (17, fp))] sz) := by
  refine Met.ofW (cc := cJx4a65c_add_72be8) (maxL := 4) (ret := none) (by decide) rfl ?_
  intro p e s m args below meth c s₁ B hml hv
  obtain ⟨rfl, hsz, hP, hK, hD0, hZ, hN⟩ := hv
  have hx := B.exec
  have hb := B.bytes
  have hr := B.returns
  have hts := atoms_spec (ws := wzJx4a65c_add_72be8) B.pre
  have hown : s.vm.findClass RJx4a65c = some m.cls := findClass_of_methodNamed B.named
  have hlocks := B.notSynchronized
  subst hsz
  have hD := hD0.self (sz := s.heap.size)
  generalize hAe : va_A [(pa, .inr (4, [.int mc, .ref el, .int 9])), (el, .inl (cy 2, 10, .inr (.inr (.inr (.inr g))))), (pp, .inr (17, fp))] s.heap.size = A at hD hZ ⊢
  have hA : ∀ q : Nat, s.heap.size ≤ q → A q := fun q h => by rw [← hAe]; exact Or.inr h
  have hS : va_S A s.heap s.heap [] := va_S.rf
  have hP : va_P D vwCl [(pa, .inr (4, [.int mc, .ref el, .int 9])), (el, .inl (cy 2, 10, .inr (.inr (.inr (.inr g))))), (pp, .inr (17, fp))] s.heap := hP
  have hl := lv_entry ([.ref pa, .ref pp, .ref el, .int 9]) (n := 4) (Nat.le_of_ble_eq_true rfl)
  rw [lg_entry_eq]
  generalize (lg_sl ([.ref pa, .ref pp, .ref el, .int 9]) ++ List.replicate (4 - (lg_sl ([.ref pa, .ref pp, .ref el, .int 9])).length) Slot.unset).toArray = ls at hl ⊢
  have hl : lv_has ls 4 [(0, .ref pa), (1, .ref pp), (2, .ref el), (3, .int 9)] := hl
  refine lv_iload_n hx hb dJx4a65c_add_72be8_0 rfl (lv_at hl 3 rfl) ?_
  refine lv_aload_n hx hb dJx4a65c_add_72be8_1 rfl (lv_at hl 2 rfl) ?_
  refine va_alen (v := 10) hx hb hK hP 1 2 rfl rfl (show Int32.ofNat 10 = 10 from by decide) dJx4a65c_add_72be8_2 ?_
  refine lv_icmp_ne (tgt := 11) hx hb dJx4a65c_add_72be8_3 (by decide) (fun _ => ?_) (fun c_335 => absurd c_335 (by decide))
  refine lv_aload_n hx hb dJx4a65c_add_72be8_11 rfl (lv_at hl 2 rfl) ?_
  refine lv_iload_n hx hb dJx4a65c_add_72be8_12 rfl (lv_at hl 3 rfl) ?_
  refine lv_aload_n hx hb dJx4a65c_add_72be8_13 rfl (lv_at hl 1 rfl) ?_
  refine va_astqO (E := "java/lang/Object") hx hb hK hP hD hS 1 2 2 17 rfl rfl (hN.2.2.1 _ _ (List.mem_of_getElem? (i := 2467) (by decide +kernel))) rfl rfl (zx_bn (by decide)) dJx4a65c_add_72be8_14 (fun H locs hP hD hS => ?_)
  have hP : va_P D vwCl [(pa, .inr (4, [.int mc, .ref el, .int 9])), (el, .inl (cy 2, 10, .inr (.inr (.inr (.inr (va_up g (9 : Int32).toNatClampNeg (some pp))))))), (pp, .inr (17, fp))] H := hP
  have hD : va_D A [(pa, .inr (4, [.int mc, .ref el, .int 9])), (el, .inl (cy 2, 10, .inr (.inr (.inr (.inr (va_up g (9 : Int32).toNatClampNeg (some pp))))))), (pp, .inr (17, fp))] := hD
  refine lv_aload_n hx hb dJx4a65c_add_72be8_15 rfl (lv_at hl 0 rfl) ?_
  refine lv_iload_n hx hb dJx4a65c_add_72be8_16 rfl (lv_at hl 3 rfl) ?_
  refine lv_iconst (v := 1) hx hb dJx4a65c_add_72be8_17 (by decide) ?_
  refine lv_iadd hx hb dJx4a65c_add_72be8_18 ?_
  refine lv_topi (fun y9 ey9 => ?_)
  obtain rfl : y9 = 10 := by rw [ey9] <;> decide
  refine va_put (D := D) (ci := 4) (v := .int 10) (ty := .int) (C := RJx4a65c) (T := TJx4a65c) (N := 3) hx hb hts (fun w h => zx_Gc (uz_Jx4a65c w h)) tyJx4a65c tyJx4a65c_ok nmJx4a65c hown hK hP hD hS 0 rfl rfl 2 (by decide) (hts (.fieldLink RJx4a65c 48 "java/util/ArrayList" "size" "I") (zx_Gc mm_216)) (fun _ h9 => h9) rfl (by decide +kernel) rfl rfl (Nat.le_of_ble_eq_true rfl) dJx4a65c_add_72be8_19 (fun H locs hP hD hS => ?_)
  have hP : va_P D vwCl [(pa, .inr (4, [.int mc, .ref el, .int 10])), (el, .inl (cy 2, 10, .inr (.inr (.inr (.inr (va_up g (9 : Int32).toNatClampNeg (some pp))))))), (pp, .inr (17, fp))] H := hP
  have hD : va_D A [(pa, .inr (4, [.int mc, .ref el, .int 10])), (el, .inl (cy 2, 10, .inr (.inr (.inr (.inr (va_up g (9 : Int32).toNatClampNeg (some pp))))))), (pp, .inr (17, fp))] := hD
  have hP9 := hP.sub (ws' := [(pa, .inr (4, [.int mc, .ref el, .int 10])), (el, .inl (cy 2, 10, .inr (.inr (.inr (.inr (va_up g (9 : Int32).toNatClampNeg (some pp))))))), (pp, .inr (17, fp))]) [0, 1, 2] rfl
  have hD9 := hD.sub (ws' := [(pa, .inr (4, [.int mc, .ref el, .int 10])), (el, .inl (cy 2, 10, .inr (.inr (.inr (.inr (va_up g (9 : Int32).toNatClampNeg (some pp))))))), (pp, .inr (17, fp))]) [0, 1, 2] (by decide) rfl
  exact W.vret hx hb hr (fun t ht hW => ⟨⟨⟨el, (va_up g (9 : Int32).toNatClampNeg (some pp))⟩, rfl, ⟨zx_up_at _ (by decide), fun j9 hj9 => zx_up_ne _ (by show j9 ≠ 9; omega)⟩, zx_fin hP9 hD9 hK ht hW⟩, hS.F ht⟩) hS.2.2 dJx4a65c_add_72be8_22
set_option maxHeartbeats 4000000 in
set_option maxRecDepth 100000 in
theorem c_AL_add1_X12_9 (l : Launch) (hst : l.stackTraces = false) (D : va_G) (cy : Nat → ClassId) (ed sz : Nat) (pa : Nat) (el : Nat) (mc : Int32) (g : Nat → Option Nat) (pp : Nat) (fp : List Value) : Met l yJx4a65c_add_9ea2d wzJx4a65c_add_9ea2d ({ frames := 1, cells := 0, slots := 0, locals := 23 }) (zx_Pc D cy ed sz [.ref pa, .ref pp] [(pa, .inr (4, [.int mc, .ref el, .int 9])), (el, .inl (cy 2, 10, .inr (.inr (.inr (.inr g))))), (pp, .inr (17, fp))]) (va_Qi (fun (r9 : Int32) (u9 : Int32 × Nat × (Nat → Option Nat)) => match u9 with | (mx, qx, g2) => r9 = 1 ∧ g2 9 = some pp ∧ ∀ j, j < 9 → g2 j = g j) (fun (u9 : Int32 × Nat × (Nat → Option Nat)) (t9 : State) => match u9 with | (mx, qx, g2) => zx_At D cy (va_A [(pa, .inr (4, [.int mc, .ref el, .int 9])), (el, .inl (cy 2, 10, .inr (.inr (.inr (.inr g))))), (pp, .inr (17, fp))] sz) [(pa, .inr (4, [.int mx, .ref qx, .int 10])), (qx, .inl (cy 2, 10, .inr (.inr (.inr (.inr g2))))), (pp, .inr (17, fp))] t9) (va_A [(pa, .inr (4, [.int mc, .ref el, .int 9])), (el, .inl (cy 2, 10, .inr (.inr (.inr (.inr g))))), (pp, .inr (17, fp))] sz)) 0 0 (va_A [(pa, .inr (4, [.int mc, .ref el, .int 9])), (el, .inl (cy 2, 10, .inr (.inr (.inr (.inr g))))), (pp, .inr (17, fp))] sz) := by
  refine Met.ofW (cc := cJx4a65c_add_9ea2d) (maxL := 2) (ret := (some .boolean)) (by decide) rfl ?_
  intro p e s m args below meth c s₁ B hml hv
  obtain ⟨rfl, hsz, hP, hK, hD0, hZ, hN⟩ := hv
  have hx := B.exec
  have hb := B.bytes
  have hr := B.returns
  have hts := atoms_spec (ws := wzJx4a65c_add_9ea2d) B.pre
  have hown : s.vm.findClass RJx4a65c = some m.cls := findClass_of_methodNamed B.named
  have hlocks := B.notSynchronized
  subst hsz
  have hD := hD0.self (sz := s.heap.size)
  generalize hAe : va_A [(pa, .inr (4, [.int mc, .ref el, .int 9])), (el, .inl (cy 2, 10, .inr (.inr (.inr (.inr g))))), (pp, .inr (17, fp))] s.heap.size = A at hD hZ ⊢
  have hA : ∀ q : Nat, s.heap.size ≤ q → A q := fun q h => by rw [← hAe]; exact Or.inr h
  have hS : va_S A s.heap s.heap [] := va_S.rf
  have hP : va_P D vwCl [(pa, .inr (4, [.int mc, .ref el, .int 9])), (el, .inl (cy 2, 10, .inr (.inr (.inr (.inr g))))), (pp, .inr (17, fp))] s.heap := hP
  have hl := lv_entry ([.ref pa, .ref pp]) (n := 2) (Nat.le_of_ble_eq_true rfl)
  rw [lg_entry_eq]
  generalize (lg_sl ([.ref pa, .ref pp]) ++ List.replicate (2 - (lg_sl ([.ref pa, .ref pp])).length) Slot.unset).toArray = ls at hl ⊢
  have hl : lv_has ls 2 [(0, .ref pa), (1, .ref pp)] := hl
  refine lv_aload_n hx hb dJx4a65c_add_9ea2d_0 rfl (lv_at hl 0 rfl) ?_
  refine lv_dup hx hb dJx4a65c_add_9ea2d_1 rfl ?_
  refine va_get (D := D) (ci := 4) (v := .int mc) (C := RJx4a65c) (T := TJx4a65c) (N := 3) hx hb hts (fun w h => zx_Gc (uz_Jx4a65c w h)) hown hK hP 0 rfl rfl 0 (by decide) (hts (.fieldLink RJx4a65c 63 "java/util/ArrayList" "modCount" "I") (zx_Gc mm_220)) (fun x9 h9 => u_same (hts (.sameField "java/util/ArrayList" "java/util/AbstractList" "modCount" "I") (zx_Gc mm_219)) x9 h9) rfl dJx4a65c_add_9ea2d_2 ?_
  refine lv_iconst (v := 1) hx hb dJx4a65c_add_9ea2d_5 (by decide) ?_
  refine lv_iadd hx hb dJx4a65c_add_9ea2d_6 ?_
  refine va_put (D := D) (ci := 4) (v := .int (mc + (1 : Int32))) (ty := .int) (C := RJx4a65c) (T := TJx4a65c) (N := 3) hx hb hts (fun w h => zx_Gc (uz_Jx4a65c w h)) tyJx4a65c tyJx4a65c_ok nmJx4a65c hown hK hP hD hS 0 rfl rfl 0 (by decide) (hts (.fieldLink RJx4a65c 63 "java/util/ArrayList" "modCount" "I") (zx_Gc mm_220)) (fun x9 h9 => u_same (hts (.sameField "java/util/ArrayList" "java/util/AbstractList" "modCount" "I") (zx_Gc mm_219)) x9 h9) rfl (by decide +kernel) rfl rfl (Nat.le_of_ble_eq_true rfl) dJx4a65c_add_9ea2d_7 (fun H locs hP hD hS => ?_)
  have hP : va_P D vwCl [(pa, .inr (4, [.int (mc + (1 : Int32)), .ref el, .int 9])), (el, .inl (cy 2, 10, .inr (.inr (.inr (.inr g))))), (pp, .inr (17, fp))] H := hP
  have hD : va_D A [(pa, .inr (4, [.int (mc + (1 : Int32)), .ref el, .int 9])), (el, .inl (cy 2, 10, .inr (.inr (.inr (.inr g))))), (pp, .inr (17, fp))] := hD
  refine lv_aload_n hx hb dJx4a65c_add_9ea2d_10 rfl (lv_at hl 0 rfl) ?_
  refine lv_aload_n hx hb dJx4a65c_add_9ea2d_11 rfl (lv_at hl 1 rfl) ?_
  refine lv_aload_n hx hb dJx4a65c_add_9ea2d_12 rfl (lv_at hl 0 rfl) ?_
  refine va_get (D := D) (ci := 4) (v := .ref el) (C := RJx4a65c) (T := TJx4a65c) (N := 3) hx hb hts (fun w h => zx_Gc (uz_Jx4a65c w h)) hown hK hP 0 rfl rfl 1 (by decide) (hts (.fieldLink RJx4a65c 9 "java/util/ArrayList" "elementData" "[Ljava/lang/Object;") (zx_Gc mm_213)) (fun _ h9 => h9) rfl dJx4a65c_add_9ea2d_13 ?_
  refine lv_aload_n hx hb dJx4a65c_add_9ea2d_16 rfl (lv_at hl 0 rfl) ?_
  refine va_get (D := D) (ci := 4) (v := .int 9) (C := RJx4a65c) (T := TJx4a65c) (N := 3) hx hb hts (fun w h => zx_Gc (uz_Jx4a65c w h)) hown hK hP 0 rfl rfl 2 (by decide) (hts (.fieldLink RJx4a65c 48 "java/util/ArrayList" "size" "I") (zx_Gc mm_216)) (fun _ h9 => h9) rfl dJx4a65c_add_9ea2d_17 ?_
  have hPc := hP.sub (ws' := [(pa, .inr (4, [.int (mc + (1 : Int32)), .ref el, .int 9])), (el, .inl (cy 2, 10, .inr (.inr (.inr (.inr g))))), (pp, .inr (17, fp))]) [0, 1, 2] rfl
  have hDc := hD.sub (ws' := [(pa, .inr (4, [.int (mc + (1 : Int32)), .ref el, .int 9])), (el, .inl (cy 2, 10, .inr (.inr (.inr (.inr g))))), (pp, .inr (17, fp))]) [0, 1, 2] (by decide) rfl
  have hFc := va_free (wc := [(pa, .inr (4, [.int (mc + (1 : Int32)), .ref el, .int 9])), (el, .inl (cy 2, 10, .inr (.inr (.inr (.inr g))))), (pp, .inr (17, fp))]) hD hS hA [0, 1, 2] rfl
  refine va_callv (va_runV (As := [.ref pp, .ref el, .int 9]) (rest := []) ⟨hx, hb, hml, hown, hts⟩ (c_AL_add3_X12_9 l hst D cy ed H.size pa el (mc + (1 : Int32)) g pp fp) (cwV 3 hts (zx_GV mm_776 mm_778 mm_5 mm_77 mm_779) rfl rfl rfl (by decide +kernel) ⟨(Nat.le_of_ble_eq_true rfl), (Nat.le_of_ble_eq_true rfl)⟩) ⟨zx_blind, va_recv hK hPc (ci := 4) (q0 := 0) rfl rfl, zx_give hPc hK hDc hS hFc hZ hN⟩ rfl rfl hl.1 rfl (lv_room (Nat.le_of_ble_eq_true rfl)) dJx4a65c_add_9ea2d_20 ⟨(Nat.le_of_ble_eq_true rfl), (Nat.le_of_ble_eq_true rfl)⟩) hS (fun q _ h => hFc q h) hFc (fun u t H1 locs ht hvm hw hB hz1 hk1 hS => ?_)
  obtain ⟨qx_336, g2_337⟩ := u
  have h_338 := hw
  obtain ⟨hP, hD⟩ := zx_join (wr := []) (w1 := [(pa, .inr (4, [.int (mc + (1 : Int32)), .ref qx_336, .int 10])), (qx_336, .inl (cy 2, 10, .inr (.inr (.inr (.inr g2_337))))), (pp, .inr (17, fp))]) [0, 1, 2] [] rfl rfl (by decide) (by decide) hP hD hk1 hFc hB ht
  generalize H1 = H at hP hS ⊢
  have hP : va_P D vwCl [(pa, .inr (4, [.int (mc + (1 : Int32)), .ref qx_336, .int 10])), (qx_336, .inl (cy 2, 10, .inr (.inr (.inr (.inr g2_337))))), (pp, .inr (17, fp))] H := hP
  have hD : va_D A [(pa, .inr (4, [.int (mc + (1 : Int32)), .ref qx_336, .int 10])), (qx_336, .inl (cy 2, 10, .inr (.inr (.inr (.inr g2_337))))), (pp, .inr (17, fp))] := hD
  refine W.widen (k := 0) (n := 0) (Nat.le_of_ble_eq_true rfl) (Nat.le_of_ble_eq_true rfl) ?_
  obtain ⟨hs_339, hs_340⟩ := h_338
  refine lv_iconst (v := 1) hx hb dJx4a65c_add_9ea2d_23 (by decide) ?_
  have hP9 := hP.sub (ws' := [(pa, .inr (4, [.int (mc + (1 : Int32)), .ref qx_336, .int 10])), (qx_336, .inl (cy 2, 10, .inr (.inr (.inr (.inr g2_337))))), (pp, .inr (17, fp))]) [0, 1, 2] rfl
  have hD9 := hD.sub (ws' := [(pa, .inr (4, [.int (mc + (1 : Int32)), .ref qx_336, .int 10])), (qx_336, .inl (cy 2, 10, .inr (.inr (.inr (.inr g2_337))))), (pp, .inr (17, fp))]) [0, 1, 2] (by decide) rfl
  exact W.zret (v := 1) hx hb hr rfl (fun t ht hW => ⟨⟨1, ⟨(mc + (1 : Int32)), qx_336, g2_337⟩, rfl, ⟨rfl, ⟨hs_339, hs_340⟩⟩, zx_fin hP9 hD9 hK ht hW⟩, hS.F ht⟩) hS.2.2 dJx4a65c_add_9ea2d_24
set_option maxHeartbeats 4000000 in
set_option maxRecDepth 100000 in
theorem c_AL_add3_X12_10 (l : Launch) (hst : l.stackTraces = false) (D : va_G) (cy : Nat → ClassId) (ed sz : Nat) (pa : Nat) (el : Nat) (mc : Int32) (g : Nat → Option Nat) (pp : Nat) (fp : List Value) (p0 : Nat) (p1 : Nat) (p2 : Nat) (p3 : Nat) (p4 : Nat) (p5 : Nat) (p6 : Nat) (p7 : Nat) (p8 : Nat) (p9 : Nat) (f0 : List Value) (f1 : List Value) (f2 : List Value) (f3 : List Value) (f4 : List Value) (f5 : List Value) (f6 : List Value) (f7 : List Value) (f8 : List Value) (f9 : List Value) (hg0 : g 0 = some p0) (hg1 : g 1 = some p1) (hg2 : g 2 = some p2) (hg3 : g 3 = some p3) (hg4 : g 4 = some p4) (hg5 : g 5 = some p5) (hg6 : g 6 = some p6) (hg7 : g 7 = some p7) (hg8 : g 8 = some p8) (hg9 : g 9 = some p9) : Met l yJx4a65c_add_72be8 wzJx4a65c_add_72be8 ({ frames := 5, cells := 1, slots := 15, locals := 117 }) (zx_Pc D cy ed sz [.ref pa, .ref pp, .ref el, .int 10] [(pa, .inr (4, [.int mc, .ref el, .int 10])), (el, .inl (cy 2, 10, .inr (.inr (.inr (.inr g))))), (pp, .inr (17, fp)), (p0, .inr (17, f0)), (p1, .inr (17, f1)), (p2, .inr (17, f2)), (p3, .inr (17, f3)), (p4, .inr (17, f4)), (p5, .inr (17, f5)), (p6, .inr (17, f6)), (p7, .inr (17, f7)), (p8, .inr (17, f8)), (p9, .inr (17, f9))]) (va_Qv (fun (u9 : Nat × (Nat → Option Nat)) => match u9 with | (qx, g2) => g2 10 = some pp ∧ ∀ j, j < 10 → g2 j = g j) (fun (u9 : Nat × (Nat → Option Nat)) (t9 : State) => match u9 with | (qx, g2) => zx_At D cy (va_A [(pa, .inr (4, [.int mc, .ref el, .int 10])), (el, .inl (cy 2, 10, .inr (.inr (.inr (.inr g))))), (pp, .inr (17, fp)), (p0, .inr (17, f0)), (p1, .inr (17, f1)), (p2, .inr (17, f2)), (p3, .inr (17, f3)), (p4, .inr (17, f4)), (p5, .inr (17, f5)), (p6, .inr (17, f6)), (p7, .inr (17, f7)), (p8, .inr (17, f8)), (p9, .inr (17, f9))] sz) [(pa, .inr (4, [.int mc, .ref qx, .int 11])), (qx, .inl (cy 2, 15, .inr (.inr (.inr (.inr g2))))), (pp, .inr (17, fp)), (p0, .inr (17, f0)), (p1, .inr (17, f1)), (p2, .inr (17, f2)), (p3, .inr (17, f3)), (p4, .inr (17, f4)), (p5, .inr (17, f5)), (p6, .inr (17, f6)), (p7, .inr (17, f7)), (p8, .inr (17, f8)), (p9, .inr (17, f9))] t9) (va_A [(pa, .inr (4, [.int mc, .ref el, .int 10])), (el, .inl (cy 2, 10, .inr (.inr (.inr (.inr g))))), (pp, .inr (17, fp)), (p0, .inr (17, f0)), (p1, .inr (17, f1)), (p2, .inr (17, f2)), (p3, .inr (17, f3)), (p4, .inr (17, f4)), (p5, .inr (17, f5)), (p6, .inr (17, f6)), (p7, .inr (17, f7)), (p8, .inr (17, f8)), (p9, .inr (17, f9))] sz)) 1 15 (va_A [(pa, .inr (4, [.int mc, .ref el, .int 10])), (el, .inl (cy 2, 10, .inr (.inr (.inr (.inr g))))), (pp, .inr (17, fp)), (p0, .inr (17, f0)), (p1, .inr (17, f1)), (p2, .inr (17, f2)), (p3, .inr (17, f3)), (p4, .inr (17, f4)), (p5, .inr (17, f5)), (p6, .inr (17, f6)), (p7, .inr (17, f7)), (p8, .inr (17, f8)), (p9, .inr (17, f9))] sz) := by
  refine Met.ofW (cc := cJx4a65c_add_72be8) (maxL := 4) (ret := none) (by decide) rfl ?_
  intro p e s m args below meth c s₁ B hml hv
  obtain ⟨rfl, hsz, hP, hK, hD0, hZ, hN⟩ := hv
  have hx := B.exec
  have hb := B.bytes
  have hr := B.returns
  have hts := atoms_spec (ws := wzJx4a65c_add_72be8) B.pre
  have hown : s.vm.findClass RJx4a65c = some m.cls := findClass_of_methodNamed B.named
  have hlocks := B.notSynchronized
  subst hsz
  have hD := hD0.self (sz := s.heap.size)
  generalize hAe : va_A [(pa, .inr (4, [.int mc, .ref el, .int 10])), (el, .inl (cy 2, 10, .inr (.inr (.inr (.inr g))))), (pp, .inr (17, fp)), (p0, .inr (17, f0)), (p1, .inr (17, f1)), (p2, .inr (17, f2)), (p3, .inr (17, f3)), (p4, .inr (17, f4)), (p5, .inr (17, f5)), (p6, .inr (17, f6)), (p7, .inr (17, f7)), (p8, .inr (17, f8)), (p9, .inr (17, f9))] s.heap.size = A at hD hZ ⊢
  have hA : ∀ q : Nat, s.heap.size ≤ q → A q := fun q h => by rw [← hAe]; exact Or.inr h
  have hS : va_S A s.heap s.heap [] := va_S.rf
  have hP : va_P D vwCl [(pa, .inr (4, [.int mc, .ref el, .int 10])), (el, .inl (cy 2, 10, .inr (.inr (.inr (.inr g))))), (pp, .inr (17, fp)), (p0, .inr (17, f0)), (p1, .inr (17, f1)), (p2, .inr (17, f2)), (p3, .inr (17, f3)), (p4, .inr (17, f4)), (p5, .inr (17, f5)), (p6, .inr (17, f6)), (p7, .inr (17, f7)), (p8, .inr (17, f8)), (p9, .inr (17, f9))] s.heap := hP
  have hl := lv_entry ([.ref pa, .ref pp, .ref el, .int 10]) (n := 4) (Nat.le_of_ble_eq_true rfl)
  rw [lg_entry_eq]
  generalize (lg_sl ([.ref pa, .ref pp, .ref el, .int 10]) ++ List.replicate (4 - (lg_sl ([.ref pa, .ref pp, .ref el, .int 10])).length) Slot.unset).toArray = ls at hl ⊢
  have hl : lv_has ls 4 [(0, .ref pa), (1, .ref pp), (2, .ref el), (3, .int 10)] := hl
  refine lv_iload_n hx hb dJx4a65c_add_72be8_0 rfl (lv_at hl 3 rfl) ?_
  refine lv_aload_n hx hb dJx4a65c_add_72be8_1 rfl (lv_at hl 2 rfl) ?_
  refine va_alen (v := 10) hx hb hK hP 1 2 rfl rfl (show Int32.ofNat 10 = 10 from by decide) dJx4a65c_add_72be8_2 ?_
  refine lv_icmp_ne (tgt := 11) hx hb dJx4a65c_add_72be8_3 (by decide) (fun c_341 => absurd c_341 (by decide)) (fun _ => ?_)
  refine lv_aload_n hx hb dJx4a65c_add_72be8_6 rfl (lv_at hl 0 rfl) ?_
  have hPc := hP.sub (ws' := [(pa, .inr (4, [.int mc, .ref el, .int 10])), (el, .inl (cy 2, 10, .inr (.inr (.inr (.inr g))))), (p0, .inr (17, f0)), (p1, .inr (17, f1)), (p2, .inr (17, f2)), (p3, .inr (17, f3)), (p4, .inr (17, f4)), (p5, .inr (17, f5)), (p6, .inr (17, f6)), (p7, .inr (17, f7)), (p8, .inr (17, f8)), (p9, .inr (17, f9))]) [0, 1, 3, 4, 5, 6, 7, 8, 9, 10, 11, 12] rfl
  have hDc := hD.sub (ws' := [(pa, .inr (4, [.int mc, .ref el, .int 10])), (el, .inl (cy 2, 10, .inr (.inr (.inr (.inr g))))), (p0, .inr (17, f0)), (p1, .inr (17, f1)), (p2, .inr (17, f2)), (p3, .inr (17, f3)), (p4, .inr (17, f4)), (p5, .inr (17, f5)), (p6, .inr (17, f6)), (p7, .inr (17, f7)), (p8, .inr (17, f8)), (p9, .inr (17, f9))]) [0, 1, 3, 4, 5, 6, 7, 8, 9, 10, 11, 12] (by decide) rfl
  have hFc := va_free (wc := [(pa, .inr (4, [.int mc, .ref el, .int 10])), (el, .inl (cy 2, 10, .inr (.inr (.inr (.inr g))))), (p0, .inr (17, f0)), (p1, .inr (17, f1)), (p2, .inr (17, f2)), (p3, .inr (17, f3)), (p4, .inr (17, f4)), (p5, .inr (17, f5)), (p6, .inr (17, f6)), (p7, .inr (17, f7)), (p8, .inr (17, f8)), (p9, .inr (17, f9))]) hD hS hA [0, 1, 3, 4, 5, 6, 7, 8, 9, 10, 11, 12] rfl
  refine va_callr (va_runV (As := []) (rest := []) ⟨hx, hb, hml, hown, hts⟩ (c_AL_grow0_10 l hst D cy ed s.heap.size pa el mc g p0 p1 p2 p3 p4 p5 p6 p7 p8 p9 f0 f1 f2 f3 f4 f5 f6 f7 f8 f9 hg0 hg1 hg2 hg3 hg4 hg5 hg6 hg7 hg8 hg9) (cwV 0 hts (zx_GV mm_780 mm_782 mm_6 mm_77 mm_783) rfl rfl rfl (by decide +kernel) ⟨(Nat.le_of_ble_eq_true rfl), (Nat.le_of_ble_eq_true rfl)⟩) ⟨zx_blind, va_recv hK hPc (ci := 4) (q0 := 0) rfl rfl, zx_give hPc hK hDc hS hFc hZ hN⟩ rfl rfl hl.1 rfl (lv_room (Nat.le_of_ble_eq_true rfl)) dJx4a65c_add_72be8_7 ⟨(Nat.le_of_ble_eq_true rfl), (Nat.le_of_ble_eq_true rfl)⟩) hS (fun q _ h => hFc q h) hFc (fun u ra9 t H1 locs ht hvm hw hB hz1 hk1 hS => ?_)
  obtain ⟨g2_342, rfl⟩ : ∃ z9, z9 = u := ⟨_, rfl⟩
  obtain ⟨a_343, rfl⟩ : ∃ z9, z9 = ra9 := ⟨_, rfl⟩
  have h_344 := hw
  obtain ⟨hP, hD⟩ := zx_join (wr := [(pp, .inr (17, fp))]) (w1 := [(pa, .inr (4, [.int mc, .ref a_343, .int 10])), (a_343, .inl (cy 2, 15, .inr (.inr (.inr (.inr g2_342))))), (p0, .inr (17, f0)), (p1, .inr (17, f1)), (p2, .inr (17, f2)), (p3, .inr (17, f3)), (p4, .inr (17, f4)), (p5, .inr (17, f5)), (p6, .inr (17, f6)), (p7, .inr (17, f7)), (p8, .inr (17, f8)), (p9, .inr (17, f9))]) [0, 1, 3, 4, 5, 6, 7, 8, 9, 10, 11, 12] [2] rfl rfl (by decide) (by decide) hP hD hk1 hFc hB ht
  generalize H1 = H at hP hS ⊢
  have hP : va_P D vwCl [(pp, .inr (17, fp)), (pa, .inr (4, [.int mc, .ref a_343, .int 10])), (a_343, .inl (cy 2, 15, .inr (.inr (.inr (.inr g2_342))))), (p0, .inr (17, f0)), (p1, .inr (17, f1)), (p2, .inr (17, f2)), (p3, .inr (17, f3)), (p4, .inr (17, f4)), (p5, .inr (17, f5)), (p6, .inr (17, f6)), (p7, .inr (17, f7)), (p8, .inr (17, f8)), (p9, .inr (17, f9))] H := hP
  have hD : va_D A [(pp, .inr (17, fp)), (pa, .inr (4, [.int mc, .ref a_343, .int 10])), (a_343, .inl (cy 2, 15, .inr (.inr (.inr (.inr g2_342))))), (p0, .inr (17, f0)), (p1, .inr (17, f1)), (p2, .inr (17, f2)), (p3, .inr (17, f3)), (p4, .inr (17, f4)), (p5, .inr (17, f5)), (p6, .inr (17, f6)), (p7, .inr (17, f7)), (p8, .inr (17, f8)), (p9, .inr (17, f9))] := hD
  refine W.widen (k := 1) (n := 15) (Nat.le_of_ble_eq_true rfl) (Nat.le_of_ble_eq_true rfl) ?_
  refine lv_astore_n (lv' := [(2, .ref a_343), (0, .ref pa), (1, .ref pp), (3, .int 10)]) hx hb dJx4a65c_add_72be8_10 rfl hl (by decide) rfl (fun ls hl => ?_)
  refine lv_aload_n hx hb dJx4a65c_add_72be8_11 rfl (lv_at hl 0 rfl) ?_
  refine lv_iload_n hx hb dJx4a65c_add_72be8_12 rfl (lv_at hl 3 rfl) ?_
  refine lv_aload_n hx hb dJx4a65c_add_72be8_13 rfl (lv_at hl 2 rfl) ?_
  refine va_astqO (E := "java/lang/Object") hx hb hK hP hD hS 2 2 0 17 rfl rfl (hN.2.2.1 _ _ (List.mem_of_getElem? (i := 2467) (by decide +kernel))) rfl rfl (zx_bn (by decide)) dJx4a65c_add_72be8_14 (fun H locs hP hD hS => ?_)
  have hP : va_P D vwCl [(pp, .inr (17, fp)), (pa, .inr (4, [.int mc, .ref a_343, .int 10])), (a_343, .inl (cy 2, 15, .inr (.inr (.inr (.inr (va_up g2_342 (10 : Int32).toNatClampNeg (some pp))))))), (p0, .inr (17, f0)), (p1, .inr (17, f1)), (p2, .inr (17, f2)), (p3, .inr (17, f3)), (p4, .inr (17, f4)), (p5, .inr (17, f5)), (p6, .inr (17, f6)), (p7, .inr (17, f7)), (p8, .inr (17, f8)), (p9, .inr (17, f9))] H := hP
  have hD : va_D A [(pp, .inr (17, fp)), (pa, .inr (4, [.int mc, .ref a_343, .int 10])), (a_343, .inl (cy 2, 15, .inr (.inr (.inr (.inr (va_up g2_342 (10 : Int32).toNatClampNeg (some pp))))))), (p0, .inr (17, f0)), (p1, .inr (17, f1)), (p2, .inr (17, f2)), (p3, .inr (17, f3)), (p4, .inr (17, f4)), (p5, .inr (17, f5)), (p6, .inr (17, f6)), (p7, .inr (17, f7)), (p8, .inr (17, f8)), (p9, .inr (17, f9))] := hD
  refine lv_aload_n hx hb dJx4a65c_add_72be8_15 rfl (lv_at hl 1 rfl) ?_
  refine lv_iload_n hx hb dJx4a65c_add_72be8_16 rfl (lv_at hl 3 rfl) ?_
  refine lv_iconst (v := 1) hx hb dJx4a65c_add_72be8_17 (by decide) ?_
  refine lv_iadd hx hb dJx4a65c_add_72be8_18 ?_
  refine lv_topi (fun y9 ey9 => ?_)
  obtain rfl : y9 = 11 := by rw [ey9] <;> decide
  refine va_put (D := D) (ci := 4) (v := .int 11) (ty := .int) (C := RJx4a65c) (T := TJx4a65c) (N := 3) hx hb hts (fun w h => zx_Gc (uz_Jx4a65c w h)) tyJx4a65c tyJx4a65c_ok nmJx4a65c hown hK hP hD hS 1 rfl rfl 2 (by decide) (hts (.fieldLink RJx4a65c 48 "java/util/ArrayList" "size" "I") (zx_Gc mm_216)) (fun _ h9 => h9) rfl (by decide +kernel) rfl rfl (Nat.le_of_ble_eq_true rfl) dJx4a65c_add_72be8_19 (fun H locs hP hD hS => ?_)
  have hP : va_P D vwCl [(pp, .inr (17, fp)), (pa, .inr (4, [.int mc, .ref a_343, .int 11])), (a_343, .inl (cy 2, 15, .inr (.inr (.inr (.inr (va_up g2_342 (10 : Int32).toNatClampNeg (some pp))))))), (p0, .inr (17, f0)), (p1, .inr (17, f1)), (p2, .inr (17, f2)), (p3, .inr (17, f3)), (p4, .inr (17, f4)), (p5, .inr (17, f5)), (p6, .inr (17, f6)), (p7, .inr (17, f7)), (p8, .inr (17, f8)), (p9, .inr (17, f9))] H := hP
  have hD : va_D A [(pp, .inr (17, fp)), (pa, .inr (4, [.int mc, .ref a_343, .int 11])), (a_343, .inl (cy 2, 15, .inr (.inr (.inr (.inr (va_up g2_342 (10 : Int32).toNatClampNeg (some pp))))))), (p0, .inr (17, f0)), (p1, .inr (17, f1)), (p2, .inr (17, f2)), (p3, .inr (17, f3)), (p4, .inr (17, f4)), (p5, .inr (17, f5)), (p6, .inr (17, f6)), (p7, .inr (17, f7)), (p8, .inr (17, f8)), (p9, .inr (17, f9))] := hD
  have hP9 := hP.sub (ws' := [(pa, .inr (4, [.int mc, .ref a_343, .int 11])), (a_343, .inl (cy 2, 15, .inr (.inr (.inr (.inr (va_up g2_342 (10 : Int32).toNatClampNeg (some pp))))))), (pp, .inr (17, fp)), (p0, .inr (17, f0)), (p1, .inr (17, f1)), (p2, .inr (17, f2)), (p3, .inr (17, f3)), (p4, .inr (17, f4)), (p5, .inr (17, f5)), (p6, .inr (17, f6)), (p7, .inr (17, f7)), (p8, .inr (17, f8)), (p9, .inr (17, f9))]) [1, 2, 0, 3, 4, 5, 6, 7, 8, 9, 10, 11, 12] rfl
  have hD9 := hD.sub (ws' := [(pa, .inr (4, [.int mc, .ref a_343, .int 11])), (a_343, .inl (cy 2, 15, .inr (.inr (.inr (.inr (va_up g2_342 (10 : Int32).toNatClampNeg (some pp))))))), (pp, .inr (17, fp)), (p0, .inr (17, f0)), (p1, .inr (17, f1)), (p2, .inr (17, f2)), (p3, .inr (17, f3)), (p4, .inr (17, f4)), (p5, .inr (17, f5)), (p6, .inr (17, f6)), (p7, .inr (17, f7)), (p8, .inr (17, f8)), (p9, .inr (17, f9))]) [1, 2, 0, 3, 4, 5, 6, 7, 8, 9, 10, 11, 12] (by decide) rfl
  exact W.vret hx hb hr (fun t ht hW => ⟨⟨⟨a_343, (va_up g2_342 (10 : Int32).toNatClampNeg (some pp))⟩, rfl, ⟨zx_up_at _ (by decide), fun j9 hj9 => (zx_up_ne _ (by show j9 ≠ 10; omega)).trans (h_344 j9 hj9)⟩, zx_fin hP9 hD9 hK ht hW⟩, hS.F ht⟩) hS.2.2 dJx4a65c_add_72be8_22
set_option maxHeartbeats 4000000 in
set_option maxRecDepth 100000 in
theorem c_AL_add1_X12_10 (l : Launch) (hst : l.stackTraces = false) (D : va_G) (cy : Nat → ClassId) (ed sz : Nat) (pa : Nat) (el : Nat) (mc : Int32) (g : Nat → Option Nat) (pp : Nat) (fp : List Value) (p0 : Nat) (p1 : Nat) (p2 : Nat) (p3 : Nat) (p4 : Nat) (p5 : Nat) (p6 : Nat) (p7 : Nat) (p8 : Nat) (p9 : Nat) (f0 : List Value) (f1 : List Value) (f2 : List Value) (f3 : List Value) (f4 : List Value) (f5 : List Value) (f6 : List Value) (f7 : List Value) (f8 : List Value) (f9 : List Value) (hg0 : g 0 = some p0) (hg1 : g 1 = some p1) (hg2 : g 2 = some p2) (hg3 : g 3 = some p3) (hg4 : g 4 = some p4) (hg5 : g 5 = some p5) (hg6 : g 6 = some p6) (hg7 : g 7 = some p7) (hg8 : g 8 = some p8) (hg9 : g 9 = some p9) : Met l yJx4a65c_add_9ea2d wzJx4a65c_add_9ea2d ({ frames := 6, cells := 1, slots := 15, locals := 140 }) (zx_Pc D cy ed sz [.ref pa, .ref pp] [(pa, .inr (4, [.int mc, .ref el, .int 10])), (el, .inl (cy 2, 10, .inr (.inr (.inr (.inr g))))), (pp, .inr (17, fp)), (p0, .inr (17, f0)), (p1, .inr (17, f1)), (p2, .inr (17, f2)), (p3, .inr (17, f3)), (p4, .inr (17, f4)), (p5, .inr (17, f5)), (p6, .inr (17, f6)), (p7, .inr (17, f7)), (p8, .inr (17, f8)), (p9, .inr (17, f9))]) (va_Qi (fun (r9 : Int32) (u9 : Int32 × Nat × (Nat → Option Nat)) => match u9 with | (mx, qx, g2) => r9 = 1 ∧ g2 10 = some pp ∧ ∀ j, j < 10 → g2 j = g j) (fun (u9 : Int32 × Nat × (Nat → Option Nat)) (t9 : State) => match u9 with | (mx, qx, g2) => zx_At D cy (va_A [(pa, .inr (4, [.int mc, .ref el, .int 10])), (el, .inl (cy 2, 10, .inr (.inr (.inr (.inr g))))), (pp, .inr (17, fp)), (p0, .inr (17, f0)), (p1, .inr (17, f1)), (p2, .inr (17, f2)), (p3, .inr (17, f3)), (p4, .inr (17, f4)), (p5, .inr (17, f5)), (p6, .inr (17, f6)), (p7, .inr (17, f7)), (p8, .inr (17, f8)), (p9, .inr (17, f9))] sz) [(pa, .inr (4, [.int mx, .ref qx, .int 11])), (qx, .inl (cy 2, 15, .inr (.inr (.inr (.inr g2))))), (pp, .inr (17, fp)), (p0, .inr (17, f0)), (p1, .inr (17, f1)), (p2, .inr (17, f2)), (p3, .inr (17, f3)), (p4, .inr (17, f4)), (p5, .inr (17, f5)), (p6, .inr (17, f6)), (p7, .inr (17, f7)), (p8, .inr (17, f8)), (p9, .inr (17, f9))] t9) (va_A [(pa, .inr (4, [.int mc, .ref el, .int 10])), (el, .inl (cy 2, 10, .inr (.inr (.inr (.inr g))))), (pp, .inr (17, fp)), (p0, .inr (17, f0)), (p1, .inr (17, f1)), (p2, .inr (17, f2)), (p3, .inr (17, f3)), (p4, .inr (17, f4)), (p5, .inr (17, f5)), (p6, .inr (17, f6)), (p7, .inr (17, f7)), (p8, .inr (17, f8)), (p9, .inr (17, f9))] sz)) 1 15 (va_A [(pa, .inr (4, [.int mc, .ref el, .int 10])), (el, .inl (cy 2, 10, .inr (.inr (.inr (.inr g))))), (pp, .inr (17, fp)), (p0, .inr (17, f0)), (p1, .inr (17, f1)), (p2, .inr (17, f2)), (p3, .inr (17, f3)), (p4, .inr (17, f4)), (p5, .inr (17, f5)), (p6, .inr (17, f6)), (p7, .inr (17, f7)), (p8, .inr (17, f8)), (p9, .inr (17, f9))] sz) := by
  refine Met.ofW (cc := cJx4a65c_add_9ea2d) (maxL := 2) (ret := (some .boolean)) (by decide) rfl ?_
  intro p e s m args below meth c s₁ B hml hv
  obtain ⟨rfl, hsz, hP, hK, hD0, hZ, hN⟩ := hv
  have hx := B.exec
  have hb := B.bytes
  have hr := B.returns
  have hts := atoms_spec (ws := wzJx4a65c_add_9ea2d) B.pre
  have hown : s.vm.findClass RJx4a65c = some m.cls := findClass_of_methodNamed B.named
  have hlocks := B.notSynchronized
  subst hsz
  have hD := hD0.self (sz := s.heap.size)
  generalize hAe : va_A [(pa, .inr (4, [.int mc, .ref el, .int 10])), (el, .inl (cy 2, 10, .inr (.inr (.inr (.inr g))))), (pp, .inr (17, fp)), (p0, .inr (17, f0)), (p1, .inr (17, f1)), (p2, .inr (17, f2)), (p3, .inr (17, f3)), (p4, .inr (17, f4)), (p5, .inr (17, f5)), (p6, .inr (17, f6)), (p7, .inr (17, f7)), (p8, .inr (17, f8)), (p9, .inr (17, f9))] s.heap.size = A at hD hZ ⊢
  have hA : ∀ q : Nat, s.heap.size ≤ q → A q := fun q h => by rw [← hAe]; exact Or.inr h
  have hS : va_S A s.heap s.heap [] := va_S.rf
  have hP : va_P D vwCl [(pa, .inr (4, [.int mc, .ref el, .int 10])), (el, .inl (cy 2, 10, .inr (.inr (.inr (.inr g))))), (pp, .inr (17, fp)), (p0, .inr (17, f0)), (p1, .inr (17, f1)), (p2, .inr (17, f2)), (p3, .inr (17, f3)), (p4, .inr (17, f4)), (p5, .inr (17, f5)), (p6, .inr (17, f6)), (p7, .inr (17, f7)), (p8, .inr (17, f8)), (p9, .inr (17, f9))] s.heap := hP
  have hl := lv_entry ([.ref pa, .ref pp]) (n := 2) (Nat.le_of_ble_eq_true rfl)
  rw [lg_entry_eq]
  generalize (lg_sl ([.ref pa, .ref pp]) ++ List.replicate (2 - (lg_sl ([.ref pa, .ref pp])).length) Slot.unset).toArray = ls at hl ⊢
  have hl : lv_has ls 2 [(0, .ref pa), (1, .ref pp)] := hl
  refine lv_aload_n hx hb dJx4a65c_add_9ea2d_0 rfl (lv_at hl 0 rfl) ?_
  refine lv_dup hx hb dJx4a65c_add_9ea2d_1 rfl ?_
  refine va_get (D := D) (ci := 4) (v := .int mc) (C := RJx4a65c) (T := TJx4a65c) (N := 3) hx hb hts (fun w h => zx_Gc (uz_Jx4a65c w h)) hown hK hP 0 rfl rfl 0 (by decide) (hts (.fieldLink RJx4a65c 63 "java/util/ArrayList" "modCount" "I") (zx_Gc mm_220)) (fun x9 h9 => u_same (hts (.sameField "java/util/ArrayList" "java/util/AbstractList" "modCount" "I") (zx_Gc mm_219)) x9 h9) rfl dJx4a65c_add_9ea2d_2 ?_
  refine lv_iconst (v := 1) hx hb dJx4a65c_add_9ea2d_5 (by decide) ?_
  refine lv_iadd hx hb dJx4a65c_add_9ea2d_6 ?_
  refine va_put (D := D) (ci := 4) (v := .int (mc + (1 : Int32))) (ty := .int) (C := RJx4a65c) (T := TJx4a65c) (N := 3) hx hb hts (fun w h => zx_Gc (uz_Jx4a65c w h)) tyJx4a65c tyJx4a65c_ok nmJx4a65c hown hK hP hD hS 0 rfl rfl 0 (by decide) (hts (.fieldLink RJx4a65c 63 "java/util/ArrayList" "modCount" "I") (zx_Gc mm_220)) (fun x9 h9 => u_same (hts (.sameField "java/util/ArrayList" "java/util/AbstractList" "modCount" "I") (zx_Gc mm_219)) x9 h9) rfl (by decide +kernel) rfl rfl (Nat.le_of_ble_eq_true rfl) dJx4a65c_add_9ea2d_7 (fun H locs hP hD hS => ?_)
  have hP : va_P D vwCl [(pa, .inr (4, [.int (mc + (1 : Int32)), .ref el, .int 10])), (el, .inl (cy 2, 10, .inr (.inr (.inr (.inr g))))), (pp, .inr (17, fp)), (p0, .inr (17, f0)), (p1, .inr (17, f1)), (p2, .inr (17, f2)), (p3, .inr (17, f3)), (p4, .inr (17, f4)), (p5, .inr (17, f5)), (p6, .inr (17, f6)), (p7, .inr (17, f7)), (p8, .inr (17, f8)), (p9, .inr (17, f9))] H := hP
  have hD : va_D A [(pa, .inr (4, [.int (mc + (1 : Int32)), .ref el, .int 10])), (el, .inl (cy 2, 10, .inr (.inr (.inr (.inr g))))), (pp, .inr (17, fp)), (p0, .inr (17, f0)), (p1, .inr (17, f1)), (p2, .inr (17, f2)), (p3, .inr (17, f3)), (p4, .inr (17, f4)), (p5, .inr (17, f5)), (p6, .inr (17, f6)), (p7, .inr (17, f7)), (p8, .inr (17, f8)), (p9, .inr (17, f9))] := hD
  refine lv_aload_n hx hb dJx4a65c_add_9ea2d_10 rfl (lv_at hl 0 rfl) ?_
  refine lv_aload_n hx hb dJx4a65c_add_9ea2d_11 rfl (lv_at hl 1 rfl) ?_
  refine lv_aload_n hx hb dJx4a65c_add_9ea2d_12 rfl (lv_at hl 0 rfl) ?_
  refine va_get (D := D) (ci := 4) (v := .ref el) (C := RJx4a65c) (T := TJx4a65c) (N := 3) hx hb hts (fun w h => zx_Gc (uz_Jx4a65c w h)) hown hK hP 0 rfl rfl 1 (by decide) (hts (.fieldLink RJx4a65c 9 "java/util/ArrayList" "elementData" "[Ljava/lang/Object;") (zx_Gc mm_213)) (fun _ h9 => h9) rfl dJx4a65c_add_9ea2d_13 ?_
  refine lv_aload_n hx hb dJx4a65c_add_9ea2d_16 rfl (lv_at hl 0 rfl) ?_
  refine va_get (D := D) (ci := 4) (v := .int 10) (C := RJx4a65c) (T := TJx4a65c) (N := 3) hx hb hts (fun w h => zx_Gc (uz_Jx4a65c w h)) hown hK hP 0 rfl rfl 2 (by decide) (hts (.fieldLink RJx4a65c 48 "java/util/ArrayList" "size" "I") (zx_Gc mm_216)) (fun _ h9 => h9) rfl dJx4a65c_add_9ea2d_17 ?_
  have hPc := hP.sub (ws' := [(pa, .inr (4, [.int (mc + (1 : Int32)), .ref el, .int 10])), (el, .inl (cy 2, 10, .inr (.inr (.inr (.inr g))))), (pp, .inr (17, fp)), (p0, .inr (17, f0)), (p1, .inr (17, f1)), (p2, .inr (17, f2)), (p3, .inr (17, f3)), (p4, .inr (17, f4)), (p5, .inr (17, f5)), (p6, .inr (17, f6)), (p7, .inr (17, f7)), (p8, .inr (17, f8)), (p9, .inr (17, f9))]) [0, 1, 2, 3, 4, 5, 6, 7, 8, 9, 10, 11, 12] rfl
  have hDc := hD.sub (ws' := [(pa, .inr (4, [.int (mc + (1 : Int32)), .ref el, .int 10])), (el, .inl (cy 2, 10, .inr (.inr (.inr (.inr g))))), (pp, .inr (17, fp)), (p0, .inr (17, f0)), (p1, .inr (17, f1)), (p2, .inr (17, f2)), (p3, .inr (17, f3)), (p4, .inr (17, f4)), (p5, .inr (17, f5)), (p6, .inr (17, f6)), (p7, .inr (17, f7)), (p8, .inr (17, f8)), (p9, .inr (17, f9))]) [0, 1, 2, 3, 4, 5, 6, 7, 8, 9, 10, 11, 12] (by decide) rfl
  have hFc := va_free (wc := [(pa, .inr (4, [.int (mc + (1 : Int32)), .ref el, .int 10])), (el, .inl (cy 2, 10, .inr (.inr (.inr (.inr g))))), (pp, .inr (17, fp)), (p0, .inr (17, f0)), (p1, .inr (17, f1)), (p2, .inr (17, f2)), (p3, .inr (17, f3)), (p4, .inr (17, f4)), (p5, .inr (17, f5)), (p6, .inr (17, f6)), (p7, .inr (17, f7)), (p8, .inr (17, f8)), (p9, .inr (17, f9))]) hD hS hA [0, 1, 2, 3, 4, 5, 6, 7, 8, 9, 10, 11, 12] rfl
  refine va_callv (va_runV (As := [.ref pp, .ref el, .int 10]) (rest := []) ⟨hx, hb, hml, hown, hts⟩ (c_AL_add3_X12_10 l hst D cy ed H.size pa el (mc + (1 : Int32)) g pp fp p0 p1 p2 p3 p4 p5 p6 p7 p8 p9 f0 f1 f2 f3 f4 f5 f6 f7 f8 f9 hg0 hg1 hg2 hg3 hg4 hg5 hg6 hg7 hg8 hg9) (cwV 3 hts (zx_GV mm_776 mm_778 mm_5 mm_77 mm_779) rfl rfl rfl (by decide +kernel) ⟨(Nat.le_of_ble_eq_true rfl), (Nat.le_of_ble_eq_true rfl)⟩) ⟨zx_blind, va_recv hK hPc (ci := 4) (q0 := 0) rfl rfl, zx_give hPc hK hDc hS hFc hZ hN⟩ rfl rfl hl.1 rfl (lv_room (Nat.le_of_ble_eq_true rfl)) dJx4a65c_add_9ea2d_20 ⟨(Nat.le_of_ble_eq_true rfl), (Nat.le_of_ble_eq_true rfl)⟩) hS (fun q _ h => hFc q h) hFc (fun u t H1 locs ht hvm hw hB hz1 hk1 hS => ?_)
  obtain ⟨qx_345, g2_346⟩ := u
  have h_347 := hw
  obtain ⟨hP, hD⟩ := zx_join (wr := []) (w1 := [(pa, .inr (4, [.int (mc + (1 : Int32)), .ref qx_345, .int 11])), (qx_345, .inl (cy 2, 15, .inr (.inr (.inr (.inr g2_346))))), (pp, .inr (17, fp)), (p0, .inr (17, f0)), (p1, .inr (17, f1)), (p2, .inr (17, f2)), (p3, .inr (17, f3)), (p4, .inr (17, f4)), (p5, .inr (17, f5)), (p6, .inr (17, f6)), (p7, .inr (17, f7)), (p8, .inr (17, f8)), (p9, .inr (17, f9))]) [0, 1, 2, 3, 4, 5, 6, 7, 8, 9, 10, 11, 12] [] rfl rfl (by decide) (by decide) hP hD hk1 hFc hB ht
  generalize H1 = H at hP hS ⊢
  have hP : va_P D vwCl [(pa, .inr (4, [.int (mc + (1 : Int32)), .ref qx_345, .int 11])), (qx_345, .inl (cy 2, 15, .inr (.inr (.inr (.inr g2_346))))), (pp, .inr (17, fp)), (p0, .inr (17, f0)), (p1, .inr (17, f1)), (p2, .inr (17, f2)), (p3, .inr (17, f3)), (p4, .inr (17, f4)), (p5, .inr (17, f5)), (p6, .inr (17, f6)), (p7, .inr (17, f7)), (p8, .inr (17, f8)), (p9, .inr (17, f9))] H := hP
  have hD : va_D A [(pa, .inr (4, [.int (mc + (1 : Int32)), .ref qx_345, .int 11])), (qx_345, .inl (cy 2, 15, .inr (.inr (.inr (.inr g2_346))))), (pp, .inr (17, fp)), (p0, .inr (17, f0)), (p1, .inr (17, f1)), (p2, .inr (17, f2)), (p3, .inr (17, f3)), (p4, .inr (17, f4)), (p5, .inr (17, f5)), (p6, .inr (17, f6)), (p7, .inr (17, f7)), (p8, .inr (17, f8)), (p9, .inr (17, f9))] := hD
  refine W.widen (k := 1) (n := 15) (Nat.le_of_ble_eq_true rfl) (Nat.le_of_ble_eq_true rfl) ?_
  obtain ⟨hs_348, hs_349⟩ := h_347
  refine lv_iconst (v := 1) hx hb dJx4a65c_add_9ea2d_23 (by decide) ?_
  have hP9 := hP.sub (ws' := [(pa, .inr (4, [.int (mc + (1 : Int32)), .ref qx_345, .int 11])), (qx_345, .inl (cy 2, 15, .inr (.inr (.inr (.inr g2_346))))), (pp, .inr (17, fp)), (p0, .inr (17, f0)), (p1, .inr (17, f1)), (p2, .inr (17, f2)), (p3, .inr (17, f3)), (p4, .inr (17, f4)), (p5, .inr (17, f5)), (p6, .inr (17, f6)), (p7, .inr (17, f7)), (p8, .inr (17, f8)), (p9, .inr (17, f9))]) [0, 1, 2, 3, 4, 5, 6, 7, 8, 9, 10, 11, 12] rfl
  have hD9 := hD.sub (ws' := [(pa, .inr (4, [.int (mc + (1 : Int32)), .ref qx_345, .int 11])), (qx_345, .inl (cy 2, 15, .inr (.inr (.inr (.inr g2_346))))), (pp, .inr (17, fp)), (p0, .inr (17, f0)), (p1, .inr (17, f1)), (p2, .inr (17, f2)), (p3, .inr (17, f3)), (p4, .inr (17, f4)), (p5, .inr (17, f5)), (p6, .inr (17, f6)), (p7, .inr (17, f7)), (p8, .inr (17, f8)), (p9, .inr (17, f9))]) [0, 1, 2, 3, 4, 5, 6, 7, 8, 9, 10, 11, 12] (by decide) rfl
  exact W.zret (v := 1) hx hb hr rfl (fun t ht hW => ⟨⟨1, ⟨(mc + (1 : Int32)), qx_345, g2_346⟩, rfl, ⟨rfl, ⟨hs_348, hs_349⟩⟩, zx_fin hP9 hD9 hK ht hW⟩, hS.F ht⟩) hS.2.2 dJx4a65c_add_9ea2d_24
set_option maxHeartbeats 4000000 in
set_option maxRecDepth 100000 in
theorem c_AL_add3_X12_11 (l : Launch) (hst : l.stackTraces = false) (D : va_G) (cy : Nat → ClassId) (ed sz : Nat) (pa : Nat) (el : Nat) (mc : Int32) (g : Nat → Option Nat) (pp : Nat) (fp : List Value) : Met l yJx4a65c_add_72be8 wzJx4a65c_add_72be8 ({ frames := 0, cells := 0, slots := 0, locals := 0 }) (zx_Pc D cy ed sz [.ref pa, .ref pp, .ref el, .int 11] [(pa, .inr (4, [.int mc, .ref el, .int 11])), (el, .inl (cy 2, 15, .inr (.inr (.inr (.inr g))))), (pp, .inr (17, fp))]) (va_Qv (fun (u9 : Nat × (Nat → Option Nat)) => match u9 with | (qx, g2) => g2 11 = some pp ∧ ∀ j, j < 11 → g2 j = g j) (fun (u9 : Nat × (Nat → Option Nat)) (t9 : State) => match u9 with | (qx, g2) => zx_At D cy (va_A [(pa, .inr (4, [.int mc, .ref el, .int 11])), (el, .inl (cy 2, 15, .inr (.inr (.inr (.inr g))))), (pp, .inr (17, fp))] sz) [(pa, .inr (4, [.int mc, .ref qx, .int 12])), (qx, .inl (cy 2, 15, .inr (.inr (.inr (.inr g2))))), (pp, .inr (17, fp))] t9) (va_A [(pa, .inr (4, [.int mc, .ref el, .int 11])), (el, .inl (cy 2, 15, .inr (.inr (.inr (.inr g))))), (pp, .inr (17, fp))] sz)) 0 0 (va_A [(pa, .inr (4, [.int mc, .ref el, .int 11])), (el, .inl (cy 2, 15, .inr (.inr (.inr (.inr g))))), (pp, .inr (17, fp))] sz) := by
  refine Met.ofW (cc := cJx4a65c_add_72be8) (maxL := 4) (ret := none) (by decide) rfl ?_
  intro p e s m args below meth c s₁ B hml hv
  obtain ⟨rfl, hsz, hP, hK, hD0, hZ, hN⟩ := hv
  have hx := B.exec
  have hb := B.bytes
  have hr := B.returns
  have hts := atoms_spec (ws := wzJx4a65c_add_72be8) B.pre
  have hown : s.vm.findClass RJx4a65c = some m.cls := findClass_of_methodNamed B.named
  have hlocks := B.notSynchronized
  subst hsz
  have hD := hD0.self (sz := s.heap.size)
  generalize hAe : va_A [(pa, .inr (4, [.int mc, .ref el, .int 11])), (el, .inl (cy 2, 15, .inr (.inr (.inr (.inr g))))), (pp, .inr (17, fp))] s.heap.size = A at hD hZ ⊢
  have hA : ∀ q : Nat, s.heap.size ≤ q → A q := fun q h => by rw [← hAe]; exact Or.inr h
  have hS : va_S A s.heap s.heap [] := va_S.rf
  have hP : va_P D vwCl [(pa, .inr (4, [.int mc, .ref el, .int 11])), (el, .inl (cy 2, 15, .inr (.inr (.inr (.inr g))))), (pp, .inr (17, fp))] s.heap := hP
  have hl := lv_entry ([.ref pa, .ref pp, .ref el, .int 11]) (n := 4) (Nat.le_of_ble_eq_true rfl)
  rw [lg_entry_eq]
  generalize (lg_sl ([.ref pa, .ref pp, .ref el, .int 11]) ++ List.replicate (4 - (lg_sl ([.ref pa, .ref pp, .ref el, .int 11])).length) Slot.unset).toArray = ls at hl ⊢
  have hl : lv_has ls 4 [(0, .ref pa), (1, .ref pp), (2, .ref el), (3, .int 11)] := hl
  refine lv_iload_n hx hb dJx4a65c_add_72be8_0 rfl (lv_at hl 3 rfl) ?_
  refine lv_aload_n hx hb dJx4a65c_add_72be8_1 rfl (lv_at hl 2 rfl) ?_
  refine va_alen (v := 15) hx hb hK hP 1 2 rfl rfl (show Int32.ofNat 15 = 15 from by decide) dJx4a65c_add_72be8_2 ?_
  refine lv_icmp_ne (tgt := 11) hx hb dJx4a65c_add_72be8_3 (by decide) (fun _ => ?_) (fun c_350 => absurd c_350 (by decide))
  refine lv_aload_n hx hb dJx4a65c_add_72be8_11 rfl (lv_at hl 2 rfl) ?_
  refine lv_iload_n hx hb dJx4a65c_add_72be8_12 rfl (lv_at hl 3 rfl) ?_
  refine lv_aload_n hx hb dJx4a65c_add_72be8_13 rfl (lv_at hl 1 rfl) ?_
  refine va_astqO (E := "java/lang/Object") hx hb hK hP hD hS 1 2 2 17 rfl rfl (hN.2.2.1 _ _ (List.mem_of_getElem? (i := 2467) (by decide +kernel))) rfl rfl (zx_bn (by decide)) dJx4a65c_add_72be8_14 (fun H locs hP hD hS => ?_)
  have hP : va_P D vwCl [(pa, .inr (4, [.int mc, .ref el, .int 11])), (el, .inl (cy 2, 15, .inr (.inr (.inr (.inr (va_up g (11 : Int32).toNatClampNeg (some pp))))))), (pp, .inr (17, fp))] H := hP
  have hD : va_D A [(pa, .inr (4, [.int mc, .ref el, .int 11])), (el, .inl (cy 2, 15, .inr (.inr (.inr (.inr (va_up g (11 : Int32).toNatClampNeg (some pp))))))), (pp, .inr (17, fp))] := hD
  refine lv_aload_n hx hb dJx4a65c_add_72be8_15 rfl (lv_at hl 0 rfl) ?_
  refine lv_iload_n hx hb dJx4a65c_add_72be8_16 rfl (lv_at hl 3 rfl) ?_
  refine lv_iconst (v := 1) hx hb dJx4a65c_add_72be8_17 (by decide) ?_
  refine lv_iadd hx hb dJx4a65c_add_72be8_18 ?_
  refine lv_topi (fun y9 ey9 => ?_)
  obtain rfl : y9 = 12 := by rw [ey9] <;> decide
  refine va_put (D := D) (ci := 4) (v := .int 12) (ty := .int) (C := RJx4a65c) (T := TJx4a65c) (N := 3) hx hb hts (fun w h => zx_Gc (uz_Jx4a65c w h)) tyJx4a65c tyJx4a65c_ok nmJx4a65c hown hK hP hD hS 0 rfl rfl 2 (by decide) (hts (.fieldLink RJx4a65c 48 "java/util/ArrayList" "size" "I") (zx_Gc mm_216)) (fun _ h9 => h9) rfl (by decide +kernel) rfl rfl (Nat.le_of_ble_eq_true rfl) dJx4a65c_add_72be8_19 (fun H locs hP hD hS => ?_)
  have hP : va_P D vwCl [(pa, .inr (4, [.int mc, .ref el, .int 12])), (el, .inl (cy 2, 15, .inr (.inr (.inr (.inr (va_up g (11 : Int32).toNatClampNeg (some pp))))))), (pp, .inr (17, fp))] H := hP
  have hD : va_D A [(pa, .inr (4, [.int mc, .ref el, .int 12])), (el, .inl (cy 2, 15, .inr (.inr (.inr (.inr (va_up g (11 : Int32).toNatClampNeg (some pp))))))), (pp, .inr (17, fp))] := hD
  have hP9 := hP.sub (ws' := [(pa, .inr (4, [.int mc, .ref el, .int 12])), (el, .inl (cy 2, 15, .inr (.inr (.inr (.inr (va_up g (11 : Int32).toNatClampNeg (some pp))))))), (pp, .inr (17, fp))]) [0, 1, 2] rfl
  have hD9 := hD.sub (ws' := [(pa, .inr (4, [.int mc, .ref el, .int 12])), (el, .inl (cy 2, 15, .inr (.inr (.inr (.inr (va_up g (11 : Int32).toNatClampNeg (some pp))))))), (pp, .inr (17, fp))]) [0, 1, 2] (by decide) rfl
  exact W.vret hx hb hr (fun t ht hW => ⟨⟨⟨el, (va_up g (11 : Int32).toNatClampNeg (some pp))⟩, rfl, ⟨zx_up_at _ (by decide), fun j9 hj9 => zx_up_ne _ (by show j9 ≠ 11; omega)⟩, zx_fin hP9 hD9 hK ht hW⟩, hS.F ht⟩) hS.2.2 dJx4a65c_add_72be8_22
set_option maxHeartbeats 4000000 in
set_option maxRecDepth 100000 in
theorem c_AL_add1_X12_11 (l : Launch) (hst : l.stackTraces = false) (D : va_G) (cy : Nat → ClassId) (ed sz : Nat) (pa : Nat) (el : Nat) (mc : Int32) (g : Nat → Option Nat) (pp : Nat) (fp : List Value) : Met l yJx4a65c_add_9ea2d wzJx4a65c_add_9ea2d ({ frames := 1, cells := 0, slots := 0, locals := 23 }) (zx_Pc D cy ed sz [.ref pa, .ref pp] [(pa, .inr (4, [.int mc, .ref el, .int 11])), (el, .inl (cy 2, 15, .inr (.inr (.inr (.inr g))))), (pp, .inr (17, fp))]) (va_Qi (fun (r9 : Int32) (u9 : Int32 × Nat × (Nat → Option Nat)) => match u9 with | (mx, qx, g2) => r9 = 1 ∧ g2 11 = some pp ∧ ∀ j, j < 11 → g2 j = g j) (fun (u9 : Int32 × Nat × (Nat → Option Nat)) (t9 : State) => match u9 with | (mx, qx, g2) => zx_At D cy (va_A [(pa, .inr (4, [.int mc, .ref el, .int 11])), (el, .inl (cy 2, 15, .inr (.inr (.inr (.inr g))))), (pp, .inr (17, fp))] sz) [(pa, .inr (4, [.int mx, .ref qx, .int 12])), (qx, .inl (cy 2, 15, .inr (.inr (.inr (.inr g2))))), (pp, .inr (17, fp))] t9) (va_A [(pa, .inr (4, [.int mc, .ref el, .int 11])), (el, .inl (cy 2, 15, .inr (.inr (.inr (.inr g))))), (pp, .inr (17, fp))] sz)) 0 0 (va_A [(pa, .inr (4, [.int mc, .ref el, .int 11])), (el, .inl (cy 2, 15, .inr (.inr (.inr (.inr g))))), (pp, .inr (17, fp))] sz) := by
  refine Met.ofW (cc := cJx4a65c_add_9ea2d) (maxL := 2) (ret := (some .boolean)) (by decide) rfl ?_
  intro p e s m args below meth c s₁ B hml hv
  obtain ⟨rfl, hsz, hP, hK, hD0, hZ, hN⟩ := hv
  have hx := B.exec
  have hb := B.bytes
  have hr := B.returns
  have hts := atoms_spec (ws := wzJx4a65c_add_9ea2d) B.pre
  have hown : s.vm.findClass RJx4a65c = some m.cls := findClass_of_methodNamed B.named
  have hlocks := B.notSynchronized
  subst hsz
  have hD := hD0.self (sz := s.heap.size)
  generalize hAe : va_A [(pa, .inr (4, [.int mc, .ref el, .int 11])), (el, .inl (cy 2, 15, .inr (.inr (.inr (.inr g))))), (pp, .inr (17, fp))] s.heap.size = A at hD hZ ⊢
  have hA : ∀ q : Nat, s.heap.size ≤ q → A q := fun q h => by rw [← hAe]; exact Or.inr h
  have hS : va_S A s.heap s.heap [] := va_S.rf
  have hP : va_P D vwCl [(pa, .inr (4, [.int mc, .ref el, .int 11])), (el, .inl (cy 2, 15, .inr (.inr (.inr (.inr g))))), (pp, .inr (17, fp))] s.heap := hP
  have hl := lv_entry ([.ref pa, .ref pp]) (n := 2) (Nat.le_of_ble_eq_true rfl)
  rw [lg_entry_eq]
  generalize (lg_sl ([.ref pa, .ref pp]) ++ List.replicate (2 - (lg_sl ([.ref pa, .ref pp])).length) Slot.unset).toArray = ls at hl ⊢
  have hl : lv_has ls 2 [(0, .ref pa), (1, .ref pp)] := hl
  refine lv_aload_n hx hb dJx4a65c_add_9ea2d_0 rfl (lv_at hl 0 rfl) ?_
  refine lv_dup hx hb dJx4a65c_add_9ea2d_1 rfl ?_
  refine va_get (D := D) (ci := 4) (v := .int mc) (C := RJx4a65c) (T := TJx4a65c) (N := 3) hx hb hts (fun w h => zx_Gc (uz_Jx4a65c w h)) hown hK hP 0 rfl rfl 0 (by decide) (hts (.fieldLink RJx4a65c 63 "java/util/ArrayList" "modCount" "I") (zx_Gc mm_220)) (fun x9 h9 => u_same (hts (.sameField "java/util/ArrayList" "java/util/AbstractList" "modCount" "I") (zx_Gc mm_219)) x9 h9) rfl dJx4a65c_add_9ea2d_2 ?_
  refine lv_iconst (v := 1) hx hb dJx4a65c_add_9ea2d_5 (by decide) ?_
  refine lv_iadd hx hb dJx4a65c_add_9ea2d_6 ?_
  refine va_put (D := D) (ci := 4) (v := .int (mc + (1 : Int32))) (ty := .int) (C := RJx4a65c) (T := TJx4a65c) (N := 3) hx hb hts (fun w h => zx_Gc (uz_Jx4a65c w h)) tyJx4a65c tyJx4a65c_ok nmJx4a65c hown hK hP hD hS 0 rfl rfl 0 (by decide) (hts (.fieldLink RJx4a65c 63 "java/util/ArrayList" "modCount" "I") (zx_Gc mm_220)) (fun x9 h9 => u_same (hts (.sameField "java/util/ArrayList" "java/util/AbstractList" "modCount" "I") (zx_Gc mm_219)) x9 h9) rfl (by decide +kernel) rfl rfl (Nat.le_of_ble_eq_true rfl) dJx4a65c_add_9ea2d_7 (fun H locs hP hD hS => ?_)
  have hP : va_P D vwCl [(pa, .inr (4, [.int (mc + (1 : Int32)), .ref el, .int 11])), (el, .inl (cy 2, 15, .inr (.inr (.inr (.inr g))))), (pp, .inr (17, fp))] H := hP
  have hD : va_D A [(pa, .inr (4, [.int (mc + (1 : Int32)), .ref el, .int 11])), (el, .inl (cy 2, 15, .inr (.inr (.inr (.inr g))))), (pp, .inr (17, fp))] := hD
  refine lv_aload_n hx hb dJx4a65c_add_9ea2d_10 rfl (lv_at hl 0 rfl) ?_
  refine lv_aload_n hx hb dJx4a65c_add_9ea2d_11 rfl (lv_at hl 1 rfl) ?_
  refine lv_aload_n hx hb dJx4a65c_add_9ea2d_12 rfl (lv_at hl 0 rfl) ?_
  refine va_get (D := D) (ci := 4) (v := .ref el) (C := RJx4a65c) (T := TJx4a65c) (N := 3) hx hb hts (fun w h => zx_Gc (uz_Jx4a65c w h)) hown hK hP 0 rfl rfl 1 (by decide) (hts (.fieldLink RJx4a65c 9 "java/util/ArrayList" "elementData" "[Ljava/lang/Object;") (zx_Gc mm_213)) (fun _ h9 => h9) rfl dJx4a65c_add_9ea2d_13 ?_
  refine lv_aload_n hx hb dJx4a65c_add_9ea2d_16 rfl (lv_at hl 0 rfl) ?_
  refine va_get (D := D) (ci := 4) (v := .int 11) (C := RJx4a65c) (T := TJx4a65c) (N := 3) hx hb hts (fun w h => zx_Gc (uz_Jx4a65c w h)) hown hK hP 0 rfl rfl 2 (by decide) (hts (.fieldLink RJx4a65c 48 "java/util/ArrayList" "size" "I") (zx_Gc mm_216)) (fun _ h9 => h9) rfl dJx4a65c_add_9ea2d_17 ?_
  have hPc := hP.sub (ws' := [(pa, .inr (4, [.int (mc + (1 : Int32)), .ref el, .int 11])), (el, .inl (cy 2, 15, .inr (.inr (.inr (.inr g))))), (pp, .inr (17, fp))]) [0, 1, 2] rfl
  have hDc := hD.sub (ws' := [(pa, .inr (4, [.int (mc + (1 : Int32)), .ref el, .int 11])), (el, .inl (cy 2, 15, .inr (.inr (.inr (.inr g))))), (pp, .inr (17, fp))]) [0, 1, 2] (by decide) rfl
  have hFc := va_free (wc := [(pa, .inr (4, [.int (mc + (1 : Int32)), .ref el, .int 11])), (el, .inl (cy 2, 15, .inr (.inr (.inr (.inr g))))), (pp, .inr (17, fp))]) hD hS hA [0, 1, 2] rfl
  refine va_callv (va_runV (As := [.ref pp, .ref el, .int 11]) (rest := []) ⟨hx, hb, hml, hown, hts⟩ (c_AL_add3_X12_11 l hst D cy ed H.size pa el (mc + (1 : Int32)) g pp fp) (cwV 3 hts (zx_GV mm_776 mm_778 mm_5 mm_77 mm_779) rfl rfl rfl (by decide +kernel) ⟨(Nat.le_of_ble_eq_true rfl), (Nat.le_of_ble_eq_true rfl)⟩) ⟨zx_blind, va_recv hK hPc (ci := 4) (q0 := 0) rfl rfl, zx_give hPc hK hDc hS hFc hZ hN⟩ rfl rfl hl.1 rfl (lv_room (Nat.le_of_ble_eq_true rfl)) dJx4a65c_add_9ea2d_20 ⟨(Nat.le_of_ble_eq_true rfl), (Nat.le_of_ble_eq_true rfl)⟩) hS (fun q _ h => hFc q h) hFc (fun u t H1 locs ht hvm hw hB hz1 hk1 hS => ?_)
  obtain ⟨qx_351, g2_352⟩ := u
  have h_353 := hw
  obtain ⟨hP, hD⟩ := zx_join (wr := []) (w1 := [(pa, .inr (4, [.int (mc + (1 : Int32)), .ref qx_351, .int 12])), (qx_351, .inl (cy 2, 15, .inr (.inr (.inr (.inr g2_352))))), (pp, .inr (17, fp))]) [0, 1, 2] [] rfl rfl (by decide) (by decide) hP hD hk1 hFc hB ht
  generalize H1 = H at hP hS ⊢
  have hP : va_P D vwCl [(pa, .inr (4, [.int (mc + (1 : Int32)), .ref qx_351, .int 12])), (qx_351, .inl (cy 2, 15, .inr (.inr (.inr (.inr g2_352))))), (pp, .inr (17, fp))] H := hP
  have hD : va_D A [(pa, .inr (4, [.int (mc + (1 : Int32)), .ref qx_351, .int 12])), (qx_351, .inl (cy 2, 15, .inr (.inr (.inr (.inr g2_352))))), (pp, .inr (17, fp))] := hD
  refine W.widen (k := 0) (n := 0) (Nat.le_of_ble_eq_true rfl) (Nat.le_of_ble_eq_true rfl) ?_
  obtain ⟨hs_354, hs_355⟩ := h_353
  refine lv_iconst (v := 1) hx hb dJx4a65c_add_9ea2d_23 (by decide) ?_
  have hP9 := hP.sub (ws' := [(pa, .inr (4, [.int (mc + (1 : Int32)), .ref qx_351, .int 12])), (qx_351, .inl (cy 2, 15, .inr (.inr (.inr (.inr g2_352))))), (pp, .inr (17, fp))]) [0, 1, 2] rfl
  have hD9 := hD.sub (ws' := [(pa, .inr (4, [.int (mc + (1 : Int32)), .ref qx_351, .int 12])), (qx_351, .inl (cy 2, 15, .inr (.inr (.inr (.inr g2_352))))), (pp, .inr (17, fp))]) [0, 1, 2] (by decide) rfl
  exact W.zret (v := 1) hx hb hr rfl (fun t ht hW => ⟨⟨1, ⟨(mc + (1 : Int32)), qx_351, g2_352⟩, rfl, ⟨rfl, ⟨hs_354, hs_355⟩⟩, zx_fin hP9 hD9 hK ht hW⟩, hS.F ht⟩) hS.2.2 dJx4a65c_add_9ea2d_24
set_option maxHeartbeats 4000000 in
set_option maxRecDepth 100000 in
theorem c_AL_add3_X12_12 (l : Launch) (hst : l.stackTraces = false) (D : va_G) (cy : Nat → ClassId) (ed sz : Nat) (pa : Nat) (el : Nat) (mc : Int32) (g : Nat → Option Nat) (pp : Nat) (fp : List Value) : Met l yJx4a65c_add_72be8 wzJx4a65c_add_72be8 ({ frames := 0, cells := 0, slots := 0, locals := 0 }) (zx_Pc D cy ed sz [.ref pa, .ref pp, .ref el, .int 12] [(pa, .inr (4, [.int mc, .ref el, .int 12])), (el, .inl (cy 2, 15, .inr (.inr (.inr (.inr g))))), (pp, .inr (17, fp))]) (va_Qv (fun (u9 : Nat × (Nat → Option Nat)) => match u9 with | (qx, g2) => g2 12 = some pp ∧ ∀ j, j < 12 → g2 j = g j) (fun (u9 : Nat × (Nat → Option Nat)) (t9 : State) => match u9 with | (qx, g2) => zx_At D cy (va_A [(pa, .inr (4, [.int mc, .ref el, .int 12])), (el, .inl (cy 2, 15, .inr (.inr (.inr (.inr g))))), (pp, .inr (17, fp))] sz) [(pa, .inr (4, [.int mc, .ref qx, .int 13])), (qx, .inl (cy 2, 15, .inr (.inr (.inr (.inr g2))))), (pp, .inr (17, fp))] t9) (va_A [(pa, .inr (4, [.int mc, .ref el, .int 12])), (el, .inl (cy 2, 15, .inr (.inr (.inr (.inr g))))), (pp, .inr (17, fp))] sz)) 0 0 (va_A [(pa, .inr (4, [.int mc, .ref el, .int 12])), (el, .inl (cy 2, 15, .inr (.inr (.inr (.inr g))))), (pp, .inr (17, fp))] sz) := by
  refine Met.ofW (cc := cJx4a65c_add_72be8) (maxL := 4) (ret := none) (by decide) rfl ?_
  intro p e s m args below meth c s₁ B hml hv
  obtain ⟨rfl, hsz, hP, hK, hD0, hZ, hN⟩ := hv
  have hx := B.exec
  have hb := B.bytes
  have hr := B.returns
  have hts := atoms_spec (ws := wzJx4a65c_add_72be8) B.pre
  have hown : s.vm.findClass RJx4a65c = some m.cls := findClass_of_methodNamed B.named
  have hlocks := B.notSynchronized
  subst hsz
  have hD := hD0.self (sz := s.heap.size)
  generalize hAe : va_A [(pa, .inr (4, [.int mc, .ref el, .int 12])), (el, .inl (cy 2, 15, .inr (.inr (.inr (.inr g))))), (pp, .inr (17, fp))] s.heap.size = A at hD hZ ⊢
  have hA : ∀ q : Nat, s.heap.size ≤ q → A q := fun q h => by rw [← hAe]; exact Or.inr h
  have hS : va_S A s.heap s.heap [] := va_S.rf
  have hP : va_P D vwCl [(pa, .inr (4, [.int mc, .ref el, .int 12])), (el, .inl (cy 2, 15, .inr (.inr (.inr (.inr g))))), (pp, .inr (17, fp))] s.heap := hP
  have hl := lv_entry ([.ref pa, .ref pp, .ref el, .int 12]) (n := 4) (Nat.le_of_ble_eq_true rfl)
  rw [lg_entry_eq]
  generalize (lg_sl ([.ref pa, .ref pp, .ref el, .int 12]) ++ List.replicate (4 - (lg_sl ([.ref pa, .ref pp, .ref el, .int 12])).length) Slot.unset).toArray = ls at hl ⊢
  have hl : lv_has ls 4 [(0, .ref pa), (1, .ref pp), (2, .ref el), (3, .int 12)] := hl
  refine lv_iload_n hx hb dJx4a65c_add_72be8_0 rfl (lv_at hl 3 rfl) ?_
  refine lv_aload_n hx hb dJx4a65c_add_72be8_1 rfl (lv_at hl 2 rfl) ?_
  refine va_alen (v := 15) hx hb hK hP 1 2 rfl rfl (show Int32.ofNat 15 = 15 from by decide) dJx4a65c_add_72be8_2 ?_
  refine lv_icmp_ne (tgt := 11) hx hb dJx4a65c_add_72be8_3 (by decide) (fun _ => ?_) (fun c_356 => absurd c_356 (by decide))
  refine lv_aload_n hx hb dJx4a65c_add_72be8_11 rfl (lv_at hl 2 rfl) ?_
  refine lv_iload_n hx hb dJx4a65c_add_72be8_12 rfl (lv_at hl 3 rfl) ?_
  refine lv_aload_n hx hb dJx4a65c_add_72be8_13 rfl (lv_at hl 1 rfl) ?_
  refine va_astqO (E := "java/lang/Object") hx hb hK hP hD hS 1 2 2 17 rfl rfl (hN.2.2.1 _ _ (List.mem_of_getElem? (i := 2467) (by decide +kernel))) rfl rfl (zx_bn (by decide)) dJx4a65c_add_72be8_14 (fun H locs hP hD hS => ?_)
  have hP : va_P D vwCl [(pa, .inr (4, [.int mc, .ref el, .int 12])), (el, .inl (cy 2, 15, .inr (.inr (.inr (.inr (va_up g (12 : Int32).toNatClampNeg (some pp))))))), (pp, .inr (17, fp))] H := hP
  have hD : va_D A [(pa, .inr (4, [.int mc, .ref el, .int 12])), (el, .inl (cy 2, 15, .inr (.inr (.inr (.inr (va_up g (12 : Int32).toNatClampNeg (some pp))))))), (pp, .inr (17, fp))] := hD
  refine lv_aload_n hx hb dJx4a65c_add_72be8_15 rfl (lv_at hl 0 rfl) ?_
  refine lv_iload_n hx hb dJx4a65c_add_72be8_16 rfl (lv_at hl 3 rfl) ?_
  refine lv_iconst (v := 1) hx hb dJx4a65c_add_72be8_17 (by decide) ?_
  refine lv_iadd hx hb dJx4a65c_add_72be8_18 ?_
  refine lv_topi (fun y9 ey9 => ?_)
  obtain rfl : y9 = 13 := by rw [ey9] <;> decide
  refine va_put (D := D) (ci := 4) (v := .int 13) (ty := .int) (C := RJx4a65c) (T := TJx4a65c) (N := 3) hx hb hts (fun w h => zx_Gc (uz_Jx4a65c w h)) tyJx4a65c tyJx4a65c_ok nmJx4a65c hown hK hP hD hS 0 rfl rfl 2 (by decide) (hts (.fieldLink RJx4a65c 48 "java/util/ArrayList" "size" "I") (zx_Gc mm_216)) (fun _ h9 => h9) rfl (by decide +kernel) rfl rfl (Nat.le_of_ble_eq_true rfl) dJx4a65c_add_72be8_19 (fun H locs hP hD hS => ?_)
  have hP : va_P D vwCl [(pa, .inr (4, [.int mc, .ref el, .int 13])), (el, .inl (cy 2, 15, .inr (.inr (.inr (.inr (va_up g (12 : Int32).toNatClampNeg (some pp))))))), (pp, .inr (17, fp))] H := hP
  have hD : va_D A [(pa, .inr (4, [.int mc, .ref el, .int 13])), (el, .inl (cy 2, 15, .inr (.inr (.inr (.inr (va_up g (12 : Int32).toNatClampNeg (some pp))))))), (pp, .inr (17, fp))] := hD
  have hP9 := hP.sub (ws' := [(pa, .inr (4, [.int mc, .ref el, .int 13])), (el, .inl (cy 2, 15, .inr (.inr (.inr (.inr (va_up g (12 : Int32).toNatClampNeg (some pp))))))), (pp, .inr (17, fp))]) [0, 1, 2] rfl
  have hD9 := hD.sub (ws' := [(pa, .inr (4, [.int mc, .ref el, .int 13])), (el, .inl (cy 2, 15, .inr (.inr (.inr (.inr (va_up g (12 : Int32).toNatClampNeg (some pp))))))), (pp, .inr (17, fp))]) [0, 1, 2] (by decide) rfl
  exact W.vret hx hb hr (fun t ht hW => ⟨⟨⟨el, (va_up g (12 : Int32).toNatClampNeg (some pp))⟩, rfl, ⟨zx_up_at _ (by decide), fun j9 hj9 => zx_up_ne _ (by show j9 ≠ 12; omega)⟩, zx_fin hP9 hD9 hK ht hW⟩, hS.F ht⟩) hS.2.2 dJx4a65c_add_72be8_22
set_option maxHeartbeats 4000000 in
set_option maxRecDepth 100000 in
theorem c_AL_add1_X12_12 (l : Launch) (hst : l.stackTraces = false) (D : va_G) (cy : Nat → ClassId) (ed sz : Nat) (pa : Nat) (el : Nat) (mc : Int32) (g : Nat → Option Nat) (pp : Nat) (fp : List Value) : Met l yJx4a65c_add_9ea2d wzJx4a65c_add_9ea2d ({ frames := 1, cells := 0, slots := 0, locals := 23 }) (zx_Pc D cy ed sz [.ref pa, .ref pp] [(pa, .inr (4, [.int mc, .ref el, .int 12])), (el, .inl (cy 2, 15, .inr (.inr (.inr (.inr g))))), (pp, .inr (17, fp))]) (va_Qi (fun (r9 : Int32) (u9 : Int32 × Nat × (Nat → Option Nat)) => match u9 with | (mx, qx, g2) => r9 = 1 ∧ g2 12 = some pp ∧ ∀ j, j < 12 → g2 j = g j) (fun (u9 : Int32 × Nat × (Nat → Option Nat)) (t9 : State) => match u9 with | (mx, qx, g2) => zx_At D cy (va_A [(pa, .inr (4, [.int mc, .ref el, .int 12])), (el, .inl (cy 2, 15, .inr (.inr (.inr (.inr g))))), (pp, .inr (17, fp))] sz) [(pa, .inr (4, [.int mx, .ref qx, .int 13])), (qx, .inl (cy 2, 15, .inr (.inr (.inr (.inr g2))))), (pp, .inr (17, fp))] t9) (va_A [(pa, .inr (4, [.int mc, .ref el, .int 12])), (el, .inl (cy 2, 15, .inr (.inr (.inr (.inr g))))), (pp, .inr (17, fp))] sz)) 0 0 (va_A [(pa, .inr (4, [.int mc, .ref el, .int 12])), (el, .inl (cy 2, 15, .inr (.inr (.inr (.inr g))))), (pp, .inr (17, fp))] sz) := by
  refine Met.ofW (cc := cJx4a65c_add_9ea2d) (maxL := 2) (ret := (some .boolean)) (by decide) rfl ?_
  intro p e s m args below meth c s₁ B hml hv
  obtain ⟨rfl, hsz, hP, hK, hD0, hZ, hN⟩ := hv
  have hx := B.exec
  have hb := B.bytes
  have hr := B.returns
  have hts := atoms_spec (ws := wzJx4a65c_add_9ea2d) B.pre
  have hown : s.vm.findClass RJx4a65c = some m.cls := findClass_of_methodNamed B.named
  have hlocks := B.notSynchronized
  subst hsz
  have hD := hD0.self (sz := s.heap.size)
  generalize hAe : va_A [(pa, .inr (4, [.int mc, .ref el, .int 12])), (el, .inl (cy 2, 15, .inr (.inr (.inr (.inr g))))), (pp, .inr (17, fp))] s.heap.size = A at hD hZ ⊢
  have hA : ∀ q : Nat, s.heap.size ≤ q → A q := fun q h => by rw [← hAe]; exact Or.inr h
  have hS : va_S A s.heap s.heap [] := va_S.rf
  have hP : va_P D vwCl [(pa, .inr (4, [.int mc, .ref el, .int 12])), (el, .inl (cy 2, 15, .inr (.inr (.inr (.inr g))))), (pp, .inr (17, fp))] s.heap := hP
  have hl := lv_entry ([.ref pa, .ref pp]) (n := 2) (Nat.le_of_ble_eq_true rfl)
  rw [lg_entry_eq]
  generalize (lg_sl ([.ref pa, .ref pp]) ++ List.replicate (2 - (lg_sl ([.ref pa, .ref pp])).length) Slot.unset).toArray = ls at hl ⊢
  have hl : lv_has ls 2 [(0, .ref pa), (1, .ref pp)] := hl
  refine lv_aload_n hx hb dJx4a65c_add_9ea2d_0 rfl (lv_at hl 0 rfl) ?_
  refine lv_dup hx hb dJx4a65c_add_9ea2d_1 rfl ?_
  refine va_get (D := D) (ci := 4) (v := .int mc) (C := RJx4a65c) (T := TJx4a65c) (N := 3) hx hb hts (fun w h => zx_Gc (uz_Jx4a65c w h)) hown hK hP 0 rfl rfl 0 (by decide) (hts (.fieldLink RJx4a65c 63 "java/util/ArrayList" "modCount" "I") (zx_Gc mm_220)) (fun x9 h9 => u_same (hts (.sameField "java/util/ArrayList" "java/util/AbstractList" "modCount" "I") (zx_Gc mm_219)) x9 h9) rfl dJx4a65c_add_9ea2d_2 ?_
  refine lv_iconst (v := 1) hx hb dJx4a65c_add_9ea2d_5 (by decide) ?_
  refine lv_iadd hx hb dJx4a65c_add_9ea2d_6 ?_
  refine va_put (D := D) (ci := 4) (v := .int (mc + (1 : Int32))) (ty := .int) (C := RJx4a65c) (T := TJx4a65c) (N := 3) hx hb hts (fun w h => zx_Gc (uz_Jx4a65c w h)) tyJx4a65c tyJx4a65c_ok nmJx4a65c hown hK hP hD hS 0 rfl rfl 0 (by decide) (hts (.fieldLink RJx4a65c 63 "java/util/ArrayList" "modCount" "I") (zx_Gc mm_220)) (fun x9 h9 => u_same (hts (.sameField "java/util/ArrayList" "java/util/AbstractList" "modCount" "I") (zx_Gc mm_219)) x9 h9) rfl (by decide +kernel) rfl rfl (Nat.le_of_ble_eq_true rfl) dJx4a65c_add_9ea2d_7 (fun H locs hP hD hS => ?_)
  have hP : va_P D vwCl [(pa, .inr (4, [.int (mc + (1 : Int32)), .ref el, .int 12])), (el, .inl (cy 2, 15, .inr (.inr (.inr (.inr g))))), (pp, .inr (17, fp))] H := hP
  have hD : va_D A [(pa, .inr (4, [.int (mc + (1 : Int32)), .ref el, .int 12])), (el, .inl (cy 2, 15, .inr (.inr (.inr (.inr g))))), (pp, .inr (17, fp))] := hD
  refine lv_aload_n hx hb dJx4a65c_add_9ea2d_10 rfl (lv_at hl 0 rfl) ?_
  refine lv_aload_n hx hb dJx4a65c_add_9ea2d_11 rfl (lv_at hl 1 rfl) ?_
  refine lv_aload_n hx hb dJx4a65c_add_9ea2d_12 rfl (lv_at hl 0 rfl) ?_
  refine va_get (D := D) (ci := 4) (v := .ref el) (C := RJx4a65c) (T := TJx4a65c) (N := 3) hx hb hts (fun w h => zx_Gc (uz_Jx4a65c w h)) hown hK hP 0 rfl rfl 1 (by decide) (hts (.fieldLink RJx4a65c 9 "java/util/ArrayList" "elementData" "[Ljava/lang/Object;") (zx_Gc mm_213)) (fun _ h9 => h9) rfl dJx4a65c_add_9ea2d_13 ?_
  refine lv_aload_n hx hb dJx4a65c_add_9ea2d_16 rfl (lv_at hl 0 rfl) ?_
  refine va_get (D := D) (ci := 4) (v := .int 12) (C := RJx4a65c) (T := TJx4a65c) (N := 3) hx hb hts (fun w h => zx_Gc (uz_Jx4a65c w h)) hown hK hP 0 rfl rfl 2 (by decide) (hts (.fieldLink RJx4a65c 48 "java/util/ArrayList" "size" "I") (zx_Gc mm_216)) (fun _ h9 => h9) rfl dJx4a65c_add_9ea2d_17 ?_
  have hPc := hP.sub (ws' := [(pa, .inr (4, [.int (mc + (1 : Int32)), .ref el, .int 12])), (el, .inl (cy 2, 15, .inr (.inr (.inr (.inr g))))), (pp, .inr (17, fp))]) [0, 1, 2] rfl
  have hDc := hD.sub (ws' := [(pa, .inr (4, [.int (mc + (1 : Int32)), .ref el, .int 12])), (el, .inl (cy 2, 15, .inr (.inr (.inr (.inr g))))), (pp, .inr (17, fp))]) [0, 1, 2] (by decide) rfl
  have hFc := va_free (wc := [(pa, .inr (4, [.int (mc + (1 : Int32)), .ref el, .int 12])), (el, .inl (cy 2, 15, .inr (.inr (.inr (.inr g))))), (pp, .inr (17, fp))]) hD hS hA [0, 1, 2] rfl
  refine va_callv (va_runV (As := [.ref pp, .ref el, .int 12]) (rest := []) ⟨hx, hb, hml, hown, hts⟩ (c_AL_add3_X12_12 l hst D cy ed H.size pa el (mc + (1 : Int32)) g pp fp) (cwV 3 hts (zx_GV mm_776 mm_778 mm_5 mm_77 mm_779) rfl rfl rfl (by decide +kernel) ⟨(Nat.le_of_ble_eq_true rfl), (Nat.le_of_ble_eq_true rfl)⟩) ⟨zx_blind, va_recv hK hPc (ci := 4) (q0 := 0) rfl rfl, zx_give hPc hK hDc hS hFc hZ hN⟩ rfl rfl hl.1 rfl (lv_room (Nat.le_of_ble_eq_true rfl)) dJx4a65c_add_9ea2d_20 ⟨(Nat.le_of_ble_eq_true rfl), (Nat.le_of_ble_eq_true rfl)⟩) hS (fun q _ h => hFc q h) hFc (fun u t H1 locs ht hvm hw hB hz1 hk1 hS => ?_)
  obtain ⟨qx_357, g2_358⟩ := u
  have h_359 := hw
  obtain ⟨hP, hD⟩ := zx_join (wr := []) (w1 := [(pa, .inr (4, [.int (mc + (1 : Int32)), .ref qx_357, .int 13])), (qx_357, .inl (cy 2, 15, .inr (.inr (.inr (.inr g2_358))))), (pp, .inr (17, fp))]) [0, 1, 2] [] rfl rfl (by decide) (by decide) hP hD hk1 hFc hB ht
  generalize H1 = H at hP hS ⊢
  have hP : va_P D vwCl [(pa, .inr (4, [.int (mc + (1 : Int32)), .ref qx_357, .int 13])), (qx_357, .inl (cy 2, 15, .inr (.inr (.inr (.inr g2_358))))), (pp, .inr (17, fp))] H := hP
  have hD : va_D A [(pa, .inr (4, [.int (mc + (1 : Int32)), .ref qx_357, .int 13])), (qx_357, .inl (cy 2, 15, .inr (.inr (.inr (.inr g2_358))))), (pp, .inr (17, fp))] := hD
  refine W.widen (k := 0) (n := 0) (Nat.le_of_ble_eq_true rfl) (Nat.le_of_ble_eq_true rfl) ?_
  obtain ⟨hs_360, hs_361⟩ := h_359
  refine lv_iconst (v := 1) hx hb dJx4a65c_add_9ea2d_23 (by decide) ?_
  have hP9 := hP.sub (ws' := [(pa, .inr (4, [.int (mc + (1 : Int32)), .ref qx_357, .int 13])), (qx_357, .inl (cy 2, 15, .inr (.inr (.inr (.inr g2_358))))), (pp, .inr (17, fp))]) [0, 1, 2] rfl
  have hD9 := hD.sub (ws' := [(pa, .inr (4, [.int (mc + (1 : Int32)), .ref qx_357, .int 13])), (qx_357, .inl (cy 2, 15, .inr (.inr (.inr (.inr g2_358))))), (pp, .inr (17, fp))]) [0, 1, 2] (by decide) rfl
  exact W.zret (v := 1) hx hb hr rfl (fun t ht hW => ⟨⟨1, ⟨(mc + (1 : Int32)), qx_357, g2_358⟩, rfl, ⟨rfl, ⟨hs_360, hs_361⟩⟩, zx_fin hP9 hD9 hK ht hW⟩, hS.F ht⟩) hS.2.2 dJx4a65c_add_9ea2d_24
set_option maxHeartbeats 4000000 in
set_option maxRecDepth 100000 in
theorem c_AL_add3_X12_13 (l : Launch) (hst : l.stackTraces = false) (D : va_G) (cy : Nat → ClassId) (ed sz : Nat) (pa : Nat) (el : Nat) (mc : Int32) (g : Nat → Option Nat) (pp : Nat) (fp : List Value) : Met l yJx4a65c_add_72be8 wzJx4a65c_add_72be8 ({ frames := 0, cells := 0, slots := 0, locals := 0 }) (zx_Pc D cy ed sz [.ref pa, .ref pp, .ref el, .int 13] [(pa, .inr (4, [.int mc, .ref el, .int 13])), (el, .inl (cy 2, 15, .inr (.inr (.inr (.inr g))))), (pp, .inr (17, fp))]) (va_Qv (fun (u9 : Nat × (Nat → Option Nat)) => match u9 with | (qx, g2) => g2 13 = some pp ∧ ∀ j, j < 13 → g2 j = g j) (fun (u9 : Nat × (Nat → Option Nat)) (t9 : State) => match u9 with | (qx, g2) => zx_At D cy (va_A [(pa, .inr (4, [.int mc, .ref el, .int 13])), (el, .inl (cy 2, 15, .inr (.inr (.inr (.inr g))))), (pp, .inr (17, fp))] sz) [(pa, .inr (4, [.int mc, .ref qx, .int 14])), (qx, .inl (cy 2, 15, .inr (.inr (.inr (.inr g2))))), (pp, .inr (17, fp))] t9) (va_A [(pa, .inr (4, [.int mc, .ref el, .int 13])), (el, .inl (cy 2, 15, .inr (.inr (.inr (.inr g))))), (pp, .inr (17, fp))] sz)) 0 0 (va_A [(pa, .inr (4, [.int mc, .ref el, .int 13])), (el, .inl (cy 2, 15, .inr (.inr (.inr (.inr g))))), (pp, .inr (17, fp))] sz) := by
  refine Met.ofW (cc := cJx4a65c_add_72be8) (maxL := 4) (ret := none) (by decide) rfl ?_
  intro p e s m args below meth c s₁ B hml hv
  obtain ⟨rfl, hsz, hP, hK, hD0, hZ, hN⟩ := hv
  have hx := B.exec
  have hb := B.bytes
  have hr := B.returns
  have hts := atoms_spec (ws := wzJx4a65c_add_72be8) B.pre
  have hown : s.vm.findClass RJx4a65c = some m.cls := findClass_of_methodNamed B.named
  have hlocks := B.notSynchronized
  subst hsz
  have hD := hD0.self (sz := s.heap.size)
  generalize hAe : va_A [(pa, .inr (4, [.int mc, .ref el, .int 13])), (el, .inl (cy 2, 15, .inr (.inr (.inr (.inr g))))), (pp, .inr (17, fp))] s.heap.size = A at hD hZ ⊢
  have hA : ∀ q : Nat, s.heap.size ≤ q → A q := fun q h => by rw [← hAe]; exact Or.inr h
  have hS : va_S A s.heap s.heap [] := va_S.rf
  have hP : va_P D vwCl [(pa, .inr (4, [.int mc, .ref el, .int 13])), (el, .inl (cy 2, 15, .inr (.inr (.inr (.inr g))))), (pp, .inr (17, fp))] s.heap := hP
  have hl := lv_entry ([.ref pa, .ref pp, .ref el, .int 13]) (n := 4) (Nat.le_of_ble_eq_true rfl)
  rw [lg_entry_eq]
  generalize (lg_sl ([.ref pa, .ref pp, .ref el, .int 13]) ++ List.replicate (4 - (lg_sl ([.ref pa, .ref pp, .ref el, .int 13])).length) Slot.unset).toArray = ls at hl ⊢
  have hl : lv_has ls 4 [(0, .ref pa), (1, .ref pp), (2, .ref el), (3, .int 13)] := hl
  refine lv_iload_n hx hb dJx4a65c_add_72be8_0 rfl (lv_at hl 3 rfl) ?_
  refine lv_aload_n hx hb dJx4a65c_add_72be8_1 rfl (lv_at hl 2 rfl) ?_
  refine va_alen (v := 15) hx hb hK hP 1 2 rfl rfl (show Int32.ofNat 15 = 15 from by decide) dJx4a65c_add_72be8_2 ?_
  refine lv_icmp_ne (tgt := 11) hx hb dJx4a65c_add_72be8_3 (by decide) (fun _ => ?_) (fun c_362 => absurd c_362 (by decide))
  refine lv_aload_n hx hb dJx4a65c_add_72be8_11 rfl (lv_at hl 2 rfl) ?_
  refine lv_iload_n hx hb dJx4a65c_add_72be8_12 rfl (lv_at hl 3 rfl) ?_
  refine lv_aload_n hx hb dJx4a65c_add_72be8_13 rfl (lv_at hl 1 rfl) ?_
  refine va_astqO (E := "java/lang/Object") hx hb hK hP hD hS 1 2 2 17 rfl rfl (hN.2.2.1 _ _ (List.mem_of_getElem? (i := 2467) (by decide +kernel))) rfl rfl (zx_bn (by decide)) dJx4a65c_add_72be8_14 (fun H locs hP hD hS => ?_)
  have hP : va_P D vwCl [(pa, .inr (4, [.int mc, .ref el, .int 13])), (el, .inl (cy 2, 15, .inr (.inr (.inr (.inr (va_up g (13 : Int32).toNatClampNeg (some pp))))))), (pp, .inr (17, fp))] H := hP
  have hD : va_D A [(pa, .inr (4, [.int mc, .ref el, .int 13])), (el, .inl (cy 2, 15, .inr (.inr (.inr (.inr (va_up g (13 : Int32).toNatClampNeg (some pp))))))), (pp, .inr (17, fp))] := hD
  refine lv_aload_n hx hb dJx4a65c_add_72be8_15 rfl (lv_at hl 0 rfl) ?_
  refine lv_iload_n hx hb dJx4a65c_add_72be8_16 rfl (lv_at hl 3 rfl) ?_
  refine lv_iconst (v := 1) hx hb dJx4a65c_add_72be8_17 (by decide) ?_
  refine lv_iadd hx hb dJx4a65c_add_72be8_18 ?_
  refine lv_topi (fun y9 ey9 => ?_)
  obtain rfl : y9 = 14 := by rw [ey9] <;> decide
  refine va_put (D := D) (ci := 4) (v := .int 14) (ty := .int) (C := RJx4a65c) (T := TJx4a65c) (N := 3) hx hb hts (fun w h => zx_Gc (uz_Jx4a65c w h)) tyJx4a65c tyJx4a65c_ok nmJx4a65c hown hK hP hD hS 0 rfl rfl 2 (by decide) (hts (.fieldLink RJx4a65c 48 "java/util/ArrayList" "size" "I") (zx_Gc mm_216)) (fun _ h9 => h9) rfl (by decide +kernel) rfl rfl (Nat.le_of_ble_eq_true rfl) dJx4a65c_add_72be8_19 (fun H locs hP hD hS => ?_)
  have hP : va_P D vwCl [(pa, .inr (4, [.int mc, .ref el, .int 14])), (el, .inl (cy 2, 15, .inr (.inr (.inr (.inr (va_up g (13 : Int32).toNatClampNeg (some pp))))))), (pp, .inr (17, fp))] H := hP
  have hD : va_D A [(pa, .inr (4, [.int mc, .ref el, .int 14])), (el, .inl (cy 2, 15, .inr (.inr (.inr (.inr (va_up g (13 : Int32).toNatClampNeg (some pp))))))), (pp, .inr (17, fp))] := hD
  have hP9 := hP.sub (ws' := [(pa, .inr (4, [.int mc, .ref el, .int 14])), (el, .inl (cy 2, 15, .inr (.inr (.inr (.inr (va_up g (13 : Int32).toNatClampNeg (some pp))))))), (pp, .inr (17, fp))]) [0, 1, 2] rfl
  have hD9 := hD.sub (ws' := [(pa, .inr (4, [.int mc, .ref el, .int 14])), (el, .inl (cy 2, 15, .inr (.inr (.inr (.inr (va_up g (13 : Int32).toNatClampNeg (some pp))))))), (pp, .inr (17, fp))]) [0, 1, 2] (by decide) rfl
  exact W.vret hx hb hr (fun t ht hW => ⟨⟨⟨el, (va_up g (13 : Int32).toNatClampNeg (some pp))⟩, rfl, ⟨zx_up_at _ (by decide), fun j9 hj9 => zx_up_ne _ (by show j9 ≠ 13; omega)⟩, zx_fin hP9 hD9 hK ht hW⟩, hS.F ht⟩) hS.2.2 dJx4a65c_add_72be8_22
set_option maxHeartbeats 4000000 in
set_option maxRecDepth 100000 in
theorem c_AL_add1_X12_13 (l : Launch) (hst : l.stackTraces = false) (D : va_G) (cy : Nat → ClassId) (ed sz : Nat) (pa : Nat) (el : Nat) (mc : Int32) (g : Nat → Option Nat) (pp : Nat) (fp : List Value) : Met l yJx4a65c_add_9ea2d wzJx4a65c_add_9ea2d ({ frames := 1, cells := 0, slots := 0, locals := 23 }) (zx_Pc D cy ed sz [.ref pa, .ref pp] [(pa, .inr (4, [.int mc, .ref el, .int 13])), (el, .inl (cy 2, 15, .inr (.inr (.inr (.inr g))))), (pp, .inr (17, fp))]) (va_Qi (fun (r9 : Int32) (u9 : Int32 × Nat × (Nat → Option Nat)) => match u9 with | (mx, qx, g2) => r9 = 1 ∧ g2 13 = some pp ∧ ∀ j, j < 13 → g2 j = g j) (fun (u9 : Int32 × Nat × (Nat → Option Nat)) (t9 : State) => match u9 with | (mx, qx, g2) => zx_At D cy (va_A [(pa, .inr (4, [.int mc, .ref el, .int 13])), (el, .inl (cy 2, 15, .inr (.inr (.inr (.inr g))))), (pp, .inr (17, fp))] sz) [(pa, .inr (4, [.int mx, .ref qx, .int 14])), (qx, .inl (cy 2, 15, .inr (.inr (.inr (.inr g2))))), (pp, .inr (17, fp))] t9) (va_A [(pa, .inr (4, [.int mc, .ref el, .int 13])), (el, .inl (cy 2, 15, .inr (.inr (.inr (.inr g))))), (pp, .inr (17, fp))] sz)) 0 0 (va_A [(pa, .inr (4, [.int mc, .ref el, .int 13])), (el, .inl (cy 2, 15, .inr (.inr (.inr (.inr g))))), (pp, .inr (17, fp))] sz) := by
  refine Met.ofW (cc := cJx4a65c_add_9ea2d) (maxL := 2) (ret := (some .boolean)) (by decide) rfl ?_
  intro p e s m args below meth c s₁ B hml hv
  obtain ⟨rfl, hsz, hP, hK, hD0, hZ, hN⟩ := hv
  have hx := B.exec
  have hb := B.bytes
  have hr := B.returns
  have hts := atoms_spec (ws := wzJx4a65c_add_9ea2d) B.pre
  have hown : s.vm.findClass RJx4a65c = some m.cls := findClass_of_methodNamed B.named
  have hlocks := B.notSynchronized
  subst hsz
  have hD := hD0.self (sz := s.heap.size)
  generalize hAe : va_A [(pa, .inr (4, [.int mc, .ref el, .int 13])), (el, .inl (cy 2, 15, .inr (.inr (.inr (.inr g))))), (pp, .inr (17, fp))] s.heap.size = A at hD hZ ⊢
  have hA : ∀ q : Nat, s.heap.size ≤ q → A q := fun q h => by rw [← hAe]; exact Or.inr h
  have hS : va_S A s.heap s.heap [] := va_S.rf
  have hP : va_P D vwCl [(pa, .inr (4, [.int mc, .ref el, .int 13])), (el, .inl (cy 2, 15, .inr (.inr (.inr (.inr g))))), (pp, .inr (17, fp))] s.heap := hP
  have hl := lv_entry ([.ref pa, .ref pp]) (n := 2) (Nat.le_of_ble_eq_true rfl)
  rw [lg_entry_eq]
  generalize (lg_sl ([.ref pa, .ref pp]) ++ List.replicate (2 - (lg_sl ([.ref pa, .ref pp])).length) Slot.unset).toArray = ls at hl ⊢
  have hl : lv_has ls 2 [(0, .ref pa), (1, .ref pp)] := hl
  refine lv_aload_n hx hb dJx4a65c_add_9ea2d_0 rfl (lv_at hl 0 rfl) ?_
  refine lv_dup hx hb dJx4a65c_add_9ea2d_1 rfl ?_
  refine va_get (D := D) (ci := 4) (v := .int mc) (C := RJx4a65c) (T := TJx4a65c) (N := 3) hx hb hts (fun w h => zx_Gc (uz_Jx4a65c w h)) hown hK hP 0 rfl rfl 0 (by decide) (hts (.fieldLink RJx4a65c 63 "java/util/ArrayList" "modCount" "I") (zx_Gc mm_220)) (fun x9 h9 => u_same (hts (.sameField "java/util/ArrayList" "java/util/AbstractList" "modCount" "I") (zx_Gc mm_219)) x9 h9) rfl dJx4a65c_add_9ea2d_2 ?_
  refine lv_iconst (v := 1) hx hb dJx4a65c_add_9ea2d_5 (by decide) ?_
  refine lv_iadd hx hb dJx4a65c_add_9ea2d_6 ?_
  refine va_put (D := D) (ci := 4) (v := .int (mc + (1 : Int32))) (ty := .int) (C := RJx4a65c) (T := TJx4a65c) (N := 3) hx hb hts (fun w h => zx_Gc (uz_Jx4a65c w h)) tyJx4a65c tyJx4a65c_ok nmJx4a65c hown hK hP hD hS 0 rfl rfl 0 (by decide) (hts (.fieldLink RJx4a65c 63 "java/util/ArrayList" "modCount" "I") (zx_Gc mm_220)) (fun x9 h9 => u_same (hts (.sameField "java/util/ArrayList" "java/util/AbstractList" "modCount" "I") (zx_Gc mm_219)) x9 h9) rfl (by decide +kernel) rfl rfl (Nat.le_of_ble_eq_true rfl) dJx4a65c_add_9ea2d_7 (fun H locs hP hD hS => ?_)
  have hP : va_P D vwCl [(pa, .inr (4, [.int (mc + (1 : Int32)), .ref el, .int 13])), (el, .inl (cy 2, 15, .inr (.inr (.inr (.inr g))))), (pp, .inr (17, fp))] H := hP
  have hD : va_D A [(pa, .inr (4, [.int (mc + (1 : Int32)), .ref el, .int 13])), (el, .inl (cy 2, 15, .inr (.inr (.inr (.inr g))))), (pp, .inr (17, fp))] := hD
  refine lv_aload_n hx hb dJx4a65c_add_9ea2d_10 rfl (lv_at hl 0 rfl) ?_
  refine lv_aload_n hx hb dJx4a65c_add_9ea2d_11 rfl (lv_at hl 1 rfl) ?_
  refine lv_aload_n hx hb dJx4a65c_add_9ea2d_12 rfl (lv_at hl 0 rfl) ?_
  refine va_get (D := D) (ci := 4) (v := .ref el) (C := RJx4a65c) (T := TJx4a65c) (N := 3) hx hb hts (fun w h => zx_Gc (uz_Jx4a65c w h)) hown hK hP 0 rfl rfl 1 (by decide) (hts (.fieldLink RJx4a65c 9 "java/util/ArrayList" "elementData" "[Ljava/lang/Object;") (zx_Gc mm_213)) (fun _ h9 => h9) rfl dJx4a65c_add_9ea2d_13 ?_
  refine lv_aload_n hx hb dJx4a65c_add_9ea2d_16 rfl (lv_at hl 0 rfl) ?_
  refine va_get (D := D) (ci := 4) (v := .int 13) (C := RJx4a65c) (T := TJx4a65c) (N := 3) hx hb hts (fun w h => zx_Gc (uz_Jx4a65c w h)) hown hK hP 0 rfl rfl 2 (by decide) (hts (.fieldLink RJx4a65c 48 "java/util/ArrayList" "size" "I") (zx_Gc mm_216)) (fun _ h9 => h9) rfl dJx4a65c_add_9ea2d_17 ?_
  have hPc := hP.sub (ws' := [(pa, .inr (4, [.int (mc + (1 : Int32)), .ref el, .int 13])), (el, .inl (cy 2, 15, .inr (.inr (.inr (.inr g))))), (pp, .inr (17, fp))]) [0, 1, 2] rfl
  have hDc := hD.sub (ws' := [(pa, .inr (4, [.int (mc + (1 : Int32)), .ref el, .int 13])), (el, .inl (cy 2, 15, .inr (.inr (.inr (.inr g))))), (pp, .inr (17, fp))]) [0, 1, 2] (by decide) rfl
  have hFc := va_free (wc := [(pa, .inr (4, [.int (mc + (1 : Int32)), .ref el, .int 13])), (el, .inl (cy 2, 15, .inr (.inr (.inr (.inr g))))), (pp, .inr (17, fp))]) hD hS hA [0, 1, 2] rfl
  refine va_callv (va_runV (As := [.ref pp, .ref el, .int 13]) (rest := []) ⟨hx, hb, hml, hown, hts⟩ (c_AL_add3_X12_13 l hst D cy ed H.size pa el (mc + (1 : Int32)) g pp fp) (cwV 3 hts (zx_GV mm_776 mm_778 mm_5 mm_77 mm_779) rfl rfl rfl (by decide +kernel) ⟨(Nat.le_of_ble_eq_true rfl), (Nat.le_of_ble_eq_true rfl)⟩) ⟨zx_blind, va_recv hK hPc (ci := 4) (q0 := 0) rfl rfl, zx_give hPc hK hDc hS hFc hZ hN⟩ rfl rfl hl.1 rfl (lv_room (Nat.le_of_ble_eq_true rfl)) dJx4a65c_add_9ea2d_20 ⟨(Nat.le_of_ble_eq_true rfl), (Nat.le_of_ble_eq_true rfl)⟩) hS (fun q _ h => hFc q h) hFc (fun u t H1 locs ht hvm hw hB hz1 hk1 hS => ?_)
  obtain ⟨qx_363, g2_364⟩ := u
  have h_365 := hw
  obtain ⟨hP, hD⟩ := zx_join (wr := []) (w1 := [(pa, .inr (4, [.int (mc + (1 : Int32)), .ref qx_363, .int 14])), (qx_363, .inl (cy 2, 15, .inr (.inr (.inr (.inr g2_364))))), (pp, .inr (17, fp))]) [0, 1, 2] [] rfl rfl (by decide) (by decide) hP hD hk1 hFc hB ht
  generalize H1 = H at hP hS ⊢
  have hP : va_P D vwCl [(pa, .inr (4, [.int (mc + (1 : Int32)), .ref qx_363, .int 14])), (qx_363, .inl (cy 2, 15, .inr (.inr (.inr (.inr g2_364))))), (pp, .inr (17, fp))] H := hP
  have hD : va_D A [(pa, .inr (4, [.int (mc + (1 : Int32)), .ref qx_363, .int 14])), (qx_363, .inl (cy 2, 15, .inr (.inr (.inr (.inr g2_364))))), (pp, .inr (17, fp))] := hD
  refine W.widen (k := 0) (n := 0) (Nat.le_of_ble_eq_true rfl) (Nat.le_of_ble_eq_true rfl) ?_
  obtain ⟨hs_366, hs_367⟩ := h_365
  refine lv_iconst (v := 1) hx hb dJx4a65c_add_9ea2d_23 (by decide) ?_
  have hP9 := hP.sub (ws' := [(pa, .inr (4, [.int (mc + (1 : Int32)), .ref qx_363, .int 14])), (qx_363, .inl (cy 2, 15, .inr (.inr (.inr (.inr g2_364))))), (pp, .inr (17, fp))]) [0, 1, 2] rfl
  have hD9 := hD.sub (ws' := [(pa, .inr (4, [.int (mc + (1 : Int32)), .ref qx_363, .int 14])), (qx_363, .inl (cy 2, 15, .inr (.inr (.inr (.inr g2_364))))), (pp, .inr (17, fp))]) [0, 1, 2] (by decide) rfl
  exact W.zret (v := 1) hx hb hr rfl (fun t ht hW => ⟨⟨1, ⟨(mc + (1 : Int32)), qx_363, g2_364⟩, rfl, ⟨rfl, ⟨hs_366, hs_367⟩⟩, zx_fin hP9 hD9 hK ht hW⟩, hS.F ht⟩) hS.2.2 dJx4a65c_add_9ea2d_24
set_option maxHeartbeats 4000000 in
set_option maxRecDepth 100000 in
theorem c_AL_add3_X12_14 (l : Launch) (hst : l.stackTraces = false) (D : va_G) (cy : Nat → ClassId) (ed sz : Nat) (pa : Nat) (el : Nat) (mc : Int32) (g : Nat → Option Nat) (pp : Nat) (fp : List Value) : Met l yJx4a65c_add_72be8 wzJx4a65c_add_72be8 ({ frames := 0, cells := 0, slots := 0, locals := 0 }) (zx_Pc D cy ed sz [.ref pa, .ref pp, .ref el, .int 14] [(pa, .inr (4, [.int mc, .ref el, .int 14])), (el, .inl (cy 2, 15, .inr (.inr (.inr (.inr g))))), (pp, .inr (17, fp))]) (va_Qv (fun (u9 : Nat × (Nat → Option Nat)) => match u9 with | (qx, g2) => g2 14 = some pp ∧ ∀ j, j < 14 → g2 j = g j) (fun (u9 : Nat × (Nat → Option Nat)) (t9 : State) => match u9 with | (qx, g2) => zx_At D cy (va_A [(pa, .inr (4, [.int mc, .ref el, .int 14])), (el, .inl (cy 2, 15, .inr (.inr (.inr (.inr g))))), (pp, .inr (17, fp))] sz) [(pa, .inr (4, [.int mc, .ref qx, .int 15])), (qx, .inl (cy 2, 15, .inr (.inr (.inr (.inr g2))))), (pp, .inr (17, fp))] t9) (va_A [(pa, .inr (4, [.int mc, .ref el, .int 14])), (el, .inl (cy 2, 15, .inr (.inr (.inr (.inr g))))), (pp, .inr (17, fp))] sz)) 0 0 (va_A [(pa, .inr (4, [.int mc, .ref el, .int 14])), (el, .inl (cy 2, 15, .inr (.inr (.inr (.inr g))))), (pp, .inr (17, fp))] sz) := by
  refine Met.ofW (cc := cJx4a65c_add_72be8) (maxL := 4) (ret := none) (by decide) rfl ?_
  intro p e s m args below meth c s₁ B hml hv
  obtain ⟨rfl, hsz, hP, hK, hD0, hZ, hN⟩ := hv
  have hx := B.exec
  have hb := B.bytes
  have hr := B.returns
  have hts := atoms_spec (ws := wzJx4a65c_add_72be8) B.pre
  have hown : s.vm.findClass RJx4a65c = some m.cls := findClass_of_methodNamed B.named
  have hlocks := B.notSynchronized
  subst hsz
  have hD := hD0.self (sz := s.heap.size)
  generalize hAe : va_A [(pa, .inr (4, [.int mc, .ref el, .int 14])), (el, .inl (cy 2, 15, .inr (.inr (.inr (.inr g))))), (pp, .inr (17, fp))] s.heap.size = A at hD hZ ⊢
  have hA : ∀ q : Nat, s.heap.size ≤ q → A q := fun q h => by rw [← hAe]; exact Or.inr h
  have hS : va_S A s.heap s.heap [] := va_S.rf
  have hP : va_P D vwCl [(pa, .inr (4, [.int mc, .ref el, .int 14])), (el, .inl (cy 2, 15, .inr (.inr (.inr (.inr g))))), (pp, .inr (17, fp))] s.heap := hP
  have hl := lv_entry ([.ref pa, .ref pp, .ref el, .int 14]) (n := 4) (Nat.le_of_ble_eq_true rfl)
  rw [lg_entry_eq]
  generalize (lg_sl ([.ref pa, .ref pp, .ref el, .int 14]) ++ List.replicate (4 - (lg_sl ([.ref pa, .ref pp, .ref el, .int 14])).length) Slot.unset).toArray = ls at hl ⊢
  have hl : lv_has ls 4 [(0, .ref pa), (1, .ref pp), (2, .ref el), (3, .int 14)] := hl
  refine lv_iload_n hx hb dJx4a65c_add_72be8_0 rfl (lv_at hl 3 rfl) ?_
  refine lv_aload_n hx hb dJx4a65c_add_72be8_1 rfl (lv_at hl 2 rfl) ?_
  refine va_alen (v := 15) hx hb hK hP 1 2 rfl rfl (show Int32.ofNat 15 = 15 from by decide) dJx4a65c_add_72be8_2 ?_
  refine lv_icmp_ne (tgt := 11) hx hb dJx4a65c_add_72be8_3 (by decide) (fun _ => ?_) (fun c_368 => absurd c_368 (by decide))
  refine lv_aload_n hx hb dJx4a65c_add_72be8_11 rfl (lv_at hl 2 rfl) ?_
  refine lv_iload_n hx hb dJx4a65c_add_72be8_12 rfl (lv_at hl 3 rfl) ?_
  refine lv_aload_n hx hb dJx4a65c_add_72be8_13 rfl (lv_at hl 1 rfl) ?_
  refine va_astqO (E := "java/lang/Object") hx hb hK hP hD hS 1 2 2 17 rfl rfl (hN.2.2.1 _ _ (List.mem_of_getElem? (i := 2467) (by decide +kernel))) rfl rfl (zx_bn (by decide)) dJx4a65c_add_72be8_14 (fun H locs hP hD hS => ?_)
  have hP : va_P D vwCl [(pa, .inr (4, [.int mc, .ref el, .int 14])), (el, .inl (cy 2, 15, .inr (.inr (.inr (.inr (va_up g (14 : Int32).toNatClampNeg (some pp))))))), (pp, .inr (17, fp))] H := hP
  have hD : va_D A [(pa, .inr (4, [.int mc, .ref el, .int 14])), (el, .inl (cy 2, 15, .inr (.inr (.inr (.inr (va_up g (14 : Int32).toNatClampNeg (some pp))))))), (pp, .inr (17, fp))] := hD
  refine lv_aload_n hx hb dJx4a65c_add_72be8_15 rfl (lv_at hl 0 rfl) ?_
  refine lv_iload_n hx hb dJx4a65c_add_72be8_16 rfl (lv_at hl 3 rfl) ?_
  refine lv_iconst (v := 1) hx hb dJx4a65c_add_72be8_17 (by decide) ?_
  refine lv_iadd hx hb dJx4a65c_add_72be8_18 ?_
  refine lv_topi (fun y9 ey9 => ?_)
  obtain rfl : y9 = 15 := by rw [ey9] <;> decide
  refine va_put (D := D) (ci := 4) (v := .int 15) (ty := .int) (C := RJx4a65c) (T := TJx4a65c) (N := 3) hx hb hts (fun w h => zx_Gc (uz_Jx4a65c w h)) tyJx4a65c tyJx4a65c_ok nmJx4a65c hown hK hP hD hS 0 rfl rfl 2 (by decide) (hts (.fieldLink RJx4a65c 48 "java/util/ArrayList" "size" "I") (zx_Gc mm_216)) (fun _ h9 => h9) rfl (by decide +kernel) rfl rfl (Nat.le_of_ble_eq_true rfl) dJx4a65c_add_72be8_19 (fun H locs hP hD hS => ?_)
  have hP : va_P D vwCl [(pa, .inr (4, [.int mc, .ref el, .int 15])), (el, .inl (cy 2, 15, .inr (.inr (.inr (.inr (va_up g (14 : Int32).toNatClampNeg (some pp))))))), (pp, .inr (17, fp))] H := hP
  have hD : va_D A [(pa, .inr (4, [.int mc, .ref el, .int 15])), (el, .inl (cy 2, 15, .inr (.inr (.inr (.inr (va_up g (14 : Int32).toNatClampNeg (some pp))))))), (pp, .inr (17, fp))] := hD
  have hP9 := hP.sub (ws' := [(pa, .inr (4, [.int mc, .ref el, .int 15])), (el, .inl (cy 2, 15, .inr (.inr (.inr (.inr (va_up g (14 : Int32).toNatClampNeg (some pp))))))), (pp, .inr (17, fp))]) [0, 1, 2] rfl
  have hD9 := hD.sub (ws' := [(pa, .inr (4, [.int mc, .ref el, .int 15])), (el, .inl (cy 2, 15, .inr (.inr (.inr (.inr (va_up g (14 : Int32).toNatClampNeg (some pp))))))), (pp, .inr (17, fp))]) [0, 1, 2] (by decide) rfl
  exact W.vret hx hb hr (fun t ht hW => ⟨⟨⟨el, (va_up g (14 : Int32).toNatClampNeg (some pp))⟩, rfl, ⟨zx_up_at _ (by decide), fun j9 hj9 => zx_up_ne _ (by show j9 ≠ 14; omega)⟩, zx_fin hP9 hD9 hK ht hW⟩, hS.F ht⟩) hS.2.2 dJx4a65c_add_72be8_22
set_option maxHeartbeats 4000000 in
set_option maxRecDepth 100000 in
theorem c_AL_add1_X12_14 (l : Launch) (hst : l.stackTraces = false) (D : va_G) (cy : Nat → ClassId) (ed sz : Nat) (pa : Nat) (el : Nat) (mc : Int32) (g : Nat → Option Nat) (pp : Nat) (fp : List Value) : Met l yJx4a65c_add_9ea2d wzJx4a65c_add_9ea2d ({ frames := 1, cells := 0, slots := 0, locals := 23 }) (zx_Pc D cy ed sz [.ref pa, .ref pp] [(pa, .inr (4, [.int mc, .ref el, .int 14])), (el, .inl (cy 2, 15, .inr (.inr (.inr (.inr g))))), (pp, .inr (17, fp))]) (va_Qi (fun (r9 : Int32) (u9 : Int32 × Nat × (Nat → Option Nat)) => match u9 with | (mx, qx, g2) => r9 = 1 ∧ g2 14 = some pp ∧ ∀ j, j < 14 → g2 j = g j) (fun (u9 : Int32 × Nat × (Nat → Option Nat)) (t9 : State) => match u9 with | (mx, qx, g2) => zx_At D cy (va_A [(pa, .inr (4, [.int mc, .ref el, .int 14])), (el, .inl (cy 2, 15, .inr (.inr (.inr (.inr g))))), (pp, .inr (17, fp))] sz) [(pa, .inr (4, [.int mx, .ref qx, .int 15])), (qx, .inl (cy 2, 15, .inr (.inr (.inr (.inr g2))))), (pp, .inr (17, fp))] t9) (va_A [(pa, .inr (4, [.int mc, .ref el, .int 14])), (el, .inl (cy 2, 15, .inr (.inr (.inr (.inr g))))), (pp, .inr (17, fp))] sz)) 0 0 (va_A [(pa, .inr (4, [.int mc, .ref el, .int 14])), (el, .inl (cy 2, 15, .inr (.inr (.inr (.inr g))))), (pp, .inr (17, fp))] sz) := by
  refine Met.ofW (cc := cJx4a65c_add_9ea2d) (maxL := 2) (ret := (some .boolean)) (by decide) rfl ?_
  intro p e s m args below meth c s₁ B hml hv
  obtain ⟨rfl, hsz, hP, hK, hD0, hZ, hN⟩ := hv
  have hx := B.exec
  have hb := B.bytes
  have hr := B.returns
  have hts := atoms_spec (ws := wzJx4a65c_add_9ea2d) B.pre
  have hown : s.vm.findClass RJx4a65c = some m.cls := findClass_of_methodNamed B.named
  have hlocks := B.notSynchronized
  subst hsz
  have hD := hD0.self (sz := s.heap.size)
  generalize hAe : va_A [(pa, .inr (4, [.int mc, .ref el, .int 14])), (el, .inl (cy 2, 15, .inr (.inr (.inr (.inr g))))), (pp, .inr (17, fp))] s.heap.size = A at hD hZ ⊢
  have hA : ∀ q : Nat, s.heap.size ≤ q → A q := fun q h => by rw [← hAe]; exact Or.inr h
  have hS : va_S A s.heap s.heap [] := va_S.rf
  have hP : va_P D vwCl [(pa, .inr (4, [.int mc, .ref el, .int 14])), (el, .inl (cy 2, 15, .inr (.inr (.inr (.inr g))))), (pp, .inr (17, fp))] s.heap := hP
  have hl := lv_entry ([.ref pa, .ref pp]) (n := 2) (Nat.le_of_ble_eq_true rfl)
  rw [lg_entry_eq]
  generalize (lg_sl ([.ref pa, .ref pp]) ++ List.replicate (2 - (lg_sl ([.ref pa, .ref pp])).length) Slot.unset).toArray = ls at hl ⊢
  have hl : lv_has ls 2 [(0, .ref pa), (1, .ref pp)] := hl
  refine lv_aload_n hx hb dJx4a65c_add_9ea2d_0 rfl (lv_at hl 0 rfl) ?_
  refine lv_dup hx hb dJx4a65c_add_9ea2d_1 rfl ?_
  refine va_get (D := D) (ci := 4) (v := .int mc) (C := RJx4a65c) (T := TJx4a65c) (N := 3) hx hb hts (fun w h => zx_Gc (uz_Jx4a65c w h)) hown hK hP 0 rfl rfl 0 (by decide) (hts (.fieldLink RJx4a65c 63 "java/util/ArrayList" "modCount" "I") (zx_Gc mm_220)) (fun x9 h9 => u_same (hts (.sameField "java/util/ArrayList" "java/util/AbstractList" "modCount" "I") (zx_Gc mm_219)) x9 h9) rfl dJx4a65c_add_9ea2d_2 ?_
  refine lv_iconst (v := 1) hx hb dJx4a65c_add_9ea2d_5 (by decide) ?_
  refine lv_iadd hx hb dJx4a65c_add_9ea2d_6 ?_
  refine va_put (D := D) (ci := 4) (v := .int (mc + (1 : Int32))) (ty := .int) (C := RJx4a65c) (T := TJx4a65c) (N := 3) hx hb hts (fun w h => zx_Gc (uz_Jx4a65c w h)) tyJx4a65c tyJx4a65c_ok nmJx4a65c hown hK hP hD hS 0 rfl rfl 0 (by decide) (hts (.fieldLink RJx4a65c 63 "java/util/ArrayList" "modCount" "I") (zx_Gc mm_220)) (fun x9 h9 => u_same (hts (.sameField "java/util/ArrayList" "java/util/AbstractList" "modCount" "I") (zx_Gc mm_219)) x9 h9) rfl (by decide +kernel) rfl rfl (Nat.le_of_ble_eq_true rfl) dJx4a65c_add_9ea2d_7 (fun H locs hP hD hS => ?_)
  have hP : va_P D vwCl [(pa, .inr (4, [.int (mc + (1 : Int32)), .ref el, .int 14])), (el, .inl (cy 2, 15, .inr (.inr (.inr (.inr g))))), (pp, .inr (17, fp))] H := hP
  have hD : va_D A [(pa, .inr (4, [.int (mc + (1 : Int32)), .ref el, .int 14])), (el, .inl (cy 2, 15, .inr (.inr (.inr (.inr g))))), (pp, .inr (17, fp))] := hD
  refine lv_aload_n hx hb dJx4a65c_add_9ea2d_10 rfl (lv_at hl 0 rfl) ?_
  refine lv_aload_n hx hb dJx4a65c_add_9ea2d_11 rfl (lv_at hl 1 rfl) ?_
  refine lv_aload_n hx hb dJx4a65c_add_9ea2d_12 rfl (lv_at hl 0 rfl) ?_
  refine va_get (D := D) (ci := 4) (v := .ref el) (C := RJx4a65c) (T := TJx4a65c) (N := 3) hx hb hts (fun w h => zx_Gc (uz_Jx4a65c w h)) hown hK hP 0 rfl rfl 1 (by decide) (hts (.fieldLink RJx4a65c 9 "java/util/ArrayList" "elementData" "[Ljava/lang/Object;") (zx_Gc mm_213)) (fun _ h9 => h9) rfl dJx4a65c_add_9ea2d_13 ?_
  refine lv_aload_n hx hb dJx4a65c_add_9ea2d_16 rfl (lv_at hl 0 rfl) ?_
  refine va_get (D := D) (ci := 4) (v := .int 14) (C := RJx4a65c) (T := TJx4a65c) (N := 3) hx hb hts (fun w h => zx_Gc (uz_Jx4a65c w h)) hown hK hP 0 rfl rfl 2 (by decide) (hts (.fieldLink RJx4a65c 48 "java/util/ArrayList" "size" "I") (zx_Gc mm_216)) (fun _ h9 => h9) rfl dJx4a65c_add_9ea2d_17 ?_
  have hPc := hP.sub (ws' := [(pa, .inr (4, [.int (mc + (1 : Int32)), .ref el, .int 14])), (el, .inl (cy 2, 15, .inr (.inr (.inr (.inr g))))), (pp, .inr (17, fp))]) [0, 1, 2] rfl
  have hDc := hD.sub (ws' := [(pa, .inr (4, [.int (mc + (1 : Int32)), .ref el, .int 14])), (el, .inl (cy 2, 15, .inr (.inr (.inr (.inr g))))), (pp, .inr (17, fp))]) [0, 1, 2] (by decide) rfl
  have hFc := va_free (wc := [(pa, .inr (4, [.int (mc + (1 : Int32)), .ref el, .int 14])), (el, .inl (cy 2, 15, .inr (.inr (.inr (.inr g))))), (pp, .inr (17, fp))]) hD hS hA [0, 1, 2] rfl
  refine va_callv (va_runV (As := [.ref pp, .ref el, .int 14]) (rest := []) ⟨hx, hb, hml, hown, hts⟩ (c_AL_add3_X12_14 l hst D cy ed H.size pa el (mc + (1 : Int32)) g pp fp) (cwV 3 hts (zx_GV mm_776 mm_778 mm_5 mm_77 mm_779) rfl rfl rfl (by decide +kernel) ⟨(Nat.le_of_ble_eq_true rfl), (Nat.le_of_ble_eq_true rfl)⟩) ⟨zx_blind, va_recv hK hPc (ci := 4) (q0 := 0) rfl rfl, zx_give hPc hK hDc hS hFc hZ hN⟩ rfl rfl hl.1 rfl (lv_room (Nat.le_of_ble_eq_true rfl)) dJx4a65c_add_9ea2d_20 ⟨(Nat.le_of_ble_eq_true rfl), (Nat.le_of_ble_eq_true rfl)⟩) hS (fun q _ h => hFc q h) hFc (fun u t H1 locs ht hvm hw hB hz1 hk1 hS => ?_)
  obtain ⟨qx_369, g2_370⟩ := u
  have h_371 := hw
  obtain ⟨hP, hD⟩ := zx_join (wr := []) (w1 := [(pa, .inr (4, [.int (mc + (1 : Int32)), .ref qx_369, .int 15])), (qx_369, .inl (cy 2, 15, .inr (.inr (.inr (.inr g2_370))))), (pp, .inr (17, fp))]) [0, 1, 2] [] rfl rfl (by decide) (by decide) hP hD hk1 hFc hB ht
  generalize H1 = H at hP hS ⊢
  have hP : va_P D vwCl [(pa, .inr (4, [.int (mc + (1 : Int32)), .ref qx_369, .int 15])), (qx_369, .inl (cy 2, 15, .inr (.inr (.inr (.inr g2_370))))), (pp, .inr (17, fp))] H := hP
  have hD : va_D A [(pa, .inr (4, [.int (mc + (1 : Int32)), .ref qx_369, .int 15])), (qx_369, .inl (cy 2, 15, .inr (.inr (.inr (.inr g2_370))))), (pp, .inr (17, fp))] := hD
  refine W.widen (k := 0) (n := 0) (Nat.le_of_ble_eq_true rfl) (Nat.le_of_ble_eq_true rfl) ?_
  obtain ⟨hs_372, hs_373⟩ := h_371
  refine lv_iconst (v := 1) hx hb dJx4a65c_add_9ea2d_23 (by decide) ?_
  have hP9 := hP.sub (ws' := [(pa, .inr (4, [.int (mc + (1 : Int32)), .ref qx_369, .int 15])), (qx_369, .inl (cy 2, 15, .inr (.inr (.inr (.inr g2_370))))), (pp, .inr (17, fp))]) [0, 1, 2] rfl
  have hD9 := hD.sub (ws' := [(pa, .inr (4, [.int (mc + (1 : Int32)), .ref qx_369, .int 15])), (qx_369, .inl (cy 2, 15, .inr (.inr (.inr (.inr g2_370))))), (pp, .inr (17, fp))]) [0, 1, 2] (by decide) rfl
  exact W.zret (v := 1) hx hb hr rfl (fun t ht hW => ⟨⟨1, ⟨(mc + (1 : Int32)), qx_369, g2_370⟩, rfl, ⟨rfl, ⟨hs_372, hs_373⟩⟩, zx_fin hP9 hD9 hK ht hW⟩, hS.F ht⟩) hS.2.2 dJx4a65c_add_9ea2d_24
set_option maxHeartbeats 4000000 in
set_option maxRecDepth 100000 in
theorem c_AL_add3_X12_15 (l : Launch) (hst : l.stackTraces = false) (D : va_G) (cy : Nat → ClassId) (ed sz : Nat) (pa : Nat) (el : Nat) (mc : Int32) (g : Nat → Option Nat) (pp : Nat) (fp : List Value) (p0 : Nat) (p1 : Nat) (p2 : Nat) (p3 : Nat) (p4 : Nat) (p5 : Nat) (p6 : Nat) (p7 : Nat) (p8 : Nat) (p9 : Nat) (p10 : Nat) (p11 : Nat) (p12 : Nat) (p13 : Nat) (p14 : Nat) (f0 : List Value) (f1 : List Value) (f2 : List Value) (f3 : List Value) (f4 : List Value) (f5 : List Value) (f6 : List Value) (f7 : List Value) (f8 : List Value) (f9 : List Value) (f10 : List Value) (f11 : List Value) (f12 : List Value) (f13 : List Value) (f14 : List Value) (hg0 : g 0 = some p0) (hg1 : g 1 = some p1) (hg2 : g 2 = some p2) (hg3 : g 3 = some p3) (hg4 : g 4 = some p4) (hg5 : g 5 = some p5) (hg6 : g 6 = some p6) (hg7 : g 7 = some p7) (hg8 : g 8 = some p8) (hg9 : g 9 = some p9) (hg10 : g 10 = some p10) (hg11 : g 11 = some p11) (hg12 : g 12 = some p12) (hg13 : g 13 = some p13) (hg14 : g 14 = some p14) : Met l yJx4a65c_add_72be8 wzJx4a65c_add_72be8 ({ frames := 5, cells := 1, slots := 22, locals := 117 }) (zx_Pc D cy ed sz [.ref pa, .ref pp, .ref el, .int 15] [(pa, .inr (4, [.int mc, .ref el, .int 15])), (el, .inl (cy 2, 15, .inr (.inr (.inr (.inr g))))), (pp, .inr (17, fp)), (p0, .inr (17, f0)), (p1, .inr (17, f1)), (p2, .inr (17, f2)), (p3, .inr (17, f3)), (p4, .inr (17, f4)), (p5, .inr (17, f5)), (p6, .inr (17, f6)), (p7, .inr (17, f7)), (p8, .inr (17, f8)), (p9, .inr (17, f9)), (p10, .inr (17, f10)), (p11, .inr (17, f11)), (p12, .inr (17, f12)), (p13, .inr (17, f13)), (p14, .inr (17, f14))]) (va_Qv (fun (u9 : Nat × (Nat → Option Nat)) => match u9 with | (qx, g2) => g2 15 = some pp ∧ ∀ j, j < 15 → g2 j = g j) (fun (u9 : Nat × (Nat → Option Nat)) (t9 : State) => match u9 with | (qx, g2) => zx_At D cy (va_A [(pa, .inr (4, [.int mc, .ref el, .int 15])), (el, .inl (cy 2, 15, .inr (.inr (.inr (.inr g))))), (pp, .inr (17, fp)), (p0, .inr (17, f0)), (p1, .inr (17, f1)), (p2, .inr (17, f2)), (p3, .inr (17, f3)), (p4, .inr (17, f4)), (p5, .inr (17, f5)), (p6, .inr (17, f6)), (p7, .inr (17, f7)), (p8, .inr (17, f8)), (p9, .inr (17, f9)), (p10, .inr (17, f10)), (p11, .inr (17, f11)), (p12, .inr (17, f12)), (p13, .inr (17, f13)), (p14, .inr (17, f14))] sz) [(pa, .inr (4, [.int mc, .ref qx, .int 16])), (qx, .inl (cy 2, 22, .inr (.inr (.inr (.inr g2))))), (pp, .inr (17, fp)), (p0, .inr (17, f0)), (p1, .inr (17, f1)), (p2, .inr (17, f2)), (p3, .inr (17, f3)), (p4, .inr (17, f4)), (p5, .inr (17, f5)), (p6, .inr (17, f6)), (p7, .inr (17, f7)), (p8, .inr (17, f8)), (p9, .inr (17, f9)), (p10, .inr (17, f10)), (p11, .inr (17, f11)), (p12, .inr (17, f12)), (p13, .inr (17, f13)), (p14, .inr (17, f14))] t9) (va_A [(pa, .inr (4, [.int mc, .ref el, .int 15])), (el, .inl (cy 2, 15, .inr (.inr (.inr (.inr g))))), (pp, .inr (17, fp)), (p0, .inr (17, f0)), (p1, .inr (17, f1)), (p2, .inr (17, f2)), (p3, .inr (17, f3)), (p4, .inr (17, f4)), (p5, .inr (17, f5)), (p6, .inr (17, f6)), (p7, .inr (17, f7)), (p8, .inr (17, f8)), (p9, .inr (17, f9)), (p10, .inr (17, f10)), (p11, .inr (17, f11)), (p12, .inr (17, f12)), (p13, .inr (17, f13)), (p14, .inr (17, f14))] sz)) 1 22 (va_A [(pa, .inr (4, [.int mc, .ref el, .int 15])), (el, .inl (cy 2, 15, .inr (.inr (.inr (.inr g))))), (pp, .inr (17, fp)), (p0, .inr (17, f0)), (p1, .inr (17, f1)), (p2, .inr (17, f2)), (p3, .inr (17, f3)), (p4, .inr (17, f4)), (p5, .inr (17, f5)), (p6, .inr (17, f6)), (p7, .inr (17, f7)), (p8, .inr (17, f8)), (p9, .inr (17, f9)), (p10, .inr (17, f10)), (p11, .inr (17, f11)), (p12, .inr (17, f12)), (p13, .inr (17, f13)), (p14, .inr (17, f14))] sz) := by
  refine Met.ofW (cc := cJx4a65c_add_72be8) (maxL := 4) (ret := none) (by decide) rfl ?_
  intro p e s m args below meth c s₁ B hml hv
  obtain ⟨rfl, hsz, hP, hK, hD0, hZ, hN⟩ := hv
  have hx := B.exec
  have hb := B.bytes
  have hr := B.returns
  have hts := atoms_spec (ws := wzJx4a65c_add_72be8) B.pre
  have hown : s.vm.findClass RJx4a65c = some m.cls := findClass_of_methodNamed B.named
  have hlocks := B.notSynchronized
  subst hsz
  have hD := hD0.self (sz := s.heap.size)
  generalize hAe : va_A [(pa, .inr (4, [.int mc, .ref el, .int 15])), (el, .inl (cy 2, 15, .inr (.inr (.inr (.inr g))))), (pp, .inr (17, fp)), (p0, .inr (17, f0)), (p1, .inr (17, f1)), (p2, .inr (17, f2)), (p3, .inr (17, f3)), (p4, .inr (17, f4)), (p5, .inr (17, f5)), (p6, .inr (17, f6)), (p7, .inr (17, f7)), (p8, .inr (17, f8)), (p9, .inr (17, f9)), (p10, .inr (17, f10)), (p11, .inr (17, f11)), (p12, .inr (17, f12)), (p13, .inr (17, f13)), (p14, .inr (17, f14))] s.heap.size = A at hD hZ ⊢
  have hA : ∀ q : Nat, s.heap.size ≤ q → A q := fun q h => by rw [← hAe]; exact Or.inr h
  have hS : va_S A s.heap s.heap [] := va_S.rf
  have hP : va_P D vwCl [(pa, .inr (4, [.int mc, .ref el, .int 15])), (el, .inl (cy 2, 15, .inr (.inr (.inr (.inr g))))), (pp, .inr (17, fp)), (p0, .inr (17, f0)), (p1, .inr (17, f1)), (p2, .inr (17, f2)), (p3, .inr (17, f3)), (p4, .inr (17, f4)), (p5, .inr (17, f5)), (p6, .inr (17, f6)), (p7, .inr (17, f7)), (p8, .inr (17, f8)), (p9, .inr (17, f9)), (p10, .inr (17, f10)), (p11, .inr (17, f11)), (p12, .inr (17, f12)), (p13, .inr (17, f13)), (p14, .inr (17, f14))] s.heap := hP
  have hl := lv_entry ([.ref pa, .ref pp, .ref el, .int 15]) (n := 4) (Nat.le_of_ble_eq_true rfl)
  rw [lg_entry_eq]
  generalize (lg_sl ([.ref pa, .ref pp, .ref el, .int 15]) ++ List.replicate (4 - (lg_sl ([.ref pa, .ref pp, .ref el, .int 15])).length) Slot.unset).toArray = ls at hl ⊢
  have hl : lv_has ls 4 [(0, .ref pa), (1, .ref pp), (2, .ref el), (3, .int 15)] := hl
  refine lv_iload_n hx hb dJx4a65c_add_72be8_0 rfl (lv_at hl 3 rfl) ?_
  refine lv_aload_n hx hb dJx4a65c_add_72be8_1 rfl (lv_at hl 2 rfl) ?_
  refine va_alen (v := 15) hx hb hK hP 1 2 rfl rfl (show Int32.ofNat 15 = 15 from by decide) dJx4a65c_add_72be8_2 ?_
  refine lv_icmp_ne (tgt := 11) hx hb dJx4a65c_add_72be8_3 (by decide) (fun c_374 => absurd c_374 (by decide)) (fun _ => ?_)
  refine lv_aload_n hx hb dJx4a65c_add_72be8_6 rfl (lv_at hl 0 rfl) ?_
  have hPc := hP.sub (ws' := [(pa, .inr (4, [.int mc, .ref el, .int 15])), (el, .inl (cy 2, 15, .inr (.inr (.inr (.inr g))))), (p0, .inr (17, f0)), (p1, .inr (17, f1)), (p2, .inr (17, f2)), (p3, .inr (17, f3)), (p4, .inr (17, f4)), (p5, .inr (17, f5)), (p6, .inr (17, f6)), (p7, .inr (17, f7)), (p8, .inr (17, f8)), (p9, .inr (17, f9)), (p10, .inr (17, f10)), (p11, .inr (17, f11)), (p12, .inr (17, f12)), (p13, .inr (17, f13)), (p14, .inr (17, f14))]) [0, 1, 3, 4, 5, 6, 7, 8, 9, 10, 11, 12, 13, 14, 15, 16, 17] rfl
  have hDc := hD.sub (ws' := [(pa, .inr (4, [.int mc, .ref el, .int 15])), (el, .inl (cy 2, 15, .inr (.inr (.inr (.inr g))))), (p0, .inr (17, f0)), (p1, .inr (17, f1)), (p2, .inr (17, f2)), (p3, .inr (17, f3)), (p4, .inr (17, f4)), (p5, .inr (17, f5)), (p6, .inr (17, f6)), (p7, .inr (17, f7)), (p8, .inr (17, f8)), (p9, .inr (17, f9)), (p10, .inr (17, f10)), (p11, .inr (17, f11)), (p12, .inr (17, f12)), (p13, .inr (17, f13)), (p14, .inr (17, f14))]) [0, 1, 3, 4, 5, 6, 7, 8, 9, 10, 11, 12, 13, 14, 15, 16, 17] (by decide) rfl
  have hFc := va_free (wc := [(pa, .inr (4, [.int mc, .ref el, .int 15])), (el, .inl (cy 2, 15, .inr (.inr (.inr (.inr g))))), (p0, .inr (17, f0)), (p1, .inr (17, f1)), (p2, .inr (17, f2)), (p3, .inr (17, f3)), (p4, .inr (17, f4)), (p5, .inr (17, f5)), (p6, .inr (17, f6)), (p7, .inr (17, f7)), (p8, .inr (17, f8)), (p9, .inr (17, f9)), (p10, .inr (17, f10)), (p11, .inr (17, f11)), (p12, .inr (17, f12)), (p13, .inr (17, f13)), (p14, .inr (17, f14))]) hD hS hA [0, 1, 3, 4, 5, 6, 7, 8, 9, 10, 11, 12, 13, 14, 15, 16, 17] rfl
  refine va_callr (va_runV (As := []) (rest := []) ⟨hx, hb, hml, hown, hts⟩ (c_AL_grow0_15 l hst D cy ed s.heap.size pa el mc g p0 p1 p2 p3 p4 p5 p6 p7 p8 p9 p10 p11 p12 p13 p14 f0 f1 f2 f3 f4 f5 f6 f7 f8 f9 f10 f11 f12 f13 f14 hg0 hg1 hg2 hg3 hg4 hg5 hg6 hg7 hg8 hg9 hg10 hg11 hg12 hg13 hg14) (cwV 0 hts (zx_GV mm_780 mm_782 mm_6 mm_77 mm_783) rfl rfl rfl (by decide +kernel) ⟨(Nat.le_of_ble_eq_true rfl), (Nat.le_of_ble_eq_true rfl)⟩) ⟨zx_blind, va_recv hK hPc (ci := 4) (q0 := 0) rfl rfl, zx_give hPc hK hDc hS hFc hZ hN⟩ rfl rfl hl.1 rfl (lv_room (Nat.le_of_ble_eq_true rfl)) dJx4a65c_add_72be8_7 ⟨(Nat.le_of_ble_eq_true rfl), (Nat.le_of_ble_eq_true rfl)⟩) hS (fun q _ h => hFc q h) hFc (fun u ra9 t H1 locs ht hvm hw hB hz1 hk1 hS => ?_)
  obtain ⟨g2_375, rfl⟩ : ∃ z9, z9 = u := ⟨_, rfl⟩
  obtain ⟨a_376, rfl⟩ : ∃ z9, z9 = ra9 := ⟨_, rfl⟩
  have h_377 := hw
  obtain ⟨hP, hD⟩ := zx_join (wr := [(pp, .inr (17, fp))]) (w1 := [(pa, .inr (4, [.int mc, .ref a_376, .int 15])), (a_376, .inl (cy 2, 22, .inr (.inr (.inr (.inr g2_375))))), (p0, .inr (17, f0)), (p1, .inr (17, f1)), (p2, .inr (17, f2)), (p3, .inr (17, f3)), (p4, .inr (17, f4)), (p5, .inr (17, f5)), (p6, .inr (17, f6)), (p7, .inr (17, f7)), (p8, .inr (17, f8)), (p9, .inr (17, f9)), (p10, .inr (17, f10)), (p11, .inr (17, f11)), (p12, .inr (17, f12)), (p13, .inr (17, f13)), (p14, .inr (17, f14))]) [0, 1, 3, 4, 5, 6, 7, 8, 9, 10, 11, 12, 13, 14, 15, 16, 17] [2] rfl rfl (by decide) (by decide) hP hD hk1 hFc hB ht
  generalize H1 = H at hP hS ⊢
  have hP : va_P D vwCl [(pp, .inr (17, fp)), (pa, .inr (4, [.int mc, .ref a_376, .int 15])), (a_376, .inl (cy 2, 22, .inr (.inr (.inr (.inr g2_375))))), (p0, .inr (17, f0)), (p1, .inr (17, f1)), (p2, .inr (17, f2)), (p3, .inr (17, f3)), (p4, .inr (17, f4)), (p5, .inr (17, f5)), (p6, .inr (17, f6)), (p7, .inr (17, f7)), (p8, .inr (17, f8)), (p9, .inr (17, f9)), (p10, .inr (17, f10)), (p11, .inr (17, f11)), (p12, .inr (17, f12)), (p13, .inr (17, f13)), (p14, .inr (17, f14))] H := hP
  have hD : va_D A [(pp, .inr (17, fp)), (pa, .inr (4, [.int mc, .ref a_376, .int 15])), (a_376, .inl (cy 2, 22, .inr (.inr (.inr (.inr g2_375))))), (p0, .inr (17, f0)), (p1, .inr (17, f1)), (p2, .inr (17, f2)), (p3, .inr (17, f3)), (p4, .inr (17, f4)), (p5, .inr (17, f5)), (p6, .inr (17, f6)), (p7, .inr (17, f7)), (p8, .inr (17, f8)), (p9, .inr (17, f9)), (p10, .inr (17, f10)), (p11, .inr (17, f11)), (p12, .inr (17, f12)), (p13, .inr (17, f13)), (p14, .inr (17, f14))] := hD
  refine W.widen (k := 1) (n := 22) (Nat.le_of_ble_eq_true rfl) (Nat.le_of_ble_eq_true rfl) ?_
  refine lv_astore_n (lv' := [(2, .ref a_376), (0, .ref pa), (1, .ref pp), (3, .int 15)]) hx hb dJx4a65c_add_72be8_10 rfl hl (by decide) rfl (fun ls hl => ?_)
  refine lv_aload_n hx hb dJx4a65c_add_72be8_11 rfl (lv_at hl 0 rfl) ?_
  refine lv_iload_n hx hb dJx4a65c_add_72be8_12 rfl (lv_at hl 3 rfl) ?_
  refine lv_aload_n hx hb dJx4a65c_add_72be8_13 rfl (lv_at hl 2 rfl) ?_
  refine va_astqO (E := "java/lang/Object") hx hb hK hP hD hS 2 2 0 17 rfl rfl (hN.2.2.1 _ _ (List.mem_of_getElem? (i := 2467) (by decide +kernel))) rfl rfl (zx_bn (by decide)) dJx4a65c_add_72be8_14 (fun H locs hP hD hS => ?_)
  have hP : va_P D vwCl [(pp, .inr (17, fp)), (pa, .inr (4, [.int mc, .ref a_376, .int 15])), (a_376, .inl (cy 2, 22, .inr (.inr (.inr (.inr (va_up g2_375 (15 : Int32).toNatClampNeg (some pp))))))), (p0, .inr (17, f0)), (p1, .inr (17, f1)), (p2, .inr (17, f2)), (p3, .inr (17, f3)), (p4, .inr (17, f4)), (p5, .inr (17, f5)), (p6, .inr (17, f6)), (p7, .inr (17, f7)), (p8, .inr (17, f8)), (p9, .inr (17, f9)), (p10, .inr (17, f10)), (p11, .inr (17, f11)), (p12, .inr (17, f12)), (p13, .inr (17, f13)), (p14, .inr (17, f14))] H := hP
  have hD : va_D A [(pp, .inr (17, fp)), (pa, .inr (4, [.int mc, .ref a_376, .int 15])), (a_376, .inl (cy 2, 22, .inr (.inr (.inr (.inr (va_up g2_375 (15 : Int32).toNatClampNeg (some pp))))))), (p0, .inr (17, f0)), (p1, .inr (17, f1)), (p2, .inr (17, f2)), (p3, .inr (17, f3)), (p4, .inr (17, f4)), (p5, .inr (17, f5)), (p6, .inr (17, f6)), (p7, .inr (17, f7)), (p8, .inr (17, f8)), (p9, .inr (17, f9)), (p10, .inr (17, f10)), (p11, .inr (17, f11)), (p12, .inr (17, f12)), (p13, .inr (17, f13)), (p14, .inr (17, f14))] := hD
  refine lv_aload_n hx hb dJx4a65c_add_72be8_15 rfl (lv_at hl 1 rfl) ?_
  refine lv_iload_n hx hb dJx4a65c_add_72be8_16 rfl (lv_at hl 3 rfl) ?_
  refine lv_iconst (v := 1) hx hb dJx4a65c_add_72be8_17 (by decide) ?_
  refine lv_iadd hx hb dJx4a65c_add_72be8_18 ?_
  refine lv_topi (fun y9 ey9 => ?_)
  obtain rfl : y9 = 16 := by rw [ey9] <;> decide
  refine va_put (D := D) (ci := 4) (v := .int 16) (ty := .int) (C := RJx4a65c) (T := TJx4a65c) (N := 3) hx hb hts (fun w h => zx_Gc (uz_Jx4a65c w h)) tyJx4a65c tyJx4a65c_ok nmJx4a65c hown hK hP hD hS 1 rfl rfl 2 (by decide) (hts (.fieldLink RJx4a65c 48 "java/util/ArrayList" "size" "I") (zx_Gc mm_216)) (fun _ h9 => h9) rfl (by decide +kernel) rfl rfl (Nat.le_of_ble_eq_true rfl) dJx4a65c_add_72be8_19 (fun H locs hP hD hS => ?_)
  have hP : va_P D vwCl [(pp, .inr (17, fp)), (pa, .inr (4, [.int mc, .ref a_376, .int 16])), (a_376, .inl (cy 2, 22, .inr (.inr (.inr (.inr (va_up g2_375 (15 : Int32).toNatClampNeg (some pp))))))), (p0, .inr (17, f0)), (p1, .inr (17, f1)), (p2, .inr (17, f2)), (p3, .inr (17, f3)), (p4, .inr (17, f4)), (p5, .inr (17, f5)), (p6, .inr (17, f6)), (p7, .inr (17, f7)), (p8, .inr (17, f8)), (p9, .inr (17, f9)), (p10, .inr (17, f10)), (p11, .inr (17, f11)), (p12, .inr (17, f12)), (p13, .inr (17, f13)), (p14, .inr (17, f14))] H := hP
  have hD : va_D A [(pp, .inr (17, fp)), (pa, .inr (4, [.int mc, .ref a_376, .int 16])), (a_376, .inl (cy 2, 22, .inr (.inr (.inr (.inr (va_up g2_375 (15 : Int32).toNatClampNeg (some pp))))))), (p0, .inr (17, f0)), (p1, .inr (17, f1)), (p2, .inr (17, f2)), (p3, .inr (17, f3)), (p4, .inr (17, f4)), (p5, .inr (17, f5)), (p6, .inr (17, f6)), (p7, .inr (17, f7)), (p8, .inr (17, f8)), (p9, .inr (17, f9)), (p10, .inr (17, f10)), (p11, .inr (17, f11)), (p12, .inr (17, f12)), (p13, .inr (17, f13)), (p14, .inr (17, f14))] := hD
  have hP9 := hP.sub (ws' := [(pa, .inr (4, [.int mc, .ref a_376, .int 16])), (a_376, .inl (cy 2, 22, .inr (.inr (.inr (.inr (va_up g2_375 (15 : Int32).toNatClampNeg (some pp))))))), (pp, .inr (17, fp)), (p0, .inr (17, f0)), (p1, .inr (17, f1)), (p2, .inr (17, f2)), (p3, .inr (17, f3)), (p4, .inr (17, f4)), (p5, .inr (17, f5)), (p6, .inr (17, f6)), (p7, .inr (17, f7)), (p8, .inr (17, f8)), (p9, .inr (17, f9)), (p10, .inr (17, f10)), (p11, .inr (17, f11)), (p12, .inr (17, f12)), (p13, .inr (17, f13)), (p14, .inr (17, f14))]) [1, 2, 0, 3, 4, 5, 6, 7, 8, 9, 10, 11, 12, 13, 14, 15, 16, 17] rfl
  have hD9 := hD.sub (ws' := [(pa, .inr (4, [.int mc, .ref a_376, .int 16])), (a_376, .inl (cy 2, 22, .inr (.inr (.inr (.inr (va_up g2_375 (15 : Int32).toNatClampNeg (some pp))))))), (pp, .inr (17, fp)), (p0, .inr (17, f0)), (p1, .inr (17, f1)), (p2, .inr (17, f2)), (p3, .inr (17, f3)), (p4, .inr (17, f4)), (p5, .inr (17, f5)), (p6, .inr (17, f6)), (p7, .inr (17, f7)), (p8, .inr (17, f8)), (p9, .inr (17, f9)), (p10, .inr (17, f10)), (p11, .inr (17, f11)), (p12, .inr (17, f12)), (p13, .inr (17, f13)), (p14, .inr (17, f14))]) [1, 2, 0, 3, 4, 5, 6, 7, 8, 9, 10, 11, 12, 13, 14, 15, 16, 17] (by decide) rfl
  exact W.vret hx hb hr (fun t ht hW => ⟨⟨⟨a_376, (va_up g2_375 (15 : Int32).toNatClampNeg (some pp))⟩, rfl, ⟨zx_up_at _ (by decide), fun j9 hj9 => (zx_up_ne _ (by show j9 ≠ 15; omega)).trans (h_377 j9 hj9)⟩, zx_fin hP9 hD9 hK ht hW⟩, hS.F ht⟩) hS.2.2 dJx4a65c_add_72be8_22
set_option maxHeartbeats 4000000 in
set_option maxRecDepth 100000 in
theorem c_AL_add1_X12_15 (l : Launch) (hst : l.stackTraces = false) (D : va_G) (cy : Nat → ClassId) (ed sz : Nat) (pa : Nat) (el : Nat) (mc : Int32) (g : Nat → Option Nat) (pp : Nat) (fp : List Value) (p0 : Nat) (p1 : Nat) (p2 : Nat) (p3 : Nat) (p4 : Nat) (p5 : Nat) (p6 : Nat) (p7 : Nat) (p8 : Nat) (p9 : Nat) (p10 : Nat) (p11 : Nat) (p12 : Nat) (p13 : Nat) (p14 : Nat) (f0 : List Value) (f1 : List Value) (f2 : List Value) (f3 : List Value) (f4 : List Value) (f5 : List Value) (f6 : List Value) (f7 : List Value) (f8 : List Value) (f9 : List Value) (f10 : List Value) (f11 : List Value) (f12 : List Value) (f13 : List Value) (f14 : List Value) (hg0 : g 0 = some p0) (hg1 : g 1 = some p1) (hg2 : g 2 = some p2) (hg3 : g 3 = some p3) (hg4 : g 4 = some p4) (hg5 : g 5 = some p5) (hg6 : g 6 = some p6) (hg7 : g 7 = some p7) (hg8 : g 8 = some p8) (hg9 : g 9 = some p9) (hg10 : g 10 = some p10) (hg11 : g 11 = some p11) (hg12 : g 12 = some p12) (hg13 : g 13 = some p13) (hg14 : g 14 = some p14) : Met l yJx4a65c_add_9ea2d wzJx4a65c_add_9ea2d ({ frames := 6, cells := 1, slots := 22, locals := 140 }) (zx_Pc D cy ed sz [.ref pa, .ref pp] [(pa, .inr (4, [.int mc, .ref el, .int 15])), (el, .inl (cy 2, 15, .inr (.inr (.inr (.inr g))))), (pp, .inr (17, fp)), (p0, .inr (17, f0)), (p1, .inr (17, f1)), (p2, .inr (17, f2)), (p3, .inr (17, f3)), (p4, .inr (17, f4)), (p5, .inr (17, f5)), (p6, .inr (17, f6)), (p7, .inr (17, f7)), (p8, .inr (17, f8)), (p9, .inr (17, f9)), (p10, .inr (17, f10)), (p11, .inr (17, f11)), (p12, .inr (17, f12)), (p13, .inr (17, f13)), (p14, .inr (17, f14))]) (va_Qi (fun (r9 : Int32) (u9 : Int32 × Nat × (Nat → Option Nat)) => match u9 with | (mx, qx, g2) => r9 = 1 ∧ g2 15 = some pp ∧ ∀ j, j < 15 → g2 j = g j) (fun (u9 : Int32 × Nat × (Nat → Option Nat)) (t9 : State) => match u9 with | (mx, qx, g2) => zx_At D cy (va_A [(pa, .inr (4, [.int mc, .ref el, .int 15])), (el, .inl (cy 2, 15, .inr (.inr (.inr (.inr g))))), (pp, .inr (17, fp)), (p0, .inr (17, f0)), (p1, .inr (17, f1)), (p2, .inr (17, f2)), (p3, .inr (17, f3)), (p4, .inr (17, f4)), (p5, .inr (17, f5)), (p6, .inr (17, f6)), (p7, .inr (17, f7)), (p8, .inr (17, f8)), (p9, .inr (17, f9)), (p10, .inr (17, f10)), (p11, .inr (17, f11)), (p12, .inr (17, f12)), (p13, .inr (17, f13)), (p14, .inr (17, f14))] sz) [(pa, .inr (4, [.int mx, .ref qx, .int 16])), (qx, .inl (cy 2, 22, .inr (.inr (.inr (.inr g2))))), (pp, .inr (17, fp)), (p0, .inr (17, f0)), (p1, .inr (17, f1)), (p2, .inr (17, f2)), (p3, .inr (17, f3)), (p4, .inr (17, f4)), (p5, .inr (17, f5)), (p6, .inr (17, f6)), (p7, .inr (17, f7)), (p8, .inr (17, f8)), (p9, .inr (17, f9)), (p10, .inr (17, f10)), (p11, .inr (17, f11)), (p12, .inr (17, f12)), (p13, .inr (17, f13)), (p14, .inr (17, f14))] t9) (va_A [(pa, .inr (4, [.int mc, .ref el, .int 15])), (el, .inl (cy 2, 15, .inr (.inr (.inr (.inr g))))), (pp, .inr (17, fp)), (p0, .inr (17, f0)), (p1, .inr (17, f1)), (p2, .inr (17, f2)), (p3, .inr (17, f3)), (p4, .inr (17, f4)), (p5, .inr (17, f5)), (p6, .inr (17, f6)), (p7, .inr (17, f7)), (p8, .inr (17, f8)), (p9, .inr (17, f9)), (p10, .inr (17, f10)), (p11, .inr (17, f11)), (p12, .inr (17, f12)), (p13, .inr (17, f13)), (p14, .inr (17, f14))] sz)) 1 22 (va_A [(pa, .inr (4, [.int mc, .ref el, .int 15])), (el, .inl (cy 2, 15, .inr (.inr (.inr (.inr g))))), (pp, .inr (17, fp)), (p0, .inr (17, f0)), (p1, .inr (17, f1)), (p2, .inr (17, f2)), (p3, .inr (17, f3)), (p4, .inr (17, f4)), (p5, .inr (17, f5)), (p6, .inr (17, f6)), (p7, .inr (17, f7)), (p8, .inr (17, f8)), (p9, .inr (17, f9)), (p10, .inr (17, f10)), (p11, .inr (17, f11)), (p12, .inr (17, f12)), (p13, .inr (17, f13)), (p14, .inr (17, f14))] sz) := by
  refine Met.ofW (cc := cJx4a65c_add_9ea2d) (maxL := 2) (ret := (some .boolean)) (by decide) rfl ?_
  intro p e s m args below meth c s₁ B hml hv
  obtain ⟨rfl, hsz, hP, hK, hD0, hZ, hN⟩ := hv
  have hx := B.exec
  have hb := B.bytes
  have hr := B.returns
  have hts := atoms_spec (ws := wzJx4a65c_add_9ea2d) B.pre
  have hown : s.vm.findClass RJx4a65c = some m.cls := findClass_of_methodNamed B.named
  have hlocks := B.notSynchronized
  subst hsz
  have hD := hD0.self (sz := s.heap.size)
  generalize hAe : va_A [(pa, .inr (4, [.int mc, .ref el, .int 15])), (el, .inl (cy 2, 15, .inr (.inr (.inr (.inr g))))), (pp, .inr (17, fp)), (p0, .inr (17, f0)), (p1, .inr (17, f1)), (p2, .inr (17, f2)), (p3, .inr (17, f3)), (p4, .inr (17, f4)), (p5, .inr (17, f5)), (p6, .inr (17, f6)), (p7, .inr (17, f7)), (p8, .inr (17, f8)), (p9, .inr (17, f9)), (p10, .inr (17, f10)), (p11, .inr (17, f11)), (p12, .inr (17, f12)), (p13, .inr (17, f13)), (p14, .inr (17, f14))] s.heap.size = A at hD hZ ⊢
  have hA : ∀ q : Nat, s.heap.size ≤ q → A q := fun q h => by rw [← hAe]; exact Or.inr h
  have hS : va_S A s.heap s.heap [] := va_S.rf
  have hP : va_P D vwCl [(pa, .inr (4, [.int mc, .ref el, .int 15])), (el, .inl (cy 2, 15, .inr (.inr (.inr (.inr g))))), (pp, .inr (17, fp)), (p0, .inr (17, f0)), (p1, .inr (17, f1)), (p2, .inr (17, f2)), (p3, .inr (17, f3)), (p4, .inr (17, f4)), (p5, .inr (17, f5)), (p6, .inr (17, f6)), (p7, .inr (17, f7)), (p8, .inr (17, f8)), (p9, .inr (17, f9)), (p10, .inr (17, f10)), (p11, .inr (17, f11)), (p12, .inr (17, f12)), (p13, .inr (17, f13)), (p14, .inr (17, f14))] s.heap := hP
  have hl := lv_entry ([.ref pa, .ref pp]) (n := 2) (Nat.le_of_ble_eq_true rfl)
  rw [lg_entry_eq]
  generalize (lg_sl ([.ref pa, .ref pp]) ++ List.replicate (2 - (lg_sl ([.ref pa, .ref pp])).length) Slot.unset).toArray = ls at hl ⊢
  have hl : lv_has ls 2 [(0, .ref pa), (1, .ref pp)] := hl
  refine lv_aload_n hx hb dJx4a65c_add_9ea2d_0 rfl (lv_at hl 0 rfl) ?_
  refine lv_dup hx hb dJx4a65c_add_9ea2d_1 rfl ?_
  refine va_get (D := D) (ci := 4) (v := .int mc) (C := RJx4a65c) (T := TJx4a65c) (N := 3) hx hb hts (fun w h => zx_Gc (uz_Jx4a65c w h)) hown hK hP 0 rfl rfl 0 (by decide) (hts (.fieldLink RJx4a65c 63 "java/util/ArrayList" "modCount" "I") (zx_Gc mm_220)) (fun x9 h9 => u_same (hts (.sameField "java/util/ArrayList" "java/util/AbstractList" "modCount" "I") (zx_Gc mm_219)) x9 h9) rfl dJx4a65c_add_9ea2d_2 ?_
  refine lv_iconst (v := 1) hx hb dJx4a65c_add_9ea2d_5 (by decide) ?_
  refine lv_iadd hx hb dJx4a65c_add_9ea2d_6 ?_
  refine va_put (D := D) (ci := 4) (v := .int (mc + (1 : Int32))) (ty := .int) (C := RJx4a65c) (T := TJx4a65c) (N := 3) hx hb hts (fun w h => zx_Gc (uz_Jx4a65c w h)) tyJx4a65c tyJx4a65c_ok nmJx4a65c hown hK hP hD hS 0 rfl rfl 0 (by decide) (hts (.fieldLink RJx4a65c 63 "java/util/ArrayList" "modCount" "I") (zx_Gc mm_220)) (fun x9 h9 => u_same (hts (.sameField "java/util/ArrayList" "java/util/AbstractList" "modCount" "I") (zx_Gc mm_219)) x9 h9) rfl (by decide +kernel) rfl rfl (Nat.le_of_ble_eq_true rfl) dJx4a65c_add_9ea2d_7 (fun H locs hP hD hS => ?_)
  have hP : va_P D vwCl [(pa, .inr (4, [.int (mc + (1 : Int32)), .ref el, .int 15])), (el, .inl (cy 2, 15, .inr (.inr (.inr (.inr g))))), (pp, .inr (17, fp)), (p0, .inr (17, f0)), (p1, .inr (17, f1)), (p2, .inr (17, f2)), (p3, .inr (17, f3)), (p4, .inr (17, f4)), (p5, .inr (17, f5)), (p6, .inr (17, f6)), (p7, .inr (17, f7)), (p8, .inr (17, f8)), (p9, .inr (17, f9)), (p10, .inr (17, f10)), (p11, .inr (17, f11)), (p12, .inr (17, f12)), (p13, .inr (17, f13)), (p14, .inr (17, f14))] H := hP
  have hD : va_D A [(pa, .inr (4, [.int (mc + (1 : Int32)), .ref el, .int 15])), (el, .inl (cy 2, 15, .inr (.inr (.inr (.inr g))))), (pp, .inr (17, fp)), (p0, .inr (17, f0)), (p1, .inr (17, f1)), (p2, .inr (17, f2)), (p3, .inr (17, f3)), (p4, .inr (17, f4)), (p5, .inr (17, f5)), (p6, .inr (17, f6)), (p7, .inr (17, f7)), (p8, .inr (17, f8)), (p9, .inr (17, f9)), (p10, .inr (17, f10)), (p11, .inr (17, f11)), (p12, .inr (17, f12)), (p13, .inr (17, f13)), (p14, .inr (17, f14))] := hD
  refine lv_aload_n hx hb dJx4a65c_add_9ea2d_10 rfl (lv_at hl 0 rfl) ?_
  refine lv_aload_n hx hb dJx4a65c_add_9ea2d_11 rfl (lv_at hl 1 rfl) ?_
  refine lv_aload_n hx hb dJx4a65c_add_9ea2d_12 rfl (lv_at hl 0 rfl) ?_
  refine va_get (D := D) (ci := 4) (v := .ref el) (C := RJx4a65c) (T := TJx4a65c) (N := 3) hx hb hts (fun w h => zx_Gc (uz_Jx4a65c w h)) hown hK hP 0 rfl rfl 1 (by decide) (hts (.fieldLink RJx4a65c 9 "java/util/ArrayList" "elementData" "[Ljava/lang/Object;") (zx_Gc mm_213)) (fun _ h9 => h9) rfl dJx4a65c_add_9ea2d_13 ?_
  refine lv_aload_n hx hb dJx4a65c_add_9ea2d_16 rfl (lv_at hl 0 rfl) ?_
  refine va_get (D := D) (ci := 4) (v := .int 15) (C := RJx4a65c) (T := TJx4a65c) (N := 3) hx hb hts (fun w h => zx_Gc (uz_Jx4a65c w h)) hown hK hP 0 rfl rfl 2 (by decide) (hts (.fieldLink RJx4a65c 48 "java/util/ArrayList" "size" "I") (zx_Gc mm_216)) (fun _ h9 => h9) rfl dJx4a65c_add_9ea2d_17 ?_
  have hPc := hP.sub (ws' := [(pa, .inr (4, [.int (mc + (1 : Int32)), .ref el, .int 15])), (el, .inl (cy 2, 15, .inr (.inr (.inr (.inr g))))), (pp, .inr (17, fp)), (p0, .inr (17, f0)), (p1, .inr (17, f1)), (p2, .inr (17, f2)), (p3, .inr (17, f3)), (p4, .inr (17, f4)), (p5, .inr (17, f5)), (p6, .inr (17, f6)), (p7, .inr (17, f7)), (p8, .inr (17, f8)), (p9, .inr (17, f9)), (p10, .inr (17, f10)), (p11, .inr (17, f11)), (p12, .inr (17, f12)), (p13, .inr (17, f13)), (p14, .inr (17, f14))]) [0, 1, 2, 3, 4, 5, 6, 7, 8, 9, 10, 11, 12, 13, 14, 15, 16, 17] rfl
  have hDc := hD.sub (ws' := [(pa, .inr (4, [.int (mc + (1 : Int32)), .ref el, .int 15])), (el, .inl (cy 2, 15, .inr (.inr (.inr (.inr g))))), (pp, .inr (17, fp)), (p0, .inr (17, f0)), (p1, .inr (17, f1)), (p2, .inr (17, f2)), (p3, .inr (17, f3)), (p4, .inr (17, f4)), (p5, .inr (17, f5)), (p6, .inr (17, f6)), (p7, .inr (17, f7)), (p8, .inr (17, f8)), (p9, .inr (17, f9)), (p10, .inr (17, f10)), (p11, .inr (17, f11)), (p12, .inr (17, f12)), (p13, .inr (17, f13)), (p14, .inr (17, f14))]) [0, 1, 2, 3, 4, 5, 6, 7, 8, 9, 10, 11, 12, 13, 14, 15, 16, 17] (by decide) rfl
  have hFc := va_free (wc := [(pa, .inr (4, [.int (mc + (1 : Int32)), .ref el, .int 15])), (el, .inl (cy 2, 15, .inr (.inr (.inr (.inr g))))), (pp, .inr (17, fp)), (p0, .inr (17, f0)), (p1, .inr (17, f1)), (p2, .inr (17, f2)), (p3, .inr (17, f3)), (p4, .inr (17, f4)), (p5, .inr (17, f5)), (p6, .inr (17, f6)), (p7, .inr (17, f7)), (p8, .inr (17, f8)), (p9, .inr (17, f9)), (p10, .inr (17, f10)), (p11, .inr (17, f11)), (p12, .inr (17, f12)), (p13, .inr (17, f13)), (p14, .inr (17, f14))]) hD hS hA [0, 1, 2, 3, 4, 5, 6, 7, 8, 9, 10, 11, 12, 13, 14, 15, 16, 17] rfl
  refine va_callv (va_runV (As := [.ref pp, .ref el, .int 15]) (rest := []) ⟨hx, hb, hml, hown, hts⟩ (c_AL_add3_X12_15 l hst D cy ed H.size pa el (mc + (1 : Int32)) g pp fp p0 p1 p2 p3 p4 p5 p6 p7 p8 p9 p10 p11 p12 p13 p14 f0 f1 f2 f3 f4 f5 f6 f7 f8 f9 f10 f11 f12 f13 f14 hg0 hg1 hg2 hg3 hg4 hg5 hg6 hg7 hg8 hg9 hg10 hg11 hg12 hg13 hg14) (cwV 3 hts (zx_GV mm_776 mm_778 mm_5 mm_77 mm_779) rfl rfl rfl (by decide +kernel) ⟨(Nat.le_of_ble_eq_true rfl), (Nat.le_of_ble_eq_true rfl)⟩) ⟨zx_blind, va_recv hK hPc (ci := 4) (q0 := 0) rfl rfl, zx_give hPc hK hDc hS hFc hZ hN⟩ rfl rfl hl.1 rfl (lv_room (Nat.le_of_ble_eq_true rfl)) dJx4a65c_add_9ea2d_20 ⟨(Nat.le_of_ble_eq_true rfl), (Nat.le_of_ble_eq_true rfl)⟩) hS (fun q _ h => hFc q h) hFc (fun u t H1 locs ht hvm hw hB hz1 hk1 hS => ?_)
  obtain ⟨qx_378, g2_379⟩ := u
  have h_380 := hw
  obtain ⟨hP, hD⟩ := zx_join (wr := []) (w1 := [(pa, .inr (4, [.int (mc + (1 : Int32)), .ref qx_378, .int 16])), (qx_378, .inl (cy 2, 22, .inr (.inr (.inr (.inr g2_379))))), (pp, .inr (17, fp)), (p0, .inr (17, f0)), (p1, .inr (17, f1)), (p2, .inr (17, f2)), (p3, .inr (17, f3)), (p4, .inr (17, f4)), (p5, .inr (17, f5)), (p6, .inr (17, f6)), (p7, .inr (17, f7)), (p8, .inr (17, f8)), (p9, .inr (17, f9)), (p10, .inr (17, f10)), (p11, .inr (17, f11)), (p12, .inr (17, f12)), (p13, .inr (17, f13)), (p14, .inr (17, f14))]) [0, 1, 2, 3, 4, 5, 6, 7, 8, 9, 10, 11, 12, 13, 14, 15, 16, 17] [] rfl rfl (by decide) (by decide) hP hD hk1 hFc hB ht
  generalize H1 = H at hP hS ⊢
  have hP : va_P D vwCl [(pa, .inr (4, [.int (mc + (1 : Int32)), .ref qx_378, .int 16])), (qx_378, .inl (cy 2, 22, .inr (.inr (.inr (.inr g2_379))))), (pp, .inr (17, fp)), (p0, .inr (17, f0)), (p1, .inr (17, f1)), (p2, .inr (17, f2)), (p3, .inr (17, f3)), (p4, .inr (17, f4)), (p5, .inr (17, f5)), (p6, .inr (17, f6)), (p7, .inr (17, f7)), (p8, .inr (17, f8)), (p9, .inr (17, f9)), (p10, .inr (17, f10)), (p11, .inr (17, f11)), (p12, .inr (17, f12)), (p13, .inr (17, f13)), (p14, .inr (17, f14))] H := hP
  have hD : va_D A [(pa, .inr (4, [.int (mc + (1 : Int32)), .ref qx_378, .int 16])), (qx_378, .inl (cy 2, 22, .inr (.inr (.inr (.inr g2_379))))), (pp, .inr (17, fp)), (p0, .inr (17, f0)), (p1, .inr (17, f1)), (p2, .inr (17, f2)), (p3, .inr (17, f3)), (p4, .inr (17, f4)), (p5, .inr (17, f5)), (p6, .inr (17, f6)), (p7, .inr (17, f7)), (p8, .inr (17, f8)), (p9, .inr (17, f9)), (p10, .inr (17, f10)), (p11, .inr (17, f11)), (p12, .inr (17, f12)), (p13, .inr (17, f13)), (p14, .inr (17, f14))] := hD
  refine W.widen (k := 1) (n := 22) (Nat.le_of_ble_eq_true rfl) (Nat.le_of_ble_eq_true rfl) ?_
  obtain ⟨hs_381, hs_382⟩ := h_380
  refine lv_iconst (v := 1) hx hb dJx4a65c_add_9ea2d_23 (by decide) ?_
  have hP9 := hP.sub (ws' := [(pa, .inr (4, [.int (mc + (1 : Int32)), .ref qx_378, .int 16])), (qx_378, .inl (cy 2, 22, .inr (.inr (.inr (.inr g2_379))))), (pp, .inr (17, fp)), (p0, .inr (17, f0)), (p1, .inr (17, f1)), (p2, .inr (17, f2)), (p3, .inr (17, f3)), (p4, .inr (17, f4)), (p5, .inr (17, f5)), (p6, .inr (17, f6)), (p7, .inr (17, f7)), (p8, .inr (17, f8)), (p9, .inr (17, f9)), (p10, .inr (17, f10)), (p11, .inr (17, f11)), (p12, .inr (17, f12)), (p13, .inr (17, f13)), (p14, .inr (17, f14))]) [0, 1, 2, 3, 4, 5, 6, 7, 8, 9, 10, 11, 12, 13, 14, 15, 16, 17] rfl
  have hD9 := hD.sub (ws' := [(pa, .inr (4, [.int (mc + (1 : Int32)), .ref qx_378, .int 16])), (qx_378, .inl (cy 2, 22, .inr (.inr (.inr (.inr g2_379))))), (pp, .inr (17, fp)), (p0, .inr (17, f0)), (p1, .inr (17, f1)), (p2, .inr (17, f2)), (p3, .inr (17, f3)), (p4, .inr (17, f4)), (p5, .inr (17, f5)), (p6, .inr (17, f6)), (p7, .inr (17, f7)), (p8, .inr (17, f8)), (p9, .inr (17, f9)), (p10, .inr (17, f10)), (p11, .inr (17, f11)), (p12, .inr (17, f12)), (p13, .inr (17, f13)), (p14, .inr (17, f14))]) [0, 1, 2, 3, 4, 5, 6, 7, 8, 9, 10, 11, 12, 13, 14, 15, 16, 17] (by decide) rfl
  exact W.zret (v := 1) hx hb hr rfl (fun t ht hW => ⟨⟨1, ⟨(mc + (1 : Int32)), qx_378, g2_379⟩, rfl, ⟨rfl, ⟨hs_381, hs_382⟩⟩, zx_fin hP9 hD9 hK ht hW⟩, hS.F ht⟩) hS.2.2 dJx4a65c_add_9ea2d_24
set_option maxHeartbeats 4000000 in
set_option maxRecDepth 100000 in
theorem c_AL_add3_X12_16 (l : Launch) (hst : l.stackTraces = false) (D : va_G) (cy : Nat → ClassId) (ed sz : Nat) (pa : Nat) (el : Nat) (mc : Int32) (g : Nat → Option Nat) (pp : Nat) (fp : List Value) : Met l yJx4a65c_add_72be8 wzJx4a65c_add_72be8 ({ frames := 0, cells := 0, slots := 0, locals := 0 }) (zx_Pc D cy ed sz [.ref pa, .ref pp, .ref el, .int 16] [(pa, .inr (4, [.int mc, .ref el, .int 16])), (el, .inl (cy 2, 22, .inr (.inr (.inr (.inr g))))), (pp, .inr (17, fp))]) (va_Qv (fun (u9 : Nat × (Nat → Option Nat)) => match u9 with | (qx, g2) => g2 16 = some pp ∧ ∀ j, j < 16 → g2 j = g j) (fun (u9 : Nat × (Nat → Option Nat)) (t9 : State) => match u9 with | (qx, g2) => zx_At D cy (va_A [(pa, .inr (4, [.int mc, .ref el, .int 16])), (el, .inl (cy 2, 22, .inr (.inr (.inr (.inr g))))), (pp, .inr (17, fp))] sz) [(pa, .inr (4, [.int mc, .ref qx, .int 17])), (qx, .inl (cy 2, 22, .inr (.inr (.inr (.inr g2))))), (pp, .inr (17, fp))] t9) (va_A [(pa, .inr (4, [.int mc, .ref el, .int 16])), (el, .inl (cy 2, 22, .inr (.inr (.inr (.inr g))))), (pp, .inr (17, fp))] sz)) 0 0 (va_A [(pa, .inr (4, [.int mc, .ref el, .int 16])), (el, .inl (cy 2, 22, .inr (.inr (.inr (.inr g))))), (pp, .inr (17, fp))] sz) := by
  refine Met.ofW (cc := cJx4a65c_add_72be8) (maxL := 4) (ret := none) (by decide) rfl ?_
  intro p e s m args below meth c s₁ B hml hv
  obtain ⟨rfl, hsz, hP, hK, hD0, hZ, hN⟩ := hv
  have hx := B.exec
  have hb := B.bytes
  have hr := B.returns
  have hts := atoms_spec (ws := wzJx4a65c_add_72be8) B.pre
  have hown : s.vm.findClass RJx4a65c = some m.cls := findClass_of_methodNamed B.named
  have hlocks := B.notSynchronized
  subst hsz
  have hD := hD0.self (sz := s.heap.size)
  generalize hAe : va_A [(pa, .inr (4, [.int mc, .ref el, .int 16])), (el, .inl (cy 2, 22, .inr (.inr (.inr (.inr g))))), (pp, .inr (17, fp))] s.heap.size = A at hD hZ ⊢
  have hA : ∀ q : Nat, s.heap.size ≤ q → A q := fun q h => by rw [← hAe]; exact Or.inr h
  have hS : va_S A s.heap s.heap [] := va_S.rf
  have hP : va_P D vwCl [(pa, .inr (4, [.int mc, .ref el, .int 16])), (el, .inl (cy 2, 22, .inr (.inr (.inr (.inr g))))), (pp, .inr (17, fp))] s.heap := hP
  have hl := lv_entry ([.ref pa, .ref pp, .ref el, .int 16]) (n := 4) (Nat.le_of_ble_eq_true rfl)
  rw [lg_entry_eq]
  generalize (lg_sl ([.ref pa, .ref pp, .ref el, .int 16]) ++ List.replicate (4 - (lg_sl ([.ref pa, .ref pp, .ref el, .int 16])).length) Slot.unset).toArray = ls at hl ⊢
  have hl : lv_has ls 4 [(0, .ref pa), (1, .ref pp), (2, .ref el), (3, .int 16)] := hl
  refine lv_iload_n hx hb dJx4a65c_add_72be8_0 rfl (lv_at hl 3 rfl) ?_
  refine lv_aload_n hx hb dJx4a65c_add_72be8_1 rfl (lv_at hl 2 rfl) ?_
  refine va_alen (v := 22) hx hb hK hP 1 2 rfl rfl (show Int32.ofNat 22 = 22 from by decide) dJx4a65c_add_72be8_2 ?_
  refine lv_icmp_ne (tgt := 11) hx hb dJx4a65c_add_72be8_3 (by decide) (fun _ => ?_) (fun c_383 => absurd c_383 (by decide))
  refine lv_aload_n hx hb dJx4a65c_add_72be8_11 rfl (lv_at hl 2 rfl) ?_
  refine lv_iload_n hx hb dJx4a65c_add_72be8_12 rfl (lv_at hl 3 rfl) ?_
  refine lv_aload_n hx hb dJx4a65c_add_72be8_13 rfl (lv_at hl 1 rfl) ?_
  refine va_astqO (E := "java/lang/Object") hx hb hK hP hD hS 1 2 2 17 rfl rfl (hN.2.2.1 _ _ (List.mem_of_getElem? (i := 2467) (by decide +kernel))) rfl rfl (zx_bn (by decide)) dJx4a65c_add_72be8_14 (fun H locs hP hD hS => ?_)
  have hP : va_P D vwCl [(pa, .inr (4, [.int mc, .ref el, .int 16])), (el, .inl (cy 2, 22, .inr (.inr (.inr (.inr (va_up g (16 : Int32).toNatClampNeg (some pp))))))), (pp, .inr (17, fp))] H := hP
  have hD : va_D A [(pa, .inr (4, [.int mc, .ref el, .int 16])), (el, .inl (cy 2, 22, .inr (.inr (.inr (.inr (va_up g (16 : Int32).toNatClampNeg (some pp))))))), (pp, .inr (17, fp))] := hD
  refine lv_aload_n hx hb dJx4a65c_add_72be8_15 rfl (lv_at hl 0 rfl) ?_
  refine lv_iload_n hx hb dJx4a65c_add_72be8_16 rfl (lv_at hl 3 rfl) ?_
  refine lv_iconst (v := 1) hx hb dJx4a65c_add_72be8_17 (by decide) ?_
  refine lv_iadd hx hb dJx4a65c_add_72be8_18 ?_
  refine lv_topi (fun y9 ey9 => ?_)
  obtain rfl : y9 = 17 := by rw [ey9] <;> decide
  refine va_put (D := D) (ci := 4) (v := .int 17) (ty := .int) (C := RJx4a65c) (T := TJx4a65c) (N := 3) hx hb hts (fun w h => zx_Gc (uz_Jx4a65c w h)) tyJx4a65c tyJx4a65c_ok nmJx4a65c hown hK hP hD hS 0 rfl rfl 2 (by decide) (hts (.fieldLink RJx4a65c 48 "java/util/ArrayList" "size" "I") (zx_Gc mm_216)) (fun _ h9 => h9) rfl (by decide +kernel) rfl rfl (Nat.le_of_ble_eq_true rfl) dJx4a65c_add_72be8_19 (fun H locs hP hD hS => ?_)
  have hP : va_P D vwCl [(pa, .inr (4, [.int mc, .ref el, .int 17])), (el, .inl (cy 2, 22, .inr (.inr (.inr (.inr (va_up g (16 : Int32).toNatClampNeg (some pp))))))), (pp, .inr (17, fp))] H := hP
  have hD : va_D A [(pa, .inr (4, [.int mc, .ref el, .int 17])), (el, .inl (cy 2, 22, .inr (.inr (.inr (.inr (va_up g (16 : Int32).toNatClampNeg (some pp))))))), (pp, .inr (17, fp))] := hD
  have hP9 := hP.sub (ws' := [(pa, .inr (4, [.int mc, .ref el, .int 17])), (el, .inl (cy 2, 22, .inr (.inr (.inr (.inr (va_up g (16 : Int32).toNatClampNeg (some pp))))))), (pp, .inr (17, fp))]) [0, 1, 2] rfl
  have hD9 := hD.sub (ws' := [(pa, .inr (4, [.int mc, .ref el, .int 17])), (el, .inl (cy 2, 22, .inr (.inr (.inr (.inr (va_up g (16 : Int32).toNatClampNeg (some pp))))))), (pp, .inr (17, fp))]) [0, 1, 2] (by decide) rfl
  exact W.vret hx hb hr (fun t ht hW => ⟨⟨⟨el, (va_up g (16 : Int32).toNatClampNeg (some pp))⟩, rfl, ⟨zx_up_at _ (by decide), fun j9 hj9 => zx_up_ne _ (by show j9 ≠ 16; omega)⟩, zx_fin hP9 hD9 hK ht hW⟩, hS.F ht⟩) hS.2.2 dJx4a65c_add_72be8_22
set_option maxHeartbeats 4000000 in
set_option maxRecDepth 100000 in
theorem c_AL_add1_X12_16 (l : Launch) (hst : l.stackTraces = false) (D : va_G) (cy : Nat → ClassId) (ed sz : Nat) (pa : Nat) (el : Nat) (mc : Int32) (g : Nat → Option Nat) (pp : Nat) (fp : List Value) : Met l yJx4a65c_add_9ea2d wzJx4a65c_add_9ea2d ({ frames := 1, cells := 0, slots := 0, locals := 23 }) (zx_Pc D cy ed sz [.ref pa, .ref pp] [(pa, .inr (4, [.int mc, .ref el, .int 16])), (el, .inl (cy 2, 22, .inr (.inr (.inr (.inr g))))), (pp, .inr (17, fp))]) (va_Qi (fun (r9 : Int32) (u9 : Int32 × Nat × (Nat → Option Nat)) => match u9 with | (mx, qx, g2) => r9 = 1 ∧ g2 16 = some pp ∧ ∀ j, j < 16 → g2 j = g j) (fun (u9 : Int32 × Nat × (Nat → Option Nat)) (t9 : State) => match u9 with | (mx, qx, g2) => zx_At D cy (va_A [(pa, .inr (4, [.int mc, .ref el, .int 16])), (el, .inl (cy 2, 22, .inr (.inr (.inr (.inr g))))), (pp, .inr (17, fp))] sz) [(pa, .inr (4, [.int mx, .ref qx, .int 17])), (qx, .inl (cy 2, 22, .inr (.inr (.inr (.inr g2))))), (pp, .inr (17, fp))] t9) (va_A [(pa, .inr (4, [.int mc, .ref el, .int 16])), (el, .inl (cy 2, 22, .inr (.inr (.inr (.inr g))))), (pp, .inr (17, fp))] sz)) 0 0 (va_A [(pa, .inr (4, [.int mc, .ref el, .int 16])), (el, .inl (cy 2, 22, .inr (.inr (.inr (.inr g))))), (pp, .inr (17, fp))] sz) := by
  refine Met.ofW (cc := cJx4a65c_add_9ea2d) (maxL := 2) (ret := (some .boolean)) (by decide) rfl ?_
  intro p e s m args below meth c s₁ B hml hv
  obtain ⟨rfl, hsz, hP, hK, hD0, hZ, hN⟩ := hv
  have hx := B.exec
  have hb := B.bytes
  have hr := B.returns
  have hts := atoms_spec (ws := wzJx4a65c_add_9ea2d) B.pre
  have hown : s.vm.findClass RJx4a65c = some m.cls := findClass_of_methodNamed B.named
  have hlocks := B.notSynchronized
  subst hsz
  have hD := hD0.self (sz := s.heap.size)
  generalize hAe : va_A [(pa, .inr (4, [.int mc, .ref el, .int 16])), (el, .inl (cy 2, 22, .inr (.inr (.inr (.inr g))))), (pp, .inr (17, fp))] s.heap.size = A at hD hZ ⊢
  have hA : ∀ q : Nat, s.heap.size ≤ q → A q := fun q h => by rw [← hAe]; exact Or.inr h
  have hS : va_S A s.heap s.heap [] := va_S.rf
  have hP : va_P D vwCl [(pa, .inr (4, [.int mc, .ref el, .int 16])), (el, .inl (cy 2, 22, .inr (.inr (.inr (.inr g))))), (pp, .inr (17, fp))] s.heap := hP
  have hl := lv_entry ([.ref pa, .ref pp]) (n := 2) (Nat.le_of_ble_eq_true rfl)
  rw [lg_entry_eq]
  generalize (lg_sl ([.ref pa, .ref pp]) ++ List.replicate (2 - (lg_sl ([.ref pa, .ref pp])).length) Slot.unset).toArray = ls at hl ⊢
  have hl : lv_has ls 2 [(0, .ref pa), (1, .ref pp)] := hl
  refine lv_aload_n hx hb dJx4a65c_add_9ea2d_0 rfl (lv_at hl 0 rfl) ?_
  refine lv_dup hx hb dJx4a65c_add_9ea2d_1 rfl ?_
  refine va_get (D := D) (ci := 4) (v := .int mc) (C := RJx4a65c) (T := TJx4a65c) (N := 3) hx hb hts (fun w h => zx_Gc (uz_Jx4a65c w h)) hown hK hP 0 rfl rfl 0 (by decide) (hts (.fieldLink RJx4a65c 63 "java/util/ArrayList" "modCount" "I") (zx_Gc mm_220)) (fun x9 h9 => u_same (hts (.sameField "java/util/ArrayList" "java/util/AbstractList" "modCount" "I") (zx_Gc mm_219)) x9 h9) rfl dJx4a65c_add_9ea2d_2 ?_
  refine lv_iconst (v := 1) hx hb dJx4a65c_add_9ea2d_5 (by decide) ?_
  refine lv_iadd hx hb dJx4a65c_add_9ea2d_6 ?_
  refine va_put (D := D) (ci := 4) (v := .int (mc + (1 : Int32))) (ty := .int) (C := RJx4a65c) (T := TJx4a65c) (N := 3) hx hb hts (fun w h => zx_Gc (uz_Jx4a65c w h)) tyJx4a65c tyJx4a65c_ok nmJx4a65c hown hK hP hD hS 0 rfl rfl 0 (by decide) (hts (.fieldLink RJx4a65c 63 "java/util/ArrayList" "modCount" "I") (zx_Gc mm_220)) (fun x9 h9 => u_same (hts (.sameField "java/util/ArrayList" "java/util/AbstractList" "modCount" "I") (zx_Gc mm_219)) x9 h9) rfl (by decide +kernel) rfl rfl (Nat.le_of_ble_eq_true rfl) dJx4a65c_add_9ea2d_7 (fun H locs hP hD hS => ?_)
  have hP : va_P D vwCl [(pa, .inr (4, [.int (mc + (1 : Int32)), .ref el, .int 16])), (el, .inl (cy 2, 22, .inr (.inr (.inr (.inr g))))), (pp, .inr (17, fp))] H := hP
  have hD : va_D A [(pa, .inr (4, [.int (mc + (1 : Int32)), .ref el, .int 16])), (el, .inl (cy 2, 22, .inr (.inr (.inr (.inr g))))), (pp, .inr (17, fp))] := hD
  refine lv_aload_n hx hb dJx4a65c_add_9ea2d_10 rfl (lv_at hl 0 rfl) ?_
  refine lv_aload_n hx hb dJx4a65c_add_9ea2d_11 rfl (lv_at hl 1 rfl) ?_
  refine lv_aload_n hx hb dJx4a65c_add_9ea2d_12 rfl (lv_at hl 0 rfl) ?_
  refine va_get (D := D) (ci := 4) (v := .ref el) (C := RJx4a65c) (T := TJx4a65c) (N := 3) hx hb hts (fun w h => zx_Gc (uz_Jx4a65c w h)) hown hK hP 0 rfl rfl 1 (by decide) (hts (.fieldLink RJx4a65c 9 "java/util/ArrayList" "elementData" "[Ljava/lang/Object;") (zx_Gc mm_213)) (fun _ h9 => h9) rfl dJx4a65c_add_9ea2d_13 ?_
  refine lv_aload_n hx hb dJx4a65c_add_9ea2d_16 rfl (lv_at hl 0 rfl) ?_
  refine va_get (D := D) (ci := 4) (v := .int 16) (C := RJx4a65c) (T := TJx4a65c) (N := 3) hx hb hts (fun w h => zx_Gc (uz_Jx4a65c w h)) hown hK hP 0 rfl rfl 2 (by decide) (hts (.fieldLink RJx4a65c 48 "java/util/ArrayList" "size" "I") (zx_Gc mm_216)) (fun _ h9 => h9) rfl dJx4a65c_add_9ea2d_17 ?_
  have hPc := hP.sub (ws' := [(pa, .inr (4, [.int (mc + (1 : Int32)), .ref el, .int 16])), (el, .inl (cy 2, 22, .inr (.inr (.inr (.inr g))))), (pp, .inr (17, fp))]) [0, 1, 2] rfl
  have hDc := hD.sub (ws' := [(pa, .inr (4, [.int (mc + (1 : Int32)), .ref el, .int 16])), (el, .inl (cy 2, 22, .inr (.inr (.inr (.inr g))))), (pp, .inr (17, fp))]) [0, 1, 2] (by decide) rfl
  have hFc := va_free (wc := [(pa, .inr (4, [.int (mc + (1 : Int32)), .ref el, .int 16])), (el, .inl (cy 2, 22, .inr (.inr (.inr (.inr g))))), (pp, .inr (17, fp))]) hD hS hA [0, 1, 2] rfl
  refine va_callv (va_runV (As := [.ref pp, .ref el, .int 16]) (rest := []) ⟨hx, hb, hml, hown, hts⟩ (c_AL_add3_X12_16 l hst D cy ed H.size pa el (mc + (1 : Int32)) g pp fp) (cwV 3 hts (zx_GV mm_776 mm_778 mm_5 mm_77 mm_779) rfl rfl rfl (by decide +kernel) ⟨(Nat.le_of_ble_eq_true rfl), (Nat.le_of_ble_eq_true rfl)⟩) ⟨zx_blind, va_recv hK hPc (ci := 4) (q0 := 0) rfl rfl, zx_give hPc hK hDc hS hFc hZ hN⟩ rfl rfl hl.1 rfl (lv_room (Nat.le_of_ble_eq_true rfl)) dJx4a65c_add_9ea2d_20 ⟨(Nat.le_of_ble_eq_true rfl), (Nat.le_of_ble_eq_true rfl)⟩) hS (fun q _ h => hFc q h) hFc (fun u t H1 locs ht hvm hw hB hz1 hk1 hS => ?_)
  obtain ⟨qx_384, g2_385⟩ := u
  have h_386 := hw
  obtain ⟨hP, hD⟩ := zx_join (wr := []) (w1 := [(pa, .inr (4, [.int (mc + (1 : Int32)), .ref qx_384, .int 17])), (qx_384, .inl (cy 2, 22, .inr (.inr (.inr (.inr g2_385))))), (pp, .inr (17, fp))]) [0, 1, 2] [] rfl rfl (by decide) (by decide) hP hD hk1 hFc hB ht
  generalize H1 = H at hP hS ⊢
  have hP : va_P D vwCl [(pa, .inr (4, [.int (mc + (1 : Int32)), .ref qx_384, .int 17])), (qx_384, .inl (cy 2, 22, .inr (.inr (.inr (.inr g2_385))))), (pp, .inr (17, fp))] H := hP
  have hD : va_D A [(pa, .inr (4, [.int (mc + (1 : Int32)), .ref qx_384, .int 17])), (qx_384, .inl (cy 2, 22, .inr (.inr (.inr (.inr g2_385))))), (pp, .inr (17, fp))] := hD
  refine W.widen (k := 0) (n := 0) (Nat.le_of_ble_eq_true rfl) (Nat.le_of_ble_eq_true rfl) ?_
  obtain ⟨hs_387, hs_388⟩ := h_386
  refine lv_iconst (v := 1) hx hb dJx4a65c_add_9ea2d_23 (by decide) ?_
  have hP9 := hP.sub (ws' := [(pa, .inr (4, [.int (mc + (1 : Int32)), .ref qx_384, .int 17])), (qx_384, .inl (cy 2, 22, .inr (.inr (.inr (.inr g2_385))))), (pp, .inr (17, fp))]) [0, 1, 2] rfl
  have hD9 := hD.sub (ws' := [(pa, .inr (4, [.int (mc + (1 : Int32)), .ref qx_384, .int 17])), (qx_384, .inl (cy 2, 22, .inr (.inr (.inr (.inr g2_385))))), (pp, .inr (17, fp))]) [0, 1, 2] (by decide) rfl
  exact W.zret (v := 1) hx hb hr rfl (fun t ht hW => ⟨⟨1, ⟨(mc + (1 : Int32)), qx_384, g2_385⟩, rfl, ⟨rfl, ⟨hs_387, hs_388⟩⟩, zx_fin hP9 hD9 hK ht hW⟩, hS.F ht⟩) hS.2.2 dJx4a65c_add_9ea2d_24
set_option maxHeartbeats 4000000 in
set_option maxRecDepth 100000 in
theorem c_AL_add3_X12_17 (l : Launch) (hst : l.stackTraces = false) (D : va_G) (cy : Nat → ClassId) (ed sz : Nat) (pa : Nat) (el : Nat) (mc : Int32) (g : Nat → Option Nat) (pp : Nat) (fp : List Value) : Met l yJx4a65c_add_72be8 wzJx4a65c_add_72be8 ({ frames := 0, cells := 0, slots := 0, locals := 0 }) (zx_Pc D cy ed sz [.ref pa, .ref pp, .ref el, .int 17] [(pa, .inr (4, [.int mc, .ref el, .int 17])), (el, .inl (cy 2, 22, .inr (.inr (.inr (.inr g))))), (pp, .inr (17, fp))]) (va_Qv (fun (u9 : Nat × (Nat → Option Nat)) => match u9 with | (qx, g2) => g2 17 = some pp ∧ ∀ j, j < 17 → g2 j = g j) (fun (u9 : Nat × (Nat → Option Nat)) (t9 : State) => match u9 with | (qx, g2) => zx_At D cy (va_A [(pa, .inr (4, [.int mc, .ref el, .int 17])), (el, .inl (cy 2, 22, .inr (.inr (.inr (.inr g))))), (pp, .inr (17, fp))] sz) [(pa, .inr (4, [.int mc, .ref qx, .int 18])), (qx, .inl (cy 2, 22, .inr (.inr (.inr (.inr g2))))), (pp, .inr (17, fp))] t9) (va_A [(pa, .inr (4, [.int mc, .ref el, .int 17])), (el, .inl (cy 2, 22, .inr (.inr (.inr (.inr g))))), (pp, .inr (17, fp))] sz)) 0 0 (va_A [(pa, .inr (4, [.int mc, .ref el, .int 17])), (el, .inl (cy 2, 22, .inr (.inr (.inr (.inr g))))), (pp, .inr (17, fp))] sz) := by
  refine Met.ofW (cc := cJx4a65c_add_72be8) (maxL := 4) (ret := none) (by decide) rfl ?_
  intro p e s m args below meth c s₁ B hml hv
  obtain ⟨rfl, hsz, hP, hK, hD0, hZ, hN⟩ := hv
  have hx := B.exec
  have hb := B.bytes
  have hr := B.returns
  have hts := atoms_spec (ws := wzJx4a65c_add_72be8) B.pre
  have hown : s.vm.findClass RJx4a65c = some m.cls := findClass_of_methodNamed B.named
  have hlocks := B.notSynchronized
  subst hsz
  have hD := hD0.self (sz := s.heap.size)
  generalize hAe : va_A [(pa, .inr (4, [.int mc, .ref el, .int 17])), (el, .inl (cy 2, 22, .inr (.inr (.inr (.inr g))))), (pp, .inr (17, fp))] s.heap.size = A at hD hZ ⊢
  have hA : ∀ q : Nat, s.heap.size ≤ q → A q := fun q h => by rw [← hAe]; exact Or.inr h
  have hS : va_S A s.heap s.heap [] := va_S.rf
  have hP : va_P D vwCl [(pa, .inr (4, [.int mc, .ref el, .int 17])), (el, .inl (cy 2, 22, .inr (.inr (.inr (.inr g))))), (pp, .inr (17, fp))] s.heap := hP
  have hl := lv_entry ([.ref pa, .ref pp, .ref el, .int 17]) (n := 4) (Nat.le_of_ble_eq_true rfl)
  rw [lg_entry_eq]
  generalize (lg_sl ([.ref pa, .ref pp, .ref el, .int 17]) ++ List.replicate (4 - (lg_sl ([.ref pa, .ref pp, .ref el, .int 17])).length) Slot.unset).toArray = ls at hl ⊢
  have hl : lv_has ls 4 [(0, .ref pa), (1, .ref pp), (2, .ref el), (3, .int 17)] := hl
  refine lv_iload_n hx hb dJx4a65c_add_72be8_0 rfl (lv_at hl 3 rfl) ?_
  refine lv_aload_n hx hb dJx4a65c_add_72be8_1 rfl (lv_at hl 2 rfl) ?_
  refine va_alen (v := 22) hx hb hK hP 1 2 rfl rfl (show Int32.ofNat 22 = 22 from by decide) dJx4a65c_add_72be8_2 ?_
  refine lv_icmp_ne (tgt := 11) hx hb dJx4a65c_add_72be8_3 (by decide) (fun _ => ?_) (fun c_389 => absurd c_389 (by decide))
  refine lv_aload_n hx hb dJx4a65c_add_72be8_11 rfl (lv_at hl 2 rfl) ?_
  refine lv_iload_n hx hb dJx4a65c_add_72be8_12 rfl (lv_at hl 3 rfl) ?_
  refine lv_aload_n hx hb dJx4a65c_add_72be8_13 rfl (lv_at hl 1 rfl) ?_
  refine va_astqO (E := "java/lang/Object") hx hb hK hP hD hS 1 2 2 17 rfl rfl (hN.2.2.1 _ _ (List.mem_of_getElem? (i := 2467) (by decide +kernel))) rfl rfl (zx_bn (by decide)) dJx4a65c_add_72be8_14 (fun H locs hP hD hS => ?_)
  have hP : va_P D vwCl [(pa, .inr (4, [.int mc, .ref el, .int 17])), (el, .inl (cy 2, 22, .inr (.inr (.inr (.inr (va_up g (17 : Int32).toNatClampNeg (some pp))))))), (pp, .inr (17, fp))] H := hP
  have hD : va_D A [(pa, .inr (4, [.int mc, .ref el, .int 17])), (el, .inl (cy 2, 22, .inr (.inr (.inr (.inr (va_up g (17 : Int32).toNatClampNeg (some pp))))))), (pp, .inr (17, fp))] := hD
  refine lv_aload_n hx hb dJx4a65c_add_72be8_15 rfl (lv_at hl 0 rfl) ?_
  refine lv_iload_n hx hb dJx4a65c_add_72be8_16 rfl (lv_at hl 3 rfl) ?_
  refine lv_iconst (v := 1) hx hb dJx4a65c_add_72be8_17 (by decide) ?_
  refine lv_iadd hx hb dJx4a65c_add_72be8_18 ?_
  refine lv_topi (fun y9 ey9 => ?_)
  obtain rfl : y9 = 18 := by rw [ey9] <;> decide
  refine va_put (D := D) (ci := 4) (v := .int 18) (ty := .int) (C := RJx4a65c) (T := TJx4a65c) (N := 3) hx hb hts (fun w h => zx_Gc (uz_Jx4a65c w h)) tyJx4a65c tyJx4a65c_ok nmJx4a65c hown hK hP hD hS 0 rfl rfl 2 (by decide) (hts (.fieldLink RJx4a65c 48 "java/util/ArrayList" "size" "I") (zx_Gc mm_216)) (fun _ h9 => h9) rfl (by decide +kernel) rfl rfl (Nat.le_of_ble_eq_true rfl) dJx4a65c_add_72be8_19 (fun H locs hP hD hS => ?_)
  have hP : va_P D vwCl [(pa, .inr (4, [.int mc, .ref el, .int 18])), (el, .inl (cy 2, 22, .inr (.inr (.inr (.inr (va_up g (17 : Int32).toNatClampNeg (some pp))))))), (pp, .inr (17, fp))] H := hP
  have hD : va_D A [(pa, .inr (4, [.int mc, .ref el, .int 18])), (el, .inl (cy 2, 22, .inr (.inr (.inr (.inr (va_up g (17 : Int32).toNatClampNeg (some pp))))))), (pp, .inr (17, fp))] := hD
  have hP9 := hP.sub (ws' := [(pa, .inr (4, [.int mc, .ref el, .int 18])), (el, .inl (cy 2, 22, .inr (.inr (.inr (.inr (va_up g (17 : Int32).toNatClampNeg (some pp))))))), (pp, .inr (17, fp))]) [0, 1, 2] rfl
  have hD9 := hD.sub (ws' := [(pa, .inr (4, [.int mc, .ref el, .int 18])), (el, .inl (cy 2, 22, .inr (.inr (.inr (.inr (va_up g (17 : Int32).toNatClampNeg (some pp))))))), (pp, .inr (17, fp))]) [0, 1, 2] (by decide) rfl
  exact W.vret hx hb hr (fun t ht hW => ⟨⟨⟨el, (va_up g (17 : Int32).toNatClampNeg (some pp))⟩, rfl, ⟨zx_up_at _ (by decide), fun j9 hj9 => zx_up_ne _ (by show j9 ≠ 17; omega)⟩, zx_fin hP9 hD9 hK ht hW⟩, hS.F ht⟩) hS.2.2 dJx4a65c_add_72be8_22
set_option maxHeartbeats 4000000 in
set_option maxRecDepth 100000 in
theorem c_AL_add1_X12_17 (l : Launch) (hst : l.stackTraces = false) (D : va_G) (cy : Nat → ClassId) (ed sz : Nat) (pa : Nat) (el : Nat) (mc : Int32) (g : Nat → Option Nat) (pp : Nat) (fp : List Value) : Met l yJx4a65c_add_9ea2d wzJx4a65c_add_9ea2d ({ frames := 1, cells := 0, slots := 0, locals := 23 }) (zx_Pc D cy ed sz [.ref pa, .ref pp] [(pa, .inr (4, [.int mc, .ref el, .int 17])), (el, .inl (cy 2, 22, .inr (.inr (.inr (.inr g))))), (pp, .inr (17, fp))]) (va_Qi (fun (r9 : Int32) (u9 : Int32 × Nat × (Nat → Option Nat)) => match u9 with | (mx, qx, g2) => r9 = 1 ∧ g2 17 = some pp ∧ ∀ j, j < 17 → g2 j = g j) (fun (u9 : Int32 × Nat × (Nat → Option Nat)) (t9 : State) => match u9 with | (mx, qx, g2) => zx_At D cy (va_A [(pa, .inr (4, [.int mc, .ref el, .int 17])), (el, .inl (cy 2, 22, .inr (.inr (.inr (.inr g))))), (pp, .inr (17, fp))] sz) [(pa, .inr (4, [.int mx, .ref qx, .int 18])), (qx, .inl (cy 2, 22, .inr (.inr (.inr (.inr g2))))), (pp, .inr (17, fp))] t9) (va_A [(pa, .inr (4, [.int mc, .ref el, .int 17])), (el, .inl (cy 2, 22, .inr (.inr (.inr (.inr g))))), (pp, .inr (17, fp))] sz)) 0 0 (va_A [(pa, .inr (4, [.int mc, .ref el, .int 17])), (el, .inl (cy 2, 22, .inr (.inr (.inr (.inr g))))), (pp, .inr (17, fp))] sz) := by
  refine Met.ofW (cc := cJx4a65c_add_9ea2d) (maxL := 2) (ret := (some .boolean)) (by decide) rfl ?_
  intro p e s m args below meth c s₁ B hml hv
  obtain ⟨rfl, hsz, hP, hK, hD0, hZ, hN⟩ := hv
  have hx := B.exec
  have hb := B.bytes
  have hr := B.returns
  have hts := atoms_spec (ws := wzJx4a65c_add_9ea2d) B.pre
  have hown : s.vm.findClass RJx4a65c = some m.cls := findClass_of_methodNamed B.named
  have hlocks := B.notSynchronized
  subst hsz
  have hD := hD0.self (sz := s.heap.size)
  generalize hAe : va_A [(pa, .inr (4, [.int mc, .ref el, .int 17])), (el, .inl (cy 2, 22, .inr (.inr (.inr (.inr g))))), (pp, .inr (17, fp))] s.heap.size = A at hD hZ ⊢
  have hA : ∀ q : Nat, s.heap.size ≤ q → A q := fun q h => by rw [← hAe]; exact Or.inr h
  have hS : va_S A s.heap s.heap [] := va_S.rf
  have hP : va_P D vwCl [(pa, .inr (4, [.int mc, .ref el, .int 17])), (el, .inl (cy 2, 22, .inr (.inr (.inr (.inr g))))), (pp, .inr (17, fp))] s.heap := hP
  have hl := lv_entry ([.ref pa, .ref pp]) (n := 2) (Nat.le_of_ble_eq_true rfl)
  rw [lg_entry_eq]
  generalize (lg_sl ([.ref pa, .ref pp]) ++ List.replicate (2 - (lg_sl ([.ref pa, .ref pp])).length) Slot.unset).toArray = ls at hl ⊢
  have hl : lv_has ls 2 [(0, .ref pa), (1, .ref pp)] := hl
  refine lv_aload_n hx hb dJx4a65c_add_9ea2d_0 rfl (lv_at hl 0 rfl) ?_
  refine lv_dup hx hb dJx4a65c_add_9ea2d_1 rfl ?_
  refine va_get (D := D) (ci := 4) (v := .int mc) (C := RJx4a65c) (T := TJx4a65c) (N := 3) hx hb hts (fun w h => zx_Gc (uz_Jx4a65c w h)) hown hK hP 0 rfl rfl 0 (by decide) (hts (.fieldLink RJx4a65c 63 "java/util/ArrayList" "modCount" "I") (zx_Gc mm_220)) (fun x9 h9 => u_same (hts (.sameField "java/util/ArrayList" "java/util/AbstractList" "modCount" "I") (zx_Gc mm_219)) x9 h9) rfl dJx4a65c_add_9ea2d_2 ?_
  refine lv_iconst (v := 1) hx hb dJx4a65c_add_9ea2d_5 (by decide) ?_
  refine lv_iadd hx hb dJx4a65c_add_9ea2d_6 ?_
  refine va_put (D := D) (ci := 4) (v := .int (mc + (1 : Int32))) (ty := .int) (C := RJx4a65c) (T := TJx4a65c) (N := 3) hx hb hts (fun w h => zx_Gc (uz_Jx4a65c w h)) tyJx4a65c tyJx4a65c_ok nmJx4a65c hown hK hP hD hS 0 rfl rfl 0 (by decide) (hts (.fieldLink RJx4a65c 63 "java/util/ArrayList" "modCount" "I") (zx_Gc mm_220)) (fun x9 h9 => u_same (hts (.sameField "java/util/ArrayList" "java/util/AbstractList" "modCount" "I") (zx_Gc mm_219)) x9 h9) rfl (by decide +kernel) rfl rfl (Nat.le_of_ble_eq_true rfl) dJx4a65c_add_9ea2d_7 (fun H locs hP hD hS => ?_)
  have hP : va_P D vwCl [(pa, .inr (4, [.int (mc + (1 : Int32)), .ref el, .int 17])), (el, .inl (cy 2, 22, .inr (.inr (.inr (.inr g))))), (pp, .inr (17, fp))] H := hP
  have hD : va_D A [(pa, .inr (4, [.int (mc + (1 : Int32)), .ref el, .int 17])), (el, .inl (cy 2, 22, .inr (.inr (.inr (.inr g))))), (pp, .inr (17, fp))] := hD
  refine lv_aload_n hx hb dJx4a65c_add_9ea2d_10 rfl (lv_at hl 0 rfl) ?_
  refine lv_aload_n hx hb dJx4a65c_add_9ea2d_11 rfl (lv_at hl 1 rfl) ?_
  refine lv_aload_n hx hb dJx4a65c_add_9ea2d_12 rfl (lv_at hl 0 rfl) ?_
  refine va_get (D := D) (ci := 4) (v := .ref el) (C := RJx4a65c) (T := TJx4a65c) (N := 3) hx hb hts (fun w h => zx_Gc (uz_Jx4a65c w h)) hown hK hP 0 rfl rfl 1 (by decide) (hts (.fieldLink RJx4a65c 9 "java/util/ArrayList" "elementData" "[Ljava/lang/Object;") (zx_Gc mm_213)) (fun _ h9 => h9) rfl dJx4a65c_add_9ea2d_13 ?_
  refine lv_aload_n hx hb dJx4a65c_add_9ea2d_16 rfl (lv_at hl 0 rfl) ?_
  refine va_get (D := D) (ci := 4) (v := .int 17) (C := RJx4a65c) (T := TJx4a65c) (N := 3) hx hb hts (fun w h => zx_Gc (uz_Jx4a65c w h)) hown hK hP 0 rfl rfl 2 (by decide) (hts (.fieldLink RJx4a65c 48 "java/util/ArrayList" "size" "I") (zx_Gc mm_216)) (fun _ h9 => h9) rfl dJx4a65c_add_9ea2d_17 ?_
  have hPc := hP.sub (ws' := [(pa, .inr (4, [.int (mc + (1 : Int32)), .ref el, .int 17])), (el, .inl (cy 2, 22, .inr (.inr (.inr (.inr g))))), (pp, .inr (17, fp))]) [0, 1, 2] rfl
  have hDc := hD.sub (ws' := [(pa, .inr (4, [.int (mc + (1 : Int32)), .ref el, .int 17])), (el, .inl (cy 2, 22, .inr (.inr (.inr (.inr g))))), (pp, .inr (17, fp))]) [0, 1, 2] (by decide) rfl
  have hFc := va_free (wc := [(pa, .inr (4, [.int (mc + (1 : Int32)), .ref el, .int 17])), (el, .inl (cy 2, 22, .inr (.inr (.inr (.inr g))))), (pp, .inr (17, fp))]) hD hS hA [0, 1, 2] rfl
  refine va_callv (va_runV (As := [.ref pp, .ref el, .int 17]) (rest := []) ⟨hx, hb, hml, hown, hts⟩ (c_AL_add3_X12_17 l hst D cy ed H.size pa el (mc + (1 : Int32)) g pp fp) (cwV 3 hts (zx_GV mm_776 mm_778 mm_5 mm_77 mm_779) rfl rfl rfl (by decide +kernel) ⟨(Nat.le_of_ble_eq_true rfl), (Nat.le_of_ble_eq_true rfl)⟩) ⟨zx_blind, va_recv hK hPc (ci := 4) (q0 := 0) rfl rfl, zx_give hPc hK hDc hS hFc hZ hN⟩ rfl rfl hl.1 rfl (lv_room (Nat.le_of_ble_eq_true rfl)) dJx4a65c_add_9ea2d_20 ⟨(Nat.le_of_ble_eq_true rfl), (Nat.le_of_ble_eq_true rfl)⟩) hS (fun q _ h => hFc q h) hFc (fun u t H1 locs ht hvm hw hB hz1 hk1 hS => ?_)
  obtain ⟨qx_390, g2_391⟩ := u
  have h_392 := hw
  obtain ⟨hP, hD⟩ := zx_join (wr := []) (w1 := [(pa, .inr (4, [.int (mc + (1 : Int32)), .ref qx_390, .int 18])), (qx_390, .inl (cy 2, 22, .inr (.inr (.inr (.inr g2_391))))), (pp, .inr (17, fp))]) [0, 1, 2] [] rfl rfl (by decide) (by decide) hP hD hk1 hFc hB ht
  generalize H1 = H at hP hS ⊢
  have hP : va_P D vwCl [(pa, .inr (4, [.int (mc + (1 : Int32)), .ref qx_390, .int 18])), (qx_390, .inl (cy 2, 22, .inr (.inr (.inr (.inr g2_391))))), (pp, .inr (17, fp))] H := hP
  have hD : va_D A [(pa, .inr (4, [.int (mc + (1 : Int32)), .ref qx_390, .int 18])), (qx_390, .inl (cy 2, 22, .inr (.inr (.inr (.inr g2_391))))), (pp, .inr (17, fp))] := hD
  refine W.widen (k := 0) (n := 0) (Nat.le_of_ble_eq_true rfl) (Nat.le_of_ble_eq_true rfl) ?_
  obtain ⟨hs_393, hs_394⟩ := h_392
  refine lv_iconst (v := 1) hx hb dJx4a65c_add_9ea2d_23 (by decide) ?_
  have hP9 := hP.sub (ws' := [(pa, .inr (4, [.int (mc + (1 : Int32)), .ref qx_390, .int 18])), (qx_390, .inl (cy 2, 22, .inr (.inr (.inr (.inr g2_391))))), (pp, .inr (17, fp))]) [0, 1, 2] rfl
  have hD9 := hD.sub (ws' := [(pa, .inr (4, [.int (mc + (1 : Int32)), .ref qx_390, .int 18])), (qx_390, .inl (cy 2, 22, .inr (.inr (.inr (.inr g2_391))))), (pp, .inr (17, fp))]) [0, 1, 2] (by decide) rfl
  exact W.zret (v := 1) hx hb hr rfl (fun t ht hW => ⟨⟨1, ⟨(mc + (1 : Int32)), qx_390, g2_391⟩, rfl, ⟨rfl, ⟨hs_393, hs_394⟩⟩, zx_fin hP9 hD9 hK ht hW⟩, hS.F ht⟩) hS.2.2 dJx4a65c_add_9ea2d_24
set_option maxHeartbeats 4000000 in
set_option maxRecDepth 100000 in
theorem c_AL_add3_X12_18 (l : Launch) (hst : l.stackTraces = false) (D : va_G) (cy : Nat → ClassId) (ed sz : Nat) (pa : Nat) (el : Nat) (mc : Int32) (g : Nat → Option Nat) (pp : Nat) (fp : List Value) : Met l yJx4a65c_add_72be8 wzJx4a65c_add_72be8 ({ frames := 0, cells := 0, slots := 0, locals := 0 }) (zx_Pc D cy ed sz [.ref pa, .ref pp, .ref el, .int 18] [(pa, .inr (4, [.int mc, .ref el, .int 18])), (el, .inl (cy 2, 22, .inr (.inr (.inr (.inr g))))), (pp, .inr (17, fp))]) (va_Qv (fun (u9 : Nat × (Nat → Option Nat)) => match u9 with | (qx, g2) => g2 18 = some pp ∧ ∀ j, j < 18 → g2 j = g j) (fun (u9 : Nat × (Nat → Option Nat)) (t9 : State) => match u9 with | (qx, g2) => zx_At D cy (va_A [(pa, .inr (4, [.int mc, .ref el, .int 18])), (el, .inl (cy 2, 22, .inr (.inr (.inr (.inr g))))), (pp, .inr (17, fp))] sz) [(pa, .inr (4, [.int mc, .ref qx, .int 19])), (qx, .inl (cy 2, 22, .inr (.inr (.inr (.inr g2))))), (pp, .inr (17, fp))] t9) (va_A [(pa, .inr (4, [.int mc, .ref el, .int 18])), (el, .inl (cy 2, 22, .inr (.inr (.inr (.inr g))))), (pp, .inr (17, fp))] sz)) 0 0 (va_A [(pa, .inr (4, [.int mc, .ref el, .int 18])), (el, .inl (cy 2, 22, .inr (.inr (.inr (.inr g))))), (pp, .inr (17, fp))] sz) := by
  refine Met.ofW (cc := cJx4a65c_add_72be8) (maxL := 4) (ret := none) (by decide) rfl ?_
  intro p e s m args below meth c s₁ B hml hv
  obtain ⟨rfl, hsz, hP, hK, hD0, hZ, hN⟩ := hv
  have hx := B.exec
  have hb := B.bytes
  have hr := B.returns
  have hts := atoms_spec (ws := wzJx4a65c_add_72be8) B.pre
  have hown : s.vm.findClass RJx4a65c = some m.cls := findClass_of_methodNamed B.named
  have hlocks := B.notSynchronized
  subst hsz
  have hD := hD0.self (sz := s.heap.size)
  generalize hAe : va_A [(pa, .inr (4, [.int mc, .ref el, .int 18])), (el, .inl (cy 2, 22, .inr (.inr (.inr (.inr g))))), (pp, .inr (17, fp))] s.heap.size = A at hD hZ ⊢
  have hA : ∀ q : Nat, s.heap.size ≤ q → A q := fun q h => by rw [← hAe]; exact Or.inr h
  have hS : va_S A s.heap s.heap [] := va_S.rf
  have hP : va_P D vwCl [(pa, .inr (4, [.int mc, .ref el, .int 18])), (el, .inl (cy 2, 22, .inr (.inr (.inr (.inr g))))), (pp, .inr (17, fp))] s.heap := hP
  have hl := lv_entry ([.ref pa, .ref pp, .ref el, .int 18]) (n := 4) (Nat.le_of_ble_eq_true rfl)
  rw [lg_entry_eq]
  generalize (lg_sl ([.ref pa, .ref pp, .ref el, .int 18]) ++ List.replicate (4 - (lg_sl ([.ref pa, .ref pp, .ref el, .int 18])).length) Slot.unset).toArray = ls at hl ⊢
  have hl : lv_has ls 4 [(0, .ref pa), (1, .ref pp), (2, .ref el), (3, .int 18)] := hl
  refine lv_iload_n hx hb dJx4a65c_add_72be8_0 rfl (lv_at hl 3 rfl) ?_
  refine lv_aload_n hx hb dJx4a65c_add_72be8_1 rfl (lv_at hl 2 rfl) ?_
  refine va_alen (v := 22) hx hb hK hP 1 2 rfl rfl (show Int32.ofNat 22 = 22 from by decide) dJx4a65c_add_72be8_2 ?_
  refine lv_icmp_ne (tgt := 11) hx hb dJx4a65c_add_72be8_3 (by decide) (fun _ => ?_) (fun c_395 => absurd c_395 (by decide))
  refine lv_aload_n hx hb dJx4a65c_add_72be8_11 rfl (lv_at hl 2 rfl) ?_
  refine lv_iload_n hx hb dJx4a65c_add_72be8_12 rfl (lv_at hl 3 rfl) ?_
  refine lv_aload_n hx hb dJx4a65c_add_72be8_13 rfl (lv_at hl 1 rfl) ?_
  refine va_astqO (E := "java/lang/Object") hx hb hK hP hD hS 1 2 2 17 rfl rfl (hN.2.2.1 _ _ (List.mem_of_getElem? (i := 2467) (by decide +kernel))) rfl rfl (zx_bn (by decide)) dJx4a65c_add_72be8_14 (fun H locs hP hD hS => ?_)
  have hP : va_P D vwCl [(pa, .inr (4, [.int mc, .ref el, .int 18])), (el, .inl (cy 2, 22, .inr (.inr (.inr (.inr (va_up g (18 : Int32).toNatClampNeg (some pp))))))), (pp, .inr (17, fp))] H := hP
  have hD : va_D A [(pa, .inr (4, [.int mc, .ref el, .int 18])), (el, .inl (cy 2, 22, .inr (.inr (.inr (.inr (va_up g (18 : Int32).toNatClampNeg (some pp))))))), (pp, .inr (17, fp))] := hD
  refine lv_aload_n hx hb dJx4a65c_add_72be8_15 rfl (lv_at hl 0 rfl) ?_
  refine lv_iload_n hx hb dJx4a65c_add_72be8_16 rfl (lv_at hl 3 rfl) ?_
  refine lv_iconst (v := 1) hx hb dJx4a65c_add_72be8_17 (by decide) ?_
  refine lv_iadd hx hb dJx4a65c_add_72be8_18 ?_
  refine lv_topi (fun y9 ey9 => ?_)
  obtain rfl : y9 = 19 := by rw [ey9] <;> decide
  refine va_put (D := D) (ci := 4) (v := .int 19) (ty := .int) (C := RJx4a65c) (T := TJx4a65c) (N := 3) hx hb hts (fun w h => zx_Gc (uz_Jx4a65c w h)) tyJx4a65c tyJx4a65c_ok nmJx4a65c hown hK hP hD hS 0 rfl rfl 2 (by decide) (hts (.fieldLink RJx4a65c 48 "java/util/ArrayList" "size" "I") (zx_Gc mm_216)) (fun _ h9 => h9) rfl (by decide +kernel) rfl rfl (Nat.le_of_ble_eq_true rfl) dJx4a65c_add_72be8_19 (fun H locs hP hD hS => ?_)
  have hP : va_P D vwCl [(pa, .inr (4, [.int mc, .ref el, .int 19])), (el, .inl (cy 2, 22, .inr (.inr (.inr (.inr (va_up g (18 : Int32).toNatClampNeg (some pp))))))), (pp, .inr (17, fp))] H := hP
  have hD : va_D A [(pa, .inr (4, [.int mc, .ref el, .int 19])), (el, .inl (cy 2, 22, .inr (.inr (.inr (.inr (va_up g (18 : Int32).toNatClampNeg (some pp))))))), (pp, .inr (17, fp))] := hD
  have hP9 := hP.sub (ws' := [(pa, .inr (4, [.int mc, .ref el, .int 19])), (el, .inl (cy 2, 22, .inr (.inr (.inr (.inr (va_up g (18 : Int32).toNatClampNeg (some pp))))))), (pp, .inr (17, fp))]) [0, 1, 2] rfl
  have hD9 := hD.sub (ws' := [(pa, .inr (4, [.int mc, .ref el, .int 19])), (el, .inl (cy 2, 22, .inr (.inr (.inr (.inr (va_up g (18 : Int32).toNatClampNeg (some pp))))))), (pp, .inr (17, fp))]) [0, 1, 2] (by decide) rfl
  exact W.vret hx hb hr (fun t ht hW => ⟨⟨⟨el, (va_up g (18 : Int32).toNatClampNeg (some pp))⟩, rfl, ⟨zx_up_at _ (by decide), fun j9 hj9 => zx_up_ne _ (by show j9 ≠ 18; omega)⟩, zx_fin hP9 hD9 hK ht hW⟩, hS.F ht⟩) hS.2.2 dJx4a65c_add_72be8_22
set_option maxHeartbeats 4000000 in
set_option maxRecDepth 100000 in
theorem c_AL_add1_X12_18 (l : Launch) (hst : l.stackTraces = false) (D : va_G) (cy : Nat → ClassId) (ed sz : Nat) (pa : Nat) (el : Nat) (mc : Int32) (g : Nat → Option Nat) (pp : Nat) (fp : List Value) : Met l yJx4a65c_add_9ea2d wzJx4a65c_add_9ea2d ({ frames := 1, cells := 0, slots := 0, locals := 23 }) (zx_Pc D cy ed sz [.ref pa, .ref pp] [(pa, .inr (4, [.int mc, .ref el, .int 18])), (el, .inl (cy 2, 22, .inr (.inr (.inr (.inr g))))), (pp, .inr (17, fp))]) (va_Qi (fun (r9 : Int32) (u9 : Int32 × Nat × (Nat → Option Nat)) => match u9 with | (mx, qx, g2) => r9 = 1 ∧ g2 18 = some pp ∧ ∀ j, j < 18 → g2 j = g j) (fun (u9 : Int32 × Nat × (Nat → Option Nat)) (t9 : State) => match u9 with | (mx, qx, g2) => zx_At D cy (va_A [(pa, .inr (4, [.int mc, .ref el, .int 18])), (el, .inl (cy 2, 22, .inr (.inr (.inr (.inr g))))), (pp, .inr (17, fp))] sz) [(pa, .inr (4, [.int mx, .ref qx, .int 19])), (qx, .inl (cy 2, 22, .inr (.inr (.inr (.inr g2))))), (pp, .inr (17, fp))] t9) (va_A [(pa, .inr (4, [.int mc, .ref el, .int 18])), (el, .inl (cy 2, 22, .inr (.inr (.inr (.inr g))))), (pp, .inr (17, fp))] sz)) 0 0 (va_A [(pa, .inr (4, [.int mc, .ref el, .int 18])), (el, .inl (cy 2, 22, .inr (.inr (.inr (.inr g))))), (pp, .inr (17, fp))] sz) := by
  refine Met.ofW (cc := cJx4a65c_add_9ea2d) (maxL := 2) (ret := (some .boolean)) (by decide) rfl ?_
  intro p e s m args below meth c s₁ B hml hv
  obtain ⟨rfl, hsz, hP, hK, hD0, hZ, hN⟩ := hv
  have hx := B.exec
  have hb := B.bytes
  have hr := B.returns
  have hts := atoms_spec (ws := wzJx4a65c_add_9ea2d) B.pre
  have hown : s.vm.findClass RJx4a65c = some m.cls := findClass_of_methodNamed B.named
  have hlocks := B.notSynchronized
  subst hsz
  have hD := hD0.self (sz := s.heap.size)
  generalize hAe : va_A [(pa, .inr (4, [.int mc, .ref el, .int 18])), (el, .inl (cy 2, 22, .inr (.inr (.inr (.inr g))))), (pp, .inr (17, fp))] s.heap.size = A at hD hZ ⊢
  have hA : ∀ q : Nat, s.heap.size ≤ q → A q := fun q h => by rw [← hAe]; exact Or.inr h
  have hS : va_S A s.heap s.heap [] := va_S.rf
  have hP : va_P D vwCl [(pa, .inr (4, [.int mc, .ref el, .int 18])), (el, .inl (cy 2, 22, .inr (.inr (.inr (.inr g))))), (pp, .inr (17, fp))] s.heap := hP
  have hl := lv_entry ([.ref pa, .ref pp]) (n := 2) (Nat.le_of_ble_eq_true rfl)
  rw [lg_entry_eq]
  generalize (lg_sl ([.ref pa, .ref pp]) ++ List.replicate (2 - (lg_sl ([.ref pa, .ref pp])).length) Slot.unset).toArray = ls at hl ⊢
  have hl : lv_has ls 2 [(0, .ref pa), (1, .ref pp)] := hl
  refine lv_aload_n hx hb dJx4a65c_add_9ea2d_0 rfl (lv_at hl 0 rfl) ?_
  refine lv_dup hx hb dJx4a65c_add_9ea2d_1 rfl ?_
  refine va_get (D := D) (ci := 4) (v := .int mc) (C := RJx4a65c) (T := TJx4a65c) (N := 3) hx hb hts (fun w h => zx_Gc (uz_Jx4a65c w h)) hown hK hP 0 rfl rfl 0 (by decide) (hts (.fieldLink RJx4a65c 63 "java/util/ArrayList" "modCount" "I") (zx_Gc mm_220)) (fun x9 h9 => u_same (hts (.sameField "java/util/ArrayList" "java/util/AbstractList" "modCount" "I") (zx_Gc mm_219)) x9 h9) rfl dJx4a65c_add_9ea2d_2 ?_
  refine lv_iconst (v := 1) hx hb dJx4a65c_add_9ea2d_5 (by decide) ?_
  refine lv_iadd hx hb dJx4a65c_add_9ea2d_6 ?_
  refine va_put (D := D) (ci := 4) (v := .int (mc + (1 : Int32))) (ty := .int) (C := RJx4a65c) (T := TJx4a65c) (N := 3) hx hb hts (fun w h => zx_Gc (uz_Jx4a65c w h)) tyJx4a65c tyJx4a65c_ok nmJx4a65c hown hK hP hD hS 0 rfl rfl 0 (by decide) (hts (.fieldLink RJx4a65c 63 "java/util/ArrayList" "modCount" "I") (zx_Gc mm_220)) (fun x9 h9 => u_same (hts (.sameField "java/util/ArrayList" "java/util/AbstractList" "modCount" "I") (zx_Gc mm_219)) x9 h9) rfl (by decide +kernel) rfl rfl (Nat.le_of_ble_eq_true rfl) dJx4a65c_add_9ea2d_7 (fun H locs hP hD hS => ?_)
  have hP : va_P D vwCl [(pa, .inr (4, [.int (mc + (1 : Int32)), .ref el, .int 18])), (el, .inl (cy 2, 22, .inr (.inr (.inr (.inr g))))), (pp, .inr (17, fp))] H := hP
  have hD : va_D A [(pa, .inr (4, [.int (mc + (1 : Int32)), .ref el, .int 18])), (el, .inl (cy 2, 22, .inr (.inr (.inr (.inr g))))), (pp, .inr (17, fp))] := hD
  refine lv_aload_n hx hb dJx4a65c_add_9ea2d_10 rfl (lv_at hl 0 rfl) ?_
  refine lv_aload_n hx hb dJx4a65c_add_9ea2d_11 rfl (lv_at hl 1 rfl) ?_
  refine lv_aload_n hx hb dJx4a65c_add_9ea2d_12 rfl (lv_at hl 0 rfl) ?_
  refine va_get (D := D) (ci := 4) (v := .ref el) (C := RJx4a65c) (T := TJx4a65c) (N := 3) hx hb hts (fun w h => zx_Gc (uz_Jx4a65c w h)) hown hK hP 0 rfl rfl 1 (by decide) (hts (.fieldLink RJx4a65c 9 "java/util/ArrayList" "elementData" "[Ljava/lang/Object;") (zx_Gc mm_213)) (fun _ h9 => h9) rfl dJx4a65c_add_9ea2d_13 ?_
  refine lv_aload_n hx hb dJx4a65c_add_9ea2d_16 rfl (lv_at hl 0 rfl) ?_
  refine va_get (D := D) (ci := 4) (v := .int 18) (C := RJx4a65c) (T := TJx4a65c) (N := 3) hx hb hts (fun w h => zx_Gc (uz_Jx4a65c w h)) hown hK hP 0 rfl rfl 2 (by decide) (hts (.fieldLink RJx4a65c 48 "java/util/ArrayList" "size" "I") (zx_Gc mm_216)) (fun _ h9 => h9) rfl dJx4a65c_add_9ea2d_17 ?_
  have hPc := hP.sub (ws' := [(pa, .inr (4, [.int (mc + (1 : Int32)), .ref el, .int 18])), (el, .inl (cy 2, 22, .inr (.inr (.inr (.inr g))))), (pp, .inr (17, fp))]) [0, 1, 2] rfl
  have hDc := hD.sub (ws' := [(pa, .inr (4, [.int (mc + (1 : Int32)), .ref el, .int 18])), (el, .inl (cy 2, 22, .inr (.inr (.inr (.inr g))))), (pp, .inr (17, fp))]) [0, 1, 2] (by decide) rfl
  have hFc := va_free (wc := [(pa, .inr (4, [.int (mc + (1 : Int32)), .ref el, .int 18])), (el, .inl (cy 2, 22, .inr (.inr (.inr (.inr g))))), (pp, .inr (17, fp))]) hD hS hA [0, 1, 2] rfl
  refine va_callv (va_runV (As := [.ref pp, .ref el, .int 18]) (rest := []) ⟨hx, hb, hml, hown, hts⟩ (c_AL_add3_X12_18 l hst D cy ed H.size pa el (mc + (1 : Int32)) g pp fp) (cwV 3 hts (zx_GV mm_776 mm_778 mm_5 mm_77 mm_779) rfl rfl rfl (by decide +kernel) ⟨(Nat.le_of_ble_eq_true rfl), (Nat.le_of_ble_eq_true rfl)⟩) ⟨zx_blind, va_recv hK hPc (ci := 4) (q0 := 0) rfl rfl, zx_give hPc hK hDc hS hFc hZ hN⟩ rfl rfl hl.1 rfl (lv_room (Nat.le_of_ble_eq_true rfl)) dJx4a65c_add_9ea2d_20 ⟨(Nat.le_of_ble_eq_true rfl), (Nat.le_of_ble_eq_true rfl)⟩) hS (fun q _ h => hFc q h) hFc (fun u t H1 locs ht hvm hw hB hz1 hk1 hS => ?_)
  obtain ⟨qx_396, g2_397⟩ := u
  have h_398 := hw
  obtain ⟨hP, hD⟩ := zx_join (wr := []) (w1 := [(pa, .inr (4, [.int (mc + (1 : Int32)), .ref qx_396, .int 19])), (qx_396, .inl (cy 2, 22, .inr (.inr (.inr (.inr g2_397))))), (pp, .inr (17, fp))]) [0, 1, 2] [] rfl rfl (by decide) (by decide) hP hD hk1 hFc hB ht
  generalize H1 = H at hP hS ⊢
  have hP : va_P D vwCl [(pa, .inr (4, [.int (mc + (1 : Int32)), .ref qx_396, .int 19])), (qx_396, .inl (cy 2, 22, .inr (.inr (.inr (.inr g2_397))))), (pp, .inr (17, fp))] H := hP
  have hD : va_D A [(pa, .inr (4, [.int (mc + (1 : Int32)), .ref qx_396, .int 19])), (qx_396, .inl (cy 2, 22, .inr (.inr (.inr (.inr g2_397))))), (pp, .inr (17, fp))] := hD
  refine W.widen (k := 0) (n := 0) (Nat.le_of_ble_eq_true rfl) (Nat.le_of_ble_eq_true rfl) ?_
  obtain ⟨hs_399, hs_400⟩ := h_398
  refine lv_iconst (v := 1) hx hb dJx4a65c_add_9ea2d_23 (by decide) ?_
  have hP9 := hP.sub (ws' := [(pa, .inr (4, [.int (mc + (1 : Int32)), .ref qx_396, .int 19])), (qx_396, .inl (cy 2, 22, .inr (.inr (.inr (.inr g2_397))))), (pp, .inr (17, fp))]) [0, 1, 2] rfl
  have hD9 := hD.sub (ws' := [(pa, .inr (4, [.int (mc + (1 : Int32)), .ref qx_396, .int 19])), (qx_396, .inl (cy 2, 22, .inr (.inr (.inr (.inr g2_397))))), (pp, .inr (17, fp))]) [0, 1, 2] (by decide) rfl
  exact W.zret (v := 1) hx hb hr rfl (fun t ht hW => ⟨⟨1, ⟨(mc + (1 : Int32)), qx_396, g2_397⟩, rfl, ⟨rfl, ⟨hs_399, hs_400⟩⟩, zx_fin hP9 hD9 hK ht hW⟩, hS.F ht⟩) hS.2.2 dJx4a65c_add_9ea2d_24
set_option maxHeartbeats 4000000 in
set_option maxRecDepth 100000 in
theorem c_AL_add3_X12_19 (l : Launch) (hst : l.stackTraces = false) (D : va_G) (cy : Nat → ClassId) (ed sz : Nat) (pa : Nat) (el : Nat) (mc : Int32) (g : Nat → Option Nat) (pp : Nat) (fp : List Value) : Met l yJx4a65c_add_72be8 wzJx4a65c_add_72be8 ({ frames := 0, cells := 0, slots := 0, locals := 0 }) (zx_Pc D cy ed sz [.ref pa, .ref pp, .ref el, .int 19] [(pa, .inr (4, [.int mc, .ref el, .int 19])), (el, .inl (cy 2, 22, .inr (.inr (.inr (.inr g))))), (pp, .inr (17, fp))]) (va_Qv (fun (u9 : Nat × (Nat → Option Nat)) => match u9 with | (qx, g2) => g2 19 = some pp ∧ ∀ j, j < 19 → g2 j = g j) (fun (u9 : Nat × (Nat → Option Nat)) (t9 : State) => match u9 with | (qx, g2) => zx_At D cy (va_A [(pa, .inr (4, [.int mc, .ref el, .int 19])), (el, .inl (cy 2, 22, .inr (.inr (.inr (.inr g))))), (pp, .inr (17, fp))] sz) [(pa, .inr (4, [.int mc, .ref qx, .int 20])), (qx, .inl (cy 2, 22, .inr (.inr (.inr (.inr g2))))), (pp, .inr (17, fp))] t9) (va_A [(pa, .inr (4, [.int mc, .ref el, .int 19])), (el, .inl (cy 2, 22, .inr (.inr (.inr (.inr g))))), (pp, .inr (17, fp))] sz)) 0 0 (va_A [(pa, .inr (4, [.int mc, .ref el, .int 19])), (el, .inl (cy 2, 22, .inr (.inr (.inr (.inr g))))), (pp, .inr (17, fp))] sz) := by
  refine Met.ofW (cc := cJx4a65c_add_72be8) (maxL := 4) (ret := none) (by decide) rfl ?_
  intro p e s m args below meth c s₁ B hml hv
  obtain ⟨rfl, hsz, hP, hK, hD0, hZ, hN⟩ := hv
  have hx := B.exec
  have hb := B.bytes
  have hr := B.returns
  have hts := atoms_spec (ws := wzJx4a65c_add_72be8) B.pre
  have hown : s.vm.findClass RJx4a65c = some m.cls := findClass_of_methodNamed B.named
  have hlocks := B.notSynchronized
  subst hsz
  have hD := hD0.self (sz := s.heap.size)
  generalize hAe : va_A [(pa, .inr (4, [.int mc, .ref el, .int 19])), (el, .inl (cy 2, 22, .inr (.inr (.inr (.inr g))))), (pp, .inr (17, fp))] s.heap.size = A at hD hZ ⊢
  have hA : ∀ q : Nat, s.heap.size ≤ q → A q := fun q h => by rw [← hAe]; exact Or.inr h
  have hS : va_S A s.heap s.heap [] := va_S.rf
  have hP : va_P D vwCl [(pa, .inr (4, [.int mc, .ref el, .int 19])), (el, .inl (cy 2, 22, .inr (.inr (.inr (.inr g))))), (pp, .inr (17, fp))] s.heap := hP
  have hl := lv_entry ([.ref pa, .ref pp, .ref el, .int 19]) (n := 4) (Nat.le_of_ble_eq_true rfl)
  rw [lg_entry_eq]
  generalize (lg_sl ([.ref pa, .ref pp, .ref el, .int 19]) ++ List.replicate (4 - (lg_sl ([.ref pa, .ref pp, .ref el, .int 19])).length) Slot.unset).toArray = ls at hl ⊢
  have hl : lv_has ls 4 [(0, .ref pa), (1, .ref pp), (2, .ref el), (3, .int 19)] := hl
  refine lv_iload_n hx hb dJx4a65c_add_72be8_0 rfl (lv_at hl 3 rfl) ?_
  refine lv_aload_n hx hb dJx4a65c_add_72be8_1 rfl (lv_at hl 2 rfl) ?_
  refine va_alen (v := 22) hx hb hK hP 1 2 rfl rfl (show Int32.ofNat 22 = 22 from by decide) dJx4a65c_add_72be8_2 ?_
  refine lv_icmp_ne (tgt := 11) hx hb dJx4a65c_add_72be8_3 (by decide) (fun _ => ?_) (fun c_401 => absurd c_401 (by decide))
  refine lv_aload_n hx hb dJx4a65c_add_72be8_11 rfl (lv_at hl 2 rfl) ?_
  refine lv_iload_n hx hb dJx4a65c_add_72be8_12 rfl (lv_at hl 3 rfl) ?_
  refine lv_aload_n hx hb dJx4a65c_add_72be8_13 rfl (lv_at hl 1 rfl) ?_
  refine va_astqO (E := "java/lang/Object") hx hb hK hP hD hS 1 2 2 17 rfl rfl (hN.2.2.1 _ _ (List.mem_of_getElem? (i := 2467) (by decide +kernel))) rfl rfl (zx_bn (by decide)) dJx4a65c_add_72be8_14 (fun H locs hP hD hS => ?_)
  have hP : va_P D vwCl [(pa, .inr (4, [.int mc, .ref el, .int 19])), (el, .inl (cy 2, 22, .inr (.inr (.inr (.inr (va_up g (19 : Int32).toNatClampNeg (some pp))))))), (pp, .inr (17, fp))] H := hP
  have hD : va_D A [(pa, .inr (4, [.int mc, .ref el, .int 19])), (el, .inl (cy 2, 22, .inr (.inr (.inr (.inr (va_up g (19 : Int32).toNatClampNeg (some pp))))))), (pp, .inr (17, fp))] := hD
  refine lv_aload_n hx hb dJx4a65c_add_72be8_15 rfl (lv_at hl 0 rfl) ?_
  refine lv_iload_n hx hb dJx4a65c_add_72be8_16 rfl (lv_at hl 3 rfl) ?_
  refine lv_iconst (v := 1) hx hb dJx4a65c_add_72be8_17 (by decide) ?_
  refine lv_iadd hx hb dJx4a65c_add_72be8_18 ?_
  refine lv_topi (fun y9 ey9 => ?_)
  obtain rfl : y9 = 20 := by rw [ey9] <;> decide
  refine va_put (D := D) (ci := 4) (v := .int 20) (ty := .int) (C := RJx4a65c) (T := TJx4a65c) (N := 3) hx hb hts (fun w h => zx_Gc (uz_Jx4a65c w h)) tyJx4a65c tyJx4a65c_ok nmJx4a65c hown hK hP hD hS 0 rfl rfl 2 (by decide) (hts (.fieldLink RJx4a65c 48 "java/util/ArrayList" "size" "I") (zx_Gc mm_216)) (fun _ h9 => h9) rfl (by decide +kernel) rfl rfl (Nat.le_of_ble_eq_true rfl) dJx4a65c_add_72be8_19 (fun H locs hP hD hS => ?_)
  have hP : va_P D vwCl [(pa, .inr (4, [.int mc, .ref el, .int 20])), (el, .inl (cy 2, 22, .inr (.inr (.inr (.inr (va_up g (19 : Int32).toNatClampNeg (some pp))))))), (pp, .inr (17, fp))] H := hP
  have hD : va_D A [(pa, .inr (4, [.int mc, .ref el, .int 20])), (el, .inl (cy 2, 22, .inr (.inr (.inr (.inr (va_up g (19 : Int32).toNatClampNeg (some pp))))))), (pp, .inr (17, fp))] := hD
  have hP9 := hP.sub (ws' := [(pa, .inr (4, [.int mc, .ref el, .int 20])), (el, .inl (cy 2, 22, .inr (.inr (.inr (.inr (va_up g (19 : Int32).toNatClampNeg (some pp))))))), (pp, .inr (17, fp))]) [0, 1, 2] rfl
  have hD9 := hD.sub (ws' := [(pa, .inr (4, [.int mc, .ref el, .int 20])), (el, .inl (cy 2, 22, .inr (.inr (.inr (.inr (va_up g (19 : Int32).toNatClampNeg (some pp))))))), (pp, .inr (17, fp))]) [0, 1, 2] (by decide) rfl
  exact W.vret hx hb hr (fun t ht hW => ⟨⟨⟨el, (va_up g (19 : Int32).toNatClampNeg (some pp))⟩, rfl, ⟨zx_up_at _ (by decide), fun j9 hj9 => zx_up_ne _ (by show j9 ≠ 19; omega)⟩, zx_fin hP9 hD9 hK ht hW⟩, hS.F ht⟩) hS.2.2 dJx4a65c_add_72be8_22
set_option maxHeartbeats 4000000 in
set_option maxRecDepth 100000 in
theorem c_AL_add1_X12_19 (l : Launch) (hst : l.stackTraces = false) (D : va_G) (cy : Nat → ClassId) (ed sz : Nat) (pa : Nat) (el : Nat) (mc : Int32) (g : Nat → Option Nat) (pp : Nat) (fp : List Value) : Met l yJx4a65c_add_9ea2d wzJx4a65c_add_9ea2d ({ frames := 1, cells := 0, slots := 0, locals := 23 }) (zx_Pc D cy ed sz [.ref pa, .ref pp] [(pa, .inr (4, [.int mc, .ref el, .int 19])), (el, .inl (cy 2, 22, .inr (.inr (.inr (.inr g))))), (pp, .inr (17, fp))]) (va_Qi (fun (r9 : Int32) (u9 : Int32 × Nat × (Nat → Option Nat)) => match u9 with | (mx, qx, g2) => r9 = 1 ∧ g2 19 = some pp ∧ ∀ j, j < 19 → g2 j = g j) (fun (u9 : Int32 × Nat × (Nat → Option Nat)) (t9 : State) => match u9 with | (mx, qx, g2) => zx_At D cy (va_A [(pa, .inr (4, [.int mc, .ref el, .int 19])), (el, .inl (cy 2, 22, .inr (.inr (.inr (.inr g))))), (pp, .inr (17, fp))] sz) [(pa, .inr (4, [.int mx, .ref qx, .int 20])), (qx, .inl (cy 2, 22, .inr (.inr (.inr (.inr g2))))), (pp, .inr (17, fp))] t9) (va_A [(pa, .inr (4, [.int mc, .ref el, .int 19])), (el, .inl (cy 2, 22, .inr (.inr (.inr (.inr g))))), (pp, .inr (17, fp))] sz)) 0 0 (va_A [(pa, .inr (4, [.int mc, .ref el, .int 19])), (el, .inl (cy 2, 22, .inr (.inr (.inr (.inr g))))), (pp, .inr (17, fp))] sz) := by
  refine Met.ofW (cc := cJx4a65c_add_9ea2d) (maxL := 2) (ret := (some .boolean)) (by decide) rfl ?_
  intro p e s m args below meth c s₁ B hml hv
  obtain ⟨rfl, hsz, hP, hK, hD0, hZ, hN⟩ := hv
  have hx := B.exec
  have hb := B.bytes
  have hr := B.returns
  have hts := atoms_spec (ws := wzJx4a65c_add_9ea2d) B.pre
  have hown : s.vm.findClass RJx4a65c = some m.cls := findClass_of_methodNamed B.named
  have hlocks := B.notSynchronized
  subst hsz
  have hD := hD0.self (sz := s.heap.size)
  generalize hAe : va_A [(pa, .inr (4, [.int mc, .ref el, .int 19])), (el, .inl (cy 2, 22, .inr (.inr (.inr (.inr g))))), (pp, .inr (17, fp))] s.heap.size = A at hD hZ ⊢
  have hA : ∀ q : Nat, s.heap.size ≤ q → A q := fun q h => by rw [← hAe]; exact Or.inr h
  have hS : va_S A s.heap s.heap [] := va_S.rf
  have hP : va_P D vwCl [(pa, .inr (4, [.int mc, .ref el, .int 19])), (el, .inl (cy 2, 22, .inr (.inr (.inr (.inr g))))), (pp, .inr (17, fp))] s.heap := hP
  have hl := lv_entry ([.ref pa, .ref pp]) (n := 2) (Nat.le_of_ble_eq_true rfl)
  rw [lg_entry_eq]
  generalize (lg_sl ([.ref pa, .ref pp]) ++ List.replicate (2 - (lg_sl ([.ref pa, .ref pp])).length) Slot.unset).toArray = ls at hl ⊢
  have hl : lv_has ls 2 [(0, .ref pa), (1, .ref pp)] := hl
  refine lv_aload_n hx hb dJx4a65c_add_9ea2d_0 rfl (lv_at hl 0 rfl) ?_
  refine lv_dup hx hb dJx4a65c_add_9ea2d_1 rfl ?_
  refine va_get (D := D) (ci := 4) (v := .int mc) (C := RJx4a65c) (T := TJx4a65c) (N := 3) hx hb hts (fun w h => zx_Gc (uz_Jx4a65c w h)) hown hK hP 0 rfl rfl 0 (by decide) (hts (.fieldLink RJx4a65c 63 "java/util/ArrayList" "modCount" "I") (zx_Gc mm_220)) (fun x9 h9 => u_same (hts (.sameField "java/util/ArrayList" "java/util/AbstractList" "modCount" "I") (zx_Gc mm_219)) x9 h9) rfl dJx4a65c_add_9ea2d_2 ?_
  refine lv_iconst (v := 1) hx hb dJx4a65c_add_9ea2d_5 (by decide) ?_
  refine lv_iadd hx hb dJx4a65c_add_9ea2d_6 ?_
  refine va_put (D := D) (ci := 4) (v := .int (mc + (1 : Int32))) (ty := .int) (C := RJx4a65c) (T := TJx4a65c) (N := 3) hx hb hts (fun w h => zx_Gc (uz_Jx4a65c w h)) tyJx4a65c tyJx4a65c_ok nmJx4a65c hown hK hP hD hS 0 rfl rfl 0 (by decide) (hts (.fieldLink RJx4a65c 63 "java/util/ArrayList" "modCount" "I") (zx_Gc mm_220)) (fun x9 h9 => u_same (hts (.sameField "java/util/ArrayList" "java/util/AbstractList" "modCount" "I") (zx_Gc mm_219)) x9 h9) rfl (by decide +kernel) rfl rfl (Nat.le_of_ble_eq_true rfl) dJx4a65c_add_9ea2d_7 (fun H locs hP hD hS => ?_)
  have hP : va_P D vwCl [(pa, .inr (4, [.int (mc + (1 : Int32)), .ref el, .int 19])), (el, .inl (cy 2, 22, .inr (.inr (.inr (.inr g))))), (pp, .inr (17, fp))] H := hP
  have hD : va_D A [(pa, .inr (4, [.int (mc + (1 : Int32)), .ref el, .int 19])), (el, .inl (cy 2, 22, .inr (.inr (.inr (.inr g))))), (pp, .inr (17, fp))] := hD
  refine lv_aload_n hx hb dJx4a65c_add_9ea2d_10 rfl (lv_at hl 0 rfl) ?_
  refine lv_aload_n hx hb dJx4a65c_add_9ea2d_11 rfl (lv_at hl 1 rfl) ?_
  refine lv_aload_n hx hb dJx4a65c_add_9ea2d_12 rfl (lv_at hl 0 rfl) ?_
  refine va_get (D := D) (ci := 4) (v := .ref el) (C := RJx4a65c) (T := TJx4a65c) (N := 3) hx hb hts (fun w h => zx_Gc (uz_Jx4a65c w h)) hown hK hP 0 rfl rfl 1 (by decide) (hts (.fieldLink RJx4a65c 9 "java/util/ArrayList" "elementData" "[Ljava/lang/Object;") (zx_Gc mm_213)) (fun _ h9 => h9) rfl dJx4a65c_add_9ea2d_13 ?_
  refine lv_aload_n hx hb dJx4a65c_add_9ea2d_16 rfl (lv_at hl 0 rfl) ?_
  refine va_get (D := D) (ci := 4) (v := .int 19) (C := RJx4a65c) (T := TJx4a65c) (N := 3) hx hb hts (fun w h => zx_Gc (uz_Jx4a65c w h)) hown hK hP 0 rfl rfl 2 (by decide) (hts (.fieldLink RJx4a65c 48 "java/util/ArrayList" "size" "I") (zx_Gc mm_216)) (fun _ h9 => h9) rfl dJx4a65c_add_9ea2d_17 ?_
  have hPc := hP.sub (ws' := [(pa, .inr (4, [.int (mc + (1 : Int32)), .ref el, .int 19])), (el, .inl (cy 2, 22, .inr (.inr (.inr (.inr g))))), (pp, .inr (17, fp))]) [0, 1, 2] rfl
  have hDc := hD.sub (ws' := [(pa, .inr (4, [.int (mc + (1 : Int32)), .ref el, .int 19])), (el, .inl (cy 2, 22, .inr (.inr (.inr (.inr g))))), (pp, .inr (17, fp))]) [0, 1, 2] (by decide) rfl
  have hFc := va_free (wc := [(pa, .inr (4, [.int (mc + (1 : Int32)), .ref el, .int 19])), (el, .inl (cy 2, 22, .inr (.inr (.inr (.inr g))))), (pp, .inr (17, fp))]) hD hS hA [0, 1, 2] rfl
  refine va_callv (va_runV (As := [.ref pp, .ref el, .int 19]) (rest := []) ⟨hx, hb, hml, hown, hts⟩ (c_AL_add3_X12_19 l hst D cy ed H.size pa el (mc + (1 : Int32)) g pp fp) (cwV 3 hts (zx_GV mm_776 mm_778 mm_5 mm_77 mm_779) rfl rfl rfl (by decide +kernel) ⟨(Nat.le_of_ble_eq_true rfl), (Nat.le_of_ble_eq_true rfl)⟩) ⟨zx_blind, va_recv hK hPc (ci := 4) (q0 := 0) rfl rfl, zx_give hPc hK hDc hS hFc hZ hN⟩ rfl rfl hl.1 rfl (lv_room (Nat.le_of_ble_eq_true rfl)) dJx4a65c_add_9ea2d_20 ⟨(Nat.le_of_ble_eq_true rfl), (Nat.le_of_ble_eq_true rfl)⟩) hS (fun q _ h => hFc q h) hFc (fun u t H1 locs ht hvm hw hB hz1 hk1 hS => ?_)
  obtain ⟨qx_402, g2_403⟩ := u
  have h_404 := hw
  obtain ⟨hP, hD⟩ := zx_join (wr := []) (w1 := [(pa, .inr (4, [.int (mc + (1 : Int32)), .ref qx_402, .int 20])), (qx_402, .inl (cy 2, 22, .inr (.inr (.inr (.inr g2_403))))), (pp, .inr (17, fp))]) [0, 1, 2] [] rfl rfl (by decide) (by decide) hP hD hk1 hFc hB ht
  generalize H1 = H at hP hS ⊢
  have hP : va_P D vwCl [(pa, .inr (4, [.int (mc + (1 : Int32)), .ref qx_402, .int 20])), (qx_402, .inl (cy 2, 22, .inr (.inr (.inr (.inr g2_403))))), (pp, .inr (17, fp))] H := hP
  have hD : va_D A [(pa, .inr (4, [.int (mc + (1 : Int32)), .ref qx_402, .int 20])), (qx_402, .inl (cy 2, 22, .inr (.inr (.inr (.inr g2_403))))), (pp, .inr (17, fp))] := hD
  refine W.widen (k := 0) (n := 0) (Nat.le_of_ble_eq_true rfl) (Nat.le_of_ble_eq_true rfl) ?_
  obtain ⟨hs_405, hs_406⟩ := h_404
  refine lv_iconst (v := 1) hx hb dJx4a65c_add_9ea2d_23 (by decide) ?_
  have hP9 := hP.sub (ws' := [(pa, .inr (4, [.int (mc + (1 : Int32)), .ref qx_402, .int 20])), (qx_402, .inl (cy 2, 22, .inr (.inr (.inr (.inr g2_403))))), (pp, .inr (17, fp))]) [0, 1, 2] rfl
  have hD9 := hD.sub (ws' := [(pa, .inr (4, [.int (mc + (1 : Int32)), .ref qx_402, .int 20])), (qx_402, .inl (cy 2, 22, .inr (.inr (.inr (.inr g2_403))))), (pp, .inr (17, fp))]) [0, 1, 2] (by decide) rfl
  exact W.zret (v := 1) hx hb hr rfl (fun t ht hW => ⟨⟨1, ⟨(mc + (1 : Int32)), qx_402, g2_403⟩, rfl, ⟨rfl, ⟨hs_405, hs_406⟩⟩, zx_fin hP9 hD9 hK ht hW⟩, hS.F ht⟩) hS.2.2 dJx4a65c_add_9ea2d_24
