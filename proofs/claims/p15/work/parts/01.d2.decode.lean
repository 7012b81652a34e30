theorem dJx4a65c_grow_d5877_6 : decode cJx4a65c_grow_d5877 6 = .ok (.iadd, 1) := by decide +kernel
theorem dJx4a65c_grow_d5877_7 : decode cJx4a65c_grow_d5877 7 = .ok (.invokevirtual 69, 3) := by decide +kernel
theorem dJx4a65c_grow_d5877_10 : decode cJx4a65c_grow_d5877 10 = .ok (.areturn, 1) := by decide +kernel
theorem dJx4a65c_size_8abf5_0 : decode cJx4a65c_size_8abf5 0 = .ok (.aload_n 0, 1) := by decide +kernel
theorem dJx4a65c_size_8abf5_1 : decode cJx4a65c_size_8abf5 1 = .ok (.getfield 48, 3) := by decide +kernel
theorem dJx4a65c_size_8abf5_4 : decode cJx4a65c_size_8abf5 4 = .ok (.ireturn, 1) := by decide +kernel
theorem dJx4a65c_elementData_915e3_0 : decode cJx4a65c_elementData_915e3 0 = .ok (.aload_n 0, 1) := by decide +kernel
theorem dJx4a65c_elementData_915e3_1 : decode cJx4a65c_elementData_915e3 1 = .ok (.getfield 9, 3) := by decide +kernel
theorem dJx4a65c_elementData_915e3_4 : decode cJx4a65c_elementData_915e3 4 = .ok (.iload_n 1, 1) := by decide +kernel
theorem dJx4a65c_elementData_915e3_5 : decode cJx4a65c_elementData_915e3 5 = .ok (.aaload, 1) := by decide +kernel
theorem dJx4a65c_elementData_915e3_6 : decode cJx4a65c_elementData_915e3 6 = .ok (.areturn, 1) := by decide +kernel
theorem dJx4a65c_get_915e3_0 : decode cJx4a65c_get_915e3 0 = .ok (.iload_n 1, 1) := by decide +kernel
theorem dJx4a65c_get_915e3_1 : decode cJx4a65c_get_915e3 1 = .ok (.aload_n 0, 1) := by decide +kernel
theorem dJx4a65c_get_915e3_2 : decode cJx4a65c_get_915e3 2 = .ok (.getfield 48, 3) := by decide +kernel
theorem dJx4a65c_get_915e3_5 : decode cJx4a65c_get_915e3 5 = .ok (.invokestatic 118, 3) := by decide +kernel
theorem dJx4a65c_get_915e3_8 : decode cJx4a65c_get_915e3 8 = .ok (.pop, 1) := by decide +kernel
theorem dJx4a65c_get_915e3_9 : decode cJx4a65c_get_915e3 9 = .ok (.aload_n 0, 1) := by decide +kernel
theorem dJx4a65c_get_915e3_10 : decode cJx4a65c_get_915e3 10 = .ok (.iload_n 1, 1) := by decide +kernel
theorem dJx4a65c_get_915e3_11 : decode cJx4a65c_get_915e3 11 = .ok (.invokevirtual 123, 3) := by decide +kernel
theorem dJx4a65c_get_915e3_14 : decode cJx4a65c_get_915e3 14 = .ok (.areturn, 1) := by decide +kernel
theorem dJx4a65c_add_72be8_0 : decode cJx4a65c_add_72be8 0 = .ok (.iload_n 3, 1) := by decide +kernel
theorem dJx4a65c_add_72be8_1 : decode cJx4a65c_add_72be8 1 = .ok (.aload_n 2, 1) := by decide +kernel
theorem dJx4a65c_add_72be8_2 : decode cJx4a65c_add_72be8 2 = .ok (.arraylength, 1) := by decide +kernel
theorem dJx4a65c_add_72be8_3 : decode cJx4a65c_add_72be8 3 = .ok (.if_icmp .ne 8, 3) := by decide +kernel
theorem dJx4a65c_add_72be8_6 : decode cJx4a65c_add_72be8 6 = .ok (.aload_n 0, 1) := by decide +kernel
theorem dJx4a65c_add_72be8_7 : decode cJx4a65c_add_72be8 7 = .ok (.invokevirtual 129, 3) := by decide +kernel
theorem dJx4a65c_add_72be8_10 : decode cJx4a65c_add_72be8 10 = .ok (.astore_n 2, 1) := by decide +kernel
theorem dJx4a65c_add_72be8_11 : decode cJx4a65c_add_72be8 11 = .ok (.aload_n 2, 1) := by decide +kernel
theorem dJx4a65c_add_72be8_12 : decode cJx4a65c_add_72be8 12 = .ok (.iload_n 3, 1) := by decide +kernel
theorem dJx4a65c_add_72be8_13 : decode cJx4a65c_add_72be8 13 = .ok (.aload_n 1, 1) := by decide +kernel
theorem dJx4a65c_add_72be8_14 : decode cJx4a65c_add_72be8 14 = .ok (.aastore, 1) := by decide +kernel
theorem dJx4a65c_add_72be8_15 : decode cJx4a65c_add_72be8 15 = .ok (.aload_n 0, 1) := by decide +kernel
theorem dJx4a65c_add_72be8_16 : decode cJx4a65c_add_72be8 16 = .ok (.iload_n 3, 1) := by decide +kernel
theorem dJx4a65c_add_72be8_17 : decode cJx4a65c_add_72be8 17 = .ok (.iconst 1, 1) := by decide +kernel
theorem dJx4a65c_add_72be8_18 : decode cJx4a65c_add_72be8 18 = .ok (.iadd, 1) := by decide +kernel
theorem dJx4a65c_add_72be8_19 : decode cJx4a65c_add_72be8 19 = .ok (.putfield 48, 3) := by decide +kernel
theorem dJx4a65c_add_72be8_22 : decode cJx4a65c_add_72be8 22 = .ok (.return_, 1) := by decide +kernel
theorem dJx4a65c_add_9ea2d_0 : decode cJx4a65c_add_9ea2d 0 = .ok (.aload_n 0, 1) := by decide +kernel
theorem dJx4a65c_add_9ea2d_1 : decode cJx4a65c_add_9ea2d 1 = .ok (.dup, 1) := by decide +kernel
theorem dJx4a65c_add_9ea2d_2 : decode cJx4a65c_add_9ea2d 2 = .ok (.getfield 63, 3) := by decide +kernel
theorem dJx4a65c_add_9ea2d_5 : decode cJx4a65c_add_9ea2d 5 = .ok (.iconst 1, 1) := by decide +kernel
theorem dJx4a65c_add_9ea2d_6 : decode cJx4a65c_add_9ea2d 6 = .ok (.iadd, 1) := by decide +kernel
theorem dJx4a65c_add_9ea2d_7 : decode cJx4a65c_add_9ea2d 7 = .ok (.putfield 63, 3) := by decide +kernel
theorem dJx4a65c_add_9ea2d_10 : decode cJx4a65c_add_9ea2d 10 = .ok (.aload_n 0, 1) := by decide +kernel
theorem dJx4a65c_add_9ea2d_11 : decode cJx4a65c_add_9ea2d 11 = .ok (.aload_n 1, 1) := by decide +kernel
theorem dJx4a65c_add_9ea2d_12 : decode cJx4a65c_add_9ea2d 12 = .ok (.aload_n 0, 1) := by decide +kernel
theorem dJx4a65c_add_9ea2d_13 : decode cJx4a65c_add_9ea2d 13 = .ok (.getfield 9, 3) := by decide +kernel
theorem dJx4a65c_add_9ea2d_16 : decode cJx4a65c_add_9ea2d 16 = .ok (.aload_n 0, 1) := by decide +kernel
theorem dJx4a65c_add_9ea2d_17 : decode cJx4a65c_add_9ea2d 17 = .ok (.getfield 48, 3) := by decide +kernel
theorem dJx4a65c_add_9ea2d_20 : decode cJx4a65c_add_9ea2d 20 = .ok (.invokevirtual 131, 3) := by decide +kernel
theorem dJx4a65c_add_9ea2d_23 : decode cJx4a65c_add_9ea2d 23 = .ok (.iconst 1, 1) := by decide +kernel
theorem dJx4a65c_add_9ea2d_24 : decode cJx4a65c_add_9ea2d 24 = .ok (.ireturn, 1) := by decide +kernel
theorem dJ7_copyOf_1904c_0 : decode cJ7_copyOf_1904c 0 = .ok (.aload_n 0, 1) := by decide +kernel
theorem dJ7_copyOf_1904c_1 : decode cJ7_copyOf_1904c 1 = .ok (.iload_n 1, 1) := by decide +kernel
theorem dJ7_copyOf_1904c_2 : decode cJ7_copyOf_1904c 2 = .ok (.aload_n 0, 1) := by decide +kernel
theorem dJ7_copyOf_1904c_3 : decode cJ7_copyOf_1904c 3 = .ok (.invokevirtual 86, 3) := by decide +kernel
theorem dJ7_copyOf_1904c_6 : decode cJ7_copyOf_1904c 6 = .ok (.invokestatic 300, 3) := by decide +kernel
theorem dJ7_copyOf_1904c_9 : decode cJ7_copyOf_1904c 9 = .ok (.areturn, 1) := by decide +kernel
theorem dJ7_copyOf_6403c_0 : decode cJ7_copyOf_6403c 0 = .ok (.aload_n 2, 1) := by decide +kernel
theorem dJ7_copyOf_6403c_1 : decode cJ7_copyOf_6403c 1 = .ok (.ldc 110, 2) := by decide +kernel
theorem dJ7_copyOf_6403c_3 : decode cJ7_copyOf_6403c 3 = .ok (.if_acmp .ne 10, 3) := by decide +kernel
theorem dJ7_copyOf_6403c_6 : decode cJ7_copyOf_6403c 6 = .ok (.iload_n 1, 1) := by decide +kernel
theorem dJ7_copyOf_6403c_7 : decode cJ7_copyOf_6403c 7 = .ok (.anewarray 2, 3) := by decide +kernel
theorem dJ7_copyOf_6403c_10 : decode cJ7_copyOf_6403c 10 = .ok (.goto 14, 3) := by decide +kernel
theorem dJ7_copyOf_6403c_13 : decode cJ7_copyOf_6403c 13 = .ok (.aload_n 2, 1) := by decide +kernel
theorem dJ7_copyOf_6403c_14 : decode cJ7_copyOf_6403c 14 = .ok (.invokevirtual 90, 3) := by decide +kernel
theorem dJ7_copyOf_6403c_17 : decode cJ7_copyOf_6403c 17 = .ok (.iload_n 1, 1) := by decide +kernel
theorem dJ7_copyOf_6403c_18 : decode cJ7_copyOf_6403c 18 = .ok (.invokestatic 95, 3) := by decide +kernel
theorem dJ7_copyOf_6403c_21 : decode cJ7_copyOf_6403c 21 = .ok (.checkcast 110, 3) := by decide +kernel
theorem dJ7_copyOf_6403c_24 : decode cJ7_copyOf_6403c 24 = .ok (.astore_n 3, 1) := by decide +kernel
theorem dJ7_copyOf_6403c_25 : decode cJ7_copyOf_6403c 25 = .ok (.aload_n 0, 1) := by decide +kernel
theorem dJ7_copyOf_6403c_26 : decode cJ7_copyOf_6403c 26 = .ok (.iconst 0, 1) := by decide +kernel
theorem dJ7_copyOf_6403c_27 : decode cJ7_copyOf_6403c 27 = .ok (.aload_n 3, 1) := by decide +kernel
theorem dJ7_copyOf_6403c_28 : decode cJ7_copyOf_6403c 28 = .ok (.iconst 0, 1) := by decide +kernel
theorem dJ7_copyOf_6403c_29 : decode cJ7_copyOf_6403c 29 = .ok (.aload_n 0, 1) := by decide +kernel
theorem dJ7_copyOf_6403c_30 : decode cJ7_copyOf_6403c 30 = .ok (.arraylength, 1) := by decide +kernel
theorem dJ7_copyOf_6403c_31 : decode cJ7_copyOf_6403c 31 = .ok (.iload_n 1, 1) := by decide +kernel
theorem dJ7_copyOf_6403c_32 : decode cJ7_copyOf_6403c 32 = .ok (.invokestatic 304, 3) := by decide +kernel
theorem dJ7_copyOf_6403c_35 : decode cJ7_copyOf_6403c 35 = .ok (.invokestatic 150, 3) := by decide +kernel
theorem dJ7_copyOf_6403c_38 : decode cJ7_copyOf_6403c 38 = .ok (.aload_n 3, 1) := by decide +kernel
theorem dJ7_copyOf_6403c_39 : decode cJ7_copyOf_6403c 39 = .ok (.areturn, 1) := by decide +kernel
theorem dJ15_checkIndex_7cf53_0 : decode cJ15_checkIndex_7cf53 0 = .ok (.iload_n 0, 1) := by decide +kernel
theorem dJ15_checkIndex_7cf53_1 : decode cJ15_checkIndex_7cf53 1 = .ok (.iload_n 1, 1) := by decide +kernel
theorem dJ15_checkIndex_7cf53_2 : decode cJ15_checkIndex_7cf53 2 = .ok (.aconst_null, 1) := by decide +kernel
theorem dJ15_checkIndex_7cf53_3 : decode cJ15_checkIndex_7cf53 3 = .ok (.invokestatic 105, 3) := by decide +kernel
theorem dJ15_checkIndex_7cf53_6 : decode cJ15_checkIndex_7cf53 6 = .ok (.ireturn, 1) := by decide +kernel
theorem dJ8_newLength_cabcc_0 : decode cJ8_newLength_cabcc 0 = .ok (.iload_n 0, 1) := by decide +kernel
theorem dJ8_newLength_cabcc_1 : decode cJ8_newLength_cabcc 1 = .ok (.iload_n 1, 1) := by decide +kernel
theorem dJ8_newLength_cabcc_2 : decode cJ8_newLength_cabcc 2 = .ok (.iload_n 2, 1) := by decide +kernel
theorem dJ8_newLength_cabcc_3 : decode cJ8_newLength_cabcc 3 = .ok (.invokestatic 194, 3) := by decide +kernel
theorem dJ8_newLength_cabcc_6 : decode cJ8_newLength_cabcc 6 = .ok (.iadd, 1) := by decide +kernel
theorem dJ8_newLength_cabcc_7 : decode cJ8_newLength_cabcc 7 = .ok (.istore_n 3, 1) := by decide +kernel
theorem dJ8_newLength_cabcc_8 : decode cJ8_newLength_cabcc 8 = .ok (.iconst 0, 1) := by decide +kernel
theorem dJ8_newLength_cabcc_9 : decode cJ8_newLength_cabcc 9 = .ok (.iload_n 3, 1) := by decide +kernel
theorem dJ8_newLength_cabcc_10 : decode cJ8_newLength_cabcc 10 = .ok (.if_icmp .ge 11, 3) := by decide +kernel
theorem dJ8_newLength_cabcc_13 : decode cJ8_newLength_cabcc 13 = .ok (.iload_n 3, 1) := by decide +kernel
theorem dJ8_newLength_cabcc_14 : decode cJ8_newLength_cabcc 14 = .ok (.ldc 200, 2) := by decide +kernel
theorem dJ8_newLength_cabcc_16 : decode cJ8_newLength_cabcc 16 = .ok (.if_icmp .gt 5, 3) := by decide +kernel
theorem dJ8_newLength_cabcc_19 : decode cJ8_newLength_cabcc 19 = .ok (.iload_n 3, 1) := by decide +kernel
theorem dJ8_newLength_cabcc_20 : decode cJ8_newLength_cabcc 20 = .ok (.ireturn, 1) := by decide +kernel
theorem dJ8_newLength_cabcc_21 : decode cJ8_newLength_cabcc 21 = .ok (.iload_n 0, 1) := by decide +kernel
theorem dJ8_newLength_cabcc_22 : decode cJ8_newLength_cabcc 22 = .ok (.iload_n 1, 1) := by decide +kernel
theorem dJ8_newLength_cabcc_23 : decode cJ8_newLength_cabcc 23 = .ok (.invokestatic 201, 3) := by decide +kernel
theorem dJ8_newLength_cabcc_26 : decode cJ8_newLength_cabcc 26 = .ok (.ireturn, 1) := by decide +kernel
theorem dJ8_hugeLength_7cf53_0 : decode cJ8_hugeLength_7cf53 0 = .ok (.iload_n 0, 1) := by decide +kernel
theorem dJ8_hugeLength_7cf53_1 : decode cJ8_hugeLength_7cf53 1 = .ok (.iload_n 1, 1) := by decide +kernel
theorem dJ8_hugeLength_7cf53_2 : decode cJ8_hugeLength_7cf53 2 = .ok (.iadd, 1) := by decide +kernel
theorem dJ8_hugeLength_7cf53_3 : decode cJ8_hugeLength_7cf53 3 = .ok (.istore_n 2, 1) := by decide +kernel
theorem dJ8_hugeLength_7cf53_4 : decode cJ8_hugeLength_7cf53 4 = .ok (.iload_n 2, 1) := by decide +kernel
theorem dJ8_hugeLength_7cf53_5 : decode cJ8_hugeLength_7cf53 5 = .ok (.ifCond .ge 44, 3) := by decide +kernel
theorem dJ8_hugeLength_7cf53_8 : decode cJ8_hugeLength_7cf53 8 = .ok (.new 204, 3) := by decide +kernel
theorem dJ8_hugeLength_7cf53_11 : decode cJ8_hugeLength_7cf53 11 = .ok (.dup, 1) := by decide +kernel
theorem dJ8_hugeLength_7cf53_12 : decode cJ8_hugeLength_7cf53 12 = .ok (.new 89, 3) := by decide +kernel
theorem dJ8_hugeLength_7cf53_15 : decode cJ8_hugeLength_7cf53 15 = .ok (.dup, 1) := by decide +kernel
theorem dJ8_hugeLength_7cf53_16 : decode cJ8_hugeLength_7cf53 16 = .ok (.invokespecial 91, 3) := by decide +kernel
theorem dJ8_hugeLength_7cf53_19 : decode cJ8_hugeLength_7cf53 19 = .ok (.ldc 206, 2) := by decide +kernel
theorem dJ8_hugeLength_7cf53_21 : decode cJ8_hugeLength_7cf53 21 = .ok (.invokevirtual 94, 3) := by decide +kernel
theorem dJ8_hugeLength_7cf53_24 : decode cJ8_hugeLength_7cf53 24 = .ok (.iload_n 0, 1) := by decide +kernel
theorem dJ8_hugeLength_7cf53_25 : decode cJ8_hugeLength_7cf53 25 = .ok (.invokevirtual 98, 3) := by decide +kernel
theorem dJ8_hugeLength_7cf53_28 : decode cJ8_hugeLength_7cf53 28 = .ok (.ldc 208, 2) := by decide +kernel
theorem dJ8_hugeLength_7cf53_30 : decode cJ8_hugeLength_7cf53 30 = .ok (.invokevirtual 94, 3) := by decide +kernel
theorem dJ8_hugeLength_7cf53_33 : decode cJ8_hugeLength_7cf53 33 = .ok (.iload_n 1, 1) := by decide +kernel
theorem dJ8_hugeLength_7cf53_34 : decode cJ8_hugeLength_7cf53 34 = .ok (.invokevirtual 98, 3) := by decide +kernel
theorem dJ8_hugeLength_7cf53_37 : decode cJ8_hugeLength_7cf53 37 = .ok (.ldc 210, 2) := by decide +kernel
theorem dJ8_hugeLength_7cf53_39 : decode cJ8_hugeLength_7cf53 39 = .ok (.invokevirtual 94, 3) := by decide +kernel
theorem dJ8_hugeLength_7cf53_42 : decode cJ8_hugeLength_7cf53 42 = .ok (.invokevirtual 101, 3) := by decide +kernel
theorem dJ8_hugeLength_7cf53_45 : decode cJ8_hugeLength_7cf53 45 = .ok (.invokespecial 212, 3) := by decide +kernel
theorem dJ8_hugeLength_7cf53_48 : decode cJ8_hugeLength_7cf53 48 = .ok (.athrow, 1) := by decide +kernel
theorem dJ8_hugeLength_7cf53_49 : decode cJ8_hugeLength_7cf53 49 = .ok (.iload_n 2, 1) := by decide +kernel
theorem dJ8_hugeLength_7cf53_50 : decode cJ8_hugeLength_7cf53 50 = .ok (.ldc 200, 2) := by decide +kernel
theorem dJ8_hugeLength_7cf53_52 : decode cJ8_hugeLength_7cf53 52 = .ok (.if_icmp .gt 6, 3) := by decide +kernel
theorem dJ8_hugeLength_7cf53_55 : decode cJ8_hugeLength_7cf53 55 = .ok (.ldc 200, 2) := by decide +kernel
theorem dJ8_hugeLength_7cf53_57 : decode cJ8_hugeLength_7cf53 57 = .ok (.ireturn, 1) := by decide +kernel
theorem dJ8_hugeLength_7cf53_58 : decode cJ8_hugeLength_7cf53 58 = .ok (.iload_n 2, 1) := by decide +kernel
theorem dJ8_hugeLength_7cf53_59 : decode cJ8_hugeLength_7cf53 59 = .ok (.ireturn, 1) := by decide +kernel
theorem dJ3_checkIndex_8e157_0 : decode cJ3_checkIndex_8e157 0 = .ok (.iload_n 0, 1) := by decide +kernel
theorem dJ3_checkIndex_8e157_1 : decode cJ3_checkIndex_8e157 1 = .ok (.ifCond .lt 8, 3) := by decide +kernel
theorem dJ3_checkIndex_8e157_4 : decode cJ3_checkIndex_8e157 4 = .ok (.iload_n 0, 1) := by decide +kernel
theorem dJ3_checkIndex_8e157_5 : decode cJ3_checkIndex_8e157 5 = .ok (.iload_n 1, 1) := by decide +kernel
theorem dJ3_checkIndex_8e157_6 : decode cJ3_checkIndex_8e157 6 = .ok (.if_icmp .lt 10, 3) := by decide +kernel
theorem dJ3_checkIndex_8e157_9 : decode cJ3_checkIndex_8e157 9 = .ok (.aload_n 2, 1) := by decide +kernel
theorem dJ3_checkIndex_8e157_10 : decode cJ3_checkIndex_8e157 10 = .ok (.iload_n 0, 1) := by decide +kernel
theorem dJ3_checkIndex_8e157_11 : decode cJ3_checkIndex_8e157 11 = .ok (.iload_n 1, 1) := by decide +kernel
theorem dJ3_checkIndex_8e157_12 : decode cJ3_checkIndex_8e157 12 = .ok (.invokestatic 95, 3) := by decide +kernel
theorem dJ3_checkIndex_8e157_15 : decode cJ3_checkIndex_8e157 15 = .ok (.athrow, 1) := by decide +kernel
theorem dJ3_checkIndex_8e157_16 : decode cJ3_checkIndex_8e157 16 = .ok (.iload_n 0, 1) := by decide +kernel
theorem dJ3_checkIndex_8e157_17 : decode cJ3_checkIndex_8e157 17 = .ok (.ireturn, 1) := by decide +kernel
theorem dL_cell_0 : decode cL_cell 0 = .ok (.iload_n 1, 1) := by decide +kernel
theorem dL_cell_1 : decode cL_cell 1 = .ok (.aload_n 0, 1) := by decide +kernel
theorem dL_cell_2 : decode cL_cell 2 = .ok (.arraylength, 1) := by decide +kernel
theorem dL_cell_3 : decode cL_cell 3 = .ok (.if_icmp .ge 9, 3) := by decide +kernel
theorem dL_cell_6 : decode cL_cell 6 = .ok (.aload_n 0, 1) := by decide +kernel
theorem dL_cell_7 : decode cL_cell 7 = .ok (.iload_n 1, 1) := by decide +kernel
theorem dL_cell_8 : decode cL_cell 8 = .ok (.iaload, 1) := by decide +kernel
theorem dL_cell_9 : decode cL_cell 9 = .ok (.goto 11, 3) := by decide +kernel
theorem dL_cell_12 : decode cL_cell 12 = .ok (.ldc 7, 2) := by decide +kernel
theorem dL_cell_14 : decode cL_cell 14 = .ok (.iload_n 1, 1) := by decide +kernel
theorem dL_cell_15 : decode cL_cell 15 = .ok (.imul, 1) := by decide +kernel
theorem dL_cell_16 : decode cL_cell 16 = .ok (.sipush 13103, 3) := by decide +kernel
theorem dL_cell_19 : decode cL_cell 19 = .ok (.iadd, 1) := by decide +kernel
theorem dL_cell_20 : decode cL_cell 20 = .ok (.ireturn, 1) := by decide +kernel
theorem dL_low_0 : decode cL_low 0 = .ok (.iload_n 0, 1) := by decide +kernel
theorem dL_low_1 : decode cL_low 1 = .ok (.ldc 8, 2) := by decide +kernel
theorem dL_low_3 : decode cL_low 3 = .ok (.iand, 1) := by decide +kernel
theorem dL_low_4 : decode cL_low 4 = .ok (.iload_n 1, 1) := by decide +kernel
theorem dL_low_5 : decode cL_low 5 = .ok (.irem, 1) := by decide +kernel
theorem dL_low_6 : decode cL_low 6 = .ok (.ireturn, 1) := by decide +kernel
theorem dL_does_0 : decode cL_does 0 = .ok (.iload_n 1, 1) := by decide +kernel
theorem dL_does_1 : decode cL_does 1 = .ok (.ifCond .ne 20, 3) := by decide +kernel
theorem dL_does_4 : decode cL_does 4 = .ok (.aload_n 0, 1) := by decide +kernel
theorem dL_does_5 : decode cL_does 5 = .ok (.iload_n 2, 1) := by decide +kernel
theorem dL_does_6 : decode cL_does 6 = .ok (.iload_n 3, 1) := by decide +kernel
theorem dL_does_7 : decode cL_does 7 = .ok (.iload 4, 2) := by decide +kernel
theorem dL_does_9 : decode cL_does 9 = .ok (.iload 5, 2) := by decide +kernel
theorem dL_does_11 : decode cL_does 11 = .ok (.iload_n 2, 1) := by decide +kernel
theorem dL_does_12 : decode cL_does 12 = .ok (.iload 4, 2) := by decide +kernel
theorem dL_does_14 : decode cL_does 14 = .ok (.iadd, 1) := by decide +kernel
theorem dL_does_15 : decode cL_does 15 = .ok (.invokevirtual 9, 3) := by decide +kernel
theorem dL_does_18 : decode cL_does 18 = .ok (.goto 73, 3) := by decide +kernel
theorem dL_does_21 : decode cL_does 21 = .ok (.iload_n 1, 1) := by decide +kernel
theorem dL_does_22 : decode cL_does 22 = .ok (.iconst 1, 1) := by decide +kernel
theorem dL_does_23 : decode cL_does 23 = .ok (.if_icmp .ne 12, 3) := by decide +kernel
theorem dL_does_26 : decode cL_does 26 = .ok (.aload_n 0, 1) := by decide +kernel
theorem dL_does_27 : decode cL_does 27 = .ok (.iload_n 2, 1) := by decide +kernel
theorem dL_does_28 : decode cL_does 28 = .ok (.iload_n 3, 1) := by decide +kernel
theorem dL_does_29 : decode cL_does 29 = .ok (.invokevirtual 15, 3) := by decide +kernel
theorem dL_does_32 : decode cL_does 32 = .ok (.goto 59, 3) := by decide +kernel
theorem dL_does_35 : decode cL_does 35 = .ok (.iload_n 1, 1) := by decide +kernel
theorem dL_does_36 : decode cL_does 36 = .ok (.iconst 2, 1) := by decide +kernel
theorem dL_does_37 : decode cL_does 37 = .ok (.if_icmp .ne 20, 3) := by decide +kernel
theorem dL_does_40 : decode cL_does 40 = .ok (.aload_n 0, 1) := by decide +kernel
theorem dL_does_41 : decode cL_does 41 = .ok (.iload_n 2, 1) := by decide +kernel
theorem dL_does_42 : decode cL_does 42 = .ok (.iload_n 3, 1) := by decide +kernel
theorem dL_does_43 : decode cL_does 43 = .ok (.iload 4, 2) := by decide +kernel
theorem dL_does_45 : decode cL_does 45 = .ok (.iload 4, 2) := by decide +kernel
theorem dL_does_47 : decode cL_does 47 = .ok (.iconst 4, 1) := by decide +kernel
theorem dL_does_48 : decode cL_does 48 = .ok (.iadd, 1) := by decide +kernel
theorem dL_does_49 : decode cL_does 49 = .ok (.iload 5, 2) := by decide +kernel
theorem dL_does_51 : decode cL_does 51 = .ok (.invokevirtual 19, 3) := by decide +kernel
theorem dL_does_54 : decode cL_does 54 = .ok (.goto 37, 3) := by decide +kernel
theorem dL_does_57 : decode cL_does 57 = .ok (.iload_n 1, 1) := by decide +kernel
theorem dL_does_58 : decode cL_does 58 = .ok (.iconst 3, 1) := by decide +kernel
theorem dL_does_59 : decode cL_does 59 = .ok (.if_icmp .ne 14, 3) := by decide +kernel
theorem dL_does_62 : decode cL_does 62 = .ok (.aload_n 0, 1) := by decide +kernel
theorem dL_does_63 : decode cL_does 63 = .ok (.iload_n 2, 1) := by decide +kernel
theorem dL_does_64 : decode cL_does 64 = .ok (.iload_n 3, 1) := by decide +kernel
theorem dL_does_65 : decode cL_does 65 = .ok (.iload 4, 2) := by decide +kernel
theorem dL_does_67 : decode cL_does 67 = .ok (.invokevirtual 22, 3) := by decide +kernel
theorem dL_does_70 : decode cL_does 70 = .ok (.goto 21, 3) := by decide +kernel
theorem dL_does_73 : decode cL_does 73 = .ok (.iload_n 1, 1) := by decide +kernel
theorem dL_does_74 : decode cL_does 74 = .ok (.iconst 4, 1) := by decide +kernel
theorem dL_does_75 : decode cL_does 75 = .ok (.if_icmp .ne 11, 3) := by decide +kernel
theorem dL_does_78 : decode cL_does 78 = .ok (.aload_n 0, 1) := by decide +kernel
theorem dL_does_79 : decode cL_does 79 = .ok (.iload_n 2, 1) := by decide +kernel
theorem dL_does_80 : decode cL_does 80 = .ok (.invokevirtual 26, 3) := by decide +kernel
theorem dL_does_83 : decode cL_does 83 = .ok (.goto 8, 3) := by decide +kernel
theorem dL_does_86 : decode cL_does 86 = .ok (.aload_n 0, 1) := by decide +kernel
theorem dL_does_87 : decode cL_does 87 = .ok (.iload_n 2, 1) := by decide +kernel
theorem dL_does_88 : decode cL_does 88 = .ok (.invokevirtual 30, 3) := by decide +kernel
theorem dL_does_91 : decode cL_does 91 = .ok (.ireturn, 1) := by decide +kernel
theorem dL_does_92 : decode cL_does 92 = .ok (.astore 6, 2) := by decide +kernel
theorem dL_does_94 : decode cL_does 94 = .ok (.bipush (-2), 2) := by decide +kernel
theorem dL_does_96 : decode cL_does 96 = .ok (.ireturn, 1) := by decide +kernel
theorem dL_does_97 : decode cL_does 97 = .ok (.astore 6, 2) := by decide +kernel
theorem dL_does_99 : decode cL_does 99 = .ok (.bipush (-3), 2) := by decide +kernel
theorem dL_does_101 : decode cL_does 101 = .ok (.ireturn, 1) := by decide +kernel
theorem dL_does_102 : decode cL_does 102 = .ok (.astore 6, 2) := by decide +kernel
theorem dL_does_104 : decode cL_does 104 = .ok (.bipush (-4), 2) := by decide +kernel
theorem dL_does_106 : decode cL_does 106 = .ok (.ireturn, 1) := by decide +kernel
theorem dL_boat_0 : decode cL_boat 0 = .ok (.aload_n 0, 1) := by decide +kernel
theorem dL_boat_1 : decode cL_boat 1 = .ok (.iload_n 1, 1) := by decide +kernel
theorem dL_boat_2 : decode cL_boat 2 = .ok (.iload_n 2, 1) := by decide +kernel
theorem dL_boat_3 : decode cL_boat 3 = .ok (.invokevirtual 39, 3) := by decide +kernel
theorem dL_boat_6 : decode cL_boat 6 = .ok (.ireturn, 1) := by decide +kernel
theorem dL_boat_7 : decode cL_boat 7 = .ok (.astore_n 3, 1) := by decide +kernel
theorem dL_boat_8 : decode cL_boat 8 = .ok (.bipush (-2), 2) := by decide +kernel
theorem dL_boat_10 : decode cL_boat 10 = .ok (.ireturn, 1) := by decide +kernel
theorem dL_call_0 : decode cL_call 0 = .ok (.aload_n 0, 1) := by decide +kernel
theorem dL_call_1 : decode cL_call 1 = .ok (.iload_n 1, 1) := by decide +kernel
theorem dL_call_2 : decode cL_call 2 = .ok (.iload_n 2, 1) := by decide +kernel
theorem dL_call_3 : decode cL_call 3 = .ok (.invokevirtual 42, 3) := by decide +kernel
theorem dL_call_6 : decode cL_call 6 = .ok (.ireturn, 1) := by decide +kernel
theorem dL_call_7 : decode cL_call 7 = .ok (.astore_n 3, 1) := by decide +kernel
theorem dL_call_8 : decode cL_call 8 = .ok (.bipush (-2), 2) := by decide +kernel
theorem dL_call_10 : decode cL_call 10 = .ok (.ireturn, 1) := by decide +kernel
theorem dL_tell_0 : decode cL_tell 0 = .ok (.bipush 64, 2) := by decide +kernel
theorem dL_tell_2 : decode cL_tell 2 = .ok (.newarray .int, 2) := by decide +kernel
theorem dL_tell_4 : decode cL_tell 4 = .ok (.astore_n 1, 1) := by decide +kernel
theorem dL_tell_5 : decode cL_tell 5 = .ok (.iconst 0, 1) := by decide +kernel
theorem dL_tell_6 : decode cL_tell 6 = .ok (.istore_n 2, 1) := by decide +kernel
theorem dL_tell_7 : decode cL_tell 7 = .ok (.iload_n 2, 1) := by decide +kernel
theorem dL_tell_8 : decode cL_tell 8 = .ok (.bipush 6, 2) := by decide +kernel
theorem dL_tell_10 : decode cL_tell 10 = .ok (.if_icmp .ge 35, 3) := by decide +kernel
theorem dL_tell_13 : decode cL_tell 13 = .ok (.iconst 0, 1) := by decide +kernel
theorem dL_tell_14 : decode cL_tell 14 = .ok (.istore_n 3, 1) := by decide +kernel
theorem dL_tell_15 : decode cL_tell 15 = .ok (.iload_n 3, 1) := by decide +kernel
theorem dL_tell_16 : decode cL_tell 16 = .ok (.iconst 4, 1) := by decide +kernel
theorem dL_tell_17 : decode cL_tell 17 = .ok (.if_icmp .ge 22, 3) := by decide +kernel
theorem dL_tell_20 : decode cL_tell 20 = .ok (.aload_n 1, 1) := by decide +kernel
theorem dL_tell_21 : decode cL_tell 21 = .ok (.iconst 4, 1) := by decide +kernel
theorem dL_tell_22 : decode cL_tell 22 = .ok (.iload_n 2, 1) := by decide +kernel
theorem dL_tell_23 : decode cL_tell 23 = .ok (.imul, 1) := by decide +kernel
theorem dL_tell_24 : decode cL_tell 24 = .ok (.iload_n 3, 1) := by decide +kernel
theorem dL_tell_25 : decode cL_tell 25 = .ok (.iadd, 1) := by decide +kernel
theorem dL_tell_26 : decode cL_tell 26 = .ok (.aload_n 0, 1) := by decide +kernel
theorem dL_tell_27 : decode cL_tell 27 = .ok (.iload_n 2, 1) := by decide +kernel
theorem dL_tell_28 : decode cL_tell 28 = .ok (.iload_n 3, 1) := by decide +kernel
theorem dL_tell_29 : decode cL_tell 29 = .ok (.invokestatic 45, 3) := by decide +kernel
theorem dL_tell_32 : decode cL_tell 32 = .ok (.iastore, 1) := by decide +kernel
theorem dL_tell_33 : decode cL_tell 33 = .ok (.iinc 3 1, 3) := by decide +kernel
theorem dL_tell_36 : decode cL_tell 36 = .ok (.goto (-21), 3) := by decide +kernel
theorem dL_tell_39 : decode cL_tell 39 = .ok (.iinc 2 1, 3) := by decide +kernel
theorem dL_tell_42 : decode cL_tell 42 = .ok (.goto (-35), 3) := by decide +kernel
theorem dL_tell_45 : decode cL_tell 45 = .ok (.iconst 0, 1) := by decide +kernel
theorem dL_tell_46 : decode cL_tell 46 = .ok (.istore_n 2, 1) := by decide +kernel
theorem dL_tell_47 : decode cL_tell 47 = .ok (.iload_n 2, 1) := by decide +kernel
theorem dL_tell_48 : decode cL_tell 48 = .ok (.bipush 12, 2) := by decide +kernel
theorem dL_tell_50 : decode cL_tell 50 = .ok (.if_icmp .ge 54, 3) := by decide +kernel
theorem dL_tell_53 : decode cL_tell 53 = .ok (.aload_n 1, 1) := by decide +kernel
theorem dL_tell_54 : decode cL_tell 54 = .ok (.bipush 24, 2) := by decide +kernel
theorem dL_tell_56 : decode cL_tell 56 = .ok (.iload_n 2, 1) := by decide +kernel
theorem dL_tell_57 : decode cL_tell 57 = .ok (.iadd, 1) := by decide +kernel
theorem dL_tell_58 : decode cL_tell 58 = .ok (.aload_n 0, 1) := by decide +kernel
theorem dL_tell_59 : decode cL_tell 59 = .ok (.iload_n 2, 1) := by decide +kernel
theorem dL_tell_60 : decode cL_tell 60 = .ok (.iconst 0, 1) := by decide +kernel
theorem dL_tell_61 : decode cL_tell 61 = .ok (.invokestatic 50, 3) := by decide +kernel
theorem dL_tell_64 : decode cL_tell 64 = .ok (.bipush 10, 2) := by decide +kernel
theorem dL_tell_66 : decode cL_tell 66 = .ok (.aload_n 0, 1) := by decide +kernel
theorem dL_tell_67 : decode cL_tell 67 = .ok (.iload_n 2, 1) := by decide +kernel
theorem dL_tell_68 : decode cL_tell 68 = .ok (.iconst 1, 1) := by decide +kernel
theorem dL_tell_69 : decode cL_tell 69 = .ok (.invokestatic 50, 3) := by decide +kernel
theorem dL_tell_72 : decode cL_tell 72 = .ok (.imul, 1) := by decide +kernel
theorem dL_tell_73 : decode cL_tell 73 = .ok (.iadd, 1) := by decide +kernel
theorem dL_tell_74 : decode cL_tell 74 = .ok (.iastore, 1) := by decide +kernel
theorem dL_tell_75 : decode cL_tell 75 = .ok (.aload_n 1, 1) := by decide +kernel
theorem dL_tell_76 : decode cL_tell 76 = .ok (.bipush 36, 2) := by decide +kernel
theorem dL_tell_78 : decode cL_tell 78 = .ok (.iload_n 2, 1) := by decide +kernel
theorem dL_tell_79 : decode cL_tell 79 = .ok (.iadd, 1) := by decide +kernel
theorem dL_tell_80 : decode cL_tell 80 = .ok (.aload_n 0, 1) := by decide +kernel
theorem dL_tell_81 : decode cL_tell 81 = .ok (.iload_n 2, 1) := by decide +kernel
theorem dL_tell_82 : decode cL_tell 82 = .ok (.iconst 3, 1) := by decide +kernel
theorem dL_tell_83 : decode cL_tell 83 = .ok (.invokestatic 50, 3) := by decide +kernel
theorem dL_tell_86 : decode cL_tell 86 = .ok (.sipush 1000, 3) := by decide +kernel
theorem dL_tell_89 : decode cL_tell 89 = .ok (.aload_n 0, 1) := by decide +kernel
theorem dL_tell_90 : decode cL_tell 90 = .ok (.iload_n 2, 1) := by decide +kernel
theorem dL_tell_91 : decode cL_tell 91 = .ok (.iconst 2, 1) := by decide +kernel
theorem dL_tell_92 : decode cL_tell 92 = .ok (.invokestatic 50, 3) := by decide +kernel
theorem dL_tell_95 : decode cL_tell 95 = .ok (.imul, 1) := by decide +kernel
theorem dL_tell_96 : decode cL_tell 96 = .ok (.iadd, 1) := by decide +kernel
theorem dL_tell_97 : decode cL_tell 97 = .ok (.iastore, 1) := by decide +kernel
theorem dL_tell_98 : decode cL_tell 98 = .ok (.iinc 2 1, 3) := by decide +kernel
theorem dL_tell_101 : decode cL_tell 101 = .ok (.goto (-54), 3) := by decide +kernel
theorem dL_tell_104 : decode cL_tell 104 = .ok (.iconst 0, 1) := by decide +kernel
theorem dL_tell_105 : decode cL_tell 105 = .ok (.istore_n 2, 1) := by decide +kernel
theorem dL_tell_106 : decode cL_tell 106 = .ok (.iload_n 2, 1) := by decide +kernel
theorem dL_tell_107 : decode cL_tell 107 = .ok (.iconst 3, 1) := by decide +kernel
theorem dL_tell_108 : decode cL_tell 108 = .ok (.if_icmp .ge 20, 3) := by decide +kernel
theorem dL_tell_111 : decode cL_tell 111 = .ok (.aload_n 1, 1) := by decide +kernel
theorem dL_tell_112 : decode cL_tell 112 = .ok (.bipush 48, 2) := by decide +kernel
theorem dL_tell_114 : decode cL_tell 114 = .ok (.iload_n 2, 1) := by decide +kernel
theorem dL_tell_115 : decode cL_tell 115 = .ok (.iadd, 1) := by decide +kernel
theorem dL_tell_116 : decode cL_tell 116 = .ok (.aload_n 0, 1) := by decide +kernel
theorem dL_tell_117 : decode cL_tell 117 = .ok (.iload_n 2, 1) := by decide +kernel
theorem dL_tell_118 : decode cL_tell 118 = .ok (.invokevirtual 52, 3) := by decide +kernel
theorem dL_tell_121 : decode cL_tell 121 = .ok (.iastore, 1) := by decide +kernel
theorem dL_tell_122 : decode cL_tell 122 = .ok (.iinc 2 1, 3) := by decide +kernel
theorem dL_tell_125 : decode cL_tell 125 = .ok (.goto (-19), 3) := by decide +kernel
theorem dL_tell_128 : decode cL_tell 128 = .ok (.aload_n 1, 1) := by decide +kernel
theorem dL_tell_129 : decode cL_tell 129 = .ok (.areturn, 1) := by decide +kernel
theorem dL_same_0 : decode cL_same 0 = .ok (.iconst 0, 1) := by decide +kernel
theorem dL_same_1 : decode cL_same 1 = .ok (.istore_n 2, 1) := by decide +kernel
theorem dL_same_2 : decode cL_same 2 = .ok (.iload_n 2, 1) := by decide +kernel
theorem dL_same_3 : decode cL_same 3 = .ok (.bipush 64, 2) := by decide +kernel
theorem dL_same_5 : decode cL_same 5 = .ok (.if_icmp .ge 20, 3) := by decide +kernel
theorem dL_same_8 : decode cL_same 8 = .ok (.aload_n 0, 1) := by decide +kernel
theorem dL_same_9 : decode cL_same 9 = .ok (.iload_n 2, 1) := by decide +kernel
theorem dL_same_10 : decode cL_same 10 = .ok (.iaload, 1) := by decide +kernel
theorem dL_same_11 : decode cL_same 11 = .ok (.aload_n 1, 1) := by decide +kernel
theorem dL_same_12 : decode cL_same 12 = .ok (.iload_n 2, 1) := by decide +kernel
theorem dL_same_13 : decode cL_same 13 = .ok (.iaload, 1) := by decide +kernel
theorem dL_same_14 : decode cL_same 14 = .ok (.if_icmp .eq 5, 3) := by decide +kernel
theorem dL_same_17 : decode cL_same 17 = .ok (.iconst 0, 1) := by decide +kernel
theorem dL_same_18 : decode cL_same 18 = .ok (.ireturn, 1) := by decide +kernel
theorem dL_same_19 : decode cL_same 19 = .ok (.iinc 2 1, 3) := by decide +kernel
theorem dL_same_22 : decode cL_same 22 = .ok (.goto (-20), 3) := by decide +kernel
theorem dL_same_25 : decode cL_same 25 = .ok (.iconst 1, 1) := by decide +kernel
theorem dL_same_26 : decode cL_same 26 = .ok (.ireturn, 1) := by decide +kernel
theorem dL_asks_0 : decode cL_asks 0 = .ok (.iconst 0, 1) := by decide +kernel
theorem dL_asks_1 : decode cL_asks 1 = .ok (.istore_n 2, 1) := by decide +kernel
theorem dL_asks_2 : decode cL_asks 2 = .ok (.iconst 0, 1) := by decide +kernel
theorem dL_asks_3 : decode cL_asks 3 = .ok (.istore_n 3, 1) := by decide +kernel
theorem dL_asks_4 : decode cL_asks 4 = .ok (.iload_n 3, 1) := by decide +kernel
theorem dL_asks_5 : decode cL_asks 5 = .ok (.bipush 30, 2) := by decide +kernel
theorem dL_asks_7 : decode cL_asks 7 = .ok (.if_icmp .ge 122, 3) := by decide +kernel
theorem dL_asks_10 : decode cL_asks 10 = .ok (.aload_n 0, 1) := by decide +kernel
theorem dL_asks_11 : decode cL_asks 11 = .ok (.iload_n 3, 1) := by decide +kernel
theorem dL_asks_12 : decode cL_asks 12 = .ok (.iconst 0, 1) := by decide +kernel
theorem dL_asks_13 : decode cL_asks 13 = .ok (.invokestatic 50, 3) := by decide +kernel
theorem dL_asks_16 : decode cL_asks 16 = .ok (.istore 4, 2) := by decide +kernel
theorem dL_asks_18 : decode cL_asks 18 = .ok (.iload 4, 2) := by decide +kernel
theorem dL_asks_20 : decode cL_asks 20 = .ok (.bipush (-2), 2) := by decide +kernel
theorem dL_asks_22 : decode cL_asks 22 = .ok (.if_icmp .ne 6, 3) := by decide +kernel
theorem dL_asks_25 : decode cL_asks 25 = .ok (.goto 104, 3) := by decide +kernel
theorem dL_asks_28 : decode cL_asks 28 = .ok (.aload_n 0, 1) := by decide +kernel
theorem dL_asks_29 : decode cL_asks 29 = .ok (.iload_n 3, 1) := by decide +kernel
theorem dL_asks_30 : decode cL_asks 30 = .ok (.iconst 1, 1) := by decide +kernel
theorem dL_asks_31 : decode cL_asks 31 = .ok (.invokestatic 50, 3) := by decide +kernel
theorem dL_asks_34 : decode cL_asks 34 = .ok (.istore 5, 2) := by decide +kernel
theorem dL_asks_36 : decode cL_asks 36 = .ok (.iload_n 2, 1) := by decide +kernel
theorem dL_asks_37 : decode cL_asks 37 = .ok (.aload_n 0, 1) := by decide +kernel
theorem dL_asks_38 : decode cL_asks 38 = .ok (.iload_n 3, 1) := by decide +kernel
theorem dL_asks_39 : decode cL_asks 39 = .ok (.iconst 3, 1) := by decide +kernel
theorem dL_asks_40 : decode cL_asks 40 = .ok (.invokestatic 50, 3) := by decide +kernel
theorem dL_asks_43 : decode cL_asks 43 = .ok (.iadd, 1) := by decide +kernel
theorem dL_asks_44 : decode cL_asks 44 = .ok (.istore_n 2, 1) := by decide +kernel
theorem dL_asks_45 : decode cL_asks 45 = .ok (.iload 4, 2) := by decide +kernel
theorem dL_asks_47 : decode cL_asks 47 = .ok (.iconst 1, 1) := by decide +kernel
theorem dL_asks_48 : decode cL_asks 48 = .ok (.if_icmp .ne 19, 3) := by decide +kernel
theorem dL_asks_51 : decode cL_asks 51 = .ok (.iload 5, 2) := by decide +kernel
theorem dL_asks_53 : decode cL_asks 53 = .ok (.ifCond .lt 68, 3) := by decide +kernel
theorem dL_asks_56 : decode cL_asks 56 = .ok (.aload_n 0, 1) := by decide +kernel
theorem dL_asks_57 : decode cL_asks 57 = .ok (.iload 5, 2) := by decide +kernel
theorem dL_asks_59 : decode cL_asks 59 = .ok (.iconst 1, 1) := by decide +kernel
theorem dL_asks_60 : decode cL_asks 60 = .ok (.invokestatic 45, 3) := by decide +kernel
theorem dL_asks_63 : decode cL_asks 63 = .ok (.iload_n 3, 1) := by decide +kernel
theorem dL_asks_64 : decode cL_asks 64 = .ok (.if_icmp .ne 57, 3) := by decide +kernel
theorem dL_asks_67 : decode cL_asks 67 = .ok (.iload 4, 2) := by decide +kernel
theorem dL_asks_69 : decode cL_asks 69 = .ok (.iconst 2, 1) := by decide +kernel
theorem dL_asks_70 : decode cL_asks 70 = .ok (.if_icmp .eq 12, 3) := by decide +kernel
theorem dL_asks_73 : decode cL_asks 73 = .ok (.aload_n 0, 1) := by decide +kernel
theorem dL_asks_74 : decode cL_asks 74 = .ok (.iload_n 3, 1) := by decide +kernel
theorem dL_asks_75 : decode cL_asks 75 = .ok (.iconst 3, 1) := by decide +kernel
theorem dL_asks_76 : decode cL_asks 76 = .ok (.invokestatic 50, 3) := by decide +kernel
theorem dL_asks_79 : decode cL_asks 79 = .ok (.ifCond .ne 42, 3) := by decide +kernel
theorem dL_asks_82 : decode cL_asks 82 = .ok (.aload_n 0, 1) := by decide +kernel
theorem dL_asks_83 : decode cL_asks 83 = .ok (.iload_n 3, 1) := by decide +kernel
theorem dL_asks_84 : decode cL_asks 84 = .ok (.iconst 2, 1) := by decide +kernel
theorem dL_asks_85 : decode cL_asks 85 = .ok (.invokestatic 50, 3) := by decide +kernel
theorem dL_asks_88 : decode cL_asks 88 = .ok (.ifCond .ne 7, 3) := by decide +kernel
theorem dL_asks_91 : decode cL_asks 91 = .ok (.iconst 1, 1) := by decide +kernel
theorem dL_asks_92 : decode cL_asks 92 = .ok (.goto 4, 3) := by decide +kernel
theorem dL_asks_95 : decode cL_asks 95 = .ok (.iconst 0, 1) := by decide +kernel
theorem dL_asks_96 : decode cL_asks 96 = .ok (.iload 5, 2) := by decide +kernel
theorem dL_asks_98 : decode cL_asks 98 = .ok (.iconst (-1), 1) := by decide +kernel
theorem dL_asks_99 : decode cL_asks 99 = .ok (.if_icmp .ne 7, 3) := by decide +kernel
theorem dL_asks_102 : decode cL_asks 102 = .ok (.iconst 1, 1) := by decide +kernel
theorem dL_asks_103 : decode cL_asks 103 = .ok (.goto 4, 3) := by decide +kernel
theorem dL_asks_106 : decode cL_asks 106 = .ok (.iconst 0, 1) := by decide +kernel
theorem dL_asks_107 : decode cL_asks 107 = .ok (.if_icmp .ne 14, 3) := by decide +kernel
theorem dL_asks_110 : decode cL_asks 110 = .ok (.iload 4, 2) := by decide +kernel
theorem dL_asks_112 : decode cL_asks 112 = .ok (.iconst 2, 1) := by decide +kernel
theorem dL_asks_113 : decode cL_asks 113 = .ok (.if_icmp .ne 10, 3) := by decide +kernel
theorem dL_asks_116 : decode cL_asks 116 = .ok (.iload 5, 2) := by decide +kernel
theorem dL_asks_118 : decode cL_asks 118 = .ok (.ifCond .ge 5, 3) := by decide +kernel
theorem dL_asks_121 : decode cL_asks 121 = .ok (.iconst 0, 1) := by decide +kernel
theorem dL_asks_122 : decode cL_asks 122 = .ok (.ireturn, 1) := by decide +kernel
theorem dL_asks_123 : decode cL_asks 123 = .ok (.iinc 3 1, 3) := by decide +kernel
theorem dL_asks_126 : decode cL_asks 126 = .ok (.goto (-122), 3) := by decide +kernel
theorem dL_asks_129 : decode cL_asks 129 = .ok (.iconst 0, 1) := by decide +kernel
theorem dL_asks_130 : decode cL_asks 130 = .ok (.istore_n 3, 1) := by decide +kernel
theorem dL_asks_131 : decode cL_asks 131 = .ok (.iload_n 3, 1) := by decide +kernel
theorem dL_asks_132 : decode cL_asks 132 = .ok (.bipush 6, 2) := by decide +kernel
theorem dL_asks_134 : decode cL_asks 134 = .ok (.if_icmp .ge 131, 3) := by decide +kernel
theorem dL_asks_137 : decode cL_asks 137 = .ok (.aload_n 0, 1) := by decide +kernel
theorem dL_asks_138 : decode cL_asks 138 = .ok (.iload_n 3, 1) := by decide +kernel
theorem dL_asks_139 : decode cL_asks 139 = .ok (.iconst 0, 1) := by decide +kernel
theorem dL_asks_140 : decode cL_asks 140 = .ok (.invokestatic 45, 3) := by decide +kernel
theorem dL_asks_143 : decode cL_asks 143 = .ok (.istore 4, 2) := by decide +kernel
theorem dL_asks_145 : decode cL_asks 145 = .ok (.iload 4, 2) := by decide +kernel
theorem dL_asks_147 : decode cL_asks 147 = .ok (.bipush (-2), 2) := by decide +kernel
theorem dL_asks_149 : decode cL_asks 149 = .ok (.if_icmp .eq 110, 3) := by decide +kernel
theorem dL_asks_152 : decode cL_asks 152 = .ok (.iload 4, 2) := by decide +kernel
theorem dL_asks_154 : decode cL_asks 154 = .ok (.ifCond .ne 7, 3) := by decide +kernel
theorem dL_asks_157 : decode cL_asks 157 = .ok (.iconst 1, 1) := by decide +kernel
theorem dL_asks_158 : decode cL_asks 158 = .ok (.goto 4, 3) := by decide +kernel
theorem dL_asks_161 : decode cL_asks 161 = .ok (.iconst 0, 1) := by decide +kernel
theorem dL_asks_162 : decode cL_asks 162 = .ok (.aload_n 0, 1) := by decide +kernel
theorem dL_asks_163 : decode cL_asks 163 = .ok (.iload_n 3, 1) := by decide +kernel
theorem dL_asks_164 : decode cL_asks 164 = .ok (.iconst 2, 1) := by decide +kernel
theorem dL_asks_165 : decode cL_asks 165 = .ok (.invokestatic 45, 3) := by decide +kernel
theorem dL_asks_168 : decode cL_asks 168 = .ok (.iconst (-1), 1) := by decide +kernel
theorem dL_asks_169 : decode cL_asks 169 = .ok (.if_icmp .ne 7, 3) := by decide +kernel
theorem dL_asks_172 : decode cL_asks 172 = .ok (.iconst 1, 1) := by decide +kernel
theorem dL_asks_173 : decode cL_asks 173 = .ok (.goto 4, 3) := by decide +kernel
theorem dL_asks_176 : decode cL_asks 176 = .ok (.iconst 0, 1) := by decide +kernel
theorem dL_asks_177 : decode cL_asks 177 = .ok (.if_icmp .ne 80, 3) := by decide +kernel
theorem dL_asks_180 : decode cL_asks 180 = .ok (.iload 4, 2) := by decide +kernel
theorem dL_asks_182 : decode cL_asks 182 = .ok (.ifCond .le 13, 3) := by decide +kernel
theorem dL_asks_185 : decode cL_asks 185 = .ok (.aload_n 0, 1) := by decide +kernel
theorem dL_asks_186 : decode cL_asks 186 = .ok (.iload_n 3, 1) := by decide +kernel
theorem dL_asks_187 : decode cL_asks 187 = .ok (.iconst 2, 1) := by decide +kernel
theorem dL_asks_188 : decode cL_asks 188 = .ok (.invokestatic 45, 3) := by decide +kernel
theorem dL_asks_191 : decode cL_asks 191 = .ok (.iload_n 1, 1) := by decide +kernel
theorem dL_asks_192 : decode cL_asks 192 = .ok (.if_icmp .le 65, 3) := by decide +kernel
theorem dL_asks_195 : decode cL_asks 195 = .ok (.iload 4, 2) := by decide +kernel
theorem dL_asks_197 : decode cL_asks 197 = .ok (.iconst 1, 1) := by decide +kernel
theorem dL_asks_198 : decode cL_asks 198 = .ok (.if_icmp .eq 13, 3) := by decide +kernel
theorem dL_asks_201 : decode cL_asks 201 = .ok (.aload_n 0, 1) := by decide +kernel
theorem dL_asks_202 : decode cL_asks 202 = .ok (.iload_n 3, 1) := by decide +kernel
theorem dL_asks_203 : decode cL_asks 203 = .ok (.iconst 1, 1) := by decide +kernel
theorem dL_asks_204 : decode cL_asks 204 = .ok (.invokestatic 45, 3) := by decide +kernel
theorem dL_asks_207 : decode cL_asks 207 = .ok (.iconst (-1), 1) := by decide +kernel
theorem dL_asks_208 : decode cL_asks 208 = .ok (.if_icmp .ne 49, 3) := by decide +kernel
theorem dL_asks_211 : decode cL_asks 211 = .ok (.aload_n 0, 1) := by decide +kernel
theorem dL_asks_212 : decode cL_asks 212 = .ok (.iload_n 3, 1) := by decide +kernel
theorem dL_asks_213 : decode cL_asks 213 = .ok (.iconst 1, 1) := by decide +kernel
theorem dL_asks_214 : decode cL_asks 214 = .ok (.invokestatic 45, 3) := by decide +kernel
theorem dL_asks_217 : decode cL_asks 217 = .ok (.ifCond .lt 18, 3) := by decide +kernel
theorem dL_asks_220 : decode cL_asks 220 = .ok (.aload_n 0, 1) := by decide +kernel
theorem dL_asks_221 : decode cL_asks 221 = .ok (.aload_n 0, 1) := by decide +kernel
theorem dL_asks_222 : decode cL_asks 222 = .ok (.iload_n 3, 1) := by decide +kernel
theorem dL_asks_223 : decode cL_asks 223 = .ok (.iconst 1, 1) := by decide +kernel
theorem dL_asks_224 : decode cL_asks 224 = .ok (.invokestatic 45, 3) := by decide +kernel
theorem dL_asks_227 : decode cL_asks 227 = .ok (.iconst 0, 1) := by decide +kernel
theorem dL_asks_228 : decode cL_asks 228 = .ok (.invokestatic 50, 3) := by decide +kernel
theorem dL_asks_231 : decode cL_asks 231 = .ok (.iconst 1, 1) := by decide +kernel
theorem dL_asks_232 : decode cL_asks 232 = .ok (.if_icmp .ne 25, 3) := by decide +kernel
theorem dL_asks_235 : decode cL_asks 235 = .ok (.aload_n 0, 1) := by decide +kernel
theorem dL_asks_236 : decode cL_asks 236 = .ok (.iload_n 3, 1) := by decide +kernel
theorem dL_asks_237 : decode cL_asks 237 = .ok (.iconst 3, 1) := by decide +kernel
theorem dL_asks_238 : decode cL_asks 238 = .ok (.invokestatic 45, 3) := by decide +kernel
theorem dL_asks_241 : decode cL_asks 241 = .ok (.ifCond .lt 16, 3) := by decide +kernel
theorem dL_asks_244 : decode cL_asks 244 = .ok (.aload_n 0, 1) := by decide +kernel
theorem dL_asks_245 : decode cL_asks 245 = .ok (.iload_n 3, 1) := by decide +kernel
theorem dL_asks_246 : decode cL_asks 246 = .ok (.iconst 2, 1) := by decide +kernel
theorem dL_asks_247 : decode cL_asks 247 = .ok (.invokestatic 45, 3) := by decide +kernel
theorem dL_asks_250 : decode cL_asks 250 = .ok (.iload_n 1, 1) := by decide +kernel
theorem dL_asks_251 : decode cL_asks 251 = .ok (.bipush 20, 2) := by decide +kernel
theorem dL_asks_253 : decode cL_asks 253 = .ok (.iadd, 1) := by decide +kernel
theorem dL_asks_254 : decode cL_asks 254 = .ok (.if_icmp .le 5, 3) := by decide +kernel
theorem dL_asks_257 : decode cL_asks 257 = .ok (.iconst 0, 1) := by decide +kernel
theorem dL_asks_258 : decode cL_asks 258 = .ok (.ireturn, 1) := by decide +kernel
theorem dL_asks_259 : decode cL_asks 259 = .ok (.iinc 3 1, 3) := by decide +kernel
theorem dL_asks_262 : decode cL_asks 262 = .ok (.goto (-131), 3) := by decide +kernel
theorem dL_asks_265 : decode cL_asks 265 = .ok (.iconst 0, 1) := by decide +kernel
theorem dL_asks_266 : decode cL_asks 266 = .ok (.istore_n 3, 1) := by decide +kernel
theorem dL_asks_267 : decode cL_asks 267 = .ok (.iconst 0, 1) := by decide +kernel
theorem dL_asks_268 : decode cL_asks 268 = .ok (.istore 4, 2) := by decide +kernel
theorem dL_asks_270 : decode cL_asks 270 = .ok (.iload 4, 2) := by decide +kernel
theorem dL_asks_272 : decode cL_asks 272 = .ok (.iconst 3, 1) := by decide +kernel
theorem dL_asks_273 : decode cL_asks 273 = .ok (.if_icmp .ge 35, 3) := by decide +kernel
theorem dL_asks_276 : decode cL_asks 276 = .ok (.iload_n 3, 1) := by decide +kernel
theorem dL_asks_277 : decode cL_asks 277 = .ok (.aload_n 0, 1) := by decide +kernel
theorem dL_asks_278 : decode cL_asks 278 = .ok (.iload 4, 2) := by decide +kernel
theorem dL_asks_280 : decode cL_asks 280 = .ok (.invokevirtual 52, 3) := by decide +kernel
theorem dL_asks_283 : decode cL_asks 283 = .ok (.iadd, 1) := by decide +kernel
theorem dL_asks_284 : decode cL_asks 284 = .ok (.istore_n 3, 1) := by decide +kernel
theorem dL_asks_285 : decode cL_asks 285 = .ok (.aload_n 0, 1) := by decide +kernel
theorem dL_asks_286 : decode cL_asks 286 = .ok (.iload 4, 2) := by decide +kernel
theorem dL_asks_288 : decode cL_asks 288 = .ok (.invokevirtual 52, 3) := by decide +kernel
theorem dL_asks_291 : decode cL_asks 291 = .ok (.aload_n 0, 1) := by decide +kernel
theorem dL_asks_292 : decode cL_asks 292 = .ok (.iload 4, 2) := by decide +kernel
theorem dL_asks_294 : decode cL_asks 294 = .ok (.invokevirtual 55, 3) := by decide +kernel
theorem dL_asks_297 : decode cL_asks 297 = .ok (.if_icmp .eq 5, 3) := by decide +kernel
theorem dL_asks_300 : decode cL_asks 300 = .ok (.iconst 0, 1) := by decide +kernel
theorem dL_asks_301 : decode cL_asks 301 = .ok (.ireturn, 1) := by decide +kernel
theorem dL_asks_302 : decode cL_asks 302 = .ok (.iinc 4 1, 3) := by decide +kernel
theorem dL_asks_305 : decode cL_asks 305 = .ok (.goto (-35), 3) := by decide +kernel
theorem dL_asks_308 : decode cL_asks 308 = .ok (.iload_n 3, 1) := by decide +kernel
theorem dL_asks_309 : decode cL_asks 309 = .ok (.iload_n 2, 1) := by decide +kernel
theorem dL_asks_310 : decode cL_asks 310 = .ok (.if_icmp .ne 7, 3) := by decide +kernel
theorem dL_asks_313 : decode cL_asks 313 = .ok (.iconst 1, 1) := by decide +kernel
theorem dL_asks_314 : decode cL_asks 314 = .ok (.goto 4, 3) := by decide +kernel
theorem dL_asks_317 : decode cL_asks 317 = .ok (.iconst 0, 1) := by decide +kernel
theorem dL_asks_318 : decode cL_asks 318 = .ok (.ireturn, 1) := by decide +kernel
theorem dL_act_0 : decode cL_act 0 = .ok (.iload_n 3, 1) := by decide +kernel
theorem dL_act_1 : decode cL_act 1 = .ok (.tableswitch 179 0 7 #[47, 47, 86, 107, 107, 148, 148, 148], 47) := by decide +kernel
theorem dL_act_48 : decode cL_act 48 = .ok (.aload_n 0, 1) := by decide +kernel
theorem dL_act_49 : decode cL_act 49 = .ok (.iconst 0, 1) := by decide +kernel
theorem dL_act_50 : decode cL_act 50 = .ok (.iload_n 1, 1) := by decide +kernel
theorem dL_act_51 : decode cL_act 51 = .ok (.iconst 4, 1) := by decide +kernel
theorem dL_act_52 : decode cL_act 52 = .ok (.invokestatic 58, 3) := by decide +kernel
theorem dL_act_55 : decode cL_act 55 = .ok (.iload_n 1, 1) := by decide +kernel
theorem dL_act_56 : decode cL_act 56 = .ok (.iconst 2, 1) := by decide +kernel
theorem dL_act_57 : decode cL_act 57 = .ok (.ishr, 1) := by decide +kernel
theorem dL_act_58 : decode cL_act 58 = .ok (.bipush 48, 2) := by decide +kernel
theorem dL_act_60 : decode cL_act 60 = .ok (.invokestatic 58, 3) := by decide +kernel
theorem dL_act_63 : decode cL_act 63 = .ok (.iconst 1, 1) := by decide +kernel
theorem dL_act_64 : decode cL_act 64 = .ok (.iload_n 1, 1) := by decide +kernel
theorem dL_act_65 : decode cL_act 65 = .ok (.iconst 4, 1) := by decide +kernel
theorem dL_act_66 : decode cL_act 66 = .ok (.ishr, 1) := by decide +kernel
theorem dL_act_67 : decode cL_act 67 = .ok (.iconst 3, 1) := by decide +kernel
theorem dL_act_68 : decode cL_act 68 = .ok (.invokestatic 58, 3) := by decide +kernel
theorem dL_act_71 : decode cL_act 71 = .ok (.iadd, 1) := by decide +kernel
theorem dL_act_72 : decode cL_act 72 = .ok (.iconst 1, 1) := by decide +kernel
theorem dL_act_73 : decode cL_act 73 = .ok (.iload_n 1, 1) := by decide +kernel
theorem dL_act_74 : decode cL_act 74 = .ok (.bipush 6, 2) := by decide +kernel
theorem dL_act_76 : decode cL_act 76 = .ok (.ishr, 1) := by decide +kernel
theorem dL_act_77 : decode cL_act 77 = .ok (.bipush 60, 2) := by decide +kernel
theorem dL_act_79 : decode cL_act 79 = .ok (.invokestatic 58, 3) := by decide +kernel
theorem dL_act_82 : decode cL_act 82 = .ok (.iadd, 1) := by decide +kernel
theorem dL_act_83 : decode cL_act 83 = .ok (.invokestatic 61, 3) := by decide +kernel
theorem dL_act_86 : decode cL_act 86 = .ok (.ireturn, 1) := by decide +kernel
theorem dL_act_87 : decode cL_act 87 = .ok (.aload_n 0, 1) := by decide +kernel
theorem dL_act_88 : decode cL_act 88 = .ok (.iconst 1, 1) := by decide +kernel
theorem dL_act_89 : decode cL_act 89 = .ok (.iload_n 1, 1) := by decide +kernel
theorem dL_act_90 : decode cL_act 90 = .ok (.bipush 7, 2) := by decide +kernel
theorem dL_act_92 : decode cL_act 92 = .ok (.invokestatic 58, 3) := by decide +kernel
theorem dL_act_95 : decode cL_act 95 = .ok (.iload_n 1, 1) := by decide +kernel
theorem dL_act_96 : decode cL_act 96 = .ok (.iconst 3, 1) := by decide +kernel
theorem dL_act_97 : decode cL_act 97 = .ok (.ishr, 1) := by decide +kernel
theorem dL_act_98 : decode cL_act 98 = .ok (.iconst 4, 1) := by decide +kernel
theorem dL_act_99 : decode cL_act 99 = .ok (.invokestatic 58, 3) := by decide +kernel
theorem dL_act_102 : decode cL_act 102 = .ok (.iconst 0, 1) := by decide +kernel
theorem dL_act_103 : decode cL_act 103 = .ok (.iconst 0, 1) := by decide +kernel
theorem dL_act_104 : decode cL_act 104 = .ok (.invokestatic 61, 3) := by decide +kernel
theorem dL_act_107 : decode cL_act 107 = .ok (.ireturn, 1) := by decide +kernel
theorem dL_act_108 : decode cL_act 108 = .ok (.aload_n 0, 1) := by decide +kernel
theorem dL_act_109 : decode cL_act 109 = .ok (.iconst 2, 1) := by decide +kernel
theorem dL_act_110 : decode cL_act 110 = .ok (.iload_n 1, 1) := by decide +kernel
theorem dL_act_111 : decode cL_act 111 = .ok (.bipush 30, 2) := by decide +kernel
theorem dL_act_113 : decode cL_act 113 = .ok (.invokestatic 58, 3) := by decide +kernel
theorem dL_act_116 : decode cL_act 116 = .ok (.bipush 20, 2) := by decide +kernel
theorem dL_act_118 : decode cL_act 118 = .ok (.iload_n 1, 1) := by decide +kernel
theorem dL_act_119 : decode cL_act 119 = .ok (.iconst 2, 1) := by decide +kernel
theorem dL_act_120 : decode cL_act 120 = .ok (.ishr, 1) := by decide +kernel
theorem dL_act_121 : decode cL_act 121 = .ok (.bipush 28, 2) := by decide +kernel
theorem dL_act_123 : decode cL_act 123 = .ok (.invokestatic 58, 3) := by decide +kernel
theorem dL_act_126 : decode cL_act 126 = .ok (.iadd, 1) := by decide +kernel
theorem dL_act_127 : decode cL_act 127 = .ok (.iload_n 2, 1) := by decide +kernel
theorem dL_act_128 : decode cL_act 128 = .ok (.iload_n 1, 1) := by decide +kernel
theorem dL_act_129 : decode cL_act 129 = .ok (.iconst 5, 1) := by decide +kernel
theorem dL_act_130 : decode cL_act 130 = .ok (.ishr, 1) := by decide +kernel
theorem dL_act_131 : decode cL_act 131 = .ok (.bipush 9, 2) := by decide +kernel
theorem dL_act_133 : decode cL_act 133 = .ok (.invokestatic 58, 3) := by decide +kernel
theorem dL_act_136 : decode cL_act 136 = .ok (.iadd, 1) := by decide +kernel
theorem dL_act_137 : decode cL_act 137 = .ok (.iload_n 1, 1) := by decide +kernel
theorem dL_act_138 : decode cL_act 138 = .ok (.iconst 4, 1) := by decide +kernel
theorem dL_act_139 : decode cL_act 139 = .ok (.ishr, 1) := by decide +kernel
theorem dL_act_140 : decode cL_act 140 = .ok (.bipush 10, 2) := by decide +kernel
theorem dL_act_142 : decode cL_act 142 = .ok (.invokestatic 58, 3) := by decide +kernel
theorem dL_act_145 : decode cL_act 145 = .ok (.invokestatic 61, 3) := by decide +kernel
theorem dL_act_148 : decode cL_act 148 = .ok (.ireturn, 1) := by decide +kernel
theorem dL_act_149 : decode cL_act 149 = .ok (.aload_n 0, 1) := by decide +kernel
theorem dL_act_150 : decode cL_act 150 = .ok (.iconst 3, 1) := by decide +kernel
theorem dL_act_151 : decode cL_act 151 = .ok (.iload_n 1, 1) := by decide +kernel
theorem dL_act_152 : decode cL_act 152 = .ok (.bipush 49, 2) := by decide +kernel
theorem dL_act_154 : decode cL_act 154 = .ok (.invokestatic 58, 3) := by decide +kernel
theorem dL_act_157 : decode cL_act 157 = .ok (.iload_n 1, 1) := by decide +kernel
theorem dL_act_158 : decode cL_act 158 = .ok (.iconst 3, 1) := by decide +kernel
