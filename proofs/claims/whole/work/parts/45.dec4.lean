theorem dL_set_0 : decode cL_set 0 = .ok (.aload_n 0, 1) := by decide +kernel
theorem dL_set_1 : decode cL_set 1 = .ok (.iload_n 1, 1) := by decide +kernel
theorem dL_set_2 : decode cL_set 2 = .ok (.iload_n 2, 1) := by decide +kernel
theorem dL_set_3 : decode cL_set 3 = .ok (.iload_n 3, 1) := by decide +kernel
theorem dL_set_4 : decode cL_set 4 = .ok (.invokevirtual 7, 3) := by decide +kernel
theorem dL_set_7 : decode cL_set 7 = .ok (.goto 7, 3) := by decide +kernel
theorem dL_set_10 : decode cL_set 10 = .ok (.astore 4, 2) := by decide +kernel
theorem dL_set_12 : decode cL_set 12 = .ok (.iconst 1, 1) := by decide +kernel
theorem dL_set_13 : decode cL_set 13 = .ok (.ireturn, 1) := by decide +kernel
theorem dL_set_14 : decode cL_set 14 = .ok (.iconst 0, 1) := by decide +kernel
theorem dL_set_15 : decode cL_set 15 = .ok (.ireturn, 1) := by decide +kernel
theorem dL_op_0 : decode cL_op 0 = .ok (.aload_n 0, 1) := by decide +kernel
theorem dL_op_1 : decode cL_op 1 = .ok (.iload_n 1, 1) := by decide +kernel
theorem dL_op_2 : decode cL_op 2 = .ok (.iload_n 2, 1) := by decide +kernel
theorem dL_op_3 : decode cL_op 3 = .ok (.iload_n 3, 1) := by decide +kernel
theorem dL_op_4 : decode cL_op 4 = .ok (.iload 4, 2) := by decide +kernel
theorem dL_op_6 : decode cL_op 6 = .ok (.invokevirtual 15, 3) := by decide +kernel
theorem dL_op_9 : decode cL_op 9 = .ok (.goto 11, 3) := by decide +kernel
theorem dL_op_12 : decode cL_op 12 = .ok (.astore 5, 2) := by decide +kernel
theorem dL_op_14 : decode cL_op 14 = .ok (.iconst 1, 1) := by decide +kernel
theorem dL_op_15 : decode cL_op 15 = .ok (.ireturn, 1) := by decide +kernel
theorem dL_op_16 : decode cL_op 16 = .ok (.astore 5, 2) := by decide +kernel
theorem dL_op_18 : decode cL_op 18 = .ok (.iconst 2, 1) := by decide +kernel
theorem dL_op_19 : decode cL_op 19 = .ok (.ireturn, 1) := by decide +kernel
theorem dL_op_20 : decode cL_op 20 = .ok (.iconst 0, 1) := by decide +kernel
theorem dL_op_21 : decode cL_op 21 = .ok (.ireturn, 1) := by decide +kernel
theorem dL_store_0 : decode cL_store 0 = .ok (.aload_n 0, 1) := by decide +kernel
theorem dL_store_1 : decode cL_store 1 = .ok (.iload_n 1, 1) := by decide +kernel
theorem dL_store_2 : decode cL_store 2 = .ok (.iload_n 2, 1) := by decide +kernel
theorem dL_store_3 : decode cL_store 3 = .ok (.iload_n 3, 1) := by decide +kernel
theorem dL_store_4 : decode cL_store 4 = .ok (.invokevirtual 21, 3) := by decide +kernel
theorem dL_store_7 : decode cL_store 7 = .ok (.goto 11, 3) := by decide +kernel
theorem dL_store_10 : decode cL_store 10 = .ok (.astore 4, 2) := by decide +kernel
theorem dL_store_12 : decode cL_store 12 = .ok (.iconst 1, 1) := by decide +kernel
theorem dL_store_13 : decode cL_store 13 = .ok (.ireturn, 1) := by decide +kernel
theorem dL_store_14 : decode cL_store 14 = .ok (.astore 4, 2) := by decide +kernel
theorem dL_store_16 : decode cL_store 16 = .ok (.iconst 2, 1) := by decide +kernel
theorem dL_store_17 : decode cL_store 17 = .ok (.ireturn, 1) := by decide +kernel
theorem dL_store_18 : decode cL_store 18 = .ok (.iconst 0, 1) := by decide +kernel
theorem dL_store_19 : decode cL_store 19 = .ok (.ireturn, 1) := by decide +kernel
theorem dL_load_0 : decode cL_load 0 = .ok (.aload_n 0, 1) := by decide +kernel
theorem dL_load_1 : decode cL_load 1 = .ok (.iload_n 1, 1) := by decide +kernel
theorem dL_load_2 : decode cL_load 2 = .ok (.iload_n 2, 1) := by decide +kernel
theorem dL_load_3 : decode cL_load 3 = .ok (.iload_n 3, 1) := by decide +kernel
theorem dL_load_4 : decode cL_load 4 = .ok (.iload 4, 2) := by decide +kernel
theorem dL_load_6 : decode cL_load 6 = .ok (.invokevirtual 24, 3) := by decide +kernel
theorem dL_load_9 : decode cL_load 9 = .ok (.goto 11, 3) := by decide +kernel
theorem dL_load_12 : decode cL_load 12 = .ok (.astore 5, 2) := by decide +kernel
theorem dL_load_14 : decode cL_load 14 = .ok (.iconst 1, 1) := by decide +kernel
theorem dL_load_15 : decode cL_load 15 = .ok (.ireturn, 1) := by decide +kernel
theorem dL_load_16 : decode cL_load 16 = .ok (.astore 5, 2) := by decide +kernel
theorem dL_load_18 : decode cL_load 18 = .ok (.iconst 2, 1) := by decide +kernel
theorem dL_load_19 : decode cL_load 19 = .ok (.ireturn, 1) := by decide +kernel
theorem dL_load_20 : decode cL_load 20 = .ok (.iconst 0, 1) := by decide +kernel
theorem dL_load_21 : decode cL_load 21 = .ok (.ireturn, 1) := by decide +kernel
theorem dL_value_0 : decode cL_value 0 = .ok (.aload_n 2, 1) := by decide +kernel
theorem dL_value_1 : decode cL_value 1 = .ok (.iconst 0, 1) := by decide +kernel
theorem dL_value_2 : decode cL_value 2 = .ok (.aload_n 0, 1) := by decide +kernel
theorem dL_value_3 : decode cL_value 3 = .ok (.iload_n 1, 1) := by decide +kernel
theorem dL_value_4 : decode cL_value 4 = .ok (.invokevirtual 28, 3) := by decide +kernel
theorem dL_value_7 : decode cL_value 7 = .ok (.i2l, 1) := by decide +kernel
theorem dL_value_8 : decode cL_value 8 = .ok (.lastore, 1) := by decide +kernel
theorem dL_value_9 : decode cL_value 9 = .ok (.goto 6, 3) := by decide +kernel
theorem dL_value_12 : decode cL_value 12 = .ok (.astore_n 3, 1) := by decide +kernel
theorem dL_value_13 : decode cL_value 13 = .ok (.iconst 1, 1) := by decide +kernel
theorem dL_value_14 : decode cL_value 14 = .ok (.ireturn, 1) := by decide +kernel
theorem dL_value_15 : decode cL_value 15 = .ok (.iconst 0, 1) := by decide +kernel
theorem dL_value_16 : decode cL_value 16 = .ok (.ireturn, 1) := by decide +kernel
theorem dL_not_0 : decode cL_not 0 = .ok (.aload_n 2, 1) := by decide +kernel
theorem dL_not_1 : decode cL_not 1 = .ok (.iconst 0, 1) := by decide +kernel
theorem dL_not_2 : decode cL_not 2 = .ok (.aload_n 0, 1) := by decide +kernel
theorem dL_not_3 : decode cL_not 3 = .ok (.iload_n 1, 1) := by decide +kernel
theorem dL_not_4 : decode cL_not 4 = .ok (.invokevirtual 32, 3) := by decide +kernel
theorem dL_not_7 : decode cL_not 7 = .ok (.i2l, 1) := by decide +kernel
theorem dL_not_8 : decode cL_not 8 = .ok (.lastore, 1) := by decide +kernel
theorem dL_not_9 : decode cL_not 9 = .ok (.goto 6, 3) := by decide +kernel
theorem dL_not_12 : decode cL_not 12 = .ok (.astore_n 3, 1) := by decide +kernel
theorem dL_not_13 : decode cL_not 13 = .ok (.iconst 1, 1) := by decide +kernel
theorem dL_not_14 : decode cL_not 14 = .ok (.ireturn, 1) := by decide +kernel
theorem dL_not_15 : decode cL_not 15 = .ok (.iconst 0, 1) := by decide +kernel
theorem dL_not_16 : decode cL_not 16 = .ok (.ireturn, 1) := by decide +kernel
theorem dL_least_0 : decode cL_least 0 = .ok (.aload_n 2, 1) := by decide +kernel
theorem dL_least_1 : decode cL_least 1 = .ok (.iconst 0, 1) := by decide +kernel
theorem dL_least_2 : decode cL_least 2 = .ok (.aload_n 0, 1) := by decide +kernel
theorem dL_least_3 : decode cL_least 3 = .ok (.iload_n 1, 1) := by decide +kernel
theorem dL_least_4 : decode cL_least 4 = .ok (.invokevirtual 35, 3) := by decide +kernel
theorem dL_least_7 : decode cL_least 7 = .ok (.i2l, 1) := by decide +kernel
theorem dL_least_8 : decode cL_least 8 = .ok (.lastore, 1) := by decide +kernel
theorem dL_least_9 : decode cL_least 9 = .ok (.goto 6, 3) := by decide +kernel
theorem dL_least_12 : decode cL_least 12 = .ok (.astore_n 3, 1) := by decide +kernel
theorem dL_least_13 : decode cL_least 13 = .ok (.iconst 1, 1) := by decide +kernel
theorem dL_least_14 : decode cL_least 14 = .ok (.ireturn, 1) := by decide +kernel
theorem dL_least_15 : decode cL_least 15 = .ok (.iconst 0, 1) := by decide +kernel
theorem dL_least_16 : decode cL_least 16 = .ok (.ireturn, 1) := by decide +kernel
theorem dL_greatest_0 : decode cL_greatest 0 = .ok (.aload_n 2, 1) := by decide +kernel
theorem dL_greatest_1 : decode cL_greatest 1 = .ok (.iconst 0, 1) := by decide +kernel
theorem dL_greatest_2 : decode cL_greatest 2 = .ok (.aload_n 0, 1) := by decide +kernel
theorem dL_greatest_3 : decode cL_greatest 3 = .ok (.iload_n 1, 1) := by decide +kernel
theorem dL_greatest_4 : decode cL_greatest 4 = .ok (.invokevirtual 38, 3) := by decide +kernel
theorem dL_greatest_7 : decode cL_greatest 7 = .ok (.i2l, 1) := by decide +kernel
theorem dL_greatest_8 : decode cL_greatest 8 = .ok (.lastore, 1) := by decide +kernel
theorem dL_greatest_9 : decode cL_greatest 9 = .ok (.goto 6, 3) := by decide +kernel
theorem dL_greatest_12 : decode cL_greatest 12 = .ok (.astore_n 3, 1) := by decide +kernel
theorem dL_greatest_13 : decode cL_greatest 13 = .ok (.iconst 1, 1) := by decide +kernel
theorem dL_greatest_14 : decode cL_greatest 14 = .ok (.ireturn, 1) := by decide +kernel
theorem dL_greatest_15 : decode cL_greatest 15 = .ok (.iconst 0, 1) := by decide +kernel
theorem dL_greatest_16 : decode cL_greatest 16 = .ok (.ireturn, 1) := by decide +kernel
theorem dL_octet_0 : decode cL_octet 0 = .ok (.aload_n 2, 1) := by decide +kernel
theorem dL_octet_1 : decode cL_octet 1 = .ok (.iconst 0, 1) := by decide +kernel
theorem dL_octet_2 : decode cL_octet 2 = .ok (.aload_n 0, 1) := by decide +kernel
theorem dL_octet_3 : decode cL_octet 3 = .ok (.iload_n 1, 1) := by decide +kernel
theorem dL_octet_4 : decode cL_octet 4 = .ok (.invokevirtual 41, 3) := by decide +kernel
theorem dL_octet_7 : decode cL_octet 7 = .ok (.i2l, 1) := by decide +kernel
theorem dL_octet_8 : decode cL_octet 8 = .ok (.lastore, 1) := by decide +kernel
theorem dL_octet_9 : decode cL_octet 9 = .ok (.goto 6, 3) := by decide +kernel
theorem dL_octet_12 : decode cL_octet 12 = .ok (.astore_n 3, 1) := by decide +kernel
theorem dL_octet_13 : decode cL_octet 13 = .ok (.iconst 1, 1) := by decide +kernel
theorem dL_octet_14 : decode cL_octet 14 = .ok (.ireturn, 1) := by decide +kernel
theorem dL_octet_15 : decode cL_octet 15 = .ok (.iconst 0, 1) := by decide +kernel
theorem dL_octet_16 : decode cL_octet 16 = .ok (.ireturn, 1) := by decide +kernel
