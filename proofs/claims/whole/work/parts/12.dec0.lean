theorem dX0_init_0 : decode cX0_init 0 = .ok (.aload_n 0, 1) := by decide +kernel
theorem dX0_init_1 : decode cX0_init 1 = .ok (.invokespecial 3, 3) := by decide +kernel
theorem dX0_init_4 : decode cX0_init 4 = .ok (.aload_n 0, 1) := by decide +kernel
theorem dX0_init_5 : decode cX0_init 5 = .ok (.bipush 16, 2) := by decide +kernel
theorem dX0_init_7 : decode cX0_init 7 = .ok (.newarray .int, 2) := by decide +kernel
theorem dX0_init_9 : decode cX0_init 9 = .ok (.putfield 11, 3) := by decide +kernel
theorem dX0_init_12 : decode cX0_init 12 = .ok (.aload_n 0, 1) := by decide +kernel
theorem dX0_init_13 : decode cX0_init 13 = .ok (.bipush 16, 2) := by decide +kernel
theorem dX0_init_15 : decode cX0_init 15 = .ok (.newarray .int, 2) := by decide +kernel
theorem dX0_init_17 : decode cX0_init 17 = .ok (.putfield 15, 3) := by decide +kernel
theorem dX0_init_20 : decode cX0_init 20 = .ok (.aload_n 0, 1) := by decide +kernel
theorem dX0_init_21 : decode cX0_init 21 = .ok (.sipush 256, 3) := by decide +kernel
theorem dX0_init_24 : decode cX0_init 24 = .ok (.newarray .int, 2) := by decide +kernel
theorem dX0_init_26 : decode cX0_init 26 = .ok (.putfield 18, 3) := by decide +kernel
theorem dX0_init_29 : decode cX0_init 29 = .ok (.return_, 1) := by decide +kernel
theorem dX0_set_0 : decode cX0_set 0 = .ok (.iload_n 1, 1) := by decide +kernel
theorem dX0_set_1 : decode cX0_set 1 = .ok (.invokestatic 21, 3) := by decide +kernel
theorem dX0_set_4 : decode cX0_set 4 = .ok (.aload_n 0, 1) := by decide +kernel
theorem dX0_set_5 : decode cX0_set 5 = .ok (.getfield 11, 3) := by decide +kernel
theorem dX0_set_8 : decode cX0_set 8 = .ok (.iload_n 1, 1) := by decide +kernel
theorem dX0_set_9 : decode cX0_set 9 = .ok (.iload_n 2, 1) := by decide +kernel
theorem dX0_set_10 : decode cX0_set 10 = .ok (.iastore, 1) := by decide +kernel
theorem dX0_set_11 : decode cX0_set 11 = .ok (.aload_n 0, 1) := by decide +kernel
theorem dX0_set_12 : decode cX0_set 12 = .ok (.getfield 15, 3) := by decide +kernel
theorem dX0_set_15 : decode cX0_set 15 = .ok (.iload_n 1, 1) := by decide +kernel
theorem dX0_set_16 : decode cX0_set 16 = .ok (.iload_n 3, 1) := by decide +kernel
theorem dX0_set_17 : decode cX0_set 17 = .ok (.iastore, 1) := by decide +kernel
theorem dX0_set_18 : decode cX0_set 18 = .ok (.return_, 1) := by decide +kernel
theorem dX0_op_0 : decode cX0_op 0 = .ok (.iload_n 1, 1) := by decide +kernel
theorem dX0_op_1 : decode cX0_op 1 = .ok (.ifCond .lt 9, 3) := by decide +kernel
theorem dX0_op_4 : decode cX0_op 4 = .ok (.iload_n 1, 1) := by decide +kernel
theorem dX0_op_5 : decode cX0_op 5 = .ok (.bipush 12, 2) := by decide +kernel
theorem dX0_op_7 : decode cX0_op 7 = .ok (.if_icmp .le 11, 3) := by decide +kernel
theorem dX0_op_10 : decode cX0_op 10 = .ok (.new 25, 3) := by decide +kernel
theorem dX0_op_13 : decode cX0_op 13 = .ok (.dup, 1) := by decide +kernel
theorem dX0_op_14 : decode cX0_op 14 = .ok (.invokespecial 27, 3) := by decide +kernel
theorem dX0_op_17 : decode cX0_op 17 = .ok (.athrow, 1) := by decide +kernel
theorem dX0_op_18 : decode cX0_op 18 = .ok (.iload_n 2, 1) := by decide +kernel
theorem dX0_op_19 : decode cX0_op 19 = .ok (.invokestatic 21, 3) := by decide +kernel
theorem dX0_op_22 : decode cX0_op 22 = .ok (.iload_n 3, 1) := by decide +kernel
theorem dX0_op_23 : decode cX0_op 23 = .ok (.invokestatic 21, 3) := by decide +kernel
theorem dX0_op_26 : decode cX0_op 26 = .ok (.iload 4, 2) := by decide +kernel
theorem dX0_op_28 : decode cX0_op 28 = .ok (.invokestatic 21, 3) := by decide +kernel
theorem dX0_op_31 : decode cX0_op 31 = .ok (.aload_n 0, 1) := by decide +kernel
theorem dX0_op_32 : decode cX0_op 32 = .ok (.iload_n 1, 1) := by decide +kernel
theorem dX0_op_33 : decode cX0_op 33 = .ok (.iload_n 2, 1) := by decide +kernel
theorem dX0_op_34 : decode cX0_op 34 = .ok (.iload_n 3, 1) := by decide +kernel
theorem dX0_op_35 : decode cX0_op 35 = .ok (.iload 4, 2) := by decide +kernel
theorem dX0_op_37 : decode cX0_op 37 = .ok (.invokevirtual 28, 3) := by decide +kernel
theorem dX0_op_40 : decode cX0_op 40 = .ok (.istore 5, 2) := by decide +kernel
theorem dX0_op_42 : decode cX0_op 42 = .ok (.aload_n 0, 1) := by decide +kernel
theorem dX0_op_43 : decode cX0_op 43 = .ok (.iload_n 1, 1) := by decide +kernel
theorem dX0_op_44 : decode cX0_op 44 = .ok (.iload_n 2, 1) := by decide +kernel
theorem dX0_op_45 : decode cX0_op 45 = .ok (.iload_n 3, 1) := by decide +kernel
theorem dX0_op_46 : decode cX0_op 46 = .ok (.iload 4, 2) := by decide +kernel
theorem dX0_op_48 : decode cX0_op 48 = .ok (.invokevirtual 32, 3) := by decide +kernel
theorem dX0_op_51 : decode cX0_op 51 = .ok (.istore 6, 2) := by decide +kernel
theorem dX0_op_53 : decode cX0_op 53 = .ok (.aload_n 0, 1) := by decide +kernel
theorem dX0_op_54 : decode cX0_op 54 = .ok (.getfield 11, 3) := by decide +kernel
theorem dX0_op_57 : decode cX0_op 57 = .ok (.iload_n 2, 1) := by decide +kernel
theorem dX0_op_58 : decode cX0_op 58 = .ok (.iload 5, 2) := by decide +kernel
theorem dX0_op_60 : decode cX0_op 60 = .ok (.iastore, 1) := by decide +kernel
theorem dX0_op_61 : decode cX0_op 61 = .ok (.aload_n 0, 1) := by decide +kernel
theorem dX0_op_62 : decode cX0_op 62 = .ok (.getfield 15, 3) := by decide +kernel
theorem dX0_op_65 : decode cX0_op 65 = .ok (.iload_n 2, 1) := by decide +kernel
theorem dX0_op_66 : decode cX0_op 66 = .ok (.iload 6, 2) := by decide +kernel
theorem dX0_op_68 : decode cX0_op 68 = .ok (.iastore, 1) := by decide +kernel
theorem dX0_op_69 : decode cX0_op 69 = .ok (.return_, 1) := by decide +kernel
theorem dX0_store_0 : decode cX0_store 0 = .ok (.iload_n 1, 1) := by decide +kernel
theorem dX0_store_1 : decode cX0_store 1 = .ok (.iload_n 2, 1) := by decide +kernel
theorem dX0_store_2 : decode cX0_store 2 = .ok (.iload_n 3, 1) := by decide +kernel
theorem dX0_store_3 : decode cX0_store 3 = .ok (.invokestatic 35, 3) := by decide +kernel
theorem dX0_store_6 : decode cX0_store 6 = .ok (.iconst 0, 1) := by decide +kernel
theorem dX0_store_7 : decode cX0_store 7 = .ok (.istore 4, 2) := by decide +kernel
theorem dX0_store_9 : decode cX0_store 9 = .ok (.iload 4, 2) := by decide +kernel
theorem dX0_store_11 : decode cX0_store 11 = .ok (.iload_n 3, 1) := by decide +kernel
theorem dX0_store_12 : decode cX0_store 12 = .ok (.if_icmp .ge 63, 3) := by decide +kernel
theorem dX0_store_15 : decode cX0_store 15 = .ok (.iload 4, 2) := by decide +kernel
theorem dX0_store_17 : decode cX0_store 17 = .ok (.bipush 8, 2) := by decide +kernel
theorem dX0_store_19 : decode cX0_store 19 = .ok (.imul, 1) := by decide +kernel
theorem dX0_store_20 : decode cX0_store 20 = .ok (.istore 5, 2) := by decide +kernel
theorem dX0_store_22 : decode cX0_store 22 = .ok (.aload_n 0, 1) := by decide +kernel
theorem dX0_store_23 : decode cX0_store 23 = .ok (.getfield 11, 3) := by decide +kernel
theorem dX0_store_26 : decode cX0_store 26 = .ok (.iload_n 1, 1) := by decide +kernel
theorem dX0_store_27 : decode cX0_store 27 = .ok (.iaload, 1) := by decide +kernel
theorem dX0_store_28 : decode cX0_store 28 = .ok (.iload 5, 2) := by decide +kernel
theorem dX0_store_30 : decode cX0_store 30 = .ok (.iushr, 1) := by decide +kernel
theorem dX0_store_31 : decode cX0_store 31 = .ok (.sipush 255, 3) := by decide +kernel
theorem dX0_store_34 : decode cX0_store 34 = .ok (.iand, 1) := by decide +kernel
theorem dX0_store_35 : decode cX0_store 35 = .ok (.istore 6, 2) := by decide +kernel
theorem dX0_store_37 : decode cX0_store 37 = .ok (.aload_n 0, 1) := by decide +kernel
theorem dX0_store_38 : decode cX0_store 38 = .ok (.getfield 15, 3) := by decide +kernel
theorem dX0_store_41 : decode cX0_store 41 = .ok (.iload_n 1, 1) := by decide +kernel
theorem dX0_store_42 : decode cX0_store 42 = .ok (.iaload, 1) := by decide +kernel
theorem dX0_store_43 : decode cX0_store 43 = .ok (.iload 5, 2) := by decide +kernel
theorem dX0_store_45 : decode cX0_store 45 = .ok (.iushr, 1) := by decide +kernel
theorem dX0_store_46 : decode cX0_store 46 = .ok (.sipush 255, 3) := by decide +kernel
theorem dX0_store_49 : decode cX0_store 49 = .ok (.iand, 1) := by decide +kernel
theorem dX0_store_50 : decode cX0_store 50 = .ok (.istore 7, 2) := by decide +kernel
theorem dX0_store_52 : decode cX0_store 52 = .ok (.aload_n 0, 1) := by decide +kernel
theorem dX0_store_53 : decode cX0_store 53 = .ok (.getfield 18, 3) := by decide +kernel
theorem dX0_store_56 : decode cX0_store 56 = .ok (.iload_n 2, 1) := by decide +kernel
theorem dX0_store_57 : decode cX0_store 57 = .ok (.iload 4, 2) := by decide +kernel
theorem dX0_store_59 : decode cX0_store 59 = .ok (.iadd, 1) := by decide +kernel
theorem dX0_store_60 : decode cX0_store 60 = .ok (.iload 7, 2) := by decide +kernel
theorem dX0_store_62 : decode cX0_store 62 = .ok (.bipush 8, 2) := by decide +kernel
theorem dX0_store_64 : decode cX0_store 64 = .ok (.ishl, 1) := by decide +kernel
theorem dX0_store_65 : decode cX0_store 65 = .ok (.iload 6, 2) := by decide +kernel
theorem dX0_store_67 : decode cX0_store 67 = .ok (.ior, 1) := by decide +kernel
theorem dX0_store_68 : decode cX0_store 68 = .ok (.iastore, 1) := by decide +kernel
theorem dX0_store_69 : decode cX0_store 69 = .ok (.iinc 4 1, 3) := by decide +kernel
theorem dX0_store_72 : decode cX0_store 72 = .ok (.goto (-63), 3) := by decide +kernel
theorem dX0_store_75 : decode cX0_store 75 = .ok (.return_, 1) := by decide +kernel
theorem dX0_load_0 : decode cX0_load 0 = .ok (.iload_n 1, 1) := by decide +kernel
theorem dX0_load_1 : decode cX0_load 1 = .ok (.iload_n 2, 1) := by decide +kernel
theorem dX0_load_2 : decode cX0_load 2 = .ok (.iload_n 3, 1) := by decide +kernel
theorem dX0_load_3 : decode cX0_load 3 = .ok (.invokestatic 35, 3) := by decide +kernel
theorem dX0_load_6 : decode cX0_load 6 = .ok (.iconst 0, 1) := by decide +kernel
theorem dX0_load_7 : decode cX0_load 7 = .ok (.istore 5, 2) := by decide +kernel
theorem dX0_load_9 : decode cX0_load 9 = .ok (.iconst 0, 1) := by decide +kernel
theorem dX0_load_10 : decode cX0_load 10 = .ok (.istore 6, 2) := by decide +kernel
theorem dX0_load_12 : decode cX0_load 12 = .ok (.iconst 0, 1) := by decide +kernel
theorem dX0_load_13 : decode cX0_load 13 = .ok (.istore 7, 2) := by decide +kernel
theorem dX0_load_15 : decode cX0_load 15 = .ok (.iload 7, 2) := by decide +kernel
theorem dX0_load_17 : decode cX0_load 17 = .ok (.iload_n 3, 1) := by decide +kernel
theorem dX0_load_18 : decode cX0_load 18 = .ok (.if_icmp .ge 57, 3) := by decide +kernel
theorem dX0_load_21 : decode cX0_load 21 = .ok (.iload 7, 2) := by decide +kernel
theorem dX0_load_23 : decode cX0_load 23 = .ok (.bipush 8, 2) := by decide +kernel
theorem dX0_load_25 : decode cX0_load 25 = .ok (.imul, 1) := by decide +kernel
theorem dX0_load_26 : decode cX0_load 26 = .ok (.istore 8, 2) := by decide +kernel
theorem dX0_load_28 : decode cX0_load 28 = .ok (.iload 5, 2) := by decide +kernel
theorem dX0_load_30 : decode cX0_load 30 = .ok (.aload_n 0, 1) := by decide +kernel
theorem dX0_load_31 : decode cX0_load 31 = .ok (.getfield 18, 3) := by decide +kernel
theorem dX0_load_34 : decode cX0_load 34 = .ok (.iload_n 2, 1) := by decide +kernel
theorem dX0_load_35 : decode cX0_load 35 = .ok (.iload 7, 2) := by decide +kernel
theorem dX0_load_37 : decode cX0_load 37 = .ok (.iadd, 1) := by decide +kernel
theorem dX0_load_38 : decode cX0_load 38 = .ok (.iaload, 1) := by decide +kernel
theorem dX0_load_39 : decode cX0_load 39 = .ok (.sipush 255, 3) := by decide +kernel
theorem dX0_load_42 : decode cX0_load 42 = .ok (.iand, 1) := by decide +kernel
theorem dX0_load_43 : decode cX0_load 43 = .ok (.iload 8, 2) := by decide +kernel
theorem dX0_load_45 : decode cX0_load 45 = .ok (.ishl, 1) := by decide +kernel
theorem dX0_load_46 : decode cX0_load 46 = .ok (.ior, 1) := by decide +kernel
theorem dX0_load_47 : decode cX0_load 47 = .ok (.istore 5, 2) := by decide +kernel
theorem dX0_load_49 : decode cX0_load 49 = .ok (.iload 6, 2) := by decide +kernel
theorem dX0_load_51 : decode cX0_load 51 = .ok (.aload_n 0, 1) := by decide +kernel
theorem dX0_load_52 : decode cX0_load 52 = .ok (.getfield 18, 3) := by decide +kernel
theorem dX0_load_55 : decode cX0_load 55 = .ok (.iload_n 2, 1) := by decide +kernel
theorem dX0_load_56 : decode cX0_load 56 = .ok (.iload 7, 2) := by decide +kernel
theorem dX0_load_58 : decode cX0_load 58 = .ok (.iadd, 1) := by decide +kernel
theorem dX0_load_59 : decode cX0_load 59 = .ok (.iaload, 1) := by decide +kernel
theorem dX0_load_60 : decode cX0_load 60 = .ok (.bipush 8, 2) := by decide +kernel
theorem dX0_load_62 : decode cX0_load 62 = .ok (.iushr, 1) := by decide +kernel
theorem dX0_load_63 : decode cX0_load 63 = .ok (.iload 8, 2) := by decide +kernel
theorem dX0_load_65 : decode cX0_load 65 = .ok (.ishl, 1) := by decide +kernel
theorem dX0_load_66 : decode cX0_load 66 = .ok (.ior, 1) := by decide +kernel
theorem dX0_load_67 : decode cX0_load 67 = .ok (.istore 6, 2) := by decide +kernel
theorem dX0_load_69 : decode cX0_load 69 = .ok (.iinc 7 1, 3) := by decide +kernel
theorem dX0_load_72 : decode cX0_load 72 = .ok (.goto (-57), 3) := by decide +kernel
theorem dX0_load_75 : decode cX0_load 75 = .ok (.aload_n 0, 1) := by decide +kernel
theorem dX0_load_76 : decode cX0_load 76 = .ok (.getfield 11, 3) := by decide +kernel
theorem dX0_load_79 : decode cX0_load 79 = .ok (.iload_n 1, 1) := by decide +kernel
theorem dX0_load_80 : decode cX0_load 80 = .ok (.iload 5, 2) := by decide +kernel
theorem dX0_load_82 : decode cX0_load 82 = .ok (.iload_n 3, 1) := by decide +kernel
theorem dX0_load_83 : decode cX0_load 83 = .ok (.iload 4, 2) := by decide +kernel
theorem dX0_load_85 : decode cX0_load 85 = .ok (.invokestatic 39, 3) := by decide +kernel
theorem dX0_load_88 : decode cX0_load 88 = .ok (.iastore, 1) := by decide +kernel
theorem dX0_load_89 : decode cX0_load 89 = .ok (.aload_n 0, 1) := by decide +kernel
theorem dX0_load_90 : decode cX0_load 90 = .ok (.getfield 15, 3) := by decide +kernel
theorem dX0_load_93 : decode cX0_load 93 = .ok (.iload_n 1, 1) := by decide +kernel
theorem dX0_load_94 : decode cX0_load 94 = .ok (.iload 6, 2) := by decide +kernel
theorem dX0_load_96 : decode cX0_load 96 = .ok (.iload_n 3, 1) := by decide +kernel
theorem dX0_load_97 : decode cX0_load 97 = .ok (.iload 4, 2) := by decide +kernel
theorem dX0_load_99 : decode cX0_load 99 = .ok (.invokestatic 39, 3) := by decide +kernel
theorem dX0_load_102 : decode cX0_load 102 = .ok (.iastore, 1) := by decide +kernel
theorem dX0_load_103 : decode cX0_load 103 = .ok (.return_, 1) := by decide +kernel
theorem dX0_value_0 : decode cX0_value 0 = .ok (.iload_n 1, 1) := by decide +kernel
theorem dX0_value_1 : decode cX0_value 1 = .ok (.invokestatic 21, 3) := by decide +kernel
theorem dX0_value_4 : decode cX0_value 4 = .ok (.aload_n 0, 1) := by decide +kernel
theorem dX0_value_5 : decode cX0_value 5 = .ok (.getfield 11, 3) := by decide +kernel
theorem dX0_value_8 : decode cX0_value 8 = .ok (.iload_n 1, 1) := by decide +kernel
theorem dX0_value_9 : decode cX0_value 9 = .ok (.iaload, 1) := by decide +kernel
theorem dX0_value_10 : decode cX0_value 10 = .ok (.ireturn, 1) := by decide +kernel
theorem dX0_not_0 : decode cX0_not 0 = .ok (.iload_n 1, 1) := by decide +kernel
theorem dX0_not_1 : decode cX0_not 1 = .ok (.invokestatic 21, 3) := by decide +kernel
theorem dX0_not_4 : decode cX0_not 4 = .ok (.aload_n 0, 1) := by decide +kernel
theorem dX0_not_5 : decode cX0_not 5 = .ok (.getfield 15, 3) := by decide +kernel
theorem dX0_not_8 : decode cX0_not 8 = .ok (.iload_n 1, 1) := by decide +kernel
theorem dX0_not_9 : decode cX0_not 9 = .ok (.iaload, 1) := by decide +kernel
theorem dX0_not_10 : decode cX0_not 10 = .ok (.ireturn, 1) := by decide +kernel
theorem dX0_least_0 : decode cX0_least 0 = .ok (.iload_n 1, 1) := by decide +kernel
theorem dX0_least_1 : decode cX0_least 1 = .ok (.invokestatic 21, 3) := by decide +kernel
theorem dX0_least_4 : decode cX0_least 4 = .ok (.aload_n 0, 1) := by decide +kernel
theorem dX0_least_5 : decode cX0_least 5 = .ok (.getfield 11, 3) := by decide +kernel
theorem dX0_least_8 : decode cX0_least 8 = .ok (.iload_n 1, 1) := by decide +kernel
theorem dX0_least_9 : decode cX0_least 9 = .ok (.iaload, 1) := by decide +kernel
theorem dX0_least_10 : decode cX0_least 10 = .ok (.aload_n 0, 1) := by decide +kernel
theorem dX0_least_11 : decode cX0_least 11 = .ok (.getfield 15, 3) := by decide +kernel
theorem dX0_least_14 : decode cX0_least 14 = .ok (.iload_n 1, 1) := by decide +kernel
theorem dX0_least_15 : decode cX0_least 15 = .ok (.iaload, 1) := by decide +kernel
theorem dX0_least_16 : decode cX0_least 16 = .ok (.invokestatic 43, 3) := by decide +kernel
theorem dX0_least_19 : decode cX0_least 19 = .ok (.ireturn, 1) := by decide +kernel
theorem dX0_greatest_0 : decode cX0_greatest 0 = .ok (.iload_n 1, 1) := by decide +kernel
theorem dX0_greatest_1 : decode cX0_greatest 1 = .ok (.invokestatic 21, 3) := by decide +kernel
theorem dX0_greatest_4 : decode cX0_greatest 4 = .ok (.aload_n 0, 1) := by decide +kernel
theorem dX0_greatest_5 : decode cX0_greatest 5 = .ok (.getfield 11, 3) := by decide +kernel
theorem dX0_greatest_8 : decode cX0_greatest 8 = .ok (.iload_n 1, 1) := by decide +kernel
theorem dX0_greatest_9 : decode cX0_greatest 9 = .ok (.iaload, 1) := by decide +kernel
theorem dX0_greatest_10 : decode cX0_greatest 10 = .ok (.aload_n 0, 1) := by decide +kernel
theorem dX0_greatest_11 : decode cX0_greatest 11 = .ok (.getfield 15, 3) := by decide +kernel
theorem dX0_greatest_14 : decode cX0_greatest 14 = .ok (.iload_n 1, 1) := by decide +kernel
theorem dX0_greatest_15 : decode cX0_greatest 15 = .ok (.iaload, 1) := by decide +kernel
theorem dX0_greatest_16 : decode cX0_greatest 16 = .ok (.invokestatic 47, 3) := by decide +kernel
theorem dX0_greatest_19 : decode cX0_greatest 19 = .ok (.ireturn, 1) := by decide +kernel
theorem dX0_octet_0 : decode cX0_octet 0 = .ok (.iload_n 1, 1) := by decide +kernel
theorem dX0_octet_1 : decode cX0_octet 1 = .ok (.ifCond .lt 10, 3) := by decide +kernel
theorem dX0_octet_4 : decode cX0_octet 4 = .ok (.iload_n 1, 1) := by decide +kernel
theorem dX0_octet_5 : decode cX0_octet 5 = .ok (.sipush 256, 3) := by decide +kernel
theorem dX0_octet_8 : decode cX0_octet 8 = .ok (.if_icmp .lt 11, 3) := by decide +kernel
theorem dX0_octet_11 : decode cX0_octet 11 = .ok (.new 50, 3) := by decide +kernel
theorem dX0_octet_14 : decode cX0_octet 14 = .ok (.dup, 1) := by decide +kernel
theorem dX0_octet_15 : decode cX0_octet 15 = .ok (.invokespecial 52, 3) := by decide +kernel
theorem dX0_octet_18 : decode cX0_octet 18 = .ok (.athrow, 1) := by decide +kernel
theorem dX0_octet_19 : decode cX0_octet 19 = .ok (.aload_n 0, 1) := by decide +kernel
theorem dX0_octet_20 : decode cX0_octet 20 = .ok (.getfield 18, 3) := by decide +kernel
theorem dX0_octet_23 : decode cX0_octet 23 = .ok (.iload_n 1, 1) := by decide +kernel
theorem dX0_octet_24 : decode cX0_octet 24 = .ok (.iaload, 1) := by decide +kernel
theorem dX0_octet_25 : decode cX0_octet 25 = .ok (.ireturn, 1) := by decide +kernel
theorem dX0_count_0 : decode cX0_count 0 = .ok (.iconst 0, 1) := by decide +kernel
theorem dX0_count_1 : decode cX0_count 1 = .ok (.istore_n 1, 1) := by decide +kernel
theorem dX0_count_2 : decode cX0_count 2 = .ok (.iconst 0, 1) := by decide +kernel
theorem dX0_count_3 : decode cX0_count 3 = .ok (.istore_n 2, 1) := by decide +kernel
theorem dX0_count_4 : decode cX0_count 4 = .ok (.iload_n 2, 1) := by decide +kernel
theorem dX0_count_5 : decode cX0_count 5 = .ok (.bipush 16, 2) := by decide +kernel
theorem dX0_count_7 : decode cX0_count 7 = .ok (.if_icmp .ge 21, 3) := by decide +kernel
theorem dX0_count_10 : decode cX0_count 10 = .ok (.iload_n 1, 1) := by decide +kernel
theorem dX0_count_11 : decode cX0_count 11 = .ok (.aload_n 0, 1) := by decide +kernel
theorem dX0_count_12 : decode cX0_count 12 = .ok (.getfield 15, 3) := by decide +kernel
theorem dX0_count_15 : decode cX0_count 15 = .ok (.iload_n 2, 1) := by decide +kernel
theorem dX0_count_16 : decode cX0_count 16 = .ok (.iaload, 1) := by decide +kernel
theorem dX0_count_17 : decode cX0_count 17 = .ok (.invokestatic 53, 3) := by decide +kernel
theorem dX0_count_20 : decode cX0_count 20 = .ok (.iadd, 1) := by decide +kernel
theorem dX0_count_21 : decode cX0_count 21 = .ok (.istore_n 1, 1) := by decide +kernel
theorem dX0_count_22 : decode cX0_count 22 = .ok (.iinc 2 1, 3) := by decide +kernel
theorem dX0_count_25 : decode cX0_count 25 = .ok (.goto (-21), 3) := by decide +kernel
theorem dX0_count_28 : decode cX0_count 28 = .ok (.iload_n 1, 1) := by decide +kernel
theorem dX0_count_29 : decode cX0_count 29 = .ok (.ireturn, 1) := by decide +kernel
theorem dX0_checkRegister_0 : decode cX0_checkRegister 0 = .ok (.iload_n 0, 1) := by decide +kernel
theorem dX0_checkRegister_1 : decode cX0_checkRegister 1 = .ok (.ifCond .lt 9, 3) := by decide +kernel
theorem dX0_checkRegister_4 : decode cX0_checkRegister 4 = .ok (.iload_n 0, 1) := by decide +kernel
theorem dX0_checkRegister_5 : decode cX0_checkRegister 5 = .ok (.bipush 16, 2) := by decide +kernel
theorem dX0_checkRegister_7 : decode cX0_checkRegister 7 = .ok (.if_icmp .lt 11, 3) := by decide +kernel
theorem dX0_checkRegister_10 : decode cX0_checkRegister 10 = .ok (.new 50, 3) := by decide +kernel
theorem dX0_checkRegister_13 : decode cX0_checkRegister 13 = .ok (.dup, 1) := by decide +kernel
theorem dX0_checkRegister_14 : decode cX0_checkRegister 14 = .ok (.invokespecial 52, 3) := by decide +kernel
theorem dX0_checkRegister_17 : decode cX0_checkRegister 17 = .ok (.athrow, 1) := by decide +kernel
theorem dX0_checkRegister_18 : decode cX0_checkRegister 18 = .ok (.return_, 1) := by decide +kernel
theorem dX0_checkTransfer_0 : decode cX0_checkTransfer 0 = .ok (.iload_n 2, 1) := by decide +kernel
theorem dX0_checkTransfer_1 : decode cX0_checkTransfer 1 = .ok (.iconst 1, 1) := by decide +kernel
theorem dX0_checkTransfer_2 : decode cX0_checkTransfer 2 = .ok (.if_icmp .eq 21, 3) := by decide +kernel
theorem dX0_checkTransfer_5 : decode cX0_checkTransfer 5 = .ok (.iload_n 2, 1) := by decide +kernel
theorem dX0_checkTransfer_6 : decode cX0_checkTransfer 6 = .ok (.iconst 2, 1) := by decide +kernel
theorem dX0_checkTransfer_7 : decode cX0_checkTransfer 7 = .ok (.if_icmp .eq 16, 3) := by decide +kernel
theorem dX0_checkTransfer_10 : decode cX0_checkTransfer 10 = .ok (.iload_n 2, 1) := by decide +kernel
theorem dX0_checkTransfer_11 : decode cX0_checkTransfer 11 = .ok (.iconst 4, 1) := by decide +kernel
theorem dX0_checkTransfer_12 : decode cX0_checkTransfer 12 = .ok (.if_icmp .eq 11, 3) := by decide +kernel
theorem dX0_checkTransfer_15 : decode cX0_checkTransfer 15 = .ok (.new 25, 3) := by decide +kernel
theorem dX0_checkTransfer_18 : decode cX0_checkTransfer 18 = .ok (.dup, 1) := by decide +kernel
theorem dX0_checkTransfer_19 : decode cX0_checkTransfer 19 = .ok (.invokespecial 27, 3) := by decide +kernel
theorem dX0_checkTransfer_22 : decode cX0_checkTransfer 22 = .ok (.athrow, 1) := by decide +kernel
theorem dX0_checkTransfer_23 : decode cX0_checkTransfer 23 = .ok (.iload_n 1, 1) := by decide +kernel
theorem dX0_checkTransfer_24 : decode cX0_checkTransfer 24 = .ok (.ifCond .lt 12, 3) := by decide +kernel
theorem dX0_checkTransfer_27 : decode cX0_checkTransfer 27 = .ok (.iload_n 1, 1) := by decide +kernel
theorem dX0_checkTransfer_28 : decode cX0_checkTransfer 28 = .ok (.sipush 256, 3) := by decide +kernel
theorem dX0_checkTransfer_31 : decode cX0_checkTransfer 31 = .ok (.iload_n 2, 1) := by decide +kernel
theorem dX0_checkTransfer_32 : decode cX0_checkTransfer 32 = .ok (.isub, 1) := by decide +kernel
theorem dX0_checkTransfer_33 : decode cX0_checkTransfer 33 = .ok (.if_icmp .le 11, 3) := by decide +kernel
theorem dX0_checkTransfer_36 : decode cX0_checkTransfer 36 = .ok (.new 50, 3) := by decide +kernel
theorem dX0_checkTransfer_39 : decode cX0_checkTransfer 39 = .ok (.dup, 1) := by decide +kernel
theorem dX0_checkTransfer_40 : decode cX0_checkTransfer 40 = .ok (.invokespecial 52, 3) := by decide +kernel
theorem dX0_checkTransfer_43 : decode cX0_checkTransfer 43 = .ok (.athrow, 1) := by decide +kernel
theorem dX0_checkTransfer_44 : decode cX0_checkTransfer 44 = .ok (.iload_n 0, 1) := by decide +kernel
theorem dX0_checkTransfer_45 : decode cX0_checkTransfer 45 = .ok (.invokestatic 21, 3) := by decide +kernel
theorem dX0_checkTransfer_48 : decode cX0_checkTransfer 48 = .ok (.return_, 1) := by decide +kernel
theorem dX0_valueOf_0 : decode cX0_valueOf 0 = .ok (.aload_n 0, 1) := by decide +kernel
theorem dX0_valueOf_1 : decode cX0_valueOf 1 = .ok (.getfield 11, 3) := by decide +kernel
theorem dX0_valueOf_4 : decode cX0_valueOf 4 = .ok (.iload_n 3, 1) := by decide +kernel
theorem dX0_valueOf_5 : decode cX0_valueOf 5 = .ok (.iaload, 1) := by decide +kernel
theorem dX0_valueOf_6 : decode cX0_valueOf 6 = .ok (.istore 5, 2) := by decide +kernel
theorem dX0_valueOf_8 : decode cX0_valueOf 8 = .ok (.aload_n 0, 1) := by decide +kernel
theorem dX0_valueOf_9 : decode cX0_valueOf 9 = .ok (.getfield 11, 3) := by decide +kernel
theorem dX0_valueOf_12 : decode cX0_valueOf 12 = .ok (.iload 4, 2) := by decide +kernel
theorem dX0_valueOf_14 : decode cX0_valueOf 14 = .ok (.iaload, 1) := by decide +kernel
theorem dX0_valueOf_15 : decode cX0_valueOf 15 = .ok (.istore 6, 2) := by decide +kernel
theorem dX0_valueOf_17 : decode cX0_valueOf 17 = .ok (.iload_n 1, 1) := by decide +kernel
theorem dX0_valueOf_18 : decode cX0_valueOf 18 = .ok (.tableswitch 164 0 11 #[62, 68, 74, 80, 86, 92, 92, 92, 104, 110, 126, 148], 62) := by decide +kernel
theorem dX0_valueOf_80 : decode cX0_valueOf 80 = .ok (.iload 5, 2) := by decide +kernel
theorem dX0_valueOf_82 : decode cX0_valueOf 82 = .ok (.iload 6, 2) := by decide +kernel
theorem dX0_valueOf_84 : decode cX0_valueOf 84 = .ok (.iadd, 1) := by decide +kernel
theorem dX0_valueOf_85 : decode cX0_valueOf 85 = .ok (.ireturn, 1) := by decide +kernel
theorem dX0_valueOf_86 : decode cX0_valueOf 86 = .ok (.iload 5, 2) := by decide +kernel
theorem dX0_valueOf_88 : decode cX0_valueOf 88 = .ok (.iload 6, 2) := by decide +kernel
theorem dX0_valueOf_90 : decode cX0_valueOf 90 = .ok (.isub, 1) := by decide +kernel
theorem dX0_valueOf_91 : decode cX0_valueOf 91 = .ok (.ireturn, 1) := by decide +kernel
theorem dX0_valueOf_92 : decode cX0_valueOf 92 = .ok (.iload 5, 2) := by decide +kernel
theorem dX0_valueOf_94 : decode cX0_valueOf 94 = .ok (.iload 6, 2) := by decide +kernel
theorem dX0_valueOf_96 : decode cX0_valueOf 96 = .ok (.iand, 1) := by decide +kernel
theorem dX0_valueOf_97 : decode cX0_valueOf 97 = .ok (.ireturn, 1) := by decide +kernel
theorem dX0_valueOf_98 : decode cX0_valueOf 98 = .ok (.iload 5, 2) := by decide +kernel
theorem dX0_valueOf_100 : decode cX0_valueOf 100 = .ok (.iload 6, 2) := by decide +kernel
theorem dX0_valueOf_102 : decode cX0_valueOf 102 = .ok (.ior, 1) := by decide +kernel
theorem dX0_valueOf_103 : decode cX0_valueOf 103 = .ok (.ireturn, 1) := by decide +kernel
theorem dX0_valueOf_104 : decode cX0_valueOf 104 = .ok (.iload 5, 2) := by decide +kernel
theorem dX0_valueOf_106 : decode cX0_valueOf 106 = .ok (.iload 6, 2) := by decide +kernel
theorem dX0_valueOf_108 : decode cX0_valueOf 108 = .ok (.ixor, 1) := by decide +kernel
theorem dX0_valueOf_109 : decode cX0_valueOf 109 = .ok (.ireturn, 1) := by decide +kernel
theorem dX0_valueOf_110 : decode cX0_valueOf 110 = .ok (.iload_n 1, 1) := by decide +kernel
theorem dX0_valueOf_111 : decode cX0_valueOf 111 = .ok (.iload 5, 2) := by decide +kernel
theorem dX0_valueOf_113 : decode cX0_valueOf 113 = .ok (.iload 6, 2) := by decide +kernel
theorem dX0_valueOf_115 : decode cX0_valueOf 115 = .ok (.bipush 31, 2) := by decide +kernel
theorem dX0_valueOf_117 : decode cX0_valueOf 117 = .ok (.iand, 1) := by decide +kernel
theorem dX0_valueOf_118 : decode cX0_valueOf 118 = .ok (.invokestatic 57, 3) := by decide +kernel
theorem dX0_valueOf_121 : decode cX0_valueOf 121 = .ok (.ireturn, 1) := by decide +kernel
theorem dX0_valueOf_122 : decode cX0_valueOf 122 = .ok (.iload 5, 2) := by decide +kernel
theorem dX0_valueOf_124 : decode cX0_valueOf 124 = .ok (.iload 6, 2) := by decide +kernel
theorem dX0_valueOf_126 : decode cX0_valueOf 126 = .ok (.imul, 1) := by decide +kernel
theorem dX0_valueOf_127 : decode cX0_valueOf 127 = .ok (.ireturn, 1) := by decide +kernel
theorem dX0_valueOf_128 : decode cX0_valueOf 128 = .ok (.iload 5, 2) := by decide +kernel
theorem dX0_valueOf_130 : decode cX0_valueOf 130 = .ok (.iload 6, 2) := by decide +kernel
theorem dX0_valueOf_132 : decode cX0_valueOf 132 = .ok (.if_icmp .ge 7, 3) := by decide +kernel
theorem dX0_valueOf_135 : decode cX0_valueOf 135 = .ok (.iconst 1, 1) := by decide +kernel
theorem dX0_valueOf_136 : decode cX0_valueOf 136 = .ok (.goto 4, 3) := by decide +kernel
theorem dX0_valueOf_139 : decode cX0_valueOf 139 = .ok (.iconst 0, 1) := by decide +kernel
theorem dX0_valueOf_140 : decode cX0_valueOf 140 = .ok (.invokestatic 61, 3) := by decide +kernel
theorem dX0_valueOf_143 : decode cX0_valueOf 143 = .ok (.ireturn, 1) := by decide +kernel
theorem dX0_valueOf_144 : decode cX0_valueOf 144 = .ok (.iload 5, 2) := by decide +kernel
theorem dX0_valueOf_146 : decode cX0_valueOf 146 = .ok (.invokestatic 65, 3) := by decide +kernel
theorem dX0_valueOf_149 : decode cX0_valueOf 149 = .ok (.iload 6, 2) := by decide +kernel
theorem dX0_valueOf_151 : decode cX0_valueOf 151 = .ok (.invokestatic 65, 3) := by decide +kernel
theorem dX0_valueOf_154 : decode cX0_valueOf 154 = .ok (.if_icmp .ge 7, 3) := by decide +kernel
theorem dX0_valueOf_157 : decode cX0_valueOf 157 = .ok (.iconst 1, 1) := by decide +kernel
theorem dX0_valueOf_158 : decode cX0_valueOf 158 = .ok (.goto 4, 3) := by decide +kernel
theorem dX0_valueOf_161 : decode cX0_valueOf 161 = .ok (.iconst 0, 1) := by decide +kernel
theorem dX0_valueOf_162 : decode cX0_valueOf 162 = .ok (.invokestatic 61, 3) := by decide +kernel
theorem dX0_valueOf_165 : decode cX0_valueOf 165 = .ok (.ireturn, 1) := by decide +kernel
theorem dX0_valueOf_166 : decode cX0_valueOf 166 = .ok (.iload 5, 2) := by decide +kernel
theorem dX0_valueOf_168 : decode cX0_valueOf 168 = .ok (.iload 6, 2) := by decide +kernel
theorem dX0_valueOf_170 : decode cX0_valueOf 170 = .ok (.if_icmp .ne 7, 3) := by decide +kernel
theorem dX0_valueOf_173 : decode cX0_valueOf 173 = .ok (.iconst 1, 1) := by decide +kernel
theorem dX0_valueOf_174 : decode cX0_valueOf 174 = .ok (.goto 4, 3) := by decide +kernel
theorem dX0_valueOf_177 : decode cX0_valueOf 177 = .ok (.iconst 0, 1) := by decide +kernel
theorem dX0_valueOf_178 : decode cX0_valueOf 178 = .ok (.invokestatic 61, 3) := by decide +kernel
theorem dX0_valueOf_181 : decode cX0_valueOf 181 = .ok (.ireturn, 1) := by decide +kernel
theorem dX0_valueOf_182 : decode cX0_valueOf 182 = .ok (.aload_n 0, 1) := by decide +kernel
theorem dX0_valueOf_183 : decode cX0_valueOf 183 = .ok (.iload 4, 2) := by decide +kernel
theorem dX0_valueOf_185 : decode cX0_valueOf 185 = .ok (.invokevirtual 68, 3) := by decide +kernel
theorem dX0_valueOf_188 : decode cX0_valueOf 188 = .ok (.ifCond .eq 8, 3) := by decide +kernel
theorem dX0_valueOf_191 : decode cX0_valueOf 191 = .ok (.iload 5, 2) := by decide +kernel
theorem dX0_valueOf_193 : decode cX0_valueOf 193 = .ok (.goto 9, 3) := by decide +kernel
theorem dX0_valueOf_196 : decode cX0_valueOf 196 = .ok (.aload_n 0, 1) := by decide +kernel
theorem dX0_valueOf_197 : decode cX0_valueOf 197 = .ok (.getfield 11, 3) := by decide +kernel
theorem dX0_valueOf_200 : decode cX0_valueOf 200 = .ok (.iload_n 2, 1) := by decide +kernel
theorem dX0_valueOf_201 : decode cX0_valueOf 201 = .ok (.iaload, 1) := by decide +kernel
theorem dX0_valueOf_202 : decode cX0_valueOf 202 = .ok (.ireturn, 1) := by decide +kernel
theorem dX0_shadowOf_0 : decode cX0_shadowOf 0 = .ok (.aload_n 0, 1) := by decide +kernel
theorem dX0_shadowOf_1 : decode cX0_shadowOf 1 = .ok (.getfield 11, 3) := by decide +kernel
theorem dX0_shadowOf_4 : decode cX0_shadowOf 4 = .ok (.iload_n 3, 1) := by decide +kernel
theorem dX0_shadowOf_5 : decode cX0_shadowOf 5 = .ok (.iaload, 1) := by decide +kernel
theorem dX0_shadowOf_6 : decode cX0_shadowOf 6 = .ok (.istore 5, 2) := by decide +kernel
theorem dX0_shadowOf_8 : decode cX0_shadowOf 8 = .ok (.aload_n 0, 1) := by decide +kernel
theorem dX0_shadowOf_9 : decode cX0_shadowOf 9 = .ok (.getfield 11, 3) := by decide +kernel
theorem dX0_shadowOf_12 : decode cX0_shadowOf 12 = .ok (.iload 4, 2) := by decide +kernel
theorem dX0_shadowOf_14 : decode cX0_shadowOf 14 = .ok (.iaload, 1) := by decide +kernel
theorem dX0_shadowOf_15 : decode cX0_shadowOf 15 = .ok (.istore 6, 2) := by decide +kernel
theorem dX0_shadowOf_17 : decode cX0_shadowOf 17 = .ok (.aload_n 0, 1) := by decide +kernel
theorem dX0_shadowOf_18 : decode cX0_shadowOf 18 = .ok (.getfield 15, 3) := by decide +kernel
theorem dX0_shadowOf_21 : decode cX0_shadowOf 21 = .ok (.iload_n 3, 1) := by decide +kernel
theorem dX0_shadowOf_22 : decode cX0_shadowOf 22 = .ok (.iaload, 1) := by decide +kernel
theorem dX0_shadowOf_23 : decode cX0_shadowOf 23 = .ok (.istore 7, 2) := by decide +kernel
theorem dX0_shadowOf_25 : decode cX0_shadowOf 25 = .ok (.aload_n 0, 1) := by decide +kernel
theorem dX0_shadowOf_26 : decode cX0_shadowOf 26 = .ok (.getfield 15, 3) := by decide +kernel
theorem dX0_shadowOf_29 : decode cX0_shadowOf 29 = .ok (.iload 4, 2) := by decide +kernel
theorem dX0_shadowOf_31 : decode cX0_shadowOf 31 = .ok (.iaload, 1) := by decide +kernel
theorem dX0_shadowOf_32 : decode cX0_shadowOf 32 = .ok (.istore 8, 2) := by decide +kernel
theorem dX0_shadowOf_34 : decode cX0_shadowOf 34 = .ok (.iload_n 1, 1) := by decide +kernel
theorem dX0_shadowOf_35 : decode cX0_shadowOf 35 = .ok (.tableswitch 220 0 11 #[61, 61, 73, 91, 113, 119, 119, 119, 143, 168, 183, 204], 61) := by decide +kernel
theorem dX0_shadowOf_96 : decode cX0_shadowOf 96 = .ok (.iload 7, 2) := by decide +kernel
theorem dX0_shadowOf_98 : decode cX0_shadowOf 98 = .ok (.iload 8, 2) := by decide +kernel
theorem dX0_shadowOf_100 : decode cX0_shadowOf 100 = .ok (.ior, 1) := by decide +kernel
theorem dX0_shadowOf_101 : decode cX0_shadowOf 101 = .ok (.invokestatic 72, 3) := by decide +kernel
theorem dX0_shadowOf_104 : decode cX0_shadowOf 104 = .ok (.invokestatic 75, 3) := by decide +kernel
theorem dX0_shadowOf_107 : decode cX0_shadowOf 107 = .ok (.ireturn, 1) := by decide +kernel
theorem dX0_shadowOf_108 : decode cX0_shadowOf 108 = .ok (.iload 7, 2) := by decide +kernel
theorem dX0_shadowOf_110 : decode cX0_shadowOf 110 = .ok (.iload 8, 2) := by decide +kernel
theorem dX0_shadowOf_112 : decode cX0_shadowOf 112 = .ok (.ior, 1) := by decide +kernel
theorem dX0_shadowOf_113 : decode cX0_shadowOf 113 = .ok (.iload 7, 2) := by decide +kernel
theorem dX0_shadowOf_115 : decode cX0_shadowOf 115 = .ok (.iload 5, 2) := by decide +kernel
theorem dX0_shadowOf_117 : decode cX0_shadowOf 117 = .ok (.ior, 1) := by decide +kernel
theorem dX0_shadowOf_118 : decode cX0_shadowOf 118 = .ok (.iand, 1) := by decide +kernel
theorem dX0_shadowOf_119 : decode cX0_shadowOf 119 = .ok (.iload 8, 2) := by decide +kernel
theorem dX0_shadowOf_121 : decode cX0_shadowOf 121 = .ok (.iload 6, 2) := by decide +kernel
theorem dX0_shadowOf_123 : decode cX0_shadowOf 123 = .ok (.ior, 1) := by decide +kernel
theorem dX0_shadowOf_124 : decode cX0_shadowOf 124 = .ok (.iand, 1) := by decide +kernel
theorem dX0_shadowOf_125 : decode cX0_shadowOf 125 = .ok (.ireturn, 1) := by decide +kernel
theorem dX0_shadowOf_126 : decode cX0_shadowOf 126 = .ok (.iload 7, 2) := by decide +kernel
theorem dX0_shadowOf_128 : decode cX0_shadowOf 128 = .ok (.iload 8, 2) := by decide +kernel
theorem dX0_shadowOf_130 : decode cX0_shadowOf 130 = .ok (.ior, 1) := by decide +kernel
theorem dX0_shadowOf_131 : decode cX0_shadowOf 131 = .ok (.iload 7, 2) := by decide +kernel
theorem dX0_shadowOf_133 : decode cX0_shadowOf 133 = .ok (.iload 5, 2) := by decide +kernel
theorem dX0_shadowOf_135 : decode cX0_shadowOf 135 = .ok (.iconst (-1), 1) := by decide +kernel
theorem dX0_shadowOf_136 : decode cX0_shadowOf 136 = .ok (.ixor, 1) := by decide +kernel
theorem dX0_shadowOf_137 : decode cX0_shadowOf 137 = .ok (.ior, 1) := by decide +kernel
theorem dX0_shadowOf_138 : decode cX0_shadowOf 138 = .ok (.iand, 1) := by decide +kernel
theorem dX0_shadowOf_139 : decode cX0_shadowOf 139 = .ok (.iload 8, 2) := by decide +kernel
theorem dX0_shadowOf_141 : decode cX0_shadowOf 141 = .ok (.iload 6, 2) := by decide +kernel
theorem dX0_shadowOf_143 : decode cX0_shadowOf 143 = .ok (.iconst (-1), 1) := by decide +kernel
theorem dX0_shadowOf_144 : decode cX0_shadowOf 144 = .ok (.ixor, 1) := by decide +kernel
theorem dX0_shadowOf_145 : decode cX0_shadowOf 145 = .ok (.ior, 1) := by decide +kernel
theorem dX0_shadowOf_146 : decode cX0_shadowOf 146 = .ok (.iand, 1) := by decide +kernel
theorem dX0_shadowOf_147 : decode cX0_shadowOf 147 = .ok (.ireturn, 1) := by decide +kernel
theorem dX0_shadowOf_148 : decode cX0_shadowOf 148 = .ok (.iload 7, 2) := by decide +kernel
theorem dX0_shadowOf_150 : decode cX0_shadowOf 150 = .ok (.iload 8, 2) := by decide +kernel
theorem dX0_shadowOf_152 : decode cX0_shadowOf 152 = .ok (.ior, 1) := by decide +kernel
theorem dX0_shadowOf_153 : decode cX0_shadowOf 153 = .ok (.ireturn, 1) := by decide +kernel
theorem dX0_shadowOf_154 : decode cX0_shadowOf 154 = .ok (.iload 8, 2) := by decide +kernel
theorem dX0_shadowOf_156 : decode cX0_shadowOf 156 = .ok (.bipush 31, 2) := by decide +kernel
theorem dX0_shadowOf_158 : decode cX0_shadowOf 158 = .ok (.iand, 1) := by decide +kernel
theorem dX0_shadowOf_159 : decode cX0_shadowOf 159 = .ok (.ifCond .eq 7, 3) := by decide +kernel
theorem dX0_shadowOf_162 : decode cX0_shadowOf 162 = .ok (.iconst (-1), 1) := by decide +kernel
theorem dX0_shadowOf_163 : decode cX0_shadowOf 163 = .ok (.goto 14, 3) := by decide +kernel
theorem dX0_shadowOf_166 : decode cX0_shadowOf 166 = .ok (.iload_n 1, 1) := by decide +kernel
theorem dX0_shadowOf_167 : decode cX0_shadowOf 167 = .ok (.iload 7, 2) := by decide +kernel
theorem dX0_shadowOf_169 : decode cX0_shadowOf 169 = .ok (.iload 6, 2) := by decide +kernel
theorem dX0_shadowOf_171 : decode cX0_shadowOf 171 = .ok (.bipush 31, 2) := by decide +kernel
theorem dX0_shadowOf_173 : decode cX0_shadowOf 173 = .ok (.iand, 1) := by decide +kernel
theorem dX0_shadowOf_174 : decode cX0_shadowOf 174 = .ok (.invokestatic 57, 3) := by decide +kernel
theorem dX0_shadowOf_177 : decode cX0_shadowOf 177 = .ok (.ireturn, 1) := by decide +kernel
theorem dX0_shadowOf_178 : decode cX0_shadowOf 178 = .ok (.iload 7, 2) := by decide +kernel
theorem dX0_shadowOf_180 : decode cX0_shadowOf 180 = .ok (.iload 6, 2) := by decide +kernel
theorem dX0_shadowOf_182 : decode cX0_shadowOf 182 = .ok (.iload 8, 2) := by decide +kernel
theorem dX0_shadowOf_184 : decode cX0_shadowOf 184 = .ok (.invokestatic 78, 3) := by decide +kernel
theorem dX0_shadowOf_187 : decode cX0_shadowOf 187 = .ok (.iload 8, 2) := by decide +kernel
theorem dX0_shadowOf_189 : decode cX0_shadowOf 189 = .ok (.iload 5, 2) := by decide +kernel
theorem dX0_shadowOf_191 : decode cX0_shadowOf 191 = .ok (.iload 7, 2) := by decide +kernel
theorem dX0_shadowOf_193 : decode cX0_shadowOf 193 = .ok (.invokestatic 78, 3) := by decide +kernel
theorem dX0_shadowOf_196 : decode cX0_shadowOf 196 = .ok (.invokestatic 81, 3) := by decide +kernel
theorem dX0_shadowOf_199 : decode cX0_shadowOf 199 = .ok (.invokestatic 75, 3) := by decide +kernel
theorem dX0_shadowOf_202 : decode cX0_shadowOf 202 = .ok (.ireturn, 1) := by decide +kernel
theorem dX0_shadowOf_203 : decode cX0_shadowOf 203 = .ok (.iload 5, 2) := by decide +kernel
theorem dX0_shadowOf_205 : decode cX0_shadowOf 205 = .ok (.iload 7, 2) := by decide +kernel
theorem dX0_shadowOf_207 : decode cX0_shadowOf 207 = .ok (.iload 6, 2) := by decide +kernel
theorem dX0_shadowOf_209 : decode cX0_shadowOf 209 = .ok (.iload 8, 2) := by decide +kernel
theorem dX0_shadowOf_211 : decode cX0_shadowOf 211 = .ok (.invokestatic 86, 3) := by decide +kernel
theorem dX0_shadowOf_214 : decode cX0_shadowOf 214 = .ok (.invokestatic 61, 3) := by decide +kernel
theorem dX0_shadowOf_217 : decode cX0_shadowOf 217 = .ok (.ireturn, 1) := by decide +kernel
theorem dX0_shadowOf_218 : decode cX0_shadowOf 218 = .ok (.iload 5, 2) := by decide +kernel
theorem dX0_shadowOf_220 : decode cX0_shadowOf 220 = .ok (.invokestatic 65, 3) := by decide +kernel
theorem dX0_shadowOf_223 : decode cX0_shadowOf 223 = .ok (.iload 7, 2) := by decide +kernel
theorem dX0_shadowOf_225 : decode cX0_shadowOf 225 = .ok (.iload 6, 2) := by decide +kernel
theorem dX0_shadowOf_227 : decode cX0_shadowOf 227 = .ok (.invokestatic 65, 3) := by decide +kernel
theorem dX0_shadowOf_230 : decode cX0_shadowOf 230 = .ok (.iload 8, 2) := by decide +kernel
theorem dX0_shadowOf_232 : decode cX0_shadowOf 232 = .ok (.invokestatic 86, 3) := by decide +kernel
theorem dX0_shadowOf_235 : decode cX0_shadowOf 235 = .ok (.invokestatic 61, 3) := by decide +kernel
theorem dX0_shadowOf_238 : decode cX0_shadowOf 238 = .ok (.ireturn, 1) := by decide +kernel
theorem dX0_shadowOf_239 : decode cX0_shadowOf 239 = .ok (.iload 5, 2) := by decide +kernel
theorem dX0_shadowOf_241 : decode cX0_shadowOf 241 = .ok (.iload 6, 2) := by decide +kernel
theorem dX0_shadowOf_243 : decode cX0_shadowOf 243 = .ok (.iload 7, 2) := by decide +kernel
theorem dX0_shadowOf_245 : decode cX0_shadowOf 245 = .ok (.iload 8, 2) := by decide +kernel
theorem dX0_shadowOf_247 : decode cX0_shadowOf 247 = .ok (.ior, 1) := by decide +kernel
theorem dX0_shadowOf_248 : decode cX0_shadowOf 248 = .ok (.invokestatic 90, 3) := by decide +kernel
theorem dX0_shadowOf_251 : decode cX0_shadowOf 251 = .ok (.invokestatic 61, 3) := by decide +kernel
theorem dX0_shadowOf_254 : decode cX0_shadowOf 254 = .ok (.ireturn, 1) := by decide +kernel
theorem dX0_shadowOf_255 : decode cX0_shadowOf 255 = .ok (.aload_n 0, 1) := by decide +kernel
theorem dX0_shadowOf_256 : decode cX0_shadowOf 256 = .ok (.iload_n 2, 1) := by decide +kernel
theorem dX0_shadowOf_257 : decode cX0_shadowOf 257 = .ok (.iload_n 3, 1) := by decide +kernel
theorem dX0_shadowOf_258 : decode cX0_shadowOf 258 = .ok (.iload 4, 2) := by decide +kernel
theorem dX0_shadowOf_260 : decode cX0_shadowOf 260 = .ok (.invokevirtual 94, 3) := by decide +kernel
theorem dX0_shadowOf_263 : decode cX0_shadowOf 263 = .ok (.ireturn, 1) := by decide +kernel
theorem dX0_chosen_0 : decode cX0_chosen 0 = .ok (.aload_n 0, 1) := by decide +kernel
theorem dX0_chosen_1 : decode cX0_chosen 1 = .ok (.getfield 11, 3) := by decide +kernel
theorem dX0_chosen_4 : decode cX0_chosen 4 = .ok (.iload_n 1, 1) := by decide +kernel
theorem dX0_chosen_5 : decode cX0_chosen 5 = .ok (.iaload, 1) := by decide +kernel
theorem dX0_chosen_6 : decode cX0_chosen 6 = .ok (.iconst 1, 1) := by decide +kernel
theorem dX0_chosen_7 : decode cX0_chosen 7 = .ok (.iand, 1) := by decide +kernel
theorem dX0_chosen_8 : decode cX0_chosen 8 = .ok (.ifCond .eq 7, 3) := by decide +kernel
theorem dX0_chosen_11 : decode cX0_chosen 11 = .ok (.iconst 1, 1) := by decide +kernel
theorem dX0_chosen_12 : decode cX0_chosen 12 = .ok (.goto 4, 3) := by decide +kernel
theorem dX0_chosen_15 : decode cX0_chosen 15 = .ok (.iconst 0, 1) := by decide +kernel
theorem dX0_chosen_16 : decode cX0_chosen 16 = .ok (.ireturn, 1) := by decide +kernel
theorem dX0_choiceShadow_0 : decode cX0_choiceShadow 0 = .ok (.aload_n 0, 1) := by decide +kernel
theorem dX0_choiceShadow_1 : decode cX0_choiceShadow 1 = .ok (.getfield 15, 3) := by decide +kernel
theorem dX0_choiceShadow_4 : decode cX0_choiceShadow 4 = .ok (.iload_n 3, 1) := by decide +kernel
theorem dX0_choiceShadow_5 : decode cX0_choiceShadow 5 = .ok (.iaload, 1) := by decide +kernel
theorem dX0_choiceShadow_6 : decode cX0_choiceShadow 6 = .ok (.iconst 1, 1) := by decide +kernel
theorem dX0_choiceShadow_7 : decode cX0_choiceShadow 7 = .ok (.iand, 1) := by decide +kernel
theorem dX0_choiceShadow_8 : decode cX0_choiceShadow 8 = .ok (.ifCond .eq 31, 3) := by decide +kernel
theorem dX0_choiceShadow_11 : decode cX0_choiceShadow 11 = .ok (.aload_n 0, 1) := by decide +kernel
theorem dX0_choiceShadow_12 : decode cX0_choiceShadow 12 = .ok (.getfield 15, 3) := by decide +kernel
theorem dX0_choiceShadow_15 : decode cX0_choiceShadow 15 = .ok (.iload_n 2, 1) := by decide +kernel
theorem dX0_choiceShadow_16 : decode cX0_choiceShadow 16 = .ok (.iaload, 1) := by decide +kernel
theorem dX0_choiceShadow_17 : decode cX0_choiceShadow 17 = .ok (.aload_n 0, 1) := by decide +kernel
theorem dX0_choiceShadow_18 : decode cX0_choiceShadow 18 = .ok (.getfield 15, 3) := by decide +kernel
theorem dX0_choiceShadow_21 : decode cX0_choiceShadow 21 = .ok (.iload_n 1, 1) := by decide +kernel
theorem dX0_choiceShadow_22 : decode cX0_choiceShadow 22 = .ok (.iaload, 1) := by decide +kernel
theorem dX0_choiceShadow_23 : decode cX0_choiceShadow 23 = .ok (.ior, 1) := by decide +kernel
theorem dX0_choiceShadow_24 : decode cX0_choiceShadow 24 = .ok (.aload_n 0, 1) := by decide +kernel
theorem dX0_choiceShadow_25 : decode cX0_choiceShadow 25 = .ok (.getfield 11, 3) := by decide +kernel
theorem dX0_choiceShadow_28 : decode cX0_choiceShadow 28 = .ok (.iload_n 2, 1) := by decide +kernel
theorem dX0_choiceShadow_29 : decode cX0_choiceShadow 29 = .ok (.iaload, 1) := by decide +kernel
theorem dX0_choiceShadow_30 : decode cX0_choiceShadow 30 = .ok (.aload_n 0, 1) := by decide +kernel
theorem dX0_choiceShadow_31 : decode cX0_choiceShadow 31 = .ok (.getfield 11, 3) := by decide +kernel
theorem dX0_choiceShadow_34 : decode cX0_choiceShadow 34 = .ok (.iload_n 1, 1) := by decide +kernel
theorem dX0_choiceShadow_35 : decode cX0_choiceShadow 35 = .ok (.iaload, 1) := by decide +kernel
theorem dX0_choiceShadow_36 : decode cX0_choiceShadow 36 = .ok (.ixor, 1) := by decide +kernel
theorem dX0_choiceShadow_37 : decode cX0_choiceShadow 37 = .ok (.ior, 1) := by decide +kernel
theorem dX0_choiceShadow_38 : decode cX0_choiceShadow 38 = .ok (.ireturn, 1) := by decide +kernel
theorem dX0_choiceShadow_39 : decode cX0_choiceShadow 39 = .ok (.aload_n 0, 1) := by decide +kernel
theorem dX0_choiceShadow_40 : decode cX0_choiceShadow 40 = .ok (.iload_n 3, 1) := by decide +kernel
theorem dX0_choiceShadow_41 : decode cX0_choiceShadow 41 = .ok (.invokevirtual 68, 3) := by decide +kernel
theorem dX0_choiceShadow_44 : decode cX0_choiceShadow 44 = .ok (.ifCond .eq 12, 3) := by decide +kernel
theorem dX0_choiceShadow_47 : decode cX0_choiceShadow 47 = .ok (.aload_n 0, 1) := by decide +kernel
theorem dX0_choiceShadow_48 : decode cX0_choiceShadow 48 = .ok (.getfield 15, 3) := by decide +kernel
theorem dX0_choiceShadow_51 : decode cX0_choiceShadow 51 = .ok (.iload_n 2, 1) := by decide +kernel
theorem dX0_choiceShadow_52 : decode cX0_choiceShadow 52 = .ok (.iaload, 1) := by decide +kernel
theorem dX0_choiceShadow_53 : decode cX0_choiceShadow 53 = .ok (.goto 9, 3) := by decide +kernel
theorem dX0_choiceShadow_56 : decode cX0_choiceShadow 56 = .ok (.aload_n 0, 1) := by decide +kernel
theorem dX0_choiceShadow_57 : decode cX0_choiceShadow 57 = .ok (.getfield 15, 3) := by decide +kernel
theorem dX0_choiceShadow_60 : decode cX0_choiceShadow 60 = .ok (.iload_n 1, 1) := by decide +kernel
theorem dX0_choiceShadow_61 : decode cX0_choiceShadow 61 = .ok (.iaload, 1) := by decide +kernel
theorem dX0_choiceShadow_62 : decode cX0_choiceShadow 62 = .ok (.ireturn, 1) := by decide +kernel
theorem dX0_shifted_0 : decode cX0_shifted 0 = .ok (.iload_n 0, 1) := by decide +kernel
theorem dX0_shifted_1 : decode cX0_shifted 1 = .ok (.lookupswitch 35 #[(5, 27), (6, 31)], 27) := by decide +kernel
theorem dX0_shifted_28 : decode cX0_shifted 28 = .ok (.iload_n 1, 1) := by decide +kernel
theorem dX0_shifted_29 : decode cX0_shifted 29 = .ok (.iload_n 2, 1) := by decide +kernel
theorem dX0_shifted_30 : decode cX0_shifted 30 = .ok (.ishl, 1) := by decide +kernel
theorem dX0_shifted_31 : decode cX0_shifted 31 = .ok (.ireturn, 1) := by decide +kernel
theorem dX0_shifted_32 : decode cX0_shifted 32 = .ok (.iload_n 1, 1) := by decide +kernel
theorem dX0_shifted_33 : decode cX0_shifted 33 = .ok (.iload_n 2, 1) := by decide +kernel
theorem dX0_shifted_34 : decode cX0_shifted 34 = .ok (.iushr, 1) := by decide +kernel
theorem dX0_shifted_35 : decode cX0_shifted 35 = .ok (.ireturn, 1) := by decide +kernel
theorem dX0_shifted_36 : decode cX0_shifted 36 = .ok (.iload_n 1, 1) := by decide +kernel
theorem dX0_shifted_37 : decode cX0_shifted 37 = .ok (.iload_n 2, 1) := by decide +kernel
theorem dX0_shifted_38 : decode cX0_shifted 38 = .ok (.ishr, 1) := by decide +kernel
theorem dX0_shifted_39 : decode cX0_shifted 39 = .ok (.ireturn, 1) := by decide +kernel
theorem dX0_widened_0 : decode cX0_widened 0 = .ok (.bipush 32, 2) := by decide +kernel
theorem dX0_widened_2 : decode cX0_widened 2 = .ok (.iload_n 1, 1) := by decide +kernel
theorem dX0_widened_3 : decode cX0_widened 3 = .ok (.bipush 8, 2) := by decide +kernel
theorem dX0_widened_5 : decode cX0_widened 5 = .ok (.imul, 1) := by decide +kernel
theorem dX0_widened_6 : decode cX0_widened 6 = .ok (.isub, 1) := by decide +kernel
theorem dX0_widened_7 : decode cX0_widened 7 = .ok (.istore_n 3, 1) := by decide +kernel
theorem dX0_widened_8 : decode cX0_widened 8 = .ok (.iload_n 2, 1) := by decide +kernel
theorem dX0_widened_9 : decode cX0_widened 9 = .ok (.ifCond .eq 11, 3) := by decide +kernel
theorem dX0_widened_12 : decode cX0_widened 12 = .ok (.iload_n 0, 1) := by decide +kernel
theorem dX0_widened_13 : decode cX0_widened 13 = .ok (.iload_n 3, 1) := by decide +kernel
theorem dX0_widened_14 : decode cX0_widened 14 = .ok (.ishl, 1) := by decide +kernel
theorem dX0_widened_15 : decode cX0_widened 15 = .ok (.iload_n 3, 1) := by decide +kernel
theorem dX0_widened_16 : decode cX0_widened 16 = .ok (.ishr, 1) := by decide +kernel
theorem dX0_widened_17 : decode cX0_widened 17 = .ok (.goto 8, 3) := by decide +kernel
theorem dX0_widened_20 : decode cX0_widened 20 = .ok (.iload_n 0, 1) := by decide +kernel
theorem dX0_widened_21 : decode cX0_widened 21 = .ok (.iload_n 3, 1) := by decide +kernel
theorem dX0_widened_22 : decode cX0_widened 22 = .ok (.ishl, 1) := by decide +kernel
theorem dX0_widened_23 : decode cX0_widened 23 = .ok (.iload_n 3, 1) := by decide +kernel
theorem dX0_widened_24 : decode cX0_widened 24 = .ok (.iushr, 1) := by decide +kernel
theorem dX0_widened_25 : decode cX0_widened 25 = .ok (.ireturn, 1) := by decide +kernel
theorem dX0_fromPlaceOn_0 : decode cX0_fromPlaceOn 0 = .ok (.iload_n 0, 1) := by decide +kernel
theorem dX0_fromPlaceOn_1 : decode cX0_fromPlaceOn 1 = .ok (.bipush 32, 2) := by decide +kernel
theorem dX0_fromPlaceOn_3 : decode cX0_fromPlaceOn 3 = .ok (.if_icmp .lt 7, 3) := by decide +kernel
theorem dX0_fromPlaceOn_6 : decode cX0_fromPlaceOn 6 = .ok (.iconst 0, 1) := by decide +kernel
theorem dX0_fromPlaceOn_7 : decode cX0_fromPlaceOn 7 = .ok (.goto 6, 3) := by decide +kernel
theorem dX0_fromPlaceOn_10 : decode cX0_fromPlaceOn 10 = .ok (.iconst (-1), 1) := by decide +kernel
theorem dX0_fromPlaceOn_11 : decode cX0_fromPlaceOn 11 = .ok (.iload_n 0, 1) := by decide +kernel
theorem dX0_fromPlaceOn_12 : decode cX0_fromPlaceOn 12 = .ok (.ishl, 1) := by decide +kernel
theorem dX0_fromPlaceOn_13 : decode cX0_fromPlaceOn 13 = .ok (.ireturn, 1) := by decide +kernel
theorem dX0_placeLostBy_0 : decode cX0_placeLostBy 0 = .ok (.iload_n 0, 1) := by decide +kernel
theorem dX0_placeLostBy_1 : decode cX0_placeLostBy 1 = .ok (.invokestatic 72, 3) := by decide +kernel
theorem dX0_placeLostBy_4 : decode cX0_placeLostBy 4 = .ok (.iload_n 1, 1) := by decide +kernel
theorem dX0_placeLostBy_5 : decode cX0_placeLostBy 5 = .ok (.iload_n 2, 1) := by decide +kernel
theorem dX0_placeLostBy_6 : decode cX0_placeLostBy 6 = .ok (.ior, 1) := by decide +kernel
theorem dX0_placeLostBy_7 : decode cX0_placeLostBy 7 = .ok (.invokestatic 72, 3) := by decide +kernel
theorem dX0_placeLostBy_10 : decode cX0_placeLostBy 10 = .ok (.iadd, 1) := by decide +kernel
theorem dX0_placeLostBy_11 : decode cX0_placeLostBy 11 = .ok (.ireturn, 1) := by decide +kernel
theorem dX0_signTurned_0 : decode cX0_signTurned 0 = .ok (.iload_n 0, 1) := by decide +kernel
theorem dX0_signTurned_1 : decode cX0_signTurned 1 = .ok (.ldc 97, 2) := by decide +kernel
theorem dX0_signTurned_3 : decode cX0_signTurned 3 = .ok (.ixor, 1) := by decide +kernel
theorem dX0_signTurned_4 : decode cX0_signTurned 4 = .ok (.ireturn, 1) := by decide +kernel
theorem dX0_orderHangs_0 : decode cX0_orderHangs 0 = .ok (.iload_n 0, 1) := by decide +kernel
theorem dX0_orderHangs_1 : decode cX0_orderHangs 1 = .ok (.iload_n 1, 1) := by decide +kernel
theorem dX0_orderHangs_2 : decode cX0_orderHangs 2 = .ok (.invokestatic 43, 3) := by decide +kernel
theorem dX0_orderHangs_5 : decode cX0_orderHangs 5 = .ok (.iload_n 2, 1) := by decide +kernel
theorem dX0_orderHangs_6 : decode cX0_orderHangs 6 = .ok (.iload_n 3, 1) := by decide +kernel
theorem dX0_orderHangs_7 : decode cX0_orderHangs 7 = .ok (.invokestatic 47, 3) := by decide +kernel
theorem dX0_orderHangs_10 : decode cX0_orderHangs 10 = .ok (.if_icmp .ge 7, 3) := by decide +kernel
theorem dX0_orderHangs_13 : decode cX0_orderHangs 13 = .ok (.iconst 1, 1) := by decide +kernel
theorem dX0_orderHangs_14 : decode cX0_orderHangs 14 = .ok (.goto 4, 3) := by decide +kernel
theorem dX0_orderHangs_17 : decode cX0_orderHangs 17 = .ok (.iconst 0, 1) := by decide +kernel
theorem dX0_orderHangs_18 : decode cX0_orderHangs 18 = .ok (.istore 4, 2) := by decide +kernel
theorem dX0_orderHangs_20 : decode cX0_orderHangs 20 = .ok (.iload_n 0, 1) := by decide +kernel
theorem dX0_orderHangs_21 : decode cX0_orderHangs 21 = .ok (.iload_n 1, 1) := by decide +kernel
theorem dX0_orderHangs_22 : decode cX0_orderHangs 22 = .ok (.invokestatic 47, 3) := by decide +kernel
theorem dX0_orderHangs_25 : decode cX0_orderHangs 25 = .ok (.iload_n 2, 1) := by decide +kernel
theorem dX0_orderHangs_26 : decode cX0_orderHangs 26 = .ok (.iload_n 3, 1) := by decide +kernel
theorem dX0_orderHangs_27 : decode cX0_orderHangs 27 = .ok (.invokestatic 43, 3) := by decide +kernel
theorem dX0_orderHangs_30 : decode cX0_orderHangs 30 = .ok (.if_icmp .lt 7, 3) := by decide +kernel
theorem dX0_orderHangs_33 : decode cX0_orderHangs 33 = .ok (.iconst 1, 1) := by decide +kernel
theorem dX0_orderHangs_34 : decode cX0_orderHangs 34 = .ok (.goto 4, 3) := by decide +kernel
theorem dX0_orderHangs_37 : decode cX0_orderHangs 37 = .ok (.iconst 0, 1) := by decide +kernel
theorem dX0_orderHangs_38 : decode cX0_orderHangs 38 = .ok (.istore 5, 2) := by decide +kernel
theorem dX0_orderHangs_40 : decode cX0_orderHangs 40 = .ok (.iload 4, 2) := by decide +kernel
theorem dX0_orderHangs_42 : decode cX0_orderHangs 42 = .ok (.ifCond .eq 12, 3) := by decide +kernel
theorem dX0_orderHangs_45 : decode cX0_orderHangs 45 = .ok (.iload 5, 2) := by decide +kernel
theorem dX0_orderHangs_47 : decode cX0_orderHangs 47 = .ok (.ifCond .eq 7, 3) := by decide +kernel
theorem dX0_orderHangs_50 : decode cX0_orderHangs 50 = .ok (.iconst 1, 1) := by decide +kernel
theorem dX0_orderHangs_51 : decode cX0_orderHangs 51 = .ok (.goto 4, 3) := by decide +kernel
theorem dX0_orderHangs_54 : decode cX0_orderHangs 54 = .ok (.iconst 0, 1) := by decide +kernel
theorem dX0_orderHangs_55 : decode cX0_orderHangs 55 = .ok (.ireturn, 1) := by decide +kernel
theorem dX0_samenessHangs_0 : decode cX0_samenessHangs 0 = .ok (.iload_n 2, 1) := by decide +kernel
theorem dX0_samenessHangs_1 : decode cX0_samenessHangs 1 = .ok (.ifCond .eq 17, 3) := by decide +kernel
theorem dX0_samenessHangs_4 : decode cX0_samenessHangs 4 = .ok (.iload_n 0, 1) := by decide +kernel
theorem dX0_samenessHangs_5 : decode cX0_samenessHangs 5 = .ok (.iload_n 1, 1) := by decide +kernel
theorem dX0_samenessHangs_6 : decode cX0_samenessHangs 6 = .ok (.ixor, 1) := by decide +kernel
theorem dX0_samenessHangs_7 : decode cX0_samenessHangs 7 = .ok (.iload_n 2, 1) := by decide +kernel
theorem dX0_samenessHangs_8 : decode cX0_samenessHangs 8 = .ok (.iconst (-1), 1) := by decide +kernel
theorem dX0_samenessHangs_9 : decode cX0_samenessHangs 9 = .ok (.ixor, 1) := by decide +kernel
theorem dX0_samenessHangs_10 : decode cX0_samenessHangs 10 = .ok (.iand, 1) := by decide +kernel
theorem dX0_samenessHangs_11 : decode cX0_samenessHangs 11 = .ok (.ifCond .ne 7, 3) := by decide +kernel
theorem dX0_samenessHangs_14 : decode cX0_samenessHangs 14 = .ok (.iconst 1, 1) := by decide +kernel
theorem dX0_samenessHangs_15 : decode cX0_samenessHangs 15 = .ok (.goto 4, 3) := by decide +kernel
theorem dX0_samenessHangs_18 : decode cX0_samenessHangs 18 = .ok (.iconst 0, 1) := by decide +kernel
theorem dX0_samenessHangs_19 : decode cX0_samenessHangs 19 = .ok (.ireturn, 1) := by decide +kernel
theorem dX0_lowEnd_0 : decode cX0_lowEnd 0 = .ok (.iload_n 0, 1) := by decide +kernel
theorem dX0_lowEnd_1 : decode cX0_lowEnd 1 = .ok (.iload_n 1, 1) := by decide +kernel
theorem dX0_lowEnd_2 : decode cX0_lowEnd 2 = .ok (.iconst (-1), 1) := by decide +kernel
theorem dX0_lowEnd_3 : decode cX0_lowEnd 3 = .ok (.ixor, 1) := by decide +kernel
theorem dX0_lowEnd_4 : decode cX0_lowEnd 4 = .ok (.iand, 1) := by decide +kernel
theorem dX0_lowEnd_5 : decode cX0_lowEnd 5 = .ok (.iload_n 1, 1) := by decide +kernel
theorem dX0_lowEnd_6 : decode cX0_lowEnd 6 = .ok (.ldc 97, 2) := by decide +kernel
theorem dX0_lowEnd_8 : decode cX0_lowEnd 8 = .ok (.iand, 1) := by decide +kernel
theorem dX0_lowEnd_9 : decode cX0_lowEnd 9 = .ok (.ior, 1) := by decide +kernel
theorem dX0_lowEnd_10 : decode cX0_lowEnd 10 = .ok (.ireturn, 1) := by decide +kernel
theorem dX0_highEnd_0 : decode cX0_highEnd 0 = .ok (.iload_n 0, 1) := by decide +kernel
theorem dX0_highEnd_1 : decode cX0_highEnd 1 = .ok (.iload_n 1, 1) := by decide +kernel
theorem dX0_highEnd_2 : decode cX0_highEnd 2 = .ok (.iconst (-1), 1) := by decide +kernel
theorem dX0_highEnd_3 : decode cX0_highEnd 3 = .ok (.ixor, 1) := by decide +kernel
theorem dX0_highEnd_4 : decode cX0_highEnd 4 = .ok (.iand, 1) := by decide +kernel
theorem dX0_highEnd_5 : decode cX0_highEnd 5 = .ok (.iload_n 1, 1) := by decide +kernel
theorem dX0_highEnd_6 : decode cX0_highEnd 6 = .ok (.ldc 98, 2) := by decide +kernel
theorem dX0_highEnd_8 : decode cX0_highEnd 8 = .ok (.iand, 1) := by decide +kernel
theorem dX0_highEnd_9 : decode cX0_highEnd 9 = .ok (.ior, 1) := by decide +kernel
theorem dX0_highEnd_10 : decode cX0_highEnd 10 = .ok (.ireturn, 1) := by decide +kernel
theorem dX0_bit_0 : decode cX0_bit 0 = .ok (.iload_n 0, 1) := by decide +kernel
theorem dX0_bit_1 : decode cX0_bit 1 = .ok (.ifCond .eq 7, 3) := by decide +kernel
theorem dX0_bit_4 : decode cX0_bit 4 = .ok (.iconst 1, 1) := by decide +kernel
theorem dX0_bit_5 : decode cX0_bit 5 = .ok (.goto 4, 3) := by decide +kernel
theorem dX0_bit_8 : decode cX0_bit 8 = .ok (.iconst 0, 1) := by decide +kernel
theorem dX0_bit_9 : decode cX0_bit 9 = .ok (.ireturn, 1) := by decide +kernel
