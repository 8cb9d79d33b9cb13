theorem dX1_init_0 : decode cX1_init 0 = .ok (.aload_n 0, 1) := by decide +kernel
theorem dX1_init_1 : decode cX1_init 1 = .ok (.invokespecial 1, 3) := by decide +kernel
theorem dX1_init_4 : decode cX1_init 4 = .ok (.aload_n 0, 1) := by decide +kernel
theorem dX1_init_5 : decode cX1_init 5 = .ok (.sipush 512, 3) := by decide +kernel
theorem dX1_init_8 : decode cX1_init 8 = .ok (.newarray .boolean, 2) := by decide +kernel
theorem dX1_init_10 : decode cX1_init 10 = .ok (.putfield 7, 3) := by decide +kernel
theorem dX1_init_13 : decode cX1_init 13 = .ok (.aload_n 0, 1) := by decide +kernel
theorem dX1_init_14 : decode cX1_init 14 = .ok (.sipush 512, 3) := by decide +kernel
theorem dX1_init_17 : decode cX1_init 17 = .ok (.newarray .boolean, 2) := by decide +kernel
theorem dX1_init_19 : decode cX1_init 19 = .ok (.putfield 13, 3) := by decide +kernel
theorem dX1_init_22 : decode cX1_init 22 = .ok (.aload_n 0, 1) := by decide +kernel
theorem dX1_init_23 : decode cX1_init 23 = .ok (.sipush 2048, 3) := by decide +kernel
theorem dX1_init_26 : decode cX1_init 26 = .ok (.newarray .boolean, 2) := by decide +kernel
theorem dX1_init_28 : decode cX1_init 28 = .ok (.putfield 16, 3) := by decide +kernel
theorem dX1_init_31 : decode cX1_init 31 = .ok (.aload_n 0, 1) := by decide +kernel
theorem dX1_init_32 : decode cX1_init 32 = .ok (.sipush 2048, 3) := by decide +kernel
theorem dX1_init_35 : decode cX1_init 35 = .ok (.newarray .boolean, 2) := by decide +kernel
theorem dX1_init_37 : decode cX1_init 37 = .ok (.putfield 19, 3) := by decide +kernel
theorem dX1_init_40 : decode cX1_init 40 = .ok (.aload_n 0, 1) := by decide +kernel
theorem dX1_init_41 : decode cX1_init 41 = .ok (.bipush 32, 2) := by decide +kernel
theorem dX1_init_43 : decode cX1_init 43 = .ok (.newarray .boolean, 2) := by decide +kernel
theorem dX1_init_45 : decode cX1_init 45 = .ok (.putfield 22, 3) := by decide +kernel
theorem dX1_init_48 : decode cX1_init 48 = .ok (.aload_n 0, 1) := by decide +kernel
theorem dX1_init_49 : decode cX1_init 49 = .ok (.bipush 32, 2) := by decide +kernel
theorem dX1_init_51 : decode cX1_init 51 = .ok (.newarray .boolean, 2) := by decide +kernel
theorem dX1_init_53 : decode cX1_init 53 = .ok (.putfield 25, 3) := by decide +kernel
theorem dX1_init_56 : decode cX1_init 56 = .ok (.return_, 1) := by decide +kernel
theorem dX1_thrown_0 : decode cX1_thrown 0 = .ok (.aload_n 0, 1) := by decide +kernel
theorem dX1_thrown_1 : decode cX1_thrown 1 = .ok (.getfield 28, 3) := by decide +kernel
theorem dX1_thrown_4 : decode cX1_thrown 4 = .ok (.ireturn, 1) := by decide +kernel
theorem dX1_fails_0 : decode cX1_fails 0 = .ok (.aload_n 0, 1) := by decide +kernel
theorem dX1_fails_1 : decode cX1_fails 1 = .ok (.iload_n 1, 1) := by decide +kernel
theorem dX1_fails_2 : decode cX1_fails 2 = .ok (.ifCond .eq 7, 3) := by decide +kernel
theorem dX1_fails_5 : decode cX1_fails 5 = .ok (.iload_n 2, 1) := by decide +kernel
theorem dX1_fails_6 : decode cX1_fails 6 = .ok (.goto 4, 3) := by decide +kernel
theorem dX1_fails_9 : decode cX1_fails 9 = .ok (.iconst 0, 1) := by decide +kernel
theorem dX1_fails_10 : decode cX1_fails 10 = .ok (.putfield 28, 3) := by decide +kernel
theorem dX1_fails_13 : decode cX1_fails 13 = .ok (.iload_n 1, 1) := by decide +kernel
theorem dX1_fails_14 : decode cX1_fails 14 = .ok (.ireturn, 1) := by decide +kernel
theorem dX1_none_0 : decode cX1_none 0 = .ok (.iload_n 0, 1) := by decide +kernel
theorem dX1_none_1 : decode cX1_none 1 = .ok (.ifCond .lt 9, 3) := by decide +kernel
theorem dX1_none_4 : decode cX1_none 4 = .ok (.iload_n 0, 1) := by decide +kernel
theorem dX1_none_5 : decode cX1_none 5 = .ok (.bipush 16, 2) := by decide +kernel
theorem dX1_none_7 : decode cX1_none 7 = .ok (.if_icmp .lt 7, 3) := by decide +kernel
theorem dX1_none_10 : decode cX1_none 10 = .ok (.iconst 1, 1) := by decide +kernel
theorem dX1_none_11 : decode cX1_none 11 = .ok (.goto 4, 3) := by decide +kernel
theorem dX1_none_14 : decode cX1_none 14 = .ok (.iconst 0, 1) := by decide +kernel
theorem dX1_none_15 : decode cX1_none 15 = .ok (.ireturn, 1) := by decide +kernel
theorem dX1_number_0 : decode cX1_number 0 = .ok (.iconst 0, 1) := by decide +kernel
theorem dX1_number_1 : decode cX1_number 1 = .ok (.istore_n 2, 1) := by decide +kernel
theorem dX1_number_2 : decode cX1_number 2 = .ok (.iconst 0, 1) := by decide +kernel
theorem dX1_number_3 : decode cX1_number 3 = .ok (.istore_n 3, 1) := by decide +kernel
theorem dX1_number_4 : decode cX1_number 4 = .ok (.iload_n 3, 1) := by decide +kernel
theorem dX1_number_5 : decode cX1_number 5 = .ok (.bipush 32, 2) := by decide +kernel
theorem dX1_number_7 : decode cX1_number 7 = .ok (.if_icmp .ge 29, 3) := by decide +kernel
theorem dX1_number_10 : decode cX1_number 10 = .ok (.aload_n 0, 1) := by decide +kernel
theorem dX1_number_11 : decode cX1_number 11 = .ok (.getfield 7, 3) := by decide +kernel
theorem dX1_number_14 : decode cX1_number 14 = .ok (.bipush 32, 2) := by decide +kernel
theorem dX1_number_16 : decode cX1_number 16 = .ok (.iload_n 1, 1) := by decide +kernel
theorem dX1_number_17 : decode cX1_number 17 = .ok (.imul, 1) := by decide +kernel
theorem dX1_number_18 : decode cX1_number 18 = .ok (.iload_n 3, 1) := by decide +kernel
theorem dX1_number_19 : decode cX1_number 19 = .ok (.iadd, 1) := by decide +kernel
theorem dX1_number_20 : decode cX1_number 20 = .ok (.baload, 1) := by decide +kernel
theorem dX1_number_21 : decode cX1_number 21 = .ok (.ifCond .eq 9, 3) := by decide +kernel
theorem dX1_number_24 : decode cX1_number 24 = .ok (.iload_n 2, 1) := by decide +kernel
theorem dX1_number_25 : decode cX1_number 25 = .ok (.iconst 1, 1) := by decide +kernel
theorem dX1_number_26 : decode cX1_number 26 = .ok (.iload_n 3, 1) := by decide +kernel
theorem dX1_number_27 : decode cX1_number 27 = .ok (.ishl, 1) := by decide +kernel
theorem dX1_number_28 : decode cX1_number 28 = .ok (.ior, 1) := by decide +kernel
theorem dX1_number_29 : decode cX1_number 29 = .ok (.istore_n 2, 1) := by decide +kernel
theorem dX1_number_30 : decode cX1_number 30 = .ok (.iinc 3 1, 3) := by decide +kernel
theorem dX1_number_33 : decode cX1_number 33 = .ok (.goto (-29), 3) := by decide +kernel
theorem dX1_number_36 : decode cX1_number 36 = .ok (.iload_n 2, 1) := by decide +kernel
theorem dX1_number_37 : decode cX1_number 37 = .ok (.ireturn, 1) := by decide +kernel
theorem dX1_give_0 : decode cX1_give 0 = .ok (.iconst 0, 1) := by decide +kernel
theorem dX1_give_1 : decode cX1_give 1 = .ok (.istore_n 2, 1) := by decide +kernel
theorem dX1_give_2 : decode cX1_give 2 = .ok (.iload_n 2, 1) := by decide +kernel
theorem dX1_give_3 : decode cX1_give 3 = .ok (.bipush 32, 2) := by decide +kernel
theorem dX1_give_5 : decode cX1_give 5 = .ok (.if_icmp .ge 43, 3) := by decide +kernel
theorem dX1_give_8 : decode cX1_give 8 = .ok (.aload_n 0, 1) := by decide +kernel
theorem dX1_give_9 : decode cX1_give 9 = .ok (.getfield 7, 3) := by decide +kernel
theorem dX1_give_12 : decode cX1_give 12 = .ok (.bipush 32, 2) := by decide +kernel
theorem dX1_give_14 : decode cX1_give 14 = .ok (.iload_n 1, 1) := by decide +kernel
theorem dX1_give_15 : decode cX1_give 15 = .ok (.imul, 1) := by decide +kernel
theorem dX1_give_16 : decode cX1_give 16 = .ok (.iload_n 2, 1) := by decide +kernel
theorem dX1_give_17 : decode cX1_give 17 = .ok (.iadd, 1) := by decide +kernel
theorem dX1_give_18 : decode cX1_give 18 = .ok (.aload_n 0, 1) := by decide +kernel
theorem dX1_give_19 : decode cX1_give 19 = .ok (.getfield 22, 3) := by decide +kernel
theorem dX1_give_22 : decode cX1_give 22 = .ok (.iload_n 2, 1) := by decide +kernel
theorem dX1_give_23 : decode cX1_give 23 = .ok (.baload, 1) := by decide +kernel
theorem dX1_give_24 : decode cX1_give 24 = .ok (.bastore, 1) := by decide +kernel
theorem dX1_give_25 : decode cX1_give 25 = .ok (.aload_n 0, 1) := by decide +kernel
theorem dX1_give_26 : decode cX1_give 26 = .ok (.getfield 13, 3) := by decide +kernel
theorem dX1_give_29 : decode cX1_give 29 = .ok (.bipush 32, 2) := by decide +kernel
theorem dX1_give_31 : decode cX1_give 31 = .ok (.iload_n 1, 1) := by decide +kernel
theorem dX1_give_32 : decode cX1_give 32 = .ok (.imul, 1) := by decide +kernel
theorem dX1_give_33 : decode cX1_give 33 = .ok (.iload_n 2, 1) := by decide +kernel
theorem dX1_give_34 : decode cX1_give 34 = .ok (.iadd, 1) := by decide +kernel
theorem dX1_give_35 : decode cX1_give 35 = .ok (.aload_n 0, 1) := by decide +kernel
theorem dX1_give_36 : decode cX1_give 36 = .ok (.getfield 25, 3) := by decide +kernel
theorem dX1_give_39 : decode cX1_give 39 = .ok (.iload_n 2, 1) := by decide +kernel
theorem dX1_give_40 : decode cX1_give 40 = .ok (.baload, 1) := by decide +kernel
theorem dX1_give_41 : decode cX1_give 41 = .ok (.bastore, 1) := by decide +kernel
theorem dX1_give_42 : decode cX1_give 42 = .ok (.iinc 2 1, 3) := by decide +kernel
theorem dX1_give_45 : decode cX1_give 45 = .ok (.goto (-43), 3) := by decide +kernel
theorem dX1_give_48 : decode cX1_give 48 = .ok (.return_, 1) := by decide +kernel
theorem dX1_make_0 : decode cX1_make 0 = .ok (.iconst 0, 1) := by decide +kernel
theorem dX1_make_1 : decode cX1_make 1 = .ok (.istore_n 2, 1) := by decide +kernel
theorem dX1_make_2 : decode cX1_make 2 = .ok (.iload_n 2, 1) := by decide +kernel
theorem dX1_make_3 : decode cX1_make 3 = .ok (.bipush 32, 2) := by decide +kernel
theorem dX1_make_5 : decode cX1_make 5 = .ok (.if_icmp .ge 36, 3) := by decide +kernel
theorem dX1_make_8 : decode cX1_make 8 = .ok (.aload_n 0, 1) := by decide +kernel
theorem dX1_make_9 : decode cX1_make 9 = .ok (.getfield 22, 3) := by decide +kernel
theorem dX1_make_12 : decode cX1_make 12 = .ok (.iload_n 2, 1) := by decide +kernel
theorem dX1_make_13 : decode cX1_make 13 = .ok (.iload_n 1, 1) := by decide +kernel
theorem dX1_make_14 : decode cX1_make 14 = .ok (.iload_n 2, 1) := by decide +kernel
theorem dX1_make_15 : decode cX1_make 15 = .ok (.ishr, 1) := by decide +kernel
theorem dX1_make_16 : decode cX1_make 16 = .ok (.iconst 1, 1) := by decide +kernel
theorem dX1_make_17 : decode cX1_make 17 = .ok (.iand, 1) := by decide +kernel
theorem dX1_make_18 : decode cX1_make 18 = .ok (.iconst 1, 1) := by decide +kernel
theorem dX1_make_19 : decode cX1_make 19 = .ok (.if_icmp .ne 7, 3) := by decide +kernel
theorem dX1_make_22 : decode cX1_make 22 = .ok (.iconst 1, 1) := by decide +kernel
theorem dX1_make_23 : decode cX1_make 23 = .ok (.goto 4, 3) := by decide +kernel
theorem dX1_make_26 : decode cX1_make 26 = .ok (.iconst 0, 1) := by decide +kernel
theorem dX1_make_27 : decode cX1_make 27 = .ok (.bastore, 1) := by decide +kernel
theorem dX1_make_28 : decode cX1_make 28 = .ok (.aload_n 0, 1) := by decide +kernel
theorem dX1_make_29 : decode cX1_make 29 = .ok (.getfield 25, 3) := by decide +kernel
theorem dX1_make_32 : decode cX1_make 32 = .ok (.iload_n 2, 1) := by decide +kernel
theorem dX1_make_33 : decode cX1_make 33 = .ok (.iconst 0, 1) := by decide +kernel
theorem dX1_make_34 : decode cX1_make 34 = .ok (.bastore, 1) := by decide +kernel
theorem dX1_make_35 : decode cX1_make 35 = .ok (.iinc 2 1, 3) := by decide +kernel
theorem dX1_make_38 : decode cX1_make 38 = .ok (.goto (-36), 3) := by decide +kernel
theorem dX1_make_41 : decode cX1_make 41 = .ok (.return_, 1) := by decide +kernel
theorem dX1_set_0 : decode cX1_set 0 = .ok (.aload_n 0, 1) := by decide +kernel
theorem dX1_set_1 : decode cX1_set 1 = .ok (.iload_n 1, 1) := by decide +kernel
theorem dX1_set_2 : decode cX1_set 2 = .ok (.invokestatic 32, 3) := by decide +kernel
theorem dX1_set_5 : decode cX1_set 5 = .ok (.iconst 1, 1) := by decide +kernel
theorem dX1_set_6 : decode cX1_set 6 = .ok (.invokevirtual 36, 3) := by decide +kernel
theorem dX1_set_9 : decode cX1_set 9 = .ok (.ifCond .eq 4, 3) := by decide +kernel
theorem dX1_set_12 : decode cX1_set 12 = .ok (.return_, 1) := by decide +kernel
theorem dX1_set_13 : decode cX1_set 13 = .ok (.aload_n 0, 1) := by decide +kernel
theorem dX1_set_14 : decode cX1_set 14 = .ok (.iload_n 2, 1) := by decide +kernel
theorem dX1_set_15 : decode cX1_set 15 = .ok (.invokevirtual 40, 3) := by decide +kernel
theorem dX1_set_18 : decode cX1_set 18 = .ok (.iconst 0, 1) := by decide +kernel
theorem dX1_set_19 : decode cX1_set 19 = .ok (.istore 4, 2) := by decide +kernel
theorem dX1_set_21 : decode cX1_set 21 = .ok (.iload 4, 2) := by decide +kernel
theorem dX1_set_23 : decode cX1_set 23 = .ok (.bipush 32, 2) := by decide +kernel
theorem dX1_set_25 : decode cX1_set 25 = .ok (.if_icmp .ge 31, 3) := by decide +kernel
theorem dX1_set_28 : decode cX1_set 28 = .ok (.aload_n 0, 1) := by decide +kernel
theorem dX1_set_29 : decode cX1_set 29 = .ok (.getfield 25, 3) := by decide +kernel
theorem dX1_set_32 : decode cX1_set 32 = .ok (.iload 4, 2) := by decide +kernel
theorem dX1_set_34 : decode cX1_set 34 = .ok (.iload_n 3, 1) := by decide +kernel
theorem dX1_set_35 : decode cX1_set 35 = .ok (.iload 4, 2) := by decide +kernel
theorem dX1_set_37 : decode cX1_set 37 = .ok (.ishr, 1) := by decide +kernel
theorem dX1_set_38 : decode cX1_set 38 = .ok (.iconst 1, 1) := by decide +kernel
theorem dX1_set_39 : decode cX1_set 39 = .ok (.iand, 1) := by decide +kernel
theorem dX1_set_40 : decode cX1_set 40 = .ok (.iconst 1, 1) := by decide +kernel
theorem dX1_set_41 : decode cX1_set 41 = .ok (.if_icmp .ne 7, 3) := by decide +kernel
theorem dX1_set_44 : decode cX1_set 44 = .ok (.iconst 1, 1) := by decide +kernel
theorem dX1_set_45 : decode cX1_set 45 = .ok (.goto 4, 3) := by decide +kernel
theorem dX1_set_48 : decode cX1_set 48 = .ok (.iconst 0, 1) := by decide +kernel
theorem dX1_set_49 : decode cX1_set 49 = .ok (.bastore, 1) := by decide +kernel
theorem dX1_set_50 : decode cX1_set 50 = .ok (.iinc 4 1, 3) := by decide +kernel
theorem dX1_set_53 : decode cX1_set 53 = .ok (.goto (-32), 3) := by decide +kernel
theorem dX1_set_56 : decode cX1_set 56 = .ok (.aload_n 0, 1) := by decide +kernel
theorem dX1_set_57 : decode cX1_set 57 = .ok (.iload_n 1, 1) := by decide +kernel
theorem dX1_set_58 : decode cX1_set 58 = .ok (.invokevirtual 44, 3) := by decide +kernel
theorem dX1_set_61 : decode cX1_set 61 = .ok (.return_, 1) := by decide +kernel
theorem dX1_is_0 : decode cX1_is 0 = .ok (.aload_n 0, 1) := by decide +kernel
theorem dX1_is_1 : decode cX1_is 1 = .ok (.getfield 7, 3) := by decide +kernel
theorem dX1_is_4 : decode cX1_is 4 = .ok (.bipush 32, 2) := by decide +kernel
theorem dX1_is_6 : decode cX1_is 6 = .ok (.iload_n 1, 1) := by decide +kernel
theorem dX1_is_7 : decode cX1_is 7 = .ok (.imul, 1) := by decide +kernel
theorem dX1_is_8 : decode cX1_is 8 = .ok (.iload_n 2, 1) := by decide +kernel
theorem dX1_is_9 : decode cX1_is 9 = .ok (.iadd, 1) := by decide +kernel
theorem dX1_is_10 : decode cX1_is 10 = .ok (.baload, 1) := by decide +kernel
theorem dX1_is_11 : decode cX1_is 11 = .ok (.ireturn, 1) := by decide +kernel
theorem dX1_un_0 : decode cX1_un 0 = .ok (.aload_n 0, 1) := by decide +kernel
theorem dX1_un_1 : decode cX1_un 1 = .ok (.getfield 13, 3) := by decide +kernel
theorem dX1_un_4 : decode cX1_un 4 = .ok (.bipush 32, 2) := by decide +kernel
theorem dX1_un_6 : decode cX1_un 6 = .ok (.iload_n 1, 1) := by decide +kernel
theorem dX1_un_7 : decode cX1_un 7 = .ok (.imul, 1) := by decide +kernel
theorem dX1_un_8 : decode cX1_un 8 = .ok (.iload_n 2, 1) := by decide +kernel
theorem dX1_un_9 : decode cX1_un 9 = .ok (.iadd, 1) := by decide +kernel
theorem dX1_un_10 : decode cX1_un 10 = .ok (.baload, 1) := by decide +kernel
theorem dX1_un_11 : decode cX1_un 11 = .ok (.ireturn, 1) := by decide +kernel
theorem dX1_lowest_0 : decode cX1_lowest 0 = .ok (.iconst 0, 1) := by decide +kernel
theorem dX1_lowest_1 : decode cX1_lowest 1 = .ok (.istore_n 2, 1) := by decide +kernel
theorem dX1_lowest_2 : decode cX1_lowest 2 = .ok (.iload_n 2, 1) := by decide +kernel
theorem dX1_lowest_3 : decode cX1_lowest 3 = .ok (.bipush 32, 2) := by decide +kernel
theorem dX1_lowest_5 : decode cX1_lowest 5 = .ok (.if_icmp .ge 18, 3) := by decide +kernel
theorem dX1_lowest_8 : decode cX1_lowest 8 = .ok (.aload_n 0, 1) := by decide +kernel
theorem dX1_lowest_9 : decode cX1_lowest 9 = .ok (.iload_n 1, 1) := by decide +kernel
theorem dX1_lowest_10 : decode cX1_lowest 10 = .ok (.iload_n 2, 1) := by decide +kernel
theorem dX1_lowest_11 : decode cX1_lowest 11 = .ok (.invokevirtual 47, 3) := by decide +kernel
theorem dX1_lowest_14 : decode cX1_lowest 14 = .ok (.ifCond .ne 9, 3) := by decide +kernel
theorem dX1_lowest_17 : decode cX1_lowest 17 = .ok (.iinc 2 1, 3) := by decide +kernel
theorem dX1_lowest_20 : decode cX1_lowest 20 = .ok (.goto (-18), 3) := by decide +kernel
theorem dX1_lowest_23 : decode cX1_lowest 23 = .ok (.iload_n 2, 1) := by decide +kernel
theorem dX1_lowest_24 : decode cX1_lowest 24 = .ok (.ireturn, 1) := by decide +kernel
theorem dX1_noughts_0 : decode cX1_noughts 0 = .ok (.iconst 0, 1) := by decide +kernel
theorem dX1_noughts_1 : decode cX1_noughts 1 = .ok (.istore_n 2, 1) := by decide +kernel
theorem dX1_noughts_2 : decode cX1_noughts 2 = .ok (.iload_n 2, 1) := by decide +kernel
theorem dX1_noughts_3 : decode cX1_noughts 3 = .ok (.bipush 32, 2) := by decide +kernel
theorem dX1_noughts_5 : decode cX1_noughts 5 = .ok (.if_icmp .ge 27, 3) := by decide +kernel
theorem dX1_noughts_8 : decode cX1_noughts 8 = .ok (.aload_n 0, 1) := by decide +kernel
theorem dX1_noughts_9 : decode cX1_noughts 9 = .ok (.iload_n 1, 1) := by decide +kernel
theorem dX1_noughts_10 : decode cX1_noughts 10 = .ok (.iload_n 2, 1) := by decide +kernel
theorem dX1_noughts_11 : decode cX1_noughts 11 = .ok (.invokevirtual 47, 3) := by decide +kernel
theorem dX1_noughts_14 : decode cX1_noughts 14 = .ok (.ifCond .ne 18, 3) := by decide +kernel
theorem dX1_noughts_17 : decode cX1_noughts 17 = .ok (.aload_n 0, 1) := by decide +kernel
theorem dX1_noughts_18 : decode cX1_noughts 18 = .ok (.iload_n 1, 1) := by decide +kernel
theorem dX1_noughts_19 : decode cX1_noughts 19 = .ok (.iload_n 2, 1) := by decide +kernel
theorem dX1_noughts_20 : decode cX1_noughts 20 = .ok (.invokevirtual 51, 3) := by decide +kernel
theorem dX1_noughts_23 : decode cX1_noughts 23 = .ok (.ifCond .ne 9, 3) := by decide +kernel
theorem dX1_noughts_26 : decode cX1_noughts 26 = .ok (.iinc 2 1, 3) := by decide +kernel
theorem dX1_noughts_29 : decode cX1_noughts 29 = .ok (.goto (-27), 3) := by decide +kernel
theorem dX1_noughts_32 : decode cX1_noughts 32 = .ok (.iload_n 2, 1) := by decide +kernel
theorem dX1_noughts_33 : decode cX1_noughts 33 = .ok (.ireturn, 1) := by decide +kernel
theorem dX1_from_0 : decode cX1_from 0 = .ok (.iconst 0, 1) := by decide +kernel
theorem dX1_from_1 : decode cX1_from 1 = .ok (.istore_n 2, 1) := by decide +kernel
theorem dX1_from_2 : decode cX1_from 2 = .ok (.iload_n 2, 1) := by decide +kernel
theorem dX1_from_3 : decode cX1_from 3 = .ok (.bipush 32, 2) := by decide +kernel
theorem dX1_from_5 : decode cX1_from 5 = .ok (.if_icmp .ge 25, 3) := by decide +kernel
theorem dX1_from_8 : decode cX1_from 8 = .ok (.aload_n 0, 1) := by decide +kernel
theorem dX1_from_9 : decode cX1_from 9 = .ok (.getfield 25, 3) := by decide +kernel
theorem dX1_from_12 : decode cX1_from 12 = .ok (.iload_n 2, 1) := by decide +kernel
theorem dX1_from_13 : decode cX1_from 13 = .ok (.iload_n 2, 1) := by decide +kernel
theorem dX1_from_14 : decode cX1_from 14 = .ok (.iload_n 1, 1) := by decide +kernel
theorem dX1_from_15 : decode cX1_from 15 = .ok (.if_icmp .lt 7, 3) := by decide +kernel
theorem dX1_from_18 : decode cX1_from 18 = .ok (.iconst 1, 1) := by decide +kernel
theorem dX1_from_19 : decode cX1_from 19 = .ok (.goto 4, 3) := by decide +kernel
theorem dX1_from_22 : decode cX1_from 22 = .ok (.iconst 0, 1) := by decide +kernel
theorem dX1_from_23 : decode cX1_from 23 = .ok (.bastore, 1) := by decide +kernel
theorem dX1_from_24 : decode cX1_from 24 = .ok (.iinc 2 1, 3) := by decide +kernel
theorem dX1_from_27 : decode cX1_from 27 = .ok (.goto (-25), 3) := by decide +kernel
theorem dX1_from_30 : decode cX1_from 30 = .ok (.return_, 1) := by decide +kernel
theorem dX1_shift_0 : decode cX1_shift 0 = .ok (.iconst 0, 1) := by decide +kernel
theorem dX1_shift_1 : decode cX1_shift 1 = .ok (.istore 5, 2) := by decide +kernel
theorem dX1_shift_3 : decode cX1_shift 3 = .ok (.iload 5, 2) := by decide +kernel
theorem dX1_shift_5 : decode cX1_shift 5 = .ok (.bipush 32, 2) := by decide +kernel
theorem dX1_shift_7 : decode cX1_shift 7 = .ok (.if_icmp .ge 119, 3) := by decide +kernel
theorem dX1_shift_10 : decode cX1_shift 10 = .ok (.iload_n 1, 1) := by decide +kernel
theorem dX1_shift_11 : decode cX1_shift 11 = .ok (.iconst 5, 1) := by decide +kernel
theorem dX1_shift_12 : decode cX1_shift 12 = .ok (.if_icmp .ne 11, 3) := by decide +kernel
theorem dX1_shift_15 : decode cX1_shift 15 = .ok (.iload 5, 2) := by decide +kernel
theorem dX1_shift_17 : decode cX1_shift 17 = .ok (.iload 4, 2) := by decide +kernel
theorem dX1_shift_19 : decode cX1_shift 19 = .ok (.isub, 1) := by decide +kernel
theorem dX1_shift_20 : decode cX1_shift 20 = .ok (.goto 8, 3) := by decide +kernel
theorem dX1_shift_23 : decode cX1_shift 23 = .ok (.iload 5, 2) := by decide +kernel
theorem dX1_shift_25 : decode cX1_shift 25 = .ok (.iload 4, 2) := by decide +kernel
theorem dX1_shift_27 : decode cX1_shift 27 = .ok (.iadd, 1) := by decide +kernel
theorem dX1_shift_28 : decode cX1_shift 28 = .ok (.istore 6, 2) := by decide +kernel
theorem dX1_shift_30 : decode cX1_shift 30 = .ok (.iload_n 1, 1) := by decide +kernel
theorem dX1_shift_31 : decode cX1_shift 31 = .ok (.bipush 7, 2) := by decide +kernel
theorem dX1_shift_33 : decode cX1_shift 33 = .ok (.if_icmp .ne 14, 3) := by decide +kernel
theorem dX1_shift_36 : decode cX1_shift 36 = .ok (.iload 6, 2) := by decide +kernel
theorem dX1_shift_38 : decode cX1_shift 38 = .ok (.bipush 31, 2) := by decide +kernel
theorem dX1_shift_40 : decode cX1_shift 40 = .ok (.if_icmp .le 7, 3) := by decide +kernel
theorem dX1_shift_43 : decode cX1_shift 43 = .ok (.bipush 31, 2) := by decide +kernel
theorem dX1_shift_45 : decode cX1_shift 45 = .ok (.istore 6, 2) := by decide +kernel
theorem dX1_shift_47 : decode cX1_shift 47 = .ok (.iload 6, 2) := by decide +kernel
theorem dX1_shift_49 : decode cX1_shift 49 = .ok (.ifCond .lt 14, 3) := by decide +kernel
theorem dX1_shift_52 : decode cX1_shift 52 = .ok (.iload 6, 2) := by decide +kernel
theorem dX1_shift_54 : decode cX1_shift 54 = .ok (.bipush 32, 2) := by decide +kernel
theorem dX1_shift_56 : decode cX1_shift 56 = .ok (.if_icmp .ge 7, 3) := by decide +kernel
theorem dX1_shift_59 : decode cX1_shift 59 = .ok (.iconst 1, 1) := by decide +kernel
theorem dX1_shift_60 : decode cX1_shift 60 = .ok (.goto 4, 3) := by decide +kernel
theorem dX1_shift_63 : decode cX1_shift 63 = .ok (.iconst 0, 1) := by decide +kernel
theorem dX1_shift_64 : decode cX1_shift 64 = .ok (.istore 7, 2) := by decide +kernel
theorem dX1_shift_66 : decode cX1_shift 66 = .ok (.aload_n 0, 1) := by decide +kernel
theorem dX1_shift_67 : decode cX1_shift 67 = .ok (.getfield 22, 3) := by decide +kernel
theorem dX1_shift_70 : decode cX1_shift 70 = .ok (.iload 5, 2) := by decide +kernel
theorem dX1_shift_72 : decode cX1_shift 72 = .ok (.iload 7, 2) := by decide +kernel
theorem dX1_shift_74 : decode cX1_shift 74 = .ok (.ifCond .eq 17, 3) := by decide +kernel
theorem dX1_shift_77 : decode cX1_shift 77 = .ok (.aload_n 0, 1) := by decide +kernel
theorem dX1_shift_78 : decode cX1_shift 78 = .ok (.iload_n 2, 1) := by decide +kernel
theorem dX1_shift_79 : decode cX1_shift 79 = .ok (.iload 6, 2) := by decide +kernel
theorem dX1_shift_81 : decode cX1_shift 81 = .ok (.invokevirtual 51, 3) := by decide +kernel
theorem dX1_shift_84 : decode cX1_shift 84 = .ok (.ifCond .eq 7, 3) := by decide +kernel
theorem dX1_shift_87 : decode cX1_shift 87 = .ok (.iconst 1, 1) := by decide +kernel
theorem dX1_shift_88 : decode cX1_shift 88 = .ok (.goto 4, 3) := by decide +kernel
theorem dX1_shift_91 : decode cX1_shift 91 = .ok (.iconst 0, 1) := by decide +kernel
theorem dX1_shift_92 : decode cX1_shift 92 = .ok (.bastore, 1) := by decide +kernel
theorem dX1_shift_93 : decode cX1_shift 93 = .ok (.aload_n 0, 1) := by decide +kernel
theorem dX1_shift_94 : decode cX1_shift 94 = .ok (.getfield 25, 3) := by decide +kernel
theorem dX1_shift_97 : decode cX1_shift 97 = .ok (.iload 5, 2) := by decide +kernel
theorem dX1_shift_99 : decode cX1_shift 99 = .ok (.iload 7, 2) := by decide +kernel
theorem dX1_shift_101 : decode cX1_shift 101 = .ok (.ifCond .eq 17, 3) := by decide +kernel
theorem dX1_shift_104 : decode cX1_shift 104 = .ok (.aload_n 0, 1) := by decide +kernel
theorem dX1_shift_105 : decode cX1_shift 105 = .ok (.iload_n 2, 1) := by decide +kernel
theorem dX1_shift_106 : decode cX1_shift 106 = .ok (.iload 6, 2) := by decide +kernel
theorem dX1_shift_108 : decode cX1_shift 108 = .ok (.invokevirtual 47, 3) := by decide +kernel
theorem dX1_shift_111 : decode cX1_shift 111 = .ok (.ifCond .eq 7, 3) := by decide +kernel
theorem dX1_shift_114 : decode cX1_shift 114 = .ok (.iconst 1, 1) := by decide +kernel
theorem dX1_shift_115 : decode cX1_shift 115 = .ok (.goto 4, 3) := by decide +kernel
theorem dX1_shift_118 : decode cX1_shift 118 = .ok (.iconst 0, 1) := by decide +kernel
theorem dX1_shift_119 : decode cX1_shift 119 = .ok (.bastore, 1) := by decide +kernel
theorem dX1_shift_120 : decode cX1_shift 120 = .ok (.iinc 5 1, 3) := by decide +kernel
theorem dX1_shift_123 : decode cX1_shift 123 = .ok (.goto (-120), 3) := by decide +kernel
theorem dX1_shift_126 : decode cX1_shift 126 = .ok (.iconst 1, 1) := by decide +kernel
theorem dX1_shift_127 : decode cX1_shift 127 = .ok (.istore 5, 2) := by decide +kernel
theorem dX1_shift_129 : decode cX1_shift 129 = .ok (.iconst 0, 1) := by decide +kernel
theorem dX1_shift_130 : decode cX1_shift 130 = .ok (.istore 6, 2) := by decide +kernel
theorem dX1_shift_132 : decode cX1_shift 132 = .ok (.iload 6, 2) := by decide +kernel
theorem dX1_shift_134 : decode cX1_shift 134 = .ok (.iconst 5, 1) := by decide +kernel
theorem dX1_shift_135 : decode cX1_shift 135 = .ok (.if_icmp .ge 22, 3) := by decide +kernel
theorem dX1_shift_138 : decode cX1_shift 138 = .ok (.aload_n 0, 1) := by decide +kernel
theorem dX1_shift_139 : decode cX1_shift 139 = .ok (.iload_n 3, 1) := by decide +kernel
theorem dX1_shift_140 : decode cX1_shift 140 = .ok (.iload 6, 2) := by decide +kernel
theorem dX1_shift_142 : decode cX1_shift 142 = .ok (.invokevirtual 47, 3) := by decide +kernel
theorem dX1_shift_145 : decode cX1_shift 145 = .ok (.ifCond .eq 6, 3) := by decide +kernel
theorem dX1_shift_148 : decode cX1_shift 148 = .ok (.iconst 0, 1) := by decide +kernel
theorem dX1_shift_149 : decode cX1_shift 149 = .ok (.istore 5, 2) := by decide +kernel
theorem dX1_shift_151 : decode cX1_shift 151 = .ok (.iinc 6 1, 3) := by decide +kernel
theorem dX1_shift_154 : decode cX1_shift 154 = .ok (.goto (-22), 3) := by decide +kernel
theorem dX1_shift_157 : decode cX1_shift 157 = .ok (.iload 5, 2) := by decide +kernel
theorem dX1_shift_159 : decode cX1_shift 159 = .ok (.ifCond .ne 8, 3) := by decide +kernel
theorem dX1_shift_162 : decode cX1_shift 162 = .ok (.aload_n 0, 1) := by decide +kernel
theorem dX1_shift_163 : decode cX1_shift 163 = .ok (.iconst 0, 1) := by decide +kernel
theorem dX1_shift_164 : decode cX1_shift 164 = .ok (.invokevirtual 61, 3) := by decide +kernel
theorem dX1_shift_167 : decode cX1_shift 167 = .ok (.return_, 1) := by decide +kernel
theorem dX1_end_0 : decode cX1_end 0 = .ok (.lconst 0, 1) := by decide +kernel
theorem dX1_end_1 : decode cX1_end 1 = .ok (.lstore 4, 2) := by decide +kernel
theorem dX1_end_3 : decode cX1_end 3 = .ok (.iconst 0, 1) := by decide +kernel
theorem dX1_end_4 : decode cX1_end 4 = .ok (.istore 6, 2) := by decide +kernel
theorem dX1_end_6 : decode cX1_end 6 = .ok (.iload 6, 2) := by decide +kernel
theorem dX1_end_8 : decode cX1_end 8 = .ok (.bipush 32, 2) := by decide +kernel
theorem dX1_end_10 : decode cX1_end 10 = .ok (.if_icmp .ge 87, 3) := by decide +kernel
theorem dX1_end_13 : decode cX1_end 13 = .ok (.iload_n 3, 1) := by decide +kernel
theorem dX1_end_14 : decode cX1_end 14 = .ok (.ifCond .eq 14, 3) := by decide +kernel
theorem dX1_end_17 : decode cX1_end 17 = .ok (.iload 6, 2) := by decide +kernel
theorem dX1_end_19 : decode cX1_end 19 = .ok (.bipush 31, 2) := by decide +kernel
theorem dX1_end_21 : decode cX1_end 21 = .ok (.if_icmp .ne 7, 3) := by decide +kernel
theorem dX1_end_24 : decode cX1_end 24 = .ok (.iconst 1, 1) := by decide +kernel
theorem dX1_end_25 : decode cX1_end 25 = .ok (.goto 4, 3) := by decide +kernel
theorem dX1_end_28 : decode cX1_end 28 = .ok (.iconst 0, 1) := by decide +kernel
theorem dX1_end_29 : decode cX1_end 29 = .ok (.istore 7, 2) := by decide +kernel
theorem dX1_end_31 : decode cX1_end 31 = .ok (.aload_n 0, 1) := by decide +kernel
theorem dX1_end_32 : decode cX1_end 32 = .ok (.iload_n 1, 1) := by decide +kernel
theorem dX1_end_33 : decode cX1_end 33 = .ok (.iload 6, 2) := by decide +kernel
theorem dX1_end_35 : decode cX1_end 35 = .ok (.invokevirtual 47, 3) := by decide +kernel
theorem dX1_end_38 : decode cX1_end 38 = .ok (.ifCond .eq 17, 3) := by decide +kernel
theorem dX1_end_41 : decode cX1_end 41 = .ok (.iload_n 2, 1) := by decide +kernel
theorem dX1_end_42 : decode cX1_end 42 = .ok (.iload 7, 2) := by decide +kernel
theorem dX1_end_44 : decode cX1_end 44 = .ok (.if_icmp .eq 7, 3) := by decide +kernel
theorem dX1_end_47 : decode cX1_end 47 = .ok (.iconst 1, 1) := by decide +kernel
theorem dX1_end_48 : decode cX1_end 48 = .ok (.goto 14, 3) := by decide +kernel
theorem dX1_end_51 : decode cX1_end 51 = .ok (.iconst 0, 1) := by decide +kernel
theorem dX1_end_52 : decode cX1_end 52 = .ok (.goto 10, 3) := by decide +kernel
theorem dX1_end_55 : decode cX1_end 55 = .ok (.aload_n 0, 1) := by decide +kernel
theorem dX1_end_56 : decode cX1_end 56 = .ok (.iload_n 1, 1) := by decide +kernel
theorem dX1_end_57 : decode cX1_end 57 = .ok (.iload 6, 2) := by decide +kernel
theorem dX1_end_59 : decode cX1_end 59 = .ok (.invokevirtual 51, 3) := by decide +kernel
theorem dX1_end_62 : decode cX1_end 62 = .ok (.istore 8, 2) := by decide +kernel
theorem dX1_end_64 : decode cX1_end 64 = .ok (.iload 8, 2) := by decide +kernel
theorem dX1_end_66 : decode cX1_end 66 = .ok (.ifCond .eq 25, 3) := by decide +kernel
theorem dX1_end_69 : decode cX1_end 69 = .ok (.lload 4, 2) := by decide +kernel
theorem dX1_end_71 : decode cX1_end 71 = .ok (.iload 7, 2) := by decide +kernel
theorem dX1_end_73 : decode cX1_end 73 = .ok (.ifCond .eq 11, 3) := by decide +kernel
theorem dX1_end_76 : decode cX1_end 76 = .ok (.lconst 1, 1) := by decide +kernel
theorem dX1_end_77 : decode cX1_end 77 = .ok (.iload 6, 2) := by decide +kernel
theorem dX1_end_79 : decode cX1_end 79 = .ok (.lshl, 1) := by decide +kernel
theorem dX1_end_80 : decode cX1_end 80 = .ok (.lneg, 1) := by decide +kernel
theorem dX1_end_81 : decode cX1_end 81 = .ok (.goto 7, 3) := by decide +kernel
theorem dX1_end_84 : decode cX1_end 84 = .ok (.lconst 1, 1) := by decide +kernel
theorem dX1_end_85 : decode cX1_end 85 = .ok (.iload 6, 2) := by decide +kernel
theorem dX1_end_87 : decode cX1_end 87 = .ok (.lshl, 1) := by decide +kernel
theorem dX1_end_88 : decode cX1_end 88 = .ok (.ladd, 1) := by decide +kernel
theorem dX1_end_89 : decode cX1_end 89 = .ok (.lstore 4, 2) := by decide +kernel
theorem dX1_end_91 : decode cX1_end 91 = .ok (.iinc 6 1, 3) := by decide +kernel
theorem dX1_end_94 : decode cX1_end 94 = .ok (.goto (-88), 3) := by decide +kernel
theorem dX1_end_97 : decode cX1_end 97 = .ok (.lload 4, 2) := by decide +kernel
theorem dX1_end_99 : decode cX1_end 99 = .ok (.lreturn, 1) := by decide +kernel
theorem dX1_choose_0 : decode cX1_choose 0 = .ok (.iconst 0, 1) := by decide +kernel
theorem dX1_choose_1 : decode cX1_choose 1 = .ok (.istore 4, 2) := by decide +kernel
theorem dX1_choose_3 : decode cX1_choose 3 = .ok (.iload 4, 2) := by decide +kernel
theorem dX1_choose_5 : decode cX1_choose 5 = .ok (.bipush 32, 2) := by decide +kernel
theorem dX1_choose_7 : decode cX1_choose 7 = .ok (.if_icmp .ge 129, 3) := by decide +kernel
theorem dX1_choose_10 : decode cX1_choose 10 = .ok (.aload_n 0, 1) := by decide +kernel
theorem dX1_choose_11 : decode cX1_choose 11 = .ok (.iload_n 3, 1) := by decide +kernel
theorem dX1_choose_12 : decode cX1_choose 12 = .ok (.iconst 0, 1) := by decide +kernel
theorem dX1_choose_13 : decode cX1_choose 13 = .ok (.invokevirtual 51, 3) := by decide +kernel
theorem dX1_choose_16 : decode cX1_choose 16 = .ok (.istore 5, 2) := by decide +kernel
theorem dX1_choose_18 : decode cX1_choose 18 = .ok (.aload_n 0, 1) := by decide +kernel
theorem dX1_choose_19 : decode cX1_choose 19 = .ok (.getfield 22, 3) := by decide +kernel
theorem dX1_choose_22 : decode cX1_choose 22 = .ok (.iload 4, 2) := by decide +kernel
theorem dX1_choose_24 : decode cX1_choose 24 = .ok (.iload 5, 2) := by decide +kernel
theorem dX1_choose_26 : decode cX1_choose 26 = .ok (.ifCond .eq 13, 3) := by decide +kernel
theorem dX1_choose_29 : decode cX1_choose 29 = .ok (.aload_n 0, 1) := by decide +kernel
theorem dX1_choose_30 : decode cX1_choose 30 = .ok (.iload_n 2, 1) := by decide +kernel
theorem dX1_choose_31 : decode cX1_choose 31 = .ok (.iload 4, 2) := by decide +kernel
theorem dX1_choose_33 : decode cX1_choose 33 = .ok (.invokevirtual 51, 3) := by decide +kernel
theorem dX1_choose_36 : decode cX1_choose 36 = .ok (.goto 10, 3) := by decide +kernel
theorem dX1_choose_39 : decode cX1_choose 39 = .ok (.aload_n 0, 1) := by decide +kernel
theorem dX1_choose_40 : decode cX1_choose 40 = .ok (.iload_n 1, 1) := by decide +kernel
theorem dX1_choose_41 : decode cX1_choose 41 = .ok (.iload 4, 2) := by decide +kernel
theorem dX1_choose_43 : decode cX1_choose 43 = .ok (.invokevirtual 51, 3) := by decide +kernel
theorem dX1_choose_46 : decode cX1_choose 46 = .ok (.bastore, 1) := by decide +kernel
theorem dX1_choose_47 : decode cX1_choose 47 = .ok (.aload_n 0, 1) := by decide +kernel
theorem dX1_choose_48 : decode cX1_choose 48 = .ok (.getfield 25, 3) := by decide +kernel
theorem dX1_choose_51 : decode cX1_choose 51 = .ok (.iload 4, 2) := by decide +kernel
theorem dX1_choose_53 : decode cX1_choose 53 = .ok (.aload_n 0, 1) := by decide +kernel
theorem dX1_choose_54 : decode cX1_choose 54 = .ok (.iload_n 3, 1) := by decide +kernel
theorem dX1_choose_55 : decode cX1_choose 55 = .ok (.iconst 0, 1) := by decide +kernel
theorem dX1_choose_56 : decode cX1_choose 56 = .ok (.invokevirtual 47, 3) := by decide +kernel
theorem dX1_choose_59 : decode cX1_choose 59 = .ok (.ifCond .eq 48, 3) := by decide +kernel
theorem dX1_choose_62 : decode cX1_choose 62 = .ok (.aload_n 0, 1) := by decide +kernel
theorem dX1_choose_63 : decode cX1_choose 63 = .ok (.iload_n 2, 1) := by decide +kernel
theorem dX1_choose_64 : decode cX1_choose 64 = .ok (.iload 4, 2) := by decide +kernel
theorem dX1_choose_66 : decode cX1_choose 66 = .ok (.invokevirtual 47, 3) := by decide +kernel
theorem dX1_choose_69 : decode cX1_choose 69 = .ok (.ifCond .ne 30, 3) := by decide +kernel
theorem dX1_choose_72 : decode cX1_choose 72 = .ok (.aload_n 0, 1) := by decide +kernel
theorem dX1_choose_73 : decode cX1_choose 73 = .ok (.iload_n 1, 1) := by decide +kernel
theorem dX1_choose_74 : decode cX1_choose 74 = .ok (.iload 4, 2) := by decide +kernel
theorem dX1_choose_76 : decode cX1_choose 76 = .ok (.invokevirtual 47, 3) := by decide +kernel
theorem dX1_choose_79 : decode cX1_choose 79 = .ok (.ifCond .ne 20, 3) := by decide +kernel
theorem dX1_choose_82 : decode cX1_choose 82 = .ok (.aload_n 0, 1) := by decide +kernel
theorem dX1_choose_83 : decode cX1_choose 83 = .ok (.iload_n 2, 1) := by decide +kernel
theorem dX1_choose_84 : decode cX1_choose 84 = .ok (.iload 4, 2) := by decide +kernel
theorem dX1_choose_86 : decode cX1_choose 86 = .ok (.invokevirtual 51, 3) := by decide +kernel
theorem dX1_choose_89 : decode cX1_choose 89 = .ok (.aload_n 0, 1) := by decide +kernel
theorem dX1_choose_90 : decode cX1_choose 90 = .ok (.iload_n 1, 1) := by decide +kernel
theorem dX1_choose_91 : decode cX1_choose 91 = .ok (.iload 4, 2) := by decide +kernel
theorem dX1_choose_93 : decode cX1_choose 93 = .ok (.invokevirtual 51, 3) := by decide +kernel
theorem dX1_choose_96 : decode cX1_choose 96 = .ok (.if_icmp .eq 7, 3) := by decide +kernel
theorem dX1_choose_99 : decode cX1_choose 99 = .ok (.iconst 1, 1) := by decide +kernel
theorem dX1_choose_100 : decode cX1_choose 100 = .ok (.goto 29, 3) := by decide +kernel
theorem dX1_choose_103 : decode cX1_choose 103 = .ok (.iconst 0, 1) := by decide +kernel
theorem dX1_choose_104 : decode cX1_choose 104 = .ok (.goto 25, 3) := by decide +kernel
theorem dX1_choose_107 : decode cX1_choose 107 = .ok (.iload 5, 2) := by decide +kernel
theorem dX1_choose_109 : decode cX1_choose 109 = .ok (.ifCond .eq 13, 3) := by decide +kernel
theorem dX1_choose_112 : decode cX1_choose 112 = .ok (.aload_n 0, 1) := by decide +kernel
theorem dX1_choose_113 : decode cX1_choose 113 = .ok (.iload_n 2, 1) := by decide +kernel
theorem dX1_choose_114 : decode cX1_choose 114 = .ok (.iload 4, 2) := by decide +kernel
theorem dX1_choose_116 : decode cX1_choose 116 = .ok (.invokevirtual 47, 3) := by decide +kernel
theorem dX1_choose_119 : decode cX1_choose 119 = .ok (.goto 10, 3) := by decide +kernel
theorem dX1_choose_122 : decode cX1_choose 122 = .ok (.aload_n 0, 1) := by decide +kernel
theorem dX1_choose_123 : decode cX1_choose 123 = .ok (.iload_n 1, 1) := by decide +kernel
theorem dX1_choose_124 : decode cX1_choose 124 = .ok (.iload 4, 2) := by decide +kernel
theorem dX1_choose_126 : decode cX1_choose 126 = .ok (.invokevirtual 47, 3) := by decide +kernel
theorem dX1_choose_129 : decode cX1_choose 129 = .ok (.bastore, 1) := by decide +kernel
theorem dX1_choose_130 : decode cX1_choose 130 = .ok (.iinc 4 1, 3) := by decide +kernel
theorem dX1_choose_133 : decode cX1_choose 133 = .ok (.goto (-130), 3) := by decide +kernel
theorem dX1_choose_136 : decode cX1_choose 136 = .ok (.return_, 1) := by decide +kernel
theorem dX1_wrong_0 : decode cX1_wrong 0 = .ok (.iload_n 0, 1) := by decide +kernel
theorem dX1_wrong_1 : decode cX1_wrong 1 = .ok (.iconst 1, 1) := by decide +kernel
theorem dX1_wrong_2 : decode cX1_wrong 2 = .ok (.if_icmp .eq 17, 3) := by decide +kernel
theorem dX1_wrong_5 : decode cX1_wrong 5 = .ok (.iload_n 0, 1) := by decide +kernel
theorem dX1_wrong_6 : decode cX1_wrong 6 = .ok (.iconst 2, 1) := by decide +kernel
theorem dX1_wrong_7 : decode cX1_wrong 7 = .ok (.if_icmp .eq 12, 3) := by decide +kernel
theorem dX1_wrong_10 : decode cX1_wrong 10 = .ok (.iload_n 0, 1) := by decide +kernel
theorem dX1_wrong_11 : decode cX1_wrong 11 = .ok (.iconst 4, 1) := by decide +kernel
theorem dX1_wrong_12 : decode cX1_wrong 12 = .ok (.if_icmp .eq 7, 3) := by decide +kernel
theorem dX1_wrong_15 : decode cX1_wrong 15 = .ok (.iconst 1, 1) := by decide +kernel
theorem dX1_wrong_16 : decode cX1_wrong 16 = .ok (.goto 4, 3) := by decide +kernel
theorem dX1_wrong_19 : decode cX1_wrong 19 = .ok (.iconst 0, 1) := by decide +kernel
theorem dX1_wrong_20 : decode cX1_wrong 20 = .ok (.ireturn, 1) := by decide +kernel
theorem dX1_store_0 : decode cX1_store 0 = .ok (.aload_n 0, 1) := by decide +kernel
theorem dX1_store_1 : decode cX1_store 1 = .ok (.iload_n 3, 1) := by decide +kernel
theorem dX1_store_2 : decode cX1_store 2 = .ok (.invokestatic 81, 3) := by decide +kernel
theorem dX1_store_5 : decode cX1_store 5 = .ok (.iconst 1, 1) := by decide +kernel
theorem dX1_store_6 : decode cX1_store 6 = .ok (.invokevirtual 36, 3) := by decide +kernel
theorem dX1_store_9 : decode cX1_store 9 = .ok (.ifCond .eq 4, 3) := by decide +kernel
theorem dX1_store_12 : decode cX1_store 12 = .ok (.return_, 1) := by decide +kernel
theorem dX1_store_13 : decode cX1_store 13 = .ok (.aload_n 0, 1) := by decide +kernel
theorem dX1_store_14 : decode cX1_store 14 = .ok (.iload_n 1, 1) := by decide +kernel
theorem dX1_store_15 : decode cX1_store 15 = .ok (.invokestatic 32, 3) := by decide +kernel
theorem dX1_store_18 : decode cX1_store 18 = .ok (.ifCond .ne 16, 3) := by decide +kernel
theorem dX1_store_21 : decode cX1_store 21 = .ok (.iload_n 2, 1) := by decide +kernel
theorem dX1_store_22 : decode cX1_store 22 = .ok (.ifCond .lt 12, 3) := by decide +kernel
theorem dX1_store_25 : decode cX1_store 25 = .ok (.iload_n 2, 1) := by decide +kernel
theorem dX1_store_26 : decode cX1_store 26 = .ok (.sipush 256, 3) := by decide +kernel
theorem dX1_store_29 : decode cX1_store 29 = .ok (.iload_n 3, 1) := by decide +kernel
theorem dX1_store_30 : decode cX1_store 30 = .ok (.isub, 1) := by decide +kernel
theorem dX1_store_31 : decode cX1_store 31 = .ok (.if_icmp .le 7, 3) := by decide +kernel
theorem dX1_store_34 : decode cX1_store 34 = .ok (.iconst 1, 1) := by decide +kernel
theorem dX1_store_35 : decode cX1_store 35 = .ok (.goto 4, 3) := by decide +kernel
theorem dX1_store_38 : decode cX1_store 38 = .ok (.iconst 0, 1) := by decide +kernel
theorem dX1_store_39 : decode cX1_store 39 = .ok (.iconst 2, 1) := by decide +kernel
theorem dX1_store_40 : decode cX1_store 40 = .ok (.invokevirtual 36, 3) := by decide +kernel
theorem dX1_store_43 : decode cX1_store 43 = .ok (.ifCond .eq 4, 3) := by decide +kernel
theorem dX1_store_46 : decode cX1_store 46 = .ok (.return_, 1) := by decide +kernel
theorem dX1_store_47 : decode cX1_store 47 = .ok (.iconst 0, 1) := by decide +kernel
theorem dX1_store_48 : decode cX1_store 48 = .ok (.istore 4, 2) := by decide +kernel
theorem dX1_store_50 : decode cX1_store 50 = .ok (.iload 4, 2) := by decide +kernel
theorem dX1_store_52 : decode cX1_store 52 = .ok (.bipush 8, 2) := by decide +kernel
theorem dX1_store_54 : decode cX1_store 54 = .ok (.iload_n 3, 1) := by decide +kernel
theorem dX1_store_55 : decode cX1_store 55 = .ok (.imul, 1) := by decide +kernel
theorem dX1_store_56 : decode cX1_store 56 = .ok (.if_icmp .ge 47, 3) := by decide +kernel
theorem dX1_store_59 : decode cX1_store 59 = .ok (.aload_n 0, 1) := by decide +kernel
theorem dX1_store_60 : decode cX1_store 60 = .ok (.getfield 16, 3) := by decide +kernel
theorem dX1_store_63 : decode cX1_store 63 = .ok (.bipush 8, 2) := by decide +kernel
theorem dX1_store_65 : decode cX1_store 65 = .ok (.iload_n 2, 1) := by decide +kernel
theorem dX1_store_66 : decode cX1_store 66 = .ok (.imul, 1) := by decide +kernel
theorem dX1_store_67 : decode cX1_store 67 = .ok (.iload 4, 2) := by decide +kernel
theorem dX1_store_69 : decode cX1_store 69 = .ok (.iadd, 1) := by decide +kernel
theorem dX1_store_70 : decode cX1_store 70 = .ok (.aload_n 0, 1) := by decide +kernel
theorem dX1_store_71 : decode cX1_store 71 = .ok (.iload_n 1, 1) := by decide +kernel
theorem dX1_store_72 : decode cX1_store 72 = .ok (.iload 4, 2) := by decide +kernel
theorem dX1_store_74 : decode cX1_store 74 = .ok (.invokevirtual 51, 3) := by decide +kernel
theorem dX1_store_77 : decode cX1_store 77 = .ok (.bastore, 1) := by decide +kernel
theorem dX1_store_78 : decode cX1_store 78 = .ok (.aload_n 0, 1) := by decide +kernel
theorem dX1_store_79 : decode cX1_store 79 = .ok (.getfield 19, 3) := by decide +kernel
theorem dX1_store_82 : decode cX1_store 82 = .ok (.bipush 8, 2) := by decide +kernel
theorem dX1_store_84 : decode cX1_store 84 = .ok (.iload_n 2, 1) := by decide +kernel
theorem dX1_store_85 : decode cX1_store 85 = .ok (.imul, 1) := by decide +kernel
theorem dX1_store_86 : decode cX1_store 86 = .ok (.iload 4, 2) := by decide +kernel
theorem dX1_store_88 : decode cX1_store 88 = .ok (.iadd, 1) := by decide +kernel
theorem dX1_store_89 : decode cX1_store 89 = .ok (.aload_n 0, 1) := by decide +kernel
theorem dX1_store_90 : decode cX1_store 90 = .ok (.iload_n 1, 1) := by decide +kernel
theorem dX1_store_91 : decode cX1_store 91 = .ok (.iload 4, 2) := by decide +kernel
theorem dX1_store_93 : decode cX1_store 93 = .ok (.invokevirtual 47, 3) := by decide +kernel
theorem dX1_store_96 : decode cX1_store 96 = .ok (.bastore, 1) := by decide +kernel
theorem dX1_store_97 : decode cX1_store 97 = .ok (.iinc 4 1, 3) := by decide +kernel
theorem dX1_store_100 : decode cX1_store 100 = .ok (.goto (-50), 3) := by decide +kernel
theorem dX1_store_103 : decode cX1_store 103 = .ok (.return_, 1) := by decide +kernel
theorem dX1_load_0 : decode cX1_load 0 = .ok (.aload_n 0, 1) := by decide +kernel
theorem dX1_load_1 : decode cX1_load 1 = .ok (.iload_n 3, 1) := by decide +kernel
theorem dX1_load_2 : decode cX1_load 2 = .ok (.invokestatic 81, 3) := by decide +kernel
theorem dX1_load_5 : decode cX1_load 5 = .ok (.iconst 1, 1) := by decide +kernel
theorem dX1_load_6 : decode cX1_load 6 = .ok (.invokevirtual 36, 3) := by decide +kernel
theorem dX1_load_9 : decode cX1_load 9 = .ok (.ifCond .eq 4, 3) := by decide +kernel
theorem dX1_load_12 : decode cX1_load 12 = .ok (.return_, 1) := by decide +kernel
theorem dX1_load_13 : decode cX1_load 13 = .ok (.aload_n 0, 1) := by decide +kernel
theorem dX1_load_14 : decode cX1_load 14 = .ok (.iload_n 1, 1) := by decide +kernel
theorem dX1_load_15 : decode cX1_load 15 = .ok (.invokestatic 32, 3) := by decide +kernel
theorem dX1_load_18 : decode cX1_load 18 = .ok (.ifCond .ne 16, 3) := by decide +kernel
theorem dX1_load_21 : decode cX1_load 21 = .ok (.iload_n 2, 1) := by decide +kernel
theorem dX1_load_22 : decode cX1_load 22 = .ok (.ifCond .lt 12, 3) := by decide +kernel
theorem dX1_load_25 : decode cX1_load 25 = .ok (.iload_n 2, 1) := by decide +kernel
theorem dX1_load_26 : decode cX1_load 26 = .ok (.sipush 256, 3) := by decide +kernel
theorem dX1_load_29 : decode cX1_load 29 = .ok (.iload_n 3, 1) := by decide +kernel
theorem dX1_load_30 : decode cX1_load 30 = .ok (.isub, 1) := by decide +kernel
theorem dX1_load_31 : decode cX1_load 31 = .ok (.if_icmp .le 7, 3) := by decide +kernel
theorem dX1_load_34 : decode cX1_load 34 = .ok (.iconst 1, 1) := by decide +kernel
theorem dX1_load_35 : decode cX1_load 35 = .ok (.goto 4, 3) := by decide +kernel
theorem dX1_load_38 : decode cX1_load 38 = .ok (.iconst 0, 1) := by decide +kernel
theorem dX1_load_39 : decode cX1_load 39 = .ok (.iconst 2, 1) := by decide +kernel
theorem dX1_load_40 : decode cX1_load 40 = .ok (.invokevirtual 36, 3) := by decide +kernel
theorem dX1_load_43 : decode cX1_load 43 = .ok (.ifCond .eq 4, 3) := by decide +kernel
theorem dX1_load_46 : decode cX1_load 46 = .ok (.return_, 1) := by decide +kernel
theorem dX1_load_47 : decode cX1_load 47 = .ok (.iconst 0, 1) := by decide +kernel
theorem dX1_load_48 : decode cX1_load 48 = .ok (.istore 5, 2) := by decide +kernel
theorem dX1_load_50 : decode cX1_load 50 = .ok (.iload 5, 2) := by decide +kernel
theorem dX1_load_52 : decode cX1_load 52 = .ok (.bipush 32, 2) := by decide +kernel
theorem dX1_load_54 : decode cX1_load 54 = .ok (.if_icmp .ge 116, 3) := by decide +kernel
theorem dX1_load_57 : decode cX1_load 57 = .ok (.iload 5, 2) := by decide +kernel
theorem dX1_load_59 : decode cX1_load 59 = .ok (.bipush 8, 2) := by decide +kernel
theorem dX1_load_61 : decode cX1_load 61 = .ok (.iload_n 3, 1) := by decide +kernel
theorem dX1_load_62 : decode cX1_load 62 = .ok (.imul, 1) := by decide +kernel
theorem dX1_load_63 : decode cX1_load 63 = .ok (.if_icmp .ge 8, 3) := by decide +kernel
theorem dX1_load_66 : decode cX1_load 66 = .ok (.iload 5, 2) := by decide +kernel
theorem dX1_load_68 : decode cX1_load 68 = .ok (.goto 9, 3) := by decide +kernel
theorem dX1_load_71 : decode cX1_load 71 = .ok (.bipush 8, 2) := by decide +kernel
theorem dX1_load_73 : decode cX1_load 73 = .ok (.iload_n 3, 1) := by decide +kernel
theorem dX1_load_74 : decode cX1_load 74 = .ok (.imul, 1) := by decide +kernel
theorem dX1_load_75 : decode cX1_load 75 = .ok (.iconst 1, 1) := by decide +kernel
theorem dX1_load_76 : decode cX1_load 76 = .ok (.isub, 1) := by decide +kernel
theorem dX1_load_77 : decode cX1_load 77 = .ok (.istore 6, 2) := by decide +kernel
theorem dX1_load_79 : decode cX1_load 79 = .ok (.iload 5, 2) := by decide +kernel
theorem dX1_load_81 : decode cX1_load 81 = .ok (.bipush 8, 2) := by decide +kernel
theorem dX1_load_83 : decode cX1_load 83 = .ok (.iload_n 3, 1) := by decide +kernel
theorem dX1_load_84 : decode cX1_load 84 = .ok (.imul, 1) := by decide +kernel
theorem dX1_load_85 : decode cX1_load 85 = .ok (.if_icmp .lt 8, 3) := by decide +kernel
theorem dX1_load_88 : decode cX1_load 88 = .ok (.iload 4, 2) := by decide +kernel
theorem dX1_load_90 : decode cX1_load 90 = .ok (.ifCond .eq 7, 3) := by decide +kernel
theorem dX1_load_93 : decode cX1_load 93 = .ok (.iconst 1, 1) := by decide +kernel
theorem dX1_load_94 : decode cX1_load 94 = .ok (.goto 4, 3) := by decide +kernel
theorem dX1_load_97 : decode cX1_load 97 = .ok (.iconst 0, 1) := by decide +kernel
theorem dX1_load_98 : decode cX1_load 98 = .ok (.istore 7, 2) := by decide +kernel
theorem dX1_load_100 : decode cX1_load 100 = .ok (.aload_n 0, 1) := by decide +kernel
theorem dX1_load_101 : decode cX1_load 101 = .ok (.getfield 22, 3) := by decide +kernel
theorem dX1_load_104 : decode cX1_load 104 = .ok (.iload 5, 2) := by decide +kernel
theorem dX1_load_106 : decode cX1_load 106 = .ok (.iload 7, 2) := by decide +kernel
theorem dX1_load_108 : decode cX1_load 108 = .ok (.ifCond .eq 22, 3) := by decide +kernel
theorem dX1_load_111 : decode cX1_load 111 = .ok (.aload_n 0, 1) := by decide +kernel
theorem dX1_load_112 : decode cX1_load 112 = .ok (.getfield 16, 3) := by decide +kernel
theorem dX1_load_115 : decode cX1_load 115 = .ok (.bipush 8, 2) := by decide +kernel
theorem dX1_load_117 : decode cX1_load 117 = .ok (.iload_n 2, 1) := by decide +kernel
theorem dX1_load_118 : decode cX1_load 118 = .ok (.imul, 1) := by decide +kernel
theorem dX1_load_119 : decode cX1_load 119 = .ok (.iload 6, 2) := by decide +kernel
theorem dX1_load_121 : decode cX1_load 121 = .ok (.iadd, 1) := by decide +kernel
theorem dX1_load_122 : decode cX1_load 122 = .ok (.baload, 1) := by decide +kernel
theorem dX1_load_123 : decode cX1_load 123 = .ok (.ifCond .eq 7, 3) := by decide +kernel
theorem dX1_load_126 : decode cX1_load 126 = .ok (.iconst 1, 1) := by decide +kernel
theorem dX1_load_127 : decode cX1_load 127 = .ok (.goto 4, 3) := by decide +kernel
theorem dX1_load_130 : decode cX1_load 130 = .ok (.iconst 0, 1) := by decide +kernel
theorem dX1_load_131 : decode cX1_load 131 = .ok (.bastore, 1) := by decide +kernel
theorem dX1_load_132 : decode cX1_load 132 = .ok (.aload_n 0, 1) := by decide +kernel
theorem dX1_load_133 : decode cX1_load 133 = .ok (.getfield 25, 3) := by decide +kernel
theorem dX1_load_136 : decode cX1_load 136 = .ok (.iload 5, 2) := by decide +kernel
theorem dX1_load_138 : decode cX1_load 138 = .ok (.iload 7, 2) := by decide +kernel
theorem dX1_load_140 : decode cX1_load 140 = .ok (.ifCond .eq 22, 3) := by decide +kernel
theorem dX1_load_143 : decode cX1_load 143 = .ok (.aload_n 0, 1) := by decide +kernel
theorem dX1_load_144 : decode cX1_load 144 = .ok (.getfield 19, 3) := by decide +kernel
theorem dX1_load_147 : decode cX1_load 147 = .ok (.bipush 8, 2) := by decide +kernel
theorem dX1_load_149 : decode cX1_load 149 = .ok (.iload_n 2, 1) := by decide +kernel
theorem dX1_load_150 : decode cX1_load 150 = .ok (.imul, 1) := by decide +kernel
theorem dX1_load_151 : decode cX1_load 151 = .ok (.iload 6, 2) := by decide +kernel
theorem dX1_load_153 : decode cX1_load 153 = .ok (.iadd, 1) := by decide +kernel
theorem dX1_load_154 : decode cX1_load 154 = .ok (.baload, 1) := by decide +kernel
theorem dX1_load_155 : decode cX1_load 155 = .ok (.ifCond .eq 7, 3) := by decide +kernel
theorem dX1_load_158 : decode cX1_load 158 = .ok (.iconst 1, 1) := by decide +kernel
theorem dX1_load_159 : decode cX1_load 159 = .ok (.goto 4, 3) := by decide +kernel
theorem dX1_load_162 : decode cX1_load 162 = .ok (.iconst 0, 1) := by decide +kernel
theorem dX1_load_163 : decode cX1_load 163 = .ok (.bastore, 1) := by decide +kernel
theorem dX1_load_164 : decode cX1_load 164 = .ok (.iinc 5 1, 3) := by decide +kernel
theorem dX1_load_167 : decode cX1_load 167 = .ok (.goto (-117), 3) := by decide +kernel
theorem dX1_load_170 : decode cX1_load 170 = .ok (.aload_n 0, 1) := by decide +kernel
theorem dX1_load_171 : decode cX1_load 171 = .ok (.iload_n 1, 1) := by decide +kernel
theorem dX1_load_172 : decode cX1_load 172 = .ok (.invokevirtual 44, 3) := by decide +kernel
theorem dX1_load_175 : decode cX1_load 175 = .ok (.return_, 1) := by decide +kernel
theorem dX1_value_0 : decode cX1_value 0 = .ok (.aload_n 0, 1) := by decide +kernel
theorem dX1_value_1 : decode cX1_value 1 = .ok (.iload_n 1, 1) := by decide +kernel
theorem dX1_value_2 : decode cX1_value 2 = .ok (.invokestatic 32, 3) := by decide +kernel
theorem dX1_value_5 : decode cX1_value 5 = .ok (.iconst 1, 1) := by decide +kernel
theorem dX1_value_6 : decode cX1_value 6 = .ok (.invokevirtual 36, 3) := by decide +kernel
theorem dX1_value_9 : decode cX1_value 9 = .ok (.ifCond .eq 7, 3) := by decide +kernel
theorem dX1_value_12 : decode cX1_value 12 = .ok (.iconst 0, 1) := by decide +kernel
theorem dX1_value_13 : decode cX1_value 13 = .ok (.goto 8, 3) := by decide +kernel
theorem dX1_value_16 : decode cX1_value 16 = .ok (.aload_n 0, 1) := by decide +kernel
theorem dX1_value_17 : decode cX1_value 17 = .ok (.iload_n 1, 1) := by decide +kernel
theorem dX1_value_18 : decode cX1_value 18 = .ok (.invokevirtual 54, 3) := by decide +kernel
theorem dX1_value_21 : decode cX1_value 21 = .ok (.ireturn, 1) := by decide +kernel
theorem dX1_not_0 : decode cX1_not 0 = .ok (.aload_n 0, 1) := by decide +kernel
theorem dX1_not_1 : decode cX1_not 1 = .ok (.iload_n 1, 1) := by decide +kernel
theorem dX1_not_2 : decode cX1_not 2 = .ok (.invokestatic 32, 3) := by decide +kernel
theorem dX1_not_5 : decode cX1_not 5 = .ok (.iconst 1, 1) := by decide +kernel
theorem dX1_not_6 : decode cX1_not 6 = .ok (.invokevirtual 36, 3) := by decide +kernel
theorem dX1_not_9 : decode cX1_not 9 = .ok (.ifCond .eq 5, 3) := by decide +kernel
theorem dX1_not_12 : decode cX1_not 12 = .ok (.iconst 0, 1) := by decide +kernel
theorem dX1_not_13 : decode cX1_not 13 = .ok (.ireturn, 1) := by decide +kernel
theorem dX1_not_14 : decode cX1_not 14 = .ok (.iconst 0, 1) := by decide +kernel
theorem dX1_not_15 : decode cX1_not 15 = .ok (.istore_n 2, 1) := by decide +kernel
theorem dX1_not_16 : decode cX1_not 16 = .ok (.iconst 0, 1) := by decide +kernel
theorem dX1_not_17 : decode cX1_not 17 = .ok (.istore_n 3, 1) := by decide +kernel
theorem dX1_not_18 : decode cX1_not 18 = .ok (.iload_n 3, 1) := by decide +kernel
theorem dX1_not_19 : decode cX1_not 19 = .ok (.bipush 32, 2) := by decide +kernel
theorem dX1_not_21 : decode cX1_not 21 = .ok (.if_icmp .ge 24, 3) := by decide +kernel
theorem dX1_not_24 : decode cX1_not 24 = .ok (.aload_n 0, 1) := by decide +kernel
theorem dX1_not_25 : decode cX1_not 25 = .ok (.iload_n 1, 1) := by decide +kernel
theorem dX1_not_26 : decode cX1_not 26 = .ok (.iload_n 3, 1) := by decide +kernel
theorem dX1_not_27 : decode cX1_not 27 = .ok (.invokevirtual 47, 3) := by decide +kernel
theorem dX1_not_30 : decode cX1_not 30 = .ok (.ifCond .eq 9, 3) := by decide +kernel
theorem dX1_not_33 : decode cX1_not 33 = .ok (.iload_n 2, 1) := by decide +kernel
theorem dX1_not_34 : decode cX1_not 34 = .ok (.iconst 1, 1) := by decide +kernel
theorem dX1_not_35 : decode cX1_not 35 = .ok (.iload_n 3, 1) := by decide +kernel
theorem dX1_not_36 : decode cX1_not 36 = .ok (.ishl, 1) := by decide +kernel
theorem dX1_not_37 : decode cX1_not 37 = .ok (.ior, 1) := by decide +kernel
theorem dX1_not_38 : decode cX1_not 38 = .ok (.istore_n 2, 1) := by decide +kernel
theorem dX1_not_39 : decode cX1_not 39 = .ok (.iinc 3 1, 3) := by decide +kernel
theorem dX1_not_42 : decode cX1_not 42 = .ok (.goto (-24), 3) := by decide +kernel
theorem dX1_not_45 : decode cX1_not 45 = .ok (.iload_n 2, 1) := by decide +kernel
theorem dX1_not_46 : decode cX1_not 46 = .ok (.ireturn, 1) := by decide +kernel
theorem dX1_least_0 : decode cX1_least 0 = .ok (.aload_n 0, 1) := by decide +kernel
theorem dX1_least_1 : decode cX1_least 1 = .ok (.iload_n 1, 1) := by decide +kernel
theorem dX1_least_2 : decode cX1_least 2 = .ok (.invokestatic 32, 3) := by decide +kernel
theorem dX1_least_5 : decode cX1_least 5 = .ok (.iconst 1, 1) := by decide +kernel
theorem dX1_least_6 : decode cX1_least 6 = .ok (.invokevirtual 36, 3) := by decide +kernel
theorem dX1_least_9 : decode cX1_least 9 = .ok (.ifCond .eq 7, 3) := by decide +kernel
theorem dX1_least_12 : decode cX1_least 12 = .ok (.iconst 0, 1) := by decide +kernel
theorem dX1_least_13 : decode cX1_least 13 = .ok (.goto 11, 3) := by decide +kernel
theorem dX1_least_16 : decode cX1_least 16 = .ok (.aload_n 0, 1) := by decide +kernel
theorem dX1_least_17 : decode cX1_least 17 = .ok (.iload_n 1, 1) := by decide +kernel
theorem dX1_least_18 : decode cX1_least 18 = .ok (.iconst 0, 1) := by decide +kernel
theorem dX1_least_19 : decode cX1_least 19 = .ok (.iconst 1, 1) := by decide +kernel
theorem dX1_least_20 : decode cX1_least 20 = .ok (.invokevirtual 71, 3) := by decide +kernel
theorem dX1_least_23 : decode cX1_least 23 = .ok (.l2i, 1) := by decide +kernel
theorem dX1_least_24 : decode cX1_least 24 = .ok (.ireturn, 1) := by decide +kernel
theorem dX1_greatest_0 : decode cX1_greatest 0 = .ok (.aload_n 0, 1) := by decide +kernel
theorem dX1_greatest_1 : decode cX1_greatest 1 = .ok (.iload_n 1, 1) := by decide +kernel
theorem dX1_greatest_2 : decode cX1_greatest 2 = .ok (.invokestatic 32, 3) := by decide +kernel
theorem dX1_greatest_5 : decode cX1_greatest 5 = .ok (.iconst 1, 1) := by decide +kernel
theorem dX1_greatest_6 : decode cX1_greatest 6 = .ok (.invokevirtual 36, 3) := by decide +kernel
theorem dX1_greatest_9 : decode cX1_greatest 9 = .ok (.ifCond .eq 7, 3) := by decide +kernel
theorem dX1_greatest_12 : decode cX1_greatest 12 = .ok (.iconst 0, 1) := by decide +kernel
theorem dX1_greatest_13 : decode cX1_greatest 13 = .ok (.goto 11, 3) := by decide +kernel
theorem dX1_greatest_16 : decode cX1_greatest 16 = .ok (.aload_n 0, 1) := by decide +kernel
theorem dX1_greatest_17 : decode cX1_greatest 17 = .ok (.iload_n 1, 1) := by decide +kernel
theorem dX1_greatest_18 : decode cX1_greatest 18 = .ok (.iconst 1, 1) := by decide +kernel
theorem dX1_greatest_19 : decode cX1_greatest 19 = .ok (.iconst 1, 1) := by decide +kernel
theorem dX1_greatest_20 : decode cX1_greatest 20 = .ok (.invokevirtual 71, 3) := by decide +kernel
theorem dX1_greatest_23 : decode cX1_greatest 23 = .ok (.l2i, 1) := by decide +kernel
theorem dX1_greatest_24 : decode cX1_greatest 24 = .ok (.ireturn, 1) := by decide +kernel
theorem dX1_octet_0 : decode cX1_octet 0 = .ok (.aload_n 0, 1) := by decide +kernel
theorem dX1_octet_1 : decode cX1_octet 1 = .ok (.iload_n 1, 1) := by decide +kernel
theorem dX1_octet_2 : decode cX1_octet 2 = .ok (.ifCond .lt 10, 3) := by decide +kernel
theorem dX1_octet_5 : decode cX1_octet 5 = .ok (.iload_n 1, 1) := by decide +kernel
theorem dX1_octet_6 : decode cX1_octet 6 = .ok (.sipush 256, 3) := by decide +kernel
theorem dX1_octet_9 : decode cX1_octet 9 = .ok (.if_icmp .lt 7, 3) := by decide +kernel
theorem dX1_octet_12 : decode cX1_octet 12 = .ok (.iconst 1, 1) := by decide +kernel
theorem dX1_octet_13 : decode cX1_octet 13 = .ok (.goto 4, 3) := by decide +kernel
theorem dX1_octet_16 : decode cX1_octet 16 = .ok (.iconst 0, 1) := by decide +kernel
theorem dX1_octet_17 : decode cX1_octet 17 = .ok (.iconst 1, 1) := by decide +kernel
theorem dX1_octet_18 : decode cX1_octet 18 = .ok (.invokevirtual 36, 3) := by decide +kernel
theorem dX1_octet_21 : decode cX1_octet 21 = .ok (.ifCond .eq 5, 3) := by decide +kernel
theorem dX1_octet_24 : decode cX1_octet 24 = .ok (.iconst 0, 1) := by decide +kernel
theorem dX1_octet_25 : decode cX1_octet 25 = .ok (.ireturn, 1) := by decide +kernel
theorem dX1_octet_26 : decode cX1_octet 26 = .ok (.iconst 0, 1) := by decide +kernel
theorem dX1_octet_27 : decode cX1_octet 27 = .ok (.istore_n 2, 1) := by decide +kernel
theorem dX1_octet_28 : decode cX1_octet 28 = .ok (.iconst 0, 1) := by decide +kernel
theorem dX1_octet_29 : decode cX1_octet 29 = .ok (.istore_n 3, 1) := by decide +kernel
theorem dX1_octet_30 : decode cX1_octet 30 = .ok (.iload_n 3, 1) := by decide +kernel
theorem dX1_octet_31 : decode cX1_octet 31 = .ok (.bipush 8, 2) := by decide +kernel
theorem dX1_octet_33 : decode cX1_octet 33 = .ok (.if_icmp .ge 57, 3) := by decide +kernel
theorem dX1_octet_36 : decode cX1_octet 36 = .ok (.iload_n 2, 1) := by decide +kernel
theorem dX1_octet_37 : decode cX1_octet 37 = .ok (.aload_n 0, 1) := by decide +kernel
theorem dX1_octet_38 : decode cX1_octet 38 = .ok (.getfield 16, 3) := by decide +kernel
theorem dX1_octet_41 : decode cX1_octet 41 = .ok (.bipush 8, 2) := by decide +kernel
theorem dX1_octet_43 : decode cX1_octet 43 = .ok (.iload_n 1, 1) := by decide +kernel
theorem dX1_octet_44 : decode cX1_octet 44 = .ok (.imul, 1) := by decide +kernel
theorem dX1_octet_45 : decode cX1_octet 45 = .ok (.iload_n 3, 1) := by decide +kernel
theorem dX1_octet_46 : decode cX1_octet 46 = .ok (.iadd, 1) := by decide +kernel
theorem dX1_octet_47 : decode cX1_octet 47 = .ok (.baload, 1) := by decide +kernel
theorem dX1_octet_48 : decode cX1_octet 48 = .ok (.ifCond .eq 9, 3) := by decide +kernel
theorem dX1_octet_51 : decode cX1_octet 51 = .ok (.iconst 1, 1) := by decide +kernel
theorem dX1_octet_52 : decode cX1_octet 52 = .ok (.iload_n 3, 1) := by decide +kernel
theorem dX1_octet_53 : decode cX1_octet 53 = .ok (.ishl, 1) := by decide +kernel
theorem dX1_octet_54 : decode cX1_octet 54 = .ok (.goto 4, 3) := by decide +kernel
theorem dX1_octet_57 : decode cX1_octet 57 = .ok (.iconst 0, 1) := by decide +kernel
theorem dX1_octet_58 : decode cX1_octet 58 = .ok (.aload_n 0, 1) := by decide +kernel
theorem dX1_octet_59 : decode cX1_octet 59 = .ok (.getfield 19, 3) := by decide +kernel
theorem dX1_octet_62 : decode cX1_octet 62 = .ok (.bipush 8, 2) := by decide +kernel
theorem dX1_octet_64 : decode cX1_octet 64 = .ok (.iload_n 1, 1) := by decide +kernel
theorem dX1_octet_65 : decode cX1_octet 65 = .ok (.imul, 1) := by decide +kernel
theorem dX1_octet_66 : decode cX1_octet 66 = .ok (.iload_n 3, 1) := by decide +kernel
theorem dX1_octet_67 : decode cX1_octet 67 = .ok (.iadd, 1) := by decide +kernel
theorem dX1_octet_68 : decode cX1_octet 68 = .ok (.baload, 1) := by decide +kernel
theorem dX1_octet_69 : decode cX1_octet 69 = .ok (.ifCond .eq 11, 3) := by decide +kernel
theorem dX1_octet_72 : decode cX1_octet 72 = .ok (.sipush 256, 3) := by decide +kernel
theorem dX1_octet_75 : decode cX1_octet 75 = .ok (.iload_n 3, 1) := by decide +kernel
theorem dX1_octet_76 : decode cX1_octet 76 = .ok (.ishl, 1) := by decide +kernel
theorem dX1_octet_77 : decode cX1_octet 77 = .ok (.goto 4, 3) := by decide +kernel
theorem dX1_octet_80 : decode cX1_octet 80 = .ok (.iconst 0, 1) := by decide +kernel
theorem dX1_octet_81 : decode cX1_octet 81 = .ok (.iadd, 1) := by decide +kernel
theorem dX1_octet_82 : decode cX1_octet 82 = .ok (.iadd, 1) := by decide +kernel
theorem dX1_octet_83 : decode cX1_octet 83 = .ok (.istore_n 2, 1) := by decide +kernel
theorem dX1_octet_84 : decode cX1_octet 84 = .ok (.iinc 3 1, 3) := by decide +kernel
theorem dX1_octet_87 : decode cX1_octet 87 = .ok (.goto (-57), 3) := by decide +kernel
theorem dX1_octet_90 : decode cX1_octet 90 = .ok (.iload_n 2, 1) := by decide +kernel
theorem dX1_octet_91 : decode cX1_octet 91 = .ok (.ireturn, 1) := by decide +kernel
theorem dX1_count_0 : decode cX1_count 0 = .ok (.aload_n 0, 1) := by decide +kernel
theorem dX1_count_1 : decode cX1_count 1 = .ok (.iconst 0, 1) := by decide +kernel
theorem dX1_count_2 : decode cX1_count 2 = .ok (.putfield 28, 3) := by decide +kernel
theorem dX1_count_5 : decode cX1_count 5 = .ok (.iconst 0, 1) := by decide +kernel
theorem dX1_count_6 : decode cX1_count 6 = .ok (.istore_n 1, 1) := by decide +kernel
theorem dX1_count_7 : decode cX1_count 7 = .ok (.iconst 0, 1) := by decide +kernel
theorem dX1_count_8 : decode cX1_count 8 = .ok (.istore_n 2, 1) := by decide +kernel
theorem dX1_count_9 : decode cX1_count 9 = .ok (.iload_n 2, 1) := by decide +kernel
theorem dX1_count_10 : decode cX1_count 10 = .ok (.sipush 512, 3) := by decide +kernel
theorem dX1_count_13 : decode cX1_count 13 = .ok (.if_icmp .ge 21, 3) := by decide +kernel
theorem dX1_count_16 : decode cX1_count 16 = .ok (.aload_n 0, 1) := by decide +kernel
theorem dX1_count_17 : decode cX1_count 17 = .ok (.getfield 13, 3) := by decide +kernel
theorem dX1_count_20 : decode cX1_count 20 = .ok (.iload_n 2, 1) := by decide +kernel
theorem dX1_count_21 : decode cX1_count 21 = .ok (.baload, 1) := by decide +kernel
theorem dX1_count_22 : decode cX1_count 22 = .ok (.ifCond .eq 6, 3) := by decide +kernel
theorem dX1_count_25 : decode cX1_count 25 = .ok (.iinc 1 1, 3) := by decide +kernel
theorem dX1_count_28 : decode cX1_count 28 = .ok (.iinc 2 1, 3) := by decide +kernel
theorem dX1_count_31 : decode cX1_count 31 = .ok (.goto (-22), 3) := by decide +kernel
theorem dX1_count_34 : decode cX1_count 34 = .ok (.iload_n 1, 1) := by decide +kernel
theorem dX1_count_35 : decode cX1_count 35 = .ok (.ireturn, 1) := by decide +kernel
