theorem inX6 : ∀ w ∈ wsX60, w ∈ lw_tbl := by decide +kernel
theorem inJ9 : ∀ w ∈ wsJ90, w ∈ lw_tbl := by decide +kernel
theorem inJ0 : ∀ w ∈ wsJ00, w ∈ lw_tbl := by decide +kernel
theorem dX0_init_0 : decode cX0_init 0 = .ok (.aload_n 0, 1) := by decide +kernel
theorem dX0_init_1 : decode cX0_init 1 = .ok (.invokespecial 3, 3) := by decide +kernel
theorem dX0_init_4 : decode cX0_init 4 = .ok (.aload_n 0, 1) := by decide +kernel
theorem dX0_init_5 : decode cX0_init 5 = .ok (.bipush 30, 2) := by decide +kernel
theorem dX0_init_7 : decode cX0_init 7 = .ok (.newarray .int, 2) := by decide +kernel
theorem dX0_init_9 : decode cX0_init 9 = .ok (.putfield 9, 3) := by decide +kernel
theorem dX0_init_12 : decode cX0_init 12 = .ok (.aload_n 0, 1) := by decide +kernel
theorem dX0_init_13 : decode cX0_init 13 = .ok (.bipush 30, 2) := by decide +kernel
theorem dX0_init_15 : decode cX0_init 15 = .ok (.newarray .int, 2) := by decide +kernel
theorem dX0_init_17 : decode cX0_init 17 = .ok (.putfield 15, 3) := by decide +kernel
theorem dX0_init_20 : decode cX0_init 20 = .ok (.aload_n 0, 1) := by decide +kernel
theorem dX0_init_21 : decode cX0_init 21 = .ok (.bipush 30, 2) := by decide +kernel
theorem dX0_init_23 : decode cX0_init 23 = .ok (.newarray .int, 2) := by decide +kernel
theorem dX0_init_25 : decode cX0_init 25 = .ok (.putfield 18, 3) := by decide +kernel
theorem dX0_init_28 : decode cX0_init 28 = .ok (.aload_n 0, 1) := by decide +kernel
theorem dX0_init_29 : decode cX0_init 29 = .ok (.bipush 30, 2) := by decide +kernel
theorem dX0_init_31 : decode cX0_init 31 = .ok (.newarray .int, 2) := by decide +kernel
theorem dX0_init_33 : decode cX0_init 33 = .ok (.putfield 21, 3) := by decide +kernel
theorem dX0_init_36 : decode cX0_init 36 = .ok (.aload_n 0, 1) := by decide +kernel
theorem dX0_init_37 : decode cX0_init 37 = .ok (.bipush 30, 2) := by decide +kernel
theorem dX0_init_39 : decode cX0_init 39 = .ok (.newarray .int, 2) := by decide +kernel
theorem dX0_init_41 : decode cX0_init 41 = .ok (.putfield 24, 3) := by decide +kernel
theorem dX0_init_44 : decode cX0_init 44 = .ok (.return_, 1) := by decide +kernel
theorem dX0_meetsAnother_0 : decode cX0_meetsAnother 0 = .ok (.iconst 0, 1) := by decide +kernel
theorem dX0_meetsAnother_1 : decode cX0_meetsAnother 1 = .ok (.istore 5, 2) := by decide +kernel
theorem dX0_meetsAnother_3 : decode cX0_meetsAnother 3 = .ok (.iload 5, 2) := by decide +kernel
theorem dX0_meetsAnother_5 : decode cX0_meetsAnother 5 = .ok (.aload_n 0, 1) := by decide +kernel
theorem dX0_meetsAnother_6 : decode cX0_meetsAnother 6 = .ok (.getfield 27, 3) := by decide +kernel
theorem dX0_meetsAnother_9 : decode cX0_meetsAnother 9 = .ok (.if_icmp .ge 56, 3) := by decide +kernel
theorem dX0_meetsAnother_12 : decode cX0_meetsAnother 12 = .ok (.aload_n 0, 1) := by decide +kernel
theorem dX0_meetsAnother_13 : decode cX0_meetsAnother 13 = .ok (.getfield 15, 3) := by decide +kernel
theorem dX0_meetsAnother_16 : decode cX0_meetsAnother 16 = .ok (.iload 5, 2) := by decide +kernel
theorem dX0_meetsAnother_18 : decode cX0_meetsAnother 18 = .ok (.iaload, 1) := by decide +kernel
theorem dX0_meetsAnother_19 : decode cX0_meetsAnother 19 = .ok (.iload_n 2, 1) := by decide +kernel
theorem dX0_meetsAnother_20 : decode cX0_meetsAnother 20 = .ok (.if_icmp .ne 39, 3) := by decide +kernel
theorem dX0_meetsAnother_23 : decode cX0_meetsAnother 23 = .ok (.aload_n 0, 1) := by decide +kernel
theorem dX0_meetsAnother_24 : decode cX0_meetsAnother 24 = .ok (.getfield 9, 3) := by decide +kernel
theorem dX0_meetsAnother_27 : decode cX0_meetsAnother 27 = .ok (.iload 5, 2) := by decide +kernel
theorem dX0_meetsAnother_29 : decode cX0_meetsAnother 29 = .ok (.iaload, 1) := by decide +kernel
theorem dX0_meetsAnother_30 : decode cX0_meetsAnother 30 = .ok (.iload_n 1, 1) := by decide +kernel
theorem dX0_meetsAnother_31 : decode cX0_meetsAnother 31 = .ok (.if_icmp .eq 28, 3) := by decide +kernel
theorem dX0_meetsAnother_34 : decode cX0_meetsAnother 34 = .ok (.aload_n 0, 1) := by decide +kernel
theorem dX0_meetsAnother_35 : decode cX0_meetsAnother 35 = .ok (.getfield 18, 3) := by decide +kernel
theorem dX0_meetsAnother_38 : decode cX0_meetsAnother 38 = .ok (.iload 5, 2) := by decide +kernel
theorem dX0_meetsAnother_40 : decode cX0_meetsAnother 40 = .ok (.iaload, 1) := by decide +kernel
theorem dX0_meetsAnother_41 : decode cX0_meetsAnother 41 = .ok (.iload 4, 2) := by decide +kernel
theorem dX0_meetsAnother_43 : decode cX0_meetsAnother 43 = .ok (.if_icmp .gt 16, 3) := by decide +kernel
theorem dX0_meetsAnother_46 : decode cX0_meetsAnother 46 = .ok (.iload_n 3, 1) := by decide +kernel
theorem dX0_meetsAnother_47 : decode cX0_meetsAnother 47 = .ok (.aload_n 0, 1) := by decide +kernel
theorem dX0_meetsAnother_48 : decode cX0_meetsAnother 48 = .ok (.getfield 21, 3) := by decide +kernel
theorem dX0_meetsAnother_51 : decode cX0_meetsAnother 51 = .ok (.iload 5, 2) := by decide +kernel
theorem dX0_meetsAnother_53 : decode cX0_meetsAnother 53 = .ok (.iaload, 1) := by decide +kernel
theorem dX0_meetsAnother_54 : decode cX0_meetsAnother 54 = .ok (.if_icmp .gt 5, 3) := by decide +kernel
theorem dX0_meetsAnother_57 : decode cX0_meetsAnother 57 = .ok (.iconst 1, 1) := by decide +kernel
theorem dX0_meetsAnother_58 : decode cX0_meetsAnother 58 = .ok (.ireturn, 1) := by decide +kernel
theorem dX0_meetsAnother_59 : decode cX0_meetsAnother 59 = .ok (.iinc 5 1, 3) := by decide +kernel
theorem dX0_meetsAnother_62 : decode cX0_meetsAnother 62 = .ok (.goto (-59), 3) := by decide +kernel
theorem dX0_meetsAnother_65 : decode cX0_meetsAnother 65 = .ok (.iconst 0, 1) := by decide +kernel
theorem dX0_meetsAnother_66 : decode cX0_meetsAnother 66 = .ok (.ireturn, 1) := by decide +kernel
theorem dX1_init_0 : decode cX1_init 0 = .ok (.aload_n 0, 1) := by decide +kernel
theorem dX1_init_1 : decode cX1_init 1 = .ok (.invokespecial 3, 3) := by decide +kernel
theorem dX1_init_4 : decode cX1_init 4 = .ok (.aload_n 0, 1) := by decide +kernel
theorem dX1_init_5 : decode cX1_init 5 = .ok (.bipush 8, 2) := by decide +kernel
theorem dX1_init_7 : decode cX1_init 7 = .ok (.newarray .int, 2) := by decide +kernel
theorem dX1_init_9 : decode cX1_init 9 = .ok (.putfield 9, 3) := by decide +kernel
theorem dX1_init_12 : decode cX1_init 12 = .ok (.aload_n 0, 1) := by decide +kernel
theorem dX1_init_13 : decode cX1_init 13 = .ok (.bipush 8, 2) := by decide +kernel
theorem dX1_init_15 : decode cX1_init 15 = .ok (.newarray .int, 2) := by decide +kernel
theorem dX1_init_17 : decode cX1_init 17 = .ok (.putfield 15, 3) := by decide +kernel
theorem dX1_init_20 : decode cX1_init 20 = .ok (.aload_n 0, 1) := by decide +kernel
theorem dX1_init_21 : decode cX1_init 21 = .ok (.bipush 8, 2) := by decide +kernel
theorem dX1_init_23 : decode cX1_init 23 = .ok (.newarray .int, 2) := by decide +kernel
theorem dX1_init_25 : decode cX1_init 25 = .ok (.putfield 18, 3) := by decide +kernel
theorem dX1_init_28 : decode cX1_init 28 = .ok (.return_, 1) := by decide +kernel
theorem dX2_init_0 : decode cX2_init 0 = .ok (.aload_n 0, 1) := by decide +kernel
theorem dX2_init_1 : decode cX2_init 1 = .ok (.invokespecial 3, 3) := by decide +kernel
theorem dX2_init_4 : decode cX2_init 4 = .ok (.aload_n 0, 1) := by decide +kernel
theorem dX2_init_5 : decode cX2_init 5 = .ok (.iconst 2, 1) := by decide +kernel
theorem dX2_init_6 : decode cX2_init 6 = .ok (.newarray .boolean, 2) := by decide +kernel
theorem dX2_init_8 : decode cX2_init 8 = .ok (.putfield 9, 3) := by decide +kernel
theorem dX2_init_11 : decode cX2_init 11 = .ok (.return_, 1) := by decide +kernel
theorem dX3_init_0 : decode cX3_init 0 = .ok (.aload_n 0, 1) := by decide +kernel
theorem dX3_init_1 : decode cX3_init 1 = .ok (.invokespecial 3, 3) := by decide +kernel
theorem dX3_init_4 : decode cX3_init 4 = .ok (.aload_n 0, 1) := by decide +kernel
theorem dX3_init_5 : decode cX3_init 5 = .ok (.iconst 4, 1) := by decide +kernel
theorem dX3_init_6 : decode cX3_init 6 = .ok (.newarray .int, 2) := by decide +kernel
theorem dX3_init_8 : decode cX3_init 8 = .ok (.putfield 9, 3) := by decide +kernel
theorem dX3_init_11 : decode cX3_init 11 = .ok (.aload_n 0, 1) := by decide +kernel
theorem dX3_init_12 : decode cX3_init 12 = .ok (.iconst 4, 1) := by decide +kernel
theorem dX3_init_13 : decode cX3_init 13 = .ok (.newarray .boolean, 2) := by decide +kernel
theorem dX3_init_15 : decode cX3_init 15 = .ok (.putfield 15, 3) := by decide +kernel
theorem dX3_init_18 : decode cX3_init 18 = .ok (.aload_n 0, 1) := by decide +kernel
theorem dX3_init_19 : decode cX3_init 19 = .ok (.iconst 4, 1) := by decide +kernel
theorem dX3_init_20 : decode cX3_init 20 = .ok (.newarray .boolean, 2) := by decide +kernel
theorem dX3_init_22 : decode cX3_init 22 = .ok (.putfield 19, 3) := by decide +kernel
theorem dX3_init_25 : decode cX3_init 25 = .ok (.aload_n 0, 1) := by decide +kernel
theorem dX3_init_26 : decode cX3_init 26 = .ok (.iconst 4, 1) := by decide +kernel
theorem dX3_init_27 : decode cX3_init 27 = .ok (.newarray .int, 2) := by decide +kernel
theorem dX3_init_29 : decode cX3_init 29 = .ok (.putfield 22, 3) := by decide +kernel
theorem dX3_init_32 : decode cX3_init 32 = .ok (.return_, 1) := by decide +kernel
theorem dX3_add_0 : decode cX3_add 0 = .ok (.aload_n 0, 1) := by decide +kernel
theorem dX3_add_1 : decode cX3_add 1 = .ok (.getfield 25, 3) := by decide +kernel
theorem dX3_add_4 : decode cX3_add 4 = .ok (.istore_n 3, 1) := by decide +kernel
theorem dX3_add_5 : decode cX3_add 5 = .ok (.aload_n 0, 1) := by decide +kernel
theorem dX3_add_6 : decode cX3_add 6 = .ok (.getfield 9, 3) := by decide +kernel
theorem dX3_add_9 : decode cX3_add 9 = .ok (.iload_n 3, 1) := by decide +kernel
theorem dX3_add_10 : decode cX3_add 10 = .ok (.iload_n 1, 1) := by decide +kernel
theorem dX3_add_11 : decode cX3_add 11 = .ok (.iastore, 1) := by decide +kernel
theorem dX3_add_12 : decode cX3_add 12 = .ok (.aload_n 0, 1) := by decide +kernel
theorem dX3_add_13 : decode cX3_add 13 = .ok (.getfield 15, 3) := by decide +kernel
theorem dX3_add_16 : decode cX3_add 16 = .ok (.iload_n 3, 1) := by decide +kernel
theorem dX3_add_17 : decode cX3_add 17 = .ok (.iload_n 2, 1) := by decide +kernel
theorem dX3_add_18 : decode cX3_add 18 = .ok (.bastore, 1) := by decide +kernel
theorem dX3_add_19 : decode cX3_add 19 = .ok (.aload_n 0, 1) := by decide +kernel
theorem dX3_add_20 : decode cX3_add 20 = .ok (.dup, 1) := by decide +kernel
theorem dX3_add_21 : decode cX3_add 21 = .ok (.getfield 25, 3) := by decide +kernel
theorem dX3_add_24 : decode cX3_add 24 = .ok (.iconst 1, 1) := by decide +kernel
theorem dX3_add_25 : decode cX3_add 25 = .ok (.iadd, 1) := by decide +kernel
theorem dX3_add_26 : decode cX3_add 26 = .ok (.putfield 25, 3) := by decide +kernel
theorem dX3_add_29 : decode cX3_add 29 = .ok (.iload_n 3, 1) := by decide +kernel
theorem dX3_add_30 : decode cX3_add 30 = .ok (.ireturn, 1) := by decide +kernel
theorem dX3_standingOn_0 : decode cX3_standingOn 0 = .ok (.iconst 0, 1) := by decide +kernel
theorem dX3_standingOn_1 : decode cX3_standingOn 1 = .ok (.istore_n 2, 1) := by decide +kernel
theorem dX3_standingOn_2 : decode cX3_standingOn 2 = .ok (.iload_n 2, 1) := by decide +kernel
theorem dX3_standingOn_3 : decode cX3_standingOn 3 = .ok (.aload_n 0, 1) := by decide +kernel
theorem dX3_standingOn_4 : decode cX3_standingOn 4 = .ok (.getfield 25, 3) := by decide +kernel
theorem dX3_standingOn_7 : decode cX3_standingOn 7 = .ok (.if_icmp .ge 21, 3) := by decide +kernel
theorem dX3_standingOn_10 : decode cX3_standingOn 10 = .ok (.aload_n 0, 1) := by decide +kernel
theorem dX3_standingOn_11 : decode cX3_standingOn 11 = .ok (.getfield 9, 3) := by decide +kernel
theorem dX3_standingOn_14 : decode cX3_standingOn 14 = .ok (.iload_n 2, 1) := by decide +kernel
theorem dX3_standingOn_15 : decode cX3_standingOn 15 = .ok (.iaload, 1) := by decide +kernel
theorem dX3_standingOn_16 : decode cX3_standingOn 16 = .ok (.iload_n 1, 1) := by decide +kernel
theorem dX3_standingOn_17 : decode cX3_standingOn 17 = .ok (.if_icmp .ne 5, 3) := by decide +kernel
theorem dX3_standingOn_20 : decode cX3_standingOn 20 = .ok (.iload_n 2, 1) := by decide +kernel
theorem dX3_standingOn_21 : decode cX3_standingOn 21 = .ok (.ireturn, 1) := by decide +kernel
theorem dX3_standingOn_22 : decode cX3_standingOn 22 = .ok (.iinc 2 1, 3) := by decide +kernel
theorem dX3_standingOn_25 : decode cX3_standingOn 25 = .ok (.goto (-23), 3) := by decide +kernel
theorem dX3_standingOn_28 : decode cX3_standingOn 28 = .ok (.iconst (-1), 1) := by decide +kernel
theorem dX3_standingOn_29 : decode cX3_standingOn 29 = .ok (.ireturn, 1) := by decide +kernel
theorem dX4_init_0 : decode cX4_init 0 = .ok (.aload_n 0, 1) := by decide +kernel
theorem dX4_init_1 : decode cX4_init 1 = .ok (.invokespecial 3, 3) := by decide +kernel
theorem dX4_init_4 : decode cX4_init 4 = .ok (.aload_n 0, 1) := by decide +kernel
theorem dX4_init_5 : decode cX4_init 5 = .ok (.bipush 8, 2) := by decide +kernel
theorem dX4_init_7 : decode cX4_init 7 = .ok (.newarray .int, 2) := by decide +kernel
theorem dX4_init_9 : decode cX4_init 9 = .ok (.putfield 9, 3) := by decide +kernel
theorem dX4_init_12 : decode cX4_init 12 = .ok (.aload_n 0, 1) := by decide +kernel
theorem dX4_init_13 : decode cX4_init 13 = .ok (.bipush 6, 2) := by decide +kernel
theorem dX4_init_15 : decode cX4_init 15 = .ok (.newarray .int, 2) := by decide +kernel
theorem dX4_init_17 : decode cX4_init 17 = .ok (.putfield 15, 3) := by decide +kernel
theorem dX4_init_20 : decode cX4_init 20 = .ok (.aload_n 0, 1) := by decide +kernel
theorem dX4_init_21 : decode cX4_init 21 = .ok (.bipush 48, 2) := by decide +kernel
theorem dX4_init_23 : decode cX4_init 23 = .ok (.newarray .int, 2) := by decide +kernel
theorem dX4_init_25 : decode cX4_init 25 = .ok (.putfield 18, 3) := by decide +kernel
theorem dX4_init_28 : decode cX4_init 28 = .ok (.return_, 1) := by decide +kernel
theorem dX4_rowOfSiding_0 : decode cX4_rowOfSiding 0 = .ok (.iload_n 0, 1) := by decide +kernel
theorem dX4_rowOfSiding_1 : decode cX4_rowOfSiding 1 = .ok (.bipush 6, 2) := by decide +kernel
theorem dX4_rowOfSiding_3 : decode cX4_rowOfSiding 3 = .ok (.isub, 1) := by decide +kernel
theorem dX4_rowOfSiding_4 : decode cX4_rowOfSiding 4 = .ok (.ireturn, 1) := by decide +kernel
theorem dX4_rowOfTrain_0 : decode cX4_rowOfTrain 0 = .ok (.iconst 2, 1) := by decide +kernel
theorem dX4_rowOfTrain_1 : decode cX4_rowOfTrain 1 = .ok (.iload_n 0, 1) := by decide +kernel
theorem dX4_rowOfTrain_2 : decode cX4_rowOfTrain 2 = .ok (.iadd, 1) := by decide +kernel
theorem dX4_rowOfTrain_3 : decode cX4_rowOfTrain 3 = .ok (.ireturn, 1) := by decide +kernel
theorem dX4_fromFirst_0 : decode cX4_fromFirst 0 = .ok (.iload_n 2, 1) := by decide +kernel
theorem dX4_fromFirst_1 : decode cX4_fromFirst 1 = .ok (.aload_n 0, 1) := by decide +kernel
theorem dX4_fromFirst_2 : decode cX4_fromFirst 2 = .ok (.getfield 15, 3) := by decide +kernel
theorem dX4_fromFirst_5 : decode cX4_fromFirst 5 = .ok (.iload_n 1, 1) := by decide +kernel
theorem dX4_fromFirst_6 : decode cX4_fromFirst 6 = .ok (.iaload, 1) := by decide +kernel
theorem dX4_fromFirst_7 : decode cX4_fromFirst 7 = .ok (.if_icmp .ge 17, 3) := by decide +kernel
theorem dX4_fromFirst_10 : decode cX4_fromFirst 10 = .ok (.aload_n 0, 1) := by decide +kernel
theorem dX4_fromFirst_11 : decode cX4_fromFirst 11 = .ok (.getfield 18, 3) := by decide +kernel
theorem dX4_fromFirst_14 : decode cX4_fromFirst 14 = .ok (.iload_n 1, 1) := by decide +kernel
theorem dX4_fromFirst_15 : decode cX4_fromFirst 15 = .ok (.bipush 8, 2) := by decide +kernel
theorem dX4_fromFirst_17 : decode cX4_fromFirst 17 = .ok (.imul, 1) := by decide +kernel
theorem dX4_fromFirst_18 : decode cX4_fromFirst 18 = .ok (.iload_n 2, 1) := by decide +kernel
theorem dX4_fromFirst_19 : decode cX4_fromFirst 19 = .ok (.iadd, 1) := by decide +kernel
theorem dX4_fromFirst_20 : decode cX4_fromFirst 20 = .ok (.iaload, 1) := by decide +kernel
theorem dX4_fromFirst_21 : decode cX4_fromFirst 21 = .ok (.goto 4, 3) := by decide +kernel
theorem dX4_fromFirst_24 : decode cX4_fromFirst 24 = .ok (.iconst (-1), 1) := by decide +kernel
theorem dX4_fromFirst_25 : decode cX4_fromFirst 25 = .ok (.ireturn, 1) := by decide +kernel
theorem dX4_fromLast_0 : decode cX4_fromLast 0 = .ok (.iload_n 2, 1) := by decide +kernel
theorem dX4_fromLast_1 : decode cX4_fromLast 1 = .ok (.aload_n 0, 1) := by decide +kernel
theorem dX4_fromLast_2 : decode cX4_fromLast 2 = .ok (.getfield 15, 3) := by decide +kernel
theorem dX4_fromLast_5 : decode cX4_fromLast 5 = .ok (.iload_n 1, 1) := by decide +kernel
theorem dX4_fromLast_6 : decode cX4_fromLast 6 = .ok (.iaload, 1) := by decide +kernel
theorem dX4_fromLast_7 : decode cX4_fromLast 7 = .ok (.if_icmp .ge 26, 3) := by decide +kernel
theorem dX4_fromLast_10 : decode cX4_fromLast 10 = .ok (.aload_n 0, 1) := by decide +kernel
theorem dX4_fromLast_11 : decode cX4_fromLast 11 = .ok (.getfield 18, 3) := by decide +kernel
theorem dX4_fromLast_14 : decode cX4_fromLast 14 = .ok (.iload_n 1, 1) := by decide +kernel
theorem dX4_fromLast_15 : decode cX4_fromLast 15 = .ok (.bipush 8, 2) := by decide +kernel
theorem dX4_fromLast_17 : decode cX4_fromLast 17 = .ok (.imul, 1) := by decide +kernel
theorem dX4_fromLast_18 : decode cX4_fromLast 18 = .ok (.aload_n 0, 1) := by decide +kernel
theorem dX4_fromLast_19 : decode cX4_fromLast 19 = .ok (.getfield 15, 3) := by decide +kernel
theorem dX4_fromLast_22 : decode cX4_fromLast 22 = .ok (.iload_n 1, 1) := by decide +kernel
theorem dX4_fromLast_23 : decode cX4_fromLast 23 = .ok (.iaload, 1) := by decide +kernel
theorem dX4_fromLast_24 : decode cX4_fromLast 24 = .ok (.iadd, 1) := by decide +kernel
theorem dX4_fromLast_25 : decode cX4_fromLast 25 = .ok (.iconst 1, 1) := by decide +kernel
theorem dX4_fromLast_26 : decode cX4_fromLast 26 = .ok (.isub, 1) := by decide +kernel
theorem dX4_fromLast_27 : decode cX4_fromLast 27 = .ok (.iload_n 2, 1) := by decide +kernel
theorem dX4_fromLast_28 : decode cX4_fromLast 28 = .ok (.isub, 1) := by decide +kernel
theorem dX4_fromLast_29 : decode cX4_fromLast 29 = .ok (.iaload, 1) := by decide +kernel
theorem dX4_fromLast_30 : decode cX4_fromLast 30 = .ok (.goto 4, 3) := by decide +kernel
theorem dX4_fromLast_33 : decode cX4_fromLast 33 = .ok (.iconst (-1), 1) := by decide +kernel
theorem dX4_fromLast_34 : decode cX4_fromLast 34 = .ok (.ireturn, 1) := by decide +kernel
set_option maxRecDepth 20000 in
theorem ggX5_init_X2_init : GoodIn wsX5_init wsX2_init := goodIn_r _ [26, 27, 2, 3, 28, 29, 58] (by decide +kernel) (by decide +kernel)
set_option maxRecDepth 20000 in
theorem ggX5_init_X3_init : GoodIn wsX5_init wsX3_init := goodIn_r _ [31, 32, 2, 3, 33, 34, 28, 35, 36, 37, 67, 68, 69, 70, 71] (by decide +kernel) (by decide +kernel)
set_option maxRecDepth 20000 in
theorem ggX5_init_X0_init : GoodIn wsX5_init wsX0_init := goodIn_r _ [39, 40, 2, 3, 33, 41, 42, 43, 44, 45, 72, 73, 74, 75, 76, 77] (by decide +kernel) (by decide +kernel)
set_option maxRecDepth 20000 in
theorem ggX5_init_X4_init : GoodIn wsX5_init wsX4_init := goodIn_r _ [47, 48, 2, 3, 33, 49, 50, 51, 78, 79, 80, 81] (by decide +kernel) (by decide +kernel)
set_option maxRecDepth 20000 in
theorem ggX5_init_X1_init : GoodIn wsX5_init wsX1_init := goodIn_r _ [53, 54, 2, 3, 33, 55, 56, 57, 82, 83, 84] (by decide +kernel) (by decide +kernel)
theorem dX5_init_0 : decode cX5_init 0 = .ok (.aload_n 0, 1) := by decide +kernel
theorem dX5_init_1 : decode cX5_init 1 = .ok (.invokespecial 1, 3) := by decide +kernel
theorem dX5_init_4 : decode cX5_init 4 = .ok (.aload_n 0, 1) := by decide +kernel
theorem dX5_init_5 : decode cX5_init 5 = .ok (.new 7, 3) := by decide +kernel
theorem dX5_init_8 : decode cX5_init 8 = .ok (.dup, 1) := by decide +kernel
theorem dX5_init_9 : decode cX5_init 9 = .ok (.invokespecial 9, 3) := by decide +kernel
theorem dX5_init_12 : decode cX5_init 12 = .ok (.putfield 10, 3) := by decide +kernel
theorem dX5_init_15 : decode cX5_init 15 = .ok (.aload_n 0, 1) := by decide +kernel
theorem dX5_init_16 : decode cX5_init 16 = .ok (.new 16, 3) := by decide +kernel
theorem dX5_init_19 : decode cX5_init 19 = .ok (.dup, 1) := by decide +kernel
theorem dX5_init_20 : decode cX5_init 20 = .ok (.invokespecial 18, 3) := by decide +kernel
theorem dX5_init_23 : decode cX5_init 23 = .ok (.putfield 19, 3) := by decide +kernel
theorem dX5_init_26 : decode cX5_init 26 = .ok (.aload_n 0, 1) := by decide +kernel
theorem dX5_init_27 : decode cX5_init 27 = .ok (.new 16, 3) := by decide +kernel
theorem dX5_init_30 : decode cX5_init 30 = .ok (.dup, 1) := by decide +kernel
theorem dX5_init_31 : decode cX5_init 31 = .ok (.invokespecial 18, 3) := by decide +kernel
theorem dX5_init_34 : decode cX5_init 34 = .ok (.putfield 23, 3) := by decide +kernel
theorem dX5_init_37 : decode cX5_init 37 = .ok (.aload_n 0, 1) := by decide +kernel
theorem dX5_init_38 : decode cX5_init 38 = .ok (.new 26, 3) := by decide +kernel
theorem dX5_init_41 : decode cX5_init 41 = .ok (.dup, 1) := by decide +kernel
theorem dX5_init_42 : decode cX5_init 42 = .ok (.invokespecial 28, 3) := by decide +kernel
theorem dX5_init_45 : decode cX5_init 45 = .ok (.putfield 29, 3) := by decide +kernel
theorem dX5_init_48 : decode cX5_init 48 = .ok (.aload_n 0, 1) := by decide +kernel
theorem dX5_init_49 : decode cX5_init 49 = .ok (.new 33, 3) := by decide +kernel
theorem dX5_init_52 : decode cX5_init 52 = .ok (.dup, 1) := by decide +kernel
theorem dX5_init_53 : decode cX5_init 53 = .ok (.invokespecial 35, 3) := by decide +kernel
theorem dX5_init_56 : decode cX5_init 56 = .ok (.putfield 36, 3) := by decide +kernel
theorem dX5_init_59 : decode cX5_init 59 = .ok (.aload_n 0, 1) := by decide +kernel
theorem dX5_init_60 : decode cX5_init 60 = .ok (.new 40, 3) := by decide +kernel
theorem dX5_init_63 : decode cX5_init 63 = .ok (.dup, 1) := by decide +kernel
theorem dX5_init_64 : decode cX5_init 64 = .ok (.invokespecial 42, 3) := by decide +kernel
theorem dX5_init_67 : decode cX5_init 67 = .ok (.putfield 43, 3) := by decide +kernel
theorem dX5_init_70 : decode cX5_init 70 = .ok (.return_, 1) := by decide +kernel
set_option maxRecDepth 20000 in
theorem ggX5_addTrain_X5_needBlock : GoodIn wsX5_addTrain wsX5_needBlock := goodIn_ca (goodIn_r _ [8, 9, 10] (by decide +kernel) (by decide +kernel)) (goodIn_sub (fun _ h => List.mem_cons_of_mem _ (List.mem_append_right _ h)) (by decide +kernel))
set_option maxRecDepth 20000 in
theorem gX5_addTrain_X5_needBlock : GoodIn wsX5_addTrain (va_wsS RX5 47 yX5_needBlock wsX5_needBlock) := goodIn_app (goodIn_of _ (by decide +kernel)) ggX5_addTrain_X5_needBlock
set_option maxRecDepth 20000 in
theorem ggX5_addTrain_X3_standingOn : GoodIn wsX5_addTrain wsX3_standingOn := goodIn_r _ [15, 16, 17, 31, 32, 33, 34, 35] (by decide +kernel) (by decide +kernel)
set_option maxRecDepth 20000 in
theorem gX5_addTrain_X3_standingOn : GoodIn wsX5_addTrain (wsV RX5 62 RX3 yX3_standingOn wsX3_standingOn) := goodIn_app (goodIn_of _ (by decide +kernel)) ggX5_addTrain_X3_standingOn
set_option maxRecDepth 20000 in
theorem ggX5_addTrain_X3_add : GoodIn wsX5_addTrain wsX3_add := goodIn_r _ [21, 16, 17, 22, 31, 32, 33, 34, 35] (by decide +kernel) (by decide +kernel)
set_option maxRecDepth 20000 in
theorem gX5_addTrain_X3_add : GoodIn wsX5_addTrain (wsV RX5 68 RX3 yX3_add wsX3_add) := goodIn_app (goodIn_of _ (by decide +kernel)) ggX5_addTrain_X3_add
theorem dX5_addTrain_0 : decode cX5_addTrain 0 = .ok (.iload_n 1, 1) := by decide +kernel
theorem dX5_addTrain_1 : decode cX5_addTrain 1 = .ok (.invokestatic 47, 3) := by decide +kernel
theorem dX5_addTrain_4 : decode cX5_addTrain 4 = .ok (.aload_n 0, 1) := by decide +kernel
theorem dX5_addTrain_5 : decode cX5_addTrain 5 = .ok (.getfield 19, 3) := by decide +kernel
theorem dX5_addTrain_8 : decode cX5_addTrain 8 = .ok (.getfield 51, 3) := by decide +kernel
theorem dX5_addTrain_11 : decode cX5_addTrain 11 = .ok (.iconst 4, 1) := by decide +kernel
theorem dX5_addTrain_12 : decode cX5_addTrain 12 = .ok (.if_icmp .lt 13, 3) := by decide +kernel
theorem dX5_addTrain_15 : decode cX5_addTrain 15 = .ok (.new 55, 3) := by decide +kernel
theorem dX5_addTrain_18 : decode cX5_addTrain 18 = .ok (.dup, 1) := by decide +kernel
theorem dX5_addTrain_19 : decode cX5_addTrain 19 = .ok (.ldc 57, 2) := by decide +kernel
theorem dX5_addTrain_21 : decode cX5_addTrain 21 = .ok (.invokespecial 59, 3) := by decide +kernel
theorem dX5_addTrain_24 : decode cX5_addTrain 24 = .ok (.athrow, 1) := by decide +kernel
theorem dX5_addTrain_25 : decode cX5_addTrain 25 = .ok (.aload_n 0, 1) := by decide +kernel
theorem dX5_addTrain_26 : decode cX5_addTrain 26 = .ok (.getfield 19, 3) := by decide +kernel
theorem dX5_addTrain_29 : decode cX5_addTrain 29 = .ok (.iload_n 1, 1) := by decide +kernel
theorem dX5_addTrain_30 : decode cX5_addTrain 30 = .ok (.invokevirtual 62, 3) := by decide +kernel
theorem dX5_addTrain_33 : decode cX5_addTrain 33 = .ok (.iconst (-1), 1) := by decide +kernel
theorem dX5_addTrain_34 : decode cX5_addTrain 34 = .ok (.if_icmp .eq 13, 3) := by decide +kernel
theorem dX5_addTrain_37 : decode cX5_addTrain 37 = .ok (.new 55, 3) := by decide +kernel
theorem dX5_addTrain_40 : decode cX5_addTrain 40 = .ok (.dup, 1) := by decide +kernel
theorem dX5_addTrain_41 : decode cX5_addTrain 41 = .ok (.ldc 66, 2) := by decide +kernel
theorem dX5_addTrain_43 : decode cX5_addTrain 43 = .ok (.invokespecial 59, 3) := by decide +kernel
theorem dX5_addTrain_46 : decode cX5_addTrain 46 = .ok (.athrow, 1) := by decide +kernel
theorem dX5_addTrain_47 : decode cX5_addTrain 47 = .ok (.aload_n 0, 1) := by decide +kernel
theorem dX5_addTrain_48 : decode cX5_addTrain 48 = .ok (.getfield 19, 3) := by decide +kernel
theorem dX5_addTrain_51 : decode cX5_addTrain 51 = .ok (.iload_n 1, 1) := by decide +kernel
theorem dX5_addTrain_52 : decode cX5_addTrain 52 = .ok (.iload_n 2, 1) := by decide +kernel
theorem dX5_addTrain_53 : decode cX5_addTrain 53 = .ok (.invokevirtual 68, 3) := by decide +kernel
theorem dX5_addTrain_56 : decode cX5_addTrain 56 = .ok (.ireturn, 1) := by decide +kernel
set_option maxRecDepth 20000 in
theorem ggX5_block_X5_needTrain : GoodIn wsX5_block wsX5_needTrain := goodIn_ca (goodIn_r _ [7, 8, 9, 1, 10, 11, 12, 13, 14, 15, 16, 17, 18, 19, 20, 21, 22, 23] (by decide +kernel) (by decide +kernel)) (goodIn_sub (fun _ h => List.mem_cons_of_mem _ (List.mem_append_right _ h)) (by decide +kernel))
set_option maxRecDepth 20000 in
theorem gX5_block_X5_needTrain : GoodIn wsX5_block (wsV RX5 72 RX5 yX5_needTrain wsX5_needTrain) := goodIn_app (goodIn_of _ (by decide +kernel)) ggX5_block_X5_needTrain
theorem dX5_block_0 : decode cX5_block 0 = .ok (.aload_n 0, 1) := by decide +kernel
theorem dX5_block_1 : decode cX5_block 1 = .ok (.iload_n 1, 1) := by decide +kernel
theorem dX5_block_2 : decode cX5_block 2 = .ok (.invokevirtual 72, 3) := by decide +kernel
theorem dX5_block_5 : decode cX5_block 5 = .ok (.aload_n 0, 1) := by decide +kernel
theorem dX5_block_6 : decode cX5_block 6 = .ok (.getfield 19, 3) := by decide +kernel
theorem dX5_block_9 : decode cX5_block 9 = .ok (.getfield 103, 3) := by decide +kernel
theorem dX5_block_12 : decode cX5_block 12 = .ok (.iload_n 1, 1) := by decide +kernel
theorem dX5_block_13 : decode cX5_block 13 = .ok (.iaload, 1) := by decide +kernel
theorem dX5_block_14 : decode cX5_block 14 = .ok (.ireturn, 1) := by decide +kernel
set_option maxRecDepth 20000 in
theorem ggX5_isRight_X5_needTrain : GoodIn wsX5_isRight wsX5_needTrain := goodIn_ca (goodIn_r _ [7, 8, 9, 1, 10, 11, 12, 13, 14, 15, 16, 17, 18, 19, 20, 21, 22, 23] (by decide +kernel) (by decide +kernel)) (goodIn_sub (fun _ h => List.mem_cons_of_mem _ (List.mem_append_right _ h)) (by decide +kernel))
set_option maxRecDepth 20000 in
theorem gX5_isRight_X5_needTrain : GoodIn wsX5_isRight (wsV RX5 72 RX5 yX5_needTrain wsX5_needTrain) := goodIn_app (goodIn_of _ (by decide +kernel)) ggX5_isRight_X5_needTrain
theorem dX5_isRight_0 : decode cX5_isRight 0 = .ok (.aload_n 0, 1) := by decide +kernel
theorem dX5_isRight_1 : decode cX5_isRight 1 = .ok (.iload_n 1, 1) := by decide +kernel
theorem dX5_isRight_2 : decode cX5_isRight 2 = .ok (.invokevirtual 72, 3) := by decide +kernel
theorem dX5_isRight_5 : decode cX5_isRight 5 = .ok (.aload_n 0, 1) := by decide +kernel
theorem dX5_isRight_6 : decode cX5_isRight 6 = .ok (.getfield 19, 3) := by decide +kernel
theorem dX5_isRight_9 : decode cX5_isRight 9 = .ok (.getfield 106, 3) := by decide +kernel
theorem dX5_isRight_12 : decode cX5_isRight 12 = .ok (.iload_n 1, 1) := by decide +kernel
theorem dX5_isRight_13 : decode cX5_isRight 13 = .ok (.baload, 1) := by decide +kernel
theorem dX5_isRight_14 : decode cX5_isRight 14 = .ok (.ireturn, 1) := by decide +kernel
set_option maxRecDepth 20000 in
theorem ggX5_trainOn_X5_needBlock : GoodIn wsX5_trainOn wsX5_needBlock := goodIn_ca (goodIn_r _ [5, 6, 7] (by decide +kernel) (by decide +kernel)) (goodIn_sub (fun _ h => List.mem_cons_of_mem _ (List.mem_append_right _ h)) (by decide +kernel))
set_option maxRecDepth 20000 in
theorem gX5_trainOn_X5_needBlock : GoodIn wsX5_trainOn (va_wsS RX5 47 yX5_needBlock wsX5_needBlock) := goodIn_app (goodIn_of _ (by decide +kernel)) ggX5_trainOn_X5_needBlock
set_option maxRecDepth 20000 in
theorem ggX5_trainOn_X3_standingOn : GoodIn wsX5_trainOn wsX3_standingOn := goodIn_r _ [12, 13, 14, 23, 24, 25, 26, 27] (by decide +kernel) (by decide +kernel)
set_option maxRecDepth 20000 in
theorem gX5_trainOn_X3_standingOn : GoodIn wsX5_trainOn (wsV RX5 62 RX3 yX3_standingOn wsX3_standingOn) := goodIn_app (goodIn_of _ (by decide +kernel)) ggX5_trainOn_X3_standingOn
theorem dX5_trainOn_0 : decode cX5_trainOn 0 = .ok (.iload_n 1, 1) := by decide +kernel
theorem dX5_trainOn_1 : decode cX5_trainOn 1 = .ok (.invokestatic 47, 3) := by decide +kernel
theorem dX5_trainOn_4 : decode cX5_trainOn 4 = .ok (.aload_n 0, 1) := by decide +kernel
theorem dX5_trainOn_5 : decode cX5_trainOn 5 = .ok (.getfield 19, 3) := by decide +kernel
theorem dX5_trainOn_8 : decode cX5_trainOn 8 = .ok (.iload_n 1, 1) := by decide +kernel
theorem dX5_trainOn_9 : decode cX5_trainOn 9 = .ok (.invokevirtual 62, 3) := by decide +kernel
theorem dX5_trainOn_12 : decode cX5_trainOn 12 = .ok (.ireturn, 1) := by decide +kernel
theorem dX5_clock_0 : decode cX5_clock 0 = .ok (.aload_n 0, 1) := by decide +kernel
theorem dX5_clock_1 : decode cX5_clock 1 = .ok (.getfield 109, 3) := by decide +kernel
theorem dX5_clock_4 : decode cX5_clock 4 = .ok (.ireturn, 1) := by decide +kernel
set_option maxRecDepth 20000 in
theorem ggX5_canBook_X5_needTrain : GoodIn wsX5_canBook wsX5_needTrain := goodIn_ca (goodIn_r _ [6, 7, 8, 9, 10, 29, 30, 31, 32, 33, 34, 35, 36, 37, 38, 39, 40, 41] (by decide +kernel) (by decide +kernel)) (goodIn_sub (fun _ h => List.mem_cons_of_mem _ (List.mem_append_left _ (List.mem_append_right _ h))) (by decide +kernel))
set_option maxRecDepth 20000 in
theorem gX5_canBook_X5_needTrain : GoodIn wsX5_canBook (wsV RX5 72 RX5 yX5_needTrain wsX5_needTrain) := goodIn_app (goodIn_of _ (by decide +kernel)) ggX5_canBook_X5_needTrain
set_option maxRecDepth 20000 in
theorem ggX5_canBook_X5_needBlock : GoodIn wsX5_canBook wsX5_needBlock := goodIn_ca (goodIn_r _ [13, 7, 8] (by decide +kernel) (by decide +kernel)) (goodIn_sub (fun _ h => List.mem_cons_of_mem _ (List.mem_append_left _ (List.mem_append_right _ h))) (by decide +kernel))
set_option maxRecDepth 20000 in
theorem gX5_canBook_X5_needBlock : GoodIn wsX5_canBook (va_wsS RX5 47 yX5_needBlock wsX5_needBlock) := goodIn_app (goodIn_of _ (by decide +kernel)) ggX5_canBook_X5_needBlock
set_option maxRecDepth 20000 in
theorem ggX5_canBook_X5_needSpan : GoodIn wsX5_canBook wsX5_needSpan := goodIn_ca (goodIn_r _ [16, 17, 18] (by decide +kernel) (by decide +kernel)) (goodIn_sub (fun _ h => List.mem_cons_of_mem _ (List.mem_append_right _ h)) (by decide +kernel))
set_option maxRecDepth 20000 in
theorem gX5_canBook_X5_needSpan : GoodIn wsX5_canBook (va_wsS RX5 126 yX5_needSpan wsX5_needSpan) := goodIn_app (goodIn_of _ (by decide +kernel)) ggX5_canBook_X5_needSpan
set_option maxRecDepth 20000 in
theorem ggX5_canBook_X0_meetsAnother : GoodIn wsX5_canBook wsX0_meetsAnother := goodIn_r _ [23, 24, 25, 26, 27, 28, 42, 43, 44, 45, 46, 47] (by decide +kernel) (by decide +kernel)
set_option maxRecDepth 20000 in
theorem gX5_canBook_X0_meetsAnother : GoodIn wsX5_canBook (wsV RX5 133 RX0 yX0_meetsAnother wsX0_meetsAnother) := goodIn_app (goodIn_of _ (by decide +kernel)) ggX5_canBook_X0_meetsAnother
theorem dX5_canBook_0 : decode cX5_canBook 0 = .ok (.aload_n 0, 1) := by decide +kernel
theorem dX5_canBook_1 : decode cX5_canBook 1 = .ok (.iload_n 1, 1) := by decide +kernel
theorem dX5_canBook_2 : decode cX5_canBook 2 = .ok (.invokevirtual 72, 3) := by decide +kernel
theorem dX5_canBook_5 : decode cX5_canBook 5 = .ok (.iload_n 2, 1) := by decide +kernel
theorem dX5_canBook_6 : decode cX5_canBook 6 = .ok (.invokestatic 47, 3) := by decide +kernel
theorem dX5_canBook_9 : decode cX5_canBook 9 = .ok (.iconst 0, 1) := by decide +kernel
theorem dX5_canBook_10 : decode cX5_canBook 10 = .ok (.iload_n 3, 1) := by decide +kernel
theorem dX5_canBook_11 : decode cX5_canBook 11 = .ok (.iload 4, 2) := by decide +kernel
theorem dX5_canBook_13 : decode cX5_canBook 13 = .ok (.invokestatic 126, 3) := by decide +kernel
theorem dX5_canBook_16 : decode cX5_canBook 16 = .ok (.aload_n 0, 1) := by decide +kernel
theorem dX5_canBook_17 : decode cX5_canBook 17 = .ok (.getfield 29, 3) := by decide +kernel
theorem dX5_canBook_20 : decode cX5_canBook 20 = .ok (.iload_n 1, 1) := by decide +kernel
theorem dX5_canBook_21 : decode cX5_canBook 21 = .ok (.iload_n 2, 1) := by decide +kernel
theorem dX5_canBook_22 : decode cX5_canBook 22 = .ok (.iload_n 3, 1) := by decide +kernel
theorem dX5_canBook_23 : decode cX5_canBook 23 = .ok (.iload 4, 2) := by decide +kernel
theorem dX5_canBook_25 : decode cX5_canBook 25 = .ok (.invokevirtual 133, 3) := by decide +kernel
theorem dX5_canBook_28 : decode cX5_canBook 28 = .ok (.ifCond .ne 7, 3) := by decide +kernel
theorem dX5_canBook_31 : decode cX5_canBook 31 = .ok (.iconst 1, 1) := by decide +kernel
theorem dX5_canBook_32 : decode cX5_canBook 32 = .ok (.goto 4, 3) := by decide +kernel
theorem dX5_canBook_35 : decode cX5_canBook 35 = .ok (.iconst 0, 1) := by decide +kernel
theorem dX5_canBook_36 : decode cX5_canBook 36 = .ok (.ireturn, 1) := by decide +kernel
set_option maxRecDepth 20000 in
theorem ggX5_booking_X5_needBooking : GoodIn wsX5_booking wsX5_needBooking := goodIn_ca (goodIn_r _ [9, 10, 11, 1, 12, 13, 14, 15, 16, 17, 18, 19, 20, 21, 22, 23, 24, 25, 26] (by decide +kernel) (by decide +kernel)) (goodIn_sub (fun _ h => List.mem_cons_of_mem _ (List.mem_append_right _ h)) (by decide +kernel))
set_option maxRecDepth 20000 in
theorem gX5_booking_X5_needBooking : GoodIn wsX5_booking (wsV RX5 144 RX5 yX5_needBooking wsX5_needBooking) := goodIn_app (goodIn_of _ (by decide +kernel)) ggX5_booking_X5_needBooking
theorem dX5_booking_0 : decode cX5_booking 0 = .ok (.aload_n 0, 1) := by decide +kernel
theorem dX5_booking_1 : decode cX5_booking 1 = .ok (.iload_n 1, 1) := by decide +kernel
theorem dX5_booking_2 : decode cX5_booking 2 = .ok (.invokevirtual 144, 3) := by decide +kernel
theorem dX5_booking_5 : decode cX5_booking 5 = .ok (.aload_n 0, 1) := by decide +kernel
theorem dX5_booking_6 : decode cX5_booking 6 = .ok (.getfield 29, 3) := by decide +kernel
theorem dX5_booking_9 : decode cX5_booking 9 = .ok (.getfield 147, 3) := by decide +kernel
theorem dX5_booking_12 : decode cX5_booking 12 = .ok (.iload_n 1, 1) := by decide +kernel
theorem dX5_booking_13 : decode cX5_booking 13 = .ok (.iaload, 1) := by decide +kernel
theorem dX5_booking_14 : decode cX5_booking 14 = .ok (.iconst (-1), 1) := by decide +kernel
theorem dX5_booking_15 : decode cX5_booking 15 = .ok (.if_icmp .eq 5, 3) := by decide +kernel
theorem dX5_booking_18 : decode cX5_booking 18 = .ok (.iconst 1, 1) := by decide +kernel
theorem dX5_booking_19 : decode cX5_booking 19 = .ok (.ireturn, 1) := by decide +kernel
theorem dX5_booking_20 : decode cX5_booking 20 = .ok (.aload_n 0, 1) := by decide +kernel
theorem dX5_booking_21 : decode cX5_booking 21 = .ok (.getfield 29, 3) := by decide +kernel
theorem dX5_booking_24 : decode cX5_booking 24 = .ok (.getfield 150, 3) := by decide +kernel
theorem dX5_booking_27 : decode cX5_booking 27 = .ok (.iload_n 1, 1) := by decide +kernel
theorem dX5_booking_28 : decode cX5_booking 28 = .ok (.iaload, 1) := by decide +kernel
theorem dX5_booking_29 : decode cX5_booking 29 = .ok (.aload_n 0, 1) := by decide +kernel
theorem dX5_booking_30 : decode cX5_booking 30 = .ok (.getfield 109, 3) := by decide +kernel
theorem dX5_booking_33 : decode cX5_booking 33 = .ok (.if_icmp .ge 7, 3) := by decide +kernel
theorem dX5_booking_36 : decode cX5_booking 36 = .ok (.iconst 2, 1) := by decide +kernel
theorem dX5_booking_37 : decode cX5_booking 37 = .ok (.goto 4, 3) := by decide +kernel
theorem dX5_booking_40 : decode cX5_booking 40 = .ok (.iconst 0, 1) := by decide +kernel
theorem dX5_booking_41 : decode cX5_booking 41 = .ok (.ireturn, 1) := by decide +kernel
set_option maxRecDepth 20000 in
theorem ggX5_late_X5_needBooking : GoodIn wsX5_late wsX5_needBooking := goodIn_ca (goodIn_r _ [7, 8, 9, 1, 10, 11, 12, 13, 14, 15, 16, 17, 18, 19, 20, 21, 22, 23, 24] (by decide +kernel) (by decide +kernel)) (goodIn_sub (fun _ h => List.mem_cons_of_mem _ (List.mem_append_right _ h)) (by decide +kernel))
set_option maxRecDepth 20000 in
theorem gX5_late_X5_needBooking : GoodIn wsX5_late (wsV RX5 144 RX5 yX5_needBooking wsX5_needBooking) := goodIn_app (goodIn_of _ (by decide +kernel)) ggX5_late_X5_needBooking
theorem dX5_late_0 : decode cX5_late 0 = .ok (.aload_n 0, 1) := by decide +kernel
theorem dX5_late_1 : decode cX5_late 1 = .ok (.iload_n 1, 1) := by decide +kernel
theorem dX5_late_2 : decode cX5_late 2 = .ok (.invokevirtual 144, 3) := by decide +kernel
theorem dX5_late_5 : decode cX5_late 5 = .ok (.aload_n 0, 1) := by decide +kernel
theorem dX5_late_6 : decode cX5_late 6 = .ok (.getfield 29, 3) := by decide +kernel
theorem dX5_late_9 : decode cX5_late 9 = .ok (.getfield 147, 3) := by decide +kernel
theorem dX5_late_12 : decode cX5_late 12 = .ok (.iload_n 1, 1) := by decide +kernel
theorem dX5_late_13 : decode cX5_late 13 = .ok (.iaload, 1) := by decide +kernel
theorem dX5_late_14 : decode cX5_late 14 = .ok (.ireturn, 1) := by decide +kernel
set_option maxRecDepth 20000 in
theorem ggX5_waggonAt_X5_isSiding : GoodIn wsX5_waggonAt wsX5_isSiding := goodIn_r _ [9] (by decide +kernel) (by decide +kernel)
set_option maxRecDepth 20000 in
theorem gX5_waggonAt_X5_isSiding : GoodIn wsX5_waggonAt (va_wsS RX5 212 yX5_isSiding wsX5_isSiding) := goodIn_app (goodIn_of _ (by decide +kernel)) ggX5_waggonAt_X5_isSiding
set_option maxRecDepth 20000 in
theorem ggX5_waggonAt_X4_rowOfSiding : GoodIn wsX5_waggonAt wsX4_rowOfSiding := goodIn_r _ [13] (by decide +kernel) (by decide +kernel)
set_option maxRecDepth 20000 in
theorem gX5_waggonAt_X4_rowOfSiding : GoodIn wsX5_waggonAt (va_wsS RX5 164 yX4_rowOfSiding wsX4_rowOfSiding) := goodIn_app (goodIn_of _ (by decide +kernel)) ggX5_waggonAt_X4_rowOfSiding
set_option maxRecDepth 20000 in
theorem ggX5_waggonAt_X4_fromLast : GoodIn wsX5_waggonAt wsX4_fromLast := goodIn_r _ [17, 18, 19, 40, 41, 42, 43] (by decide +kernel) (by decide +kernel)
set_option maxRecDepth 20000 in
theorem gX5_waggonAt_X4_fromLast : GoodIn wsX5_waggonAt (wsV RX5 219 RX4 yX4_fromLast wsX4_fromLast) := goodIn_app (goodIn_of _ (by decide +kernel)) ggX5_waggonAt_X4_fromLast
set_option maxRecDepth 20000 in
theorem ggX5_waggonAt_X4_rowOfTrain : GoodIn wsX5_waggonAt wsX4_rowOfTrain := goodIn_r _ [22] (by decide +kernel) (by decide +kernel)
set_option maxRecDepth 20000 in
theorem gX5_waggonAt_X4_rowOfTrain : GoodIn wsX5_waggonAt (va_wsS RX5 183 yX4_rowOfTrain wsX4_rowOfTrain) := goodIn_app (goodIn_of _ (by decide +kernel)) ggX5_waggonAt_X4_rowOfTrain
set_option maxRecDepth 20000 in
theorem ggX5_waggonAt_X4_fromFirst : GoodIn wsX5_waggonAt wsX4_fromFirst := goodIn_r _ [26, 18, 19, 40, 41, 42, 43] (by decide +kernel) (by decide +kernel)
set_option maxRecDepth 20000 in
theorem gX5_waggonAt_X4_fromFirst : GoodIn wsX5_waggonAt (wsV RX5 222 RX4 yX4_fromFirst wsX4_fromFirst) := goodIn_app (goodIn_of _ (by decide +kernel)) ggX5_waggonAt_X4_fromFirst
theorem dX5_waggonAt_0 : decode cX5_waggonAt 0 = .ok (.iload_n 1, 1) := by decide +kernel
theorem dX5_waggonAt_1 : decode cX5_waggonAt 1 = .ok (.invokestatic 212, 3) := by decide +kernel
theorem dX5_waggonAt_4 : decode cX5_waggonAt 4 = .ok (.istore_n 3, 1) := by decide +kernel
theorem dX5_waggonAt_5 : decode cX5_waggonAt 5 = .ok (.iload_n 3, 1) := by decide +kernel
theorem dX5_waggonAt_6 : decode cX5_waggonAt 6 = .ok (.ifCond .ne 33, 3) := by decide +kernel
theorem dX5_waggonAt_9 : decode cX5_waggonAt 9 = .ok (.iload_n 1, 1) := by decide +kernel
theorem dX5_waggonAt_10 : decode cX5_waggonAt 10 = .ok (.bipush 10, 2) := by decide +kernel
theorem dX5_waggonAt_12 : decode cX5_waggonAt 12 = .ok (.if_icmp .lt 17, 3) := by decide +kernel
theorem dX5_waggonAt_15 : decode cX5_waggonAt 15 = .ok (.iload_n 1, 1) := by decide +kernel
theorem dX5_waggonAt_16 : decode cX5_waggonAt 16 = .ok (.bipush 10, 2) := by decide +kernel
theorem dX5_waggonAt_18 : decode cX5_waggonAt 18 = .ok (.aload_n 0, 1) := by decide +kernel
theorem dX5_waggonAt_19 : decode cX5_waggonAt 19 = .ok (.getfield 19, 3) := by decide +kernel
theorem dX5_waggonAt_22 : decode cX5_waggonAt 22 = .ok (.getfield 51, 3) := by decide +kernel
theorem dX5_waggonAt_25 : decode cX5_waggonAt 25 = .ok (.iadd, 1) := by decide +kernel
theorem dX5_waggonAt_26 : decode cX5_waggonAt 26 = .ok (.if_icmp .lt 13, 3) := by decide +kernel
theorem dX5_waggonAt_29 : decode cX5_waggonAt 29 = .ok (.new 95, 3) := by decide +kernel
theorem dX5_waggonAt_32 : decode cX5_waggonAt 32 = .ok (.dup, 1) := by decide +kernel
theorem dX5_waggonAt_33 : decode cX5_waggonAt 33 = .ok (.ldc 215, 2) := by decide +kernel
theorem dX5_waggonAt_35 : decode cX5_waggonAt 35 = .ok (.invokespecial 99, 3) := by decide +kernel
theorem dX5_waggonAt_38 : decode cX5_waggonAt 38 = .ok (.athrow, 1) := by decide +kernel
theorem dX5_waggonAt_39 : decode cX5_waggonAt 39 = .ok (.iload_n 2, 1) := by decide +kernel
theorem dX5_waggonAt_40 : decode cX5_waggonAt 40 = .ok (.ifCond .ge 13, 3) := by decide +kernel
theorem dX5_waggonAt_43 : decode cX5_waggonAt 43 = .ok (.new 95, 3) := by decide +kernel
theorem dX5_waggonAt_46 : decode cX5_waggonAt 46 = .ok (.dup, 1) := by decide +kernel
theorem dX5_waggonAt_47 : decode cX5_waggonAt 47 = .ok (.ldc 217, 2) := by decide +kernel
theorem dX5_waggonAt_49 : decode cX5_waggonAt 49 = .ok (.invokespecial 99, 3) := by decide +kernel
theorem dX5_waggonAt_52 : decode cX5_waggonAt 52 = .ok (.athrow, 1) := by decide +kernel
theorem dX5_waggonAt_53 : decode cX5_waggonAt 53 = .ok (.iload_n 3, 1) := by decide +kernel
theorem dX5_waggonAt_54 : decode cX5_waggonAt 54 = .ok (.ifCond .eq 16, 3) := by decide +kernel
theorem dX5_waggonAt_57 : decode cX5_waggonAt 57 = .ok (.aload_n 0, 1) := by decide +kernel
theorem dX5_waggonAt_58 : decode cX5_waggonAt 58 = .ok (.getfield 36, 3) := by decide +kernel
theorem dX5_waggonAt_61 : decode cX5_waggonAt 61 = .ok (.iload_n 1, 1) := by decide +kernel
theorem dX5_waggonAt_62 : decode cX5_waggonAt 62 = .ok (.invokestatic 164, 3) := by decide +kernel
theorem dX5_waggonAt_65 : decode cX5_waggonAt 65 = .ok (.iload_n 2, 1) := by decide +kernel
theorem dX5_waggonAt_66 : decode cX5_waggonAt 66 = .ok (.invokevirtual 219, 3) := by decide +kernel
theorem dX5_waggonAt_69 : decode cX5_waggonAt 69 = .ok (.ireturn, 1) := by decide +kernel
theorem dX5_waggonAt_70 : decode cX5_waggonAt 70 = .ok (.aload_n 0, 1) := by decide +kernel
theorem dX5_waggonAt_71 : decode cX5_waggonAt 71 = .ok (.getfield 36, 3) := by decide +kernel
theorem dX5_waggonAt_74 : decode cX5_waggonAt 74 = .ok (.iload_n 1, 1) := by decide +kernel
theorem dX5_waggonAt_75 : decode cX5_waggonAt 75 = .ok (.bipush 10, 2) := by decide +kernel
theorem dX5_waggonAt_77 : decode cX5_waggonAt 77 = .ok (.isub, 1) := by decide +kernel
theorem dX5_waggonAt_78 : decode cX5_waggonAt 78 = .ok (.invokestatic 183, 3) := by decide +kernel
theorem dX5_waggonAt_81 : decode cX5_waggonAt 81 = .ok (.iload_n 2, 1) := by decide +kernel
theorem dX5_waggonAt_82 : decode cX5_waggonAt 82 = .ok (.invokevirtual 222, 3) := by decide +kernel
theorem dX5_waggonAt_85 : decode cX5_waggonAt 85 = .ok (.ireturn, 1) := by decide +kernel
theorem dX5_earned_0 : decode cX5_earned 0 = .ok (.aload_n 0, 1) := by decide +kernel
theorem dX5_earned_1 : decode cX5_earned 1 = .ok (.getfield 209, 3) := by decide +kernel
theorem dX5_earned_4 : decode cX5_earned 4 = .ok (.ireturn, 1) := by decide +kernel
theorem dX5_needTrain_0 : decode cX5_needTrain 0 = .ok (.iload_n 1, 1) := by decide +kernel
theorem dX5_needTrain_1 : decode cX5_needTrain 1 = .ok (.ifCond .lt 14, 3) := by decide +kernel
theorem dX5_needTrain_4 : decode cX5_needTrain 4 = .ok (.iload_n 1, 1) := by decide +kernel
theorem dX5_needTrain_5 : decode cX5_needTrain 5 = .ok (.aload_n 0, 1) := by decide +kernel
theorem dX5_needTrain_6 : decode cX5_needTrain 6 = .ok (.getfield 19, 3) := by decide +kernel
theorem dX5_needTrain_9 : decode cX5_needTrain 9 = .ok (.getfield 51, 3) := by decide +kernel
theorem dX5_needTrain_12 : decode cX5_needTrain 12 = .ok (.if_icmp .lt 13, 3) := by decide +kernel
theorem dX5_needTrain_15 : decode cX5_needTrain 15 = .ok (.new 95, 3) := by decide +kernel
theorem dX5_needTrain_18 : decode cX5_needTrain 18 = .ok (.dup, 1) := by decide +kernel
theorem dX5_needTrain_19 : decode cX5_needTrain 19 = .ok (.ldc 225, 2) := by decide +kernel
theorem dX5_needTrain_21 : decode cX5_needTrain 21 = .ok (.invokespecial 99, 3) := by decide +kernel
theorem dX5_needTrain_24 : decode cX5_needTrain 24 = .ok (.athrow, 1) := by decide +kernel
theorem dX5_needTrain_25 : decode cX5_needTrain 25 = .ok (.return_, 1) := by decide +kernel
theorem dX5_needBooking_0 : decode cX5_needBooking 0 = .ok (.iload_n 1, 1) := by decide +kernel
theorem dX5_needBooking_1 : decode cX5_needBooking 1 = .ok (.ifCond .lt 14, 3) := by decide +kernel
theorem dX5_needBooking_4 : decode cX5_needBooking 4 = .ok (.iload_n 1, 1) := by decide +kernel
theorem dX5_needBooking_5 : decode cX5_needBooking 5 = .ok (.aload_n 0, 1) := by decide +kernel
theorem dX5_needBooking_6 : decode cX5_needBooking 6 = .ok (.getfield 29, 3) := by decide +kernel
theorem dX5_needBooking_9 : decode cX5_needBooking 9 = .ok (.getfield 130, 3) := by decide +kernel
theorem dX5_needBooking_12 : decode cX5_needBooking 12 = .ok (.if_icmp .lt 13, 3) := by decide +kernel
theorem dX5_needBooking_15 : decode cX5_needBooking 15 = .ok (.new 95, 3) := by decide +kernel
theorem dX5_needBooking_18 : decode cX5_needBooking 18 = .ok (.dup, 1) := by decide +kernel
theorem dX5_needBooking_19 : decode cX5_needBooking 19 = .ok (.ldc 227, 2) := by decide +kernel
theorem dX5_needBooking_21 : decode cX5_needBooking 21 = .ok (.invokespecial 99, 3) := by decide +kernel
theorem dX5_needBooking_24 : decode cX5_needBooking 24 = .ok (.athrow, 1) := by decide +kernel
theorem dX5_needBooking_25 : decode cX5_needBooking 25 = .ok (.return_, 1) := by decide +kernel
theorem dX5_needBlock_0 : decode cX5_needBlock 0 = .ok (.iload_n 0, 1) := by decide +kernel
theorem dX5_needBlock_1 : decode cX5_needBlock 1 = .ok (.ifCond .lt 9, 3) := by decide +kernel
theorem dX5_needBlock_4 : decode cX5_needBlock 4 = .ok (.iload_n 0, 1) := by decide +kernel
theorem dX5_needBlock_5 : decode cX5_needBlock 5 = .ok (.bipush 8, 2) := by decide +kernel
theorem dX5_needBlock_7 : decode cX5_needBlock 7 = .ok (.if_icmp .lt 13, 3) := by decide +kernel
theorem dX5_needBlock_10 : decode cX5_needBlock 10 = .ok (.new 95, 3) := by decide +kernel
theorem dX5_needBlock_13 : decode cX5_needBlock 13 = .ok (.dup, 1) := by decide +kernel
theorem dX5_needBlock_14 : decode cX5_needBlock 14 = .ok (.ldc 229, 2) := by decide +kernel
theorem dX5_needBlock_16 : decode cX5_needBlock 16 = .ok (.invokespecial 99, 3) := by decide +kernel
theorem dX5_needBlock_19 : decode cX5_needBlock 19 = .ok (.athrow, 1) := by decide +kernel
theorem dX5_needBlock_20 : decode cX5_needBlock 20 = .ok (.return_, 1) := by decide +kernel
theorem dX5_isSiding_0 : decode cX5_isSiding 0 = .ok (.iload_n 0, 1) := by decide +kernel
theorem dX5_isSiding_1 : decode cX5_isSiding 1 = .ok (.bipush 6, 2) := by decide +kernel
theorem dX5_isSiding_3 : decode cX5_isSiding 3 = .ok (.if_icmp .lt 13, 3) := by decide +kernel
theorem dX5_isSiding_6 : decode cX5_isSiding 6 = .ok (.iload_n 0, 1) := by decide +kernel
theorem dX5_isSiding_7 : decode cX5_isSiding 7 = .ok (.bipush 8, 2) := by decide +kernel
theorem dX5_isSiding_9 : decode cX5_isSiding 9 = .ok (.if_icmp .ge 7, 3) := by decide +kernel
theorem dX5_isSiding_12 : decode cX5_isSiding 12 = .ok (.iconst 1, 1) := by decide +kernel
theorem dX5_isSiding_13 : decode cX5_isSiding 13 = .ok (.goto 4, 3) := by decide +kernel
theorem dX5_isSiding_16 : decode cX5_isSiding 16 = .ok (.iconst 0, 1) := by decide +kernel
theorem dX5_isSiding_17 : decode cX5_isSiding 17 = .ok (.ireturn, 1) := by decide +kernel
theorem dX5_needSpan_0 : decode cX5_needSpan 0 = .ok (.iload_n 1, 1) := by decide +kernel
theorem dX5_needSpan_1 : decode cX5_needSpan 1 = .ok (.iload_n 0, 1) := by decide +kernel
theorem dX5_needSpan_2 : decode cX5_needSpan 2 = .ok (.if_icmp .lt 10, 3) := by decide +kernel
theorem dX5_needSpan_5 : decode cX5_needSpan 5 = .ok (.iload_n 1, 1) := by decide +kernel
theorem dX5_needSpan_6 : decode cX5_needSpan 6 = .ok (.sipush 5000, 3) := by decide +kernel
theorem dX5_needSpan_9 : decode cX5_needSpan 9 = .ok (.if_icmp .le 13, 3) := by decide +kernel
theorem dX5_needSpan_12 : decode cX5_needSpan 12 = .ok (.new 86, 3) := by decide +kernel
theorem dX5_needSpan_15 : decode cX5_needSpan 15 = .ok (.dup, 1) := by decide +kernel
theorem dX5_needSpan_16 : decode cX5_needSpan 16 = .ok (.ldc 235, 2) := by decide +kernel
theorem dX5_needSpan_18 : decode cX5_needSpan 18 = .ok (.invokespecial 90, 3) := by decide +kernel
theorem dX5_needSpan_21 : decode cX5_needSpan 21 = .ok (.athrow, 1) := by decide +kernel
theorem dX5_needSpan_22 : decode cX5_needSpan 22 = .ok (.iload_n 2, 1) := by decide +kernel
theorem dX5_needSpan_23 : decode cX5_needSpan 23 = .ok (.iload_n 1, 1) := by decide +kernel
theorem dX5_needSpan_24 : decode cX5_needSpan 24 = .ok (.if_icmp .lt 10, 3) := by decide +kernel
theorem dX5_needSpan_27 : decode cX5_needSpan 27 = .ok (.iload_n 2, 1) := by decide +kernel
theorem dX5_needSpan_28 : decode cX5_needSpan 28 = .ok (.sipush 5000, 3) := by decide +kernel
theorem dX5_needSpan_31 : decode cX5_needSpan 31 = .ok (.if_icmp .le 13, 3) := by decide +kernel
theorem dX5_needSpan_34 : decode cX5_needSpan 34 = .ok (.new 86, 3) := by decide +kernel
theorem dX5_needSpan_37 : decode cX5_needSpan 37 = .ok (.dup, 1) := by decide +kernel
theorem dX5_needSpan_38 : decode cX5_needSpan 38 = .ok (.ldc 237, 2) := by decide +kernel
theorem dX5_needSpan_40 : decode cX5_needSpan 40 = .ok (.invokespecial 90, 3) := by decide +kernel
theorem dX5_needSpan_43 : decode cX5_needSpan 43 = .ok (.athrow, 1) := by decide +kernel
theorem dX5_needSpan_44 : decode cX5_needSpan 44 = .ok (.return_, 1) := by decide +kernel
