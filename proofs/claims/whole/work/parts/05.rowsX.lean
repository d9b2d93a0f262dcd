theorem dX0_init_0 : decode cX0_init 0 = .ok (.aload_n 0, 1) := by decide +kernel
theorem dX0_init_1 : decode cX0_init 1 = .ok (.invokespecial 3, 3) := by decide +kernel
theorem dX0_init_4 : decode cX0_init 4 = .ok (.aload_n 0, 1) := by decide +kernel
theorem dX0_init_5 : decode cX0_init 5 = .ok (.bipush 30, 2) := by decide +kernel
theorem dX0_init_7 : decode cX0_init 7 = .ok (.newarray .int, 2) := by decide +kernel
theorem dX0_init_9 : decode cX0_init 9 = .ok (.putfield 9, 3) := by decide +kernel
theorem dX0_init_12 : decode cX0_init 12 = .ok (.aload_n 0, 1) := by decide +kernel
theorem dX0_init_13 : decode cX0_init 13 = .ok (.bipush 30, 2) := by decide +kernel
theorem dX0_init_15 : decode cX0_init 15 = .ok (.newarray .int, 2) := by decide +kernel
theorem dX0_init_17 : decode cX0_init 17 = .ok (.putfield 15, 3) := by decide +kernel
theorem dX0_init_20 : decode cX0_init 20 = .ok (.aload_n 0, 1) := by decide +kernel
theorem dX0_init_21 : decode cX0_init 21 = .ok (.bipush 30, 2) := by decide +kernel
theorem dX0_init_23 : decode cX0_init 23 = .ok (.newarray .int, 2) := by decide +kernel
theorem dX0_init_25 : decode cX0_init 25 = .ok (.putfield 18, 3) := by decide +kernel
theorem dX0_init_28 : decode cX0_init 28 = .ok (.aload_n 0, 1) := by decide +kernel
theorem dX0_init_29 : decode cX0_init 29 = .ok (.bipush 30, 2) := by decide +kernel
theorem dX0_init_31 : decode cX0_init 31 = .ok (.newarray .int, 2) := by decide +kernel
theorem dX0_init_33 : decode cX0_init 33 = .ok (.putfield 21, 3) := by decide +kernel
theorem dX0_init_36 : decode cX0_init 36 = .ok (.aload_n 0, 1) := by decide +kernel
theorem dX0_init_37 : decode cX0_init 37 = .ok (.bipush 30, 2) := by decide +kernel
theorem dX0_init_39 : decode cX0_init 39 = .ok (.newarray .int, 2) := by decide +kernel
theorem dX0_init_41 : decode cX0_init 41 = .ok (.putfield 24, 3) := by decide +kernel
theorem dX0_init_44 : decode cX0_init 44 = .ok (.return_, 1) := by decide +kernel
theorem dX0_add_0 : decode cX0_add 0 = .ok (.aload_n 0, 1) := by decide +kernel
theorem dX0_add_1 : decode cX0_add 1 = .ok (.getfield 27, 3) := by decide +kernel
theorem dX0_add_4 : decode cX0_add 4 = .ok (.istore 5, 2) := by decide +kernel
theorem dX0_add_6 : decode cX0_add 6 = .ok (.aload_n 0, 1) := by decide +kernel
theorem dX0_add_7 : decode cX0_add 7 = .ok (.getfield 9, 3) := by decide +kernel
theorem dX0_add_10 : decode cX0_add 10 = .ok (.iload 5, 2) := by decide +kernel
theorem dX0_add_12 : decode cX0_add 12 = .ok (.iload_n 1, 1) := by decide +kernel
theorem dX0_add_13 : decode cX0_add 13 = .ok (.iastore, 1) := by decide +kernel
theorem dX0_add_14 : decode cX0_add 14 = .ok (.aload_n 0, 1) := by decide +kernel
theorem dX0_add_15 : decode cX0_add 15 = .ok (.getfield 15, 3) := by decide +kernel
theorem dX0_add_18 : decode cX0_add 18 = .ok (.iload 5, 2) := by decide +kernel
theorem dX0_add_20 : decode cX0_add 20 = .ok (.iload_n 2, 1) := by decide +kernel
theorem dX0_add_21 : decode cX0_add 21 = .ok (.iastore, 1) := by decide +kernel
theorem dX0_add_22 : decode cX0_add 22 = .ok (.aload_n 0, 1) := by decide +kernel
theorem dX0_add_23 : decode cX0_add 23 = .ok (.getfield 18, 3) := by decide +kernel
theorem dX0_add_26 : decode cX0_add 26 = .ok (.iload 5, 2) := by decide +kernel
theorem dX0_add_28 : decode cX0_add 28 = .ok (.iload_n 3, 1) := by decide +kernel
theorem dX0_add_29 : decode cX0_add 29 = .ok (.iastore, 1) := by decide +kernel
theorem dX0_add_30 : decode cX0_add 30 = .ok (.aload_n 0, 1) := by decide +kernel
theorem dX0_add_31 : decode cX0_add 31 = .ok (.getfield 21, 3) := by decide +kernel
theorem dX0_add_34 : decode cX0_add 34 = .ok (.iload 5, 2) := by decide +kernel
theorem dX0_add_36 : decode cX0_add 36 = .ok (.iload 4, 2) := by decide +kernel
theorem dX0_add_38 : decode cX0_add 38 = .ok (.iastore, 1) := by decide +kernel
theorem dX0_add_39 : decode cX0_add 39 = .ok (.aload_n 0, 1) := by decide +kernel
theorem dX0_add_40 : decode cX0_add 40 = .ok (.getfield 24, 3) := by decide +kernel
theorem dX0_add_43 : decode cX0_add 43 = .ok (.iload 5, 2) := by decide +kernel
theorem dX0_add_45 : decode cX0_add 45 = .ok (.iconst (-1), 1) := by decide +kernel
theorem dX0_add_46 : decode cX0_add 46 = .ok (.iastore, 1) := by decide +kernel
theorem dX0_add_47 : decode cX0_add 47 = .ok (.aload_n 0, 1) := by decide +kernel
theorem dX0_add_48 : decode cX0_add 48 = .ok (.dup, 1) := by decide +kernel
theorem dX0_add_49 : decode cX0_add 49 = .ok (.getfield 27, 3) := by decide +kernel
theorem dX0_add_52 : decode cX0_add 52 = .ok (.iconst 1, 1) := by decide +kernel
theorem dX0_add_53 : decode cX0_add 53 = .ok (.iadd, 1) := by decide +kernel
theorem dX0_add_54 : decode cX0_add 54 = .ok (.putfield 27, 3) := by decide +kernel
theorem dX0_add_57 : decode cX0_add 57 = .ok (.iload 5, 2) := by decide +kernel
theorem dX0_add_59 : decode cX0_add 59 = .ok (.ireturn, 1) := by decide +kernel
theorem dX0_meetsAnother_0 : decode cX0_meetsAnother 0 = .ok (.iconst 0, 1) := by decide +kernel
theorem dX0_meetsAnother_1 : decode cX0_meetsAnother 1 = .ok (.istore 5, 2) := by decide +kernel
theorem dX0_meetsAnother_3 : decode cX0_meetsAnother 3 = .ok (.iload 5, 2) := by decide +kernel
theorem dX0_meetsAnother_5 : decode cX0_meetsAnother 5 = .ok (.aload_n 0, 1) := by decide +kernel
theorem dX0_meetsAnother_6 : decode cX0_meetsAnother 6 = .ok (.getfield 27, 3) := by decide +kernel
theorem dX0_meetsAnother_9 : decode cX0_meetsAnother 9 = .ok (.if_icmp .ge 56, 3) := by decide +kernel
theorem dX0_meetsAnother_12 : decode cX0_meetsAnother 12 = .ok (.aload_n 0, 1) := by decide +kernel
theorem dX0_meetsAnother_13 : decode cX0_meetsAnother 13 = .ok (.getfield 15, 3) := by decide +kernel
theorem dX0_meetsAnother_16 : decode cX0_meetsAnother 16 = .ok (.iload 5, 2) := by decide +kernel
theorem dX0_meetsAnother_18 : decode cX0_meetsAnother 18 = .ok (.iaload, 1) := by decide +kernel
theorem dX0_meetsAnother_19 : decode cX0_meetsAnother 19 = .ok (.iload_n 2, 1) := by decide +kernel
theorem dX0_meetsAnother_20 : decode cX0_meetsAnother 20 = .ok (.if_icmp .ne 39, 3) := by decide +kernel
theorem dX0_meetsAnother_23 : decode cX0_meetsAnother 23 = .ok (.aload_n 0, 1) := by decide +kernel
theorem dX0_meetsAnother_24 : decode cX0_meetsAnother 24 = .ok (.getfield 9, 3) := by decide +kernel
theorem dX0_meetsAnother_27 : decode cX0_meetsAnother 27 = .ok (.iload 5, 2) := by decide +kernel
theorem dX0_meetsAnother_29 : decode cX0_meetsAnother 29 = .ok (.iaload, 1) := by decide +kernel
theorem dX0_meetsAnother_30 : decode cX0_meetsAnother 30 = .ok (.iload_n 1, 1) := by decide +kernel
theorem dX0_meetsAnother_31 : decode cX0_meetsAnother 31 = .ok (.if_icmp .eq 28, 3) := by decide +kernel
theorem dX0_meetsAnother_34 : decode cX0_meetsAnother 34 = .ok (.aload_n 0, 1) := by decide +kernel
theorem dX0_meetsAnother_35 : decode cX0_meetsAnother 35 = .ok (.getfield 18, 3) := by decide +kernel
theorem dX0_meetsAnother_38 : decode cX0_meetsAnother 38 = .ok (.iload 5, 2) := by decide +kernel
theorem dX0_meetsAnother_40 : decode cX0_meetsAnother 40 = .ok (.iaload, 1) := by decide +kernel
theorem dX0_meetsAnother_41 : decode cX0_meetsAnother 41 = .ok (.iload 4, 2) := by decide +kernel
theorem dX0_meetsAnother_43 : decode cX0_meetsAnother 43 = .ok (.if_icmp .gt 16, 3) := by decide +kernel
theorem dX0_meetsAnother_46 : decode cX0_meetsAnother 46 = .ok (.iload_n 3, 1) := by decide +kernel
theorem dX0_meetsAnother_47 : decode cX0_meetsAnother 47 = .ok (.aload_n 0, 1) := by decide +kernel
theorem dX0_meetsAnother_48 : decode cX0_meetsAnother 48 = .ok (.getfield 21, 3) := by decide +kernel
theorem dX0_meetsAnother_51 : decode cX0_meetsAnother 51 = .ok (.iload 5, 2) := by decide +kernel
theorem dX0_meetsAnother_53 : decode cX0_meetsAnother 53 = .ok (.iaload, 1) := by decide +kernel
theorem dX0_meetsAnother_54 : decode cX0_meetsAnother 54 = .ok (.if_icmp .gt 5, 3) := by decide +kernel
theorem dX0_meetsAnother_57 : decode cX0_meetsAnother 57 = .ok (.iconst 1, 1) := by decide +kernel
theorem dX0_meetsAnother_58 : decode cX0_meetsAnother 58 = .ok (.ireturn, 1) := by decide +kernel
theorem dX0_meetsAnother_59 : decode cX0_meetsAnother 59 = .ok (.iinc 5 1, 3) := by decide +kernel
theorem dX0_meetsAnother_62 : decode cX0_meetsAnother 62 = .ok (.goto (-59), 3) := by decide +kernel
theorem dX0_meetsAnother_65 : decode cX0_meetsAnother 65 = .ok (.iconst 0, 1) := by decide +kernel
theorem dX0_meetsAnother_66 : decode cX0_meetsAnother 66 = .ok (.ireturn, 1) := by decide +kernel
set_option maxRecDepth 20000 in
theorem ggX0_isForAnother_X0_isIn : GoodIn wsX0_isForAnother wsX0_isIn := goodIn_r _ [8, 9, 10, 11, 12, 13, 14, 15, 16] (by decide +kernel) (by decide +kernel)
set_option maxRecDepth 20000 in
theorem gX0_isForAnother_X0_isIn : GoodIn wsX0_isForAnother (wsV RX0 31 RX0 yX0_isIn wsX0_isIn) := goodIn_app (goodIn_of _ (by decide +kernel)) ggX0_isForAnother_X0_isIn
theorem dX0_isForAnother_0 : decode cX0_isForAnother 0 = .ok (.iconst 0, 1) := by decide +kernel
theorem dX0_isForAnother_1 : decode cX0_isForAnother 1 = .ok (.istore 4, 2) := by decide +kernel
theorem dX0_isForAnother_3 : decode cX0_isForAnother 3 = .ok (.iload 4, 2) := by decide +kernel
theorem dX0_isForAnother_5 : decode cX0_isForAnother 5 = .ok (.aload_n 0, 1) := by decide +kernel
theorem dX0_isForAnother_6 : decode cX0_isForAnother 6 = .ok (.getfield 27, 3) := by decide +kernel
theorem dX0_isForAnother_9 : decode cX0_isForAnother 9 = .ok (.if_icmp .ge 43, 3) := by decide +kernel
theorem dX0_isForAnother_12 : decode cX0_isForAnother 12 = .ok (.aload_n 0, 1) := by decide +kernel
theorem dX0_isForAnother_13 : decode cX0_isForAnother 13 = .ok (.getfield 15, 3) := by decide +kernel
theorem dX0_isForAnother_16 : decode cX0_isForAnother 16 = .ok (.iload 4, 2) := by decide +kernel
theorem dX0_isForAnother_18 : decode cX0_isForAnother 18 = .ok (.iaload, 1) := by decide +kernel
theorem dX0_isForAnother_19 : decode cX0_isForAnother 19 = .ok (.iload_n 2, 1) := by decide +kernel
theorem dX0_isForAnother_20 : decode cX0_isForAnother 20 = .ok (.if_icmp .ne 26, 3) := by decide +kernel
theorem dX0_isForAnother_23 : decode cX0_isForAnother 23 = .ok (.aload_n 0, 1) := by decide +kernel
theorem dX0_isForAnother_24 : decode cX0_isForAnother 24 = .ok (.getfield 9, 3) := by decide +kernel
theorem dX0_isForAnother_27 : decode cX0_isForAnother 27 = .ok (.iload 4, 2) := by decide +kernel
theorem dX0_isForAnother_29 : decode cX0_isForAnother 29 = .ok (.iaload, 1) := by decide +kernel
theorem dX0_isForAnother_30 : decode cX0_isForAnother 30 = .ok (.iload_n 1, 1) := by decide +kernel
theorem dX0_isForAnother_31 : decode cX0_isForAnother 31 = .ok (.if_icmp .eq 15, 3) := by decide +kernel
theorem dX0_isForAnother_34 : decode cX0_isForAnother 34 = .ok (.aload_n 0, 1) := by decide +kernel
theorem dX0_isForAnother_35 : decode cX0_isForAnother 35 = .ok (.iload 4, 2) := by decide +kernel
theorem dX0_isForAnother_37 : decode cX0_isForAnother 37 = .ok (.iload_n 3, 1) := by decide +kernel
theorem dX0_isForAnother_38 : decode cX0_isForAnother 38 = .ok (.invokevirtual 31, 3) := by decide +kernel
theorem dX0_isForAnother_41 : decode cX0_isForAnother 41 = .ok (.ifCond .eq 5, 3) := by decide +kernel
theorem dX0_isForAnother_44 : decode cX0_isForAnother 44 = .ok (.iconst 1, 1) := by decide +kernel
theorem dX0_isForAnother_45 : decode cX0_isForAnother 45 = .ok (.ireturn, 1) := by decide +kernel
theorem dX0_isForAnother_46 : decode cX0_isForAnother 46 = .ok (.iinc 4 1, 3) := by decide +kernel
theorem dX0_isForAnother_49 : decode cX0_isForAnother 49 = .ok (.goto (-46), 3) := by decide +kernel
theorem dX0_isForAnother_52 : decode cX0_isForAnother 52 = .ok (.iconst 0, 1) := by decide +kernel
theorem dX0_isForAnother_53 : decode cX0_isForAnother 53 = .ok (.ireturn, 1) := by decide +kernel
set_option maxRecDepth 20000 in
theorem ggX0_markMet_X0_isIn : GoodIn wsX0_markMet wsX0_isIn := goodIn_r _ [10, 5, 11, 19, 20, 21, 22, 23, 24] (by decide +kernel) (by decide +kernel)
set_option maxRecDepth 20000 in
theorem gX0_markMet_X0_isIn : GoodIn wsX0_markMet (wsV RX0 31 RX0 yX0_isIn wsX0_isIn) := goodIn_app (goodIn_of _ (by decide +kernel)) ggX0_markMet_X0_isIn
set_option maxRecDepth 20000 in
theorem ggX0_markMet_X3_standingOn : GoodIn wsX0_markMet wsX3_standingOn := goodIn_r _ [16, 17, 18, 25, 26, 27, 28, 29] (by decide +kernel) (by decide +kernel)
set_option maxRecDepth 20000 in
theorem gX0_markMet_X3_standingOn : GoodIn wsX0_markMet (wsV RX0 35 RX3 yX3_standingOn wsX3_standingOn) := goodIn_app (goodIn_of _ (by decide +kernel)) ggX0_markMet_X3_standingOn
theorem dX0_markMet_0 : decode cX0_markMet 0 = .ok (.iconst 0, 1) := by decide +kernel
theorem dX0_markMet_1 : decode cX0_markMet 1 = .ok (.istore_n 3, 1) := by decide +kernel
theorem dX0_markMet_2 : decode cX0_markMet 2 = .ok (.iload_n 3, 1) := by decide +kernel
theorem dX0_markMet_3 : decode cX0_markMet 3 = .ok (.aload_n 0, 1) := by decide +kernel
theorem dX0_markMet_4 : decode cX0_markMet 4 = .ok (.getfield 27, 3) := by decide +kernel
theorem dX0_markMet_7 : decode cX0_markMet 7 = .ok (.if_icmp .ge 61, 3) := by decide +kernel
theorem dX0_markMet_10 : decode cX0_markMet 10 = .ok (.aload_n 0, 1) := by decide +kernel
theorem dX0_markMet_11 : decode cX0_markMet 11 = .ok (.getfield 24, 3) := by decide +kernel
theorem dX0_markMet_14 : decode cX0_markMet 14 = .ok (.iload_n 3, 1) := by decide +kernel
theorem dX0_markMet_15 : decode cX0_markMet 15 = .ok (.iaload, 1) := by decide +kernel
theorem dX0_markMet_16 : decode cX0_markMet 16 = .ok (.iconst (-1), 1) := by decide +kernel
theorem dX0_markMet_17 : decode cX0_markMet 17 = .ok (.if_icmp .ne 45, 3) := by decide +kernel
theorem dX0_markMet_20 : decode cX0_markMet 20 = .ok (.aload_n 0, 1) := by decide +kernel
theorem dX0_markMet_21 : decode cX0_markMet 21 = .ok (.iload_n 3, 1) := by decide +kernel
theorem dX0_markMet_22 : decode cX0_markMet 22 = .ok (.iload_n 2, 1) := by decide +kernel
theorem dX0_markMet_23 : decode cX0_markMet 23 = .ok (.invokevirtual 31, 3) := by decide +kernel
theorem dX0_markMet_26 : decode cX0_markMet 26 = .ok (.ifCond .eq 36, 3) := by decide +kernel
theorem dX0_markMet_29 : decode cX0_markMet 29 = .ok (.aload_n 1, 1) := by decide +kernel
theorem dX0_markMet_30 : decode cX0_markMet 30 = .ok (.aload_n 0, 1) := by decide +kernel
theorem dX0_markMet_31 : decode cX0_markMet 31 = .ok (.getfield 15, 3) := by decide +kernel
theorem dX0_markMet_34 : decode cX0_markMet 34 = .ok (.iload_n 3, 1) := by decide +kernel
theorem dX0_markMet_35 : decode cX0_markMet 35 = .ok (.iaload, 1) := by decide +kernel
theorem dX0_markMet_36 : decode cX0_markMet 36 = .ok (.invokevirtual 35, 3) := by decide +kernel
theorem dX0_markMet_39 : decode cX0_markMet 39 = .ok (.aload_n 0, 1) := by decide +kernel
theorem dX0_markMet_40 : decode cX0_markMet 40 = .ok (.getfield 9, 3) := by decide +kernel
theorem dX0_markMet_43 : decode cX0_markMet 43 = .ok (.iload_n 3, 1) := by decide +kernel
theorem dX0_markMet_44 : decode cX0_markMet 44 = .ok (.iaload, 1) := by decide +kernel
theorem dX0_markMet_45 : decode cX0_markMet 45 = .ok (.if_icmp .ne 17, 3) := by decide +kernel
theorem dX0_markMet_48 : decode cX0_markMet 48 = .ok (.aload_n 0, 1) := by decide +kernel
theorem dX0_markMet_49 : decode cX0_markMet 49 = .ok (.getfield 24, 3) := by decide +kernel
theorem dX0_markMet_52 : decode cX0_markMet 52 = .ok (.iload_n 3, 1) := by decide +kernel
theorem dX0_markMet_53 : decode cX0_markMet 53 = .ok (.iload_n 2, 1) := by decide +kernel
theorem dX0_markMet_54 : decode cX0_markMet 54 = .ok (.aload_n 0, 1) := by decide +kernel
theorem dX0_markMet_55 : decode cX0_markMet 55 = .ok (.getfield 18, 3) := by decide +kernel
theorem dX0_markMet_58 : decode cX0_markMet 58 = .ok (.iload_n 3, 1) := by decide +kernel
theorem dX0_markMet_59 : decode cX0_markMet 59 = .ok (.iaload, 1) := by decide +kernel
theorem dX0_markMet_60 : decode cX0_markMet 60 = .ok (.isub, 1) := by decide +kernel
theorem dX0_markMet_61 : decode cX0_markMet 61 = .ok (.iastore, 1) := by decide +kernel
theorem dX0_markMet_62 : decode cX0_markMet 62 = .ok (.iinc 3 1, 3) := by decide +kernel
theorem dX0_markMet_65 : decode cX0_markMet 65 = .ok (.goto (-63), 3) := by decide +kernel
theorem dX0_markMet_68 : decode cX0_markMet 68 = .ok (.return_, 1) := by decide +kernel
theorem dX0_isIn_0 : decode cX0_isIn 0 = .ok (.aload_n 0, 1) := by decide +kernel
theorem dX0_isIn_1 : decode cX0_isIn 1 = .ok (.getfield 18, 3) := by decide +kernel
theorem dX0_isIn_4 : decode cX0_isIn 4 = .ok (.iload_n 1, 1) := by decide +kernel
theorem dX0_isIn_5 : decode cX0_isIn 5 = .ok (.iaload, 1) := by decide +kernel
theorem dX0_isIn_6 : decode cX0_isIn 6 = .ok (.iload_n 2, 1) := by decide +kernel
theorem dX0_isIn_7 : decode cX0_isIn 7 = .ok (.if_icmp .gt 17, 3) := by decide +kernel
theorem dX0_isIn_10 : decode cX0_isIn 10 = .ok (.iload_n 2, 1) := by decide +kernel
theorem dX0_isIn_11 : decode cX0_isIn 11 = .ok (.aload_n 0, 1) := by decide +kernel
theorem dX0_isIn_12 : decode cX0_isIn 12 = .ok (.getfield 21, 3) := by decide +kernel
theorem dX0_isIn_15 : decode cX0_isIn 15 = .ok (.iload_n 1, 1) := by decide +kernel
theorem dX0_isIn_16 : decode cX0_isIn 16 = .ok (.iaload, 1) := by decide +kernel
theorem dX0_isIn_17 : decode cX0_isIn 17 = .ok (.if_icmp .gt 7, 3) := by decide +kernel
theorem dX0_isIn_20 : decode cX0_isIn 20 = .ok (.iconst 1, 1) := by decide +kernel
theorem dX0_isIn_21 : decode cX0_isIn 21 = .ok (.goto 4, 3) := by decide +kernel
theorem dX0_isIn_24 : decode cX0_isIn 24 = .ok (.iconst 0, 1) := by decide +kernel
theorem dX0_isIn_25 : decode cX0_isIn 25 = .ok (.ireturn, 1) := by decide +kernel
theorem dX1_init_0 : decode cX1_init 0 = .ok (.aload_n 0, 1) := by decide +kernel
theorem dX1_init_1 : decode cX1_init 1 = .ok (.invokespecial 3, 3) := by decide +kernel
theorem dX1_init_4 : decode cX1_init 4 = .ok (.aload_n 0, 1) := by decide +kernel
theorem dX1_init_5 : decode cX1_init 5 = .ok (.bipush 8, 2) := by decide +kernel
theorem dX1_init_7 : decode cX1_init 7 = .ok (.newarray .int, 2) := by decide +kernel
theorem dX1_init_9 : decode cX1_init 9 = .ok (.putfield 9, 3) := by decide +kernel
theorem dX1_init_12 : decode cX1_init 12 = .ok (.aload_n 0, 1) := by decide +kernel
theorem dX1_init_13 : decode cX1_init 13 = .ok (.bipush 8, 2) := by decide +kernel
theorem dX1_init_15 : decode cX1_init 15 = .ok (.newarray .int, 2) := by decide +kernel
theorem dX1_init_17 : decode cX1_init 17 = .ok (.putfield 15, 3) := by decide +kernel
theorem dX1_init_20 : decode cX1_init 20 = .ok (.aload_n 0, 1) := by decide +kernel
theorem dX1_init_21 : decode cX1_init 21 = .ok (.bipush 8, 2) := by decide +kernel
theorem dX1_init_23 : decode cX1_init 23 = .ok (.newarray .int, 2) := by decide +kernel
theorem dX1_init_25 : decode cX1_init 25 = .ok (.putfield 18, 3) := by decide +kernel
theorem dX1_init_28 : decode cX1_init 28 = .ok (.return_, 1) := by decide +kernel
theorem dX1_put_0 : decode cX1_put 0 = .ok (.aload_n 0, 1) := by decide +kernel
theorem dX1_put_1 : decode cX1_put 1 = .ok (.getfield 9, 3) := by decide +kernel
theorem dX1_put_4 : decode cX1_put 4 = .ok (.iload_n 1, 1) := by decide +kernel
theorem dX1_put_5 : decode cX1_put 5 = .ok (.iload_n 2, 1) := by decide +kernel
theorem dX1_put_6 : decode cX1_put 6 = .ok (.iastore, 1) := by decide +kernel
theorem dX1_put_7 : decode cX1_put 7 = .ok (.aload_n 0, 1) := by decide +kernel
theorem dX1_put_8 : decode cX1_put 8 = .ok (.getfield 15, 3) := by decide +kernel
theorem dX1_put_11 : decode cX1_put 11 = .ok (.iload_n 1, 1) := by decide +kernel
theorem dX1_put_12 : decode cX1_put 12 = .ok (.iload_n 3, 1) := by decide +kernel
theorem dX1_put_13 : decode cX1_put 13 = .ok (.iastore, 1) := by decide +kernel
theorem dX1_put_14 : decode cX1_put 14 = .ok (.aload_n 0, 1) := by decide +kernel
theorem dX1_put_15 : decode cX1_put 15 = .ok (.getfield 18, 3) := by decide +kernel
theorem dX1_put_18 : decode cX1_put 18 = .ok (.iload_n 1, 1) := by decide +kernel
theorem dX1_put_19 : decode cX1_put 19 = .ok (.iload 4, 2) := by decide +kernel
theorem dX1_put_21 : decode cX1_put 21 = .ok (.iastore, 1) := by decide +kernel
theorem dX1_put_22 : decode cX1_put 22 = .ok (.return_, 1) := by decide +kernel
set_option maxRecDepth 20000 in
theorem ggX1_settle_X1_begunHours : GoodIn wsX1_settle wsX1_begunHours := goodIn_r _ [11] (by decide +kernel) (by decide +kernel)
set_option maxRecDepth 20000 in
theorem gX1_settle_X1_begunHours : GoodIn wsX1_settle (va_wsS RX1 21 yX1_begunHours wsX1_begunHours) := goodIn_app (goodIn_of _ (by decide +kernel)) ggX1_settle_X1_begunHours
theorem dX1_settle_0 : decode cX1_settle 0 = .ok (.aload_n 0, 1) := by decide +kernel
theorem dX1_settle_1 : decode cX1_settle 1 = .ok (.getfield 9, 3) := by decide +kernel
theorem dX1_settle_4 : decode cX1_settle 4 = .ok (.iload_n 1, 1) := by decide +kernel
theorem dX1_settle_5 : decode cX1_settle 5 = .ok (.iaload, 1) := by decide +kernel
theorem dX1_settle_6 : decode cX1_settle 6 = .ok (.iload_n 2, 1) := by decide +kernel
theorem dX1_settle_7 : decode cX1_settle 7 = .ok (.if_icmp .eq 5, 3) := by decide +kernel
theorem dX1_settle_10 : decode cX1_settle 10 = .ok (.iconst 0, 1) := by decide +kernel
theorem dX1_settle_11 : decode cX1_settle 11 = .ok (.ireturn, 1) := by decide +kernel
theorem dX1_settle_12 : decode cX1_settle 12 = .ok (.aload_n 0, 1) := by decide +kernel
theorem dX1_settle_13 : decode cX1_settle 13 = .ok (.getfield 9, 3) := by decide +kernel
theorem dX1_settle_16 : decode cX1_settle 16 = .ok (.iload_n 1, 1) := by decide +kernel
theorem dX1_settle_17 : decode cX1_settle 17 = .ok (.iconst 0, 1) := by decide +kernel
theorem dX1_settle_18 : decode cX1_settle 18 = .ok (.iastore, 1) := by decide +kernel
theorem dX1_settle_19 : decode cX1_settle 19 = .ok (.iconst 0, 1) := by decide +kernel
theorem dX1_settle_20 : decode cX1_settle 20 = .ok (.aload_n 0, 1) := by decide +kernel
theorem dX1_settle_21 : decode cX1_settle 21 = .ok (.getfield 18, 3) := by decide +kernel
theorem dX1_settle_24 : decode cX1_settle 24 = .ok (.iload_n 1, 1) := by decide +kernel
theorem dX1_settle_25 : decode cX1_settle 25 = .ok (.iaload, 1) := by decide +kernel
theorem dX1_settle_26 : decode cX1_settle 26 = .ok (.bipush 10, 2) := by decide +kernel
theorem dX1_settle_28 : decode cX1_settle 28 = .ok (.iload_n 3, 1) := by decide +kernel
theorem dX1_settle_29 : decode cX1_settle 29 = .ok (.aload_n 0, 1) := by decide +kernel
theorem dX1_settle_30 : decode cX1_settle 30 = .ok (.getfield 15, 3) := by decide +kernel
theorem dX1_settle_33 : decode cX1_settle 33 = .ok (.iload_n 1, 1) := by decide +kernel
theorem dX1_settle_34 : decode cX1_settle 34 = .ok (.iaload, 1) := by decide +kernel
theorem dX1_settle_35 : decode cX1_settle 35 = .ok (.isub, 1) := by decide +kernel
theorem dX1_settle_36 : decode cX1_settle 36 = .ok (.invokestatic 21, 3) := by decide +kernel
theorem dX1_settle_39 : decode cX1_settle 39 = .ok (.imul, 1) := by decide +kernel
theorem dX1_settle_40 : decode cX1_settle 40 = .ok (.isub, 1) := by decide +kernel
theorem dX1_settle_41 : decode cX1_settle 41 = .ok (.invokestatic 25, 3) := by decide +kernel
theorem dX1_settle_44 : decode cX1_settle 44 = .ok (.ireturn, 1) := by decide +kernel
theorem dX1_begunHours_0 : decode cX1_begunHours 0 = .ok (.iload_n 0, 1) := by decide +kernel
theorem dX1_begunHours_1 : decode cX1_begunHours 1 = .ok (.ifCond .le 15, 3) := by decide +kernel
theorem dX1_begunHours_4 : decode cX1_begunHours 4 = .ok (.iload_n 0, 1) := by decide +kernel
theorem dX1_begunHours_5 : decode cX1_begunHours 5 = .ok (.bipush 60, 2) := by decide +kernel
theorem dX1_begunHours_7 : decode cX1_begunHours 7 = .ok (.iadd, 1) := by decide +kernel
theorem dX1_begunHours_8 : decode cX1_begunHours 8 = .ok (.iconst 1, 1) := by decide +kernel
theorem dX1_begunHours_9 : decode cX1_begunHours 9 = .ok (.isub, 1) := by decide +kernel
theorem dX1_begunHours_10 : decode cX1_begunHours 10 = .ok (.bipush 60, 2) := by decide +kernel
theorem dX1_begunHours_12 : decode cX1_begunHours 12 = .ok (.idiv, 1) := by decide +kernel
theorem dX1_begunHours_13 : decode cX1_begunHours 13 = .ok (.goto 4, 3) := by decide +kernel
theorem dX1_begunHours_16 : decode cX1_begunHours 16 = .ok (.iconst 0, 1) := by decide +kernel
theorem dX1_begunHours_17 : decode cX1_begunHours 17 = .ok (.ireturn, 1) := by decide +kernel
theorem dX2_init_0 : decode cX2_init 0 = .ok (.aload_n 0, 1) := by decide +kernel
theorem dX2_init_1 : decode cX2_init 1 = .ok (.invokespecial 3, 3) := by decide +kernel
theorem dX2_init_4 : decode cX2_init 4 = .ok (.aload_n 0, 1) := by decide +kernel
theorem dX2_init_5 : decode cX2_init 5 = .ok (.iconst 2, 1) := by decide +kernel
theorem dX2_init_6 : decode cX2_init 6 = .ok (.newarray .boolean, 2) := by decide +kernel
theorem dX2_init_8 : decode cX2_init 8 = .ok (.putfield 9, 3) := by decide +kernel
theorem dX2_init_11 : decode cX2_init 11 = .ok (.return_, 1) := by decide +kernel
theorem dX2_turn_0 : decode cX2_turn 0 = .ok (.aload_n 0, 1) := by decide +kernel
theorem dX2_turn_1 : decode cX2_turn 1 = .ok (.getfield 9, 3) := by decide +kernel
theorem dX2_turn_4 : decode cX2_turn 4 = .ok (.iload_n 1, 1) := by decide +kernel
theorem dX2_turn_5 : decode cX2_turn 5 = .ok (.aload_n 0, 1) := by decide +kernel
theorem dX2_turn_6 : decode cX2_turn 6 = .ok (.getfield 9, 3) := by decide +kernel
theorem dX2_turn_9 : decode cX2_turn 9 = .ok (.iload_n 1, 1) := by decide +kernel
theorem dX2_turn_10 : decode cX2_turn 10 = .ok (.baload, 1) := by decide +kernel
theorem dX2_turn_11 : decode cX2_turn 11 = .ok (.ifCond .ne 7, 3) := by decide +kernel
theorem dX2_turn_14 : decode cX2_turn 14 = .ok (.iconst 1, 1) := by decide +kernel
theorem dX2_turn_15 : decode cX2_turn 15 = .ok (.goto 4, 3) := by decide +kernel
theorem dX2_turn_18 : decode cX2_turn 18 = .ok (.iconst 0, 1) := by decide +kernel
theorem dX2_turn_19 : decode cX2_turn 19 = .ok (.bastore, 1) := by decide +kernel
theorem dX2_turn_20 : decode cX2_turn 20 = .ok (.aload_n 0, 1) := by decide +kernel
theorem dX2_turn_21 : decode cX2_turn 21 = .ok (.getfield 9, 3) := by decide +kernel
theorem dX2_turn_24 : decode cX2_turn 24 = .ok (.iload_n 1, 1) := by decide +kernel
theorem dX2_turn_25 : decode cX2_turn 25 = .ok (.baload, 1) := by decide +kernel
theorem dX2_turn_26 : decode cX2_turn 26 = .ok (.ireturn, 1) := by decide +kernel
set_option maxRecDepth 20000 in
theorem ggX2_ahead_X2_rightOf : GoodIn wsX2_ahead wsX2_rightOf := goodIn_r _ [5, 6, 11] (by decide +kernel) (by decide +kernel)
set_option maxRecDepth 20000 in
theorem gX2_ahead_X2_rightOf : GoodIn wsX2_ahead (wsV RX2 15 RX2 yX2_rightOf wsX2_rightOf) := goodIn_app (goodIn_of _ (by decide +kernel)) ggX2_ahead_X2_rightOf
set_option maxRecDepth 20000 in
theorem ggX2_ahead_X2_leftOf : GoodIn wsX2_ahead wsX2_leftOf := goodIn_r _ [10, 6, 11] (by decide +kernel) (by decide +kernel)
set_option maxRecDepth 20000 in
theorem gX2_ahead_X2_leftOf : GoodIn wsX2_ahead (wsV RX2 19 RX2 yX2_leftOf wsX2_leftOf) := goodIn_app (goodIn_of _ (by decide +kernel)) ggX2_ahead_X2_leftOf
theorem dX2_ahead_0 : decode cX2_ahead 0 = .ok (.iload_n 2, 1) := by decide +kernel
theorem dX2_ahead_1 : decode cX2_ahead 1 = .ok (.ifCond .eq 11, 3) := by decide +kernel
theorem dX2_ahead_4 : decode cX2_ahead 4 = .ok (.aload_n 0, 1) := by decide +kernel
theorem dX2_ahead_5 : decode cX2_ahead 5 = .ok (.iload_n 1, 1) := by decide +kernel
theorem dX2_ahead_6 : decode cX2_ahead 6 = .ok (.invokevirtual 15, 3) := by decide +kernel
theorem dX2_ahead_9 : decode cX2_ahead 9 = .ok (.goto 8, 3) := by decide +kernel
theorem dX2_ahead_12 : decode cX2_ahead 12 = .ok (.aload_n 0, 1) := by decide +kernel
theorem dX2_ahead_13 : decode cX2_ahead 13 = .ok (.iload_n 1, 1) := by decide +kernel
theorem dX2_ahead_14 : decode cX2_ahead 14 = .ok (.invokevirtual 19, 3) := by decide +kernel
theorem dX2_ahead_17 : decode cX2_ahead 17 = .ok (.ireturn, 1) := by decide +kernel
theorem dX2_rightOf_0 : decode cX2_rightOf 0 = .ok (.iload_n 1, 1) := by decide +kernel
theorem dX2_rightOf_1 : decode cX2_rightOf 1 = .ok (.tableswitch 78 1 7 #[43, 78, 59, 78, 75, 75, 75], 43) := by decide +kernel
theorem dX2_rightOf_44 : decode cX2_rightOf 44 = .ok (.aload_n 0, 1) := by decide +kernel
theorem dX2_rightOf_45 : decode cX2_rightOf 45 = .ok (.getfield 9, 3) := by decide +kernel
theorem dX2_rightOf_48 : decode cX2_rightOf 48 = .ok (.iconst 0, 1) := by decide +kernel
theorem dX2_rightOf_49 : decode cX2_rightOf 49 = .ok (.baload, 1) := by decide +kernel
theorem dX2_rightOf_50 : decode cX2_rightOf 50 = .ok (.ifCond .eq 8, 3) := by decide +kernel
theorem dX2_rightOf_53 : decode cX2_rightOf 53 = .ok (.bipush 6, 2) := by decide +kernel
theorem dX2_rightOf_55 : decode cX2_rightOf 55 = .ok (.goto 4, 3) := by decide +kernel
theorem dX2_rightOf_58 : decode cX2_rightOf 58 = .ok (.iconst 2, 1) := by decide +kernel
theorem dX2_rightOf_59 : decode cX2_rightOf 59 = .ok (.ireturn, 1) := by decide +kernel
theorem dX2_rightOf_60 : decode cX2_rightOf 60 = .ok (.aload_n 0, 1) := by decide +kernel
theorem dX2_rightOf_61 : decode cX2_rightOf 61 = .ok (.getfield 9, 3) := by decide +kernel
theorem dX2_rightOf_64 : decode cX2_rightOf 64 = .ok (.iconst 1, 1) := by decide +kernel
theorem dX2_rightOf_65 : decode cX2_rightOf 65 = .ok (.baload, 1) := by decide +kernel
theorem dX2_rightOf_66 : decode cX2_rightOf 66 = .ok (.ifCond .eq 8, 3) := by decide +kernel
theorem dX2_rightOf_69 : decode cX2_rightOf 69 = .ok (.bipush 7, 2) := by decide +kernel
theorem dX2_rightOf_71 : decode cX2_rightOf 71 = .ok (.goto 4, 3) := by decide +kernel
theorem dX2_rightOf_74 : decode cX2_rightOf 74 = .ok (.iconst 4, 1) := by decide +kernel
theorem dX2_rightOf_75 : decode cX2_rightOf 75 = .ok (.ireturn, 1) := by decide +kernel
theorem dX2_rightOf_76 : decode cX2_rightOf 76 = .ok (.bipush (-2), 2) := by decide +kernel
theorem dX2_rightOf_78 : decode cX2_rightOf 78 = .ok (.ireturn, 1) := by decide +kernel
theorem dX2_rightOf_79 : decode cX2_rightOf 79 = .ok (.iload_n 1, 1) := by decide +kernel
theorem dX2_rightOf_80 : decode cX2_rightOf 80 = .ok (.iconst 1, 1) := by decide +kernel
theorem dX2_rightOf_81 : decode cX2_rightOf 81 = .ok (.iadd, 1) := by decide +kernel
theorem dX2_rightOf_82 : decode cX2_rightOf 82 = .ok (.ireturn, 1) := by decide +kernel
theorem dX2_leftOf_0 : decode cX2_leftOf 0 = .ok (.iload_n 1, 1) := by decide +kernel
theorem dX2_leftOf_1 : decode cX2_leftOf 1 = .ok (.tableswitch 110 0 7 #[47, 110, 50, 110, 65, 110, 80, 95], 47) := by decide +kernel
theorem dX2_leftOf_48 : decode cX2_leftOf 48 = .ok (.bipush (-2), 2) := by decide +kernel
theorem dX2_leftOf_50 : decode cX2_leftOf 50 = .ok (.ireturn, 1) := by decide +kernel
theorem dX2_leftOf_51 : decode cX2_leftOf 51 = .ok (.aload_n 0, 1) := by decide +kernel
theorem dX2_leftOf_52 : decode cX2_leftOf 52 = .ok (.getfield 9, 3) := by decide +kernel
theorem dX2_leftOf_55 : decode cX2_leftOf 55 = .ok (.iconst 0, 1) := by decide +kernel
theorem dX2_leftOf_56 : decode cX2_leftOf 56 = .ok (.baload, 1) := by decide +kernel
theorem dX2_leftOf_57 : decode cX2_leftOf 57 = .ok (.ifCond .eq 7, 3) := by decide +kernel
theorem dX2_leftOf_60 : decode cX2_leftOf 60 = .ok (.iconst (-1), 1) := by decide +kernel
theorem dX2_leftOf_61 : decode cX2_leftOf 61 = .ok (.goto 4, 3) := by decide +kernel
theorem dX2_leftOf_64 : decode cX2_leftOf 64 = .ok (.iconst 1, 1) := by decide +kernel
theorem dX2_leftOf_65 : decode cX2_leftOf 65 = .ok (.ireturn, 1) := by decide +kernel
theorem dX2_leftOf_66 : decode cX2_leftOf 66 = .ok (.aload_n 0, 1) := by decide +kernel
theorem dX2_leftOf_67 : decode cX2_leftOf 67 = .ok (.getfield 9, 3) := by decide +kernel
theorem dX2_leftOf_70 : decode cX2_leftOf 70 = .ok (.iconst 1, 1) := by decide +kernel
theorem dX2_leftOf_71 : decode cX2_leftOf 71 = .ok (.baload, 1) := by decide +kernel
theorem dX2_leftOf_72 : decode cX2_leftOf 72 = .ok (.ifCond .eq 7, 3) := by decide +kernel
theorem dX2_leftOf_75 : decode cX2_leftOf 75 = .ok (.iconst (-1), 1) := by decide +kernel
theorem dX2_leftOf_76 : decode cX2_leftOf 76 = .ok (.goto 4, 3) := by decide +kernel
theorem dX2_leftOf_79 : decode cX2_leftOf 79 = .ok (.iconst 3, 1) := by decide +kernel
theorem dX2_leftOf_80 : decode cX2_leftOf 80 = .ok (.ireturn, 1) := by decide +kernel
theorem dX2_leftOf_81 : decode cX2_leftOf 81 = .ok (.aload_n 0, 1) := by decide +kernel
theorem dX2_leftOf_82 : decode cX2_leftOf 82 = .ok (.getfield 9, 3) := by decide +kernel
theorem dX2_leftOf_85 : decode cX2_leftOf 85 = .ok (.iconst 0, 1) := by decide +kernel
theorem dX2_leftOf_86 : decode cX2_leftOf 86 = .ok (.baload, 1) := by decide +kernel
theorem dX2_leftOf_87 : decode cX2_leftOf 87 = .ok (.ifCond .eq 7, 3) := by decide +kernel
theorem dX2_leftOf_90 : decode cX2_leftOf 90 = .ok (.iconst 1, 1) := by decide +kernel
theorem dX2_leftOf_91 : decode cX2_leftOf 91 = .ok (.goto 4, 3) := by decide +kernel
theorem dX2_leftOf_94 : decode cX2_leftOf 94 = .ok (.iconst (-1), 1) := by decide +kernel
theorem dX2_leftOf_95 : decode cX2_leftOf 95 = .ok (.ireturn, 1) := by decide +kernel
theorem dX2_leftOf_96 : decode cX2_leftOf 96 = .ok (.aload_n 0, 1) := by decide +kernel
theorem dX2_leftOf_97 : decode cX2_leftOf 97 = .ok (.getfield 9, 3) := by decide +kernel
theorem dX2_leftOf_100 : decode cX2_leftOf 100 = .ok (.iconst 1, 1) := by decide +kernel
theorem dX2_leftOf_101 : decode cX2_leftOf 101 = .ok (.baload, 1) := by decide +kernel
theorem dX2_leftOf_102 : decode cX2_leftOf 102 = .ok (.ifCond .eq 7, 3) := by decide +kernel
theorem dX2_leftOf_105 : decode cX2_leftOf 105 = .ok (.iconst 3, 1) := by decide +kernel
theorem dX2_leftOf_106 : decode cX2_leftOf 106 = .ok (.goto 4, 3) := by decide +kernel
theorem dX2_leftOf_109 : decode cX2_leftOf 109 = .ok (.iconst (-1), 1) := by decide +kernel
theorem dX2_leftOf_110 : decode cX2_leftOf 110 = .ok (.ireturn, 1) := by decide +kernel
theorem dX2_leftOf_111 : decode cX2_leftOf 111 = .ok (.iload_n 1, 1) := by decide +kernel
theorem dX2_leftOf_112 : decode cX2_leftOf 112 = .ok (.iconst 1, 1) := by decide +kernel
theorem dX2_leftOf_113 : decode cX2_leftOf 113 = .ok (.isub, 1) := by decide +kernel
theorem dX2_leftOf_114 : decode cX2_leftOf 114 = .ok (.ireturn, 1) := by decide +kernel
theorem dX3_init_0 : decode cX3_init 0 = .ok (.aload_n 0, 1) := by decide +kernel
theorem dX3_init_1 : decode cX3_init 1 = .ok (.invokespecial 3, 3) := by decide +kernel
theorem dX3_init_4 : decode cX3_init 4 = .ok (.aload_n 0, 1) := by decide +kernel
theorem dX3_init_5 : decode cX3_init 5 = .ok (.iconst 4, 1) := by decide +kernel
theorem dX3_init_6 : decode cX3_init 6 = .ok (.newarray .int, 2) := by decide +kernel
theorem dX3_init_8 : decode cX3_init 8 = .ok (.putfield 9, 3) := by decide +kernel
theorem dX3_init_11 : decode cX3_init 11 = .ok (.aload_n 0, 1) := by decide +kernel
theorem dX3_init_12 : decode cX3_init 12 = .ok (.iconst 4, 1) := by decide +kernel
theorem dX3_init_13 : decode cX3_init 13 = .ok (.newarray .boolean, 2) := by decide +kernel
theorem dX3_init_15 : decode cX3_init 15 = .ok (.putfield 15, 3) := by decide +kernel
theorem dX3_init_18 : decode cX3_init 18 = .ok (.aload_n 0, 1) := by decide +kernel
theorem dX3_init_19 : decode cX3_init 19 = .ok (.iconst 4, 1) := by decide +kernel
theorem dX3_init_20 : decode cX3_init 20 = .ok (.newarray .boolean, 2) := by decide +kernel
theorem dX3_init_22 : decode cX3_init 22 = .ok (.putfield 19, 3) := by decide +kernel
theorem dX3_init_25 : decode cX3_init 25 = .ok (.aload_n 0, 1) := by decide +kernel
theorem dX3_init_26 : decode cX3_init 26 = .ok (.iconst 4, 1) := by decide +kernel
theorem dX3_init_27 : decode cX3_init 27 = .ok (.newarray .int, 2) := by decide +kernel
theorem dX3_init_29 : decode cX3_init 29 = .ok (.putfield 22, 3) := by decide +kernel
theorem dX3_init_32 : decode cX3_init 32 = .ok (.return_, 1) := by decide +kernel
theorem dX3_add_0 : decode cX3_add 0 = .ok (.aload_n 0, 1) := by decide +kernel
theorem dX3_add_1 : decode cX3_add 1 = .ok (.getfield 25, 3) := by decide +kernel
theorem dX3_add_4 : decode cX3_add 4 = .ok (.istore_n 3, 1) := by decide +kernel
theorem dX3_add_5 : decode cX3_add 5 = .ok (.aload_n 0, 1) := by decide +kernel
theorem dX3_add_6 : decode cX3_add 6 = .ok (.getfield 9, 3) := by decide +kernel
theorem dX3_add_9 : decode cX3_add 9 = .ok (.iload_n 3, 1) := by decide +kernel
theorem dX3_add_10 : decode cX3_add 10 = .ok (.iload_n 1, 1) := by decide +kernel
theorem dX3_add_11 : decode cX3_add 11 = .ok (.iastore, 1) := by decide +kernel
theorem dX3_add_12 : decode cX3_add 12 = .ok (.aload_n 0, 1) := by decide +kernel
theorem dX3_add_13 : decode cX3_add 13 = .ok (.getfield 15, 3) := by decide +kernel
theorem dX3_add_16 : decode cX3_add 16 = .ok (.iload_n 3, 1) := by decide +kernel
theorem dX3_add_17 : decode cX3_add 17 = .ok (.iload_n 2, 1) := by decide +kernel
theorem dX3_add_18 : decode cX3_add 18 = .ok (.bastore, 1) := by decide +kernel
theorem dX3_add_19 : decode cX3_add 19 = .ok (.aload_n 0, 1) := by decide +kernel
theorem dX3_add_20 : decode cX3_add 20 = .ok (.dup, 1) := by decide +kernel
theorem dX3_add_21 : decode cX3_add 21 = .ok (.getfield 25, 3) := by decide +kernel
theorem dX3_add_24 : decode cX3_add 24 = .ok (.iconst 1, 1) := by decide +kernel
theorem dX3_add_25 : decode cX3_add 25 = .ok (.iadd, 1) := by decide +kernel
theorem dX3_add_26 : decode cX3_add 26 = .ok (.putfield 25, 3) := by decide +kernel
theorem dX3_add_29 : decode cX3_add 29 = .ok (.iload_n 3, 1) := by decide +kernel
theorem dX3_add_30 : decode cX3_add 30 = .ok (.ireturn, 1) := by decide +kernel
theorem dX3_standingOn_0 : decode cX3_standingOn 0 = .ok (.iconst 0, 1) := by decide +kernel
theorem dX3_standingOn_1 : decode cX3_standingOn 1 = .ok (.istore_n 2, 1) := by decide +kernel
theorem dX3_standingOn_2 : decode cX3_standingOn 2 = .ok (.iload_n 2, 1) := by decide +kernel
theorem dX3_standingOn_3 : decode cX3_standingOn 3 = .ok (.aload_n 0, 1) := by decide +kernel
theorem dX3_standingOn_4 : decode cX3_standingOn 4 = .ok (.getfield 25, 3) := by decide +kernel
theorem dX3_standingOn_7 : decode cX3_standingOn 7 = .ok (.if_icmp .ge 21, 3) := by decide +kernel
theorem dX3_standingOn_10 : decode cX3_standingOn 10 = .ok (.aload_n 0, 1) := by decide +kernel
theorem dX3_standingOn_11 : decode cX3_standingOn 11 = .ok (.getfield 9, 3) := by decide +kernel
theorem dX3_standingOn_14 : decode cX3_standingOn 14 = .ok (.iload_n 2, 1) := by decide +kernel
theorem dX3_standingOn_15 : decode cX3_standingOn 15 = .ok (.iaload, 1) := by decide +kernel
theorem dX3_standingOn_16 : decode cX3_standingOn 16 = .ok (.iload_n 1, 1) := by decide +kernel
theorem dX3_standingOn_17 : decode cX3_standingOn 17 = .ok (.if_icmp .ne 5, 3) := by decide +kernel
theorem dX3_standingOn_20 : decode cX3_standingOn 20 = .ok (.iload_n 2, 1) := by decide +kernel
theorem dX3_standingOn_21 : decode cX3_standingOn 21 = .ok (.ireturn, 1) := by decide +kernel
theorem dX3_standingOn_22 : decode cX3_standingOn 22 = .ok (.iinc 2 1, 3) := by decide +kernel
theorem dX3_standingOn_25 : decode cX3_standingOn 25 = .ok (.goto (-23), 3) := by decide +kernel
theorem dX3_standingOn_28 : decode cX3_standingOn 28 = .ok (.iconst (-1), 1) := by decide +kernel
theorem dX3_standingOn_29 : decode cX3_standingOn 29 = .ok (.ireturn, 1) := by decide +kernel
theorem dX3_turnRound_0 : decode cX3_turnRound 0 = .ok (.aload_n 0, 1) := by decide +kernel
theorem dX3_turnRound_1 : decode cX3_turnRound 1 = .ok (.getfield 15, 3) := by decide +kernel
theorem dX3_turnRound_4 : decode cX3_turnRound 4 = .ok (.iload_n 1, 1) := by decide +kernel
theorem dX3_turnRound_5 : decode cX3_turnRound 5 = .ok (.aload_n 0, 1) := by decide +kernel
theorem dX3_turnRound_6 : decode cX3_turnRound 6 = .ok (.getfield 15, 3) := by decide +kernel
theorem dX3_turnRound_9 : decode cX3_turnRound 9 = .ok (.iload_n 1, 1) := by decide +kernel
theorem dX3_turnRound_10 : decode cX3_turnRound 10 = .ok (.baload, 1) := by decide +kernel
theorem dX3_turnRound_11 : decode cX3_turnRound 11 = .ok (.ifCond .ne 7, 3) := by decide +kernel
theorem dX3_turnRound_14 : decode cX3_turnRound 14 = .ok (.iconst 1, 1) := by decide +kernel
theorem dX3_turnRound_15 : decode cX3_turnRound 15 = .ok (.goto 4, 3) := by decide +kernel
theorem dX3_turnRound_18 : decode cX3_turnRound 18 = .ok (.iconst 0, 1) := by decide +kernel
theorem dX3_turnRound_19 : decode cX3_turnRound 19 = .ok (.bastore, 1) := by decide +kernel
theorem dX3_turnRound_20 : decode cX3_turnRound 20 = .ok (.aload_n 0, 1) := by decide +kernel
theorem dX3_turnRound_21 : decode cX3_turnRound 21 = .ok (.getfield 15, 3) := by decide +kernel
theorem dX3_turnRound_24 : decode cX3_turnRound 24 = .ok (.iload_n 1, 1) := by decide +kernel
theorem dX3_turnRound_25 : decode cX3_turnRound 25 = .ok (.baload, 1) := by decide +kernel
theorem dX3_turnRound_26 : decode cX3_turnRound 26 = .ok (.ireturn, 1) := by decide +kernel
theorem dX3_copyFrom_0 : decode cX3_copyFrom 0 = .ok (.aload_n 0, 1) := by decide +kernel
theorem dX3_copyFrom_1 : decode cX3_copyFrom 1 = .ok (.aload_n 1, 1) := by decide +kernel
theorem dX3_copyFrom_2 : decode cX3_copyFrom 2 = .ok (.getfield 25, 3) := by decide +kernel
theorem dX3_copyFrom_5 : decode cX3_copyFrom 5 = .ok (.putfield 25, 3) := by decide +kernel
theorem dX3_copyFrom_8 : decode cX3_copyFrom 8 = .ok (.iconst 0, 1) := by decide +kernel
theorem dX3_copyFrom_9 : decode cX3_copyFrom 9 = .ok (.istore_n 2, 1) := by decide +kernel
theorem dX3_copyFrom_10 : decode cX3_copyFrom 10 = .ok (.iload_n 2, 1) := by decide +kernel
theorem dX3_copyFrom_11 : decode cX3_copyFrom 11 = .ok (.aload_n 0, 1) := by decide +kernel
theorem dX3_copyFrom_12 : decode cX3_copyFrom 12 = .ok (.getfield 25, 3) := by decide +kernel
theorem dX3_copyFrom_15 : decode cX3_copyFrom 15 = .ok (.if_icmp .ge 57, 3) := by decide +kernel
theorem dX3_copyFrom_18 : decode cX3_copyFrom 18 = .ok (.aload_n 0, 1) := by decide +kernel
theorem dX3_copyFrom_19 : decode cX3_copyFrom 19 = .ok (.getfield 9, 3) := by decide +kernel
theorem dX3_copyFrom_22 : decode cX3_copyFrom 22 = .ok (.iload_n 2, 1) := by decide +kernel
theorem dX3_copyFrom_23 : decode cX3_copyFrom 23 = .ok (.aload_n 1, 1) := by decide +kernel
theorem dX3_copyFrom_24 : decode cX3_copyFrom 24 = .ok (.getfield 9, 3) := by decide +kernel
theorem dX3_copyFrom_27 : decode cX3_copyFrom 27 = .ok (.iload_n 2, 1) := by decide +kernel
theorem dX3_copyFrom_28 : decode cX3_copyFrom 28 = .ok (.iaload, 1) := by decide +kernel
theorem dX3_copyFrom_29 : decode cX3_copyFrom 29 = .ok (.iastore, 1) := by decide +kernel
theorem dX3_copyFrom_30 : decode cX3_copyFrom 30 = .ok (.aload_n 0, 1) := by decide +kernel
theorem dX3_copyFrom_31 : decode cX3_copyFrom 31 = .ok (.getfield 15, 3) := by decide +kernel
theorem dX3_copyFrom_34 : decode cX3_copyFrom 34 = .ok (.iload_n 2, 1) := by decide +kernel
theorem dX3_copyFrom_35 : decode cX3_copyFrom 35 = .ok (.aload_n 1, 1) := by decide +kernel
theorem dX3_copyFrom_36 : decode cX3_copyFrom 36 = .ok (.getfield 15, 3) := by decide +kernel
theorem dX3_copyFrom_39 : decode cX3_copyFrom 39 = .ok (.iload_n 2, 1) := by decide +kernel
theorem dX3_copyFrom_40 : decode cX3_copyFrom 40 = .ok (.baload, 1) := by decide +kernel
theorem dX3_copyFrom_41 : decode cX3_copyFrom 41 = .ok (.bastore, 1) := by decide +kernel
theorem dX3_copyFrom_42 : decode cX3_copyFrom 42 = .ok (.aload_n 0, 1) := by decide +kernel
theorem dX3_copyFrom_43 : decode cX3_copyFrom 43 = .ok (.getfield 19, 3) := by decide +kernel
theorem dX3_copyFrom_46 : decode cX3_copyFrom 46 = .ok (.iload_n 2, 1) := by decide +kernel
theorem dX3_copyFrom_47 : decode cX3_copyFrom 47 = .ok (.aload_n 1, 1) := by decide +kernel
theorem dX3_copyFrom_48 : decode cX3_copyFrom 48 = .ok (.getfield 19, 3) := by decide +kernel
theorem dX3_copyFrom_51 : decode cX3_copyFrom 51 = .ok (.iload_n 2, 1) := by decide +kernel
theorem dX3_copyFrom_52 : decode cX3_copyFrom 52 = .ok (.baload, 1) := by decide +kernel
theorem dX3_copyFrom_53 : decode cX3_copyFrom 53 = .ok (.bastore, 1) := by decide +kernel
theorem dX3_copyFrom_54 : decode cX3_copyFrom 54 = .ok (.aload_n 0, 1) := by decide +kernel
theorem dX3_copyFrom_55 : decode cX3_copyFrom 55 = .ok (.getfield 22, 3) := by decide +kernel
theorem dX3_copyFrom_58 : decode cX3_copyFrom 58 = .ok (.iload_n 2, 1) := by decide +kernel
theorem dX3_copyFrom_59 : decode cX3_copyFrom 59 = .ok (.aload_n 1, 1) := by decide +kernel
theorem dX3_copyFrom_60 : decode cX3_copyFrom 60 = .ok (.getfield 22, 3) := by decide +kernel
theorem dX3_copyFrom_63 : decode cX3_copyFrom 63 = .ok (.iload_n 2, 1) := by decide +kernel
theorem dX3_copyFrom_64 : decode cX3_copyFrom 64 = .ok (.iaload, 1) := by decide +kernel
theorem dX3_copyFrom_65 : decode cX3_copyFrom 65 = .ok (.iastore, 1) := by decide +kernel
theorem dX3_copyFrom_66 : decode cX3_copyFrom 66 = .ok (.iinc 2 1, 3) := by decide +kernel
theorem dX3_copyFrom_69 : decode cX3_copyFrom 69 = .ok (.goto (-59), 3) := by decide +kernel
theorem dX3_copyFrom_72 : decode cX3_copyFrom 72 = .ok (.return_, 1) := by decide +kernel
set_option maxRecDepth 20000 in
theorem ggX3_runMinute_X3_step : GoodIn wsX3_runMinute wsX3_step := goodIn_r _ [6, 7, 8, 9, 10, 11, 12, 13, 14, 15, 16, 17, 18, 19, 20, 21, 22, 23, 24, 25, 26, 27, 5, 28, 29, 30, 31, 32, 1, 33, 34, 35, 36, 37, 38, 39, 40, 41, 42, 43, 44, 45, 46, 47, 48, 49, 50, 51, 52, 53, 54, 55, 56, 57, 58] (by decide +kernel) (by decide +kernel)
set_option maxRecDepth 20000 in
theorem gX3_runMinute_X3_step : GoodIn wsX3_runMinute (wsV RX3 29 RX3 yX3_step wsX3_step) := goodIn_app (goodIn_of _ (by decide +kernel)) ggX3_runMinute_X3_step
theorem dX3_runMinute_0 : decode cX3_runMinute 0 = .ok (.iconst 0, 1) := by decide +kernel
theorem dX3_runMinute_1 : decode cX3_runMinute 1 = .ok (.istore 4, 2) := by decide +kernel
theorem dX3_runMinute_3 : decode cX3_runMinute 3 = .ok (.iconst 0, 1) := by decide +kernel
theorem dX3_runMinute_4 : decode cX3_runMinute 4 = .ok (.istore 5, 2) := by decide +kernel
theorem dX3_runMinute_6 : decode cX3_runMinute 6 = .ok (.iload 5, 2) := by decide +kernel
theorem dX3_runMinute_8 : decode cX3_runMinute 8 = .ok (.aload_n 0, 1) := by decide +kernel
theorem dX3_runMinute_9 : decode cX3_runMinute 9 = .ok (.getfield 25, 3) := by decide +kernel
theorem dX3_runMinute_12 : decode cX3_runMinute 12 = .ok (.if_icmp .ge 24, 3) := by decide +kernel
theorem dX3_runMinute_15 : decode cX3_runMinute 15 = .ok (.aload_n 0, 1) := by decide +kernel
theorem dX3_runMinute_16 : decode cX3_runMinute 16 = .ok (.iload 5, 2) := by decide +kernel
theorem dX3_runMinute_18 : decode cX3_runMinute 18 = .ok (.aload_n 1, 1) := by decide +kernel
theorem dX3_runMinute_19 : decode cX3_runMinute 19 = .ok (.aload_n 2, 1) := by decide +kernel
theorem dX3_runMinute_20 : decode cX3_runMinute 20 = .ok (.iload_n 3, 1) := by decide +kernel
theorem dX3_runMinute_21 : decode cX3_runMinute 21 = .ok (.invokevirtual 29, 3) := by decide +kernel
theorem dX3_runMinute_24 : decode cX3_runMinute 24 = .ok (.ifCond .eq 6, 3) := by decide +kernel
theorem dX3_runMinute_27 : decode cX3_runMinute 27 = .ok (.iinc 4 1, 3) := by decide +kernel
theorem dX3_runMinute_30 : decode cX3_runMinute 30 = .ok (.iinc 5 1, 3) := by decide +kernel
theorem dX3_runMinute_33 : decode cX3_runMinute 33 = .ok (.goto (-27), 3) := by decide +kernel
theorem dX3_runMinute_36 : decode cX3_runMinute 36 = .ok (.iload 4, 2) := by decide +kernel
theorem dX3_runMinute_38 : decode cX3_runMinute 38 = .ok (.ireturn, 1) := by decide +kernel
set_option maxRecDepth 20000 in
theorem ggX3_step_X2_ahead : GoodIn wsX3_step wsX2_ahead := goodIn_r _ [9, 10, 11, 12, 8, 13, 14, 15, 16, 17, 18, 48] (by decide +kernel) (by decide +kernel)
set_option maxRecDepth 20000 in
theorem gX3_step_X2_ahead : GoodIn wsX3_step (wsV RX3 33 RX2 yX2_ahead wsX2_ahead) := goodIn_app (goodIn_of _ (by decide +kernel)) ggX3_step_X2_ahead
set_option maxRecDepth 20000 in
theorem ggX3_step_X3_turnRound : GoodIn wsX3_step wsX3_turnRound := goodIn_r _ [23, 4, 43, 44, 45, 46, 47] (by decide +kernel) (by decide +kernel)
set_option maxRecDepth 20000 in
theorem gX3_step_X3_turnRound : GoodIn wsX3_step (wsV RX3 39 RX3 yX3_turnRound wsX3_turnRound) := goodIn_app (goodIn_of _ (by decide +kernel)) ggX3_step_X3_turnRound
set_option maxRecDepth 20000 in
theorem ggX3_step_X3_standingOn : GoodIn wsX3_step wsX3_standingOn := goodIn_r _ [27, 28, 3, 43, 44, 45, 46, 47] (by decide +kernel) (by decide +kernel)
set_option maxRecDepth 20000 in
theorem gX3_step_X3_standingOn : GoodIn wsX3_step (wsV RX3 43 RX3 yX3_standingOn wsX3_standingOn) := goodIn_app (goodIn_of _ (by decide +kernel)) ggX3_step_X3_standingOn
set_option maxRecDepth 20000 in
theorem ggX3_step_X0_isForAnother : GoodIn wsX3_step wsX0_isForAnother := goodIn_r _ [33, 34, 35, 36, 37, 38, 39, 32, 40, 41, 42, 49, 50, 51, 52, 53, 54] (by decide +kernel) (by decide +kernel)
set_option maxRecDepth 20000 in
theorem gX3_step_X0_isForAnother : GoodIn wsX3_step (wsV RX3 47 RX0 yX0_isForAnother wsX0_isForAnother) := goodIn_app (goodIn_of _ (by decide +kernel)) ggX3_step_X0_isForAnother
theorem dX3_step_0 : decode cX3_step 0 = .ok (.aload_n 0, 1) := by decide +kernel
theorem dX3_step_1 : decode cX3_step 1 = .ok (.getfield 22, 3) := by decide +kernel
theorem dX3_step_4 : decode cX3_step 4 = .ok (.iload_n 1, 1) := by decide +kernel
theorem dX3_step_5 : decode cX3_step 5 = .ok (.iaload, 1) := by decide +kernel
theorem dX3_step_6 : decode cX3_step 6 = .ok (.ifCond .le 15, 3) := by decide +kernel
theorem dX3_step_9 : decode cX3_step 9 = .ok (.aload_n 0, 1) := by decide +kernel
theorem dX3_step_10 : decode cX3_step 10 = .ok (.getfield 22, 3) := by decide +kernel
theorem dX3_step_13 : decode cX3_step 13 = .ok (.iload_n 1, 1) := by decide +kernel
theorem dX3_step_14 : decode cX3_step 14 = .ok (.dup2, 1) := by decide +kernel
theorem dX3_step_15 : decode cX3_step 15 = .ok (.iaload, 1) := by decide +kernel
theorem dX3_step_16 : decode cX3_step 16 = .ok (.iconst 1, 1) := by decide +kernel
theorem dX3_step_17 : decode cX3_step 17 = .ok (.isub, 1) := by decide +kernel
theorem dX3_step_18 : decode cX3_step 18 = .ok (.iastore, 1) := by decide +kernel
theorem dX3_step_19 : decode cX3_step 19 = .ok (.iconst 0, 1) := by decide +kernel
theorem dX3_step_20 : decode cX3_step 20 = .ok (.ireturn, 1) := by decide +kernel
theorem dX3_step_21 : decode cX3_step 21 = .ok (.aload_n 0, 1) := by decide +kernel
theorem dX3_step_22 : decode cX3_step 22 = .ok (.getfield 19, 3) := by decide +kernel
theorem dX3_step_25 : decode cX3_step 25 = .ok (.iload_n 1, 1) := by decide +kernel
theorem dX3_step_26 : decode cX3_step 26 = .ok (.baload, 1) := by decide +kernel
theorem dX3_step_27 : decode cX3_step 27 = .ok (.ifCond .eq 5, 3) := by decide +kernel
theorem dX3_step_30 : decode cX3_step 30 = .ok (.iconst 0, 1) := by decide +kernel
theorem dX3_step_31 : decode cX3_step 31 = .ok (.ireturn, 1) := by decide +kernel
theorem dX3_step_32 : decode cX3_step 32 = .ok (.aload_n 2, 1) := by decide +kernel
theorem dX3_step_33 : decode cX3_step 33 = .ok (.aload_n 0, 1) := by decide +kernel
theorem dX3_step_34 : decode cX3_step 34 = .ok (.getfield 9, 3) := by decide +kernel
theorem dX3_step_37 : decode cX3_step 37 = .ok (.iload_n 1, 1) := by decide +kernel
theorem dX3_step_38 : decode cX3_step 38 = .ok (.iaload, 1) := by decide +kernel
theorem dX3_step_39 : decode cX3_step 39 = .ok (.aload_n 0, 1) := by decide +kernel
theorem dX3_step_40 : decode cX3_step 40 = .ok (.getfield 15, 3) := by decide +kernel
theorem dX3_step_43 : decode cX3_step 43 = .ok (.iload_n 1, 1) := by decide +kernel
theorem dX3_step_44 : decode cX3_step 44 = .ok (.baload, 1) := by decide +kernel
theorem dX3_step_45 : decode cX3_step 45 = .ok (.invokevirtual 33, 3) := by decide +kernel
theorem dX3_step_48 : decode cX3_step 48 = .ok (.istore 5, 2) := by decide +kernel
theorem dX3_step_50 : decode cX3_step 50 = .ok (.iload 5, 2) := by decide +kernel
theorem dX3_step_52 : decode cX3_step 52 = .ok (.bipush (-2), 2) := by decide +kernel
theorem dX3_step_54 : decode cX3_step 54 = .ok (.if_icmp .ne 11, 3) := by decide +kernel
theorem dX3_step_57 : decode cX3_step 57 = .ok (.aload_n 0, 1) := by decide +kernel
theorem dX3_step_58 : decode cX3_step 58 = .ok (.iload_n 1, 1) := by decide +kernel
theorem dX3_step_59 : decode cX3_step 59 = .ok (.invokevirtual 39, 3) := by decide +kernel
theorem dX3_step_62 : decode cX3_step 62 = .ok (.pop, 1) := by decide +kernel
theorem dX3_step_63 : decode cX3_step 63 = .ok (.iconst 0, 1) := by decide +kernel
theorem dX3_step_64 : decode cX3_step 64 = .ok (.ireturn, 1) := by decide +kernel
theorem dX3_step_65 : decode cX3_step 65 = .ok (.iload 5, 2) := by decide +kernel
theorem dX3_step_67 : decode cX3_step 67 = .ok (.iconst (-1), 1) := by decide +kernel
theorem dX3_step_68 : decode cX3_step 68 = .ok (.if_icmp .eq 25, 3) := by decide +kernel
theorem dX3_step_71 : decode cX3_step 71 = .ok (.aload_n 0, 1) := by decide +kernel
theorem dX3_step_72 : decode cX3_step 72 = .ok (.iload 5, 2) := by decide +kernel
theorem dX3_step_74 : decode cX3_step 74 = .ok (.invokevirtual 43, 3) := by decide +kernel
theorem dX3_step_77 : decode cX3_step 77 = .ok (.iconst (-1), 1) := by decide +kernel
theorem dX3_step_78 : decode cX3_step 78 = .ok (.if_icmp .ne 15, 3) := by decide +kernel
theorem dX3_step_81 : decode cX3_step 81 = .ok (.aload_n 3, 1) := by decide +kernel
theorem dX3_step_82 : decode cX3_step 82 = .ok (.iload_n 1, 1) := by decide +kernel
theorem dX3_step_83 : decode cX3_step 83 = .ok (.iload 5, 2) := by decide +kernel
theorem dX3_step_85 : decode cX3_step 85 = .ok (.iload 4, 2) := by decide +kernel
theorem dX3_step_87 : decode cX3_step 87 = .ok (.invokevirtual 47, 3) := by decide +kernel
theorem dX3_step_90 : decode cX3_step 90 = .ok (.ifCond .eq 5, 3) := by decide +kernel
theorem dX3_step_93 : decode cX3_step 93 = .ok (.iconst 0, 1) := by decide +kernel
theorem dX3_step_94 : decode cX3_step 94 = .ok (.ireturn, 1) := by decide +kernel
theorem dX3_step_95 : decode cX3_step 95 = .ok (.aload_n 0, 1) := by decide +kernel
theorem dX3_step_96 : decode cX3_step 96 = .ok (.getfield 9, 3) := by decide +kernel
theorem dX3_step_99 : decode cX3_step 99 = .ok (.iload_n 1, 1) := by decide +kernel
theorem dX3_step_100 : decode cX3_step 100 = .ok (.iload 5, 2) := by decide +kernel
theorem dX3_step_102 : decode cX3_step 102 = .ok (.iastore, 1) := by decide +kernel
theorem dX3_step_103 : decode cX3_step 103 = .ok (.iconst 1, 1) := by decide +kernel
theorem dX3_step_104 : decode cX3_step 104 = .ok (.ireturn, 1) := by decide +kernel
theorem dX4_init_0 : decode cX4_init 0 = .ok (.aload_n 0, 1) := by decide +kernel
theorem dX4_init_1 : decode cX4_init 1 = .ok (.invokespecial 3, 3) := by decide +kernel
theorem dX4_init_4 : decode cX4_init 4 = .ok (.aload_n 0, 1) := by decide +kernel
theorem dX4_init_5 : decode cX4_init 5 = .ok (.bipush 8, 2) := by decide +kernel
theorem dX4_init_7 : decode cX4_init 7 = .ok (.newarray .int, 2) := by decide +kernel
theorem dX4_init_9 : decode cX4_init 9 = .ok (.putfield 9, 3) := by decide +kernel
theorem dX4_init_12 : decode cX4_init 12 = .ok (.aload_n 0, 1) := by decide +kernel
theorem dX4_init_13 : decode cX4_init 13 = .ok (.bipush 6, 2) := by decide +kernel
theorem dX4_init_15 : decode cX4_init 15 = .ok (.newarray .int, 2) := by decide +kernel
theorem dX4_init_17 : decode cX4_init 17 = .ok (.putfield 15, 3) := by decide +kernel
theorem dX4_init_20 : decode cX4_init 20 = .ok (.aload_n 0, 1) := by decide +kernel
theorem dX4_init_21 : decode cX4_init 21 = .ok (.bipush 48, 2) := by decide +kernel
theorem dX4_init_23 : decode cX4_init 23 = .ok (.newarray .int, 2) := by decide +kernel
theorem dX4_init_25 : decode cX4_init 25 = .ok (.putfield 18, 3) := by decide +kernel
theorem dX4_init_28 : decode cX4_init 28 = .ok (.return_, 1) := by decide +kernel
theorem dX4_rowOfSiding_0 : decode cX4_rowOfSiding 0 = .ok (.iload_n 0, 1) := by decide +kernel
theorem dX4_rowOfSiding_1 : decode cX4_rowOfSiding 1 = .ok (.bipush 6, 2) := by decide +kernel
theorem dX4_rowOfSiding_3 : decode cX4_rowOfSiding 3 = .ok (.isub, 1) := by decide +kernel
theorem dX4_rowOfSiding_4 : decode cX4_rowOfSiding 4 = .ok (.ireturn, 1) := by decide +kernel
theorem dX4_rowOfTrain_0 : decode cX4_rowOfTrain 0 = .ok (.iconst 2, 1) := by decide +kernel
theorem dX4_rowOfTrain_1 : decode cX4_rowOfTrain 1 = .ok (.iload_n 0, 1) := by decide +kernel
theorem dX4_rowOfTrain_2 : decode cX4_rowOfTrain 2 = .ok (.iadd, 1) := by decide +kernel
theorem dX4_rowOfTrain_3 : decode cX4_rowOfTrain 3 = .ok (.ireturn, 1) := by decide +kernel
set_option maxRecDepth 20000 in
theorem ggX4_add_X4_append : GoodIn wsX4_add wsX4_append := goodIn_r _ [7, 8, 9, 10, 11, 12, 13] (by decide +kernel) (by decide +kernel)
set_option maxRecDepth 20000 in
theorem gX4_add_X4_append : GoodIn wsX4_add (wsV RX4 25 RX4 yX4_append wsX4_append) := goodIn_app (goodIn_of _ (by decide +kernel)) ggX4_add_X4_append
theorem dX4_add_0 : decode cX4_add 0 = .ok (.aload_n 0, 1) := by decide +kernel
theorem dX4_add_1 : decode cX4_add 1 = .ok (.getfield 21, 3) := by decide +kernel
theorem dX4_add_4 : decode cX4_add 4 = .ok (.istore_n 3, 1) := by decide +kernel
theorem dX4_add_5 : decode cX4_add 5 = .ok (.aload_n 0, 1) := by decide +kernel
theorem dX4_add_6 : decode cX4_add 6 = .ok (.getfield 9, 3) := by decide +kernel
theorem dX4_add_9 : decode cX4_add 9 = .ok (.iload_n 3, 1) := by decide +kernel
theorem dX4_add_10 : decode cX4_add 10 = .ok (.iload_n 2, 1) := by decide +kernel
theorem dX4_add_11 : decode cX4_add 11 = .ok (.iastore, 1) := by decide +kernel
theorem dX4_add_12 : decode cX4_add 12 = .ok (.aload_n 0, 1) := by decide +kernel
theorem dX4_add_13 : decode cX4_add 13 = .ok (.dup, 1) := by decide +kernel
theorem dX4_add_14 : decode cX4_add 14 = .ok (.getfield 21, 3) := by decide +kernel
theorem dX4_add_17 : decode cX4_add 17 = .ok (.iconst 1, 1) := by decide +kernel
theorem dX4_add_18 : decode cX4_add 18 = .ok (.iadd, 1) := by decide +kernel
theorem dX4_add_19 : decode cX4_add 19 = .ok (.putfield 21, 3) := by decide +kernel
theorem dX4_add_22 : decode cX4_add 22 = .ok (.aload_n 0, 1) := by decide +kernel
theorem dX4_add_23 : decode cX4_add 23 = .ok (.iload_n 1, 1) := by decide +kernel
theorem dX4_add_24 : decode cX4_add 24 = .ok (.iload_n 3, 1) := by decide +kernel
theorem dX4_add_25 : decode cX4_add 25 = .ok (.invokevirtual 25, 3) := by decide +kernel
theorem dX4_add_28 : decode cX4_add 28 = .ok (.iload_n 3, 1) := by decide +kernel
theorem dX4_add_29 : decode cX4_add 29 = .ok (.ireturn, 1) := by decide +kernel
theorem dX4_fromFirst_0 : decode cX4_fromFirst 0 = .ok (.iload_n 2, 1) := by decide +kernel
theorem dX4_fromFirst_1 : decode cX4_fromFirst 1 = .ok (.aload_n 0, 1) := by decide +kernel
theorem dX4_fromFirst_2 : decode cX4_fromFirst 2 = .ok (.getfield 15, 3) := by decide +kernel
theorem dX4_fromFirst_5 : decode cX4_fromFirst 5 = .ok (.iload_n 1, 1) := by decide +kernel
theorem dX4_fromFirst_6 : decode cX4_fromFirst 6 = .ok (.iaload, 1) := by decide +kernel
theorem dX4_fromFirst_7 : decode cX4_fromFirst 7 = .ok (.if_icmp .ge 17, 3) := by decide +kernel
theorem dX4_fromFirst_10 : decode cX4_fromFirst 10 = .ok (.aload_n 0, 1) := by decide +kernel
theorem dX4_fromFirst_11 : decode cX4_fromFirst 11 = .ok (.getfield 18, 3) := by decide +kernel
theorem dX4_fromFirst_14 : decode cX4_fromFirst 14 = .ok (.iload_n 1, 1) := by decide +kernel
theorem dX4_fromFirst_15 : decode cX4_fromFirst 15 = .ok (.bipush 8, 2) := by decide +kernel
theorem dX4_fromFirst_17 : decode cX4_fromFirst 17 = .ok (.imul, 1) := by decide +kernel
theorem dX4_fromFirst_18 : decode cX4_fromFirst 18 = .ok (.iload_n 2, 1) := by decide +kernel
theorem dX4_fromFirst_19 : decode cX4_fromFirst 19 = .ok (.iadd, 1) := by decide +kernel
theorem dX4_fromFirst_20 : decode cX4_fromFirst 20 = .ok (.iaload, 1) := by decide +kernel
theorem dX4_fromFirst_21 : decode cX4_fromFirst 21 = .ok (.goto 4, 3) := by decide +kernel
theorem dX4_fromFirst_24 : decode cX4_fromFirst 24 = .ok (.iconst (-1), 1) := by decide +kernel
theorem dX4_fromFirst_25 : decode cX4_fromFirst 25 = .ok (.ireturn, 1) := by decide +kernel
theorem dX4_fromLast_0 : decode cX4_fromLast 0 = .ok (.iload_n 2, 1) := by decide +kernel
theorem dX4_fromLast_1 : decode cX4_fromLast 1 = .ok (.aload_n 0, 1) := by decide +kernel
theorem dX4_fromLast_2 : decode cX4_fromLast 2 = .ok (.getfield 15, 3) := by decide +kernel
theorem dX4_fromLast_5 : decode cX4_fromLast 5 = .ok (.iload_n 1, 1) := by decide +kernel
theorem dX4_fromLast_6 : decode cX4_fromLast 6 = .ok (.iaload, 1) := by decide +kernel
theorem dX4_fromLast_7 : decode cX4_fromLast 7 = .ok (.if_icmp .ge 26, 3) := by decide +kernel
theorem dX4_fromLast_10 : decode cX4_fromLast 10 = .ok (.aload_n 0, 1) := by decide +kernel
theorem dX4_fromLast_11 : decode cX4_fromLast 11 = .ok (.getfield 18, 3) := by decide +kernel
theorem dX4_fromLast_14 : decode cX4_fromLast 14 = .ok (.iload_n 1, 1) := by decide +kernel
theorem dX4_fromLast_15 : decode cX4_fromLast 15 = .ok (.bipush 8, 2) := by decide +kernel
theorem dX4_fromLast_17 : decode cX4_fromLast 17 = .ok (.imul, 1) := by decide +kernel
theorem dX4_fromLast_18 : decode cX4_fromLast 18 = .ok (.aload_n 0, 1) := by decide +kernel
theorem dX4_fromLast_19 : decode cX4_fromLast 19 = .ok (.getfield 15, 3) := by decide +kernel
theorem dX4_fromLast_22 : decode cX4_fromLast 22 = .ok (.iload_n 1, 1) := by decide +kernel
theorem dX4_fromLast_23 : decode cX4_fromLast 23 = .ok (.iaload, 1) := by decide +kernel
theorem dX4_fromLast_24 : decode cX4_fromLast 24 = .ok (.iadd, 1) := by decide +kernel
theorem dX4_fromLast_25 : decode cX4_fromLast 25 = .ok (.iconst 1, 1) := by decide +kernel
theorem dX4_fromLast_26 : decode cX4_fromLast 26 = .ok (.isub, 1) := by decide +kernel
theorem dX4_fromLast_27 : decode cX4_fromLast 27 = .ok (.iload_n 2, 1) := by decide +kernel
theorem dX4_fromLast_28 : decode cX4_fromLast 28 = .ok (.isub, 1) := by decide +kernel
theorem dX4_fromLast_29 : decode cX4_fromLast 29 = .ok (.iaload, 1) := by decide +kernel
theorem dX4_fromLast_30 : decode cX4_fromLast 30 = .ok (.goto 4, 3) := by decide +kernel
theorem dX4_fromLast_33 : decode cX4_fromLast 33 = .ok (.iconst (-1), 1) := by decide +kernel
theorem dX4_fromLast_34 : decode cX4_fromLast 34 = .ok (.ireturn, 1) := by decide +kernel
set_option maxRecDepth 20000 in
theorem ggX4_lastOf_X4_fromLast : GoodIn wsX4_lastOf wsX4_fromLast := goodIn_r _ [5, 6, 7, 8, 9, 10, 11] (by decide +kernel) (by decide +kernel)
set_option maxRecDepth 20000 in
theorem gX4_lastOf_X4_fromLast : GoodIn wsX4_lastOf (wsV RX4 29 RX4 yX4_fromLast wsX4_fromLast) := goodIn_app (goodIn_of _ (by decide +kernel)) ggX4_lastOf_X4_fromLast
theorem dX4_lastOf_0 : decode cX4_lastOf 0 = .ok (.aload_n 0, 1) := by decide +kernel
theorem dX4_lastOf_1 : decode cX4_lastOf 1 = .ok (.iload_n 1, 1) := by decide +kernel
theorem dX4_lastOf_2 : decode cX4_lastOf 2 = .ok (.iconst 0, 1) := by decide +kernel
theorem dX4_lastOf_3 : decode cX4_lastOf 3 = .ok (.invokevirtual 29, 3) := by decide +kernel
theorem dX4_lastOf_6 : decode cX4_lastOf 6 = .ok (.ireturn, 1) := by decide +kernel
theorem dX4_weightOf_0 : decode cX4_weightOf 0 = .ok (.iconst 0, 1) := by decide +kernel
theorem dX4_weightOf_1 : decode cX4_weightOf 1 = .ok (.istore_n 2, 1) := by decide +kernel
theorem dX4_weightOf_2 : decode cX4_weightOf 2 = .ok (.iconst 0, 1) := by decide +kernel
theorem dX4_weightOf_3 : decode cX4_weightOf 3 = .ok (.istore_n 3, 1) := by decide +kernel
theorem dX4_weightOf_4 : decode cX4_weightOf 4 = .ok (.iload_n 3, 1) := by decide +kernel
theorem dX4_weightOf_5 : decode cX4_weightOf 5 = .ok (.aload_n 0, 1) := by decide +kernel
theorem dX4_weightOf_6 : decode cX4_weightOf 6 = .ok (.getfield 15, 3) := by decide +kernel
theorem dX4_weightOf_9 : decode cX4_weightOf 9 = .ok (.iload_n 1, 1) := by decide +kernel
theorem dX4_weightOf_10 : decode cX4_weightOf 10 = .ok (.iaload, 1) := by decide +kernel
theorem dX4_weightOf_11 : decode cX4_weightOf 11 = .ok (.if_icmp .ge 28, 3) := by decide +kernel
theorem dX4_weightOf_14 : decode cX4_weightOf 14 = .ok (.iload_n 2, 1) := by decide +kernel
theorem dX4_weightOf_15 : decode cX4_weightOf 15 = .ok (.aload_n 0, 1) := by decide +kernel
theorem dX4_weightOf_16 : decode cX4_weightOf 16 = .ok (.getfield 9, 3) := by decide +kernel
theorem dX4_weightOf_19 : decode cX4_weightOf 19 = .ok (.aload_n 0, 1) := by decide +kernel
theorem dX4_weightOf_20 : decode cX4_weightOf 20 = .ok (.getfield 18, 3) := by decide +kernel
theorem dX4_weightOf_23 : decode cX4_weightOf 23 = .ok (.iload_n 1, 1) := by decide +kernel
theorem dX4_weightOf_24 : decode cX4_weightOf 24 = .ok (.bipush 8, 2) := by decide +kernel
theorem dX4_weightOf_26 : decode cX4_weightOf 26 = .ok (.imul, 1) := by decide +kernel
theorem dX4_weightOf_27 : decode cX4_weightOf 27 = .ok (.iload_n 3, 1) := by decide +kernel
theorem dX4_weightOf_28 : decode cX4_weightOf 28 = .ok (.iadd, 1) := by decide +kernel
theorem dX4_weightOf_29 : decode cX4_weightOf 29 = .ok (.iaload, 1) := by decide +kernel
theorem dX4_weightOf_30 : decode cX4_weightOf 30 = .ok (.iaload, 1) := by decide +kernel
theorem dX4_weightOf_31 : decode cX4_weightOf 31 = .ok (.iadd, 1) := by decide +kernel
theorem dX4_weightOf_32 : decode cX4_weightOf 32 = .ok (.istore_n 2, 1) := by decide +kernel
theorem dX4_weightOf_33 : decode cX4_weightOf 33 = .ok (.iinc 3 1, 3) := by decide +kernel
theorem dX4_weightOf_36 : decode cX4_weightOf 36 = .ok (.goto (-32), 3) := by decide +kernel
theorem dX4_weightOf_39 : decode cX4_weightOf 39 = .ok (.iload_n 2, 1) := by decide +kernel
theorem dX4_weightOf_40 : decode cX4_weightOf 40 = .ok (.ireturn, 1) := by decide +kernel
set_option maxRecDepth 20000 in
theorem ggX4_moveLast_X4_lastOf : GoodIn wsX4_moveLast wsX4_lastOf := goodIn_r _ [6, 7, 8, 9, 5, 10, 1, 11, 16, 17, 18, 19] (by decide +kernel) (by decide +kernel)
set_option maxRecDepth 20000 in
theorem gX4_moveLast_X4_lastOf : GoodIn wsX4_moveLast (wsV RX4 33 RX4 yX4_lastOf wsX4_lastOf) := goodIn_app (goodIn_of _ (by decide +kernel)) ggX4_moveLast_X4_lastOf
set_option maxRecDepth 20000 in
theorem ggX4_moveLast_X4_append : GoodIn wsX4_moveLast wsX4_append := goodIn_r _ [15, 1, 11, 16, 17, 18, 19] (by decide +kernel) (by decide +kernel)
set_option maxRecDepth 20000 in
theorem gX4_moveLast_X4_append : GoodIn wsX4_moveLast (wsV RX4 25 RX4 yX4_append wsX4_append) := goodIn_app (goodIn_of _ (by decide +kernel)) ggX4_moveLast_X4_append
theorem dX4_moveLast_0 : decode cX4_moveLast 0 = .ok (.aload_n 0, 1) := by decide +kernel
theorem dX4_moveLast_1 : decode cX4_moveLast 1 = .ok (.iload_n 1, 1) := by decide +kernel
theorem dX4_moveLast_2 : decode cX4_moveLast 2 = .ok (.invokevirtual 33, 3) := by decide +kernel
theorem dX4_moveLast_5 : decode cX4_moveLast 5 = .ok (.istore_n 3, 1) := by decide +kernel
theorem dX4_moveLast_6 : decode cX4_moveLast 6 = .ok (.iload_n 3, 1) := by decide +kernel
theorem dX4_moveLast_7 : decode cX4_moveLast 7 = .ok (.iconst (-1), 1) := by decide +kernel
theorem dX4_moveLast_8 : decode cX4_moveLast 8 = .ok (.if_icmp .eq 19, 3) := by decide +kernel
theorem dX4_moveLast_11 : decode cX4_moveLast 11 = .ok (.aload_n 0, 1) := by decide +kernel
theorem dX4_moveLast_12 : decode cX4_moveLast 12 = .ok (.getfield 15, 3) := by decide +kernel
theorem dX4_moveLast_15 : decode cX4_moveLast 15 = .ok (.iload_n 1, 1) := by decide +kernel
theorem dX4_moveLast_16 : decode cX4_moveLast 16 = .ok (.dup2, 1) := by decide +kernel
theorem dX4_moveLast_17 : decode cX4_moveLast 17 = .ok (.iaload, 1) := by decide +kernel
theorem dX4_moveLast_18 : decode cX4_moveLast 18 = .ok (.iconst 1, 1) := by decide +kernel
theorem dX4_moveLast_19 : decode cX4_moveLast 19 = .ok (.isub, 1) := by decide +kernel
theorem dX4_moveLast_20 : decode cX4_moveLast 20 = .ok (.iastore, 1) := by decide +kernel
theorem dX4_moveLast_21 : decode cX4_moveLast 21 = .ok (.aload_n 0, 1) := by decide +kernel
theorem dX4_moveLast_22 : decode cX4_moveLast 22 = .ok (.iload_n 2, 1) := by decide +kernel
theorem dX4_moveLast_23 : decode cX4_moveLast 23 = .ok (.iload_n 3, 1) := by decide +kernel
theorem dX4_moveLast_24 : decode cX4_moveLast 24 = .ok (.invokevirtual 25, 3) := by decide +kernel
theorem dX4_moveLast_27 : decode cX4_moveLast 27 = .ok (.return_, 1) := by decide +kernel
theorem dX4_append_0 : decode cX4_append 0 = .ok (.aload_n 0, 1) := by decide +kernel
theorem dX4_append_1 : decode cX4_append 1 = .ok (.getfield 15, 3) := by decide +kernel
theorem dX4_append_4 : decode cX4_append 4 = .ok (.iload_n 1, 1) := by decide +kernel
theorem dX4_append_5 : decode cX4_append 5 = .ok (.iaload, 1) := by decide +kernel
theorem dX4_append_6 : decode cX4_append 6 = .ok (.bipush 8, 2) := by decide +kernel
theorem dX4_append_8 : decode cX4_append 8 = .ok (.if_icmp .ge 30, 3) := by decide +kernel
theorem dX4_append_11 : decode cX4_append 11 = .ok (.aload_n 0, 1) := by decide +kernel
theorem dX4_append_12 : decode cX4_append 12 = .ok (.getfield 18, 3) := by decide +kernel
theorem dX4_append_15 : decode cX4_append 15 = .ok (.iload_n 1, 1) := by decide +kernel
theorem dX4_append_16 : decode cX4_append 16 = .ok (.bipush 8, 2) := by decide +kernel
theorem dX4_append_18 : decode cX4_append 18 = .ok (.imul, 1) := by decide +kernel
theorem dX4_append_19 : decode cX4_append 19 = .ok (.aload_n 0, 1) := by decide +kernel
theorem dX4_append_20 : decode cX4_append 20 = .ok (.getfield 15, 3) := by decide +kernel
theorem dX4_append_23 : decode cX4_append 23 = .ok (.iload_n 1, 1) := by decide +kernel
theorem dX4_append_24 : decode cX4_append 24 = .ok (.iaload, 1) := by decide +kernel
theorem dX4_append_25 : decode cX4_append 25 = .ok (.iadd, 1) := by decide +kernel
theorem dX4_append_26 : decode cX4_append 26 = .ok (.iload_n 2, 1) := by decide +kernel
theorem dX4_append_27 : decode cX4_append 27 = .ok (.iastore, 1) := by decide +kernel
theorem dX4_append_28 : decode cX4_append 28 = .ok (.aload_n 0, 1) := by decide +kernel
theorem dX4_append_29 : decode cX4_append 29 = .ok (.getfield 15, 3) := by decide +kernel
theorem dX4_append_32 : decode cX4_append 32 = .ok (.iload_n 1, 1) := by decide +kernel
theorem dX4_append_33 : decode cX4_append 33 = .ok (.dup2, 1) := by decide +kernel
theorem dX4_append_34 : decode cX4_append 34 = .ok (.iaload, 1) := by decide +kernel
theorem dX4_append_35 : decode cX4_append 35 = .ok (.iconst 1, 1) := by decide +kernel
theorem dX4_append_36 : decode cX4_append 36 = .ok (.iadd, 1) := by decide +kernel
theorem dX4_append_37 : decode cX4_append 37 = .ok (.iastore, 1) := by decide +kernel
theorem dX4_append_38 : decode cX4_append 38 = .ok (.return_, 1) := by decide +kernel
set_option maxRecDepth 20000 in
theorem ggX5_init_X2_init : GoodIn wsX5_init wsX2_init := goodIn_r _ [26, 27, 2, 3, 28, 29, 58] (by decide +kernel) (by decide +kernel)
set_option maxRecDepth 20000 in
theorem gX5_init_X2_init_n9 : GoodIn wsX5_init (wsX2_init) := ggX5_init_X2_init
set_option maxRecDepth 20000 in
theorem ggX5_init_X3_init : GoodIn wsX5_init wsX3_init := goodIn_r _ [31, 32, 2, 3, 33, 34, 28, 35, 36, 37, 67, 68, 69, 70, 71] (by decide +kernel) (by decide +kernel)
set_option maxRecDepth 20000 in
theorem gX5_init_X3_init_n18 : GoodIn wsX5_init (wsX3_init) := ggX5_init_X3_init
set_option maxRecDepth 20000 in
theorem ggX5_init_X0_init : GoodIn wsX5_init wsX0_init := goodIn_r _ [39, 40, 2, 3, 33, 41, 42, 43, 44, 45, 72, 73, 74, 75, 76, 77] (by decide +kernel) (by decide +kernel)
set_option maxRecDepth 20000 in
theorem gX5_init_X0_init_n28 : GoodIn wsX5_init (wsX0_init) := ggX5_init_X0_init
set_option maxRecDepth 20000 in
theorem ggX5_init_X4_init : GoodIn wsX5_init wsX4_init := goodIn_r _ [47, 48, 2, 3, 33, 49, 50, 51, 78, 79, 80, 81] (by decide +kernel) (by decide +kernel)
set_option maxRecDepth 20000 in
theorem gX5_init_X4_init_n35 : GoodIn wsX5_init (wsX4_init) := ggX5_init_X4_init
set_option maxRecDepth 20000 in
theorem ggX5_init_X1_init : GoodIn wsX5_init wsX1_init := goodIn_r _ [53, 54, 2, 3, 33, 55, 56, 57, 82, 83, 84] (by decide +kernel) (by decide +kernel)
set_option maxRecDepth 20000 in
theorem gX5_init_X1_init_n42 : GoodIn wsX5_init (wsX1_init) := ggX5_init_X1_init
theorem dX5_init_0 : decode cX5_init 0 = .ok (.aload_n 0, 1) := by decide +kernel
theorem dX5_init_1 : decode cX5_init 1 = .ok (.invokespecial 1, 3) := by decide +kernel
theorem dX5_init_4 : decode cX5_init 4 = .ok (.aload_n 0, 1) := by decide +kernel
theorem dX5_init_5 : decode cX5_init 5 = .ok (.new 7, 3) := by decide +kernel
theorem dX5_init_8 : decode cX5_init 8 = .ok (.dup, 1) := by decide +kernel
theorem dX5_init_9 : decode cX5_init 9 = .ok (.invokespecial 9, 3) := by decide +kernel
theorem dX5_init_12 : decode cX5_init 12 = .ok (.putfield 10, 3) := by decide +kernel
theorem dX5_init_15 : decode cX5_init 15 = .ok (.aload_n 0, 1) := by decide +kernel
theorem dX5_init_16 : decode cX5_init 16 = .ok (.new 16, 3) := by decide +kernel
theorem dX5_init_19 : decode cX5_init 19 = .ok (.dup, 1) := by decide +kernel
theorem dX5_init_20 : decode cX5_init 20 = .ok (.invokespecial 18, 3) := by decide +kernel
theorem dX5_init_23 : decode cX5_init 23 = .ok (.putfield 19, 3) := by decide +kernel
theorem dX5_init_26 : decode cX5_init 26 = .ok (.aload_n 0, 1) := by decide +kernel
theorem dX5_init_27 : decode cX5_init 27 = .ok (.new 16, 3) := by decide +kernel
theorem dX5_init_30 : decode cX5_init 30 = .ok (.dup, 1) := by decide +kernel
theorem dX5_init_31 : decode cX5_init 31 = .ok (.invokespecial 18, 3) := by decide +kernel
theorem dX5_init_34 : decode cX5_init 34 = .ok (.putfield 23, 3) := by decide +kernel
theorem dX5_init_37 : decode cX5_init 37 = .ok (.aload_n 0, 1) := by decide +kernel
theorem dX5_init_38 : decode cX5_init 38 = .ok (.new 26, 3) := by decide +kernel
theorem dX5_init_41 : decode cX5_init 41 = .ok (.dup, 1) := by decide +kernel
theorem dX5_init_42 : decode cX5_init 42 = .ok (.invokespecial 28, 3) := by decide +kernel
theorem dX5_init_45 : decode cX5_init 45 = .ok (.putfield 29, 3) := by decide +kernel
theorem dX5_init_48 : decode cX5_init 48 = .ok (.aload_n 0, 1) := by decide +kernel
theorem dX5_init_49 : decode cX5_init 49 = .ok (.new 33, 3) := by decide +kernel
theorem dX5_init_52 : decode cX5_init 52 = .ok (.dup, 1) := by decide +kernel
theorem dX5_init_53 : decode cX5_init 53 = .ok (.invokespecial 35, 3) := by decide +kernel
theorem dX5_init_56 : decode cX5_init 56 = .ok (.putfield 36, 3) := by decide +kernel
theorem dX5_init_59 : decode cX5_init 59 = .ok (.aload_n 0, 1) := by decide +kernel
theorem dX5_init_60 : decode cX5_init 60 = .ok (.new 40, 3) := by decide +kernel
theorem dX5_init_63 : decode cX5_init 63 = .ok (.dup, 1) := by decide +kernel
theorem dX5_init_64 : decode cX5_init 64 = .ok (.invokespecial 42, 3) := by decide +kernel
theorem dX5_init_67 : decode cX5_init 67 = .ok (.putfield 43, 3) := by decide +kernel
theorem dX5_init_70 : decode cX5_init 70 = .ok (.return_, 1) := by decide +kernel
set_option maxRecDepth 20000 in
theorem ggX5_addTrain_X5_needBlock : GoodIn wsX5_addTrain wsX5_needBlock := goodIn_ca (goodIn_r _ [8, 9, 10] (by decide +kernel) (by decide +kernel)) (goodIn_sub (fun _ h => List.mem_cons_of_mem _ (List.mem_append_right _ h)) (by decide +kernel))
set_option maxRecDepth 20000 in
theorem gX5_addTrain_X5_needBlock : GoodIn wsX5_addTrain (va_wsS RX5 47 yX5_needBlock wsX5_needBlock) := goodIn_app (goodIn_of _ (by decide +kernel)) ggX5_addTrain_X5_needBlock
set_option maxRecDepth 20000 in
theorem ggX5_addTrain_X3_standingOn : GoodIn wsX5_addTrain wsX3_standingOn := goodIn_r _ [15, 16, 17, 31, 32, 33, 34, 35] (by decide +kernel) (by decide +kernel)
set_option maxRecDepth 20000 in
theorem gX5_addTrain_X3_standingOn : GoodIn wsX5_addTrain (wsV RX5 62 RX3 yX3_standingOn wsX3_standingOn) := goodIn_app (goodIn_of _ (by decide +kernel)) ggX5_addTrain_X3_standingOn
set_option maxRecDepth 20000 in
theorem ggX5_addTrain_X3_add : GoodIn wsX5_addTrain wsX3_add := goodIn_r _ [21, 16, 17, 22, 31, 32, 33, 34, 35] (by decide +kernel) (by decide +kernel)
set_option maxRecDepth 20000 in
theorem gX5_addTrain_X3_add : GoodIn wsX5_addTrain (wsV RX5 68 RX3 yX3_add wsX3_add) := goodIn_app (goodIn_of _ (by decide +kernel)) ggX5_addTrain_X3_add
theorem dX5_addTrain_0 : decode cX5_addTrain 0 = .ok (.iload_n 1, 1) := by decide +kernel
theorem dX5_addTrain_1 : decode cX5_addTrain 1 = .ok (.invokestatic 47, 3) := by decide +kernel
theorem dX5_addTrain_4 : decode cX5_addTrain 4 = .ok (.aload_n 0, 1) := by decide +kernel
theorem dX5_addTrain_5 : decode cX5_addTrain 5 = .ok (.getfield 19, 3) := by decide +kernel
theorem dX5_addTrain_8 : decode cX5_addTrain 8 = .ok (.getfield 51, 3) := by decide +kernel
theorem dX5_addTrain_11 : decode cX5_addTrain 11 = .ok (.iconst 4, 1) := by decide +kernel
theorem dX5_addTrain_12 : decode cX5_addTrain 12 = .ok (.if_icmp .lt 13, 3) := by decide +kernel
theorem dX5_addTrain_15 : decode cX5_addTrain 15 = .ok (.new 55, 3) := by decide +kernel
theorem dX5_addTrain_18 : decode cX5_addTrain 18 = .ok (.dup, 1) := by decide +kernel
theorem dX5_addTrain_19 : decode cX5_addTrain 19 = .ok (.ldc 57, 2) := by decide +kernel
theorem dX5_addTrain_21 : decode cX5_addTrain 21 = .ok (.invokespecial 59, 3) := by decide +kernel
theorem dX5_addTrain_24 : decode cX5_addTrain 24 = .ok (.athrow, 1) := by decide +kernel
theorem dX5_addTrain_25 : decode cX5_addTrain 25 = .ok (.aload_n 0, 1) := by decide +kernel
theorem dX5_addTrain_26 : decode cX5_addTrain 26 = .ok (.getfield 19, 3) := by decide +kernel
theorem dX5_addTrain_29 : decode cX5_addTrain 29 = .ok (.iload_n 1, 1) := by decide +kernel
theorem dX5_addTrain_30 : decode cX5_addTrain 30 = .ok (.invokevirtual 62, 3) := by decide +kernel
theorem dX5_addTrain_33 : decode cX5_addTrain 33 = .ok (.iconst (-1), 1) := by decide +kernel
theorem dX5_addTrain_34 : decode cX5_addTrain 34 = .ok (.if_icmp .eq 13, 3) := by decide +kernel
theorem dX5_addTrain_37 : decode cX5_addTrain 37 = .ok (.new 55, 3) := by decide +kernel
theorem dX5_addTrain_40 : decode cX5_addTrain 40 = .ok (.dup, 1) := by decide +kernel
theorem dX5_addTrain_41 : decode cX5_addTrain 41 = .ok (.ldc 66, 2) := by decide +kernel
theorem dX5_addTrain_43 : decode cX5_addTrain 43 = .ok (.invokespecial 59, 3) := by decide +kernel
theorem dX5_addTrain_46 : decode cX5_addTrain 46 = .ok (.athrow, 1) := by decide +kernel
theorem dX5_addTrain_47 : decode cX5_addTrain 47 = .ok (.aload_n 0, 1) := by decide +kernel
theorem dX5_addTrain_48 : decode cX5_addTrain 48 = .ok (.getfield 19, 3) := by decide +kernel
theorem dX5_addTrain_51 : decode cX5_addTrain 51 = .ok (.iload_n 1, 1) := by decide +kernel
theorem dX5_addTrain_52 : decode cX5_addTrain 52 = .ok (.iload_n 2, 1) := by decide +kernel
theorem dX5_addTrain_53 : decode cX5_addTrain 53 = .ok (.invokevirtual 68, 3) := by decide +kernel
theorem dX5_addTrain_56 : decode cX5_addTrain 56 = .ok (.ireturn, 1) := by decide +kernel
set_option maxRecDepth 20000 in
theorem ggX5_hold_X5_needTrain : GoodIn wsX5_hold wsX5_needTrain := goodIn_ca (goodIn_r _ [7, 8, 9, 1, 10, 11, 12, 13, 14, 15, 16, 17, 18, 19, 20, 21, 22, 23] (by decide +kernel) (by decide +kernel)) (goodIn_sub (fun _ h => List.mem_cons_of_mem _ (List.mem_append_right _ h)) (by decide +kernel))
set_option maxRecDepth 20000 in
theorem gX5_hold_X5_needTrain : GoodIn wsX5_hold (wsV RX5 72 RX5 yX5_needTrain wsX5_needTrain) := goodIn_app (goodIn_of _ (by decide +kernel)) ggX5_hold_X5_needTrain
theorem dX5_hold_0 : decode cX5_hold 0 = .ok (.aload_n 0, 1) := by decide +kernel
theorem dX5_hold_1 : decode cX5_hold 1 = .ok (.iload_n 1, 1) := by decide +kernel
theorem dX5_hold_2 : decode cX5_hold 2 = .ok (.invokevirtual 72, 3) := by decide +kernel
theorem dX5_hold_5 : decode cX5_hold 5 = .ok (.aload_n 0, 1) := by decide +kernel
theorem dX5_hold_6 : decode cX5_hold 6 = .ok (.getfield 19, 3) := by decide +kernel
theorem dX5_hold_9 : decode cX5_hold 9 = .ok (.getfield 75, 3) := by decide +kernel
theorem dX5_hold_12 : decode cX5_hold 12 = .ok (.iload_n 1, 1) := by decide +kernel
theorem dX5_hold_13 : decode cX5_hold 13 = .ok (.baload, 1) := by decide +kernel
theorem dX5_hold_14 : decode cX5_hold 14 = .ok (.iload_n 2, 1) := by decide +kernel
theorem dX5_hold_15 : decode cX5_hold 15 = .ok (.if_icmp .eq 7, 3) := by decide +kernel
theorem dX5_hold_18 : decode cX5_hold 18 = .ok (.iconst 1, 1) := by decide +kernel
theorem dX5_hold_19 : decode cX5_hold 19 = .ok (.goto 4, 3) := by decide +kernel
theorem dX5_hold_22 : decode cX5_hold 22 = .ok (.iconst 0, 1) := by decide +kernel
theorem dX5_hold_23 : decode cX5_hold 23 = .ok (.istore_n 3, 1) := by decide +kernel
theorem dX5_hold_24 : decode cX5_hold 24 = .ok (.aload_n 0, 1) := by decide +kernel
theorem dX5_hold_25 : decode cX5_hold 25 = .ok (.getfield 19, 3) := by decide +kernel
theorem dX5_hold_28 : decode cX5_hold 28 = .ok (.getfield 75, 3) := by decide +kernel
theorem dX5_hold_31 : decode cX5_hold 31 = .ok (.iload_n 1, 1) := by decide +kernel
theorem dX5_hold_32 : decode cX5_hold 32 = .ok (.iload_n 2, 1) := by decide +kernel
theorem dX5_hold_33 : decode cX5_hold 33 = .ok (.bastore, 1) := by decide +kernel
theorem dX5_hold_34 : decode cX5_hold 34 = .ok (.iload_n 3, 1) := by decide +kernel
theorem dX5_hold_35 : decode cX5_hold 35 = .ok (.ireturn, 1) := by decide +kernel
set_option maxRecDepth 20000 in
theorem ggX5_delay_X5_needTrain : GoodIn wsX5_delay wsX5_needTrain := goodIn_ca (goodIn_r _ [9, 10, 11, 3, 12, 16, 17, 18, 19, 20, 21, 22, 23, 24, 25, 26, 27, 28] (by decide +kernel) (by decide +kernel)) (goodIn_sub (fun _ h => List.mem_cons_of_mem _ (List.mem_append_right _ h)) (by decide +kernel))
set_option maxRecDepth 20000 in
theorem gX5_delay_X5_needTrain : GoodIn wsX5_delay (wsV RX5 72 RX5 yX5_needTrain wsX5_needTrain) := goodIn_app (goodIn_of _ (by decide +kernel)) ggX5_delay_X5_needTrain
set_option maxRecDepth 20000 in
theorem ggX5_delay_X5_needMinutesToRun : GoodIn wsX5_delay wsX5_needMinutesToRun := goodIn_ca (goodIn_r _ [15, 1, 2] (by decide +kernel) (by decide +kernel)) (goodIn_sub (fun _ h => List.mem_cons_of_mem _ (List.mem_append_left _ (List.mem_append_right _ h))) (by decide +kernel))
set_option maxRecDepth 20000 in
theorem gX5_delay_X5_needMinutesToRun : GoodIn wsX5_delay (va_wsS RX5 79 yX5_needMinutesToRun wsX5_needMinutesToRun) := goodIn_app (goodIn_of _ (by decide +kernel)) ggX5_delay_X5_needMinutesToRun
theorem dX5_delay_0 : decode cX5_delay 0 = .ok (.aload_n 0, 1) := by decide +kernel
theorem dX5_delay_1 : decode cX5_delay 1 = .ok (.iload_n 1, 1) := by decide +kernel
theorem dX5_delay_2 : decode cX5_delay 2 = .ok (.invokevirtual 72, 3) := by decide +kernel
theorem dX5_delay_5 : decode cX5_delay 5 = .ok (.iload_n 2, 1) := by decide +kernel
theorem dX5_delay_6 : decode cX5_delay 6 = .ok (.invokestatic 79, 3) := by decide +kernel
theorem dX5_delay_9 : decode cX5_delay 9 = .ok (.aload_n 0, 1) := by decide +kernel
theorem dX5_delay_10 : decode cX5_delay 10 = .ok (.getfield 19, 3) := by decide +kernel
theorem dX5_delay_13 : decode cX5_delay 13 = .ok (.getfield 82, 3) := by decide +kernel
theorem dX5_delay_16 : decode cX5_delay 16 = .ok (.iload_n 1, 1) := by decide +kernel
theorem dX5_delay_17 : decode cX5_delay 17 = .ok (.iaload, 1) := by decide +kernel
theorem dX5_delay_18 : decode cX5_delay 18 = .ok (.iload_n 2, 1) := by decide +kernel
theorem dX5_delay_19 : decode cX5_delay 19 = .ok (.iadd, 1) := by decide +kernel
theorem dX5_delay_20 : decode cX5_delay 20 = .ok (.istore_n 3, 1) := by decide +kernel
theorem dX5_delay_21 : decode cX5_delay 21 = .ok (.iload_n 3, 1) := by decide +kernel
theorem dX5_delay_22 : decode cX5_delay 22 = .ok (.sipush 1000, 3) := by decide +kernel
theorem dX5_delay_25 : decode cX5_delay 25 = .ok (.if_icmp .le 13, 3) := by decide +kernel
theorem dX5_delay_28 : decode cX5_delay 28 = .ok (.new 86, 3) := by decide +kernel
theorem dX5_delay_31 : decode cX5_delay 31 = .ok (.dup, 1) := by decide +kernel
theorem dX5_delay_32 : decode cX5_delay 32 = .ok (.ldc 88, 2) := by decide +kernel
theorem dX5_delay_34 : decode cX5_delay 34 = .ok (.invokespecial 90, 3) := by decide +kernel
theorem dX5_delay_37 : decode cX5_delay 37 = .ok (.athrow, 1) := by decide +kernel
theorem dX5_delay_38 : decode cX5_delay 38 = .ok (.aload_n 0, 1) := by decide +kernel
theorem dX5_delay_39 : decode cX5_delay 39 = .ok (.getfield 19, 3) := by decide +kernel
theorem dX5_delay_42 : decode cX5_delay 42 = .ok (.getfield 82, 3) := by decide +kernel
theorem dX5_delay_45 : decode cX5_delay 45 = .ok (.iload_n 1, 1) := by decide +kernel
theorem dX5_delay_46 : decode cX5_delay 46 = .ok (.iload_n 3, 1) := by decide +kernel
theorem dX5_delay_47 : decode cX5_delay 47 = .ok (.iastore, 1) := by decide +kernel
theorem dX5_delay_48 : decode cX5_delay 48 = .ok (.iload_n 3, 1) := by decide +kernel
theorem dX5_delay_49 : decode cX5_delay 49 = .ok (.ireturn, 1) := by decide +kernel
set_option maxRecDepth 20000 in
theorem ggX5_reverse_X5_needTrain : GoodIn wsX5_reverse wsX5_needTrain := goodIn_ca (goodIn_r _ [6, 7, 8, 1, 9, 16, 17, 18, 19, 20, 21, 22, 23, 24, 25, 26, 27, 28] (by decide +kernel) (by decide +kernel)) (goodIn_sub (fun _ h => List.mem_cons_of_mem _ (List.mem_append_right _ h)) (by decide +kernel))
set_option maxRecDepth 20000 in
theorem gX5_reverse_X5_needTrain : GoodIn wsX5_reverse (wsV RX5 72 RX5 yX5_needTrain wsX5_needTrain) := goodIn_app (goodIn_of _ (by decide +kernel)) ggX5_reverse_X5_needTrain
set_option maxRecDepth 20000 in
theorem ggX5_reverse_X3_turnRound : GoodIn wsX5_reverse wsX3_turnRound := goodIn_r _ [14, 15, 24, 25, 26, 27, 28] (by decide +kernel) (by decide +kernel)
set_option maxRecDepth 20000 in
theorem gX5_reverse_X3_turnRound : GoodIn wsX5_reverse (wsV RX5 91 RX3 yX3_turnRound wsX3_turnRound) := goodIn_app (goodIn_of _ (by decide +kernel)) ggX5_reverse_X3_turnRound
theorem dX5_reverse_0 : decode cX5_reverse 0 = .ok (.aload_n 0, 1) := by decide +kernel
theorem dX5_reverse_1 : decode cX5_reverse 1 = .ok (.iload_n 1, 1) := by decide +kernel
theorem dX5_reverse_2 : decode cX5_reverse 2 = .ok (.invokevirtual 72, 3) := by decide +kernel
theorem dX5_reverse_5 : decode cX5_reverse 5 = .ok (.aload_n 0, 1) := by decide +kernel
theorem dX5_reverse_6 : decode cX5_reverse 6 = .ok (.getfield 19, 3) := by decide +kernel
theorem dX5_reverse_9 : decode cX5_reverse 9 = .ok (.iload_n 1, 1) := by decide +kernel
theorem dX5_reverse_10 : decode cX5_reverse 10 = .ok (.invokevirtual 91, 3) := by decide +kernel
theorem dX5_reverse_13 : decode cX5_reverse 13 = .ok (.ireturn, 1) := by decide +kernel
set_option maxRecDepth 20000 in
theorem ggX5_throwSwitch_X2_turn : GoodIn wsX5_throwSwitch wsX2_turn := goodIn_r _ [8, 9, 18] (by decide +kernel) (by decide +kernel)
set_option maxRecDepth 20000 in
theorem gX5_throwSwitch_X2_turn : GoodIn wsX5_throwSwitch (wsV RX5 100 RX2 yX2_turn wsX2_turn) := goodIn_app (goodIn_of _ (by decide +kernel)) ggX5_throwSwitch_X2_turn
theorem dX5_throwSwitch_0 : decode cX5_throwSwitch 0 = .ok (.iload_n 1, 1) := by decide +kernel
theorem dX5_throwSwitch_1 : decode cX5_throwSwitch 1 = .ok (.ifCond .lt 8, 3) := by decide +kernel
theorem dX5_throwSwitch_4 : decode cX5_throwSwitch 4 = .ok (.iload_n 1, 1) := by decide +kernel
theorem dX5_throwSwitch_5 : decode cX5_throwSwitch 5 = .ok (.iconst 2, 1) := by decide +kernel
theorem dX5_throwSwitch_6 : decode cX5_throwSwitch 6 = .ok (.if_icmp .lt 13, 3) := by decide +kernel
theorem dX5_throwSwitch_9 : decode cX5_throwSwitch 9 = .ok (.new 95, 3) := by decide +kernel
theorem dX5_throwSwitch_12 : decode cX5_throwSwitch 12 = .ok (.dup, 1) := by decide +kernel
theorem dX5_throwSwitch_13 : decode cX5_throwSwitch 13 = .ok (.ldc 97, 2) := by decide +kernel
theorem dX5_throwSwitch_15 : decode cX5_throwSwitch 15 = .ok (.invokespecial 99, 3) := by decide +kernel
theorem dX5_throwSwitch_18 : decode cX5_throwSwitch 18 = .ok (.athrow, 1) := by decide +kernel
theorem dX5_throwSwitch_19 : decode cX5_throwSwitch 19 = .ok (.aload_n 0, 1) := by decide +kernel
theorem dX5_throwSwitch_20 : decode cX5_throwSwitch 20 = .ok (.getfield 10, 3) := by decide +kernel
theorem dX5_throwSwitch_23 : decode cX5_throwSwitch 23 = .ok (.iload_n 1, 1) := by decide +kernel
theorem dX5_throwSwitch_24 : decode cX5_throwSwitch 24 = .ok (.invokevirtual 100, 3) := by decide +kernel
theorem dX5_throwSwitch_27 : decode cX5_throwSwitch 27 = .ok (.ireturn, 1) := by decide +kernel
set_option maxRecDepth 20000 in
theorem ggX5_block_X5_needTrain : GoodIn wsX5_block wsX5_needTrain := goodIn_ca (goodIn_r _ [7, 8, 9, 1, 10, 11, 12, 13, 14, 15, 16, 17, 18, 19, 20, 21, 22, 23] (by decide +kernel) (by decide +kernel)) (goodIn_sub (fun _ h => List.mem_cons_of_mem _ (List.mem_append_right _ h)) (by decide +kernel))
set_option maxRecDepth 20000 in
theorem gX5_block_X5_needTrain : GoodIn wsX5_block (wsV RX5 72 RX5 yX5_needTrain wsX5_needTrain) := goodIn_app (goodIn_of _ (by decide +kernel)) ggX5_block_X5_needTrain
theorem dX5_block_0 : decode cX5_block 0 = .ok (.aload_n 0, 1) := by decide +kernel
theorem dX5_block_1 : decode cX5_block 1 = .ok (.iload_n 1, 1) := by decide +kernel
theorem dX5_block_2 : decode cX5_block 2 = .ok (.invokevirtual 72, 3) := by decide +kernel
theorem dX5_block_5 : decode cX5_block 5 = .ok (.aload_n 0, 1) := by decide +kernel
theorem dX5_block_6 : decode cX5_block 6 = .ok (.getfield 19, 3) := by decide +kernel
theorem dX5_block_9 : decode cX5_block 9 = .ok (.getfield 103, 3) := by decide +kernel
theorem dX5_block_12 : decode cX5_block 12 = .ok (.iload_n 1, 1) := by decide +kernel
theorem dX5_block_13 : decode cX5_block 13 = .ok (.iaload, 1) := by decide +kernel
theorem dX5_block_14 : decode cX5_block 14 = .ok (.ireturn, 1) := by decide +kernel
set_option maxRecDepth 20000 in
theorem ggX5_isRight_X5_needTrain : GoodIn wsX5_isRight wsX5_needTrain := goodIn_ca (goodIn_r _ [7, 8, 9, 1, 10, 11, 12, 13, 14, 15, 16, 17, 18, 19, 20, 21, 22, 23] (by decide +kernel) (by decide +kernel)) (goodIn_sub (fun _ h => List.mem_cons_of_mem _ (List.mem_append_right _ h)) (by decide +kernel))
set_option maxRecDepth 20000 in
theorem gX5_isRight_X5_needTrain : GoodIn wsX5_isRight (wsV RX5 72 RX5 yX5_needTrain wsX5_needTrain) := goodIn_app (goodIn_of _ (by decide +kernel)) ggX5_isRight_X5_needTrain
theorem dX5_isRight_0 : decode cX5_isRight 0 = .ok (.aload_n 0, 1) := by decide +kernel
theorem dX5_isRight_1 : decode cX5_isRight 1 = .ok (.iload_n 1, 1) := by decide +kernel
theorem dX5_isRight_2 : decode cX5_isRight 2 = .ok (.invokevirtual 72, 3) := by decide +kernel
theorem dX5_isRight_5 : decode cX5_isRight 5 = .ok (.aload_n 0, 1) := by decide +kernel
theorem dX5_isRight_6 : decode cX5_isRight 6 = .ok (.getfield 19, 3) := by decide +kernel
theorem dX5_isRight_9 : decode cX5_isRight 9 = .ok (.getfield 106, 3) := by decide +kernel
theorem dX5_isRight_12 : decode cX5_isRight 12 = .ok (.iload_n 1, 1) := by decide +kernel
theorem dX5_isRight_13 : decode cX5_isRight 13 = .ok (.baload, 1) := by decide +kernel
theorem dX5_isRight_14 : decode cX5_isRight 14 = .ok (.ireturn, 1) := by decide +kernel
set_option maxRecDepth 20000 in
theorem ggX5_trainOn_X5_needBlock : GoodIn wsX5_trainOn wsX5_needBlock := goodIn_ca (goodIn_r _ [5, 6, 7] (by decide +kernel) (by decide +kernel)) (goodIn_sub (fun _ h => List.mem_cons_of_mem _ (List.mem_append_right _ h)) (by decide +kernel))
set_option maxRecDepth 20000 in
theorem gX5_trainOn_X5_needBlock : GoodIn wsX5_trainOn (va_wsS RX5 47 yX5_needBlock wsX5_needBlock) := goodIn_app (goodIn_of _ (by decide +kernel)) ggX5_trainOn_X5_needBlock
set_option maxRecDepth 20000 in
theorem ggX5_trainOn_X3_standingOn : GoodIn wsX5_trainOn wsX3_standingOn := goodIn_r _ [12, 13, 14, 23, 24, 25, 26, 27] (by decide +kernel) (by decide +kernel)
set_option maxRecDepth 20000 in
theorem gX5_trainOn_X3_standingOn : GoodIn wsX5_trainOn (wsV RX5 62 RX3 yX3_standingOn wsX3_standingOn) := goodIn_app (goodIn_of _ (by decide +kernel)) ggX5_trainOn_X3_standingOn
theorem dX5_trainOn_0 : decode cX5_trainOn 0 = .ok (.iload_n 1, 1) := by decide +kernel
theorem dX5_trainOn_1 : decode cX5_trainOn 1 = .ok (.invokestatic 47, 3) := by decide +kernel
theorem dX5_trainOn_4 : decode cX5_trainOn 4 = .ok (.aload_n 0, 1) := by decide +kernel
theorem dX5_trainOn_5 : decode cX5_trainOn 5 = .ok (.getfield 19, 3) := by decide +kernel
theorem dX5_trainOn_8 : decode cX5_trainOn 8 = .ok (.iload_n 1, 1) := by decide +kernel
theorem dX5_trainOn_9 : decode cX5_trainOn 9 = .ok (.invokevirtual 62, 3) := by decide +kernel
theorem dX5_trainOn_12 : decode cX5_trainOn 12 = .ok (.ireturn, 1) := by decide +kernel
set_option maxRecDepth 20000 in
theorem ggX5_run_X5_needMinutesToRun : GoodIn wsX5_run wsX5_needMinutesToRun := goodIn_ca (goodIn_r _ [10, 11, 12] (by decide +kernel) (by decide +kernel)) (goodIn_sub (fun _ h => List.mem_cons_of_mem _ (List.mem_append_right _ h)) (by decide +kernel))
set_option maxRecDepth 20000 in
theorem gX5_run_X5_needMinutesToRun : GoodIn wsX5_run (va_wsS RX5 79 yX5_needMinutesToRun wsX5_needMinutesToRun) := goodIn_app (goodIn_of _ (by decide +kernel)) ggX5_run_X5_needMinutesToRun
set_option maxRecDepth 20000 in
theorem ggX5_run_X3_runMinute : GoodIn wsX5_run wsX3_runMinute := goodIn_r _ [17, 18, 19, 20, 21, 16, 22, 23, 24, 25, 26, 27, 28, 29, 30, 31, 32, 33, 34, 35, 36, 37, 38, 39, 40, 41, 42, 43, 44, 45, 46, 47, 48, 49, 50, 51, 52, 53, 54, 55, 56, 57, 58, 59, 60, 61, 62, 77, 78, 79, 80, 81, 82, 83, 84, 85, 86, 87, 88] (by decide +kernel) (by decide +kernel)
set_option maxRecDepth 20000 in
theorem gX5_run_X3_runMinute : GoodIn wsX5_run (wsV RX5 114 RX3 yX3_runMinute wsX3_runMinute) := goodIn_app (goodIn_of _ (by decide +kernel)) ggX5_run_X3_runMinute
set_option maxRecDepth 20000 in
theorem ggX5_run_X0_markMet : GoodIn wsX5_run wsX0_markMet := goodIn_r _ [66, 54, 67, 55, 56, 61, 57, 58, 59, 52, 60, 62, 68, 46, 47, 16, 48, 18, 25, 83, 84, 85, 86, 87, 88, 77, 78, 79, 80, 81] (by decide +kernel) (by decide +kernel)
set_option maxRecDepth 20000 in
theorem gX5_run_X0_markMet : GoodIn wsX5_run (wsV RX5 118 RX0 yX0_markMet wsX0_markMet) := goodIn_app (goodIn_of _ (by decide +kernel)) ggX5_run_X0_markMet
theorem dX5_run_0 : decode cX5_run 0 = .ok (.iload_n 1, 1) := by decide +kernel
theorem dX5_run_1 : decode cX5_run 1 = .ok (.invokestatic 79, 3) := by decide +kernel
theorem dX5_run_4 : decode cX5_run 4 = .ok (.aload_n 0, 1) := by decide +kernel
theorem dX5_run_5 : decode cX5_run 5 = .ok (.getfield 109, 3) := by decide +kernel
theorem dX5_run_8 : decode cX5_run 8 = .ok (.iload_n 1, 1) := by decide +kernel
theorem dX5_run_9 : decode cX5_run 9 = .ok (.iadd, 1) := by decide +kernel
theorem dX5_run_10 : decode cX5_run 10 = .ok (.sipush 5000, 3) := by decide +kernel
theorem dX5_run_13 : decode cX5_run 13 = .ok (.if_icmp .le 13, 3) := by decide +kernel
theorem dX5_run_16 : decode cX5_run 16 = .ok (.new 55, 3) := by decide +kernel
theorem dX5_run_19 : decode cX5_run 19 = .ok (.dup, 1) := by decide +kernel
theorem dX5_run_20 : decode cX5_run 20 = .ok (.ldc 112, 2) := by decide +kernel
theorem dX5_run_22 : decode cX5_run 22 = .ok (.invokespecial 59, 3) := by decide +kernel
theorem dX5_run_25 : decode cX5_run 25 = .ok (.athrow, 1) := by decide +kernel
theorem dX5_run_26 : decode cX5_run 26 = .ok (.iconst 0, 1) := by decide +kernel
theorem dX5_run_27 : decode cX5_run 27 = .ok (.istore_n 2, 1) := by decide +kernel
theorem dX5_run_28 : decode cX5_run 28 = .ok (.iconst 0, 1) := by decide +kernel
theorem dX5_run_29 : decode cX5_run 29 = .ok (.istore_n 3, 1) := by decide +kernel
theorem dX5_run_30 : decode cX5_run 30 = .ok (.iload_n 3, 1) := by decide +kernel
theorem dX5_run_31 : decode cX5_run 31 = .ok (.iload_n 1, 1) := by decide +kernel
theorem dX5_run_32 : decode cX5_run 32 = .ok (.if_icmp .ge 56, 3) := by decide +kernel
theorem dX5_run_35 : decode cX5_run 35 = .ok (.iload_n 2, 1) := by decide +kernel
theorem dX5_run_36 : decode cX5_run 36 = .ok (.aload_n 0, 1) := by decide +kernel
theorem dX5_run_37 : decode cX5_run 37 = .ok (.getfield 19, 3) := by decide +kernel
theorem dX5_run_40 : decode cX5_run 40 = .ok (.aload_n 0, 1) := by decide +kernel
theorem dX5_run_41 : decode cX5_run 41 = .ok (.getfield 10, 3) := by decide +kernel
theorem dX5_run_44 : decode cX5_run 44 = .ok (.aload_n 0, 1) := by decide +kernel
theorem dX5_run_45 : decode cX5_run 45 = .ok (.getfield 29, 3) := by decide +kernel
theorem dX5_run_48 : decode cX5_run 48 = .ok (.aload_n 0, 1) := by decide +kernel
theorem dX5_run_49 : decode cX5_run 49 = .ok (.getfield 109, 3) := by decide +kernel
theorem dX5_run_52 : decode cX5_run 52 = .ok (.invokevirtual 114, 3) := by decide +kernel
theorem dX5_run_55 : decode cX5_run 55 = .ok (.iadd, 1) := by decide +kernel
theorem dX5_run_56 : decode cX5_run 56 = .ok (.istore_n 2, 1) := by decide +kernel
theorem dX5_run_57 : decode cX5_run 57 = .ok (.aload_n 0, 1) := by decide +kernel
theorem dX5_run_58 : decode cX5_run 58 = .ok (.getfield 29, 3) := by decide +kernel
theorem dX5_run_61 : decode cX5_run 61 = .ok (.aload_n 0, 1) := by decide +kernel
theorem dX5_run_62 : decode cX5_run 62 = .ok (.getfield 19, 3) := by decide +kernel
theorem dX5_run_65 : decode cX5_run 65 = .ok (.aload_n 0, 1) := by decide +kernel
theorem dX5_run_66 : decode cX5_run 66 = .ok (.getfield 109, 3) := by decide +kernel
theorem dX5_run_69 : decode cX5_run 69 = .ok (.invokevirtual 118, 3) := by decide +kernel
theorem dX5_run_72 : decode cX5_run 72 = .ok (.aload_n 0, 1) := by decide +kernel
theorem dX5_run_73 : decode cX5_run 73 = .ok (.dup, 1) := by decide +kernel
theorem dX5_run_74 : decode cX5_run 74 = .ok (.getfield 109, 3) := by decide +kernel
theorem dX5_run_77 : decode cX5_run 77 = .ok (.iconst 1, 1) := by decide +kernel
theorem dX5_run_78 : decode cX5_run 78 = .ok (.iadd, 1) := by decide +kernel
theorem dX5_run_79 : decode cX5_run 79 = .ok (.putfield 109, 3) := by decide +kernel
theorem dX5_run_82 : decode cX5_run 82 = .ok (.iinc 3 1, 3) := by decide +kernel
theorem dX5_run_85 : decode cX5_run 85 = .ok (.goto (-55), 3) := by decide +kernel
theorem dX5_run_88 : decode cX5_run 88 = .ok (.iload_n 2, 1) := by decide +kernel
theorem dX5_run_89 : decode cX5_run 89 = .ok (.ireturn, 1) := by decide +kernel
theorem dX5_clock_0 : decode cX5_clock 0 = .ok (.aload_n 0, 1) := by decide +kernel
theorem dX5_clock_1 : decode cX5_clock 1 = .ok (.getfield 109, 3) := by decide +kernel
theorem dX5_clock_4 : decode cX5_clock 4 = .ok (.ireturn, 1) := by decide +kernel
set_option maxRecDepth 20000 in
theorem ggX5_reaches_X5_needTrain : GoodIn wsX5_reaches wsX5_needTrain := goodIn_ca (goodIn_r _ [11, 12, 13, 1, 14, 72, 73, 74, 75, 76, 77, 78, 79, 80, 81, 82, 83, 84] (by decide +kernel) (by decide +kernel)) (goodIn_sub (fun _ h => List.mem_cons_of_mem _ (List.mem_append_right _ h)) (by decide +kernel))
set_option maxRecDepth 20000 in
theorem gX5_reaches_X5_needTrain : GoodIn wsX5_reaches (wsV RX5 72 RX5 yX5_needTrain wsX5_needTrain) := goodIn_app (goodIn_of _ (by decide +kernel)) ggX5_reaches_X5_needTrain
set_option maxRecDepth 20000 in
theorem ggX5_reaches_X5_needBlock : GoodIn wsX5_reaches wsX5_needBlock := goodIn_ca (goodIn_r _ [17, 12, 13] (by decide +kernel) (by decide +kernel)) (goodIn_sub (fun _ h => List.mem_cons_of_mem _ (List.mem_append_right _ h)) (by decide +kernel))
set_option maxRecDepth 20000 in
theorem gX5_reaches_X5_needBlock : GoodIn wsX5_reaches (va_wsS RX5 47 yX5_needBlock wsX5_needBlock) := goodIn_app (goodIn_of _ (by decide +kernel)) ggX5_reaches_X5_needBlock
set_option maxRecDepth 20000 in
theorem ggX5_reaches_X3_copyFrom : GoodIn wsX5_reaches wsX3_copyFrom := goodIn_r _ [22, 23, 24, 25, 26, 27, 80, 81, 82, 83, 84] (by decide +kernel) (by decide +kernel)
set_option maxRecDepth 20000 in
theorem gX5_reaches_X3_copyFrom : GoodIn wsX5_reaches (wsV RX5 122 RX3 yX3_copyFrom wsX3_copyFrom) := goodIn_app (goodIn_of _ (by decide +kernel)) ggX5_reaches_X3_copyFrom
set_option maxRecDepth 20000 in
theorem ggX5_reaches_X3_runMinute : GoodIn wsX5_reaches wsX3_runMinute := goodIn_r _ [31, 23, 32, 33, 34, 21, 35, 27, 26, 24, 25, 36, 37, 38, 39, 40, 41, 42, 43, 44, 45, 46, 47, 48, 49, 50, 51, 52, 53, 54, 55, 56, 57, 58, 59, 60, 61, 62, 63, 64, 65, 66, 67, 68, 69, 70, 71, 80, 81, 82, 83, 84, 85, 86, 87, 88, 89, 90, 91] (by decide +kernel) (by decide +kernel)
set_option maxRecDepth 20000 in
theorem gX5_reaches_X3_runMinute : GoodIn wsX5_reaches (wsV RX5 114 RX3 yX3_runMinute wsX3_runMinute) := goodIn_app (goodIn_of _ (by decide +kernel)) ggX5_reaches_X3_runMinute
theorem dX5_reaches_0 : decode cX5_reaches 0 = .ok (.aload_n 0, 1) := by decide +kernel
theorem dX5_reaches_1 : decode cX5_reaches 1 = .ok (.iload_n 1, 1) := by decide +kernel
theorem dX5_reaches_2 : decode cX5_reaches 2 = .ok (.invokevirtual 72, 3) := by decide +kernel
theorem dX5_reaches_5 : decode cX5_reaches 5 = .ok (.iload_n 2, 1) := by decide +kernel
theorem dX5_reaches_6 : decode cX5_reaches 6 = .ok (.invokestatic 47, 3) := by decide +kernel
theorem dX5_reaches_9 : decode cX5_reaches 9 = .ok (.aload_n 0, 1) := by decide +kernel
theorem dX5_reaches_10 : decode cX5_reaches 10 = .ok (.getfield 19, 3) := by decide +kernel
theorem dX5_reaches_13 : decode cX5_reaches 13 = .ok (.getfield 103, 3) := by decide +kernel
theorem dX5_reaches_16 : decode cX5_reaches 16 = .ok (.iload_n 1, 1) := by decide +kernel
theorem dX5_reaches_17 : decode cX5_reaches 17 = .ok (.iaload, 1) := by decide +kernel
theorem dX5_reaches_18 : decode cX5_reaches 18 = .ok (.iload_n 2, 1) := by decide +kernel
theorem dX5_reaches_19 : decode cX5_reaches 19 = .ok (.if_icmp .ne 5, 3) := by decide +kernel
theorem dX5_reaches_22 : decode cX5_reaches 22 = .ok (.iconst 0, 1) := by decide +kernel
theorem dX5_reaches_23 : decode cX5_reaches 23 = .ok (.ireturn, 1) := by decide +kernel
theorem dX5_reaches_24 : decode cX5_reaches 24 = .ok (.aload_n 0, 1) := by decide +kernel
theorem dX5_reaches_25 : decode cX5_reaches 25 = .ok (.getfield 23, 3) := by decide +kernel
theorem dX5_reaches_28 : decode cX5_reaches 28 = .ok (.aload_n 0, 1) := by decide +kernel
theorem dX5_reaches_29 : decode cX5_reaches 29 = .ok (.getfield 19, 3) := by decide +kernel
theorem dX5_reaches_32 : decode cX5_reaches 32 = .ok (.invokevirtual 122, 3) := by decide +kernel
theorem dX5_reaches_35 : decode cX5_reaches 35 = .ok (.iconst 1, 1) := by decide +kernel
theorem dX5_reaches_36 : decode cX5_reaches 36 = .ok (.istore_n 3, 1) := by decide +kernel
theorem dX5_reaches_37 : decode cX5_reaches 37 = .ok (.iload_n 3, 1) := by decide +kernel
theorem dX5_reaches_38 : decode cX5_reaches 38 = .ok (.bipush 100, 2) := by decide +kernel
theorem dX5_reaches_40 : decode cX5_reaches 40 = .ok (.if_icmp .gt 48, 3) := by decide +kernel
theorem dX5_reaches_43 : decode cX5_reaches 43 = .ok (.aload_n 0, 1) := by decide +kernel
theorem dX5_reaches_44 : decode cX5_reaches 44 = .ok (.getfield 23, 3) := by decide +kernel
theorem dX5_reaches_47 : decode cX5_reaches 47 = .ok (.aload_n 0, 1) := by decide +kernel
theorem dX5_reaches_48 : decode cX5_reaches 48 = .ok (.getfield 10, 3) := by decide +kernel
theorem dX5_reaches_51 : decode cX5_reaches 51 = .ok (.aload_n 0, 1) := by decide +kernel
theorem dX5_reaches_52 : decode cX5_reaches 52 = .ok (.getfield 29, 3) := by decide +kernel
theorem dX5_reaches_55 : decode cX5_reaches 55 = .ok (.aload_n 0, 1) := by decide +kernel
theorem dX5_reaches_56 : decode cX5_reaches 56 = .ok (.getfield 109, 3) := by decide +kernel
theorem dX5_reaches_59 : decode cX5_reaches 59 = .ok (.iload_n 3, 1) := by decide +kernel
theorem dX5_reaches_60 : decode cX5_reaches 60 = .ok (.iadd, 1) := by decide +kernel
theorem dX5_reaches_61 : decode cX5_reaches 61 = .ok (.iconst 1, 1) := by decide +kernel
theorem dX5_reaches_62 : decode cX5_reaches 62 = .ok (.isub, 1) := by decide +kernel
theorem dX5_reaches_63 : decode cX5_reaches 63 = .ok (.invokevirtual 114, 3) := by decide +kernel
theorem dX5_reaches_66 : decode cX5_reaches 66 = .ok (.pop, 1) := by decide +kernel
theorem dX5_reaches_67 : decode cX5_reaches 67 = .ok (.aload_n 0, 1) := by decide +kernel
theorem dX5_reaches_68 : decode cX5_reaches 68 = .ok (.getfield 23, 3) := by decide +kernel
theorem dX5_reaches_71 : decode cX5_reaches 71 = .ok (.getfield 103, 3) := by decide +kernel
theorem dX5_reaches_74 : decode cX5_reaches 74 = .ok (.iload_n 1, 1) := by decide +kernel
theorem dX5_reaches_75 : decode cX5_reaches 75 = .ok (.iaload, 1) := by decide +kernel
theorem dX5_reaches_76 : decode cX5_reaches 76 = .ok (.iload_n 2, 1) := by decide +kernel
theorem dX5_reaches_77 : decode cX5_reaches 77 = .ok (.if_icmp .ne 5, 3) := by decide +kernel
theorem dX5_reaches_80 : decode cX5_reaches 80 = .ok (.iload_n 3, 1) := by decide +kernel
theorem dX5_reaches_81 : decode cX5_reaches 81 = .ok (.ireturn, 1) := by decide +kernel
theorem dX5_reaches_82 : decode cX5_reaches 82 = .ok (.iinc 3 1, 3) := by decide +kernel
theorem dX5_reaches_85 : decode cX5_reaches 85 = .ok (.goto (-48), 3) := by decide +kernel
theorem dX5_reaches_88 : decode cX5_reaches 88 = .ok (.iconst (-1), 1) := by decide +kernel
theorem dX5_reaches_89 : decode cX5_reaches 89 = .ok (.ireturn, 1) := by decide +kernel
set_option maxRecDepth 20000 in
theorem ggX5_book_X5_needTrain : GoodIn wsX5_book wsX5_needTrain := goodIn_ca (goodIn_r _ [10, 11, 12, 13, 14, 38, 39, 40, 41, 42, 43, 44, 45, 52, 53, 54, 55, 56] (by decide +kernel) (by decide +kernel)) (goodIn_sub (fun _ h => List.mem_cons_of_mem _ (List.mem_append_left _ (List.mem_append_right _ h))) (by decide +kernel))
set_option maxRecDepth 20000 in
theorem gX5_book_X5_needTrain : GoodIn wsX5_book (wsV RX5 72 RX5 yX5_needTrain wsX5_needTrain) := goodIn_app (goodIn_of _ (by decide +kernel)) ggX5_book_X5_needTrain
set_option maxRecDepth 20000 in
theorem ggX5_book_X5_needBlock : GoodIn wsX5_book wsX5_needBlock := goodIn_ca (goodIn_r _ [17, 11, 12] (by decide +kernel) (by decide +kernel)) (goodIn_sub (fun _ h => List.mem_cons_of_mem _ (List.mem_append_left _ (List.mem_append_right _ h))) (by decide +kernel))
set_option maxRecDepth 20000 in
theorem gX5_book_X5_needBlock : GoodIn wsX5_book (va_wsS RX5 47 yX5_needBlock wsX5_needBlock) := goodIn_app (goodIn_of _ (by decide +kernel)) ggX5_book_X5_needBlock
set_option maxRecDepth 20000 in
theorem ggX5_book_X5_needSpan : GoodIn wsX5_book wsX5_needSpan := goodIn_ca (goodIn_r _ [20, 21, 22] (by decide +kernel) (by decide +kernel)) (goodIn_sub (fun _ h => List.mem_cons_of_mem _ (List.mem_append_right _ h)) (by decide +kernel))
set_option maxRecDepth 20000 in
theorem gX5_book_X5_needSpan : GoodIn wsX5_book (va_wsS RX5 126 yX5_needSpan wsX5_needSpan) := goodIn_app (goodIn_of _ (by decide +kernel)) ggX5_book_X5_needSpan
set_option maxRecDepth 20000 in
theorem ggX5_book_X0_meetsAnother : GoodIn wsX5_book wsX0_meetsAnother := goodIn_r _ [27, 28, 29, 30, 31, 32, 46, 47, 48, 49, 50, 51] (by decide +kernel) (by decide +kernel)
set_option maxRecDepth 20000 in
theorem gX5_book_X0_meetsAnother : GoodIn wsX5_book (wsV RX5 133 RX0 yX0_meetsAnother wsX0_meetsAnother) := goodIn_app (goodIn_of _ (by decide +kernel)) ggX5_book_X0_meetsAnother
set_option maxRecDepth 20000 in
theorem ggX5_book_X0_add : GoodIn wsX5_book wsX0_add := goodIn_r _ [36, 28, 30, 29, 31, 32, 37, 46, 47, 48, 49, 50, 51] (by decide +kernel) (by decide +kernel)
set_option maxRecDepth 20000 in
theorem gX5_book_X0_add : GoodIn wsX5_book (wsV RX5 137 RX0 yX0_add wsX0_add) := goodIn_app (goodIn_of _ (by decide +kernel)) ggX5_book_X0_add
theorem dX5_book_0 : decode cX5_book 0 = .ok (.aload_n 0, 1) := by decide +kernel
theorem dX5_book_1 : decode cX5_book 1 = .ok (.iload_n 1, 1) := by decide +kernel
theorem dX5_book_2 : decode cX5_book 2 = .ok (.invokevirtual 72, 3) := by decide +kernel
theorem dX5_book_5 : decode cX5_book 5 = .ok (.iload_n 2, 1) := by decide +kernel
theorem dX5_book_6 : decode cX5_book 6 = .ok (.invokestatic 47, 3) := by decide +kernel
theorem dX5_book_9 : decode cX5_book 9 = .ok (.aload_n 0, 1) := by decide +kernel
theorem dX5_book_10 : decode cX5_book 10 = .ok (.getfield 109, 3) := by decide +kernel
theorem dX5_book_13 : decode cX5_book 13 = .ok (.iload_n 3, 1) := by decide +kernel
theorem dX5_book_14 : decode cX5_book 14 = .ok (.iload 4, 2) := by decide +kernel
theorem dX5_book_16 : decode cX5_book 16 = .ok (.invokestatic 126, 3) := by decide +kernel
theorem dX5_book_19 : decode cX5_book 19 = .ok (.aload_n 0, 1) := by decide +kernel
theorem dX5_book_20 : decode cX5_book 20 = .ok (.getfield 29, 3) := by decide +kernel
theorem dX5_book_23 : decode cX5_book 23 = .ok (.getfield 130, 3) := by decide +kernel
theorem dX5_book_26 : decode cX5_book 26 = .ok (.bipush 30, 2) := by decide +kernel
theorem dX5_book_28 : decode cX5_book 28 = .ok (.if_icmp .lt 13, 3) := by decide +kernel
theorem dX5_book_31 : decode cX5_book 31 = .ok (.new 55, 3) := by decide +kernel
theorem dX5_book_34 : decode cX5_book 34 = .ok (.dup, 1) := by decide +kernel
theorem dX5_book_35 : decode cX5_book 35 = .ok (.ldc 131, 2) := by decide +kernel
theorem dX5_book_37 : decode cX5_book 37 = .ok (.invokespecial 59, 3) := by decide +kernel
theorem dX5_book_40 : decode cX5_book 40 = .ok (.athrow, 1) := by decide +kernel
theorem dX5_book_41 : decode cX5_book 41 = .ok (.aload_n 0, 1) := by decide +kernel
theorem dX5_book_42 : decode cX5_book 42 = .ok (.getfield 29, 3) := by decide +kernel
theorem dX5_book_45 : decode cX5_book 45 = .ok (.iload_n 1, 1) := by decide +kernel
theorem dX5_book_46 : decode cX5_book 46 = .ok (.iload_n 2, 1) := by decide +kernel
theorem dX5_book_47 : decode cX5_book 47 = .ok (.iload_n 3, 1) := by decide +kernel
theorem dX5_book_48 : decode cX5_book 48 = .ok (.iload 4, 2) := by decide +kernel
theorem dX5_book_50 : decode cX5_book 50 = .ok (.invokevirtual 133, 3) := by decide +kernel
theorem dX5_book_53 : decode cX5_book 53 = .ok (.ifCond .eq 5, 3) := by decide +kernel
theorem dX5_book_56 : decode cX5_book 56 = .ok (.iconst (-1), 1) := by decide +kernel
theorem dX5_book_57 : decode cX5_book 57 = .ok (.ireturn, 1) := by decide +kernel
theorem dX5_book_58 : decode cX5_book 58 = .ok (.aload_n 0, 1) := by decide +kernel
theorem dX5_book_59 : decode cX5_book 59 = .ok (.getfield 29, 3) := by decide +kernel
theorem dX5_book_62 : decode cX5_book 62 = .ok (.iload_n 1, 1) := by decide +kernel
theorem dX5_book_63 : decode cX5_book 63 = .ok (.iload_n 2, 1) := by decide +kernel
theorem dX5_book_64 : decode cX5_book 64 = .ok (.iload_n 3, 1) := by decide +kernel
theorem dX5_book_65 : decode cX5_book 65 = .ok (.iload 4, 2) := by decide +kernel
theorem dX5_book_67 : decode cX5_book 67 = .ok (.invokevirtual 137, 3) := by decide +kernel
theorem dX5_book_70 : decode cX5_book 70 = .ok (.ireturn, 1) := by decide +kernel
set_option maxRecDepth 20000 in
theorem ggX5_canBook_X5_needTrain : GoodIn wsX5_canBook wsX5_needTrain := goodIn_ca (goodIn_r _ [6, 7, 8, 9, 10, 29, 30, 31, 32, 33, 34, 35, 36, 37, 38, 39, 40, 41] (by decide +kernel) (by decide +kernel)) (goodIn_sub (fun _ h => List.mem_cons_of_mem _ (List.mem_append_left _ (List.mem_append_right _ h))) (by decide +kernel))
set_option maxRecDepth 20000 in
theorem gX5_canBook_X5_needTrain : GoodIn wsX5_canBook (wsV RX5 72 RX5 yX5_needTrain wsX5_needTrain) := goodIn_app (goodIn_of _ (by decide +kernel)) ggX5_canBook_X5_needTrain
set_option maxRecDepth 20000 in
theorem ggX5_canBook_X5_needBlock : GoodIn wsX5_canBook wsX5_needBlock := goodIn_ca (goodIn_r _ [13, 7, 8] (by decide +kernel) (by decide +kernel)) (goodIn_sub (fun _ h => List.mem_cons_of_mem _ (List.mem_append_left _ (List.mem_append_right _ h))) (by decide +kernel))
set_option maxRecDepth 20000 in
theorem gX5_canBook_X5_needBlock : GoodIn wsX5_canBook (va_wsS RX5 47 yX5_needBlock wsX5_needBlock) := goodIn_app (goodIn_of _ (by decide +kernel)) ggX5_canBook_X5_needBlock
set_option maxRecDepth 20000 in
theorem ggX5_canBook_X5_needSpan : GoodIn wsX5_canBook wsX5_needSpan := goodIn_ca (goodIn_r _ [16, 17, 18] (by decide +kernel) (by decide +kernel)) (goodIn_sub (fun _ h => List.mem_cons_of_mem _ (List.mem_append_right _ h)) (by decide +kernel))
set_option maxRecDepth 20000 in
theorem gX5_canBook_X5_needSpan : GoodIn wsX5_canBook (va_wsS RX5 126 yX5_needSpan wsX5_needSpan) := goodIn_app (goodIn_of _ (by decide +kernel)) ggX5_canBook_X5_needSpan
set_option maxRecDepth 20000 in
theorem ggX5_canBook_X0_meetsAnother : GoodIn wsX5_canBook wsX0_meetsAnother := goodIn_r _ [23, 24, 25, 26, 27, 28, 42, 43, 44, 45, 46, 47] (by decide +kernel) (by decide +kernel)
set_option maxRecDepth 20000 in
theorem gX5_canBook_X0_meetsAnother : GoodIn wsX5_canBook (wsV RX5 133 RX0 yX0_meetsAnother wsX0_meetsAnother) := goodIn_app (goodIn_of _ (by decide +kernel)) ggX5_canBook_X0_meetsAnother
theorem dX5_canBook_0 : decode cX5_canBook 0 = .ok (.aload_n 0, 1) := by decide +kernel
theorem dX5_canBook_1 : decode cX5_canBook 1 = .ok (.iload_n 1, 1) := by decide +kernel
theorem dX5_canBook_2 : decode cX5_canBook 2 = .ok (.invokevirtual 72, 3) := by decide +kernel
theorem dX5_canBook_5 : decode cX5_canBook 5 = .ok (.iload_n 2, 1) := by decide +kernel
theorem dX5_canBook_6 : decode cX5_canBook 6 = .ok (.invokestatic 47, 3) := by decide +kernel
theorem dX5_canBook_9 : decode cX5_canBook 9 = .ok (.iconst 0, 1) := by decide +kernel
theorem dX5_canBook_10 : decode cX5_canBook 10 = .ok (.iload_n 3, 1) := by decide +kernel
theorem dX5_canBook_11 : decode cX5_canBook 11 = .ok (.iload 4, 2) := by decide +kernel
theorem dX5_canBook_13 : decode cX5_canBook 13 = .ok (.invokestatic 126, 3) := by decide +kernel
theorem dX5_canBook_16 : decode cX5_canBook 16 = .ok (.aload_n 0, 1) := by decide +kernel
theorem dX5_canBook_17 : decode cX5_canBook 17 = .ok (.getfield 29, 3) := by decide +kernel
theorem dX5_canBook_20 : decode cX5_canBook 20 = .ok (.iload_n 1, 1) := by decide +kernel
theorem dX5_canBook_21 : decode cX5_canBook 21 = .ok (.iload_n 2, 1) := by decide +kernel
theorem dX5_canBook_22 : decode cX5_canBook 22 = .ok (.iload_n 3, 1) := by decide +kernel
theorem dX5_canBook_23 : decode cX5_canBook 23 = .ok (.iload 4, 2) := by decide +kernel
theorem dX5_canBook_25 : decode cX5_canBook 25 = .ok (.invokevirtual 133, 3) := by decide +kernel
theorem dX5_canBook_28 : decode cX5_canBook 28 = .ok (.ifCond .ne 7, 3) := by decide +kernel
theorem dX5_canBook_31 : decode cX5_canBook 31 = .ok (.iconst 1, 1) := by decide +kernel
theorem dX5_canBook_32 : decode cX5_canBook 32 = .ok (.goto 4, 3) := by decide +kernel
theorem dX5_canBook_35 : decode cX5_canBook 35 = .ok (.iconst 0, 1) := by decide +kernel
theorem dX5_canBook_36 : decode cX5_canBook 36 = .ok (.ireturn, 1) := by decide +kernel
set_option maxRecDepth 20000 in
theorem ggX5_canBookByMinutes_X5_needTrain : GoodIn wsX5_canBookByMinutes wsX5_needTrain := goodIn_ca (goodIn_r _ [6, 7, 8, 9, 10, 33, 34, 35, 36, 37, 38, 39, 40, 41, 42, 43, 44, 45] (by decide +kernel) (by decide +kernel)) (goodIn_sub (fun _ h => List.mem_cons_of_mem _ (List.mem_append_left _ (List.mem_append_right _ h))) (by decide +kernel))
set_option maxRecDepth 20000 in
theorem gX5_canBookByMinutes_X5_needTrain : GoodIn wsX5_canBookByMinutes (wsV RX5 72 RX5 yX5_needTrain wsX5_needTrain) := goodIn_app (goodIn_of _ (by decide +kernel)) ggX5_canBookByMinutes_X5_needTrain
set_option maxRecDepth 20000 in
theorem ggX5_canBookByMinutes_X5_needBlock : GoodIn wsX5_canBookByMinutes wsX5_needBlock := goodIn_ca (goodIn_r _ [13, 7, 8] (by decide +kernel) (by decide +kernel)) (goodIn_sub (fun _ h => List.mem_cons_of_mem _ (List.mem_append_left _ (List.mem_append_right _ h))) (by decide +kernel))
set_option maxRecDepth 20000 in
theorem gX5_canBookByMinutes_X5_needBlock : GoodIn wsX5_canBookByMinutes (va_wsS RX5 47 yX5_needBlock wsX5_needBlock) := goodIn_app (goodIn_of _ (by decide +kernel)) ggX5_canBookByMinutes_X5_needBlock
set_option maxRecDepth 20000 in
theorem ggX5_canBookByMinutes_X5_needSpan : GoodIn wsX5_canBookByMinutes wsX5_needSpan := goodIn_ca (goodIn_r _ [16, 17, 18] (by decide +kernel) (by decide +kernel)) (goodIn_sub (fun _ h => List.mem_cons_of_mem _ (List.mem_append_right _ h)) (by decide +kernel))
set_option maxRecDepth 20000 in
theorem gX5_canBookByMinutes_X5_needSpan : GoodIn wsX5_canBookByMinutes (va_wsS RX5 126 yX5_needSpan wsX5_needSpan) := goodIn_app (goodIn_of _ (by decide +kernel)) ggX5_canBookByMinutes_X5_needSpan
set_option maxRecDepth 20000 in
theorem ggX5_canBookByMinutes_X0_isForAnother : GoodIn wsX5_canBookByMinutes wsX0_isForAnother := goodIn_r _ [23, 24, 25, 26, 27, 28, 29, 22, 30, 31, 32, 46, 47, 48, 49, 50, 51] (by decide +kernel) (by decide +kernel)
set_option maxRecDepth 20000 in
theorem gX5_canBookByMinutes_X0_isForAnother : GoodIn wsX5_canBookByMinutes (wsV RX5 140 RX0 yX0_isForAnother wsX0_isForAnother) := goodIn_app (goodIn_of _ (by decide +kernel)) ggX5_canBookByMinutes_X0_isForAnother
theorem dX5_canBookByMinutes_0 : decode cX5_canBookByMinutes 0 = .ok (.aload_n 0, 1) := by decide +kernel
theorem dX5_canBookByMinutes_1 : decode cX5_canBookByMinutes 1 = .ok (.iload_n 1, 1) := by decide +kernel
theorem dX5_canBookByMinutes_2 : decode cX5_canBookByMinutes 2 = .ok (.invokevirtual 72, 3) := by decide +kernel
theorem dX5_canBookByMinutes_5 : decode cX5_canBookByMinutes 5 = .ok (.iload_n 2, 1) := by decide +kernel
theorem dX5_canBookByMinutes_6 : decode cX5_canBookByMinutes 6 = .ok (.invokestatic 47, 3) := by decide +kernel
theorem dX5_canBookByMinutes_9 : decode cX5_canBookByMinutes 9 = .ok (.iconst 0, 1) := by decide +kernel
theorem dX5_canBookByMinutes_10 : decode cX5_canBookByMinutes 10 = .ok (.iload_n 3, 1) := by decide +kernel
theorem dX5_canBookByMinutes_11 : decode cX5_canBookByMinutes 11 = .ok (.iload 4, 2) := by decide +kernel
theorem dX5_canBookByMinutes_13 : decode cX5_canBookByMinutes 13 = .ok (.invokestatic 126, 3) := by decide +kernel
theorem dX5_canBookByMinutes_16 : decode cX5_canBookByMinutes 16 = .ok (.iload_n 3, 1) := by decide +kernel
theorem dX5_canBookByMinutes_17 : decode cX5_canBookByMinutes 17 = .ok (.istore 5, 2) := by decide +kernel
theorem dX5_canBookByMinutes_19 : decode cX5_canBookByMinutes 19 = .ok (.iload 5, 2) := by decide +kernel
theorem dX5_canBookByMinutes_21 : decode cX5_canBookByMinutes 21 = .ok (.iload 4, 2) := by decide +kernel
theorem dX5_canBookByMinutes_23 : decode cX5_canBookByMinutes 23 = .ok (.if_icmp .gt 25, 3) := by decide +kernel
theorem dX5_canBookByMinutes_26 : decode cX5_canBookByMinutes 26 = .ok (.aload_n 0, 1) := by decide +kernel
theorem dX5_canBookByMinutes_27 : decode cX5_canBookByMinutes 27 = .ok (.getfield 29, 3) := by decide +kernel
theorem dX5_canBookByMinutes_30 : decode cX5_canBookByMinutes 30 = .ok (.iload_n 1, 1) := by decide +kernel
theorem dX5_canBookByMinutes_31 : decode cX5_canBookByMinutes 31 = .ok (.iload_n 2, 1) := by decide +kernel
theorem dX5_canBookByMinutes_32 : decode cX5_canBookByMinutes 32 = .ok (.iload 5, 2) := by decide +kernel
theorem dX5_canBookByMinutes_34 : decode cX5_canBookByMinutes 34 = .ok (.invokevirtual 140, 3) := by decide +kernel
theorem dX5_canBookByMinutes_37 : decode cX5_canBookByMinutes 37 = .ok (.ifCond .eq 5, 3) := by decide +kernel
theorem dX5_canBookByMinutes_40 : decode cX5_canBookByMinutes 40 = .ok (.iconst 0, 1) := by decide +kernel
theorem dX5_canBookByMinutes_41 : decode cX5_canBookByMinutes 41 = .ok (.ireturn, 1) := by decide +kernel
theorem dX5_canBookByMinutes_42 : decode cX5_canBookByMinutes 42 = .ok (.iinc 5 1, 3) := by decide +kernel
theorem dX5_canBookByMinutes_45 : decode cX5_canBookByMinutes 45 = .ok (.goto (-26), 3) := by decide +kernel
theorem dX5_canBookByMinutes_48 : decode cX5_canBookByMinutes 48 = .ok (.iconst 1, 1) := by decide +kernel
theorem dX5_canBookByMinutes_49 : decode cX5_canBookByMinutes 49 = .ok (.ireturn, 1) := by decide +kernel
set_option maxRecDepth 20000 in
theorem ggX5_booking_X5_needBooking : GoodIn wsX5_booking wsX5_needBooking := goodIn_ca (goodIn_r _ [9, 10, 11, 1, 12, 13, 14, 15, 16, 17, 18, 19, 20, 21, 22, 23, 24, 25, 26] (by decide +kernel) (by decide +kernel)) (goodIn_sub (fun _ h => List.mem_cons_of_mem _ (List.mem_append_right _ h)) (by decide +kernel))
set_option maxRecDepth 20000 in
theorem gX5_booking_X5_needBooking : GoodIn wsX5_booking (wsV RX5 144 RX5 yX5_needBooking wsX5_needBooking) := goodIn_app (goodIn_of _ (by decide +kernel)) ggX5_booking_X5_needBooking
theorem dX5_booking_0 : decode cX5_booking 0 = .ok (.aload_n 0, 1) := by decide +kernel
theorem dX5_booking_1 : decode cX5_booking 1 = .ok (.iload_n 1, 1) := by decide +kernel
theorem dX5_booking_2 : decode cX5_booking 2 = .ok (.invokevirtual 144, 3) := by decide +kernel
theorem dX5_booking_5 : decode cX5_booking 5 = .ok (.aload_n 0, 1) := by decide +kernel
theorem dX5_booking_6 : decode cX5_booking 6 = .ok (.getfield 29, 3) := by decide +kernel
theorem dX5_booking_9 : decode cX5_booking 9 = .ok (.getfield 147, 3) := by decide +kernel
theorem dX5_booking_12 : decode cX5_booking 12 = .ok (.iload_n 1, 1) := by decide +kernel
theorem dX5_booking_13 : decode cX5_booking 13 = .ok (.iaload, 1) := by decide +kernel
theorem dX5_booking_14 : decode cX5_booking 14 = .ok (.iconst (-1), 1) := by decide +kernel
theorem dX5_booking_15 : decode cX5_booking 15 = .ok (.if_icmp .eq 5, 3) := by decide +kernel
theorem dX5_booking_18 : decode cX5_booking 18 = .ok (.iconst 1, 1) := by decide +kernel
theorem dX5_booking_19 : decode cX5_booking 19 = .ok (.ireturn, 1) := by decide +kernel
theorem dX5_booking_20 : decode cX5_booking 20 = .ok (.aload_n 0, 1) := by decide +kernel
theorem dX5_booking_21 : decode cX5_booking 21 = .ok (.getfield 29, 3) := by decide +kernel
theorem dX5_booking_24 : decode cX5_booking 24 = .ok (.getfield 150, 3) := by decide +kernel
theorem dX5_booking_27 : decode cX5_booking 27 = .ok (.iload_n 1, 1) := by decide +kernel
theorem dX5_booking_28 : decode cX5_booking 28 = .ok (.iaload, 1) := by decide +kernel
theorem dX5_booking_29 : decode cX5_booking 29 = .ok (.aload_n 0, 1) := by decide +kernel
theorem dX5_booking_30 : decode cX5_booking 30 = .ok (.getfield 109, 3) := by decide +kernel
theorem dX5_booking_33 : decode cX5_booking 33 = .ok (.if_icmp .ge 7, 3) := by decide +kernel
theorem dX5_booking_36 : decode cX5_booking 36 = .ok (.iconst 2, 1) := by decide +kernel
theorem dX5_booking_37 : decode cX5_booking 37 = .ok (.goto 4, 3) := by decide +kernel
theorem dX5_booking_40 : decode cX5_booking 40 = .ok (.iconst 0, 1) := by decide +kernel
theorem dX5_booking_41 : decode cX5_booking 41 = .ok (.ireturn, 1) := by decide +kernel
set_option maxRecDepth 20000 in
theorem ggX5_late_X5_needBooking : GoodIn wsX5_late wsX5_needBooking := goodIn_ca (goodIn_r _ [7, 8, 9, 1, 10, 11, 12, 13, 14, 15, 16, 17, 18, 19, 20, 21, 22, 23, 24] (by decide +kernel) (by decide +kernel)) (goodIn_sub (fun _ h => List.mem_cons_of_mem _ (List.mem_append_right _ h)) (by decide +kernel))
set_option maxRecDepth 20000 in
theorem gX5_late_X5_needBooking : GoodIn wsX5_late (wsV RX5 144 RX5 yX5_needBooking wsX5_needBooking) := goodIn_app (goodIn_of _ (by decide +kernel)) ggX5_late_X5_needBooking
theorem dX5_late_0 : decode cX5_late 0 = .ok (.aload_n 0, 1) := by decide +kernel
theorem dX5_late_1 : decode cX5_late 1 = .ok (.iload_n 1, 1) := by decide +kernel
theorem dX5_late_2 : decode cX5_late 2 = .ok (.invokevirtual 144, 3) := by decide +kernel
theorem dX5_late_5 : decode cX5_late 5 = .ok (.aload_n 0, 1) := by decide +kernel
theorem dX5_late_6 : decode cX5_late 6 = .ok (.getfield 29, 3) := by decide +kernel
theorem dX5_late_9 : decode cX5_late 9 = .ok (.getfield 147, 3) := by decide +kernel
theorem dX5_late_12 : decode cX5_late 12 = .ok (.iload_n 1, 1) := by decide +kernel
theorem dX5_late_13 : decode cX5_late 13 = .ok (.iaload, 1) := by decide +kernel
theorem dX5_late_14 : decode cX5_late 14 = .ok (.ireturn, 1) := by decide +kernel
set_option maxRecDepth 20000 in
theorem ggX5_addWaggon_X5_needSiding : GoodIn wsX5_addWaggon wsX5_needSiding := goodIn_ca (goodIn_r _ [10, 11, 12, 13, 14, 9, 15] (by decide +kernel) (by decide +kernel)) (goodIn_sub (fun _ h => List.mem_cons_of_mem _ (List.mem_append_right _ h)) (by decide +kernel))
set_option maxRecDepth 20000 in
theorem gX5_addWaggon_X5_needSiding : GoodIn wsX5_addWaggon (va_wsS RX5 153 yX5_needSiding wsX5_needSiding) := goodIn_app (goodIn_of _ (by decide +kernel)) ggX5_addWaggon_X5_needSiding
set_option maxRecDepth 20000 in
theorem ggX5_addWaggon_X5_needRoomIn : GoodIn wsX5_addWaggon wsX5_needRoomIn := goodIn_ca (goodIn_r _ [19, 3, 4, 5, 20, 21, 22, 23, 24, 37, 38, 39, 40, 41, 42, 43, 44, 45, 46, 47, 48] (by decide +kernel) (by decide +kernel)) (goodIn_sub (fun _ h => List.mem_cons_of_mem _ (List.mem_append_left _ (List.mem_append_right _ h))) (by decide +kernel))
set_option maxRecDepth 20000 in
theorem gX5_addWaggon_X5_needRoomIn : GoodIn wsX5_addWaggon (wsV RX5 161 RX5 yX5_needRoomIn wsX5_needRoomIn) := goodIn_app (goodIn_of _ (by decide +kernel)) ggX5_addWaggon_X5_needRoomIn
set_option maxRecDepth 20000 in
theorem ggX5_addWaggon_X4_rowOfSiding : GoodIn wsX5_addWaggon wsX4_rowOfSiding := goodIn_r _ [24] (by decide +kernel) (by decide +kernel)
set_option maxRecDepth 20000 in
theorem gX5_addWaggon_X4_rowOfSiding : GoodIn wsX5_addWaggon (va_wsS RX5 164 yX4_rowOfSiding wsX4_rowOfSiding) := goodIn_app (goodIn_of _ (by decide +kernel)) ggX5_addWaggon_X4_rowOfSiding
set_option maxRecDepth 20000 in
theorem ggX5_addWaggon_X4_add : GoodIn wsX5_addWaggon wsX4_add := goodIn_r _ [28, 29, 30, 31, 32, 33, 23, 34, 35, 36, 45, 46, 47, 48] (by decide +kernel) (by decide +kernel)
set_option maxRecDepth 20000 in
theorem gX5_addWaggon_X4_add : GoodIn wsX5_addWaggon (wsV RX5 167 RX4 yX4_add wsX4_add) := goodIn_app (goodIn_of _ (by decide +kernel)) ggX5_addWaggon_X4_add
theorem dX5_addWaggon_0 : decode cX5_addWaggon 0 = .ok (.iload_n 1, 1) := by decide +kernel
theorem dX5_addWaggon_1 : decode cX5_addWaggon 1 = .ok (.invokestatic 153, 3) := by decide +kernel
theorem dX5_addWaggon_4 : decode cX5_addWaggon 4 = .ok (.iload_n 2, 1) := by decide +kernel
theorem dX5_addWaggon_5 : decode cX5_addWaggon 5 = .ok (.iconst 1, 1) := by decide +kernel
theorem dX5_addWaggon_6 : decode cX5_addWaggon 6 = .ok (.if_icmp .lt 9, 3) := by decide +kernel
theorem dX5_addWaggon_9 : decode cX5_addWaggon 9 = .ok (.iload_n 2, 1) := by decide +kernel
theorem dX5_addWaggon_10 : decode cX5_addWaggon 10 = .ok (.bipush 100, 2) := by decide +kernel
theorem dX5_addWaggon_12 : decode cX5_addWaggon 12 = .ok (.if_icmp .le 13, 3) := by decide +kernel
theorem dX5_addWaggon_15 : decode cX5_addWaggon 15 = .ok (.new 86, 3) := by decide +kernel
theorem dX5_addWaggon_18 : decode cX5_addWaggon 18 = .ok (.dup, 1) := by decide +kernel
theorem dX5_addWaggon_19 : decode cX5_addWaggon 19 = .ok (.ldc 156, 2) := by decide +kernel
theorem dX5_addWaggon_21 : decode cX5_addWaggon 21 = .ok (.invokespecial 90, 3) := by decide +kernel
theorem dX5_addWaggon_24 : decode cX5_addWaggon 24 = .ok (.athrow, 1) := by decide +kernel
theorem dX5_addWaggon_25 : decode cX5_addWaggon 25 = .ok (.aload_n 0, 1) := by decide +kernel
theorem dX5_addWaggon_26 : decode cX5_addWaggon 26 = .ok (.getfield 36, 3) := by decide +kernel
theorem dX5_addWaggon_29 : decode cX5_addWaggon 29 = .ok (.getfield 158, 3) := by decide +kernel
theorem dX5_addWaggon_32 : decode cX5_addWaggon 32 = .ok (.bipush 8, 2) := by decide +kernel
theorem dX5_addWaggon_34 : decode cX5_addWaggon 34 = .ok (.if_icmp .lt 13, 3) := by decide +kernel
theorem dX5_addWaggon_37 : decode cX5_addWaggon 37 = .ok (.new 55, 3) := by decide +kernel
theorem dX5_addWaggon_40 : decode cX5_addWaggon 40 = .ok (.dup, 1) := by decide +kernel
theorem dX5_addWaggon_41 : decode cX5_addWaggon 41 = .ok (.ldc 159, 2) := by decide +kernel
theorem dX5_addWaggon_43 : decode cX5_addWaggon 43 = .ok (.invokespecial 59, 3) := by decide +kernel
theorem dX5_addWaggon_46 : decode cX5_addWaggon 46 = .ok (.athrow, 1) := by decide +kernel
theorem dX5_addWaggon_47 : decode cX5_addWaggon 47 = .ok (.aload_n 0, 1) := by decide +kernel
theorem dX5_addWaggon_48 : decode cX5_addWaggon 48 = .ok (.iload_n 1, 1) := by decide +kernel
theorem dX5_addWaggon_49 : decode cX5_addWaggon 49 = .ok (.invokevirtual 161, 3) := by decide +kernel
theorem dX5_addWaggon_52 : decode cX5_addWaggon 52 = .ok (.aload_n 0, 1) := by decide +kernel
theorem dX5_addWaggon_53 : decode cX5_addWaggon 53 = .ok (.getfield 36, 3) := by decide +kernel
theorem dX5_addWaggon_56 : decode cX5_addWaggon 56 = .ok (.iload_n 1, 1) := by decide +kernel
theorem dX5_addWaggon_57 : decode cX5_addWaggon 57 = .ok (.invokestatic 164, 3) := by decide +kernel
theorem dX5_addWaggon_60 : decode cX5_addWaggon 60 = .ok (.iload_n 2, 1) := by decide +kernel
theorem dX5_addWaggon_61 : decode cX5_addWaggon 61 = .ok (.invokevirtual 167, 3) := by decide +kernel
theorem dX5_addWaggon_64 : decode cX5_addWaggon 64 = .ok (.ireturn, 1) := by decide +kernel
set_option maxRecDepth 20000 in
theorem ggX5_offer_X5_needSiding : GoodIn wsX5_offer wsX5_needSiding := goodIn_ca (goodIn_r _ [11, 1, 2, 12, 13, 10, 14] (by decide +kernel) (by decide +kernel)) (goodIn_sub (fun _ h => List.mem_cons_of_mem _ (List.mem_append_left _ (List.mem_append_right _ h))) (by decide +kernel))
set_option maxRecDepth 20000 in
theorem gX5_offer_X5_needSiding : GoodIn wsX5_offer (va_wsS RX5 153 yX5_needSiding wsX5_needSiding) := goodIn_app (goodIn_of _ (by decide +kernel)) ggX5_offer_X5_needSiding
set_option maxRecDepth 20000 in
theorem ggX5_offer_X1_put : GoodIn wsX5_offer wsX1_put := goodIn_r _ [19, 20, 21, 22, 35, 36, 37] (by decide +kernel) (by decide +kernel)
set_option maxRecDepth 20000 in
theorem gX5_offer_X1_put : GoodIn wsX5_offer (wsV RX5 176 RX1 yX1_put wsX1_put) := goodIn_app (goodIn_of _ (by decide +kernel)) ggX5_offer_X1_put
theorem dX5_offer_0 : decode cX5_offer 0 = .ok (.iload_n 1, 1) := by decide +kernel
theorem dX5_offer_1 : decode cX5_offer 1 = .ok (.ifCond .lt 14, 3) := by decide +kernel
theorem dX5_offer_4 : decode cX5_offer 4 = .ok (.iload_n 1, 1) := by decide +kernel
theorem dX5_offer_5 : decode cX5_offer 5 = .ok (.aload_n 0, 1) := by decide +kernel
theorem dX5_offer_6 : decode cX5_offer 6 = .ok (.getfield 36, 3) := by decide +kernel
theorem dX5_offer_9 : decode cX5_offer 9 = .ok (.getfield 158, 3) := by decide +kernel
theorem dX5_offer_12 : decode cX5_offer 12 = .ok (.if_icmp .lt 13, 3) := by decide +kernel
theorem dX5_offer_15 : decode cX5_offer 15 = .ok (.new 95, 3) := by decide +kernel
theorem dX5_offer_18 : decode cX5_offer 18 = .ok (.dup, 1) := by decide +kernel
theorem dX5_offer_19 : decode cX5_offer 19 = .ok (.ldc 170, 2) := by decide +kernel
theorem dX5_offer_21 : decode cX5_offer 21 = .ok (.invokespecial 99, 3) := by decide +kernel
theorem dX5_offer_24 : decode cX5_offer 24 = .ok (.athrow, 1) := by decide +kernel
theorem dX5_offer_25 : decode cX5_offer 25 = .ok (.iload_n 2, 1) := by decide +kernel
theorem dX5_offer_26 : decode cX5_offer 26 = .ok (.invokestatic 153, 3) := by decide +kernel
theorem dX5_offer_29 : decode cX5_offer 29 = .ok (.iload_n 3, 1) := by decide +kernel
theorem dX5_offer_30 : decode cX5_offer 30 = .ok (.ifCond .lt 10, 3) := by decide +kernel
theorem dX5_offer_33 : decode cX5_offer 33 = .ok (.iload_n 3, 1) := by decide +kernel
theorem dX5_offer_34 : decode cX5_offer 34 = .ok (.sipush 5000, 3) := by decide +kernel
theorem dX5_offer_37 : decode cX5_offer 37 = .ok (.if_icmp .le 13, 3) := by decide +kernel
theorem dX5_offer_40 : decode cX5_offer 40 = .ok (.new 86, 3) := by decide +kernel
theorem dX5_offer_43 : decode cX5_offer 43 = .ok (.dup, 1) := by decide +kernel
theorem dX5_offer_44 : decode cX5_offer 44 = .ok (.ldc 172, 2) := by decide +kernel
theorem dX5_offer_46 : decode cX5_offer 46 = .ok (.invokespecial 90, 3) := by decide +kernel
theorem dX5_offer_49 : decode cX5_offer 49 = .ok (.athrow, 1) := by decide +kernel
theorem dX5_offer_50 : decode cX5_offer 50 = .ok (.iload 4, 2) := by decide +kernel
theorem dX5_offer_52 : decode cX5_offer 52 = .ok (.iconst 1, 1) := by decide +kernel
theorem dX5_offer_53 : decode cX5_offer 53 = .ok (.if_icmp .lt 11, 3) := by decide +kernel
theorem dX5_offer_56 : decode cX5_offer 56 = .ok (.iload 4, 2) := by decide +kernel
theorem dX5_offer_58 : decode cX5_offer 58 = .ok (.sipush 1000, 3) := by decide +kernel
theorem dX5_offer_61 : decode cX5_offer 61 = .ok (.if_icmp .le 13, 3) := by decide +kernel
theorem dX5_offer_64 : decode cX5_offer 64 = .ok (.new 86, 3) := by decide +kernel
theorem dX5_offer_67 : decode cX5_offer 67 = .ok (.dup, 1) := by decide +kernel
theorem dX5_offer_68 : decode cX5_offer 68 = .ok (.ldc 174, 2) := by decide +kernel
theorem dX5_offer_70 : decode cX5_offer 70 = .ok (.invokespecial 90, 3) := by decide +kernel
theorem dX5_offer_73 : decode cX5_offer 73 = .ok (.athrow, 1) := by decide +kernel
theorem dX5_offer_74 : decode cX5_offer 74 = .ok (.aload_n 0, 1) := by decide +kernel
theorem dX5_offer_75 : decode cX5_offer 75 = .ok (.getfield 43, 3) := by decide +kernel
theorem dX5_offer_78 : decode cX5_offer 78 = .ok (.iload_n 1, 1) := by decide +kernel
theorem dX5_offer_79 : decode cX5_offer 79 = .ok (.iload_n 2, 1) := by decide +kernel
theorem dX5_offer_80 : decode cX5_offer 80 = .ok (.iload_n 3, 1) := by decide +kernel
theorem dX5_offer_81 : decode cX5_offer 81 = .ok (.iload 4, 2) := by decide +kernel
theorem dX5_offer_83 : decode cX5_offer 83 = .ok (.invokevirtual 176, 3) := by decide +kernel
theorem dX5_offer_86 : decode cX5_offer 86 = .ok (.return_, 1) := by decide +kernel
set_option maxRecDepth 20000 in
theorem ggX5_couple_X5_needTrain : GoodIn wsX5_couple wsX5_needTrain := goodIn_ca (goodIn_r _ [9, 10, 11, 12, 13, 53, 54, 55, 56, 57, 58, 59, 60, 65, 66, 67, 68, 69] (by decide +kernel) (by decide +kernel)) (goodIn_sub (fun _ h => List.mem_cons_of_mem _ (List.mem_append_right _ h)) (by decide +kernel))
set_option maxRecDepth 20000 in
theorem gX5_couple_X5_needTrain : GoodIn wsX5_couple (wsV RX5 72 RX5 yX5_needTrain wsX5_needTrain) := goodIn_app (goodIn_of _ (by decide +kernel)) ggX5_couple_X5_needTrain
set_option maxRecDepth 20000 in
theorem ggX5_couple_X5_sidingUnder : GoodIn wsX5_couple wsX5_sidingUnder := goodIn_ca (goodIn_r _ [17, 1, 2, 12, 18, 19, 20, 8, 21, 53, 54, 55, 56, 57, 58, 59, 60, 65, 66, 67, 68, 69] (by decide +kernel) (by decide +kernel)) (goodIn_sub (fun _ h => List.mem_cons_of_mem _ (List.mem_append_left _ (List.mem_append_right _ h))) (by decide +kernel))
set_option maxRecDepth 20000 in
theorem gX5_couple_X5_sidingUnder : GoodIn wsX5_couple (wsV RX5 180 RX5 yX5_sidingUnder wsX5_sidingUnder) := goodIn_app (goodIn_of _ (by decide +kernel)) ggX5_couple_X5_sidingUnder
set_option maxRecDepth 20000 in
theorem ggX5_couple_X4_rowOfSiding : GoodIn wsX5_couple wsX4_rowOfSiding := goodIn_r _ [25] (by decide +kernel) (by decide +kernel)
set_option maxRecDepth 20000 in
theorem gX5_couple_X4_rowOfSiding : GoodIn wsX5_couple (va_wsS RX5 164 yX4_rowOfSiding wsX4_rowOfSiding) := goodIn_app (goodIn_of _ (by decide +kernel)) ggX5_couple_X4_rowOfSiding
set_option maxRecDepth 20000 in
theorem ggX5_couple_X4_rowOfTrain : GoodIn wsX5_couple wsX4_rowOfTrain := goodIn_r _ [28] (by decide +kernel) (by decide +kernel)
set_option maxRecDepth 20000 in
theorem gX5_couple_X4_rowOfTrain : GoodIn wsX5_couple (va_wsS RX5 183 yX4_rowOfTrain wsX4_rowOfTrain) := goodIn_app (goodIn_of _ (by decide +kernel)) ggX5_couple_X4_rowOfTrain
set_option maxRecDepth 20000 in
theorem ggX5_couple_X4_lastOf : GoodIn wsX5_couple wsX4_lastOf := goodIn_r _ [32, 33, 34, 35, 24, 36, 37, 38, 61, 62, 63, 64] (by decide +kernel) (by decide +kernel)
set_option maxRecDepth 20000 in
theorem gX5_couple_X4_lastOf : GoodIn wsX5_couple (wsV RX5 186 RX4 yX4_lastOf wsX4_lastOf) := goodIn_app (goodIn_of _ (by decide +kernel)) ggX5_couple_X4_lastOf
set_option maxRecDepth 20000 in
theorem ggX5_couple_X4_weightOf : GoodIn wsX5_couple wsX4_weightOf := goodIn_r _ [42, 37, 43, 38, 61, 62, 63, 64] (by decide +kernel) (by decide +kernel)
set_option maxRecDepth 20000 in
theorem gX5_couple_X4_weightOf : GoodIn wsX5_couple (wsV RX5 191 RX4 yX4_weightOf wsX4_weightOf) := goodIn_app (goodIn_of _ (by decide +kernel)) ggX5_couple_X4_weightOf
set_option maxRecDepth 20000 in
theorem ggX5_couple_X4_moveLast : GoodIn wsX5_couple wsX4_moveLast := goodIn_r _ [47, 37, 48, 30, 31, 24, 32, 33, 34, 35, 36, 38, 49, 50, 51, 52, 61, 62, 63, 64] (by decide +kernel) (by decide +kernel)
set_option maxRecDepth 20000 in
theorem gX5_couple_X4_moveLast : GoodIn wsX5_couple (wsV RX5 199 RX4 yX4_moveLast wsX4_moveLast) := goodIn_app (goodIn_of _ (by decide +kernel)) ggX5_couple_X4_moveLast
theorem dX5_couple_0 : decode cX5_couple 0 = .ok (.aload_n 0, 1) := by decide +kernel
theorem dX5_couple_1 : decode cX5_couple 1 = .ok (.iload_n 1, 1) := by decide +kernel
theorem dX5_couple_2 : decode cX5_couple 2 = .ok (.invokevirtual 72, 3) := by decide +kernel
theorem dX5_couple_5 : decode cX5_couple 5 = .ok (.aload_n 0, 1) := by decide +kernel
theorem dX5_couple_6 : decode cX5_couple 6 = .ok (.iload_n 1, 1) := by decide +kernel
theorem dX5_couple_7 : decode cX5_couple 7 = .ok (.invokevirtual 180, 3) := by decide +kernel
theorem dX5_couple_10 : decode cX5_couple 10 = .ok (.invokestatic 164, 3) := by decide +kernel
theorem dX5_couple_13 : decode cX5_couple 13 = .ok (.istore_n 2, 1) := by decide +kernel
theorem dX5_couple_14 : decode cX5_couple 14 = .ok (.iload_n 1, 1) := by decide +kernel
theorem dX5_couple_15 : decode cX5_couple 15 = .ok (.invokestatic 183, 3) := by decide +kernel
theorem dX5_couple_18 : decode cX5_couple 18 = .ok (.istore_n 3, 1) := by decide +kernel
theorem dX5_couple_19 : decode cX5_couple 19 = .ok (.aload_n 0, 1) := by decide +kernel
theorem dX5_couple_20 : decode cX5_couple 20 = .ok (.getfield 36, 3) := by decide +kernel
theorem dX5_couple_23 : decode cX5_couple 23 = .ok (.iload_n 2, 1) := by decide +kernel
theorem dX5_couple_24 : decode cX5_couple 24 = .ok (.invokevirtual 186, 3) := by decide +kernel
theorem dX5_couple_27 : decode cX5_couple 27 = .ok (.istore 4, 2) := by decide +kernel
theorem dX5_couple_29 : decode cX5_couple 29 = .ok (.iload 4, 2) := by decide +kernel
theorem dX5_couple_31 : decode cX5_couple 31 = .ok (.iconst (-1), 1) := by decide +kernel
theorem dX5_couple_32 : decode cX5_couple 32 = .ok (.if_icmp .ne 13, 3) := by decide +kernel
theorem dX5_couple_35 : decode cX5_couple 35 = .ok (.new 55, 3) := by decide +kernel
theorem dX5_couple_38 : decode cX5_couple 38 = .ok (.dup, 1) := by decide +kernel
theorem dX5_couple_39 : decode cX5_couple 39 = .ok (.ldc 189, 2) := by decide +kernel
theorem dX5_couple_41 : decode cX5_couple 41 = .ok (.invokespecial 59, 3) := by decide +kernel
theorem dX5_couple_44 : decode cX5_couple 44 = .ok (.athrow, 1) := by decide +kernel
theorem dX5_couple_45 : decode cX5_couple 45 = .ok (.aload_n 0, 1) := by decide +kernel
theorem dX5_couple_46 : decode cX5_couple 46 = .ok (.getfield 36, 3) := by decide +kernel
theorem dX5_couple_49 : decode cX5_couple 49 = .ok (.iload_n 3, 1) := by decide +kernel
theorem dX5_couple_50 : decode cX5_couple 50 = .ok (.invokevirtual 191, 3) := by decide +kernel
theorem dX5_couple_53 : decode cX5_couple 53 = .ok (.aload_n 0, 1) := by decide +kernel
theorem dX5_couple_54 : decode cX5_couple 54 = .ok (.getfield 36, 3) := by decide +kernel
theorem dX5_couple_57 : decode cX5_couple 57 = .ok (.getfield 194, 3) := by decide +kernel
theorem dX5_couple_60 : decode cX5_couple 60 = .ok (.iload 4, 2) := by decide +kernel
theorem dX5_couple_62 : decode cX5_couple 62 = .ok (.iaload, 1) := by decide +kernel
theorem dX5_couple_63 : decode cX5_couple 63 = .ok (.iadd, 1) := by decide +kernel
theorem dX5_couple_64 : decode cX5_couple 64 = .ok (.bipush 100, 2) := by decide +kernel
theorem dX5_couple_66 : decode cX5_couple 66 = .ok (.if_icmp .le 13, 3) := by decide +kernel
theorem dX5_couple_69 : decode cX5_couple 69 = .ok (.new 55, 3) := by decide +kernel
theorem dX5_couple_72 : decode cX5_couple 72 = .ok (.dup, 1) := by decide +kernel
theorem dX5_couple_73 : decode cX5_couple 73 = .ok (.ldc 197, 2) := by decide +kernel
theorem dX5_couple_75 : decode cX5_couple 75 = .ok (.invokespecial 59, 3) := by decide +kernel
theorem dX5_couple_78 : decode cX5_couple 78 = .ok (.athrow, 1) := by decide +kernel
theorem dX5_couple_79 : decode cX5_couple 79 = .ok (.aload_n 0, 1) := by decide +kernel
theorem dX5_couple_80 : decode cX5_couple 80 = .ok (.getfield 36, 3) := by decide +kernel
theorem dX5_couple_83 : decode cX5_couple 83 = .ok (.iload_n 2, 1) := by decide +kernel
theorem dX5_couple_84 : decode cX5_couple 84 = .ok (.iload_n 3, 1) := by decide +kernel
theorem dX5_couple_85 : decode cX5_couple 85 = .ok (.invokevirtual 199, 3) := by decide +kernel
theorem dX5_couple_88 : decode cX5_couple 88 = .ok (.iload 4, 2) := by decide +kernel
theorem dX5_couple_90 : decode cX5_couple 90 = .ok (.ireturn, 1) := by decide +kernel
set_option maxRecDepth 20000 in
theorem ggX5_leave_X5_needTrain : GoodIn wsX5_leave wsX5_needTrain := goodIn_ca (goodIn_r _ [11, 12, 13, 14, 15, 70, 71, 72, 73, 74, 75, 76, 77, 78, 79, 80, 81, 82] (by decide +kernel) (by decide +kernel)) (goodIn_sub (fun _ h => List.mem_cons_of_mem _ (List.mem_append_right _ h)) (by decide +kernel))
set_option maxRecDepth 20000 in
theorem gX5_leave_X5_needTrain : GoodIn wsX5_leave (wsV RX5 72 RX5 yX5_needTrain wsX5_needTrain) := goodIn_app (goodIn_of _ (by decide +kernel)) ggX5_leave_X5_needTrain
set_option maxRecDepth 20000 in
theorem ggX5_leave_X5_sidingUnder : GoodIn wsX5_leave wsX5_sidingUnder := goodIn_ca (goodIn_r _ [19, 1, 2, 14, 20, 21, 22, 10, 23, 70, 71, 72, 73, 74, 75, 76, 77, 78, 79, 80, 81, 82] (by decide +kernel) (by decide +kernel)) (goodIn_sub (fun _ h => List.mem_cons_of_mem _ (List.mem_append_left _ (List.mem_append_right _ h))) (by decide +kernel))
set_option maxRecDepth 20000 in
theorem gX5_leave_X5_sidingUnder : GoodIn wsX5_leave (wsV RX5 180 RX5 yX5_sidingUnder wsX5_sidingUnder) := goodIn_app (goodIn_of _ (by decide +kernel)) ggX5_leave_X5_sidingUnder
set_option maxRecDepth 20000 in
theorem ggX5_leave_X4_rowOfTrain : GoodIn wsX5_leave wsX4_rowOfTrain := goodIn_r _ [27] (by decide +kernel) (by decide +kernel)
set_option maxRecDepth 20000 in
theorem gX5_leave_X4_rowOfTrain : GoodIn wsX5_leave (va_wsS RX5 183 yX4_rowOfTrain wsX4_rowOfTrain) := goodIn_app (goodIn_of _ (by decide +kernel)) ggX5_leave_X4_rowOfTrain
set_option maxRecDepth 20000 in
theorem ggX5_leave_X4_lastOf : GoodIn wsX5_leave wsX4_lastOf := goodIn_r _ [31, 32, 33, 34, 26, 35, 36, 37, 83, 84, 85, 86] (by decide +kernel) (by decide +kernel)
set_option maxRecDepth 20000 in
theorem gX5_leave_X4_lastOf : GoodIn wsX5_leave (wsV RX5 186 RX4 yX4_lastOf wsX4_lastOf) := goodIn_app (goodIn_of _ (by decide +kernel)) ggX5_leave_X4_lastOf
set_option maxRecDepth 20000 in
theorem ggX5_leave_X5_needRoomIn : GoodIn wsX5_leave wsX5_needRoomIn := goodIn_ca (goodIn_r _ [41, 1, 2, 3, 42, 43, 44, 26, 45, 70, 71, 72, 73, 74, 75, 76, 77, 83, 84, 85, 86] (by decide +kernel) (by decide +kernel)) (goodIn_sub (fun _ h => List.mem_cons_of_mem _ (List.mem_append_left _ (List.mem_append_right _ h))) (by decide +kernel))
set_option maxRecDepth 20000 in
theorem gX5_leave_X5_needRoomIn : GoodIn wsX5_leave (wsV RX5 161 RX5 yX5_needRoomIn wsX5_needRoomIn) := goodIn_app (goodIn_of _ (by decide +kernel)) ggX5_leave_X5_needRoomIn
set_option maxRecDepth 20000 in
theorem ggX5_leave_X4_rowOfSiding : GoodIn wsX5_leave wsX4_rowOfSiding := goodIn_r _ [45] (by decide +kernel) (by decide +kernel)
set_option maxRecDepth 20000 in
theorem gX5_leave_X4_rowOfSiding : GoodIn wsX5_leave (va_wsS RX5 164 yX4_rowOfSiding wsX4_rowOfSiding) := goodIn_app (goodIn_of _ (by decide +kernel)) ggX5_leave_X4_rowOfSiding
set_option maxRecDepth 20000 in
theorem ggX5_leave_X4_moveLast : GoodIn wsX5_leave wsX4_moveLast := goodIn_r _ [49, 36, 50, 29, 30, 26, 31, 32, 33, 34, 35, 37, 51, 52, 53, 54, 83, 84, 85, 86] (by decide +kernel) (by decide +kernel)
set_option maxRecDepth 20000 in
theorem gX5_leave_X4_moveLast : GoodIn wsX5_leave (wsV RX5 199 RX4 yX4_moveLast wsX4_moveLast) := goodIn_app (goodIn_of _ (by decide +kernel)) ggX5_leave_X4_moveLast
set_option maxRecDepth 20000 in
theorem ggX5_leave_X1_settle : GoodIn wsX5_leave wsX1_settle := goodIn_r _ [59, 60, 61, 62, 63, 64, 65, 66, 67, 68, 58, 69, 87, 88, 89] (by decide +kernel) (by decide +kernel)
set_option maxRecDepth 20000 in
theorem gX5_leave_X1_settle : GoodIn wsX5_leave (wsV RX5 205 RX1 yX1_settle wsX1_settle) := goodIn_app (goodIn_of _ (by decide +kernel)) ggX5_leave_X1_settle
theorem dX5_leave_0 : decode cX5_leave 0 = .ok (.aload_n 0, 1) := by decide +kernel
theorem dX5_leave_1 : decode cX5_leave 1 = .ok (.iload_n 1, 1) := by decide +kernel
theorem dX5_leave_2 : decode cX5_leave 2 = .ok (.invokevirtual 72, 3) := by decide +kernel
theorem dX5_leave_5 : decode cX5_leave 5 = .ok (.aload_n 0, 1) := by decide +kernel
theorem dX5_leave_6 : decode cX5_leave 6 = .ok (.iload_n 1, 1) := by decide +kernel
theorem dX5_leave_7 : decode cX5_leave 7 = .ok (.invokevirtual 180, 3) := by decide +kernel
theorem dX5_leave_10 : decode cX5_leave 10 = .ok (.istore_n 2, 1) := by decide +kernel
theorem dX5_leave_11 : decode cX5_leave 11 = .ok (.iload_n 1, 1) := by decide +kernel
theorem dX5_leave_12 : decode cX5_leave 12 = .ok (.invokestatic 183, 3) := by decide +kernel
theorem dX5_leave_15 : decode cX5_leave 15 = .ok (.istore_n 3, 1) := by decide +kernel
theorem dX5_leave_16 : decode cX5_leave 16 = .ok (.aload_n 0, 1) := by decide +kernel
theorem dX5_leave_17 : decode cX5_leave 17 = .ok (.getfield 36, 3) := by decide +kernel
theorem dX5_leave_20 : decode cX5_leave 20 = .ok (.iload_n 3, 1) := by decide +kernel
theorem dX5_leave_21 : decode cX5_leave 21 = .ok (.invokevirtual 186, 3) := by decide +kernel
theorem dX5_leave_24 : decode cX5_leave 24 = .ok (.istore 4, 2) := by decide +kernel
theorem dX5_leave_26 : decode cX5_leave 26 = .ok (.iload 4, 2) := by decide +kernel
theorem dX5_leave_28 : decode cX5_leave 28 = .ok (.iconst (-1), 1) := by decide +kernel
theorem dX5_leave_29 : decode cX5_leave 29 = .ok (.if_icmp .ne 13, 3) := by decide +kernel
theorem dX5_leave_32 : decode cX5_leave 32 = .ok (.new 55, 3) := by decide +kernel
theorem dX5_leave_35 : decode cX5_leave 35 = .ok (.dup, 1) := by decide +kernel
theorem dX5_leave_36 : decode cX5_leave 36 = .ok (.ldc 203, 2) := by decide +kernel
theorem dX5_leave_38 : decode cX5_leave 38 = .ok (.invokespecial 59, 3) := by decide +kernel
theorem dX5_leave_41 : decode cX5_leave 41 = .ok (.athrow, 1) := by decide +kernel
theorem dX5_leave_42 : decode cX5_leave 42 = .ok (.aload_n 0, 1) := by decide +kernel
theorem dX5_leave_43 : decode cX5_leave 43 = .ok (.iload_n 2, 1) := by decide +kernel
theorem dX5_leave_44 : decode cX5_leave 44 = .ok (.invokevirtual 161, 3) := by decide +kernel
theorem dX5_leave_47 : decode cX5_leave 47 = .ok (.aload_n 0, 1) := by decide +kernel
theorem dX5_leave_48 : decode cX5_leave 48 = .ok (.getfield 36, 3) := by decide +kernel
theorem dX5_leave_51 : decode cX5_leave 51 = .ok (.iload_n 3, 1) := by decide +kernel
theorem dX5_leave_52 : decode cX5_leave 52 = .ok (.iload_n 2, 1) := by decide +kernel
theorem dX5_leave_53 : decode cX5_leave 53 = .ok (.invokestatic 164, 3) := by decide +kernel
theorem dX5_leave_56 : decode cX5_leave 56 = .ok (.invokevirtual 199, 3) := by decide +kernel
theorem dX5_leave_59 : decode cX5_leave 59 = .ok (.aload_n 0, 1) := by decide +kernel
theorem dX5_leave_60 : decode cX5_leave 60 = .ok (.getfield 43, 3) := by decide +kernel
theorem dX5_leave_63 : decode cX5_leave 63 = .ok (.iload 4, 2) := by decide +kernel
theorem dX5_leave_65 : decode cX5_leave 65 = .ok (.iload_n 2, 1) := by decide +kernel
theorem dX5_leave_66 : decode cX5_leave 66 = .ok (.aload_n 0, 1) := by decide +kernel
theorem dX5_leave_67 : decode cX5_leave 67 = .ok (.getfield 109, 3) := by decide +kernel
theorem dX5_leave_70 : decode cX5_leave 70 = .ok (.invokevirtual 205, 3) := by decide +kernel
theorem dX5_leave_73 : decode cX5_leave 73 = .ok (.istore 5, 2) := by decide +kernel
theorem dX5_leave_75 : decode cX5_leave 75 = .ok (.aload_n 0, 1) := by decide +kernel
theorem dX5_leave_76 : decode cX5_leave 76 = .ok (.dup, 1) := by decide +kernel
theorem dX5_leave_77 : decode cX5_leave 77 = .ok (.getfield 209, 3) := by decide +kernel
theorem dX5_leave_80 : decode cX5_leave 80 = .ok (.iload 5, 2) := by decide +kernel
theorem dX5_leave_82 : decode cX5_leave 82 = .ok (.iadd, 1) := by decide +kernel
theorem dX5_leave_83 : decode cX5_leave 83 = .ok (.putfield 209, 3) := by decide +kernel
theorem dX5_leave_86 : decode cX5_leave 86 = .ok (.iload 5, 2) := by decide +kernel
theorem dX5_leave_88 : decode cX5_leave 88 = .ok (.ireturn, 1) := by decide +kernel
set_option maxRecDepth 20000 in
theorem ggX5_waggonAt_X5_isSiding : GoodIn wsX5_waggonAt wsX5_isSiding := goodIn_r _ [9] (by decide +kernel) (by decide +kernel)
set_option maxRecDepth 20000 in
theorem gX5_waggonAt_X5_isSiding : GoodIn wsX5_waggonAt (va_wsS RX5 212 yX5_isSiding wsX5_isSiding) := goodIn_app (goodIn_of _ (by decide +kernel)) ggX5_waggonAt_X5_isSiding
set_option maxRecDepth 20000 in
theorem ggX5_waggonAt_X4_rowOfSiding : GoodIn wsX5_waggonAt wsX4_rowOfSiding := goodIn_r _ [13] (by decide +kernel) (by decide +kernel)
set_option maxRecDepth 20000 in
theorem gX5_waggonAt_X4_rowOfSiding : GoodIn wsX5_waggonAt (va_wsS RX5 164 yX4_rowOfSiding wsX4_rowOfSiding) := goodIn_app (goodIn_of _ (by decide +kernel)) ggX5_waggonAt_X4_rowOfSiding
set_option maxRecDepth 20000 in
theorem ggX5_waggonAt_X4_fromLast : GoodIn wsX5_waggonAt wsX4_fromLast := goodIn_r _ [17, 18, 19, 40, 41, 42, 43] (by decide +kernel) (by decide +kernel)
set_option maxRecDepth 20000 in
theorem gX5_waggonAt_X4_fromLast : GoodIn wsX5_waggonAt (wsV RX5 219 RX4 yX4_fromLast wsX4_fromLast) := goodIn_app (goodIn_of _ (by decide +kernel)) ggX5_waggonAt_X4_fromLast
set_option maxRecDepth 20000 in
theorem ggX5_waggonAt_X4_rowOfTrain : GoodIn wsX5_waggonAt wsX4_rowOfTrain := goodIn_r _ [22] (by decide +kernel) (by decide +kernel)
set_option maxRecDepth 20000 in
theorem gX5_waggonAt_X4_rowOfTrain : GoodIn wsX5_waggonAt (va_wsS RX5 183 yX4_rowOfTrain wsX4_rowOfTrain) := goodIn_app (goodIn_of _ (by decide +kernel)) ggX5_waggonAt_X4_rowOfTrain
set_option maxRecDepth 20000 in
theorem ggX5_waggonAt_X4_fromFirst : GoodIn wsX5_waggonAt wsX4_fromFirst := goodIn_r _ [26, 18, 19, 40, 41, 42, 43] (by decide +kernel) (by decide +kernel)
set_option maxRecDepth 20000 in
theorem gX5_waggonAt_X4_fromFirst : GoodIn wsX5_waggonAt (wsV RX5 222 RX4 yX4_fromFirst wsX4_fromFirst) := goodIn_app (goodIn_of _ (by decide +kernel)) ggX5_waggonAt_X4_fromFirst
theorem dX5_waggonAt_0 : decode cX5_waggonAt 0 = .ok (.iload_n 1, 1) := by decide +kernel
theorem dX5_waggonAt_1 : decode cX5_waggonAt 1 = .ok (.invokestatic 212, 3) := by decide +kernel
theorem dX5_waggonAt_4 : decode cX5_waggonAt 4 = .ok (.istore_n 3, 1) := by decide +kernel
theorem dX5_waggonAt_5 : decode cX5_waggonAt 5 = .ok (.iload_n 3, 1) := by decide +kernel
theorem dX5_waggonAt_6 : decode cX5_waggonAt 6 = .ok (.ifCond .ne 33, 3) := by decide +kernel
theorem dX5_waggonAt_9 : decode cX5_waggonAt 9 = .ok (.iload_n 1, 1) := by decide +kernel
theorem dX5_waggonAt_10 : decode cX5_waggonAt 10 = .ok (.bipush 10, 2) := by decide +kernel
theorem dX5_waggonAt_12 : decode cX5_waggonAt 12 = .ok (.if_icmp .lt 17, 3) := by decide +kernel
theorem dX5_waggonAt_15 : decode cX5_waggonAt 15 = .ok (.iload_n 1, 1) := by decide +kernel
theorem dX5_waggonAt_16 : decode cX5_waggonAt 16 = .ok (.bipush 10, 2) := by decide +kernel
theorem dX5_waggonAt_18 : decode cX5_waggonAt 18 = .ok (.aload_n 0, 1) := by decide +kernel
theorem dX5_waggonAt_19 : decode cX5_waggonAt 19 = .ok (.getfield 19, 3) := by decide +kernel
theorem dX5_waggonAt_22 : decode cX5_waggonAt 22 = .ok (.getfield 51, 3) := by decide +kernel
theorem dX5_waggonAt_25 : decode cX5_waggonAt 25 = .ok (.iadd, 1) := by decide +kernel
theorem dX5_waggonAt_26 : decode cX5_waggonAt 26 = .ok (.if_icmp .lt 13, 3) := by decide +kernel
theorem dX5_waggonAt_29 : decode cX5_waggonAt 29 = .ok (.new 95, 3) := by decide +kernel
theorem dX5_waggonAt_32 : decode cX5_waggonAt 32 = .ok (.dup, 1) := by decide +kernel
theorem dX5_waggonAt_33 : decode cX5_waggonAt 33 = .ok (.ldc 215, 2) := by decide +kernel
theorem dX5_waggonAt_35 : decode cX5_waggonAt 35 = .ok (.invokespecial 99, 3) := by decide +kernel
theorem dX5_waggonAt_38 : decode cX5_waggonAt 38 = .ok (.athrow, 1) := by decide +kernel
theorem dX5_waggonAt_39 : decode cX5_waggonAt 39 = .ok (.iload_n 2, 1) := by decide +kernel
theorem dX5_waggonAt_40 : decode cX5_waggonAt 40 = .ok (.ifCond .ge 13, 3) := by decide +kernel
theorem dX5_waggonAt_43 : decode cX5_waggonAt 43 = .ok (.new 95, 3) := by decide +kernel
theorem dX5_waggonAt_46 : decode cX5_waggonAt 46 = .ok (.dup, 1) := by decide +kernel
theorem dX5_waggonAt_47 : decode cX5_waggonAt 47 = .ok (.ldc 217, 2) := by decide +kernel
theorem dX5_waggonAt_49 : decode cX5_waggonAt 49 = .ok (.invokespecial 99, 3) := by decide +kernel
theorem dX5_waggonAt_52 : decode cX5_waggonAt 52 = .ok (.athrow, 1) := by decide +kernel
theorem dX5_waggonAt_53 : decode cX5_waggonAt 53 = .ok (.iload_n 3, 1) := by decide +kernel
theorem dX5_waggonAt_54 : decode cX5_waggonAt 54 = .ok (.ifCond .eq 16, 3) := by decide +kernel
theorem dX5_waggonAt_57 : decode cX5_waggonAt 57 = .ok (.aload_n 0, 1) := by decide +kernel
theorem dX5_waggonAt_58 : decode cX5_waggonAt 58 = .ok (.getfield 36, 3) := by decide +kernel
theorem dX5_waggonAt_61 : decode cX5_waggonAt 61 = .ok (.iload_n 1, 1) := by decide +kernel
theorem dX5_waggonAt_62 : decode cX5_waggonAt 62 = .ok (.invokestatic 164, 3) := by decide +kernel
theorem dX5_waggonAt_65 : decode cX5_waggonAt 65 = .ok (.iload_n 2, 1) := by decide +kernel
theorem dX5_waggonAt_66 : decode cX5_waggonAt 66 = .ok (.invokevirtual 219, 3) := by decide +kernel
theorem dX5_waggonAt_69 : decode cX5_waggonAt 69 = .ok (.ireturn, 1) := by decide +kernel
theorem dX5_waggonAt_70 : decode cX5_waggonAt 70 = .ok (.aload_n 0, 1) := by decide +kernel
theorem dX5_waggonAt_71 : decode cX5_waggonAt 71 = .ok (.getfield 36, 3) := by decide +kernel
theorem dX5_waggonAt_74 : decode cX5_waggonAt 74 = .ok (.iload_n 1, 1) := by decide +kernel
theorem dX5_waggonAt_75 : decode cX5_waggonAt 75 = .ok (.bipush 10, 2) := by decide +kernel
theorem dX5_waggonAt_77 : decode cX5_waggonAt 77 = .ok (.isub, 1) := by decide +kernel
theorem dX5_waggonAt_78 : decode cX5_waggonAt 78 = .ok (.invokestatic 183, 3) := by decide +kernel
theorem dX5_waggonAt_81 : decode cX5_waggonAt 81 = .ok (.iload_n 2, 1) := by decide +kernel
theorem dX5_waggonAt_82 : decode cX5_waggonAt 82 = .ok (.invokevirtual 222, 3) := by decide +kernel
theorem dX5_waggonAt_85 : decode cX5_waggonAt 85 = .ok (.ireturn, 1) := by decide +kernel
theorem dX5_earned_0 : decode cX5_earned 0 = .ok (.aload_n 0, 1) := by decide +kernel
theorem dX5_earned_1 : decode cX5_earned 1 = .ok (.getfield 209, 3) := by decide +kernel
theorem dX5_earned_4 : decode cX5_earned 4 = .ok (.ireturn, 1) := by decide +kernel
theorem dX5_needTrain_0 : decode cX5_needTrain 0 = .ok (.iload_n 1, 1) := by decide +kernel
theorem dX5_needTrain_1 : decode cX5_needTrain 1 = .ok (.ifCond .lt 14, 3) := by decide +kernel
theorem dX5_needTrain_4 : decode cX5_needTrain 4 = .ok (.iload_n 1, 1) := by decide +kernel
theorem dX5_needTrain_5 : decode cX5_needTrain 5 = .ok (.aload_n 0, 1) := by decide +kernel
theorem dX5_needTrain_6 : decode cX5_needTrain 6 = .ok (.getfield 19, 3) := by decide +kernel
theorem dX5_needTrain_9 : decode cX5_needTrain 9 = .ok (.getfield 51, 3) := by decide +kernel
theorem dX5_needTrain_12 : decode cX5_needTrain 12 = .ok (.if_icmp .lt 13, 3) := by decide +kernel
theorem dX5_needTrain_15 : decode cX5_needTrain 15 = .ok (.new 95, 3) := by decide +kernel
theorem dX5_needTrain_18 : decode cX5_needTrain 18 = .ok (.dup, 1) := by decide +kernel
theorem dX5_needTrain_19 : decode cX5_needTrain 19 = .ok (.ldc 225, 2) := by decide +kernel
theorem dX5_needTrain_21 : decode cX5_needTrain 21 = .ok (.invokespecial 99, 3) := by decide +kernel
theorem dX5_needTrain_24 : decode cX5_needTrain 24 = .ok (.athrow, 1) := by decide +kernel
theorem dX5_needTrain_25 : decode cX5_needTrain 25 = .ok (.return_, 1) := by decide +kernel
theorem dX5_needBooking_0 : decode cX5_needBooking 0 = .ok (.iload_n 1, 1) := by decide +kernel
theorem dX5_needBooking_1 : decode cX5_needBooking 1 = .ok (.ifCond .lt 14, 3) := by decide +kernel
theorem dX5_needBooking_4 : decode cX5_needBooking 4 = .ok (.iload_n 1, 1) := by decide +kernel
theorem dX5_needBooking_5 : decode cX5_needBooking 5 = .ok (.aload_n 0, 1) := by decide +kernel
theorem dX5_needBooking_6 : decode cX5_needBooking 6 = .ok (.getfield 29, 3) := by decide +kernel
theorem dX5_needBooking_9 : decode cX5_needBooking 9 = .ok (.getfield 130, 3) := by decide +kernel
theorem dX5_needBooking_12 : decode cX5_needBooking 12 = .ok (.if_icmp .lt 13, 3) := by decide +kernel
theorem dX5_needBooking_15 : decode cX5_needBooking 15 = .ok (.new 95, 3) := by decide +kernel
theorem dX5_needBooking_18 : decode cX5_needBooking 18 = .ok (.dup, 1) := by decide +kernel
theorem dX5_needBooking_19 : decode cX5_needBooking 19 = .ok (.ldc 227, 2) := by decide +kernel
theorem dX5_needBooking_21 : decode cX5_needBooking 21 = .ok (.invokespecial 99, 3) := by decide +kernel
theorem dX5_needBooking_24 : decode cX5_needBooking 24 = .ok (.athrow, 1) := by decide +kernel
theorem dX5_needBooking_25 : decode cX5_needBooking 25 = .ok (.return_, 1) := by decide +kernel
theorem dX5_needBlock_0 : decode cX5_needBlock 0 = .ok (.iload_n 0, 1) := by decide +kernel
theorem dX5_needBlock_1 : decode cX5_needBlock 1 = .ok (.ifCond .lt 9, 3) := by decide +kernel
theorem dX5_needBlock_4 : decode cX5_needBlock 4 = .ok (.iload_n 0, 1) := by decide +kernel
theorem dX5_needBlock_5 : decode cX5_needBlock 5 = .ok (.bipush 8, 2) := by decide +kernel
theorem dX5_needBlock_7 : decode cX5_needBlock 7 = .ok (.if_icmp .lt 13, 3) := by decide +kernel
theorem dX5_needBlock_10 : decode cX5_needBlock 10 = .ok (.new 95, 3) := by decide +kernel
theorem dX5_needBlock_13 : decode cX5_needBlock 13 = .ok (.dup, 1) := by decide +kernel
theorem dX5_needBlock_14 : decode cX5_needBlock 14 = .ok (.ldc 229, 2) := by decide +kernel
theorem dX5_needBlock_16 : decode cX5_needBlock 16 = .ok (.invokespecial 99, 3) := by decide +kernel
theorem dX5_needBlock_19 : decode cX5_needBlock 19 = .ok (.athrow, 1) := by decide +kernel
theorem dX5_needBlock_20 : decode cX5_needBlock 20 = .ok (.return_, 1) := by decide +kernel
set_option maxRecDepth 20000 in
theorem ggX5_needSiding_X5_isSiding : GoodIn wsX5_needSiding wsX5_isSiding := goodIn_r _ [6] (by decide +kernel) (by decide +kernel)
set_option maxRecDepth 20000 in
theorem gX5_needSiding_X5_isSiding : GoodIn wsX5_needSiding (va_wsS RX5 212 yX5_isSiding wsX5_isSiding) := goodIn_app (goodIn_of _ (by decide +kernel)) ggX5_needSiding_X5_isSiding
theorem dX5_needSiding_0 : decode cX5_needSiding 0 = .ok (.iload_n 0, 1) := by decide +kernel
theorem dX5_needSiding_1 : decode cX5_needSiding 1 = .ok (.invokestatic 212, 3) := by decide +kernel
theorem dX5_needSiding_4 : decode cX5_needSiding 4 = .ok (.ifCond .ne 13, 3) := by decide +kernel
theorem dX5_needSiding_7 : decode cX5_needSiding 7 = .ok (.new 95, 3) := by decide +kernel
theorem dX5_needSiding_10 : decode cX5_needSiding 10 = .ok (.dup, 1) := by decide +kernel
theorem dX5_needSiding_11 : decode cX5_needSiding 11 = .ok (.ldc 231, 2) := by decide +kernel
theorem dX5_needSiding_13 : decode cX5_needSiding 13 = .ok (.invokespecial 99, 3) := by decide +kernel
theorem dX5_needSiding_16 : decode cX5_needSiding 16 = .ok (.athrow, 1) := by decide +kernel
theorem dX5_needSiding_17 : decode cX5_needSiding 17 = .ok (.return_, 1) := by decide +kernel
theorem dX5_isSiding_0 : decode cX5_isSiding 0 = .ok (.iload_n 0, 1) := by decide +kernel
theorem dX5_isSiding_1 : decode cX5_isSiding 1 = .ok (.bipush 6, 2) := by decide +kernel
theorem dX5_isSiding_3 : decode cX5_isSiding 3 = .ok (.if_icmp .lt 13, 3) := by decide +kernel
theorem dX5_isSiding_6 : decode cX5_isSiding 6 = .ok (.iload_n 0, 1) := by decide +kernel
theorem dX5_isSiding_7 : decode cX5_isSiding 7 = .ok (.bipush 8, 2) := by decide +kernel
theorem dX5_isSiding_9 : decode cX5_isSiding 9 = .ok (.if_icmp .ge 7, 3) := by decide +kernel
theorem dX5_isSiding_12 : decode cX5_isSiding 12 = .ok (.iconst 1, 1) := by decide +kernel
theorem dX5_isSiding_13 : decode cX5_isSiding 13 = .ok (.goto 4, 3) := by decide +kernel
theorem dX5_isSiding_16 : decode cX5_isSiding 16 = .ok (.iconst 0, 1) := by decide +kernel
theorem dX5_isSiding_17 : decode cX5_isSiding 17 = .ok (.ireturn, 1) := by decide +kernel
theorem dX5_needMinutesToRun_0 : decode cX5_needMinutesToRun 0 = .ok (.iload_n 0, 1) := by decide +kernel
theorem dX5_needMinutesToRun_1 : decode cX5_needMinutesToRun 1 = .ok (.iconst 1, 1) := by decide +kernel
theorem dX5_needMinutesToRun_2 : decode cX5_needMinutesToRun 2 = .ok (.if_icmp .lt 9, 3) := by decide +kernel
theorem dX5_needMinutesToRun_5 : decode cX5_needMinutesToRun 5 = .ok (.iload_n 0, 1) := by decide +kernel
theorem dX5_needMinutesToRun_6 : decode cX5_needMinutesToRun 6 = .ok (.bipush 100, 2) := by decide +kernel
theorem dX5_needMinutesToRun_8 : decode cX5_needMinutesToRun 8 = .ok (.if_icmp .le 13, 3) := by decide +kernel
theorem dX5_needMinutesToRun_11 : decode cX5_needMinutesToRun 11 = .ok (.new 86, 3) := by decide +kernel
theorem dX5_needMinutesToRun_14 : decode cX5_needMinutesToRun 14 = .ok (.dup, 1) := by decide +kernel
theorem dX5_needMinutesToRun_15 : decode cX5_needMinutesToRun 15 = .ok (.ldc 233, 2) := by decide +kernel
theorem dX5_needMinutesToRun_17 : decode cX5_needMinutesToRun 17 = .ok (.invokespecial 90, 3) := by decide +kernel
theorem dX5_needMinutesToRun_20 : decode cX5_needMinutesToRun 20 = .ok (.athrow, 1) := by decide +kernel
theorem dX5_needMinutesToRun_21 : decode cX5_needMinutesToRun 21 = .ok (.return_, 1) := by decide +kernel
theorem dX5_needSpan_0 : decode cX5_needSpan 0 = .ok (.iload_n 1, 1) := by decide +kernel
theorem dX5_needSpan_1 : decode cX5_needSpan 1 = .ok (.iload_n 0, 1) := by decide +kernel
theorem dX5_needSpan_2 : decode cX5_needSpan 2 = .ok (.if_icmp .lt 10, 3) := by decide +kernel
theorem dX5_needSpan_5 : decode cX5_needSpan 5 = .ok (.iload_n 1, 1) := by decide +kernel
theorem dX5_needSpan_6 : decode cX5_needSpan 6 = .ok (.sipush 5000, 3) := by decide +kernel
theorem dX5_needSpan_9 : decode cX5_needSpan 9 = .ok (.if_icmp .le 13, 3) := by decide +kernel
theorem dX5_needSpan_12 : decode cX5_needSpan 12 = .ok (.new 86, 3) := by decide +kernel
theorem dX5_needSpan_15 : decode cX5_needSpan 15 = .ok (.dup, 1) := by decide +kernel
theorem dX5_needSpan_16 : decode cX5_needSpan 16 = .ok (.ldc 235, 2) := by decide +kernel
theorem dX5_needSpan_18 : decode cX5_needSpan 18 = .ok (.invokespecial 90, 3) := by decide +kernel
theorem dX5_needSpan_21 : decode cX5_needSpan 21 = .ok (.athrow, 1) := by decide +kernel
theorem dX5_needSpan_22 : decode cX5_needSpan 22 = .ok (.iload_n 2, 1) := by decide +kernel
theorem dX5_needSpan_23 : decode cX5_needSpan 23 = .ok (.iload_n 1, 1) := by decide +kernel
theorem dX5_needSpan_24 : decode cX5_needSpan 24 = .ok (.if_icmp .lt 10, 3) := by decide +kernel
theorem dX5_needSpan_27 : decode cX5_needSpan 27 = .ok (.iload_n 2, 1) := by decide +kernel
theorem dX5_needSpan_28 : decode cX5_needSpan 28 = .ok (.sipush 5000, 3) := by decide +kernel
theorem dX5_needSpan_31 : decode cX5_needSpan 31 = .ok (.if_icmp .le 13, 3) := by decide +kernel
theorem dX5_needSpan_34 : decode cX5_needSpan 34 = .ok (.new 86, 3) := by decide +kernel
theorem dX5_needSpan_37 : decode cX5_needSpan 37 = .ok (.dup, 1) := by decide +kernel
theorem dX5_needSpan_38 : decode cX5_needSpan 38 = .ok (.ldc 237, 2) := by decide +kernel
theorem dX5_needSpan_40 : decode cX5_needSpan 40 = .ok (.invokespecial 90, 3) := by decide +kernel
theorem dX5_needSpan_43 : decode cX5_needSpan 43 = .ok (.athrow, 1) := by decide +kernel
theorem dX5_needSpan_44 : decode cX5_needSpan 44 = .ok (.return_, 1) := by decide +kernel
set_option maxRecDepth 20000 in
theorem ggX5_needRoomIn_X4_rowOfSiding : GoodIn wsX5_needRoomIn wsX4_rowOfSiding := goodIn_r _ [8] (by decide +kernel) (by decide +kernel)
set_option maxRecDepth 20000 in
theorem gX5_needRoomIn_X4_rowOfSiding : GoodIn wsX5_needRoomIn (va_wsS RX5 164 yX4_rowOfSiding wsX4_rowOfSiding) := goodIn_app (goodIn_of _ (by decide +kernel)) ggX5_needRoomIn_X4_rowOfSiding
theorem dX5_needRoomIn_0 : decode cX5_needRoomIn 0 = .ok (.aload_n 0, 1) := by decide +kernel
theorem dX5_needRoomIn_1 : decode cX5_needRoomIn 1 = .ok (.getfield 36, 3) := by decide +kernel
theorem dX5_needRoomIn_4 : decode cX5_needRoomIn 4 = .ok (.getfield 239, 3) := by decide +kernel
theorem dX5_needRoomIn_7 : decode cX5_needRoomIn 7 = .ok (.iload_n 1, 1) := by decide +kernel
theorem dX5_needRoomIn_8 : decode cX5_needRoomIn 8 = .ok (.invokestatic 164, 3) := by decide +kernel
theorem dX5_needRoomIn_11 : decode cX5_needRoomIn 11 = .ok (.iaload, 1) := by decide +kernel
theorem dX5_needRoomIn_12 : decode cX5_needRoomIn 12 = .ok (.iconst 4, 1) := by decide +kernel
theorem dX5_needRoomIn_13 : decode cX5_needRoomIn 13 = .ok (.if_icmp .lt 13, 3) := by decide +kernel
theorem dX5_needRoomIn_16 : decode cX5_needRoomIn 16 = .ok (.new 55, 3) := by decide +kernel
theorem dX5_needRoomIn_19 : decode cX5_needRoomIn 19 = .ok (.dup, 1) := by decide +kernel
theorem dX5_needRoomIn_20 : decode cX5_needRoomIn 20 = .ok (.ldc 242, 2) := by decide +kernel
theorem dX5_needRoomIn_22 : decode cX5_needRoomIn 22 = .ok (.invokespecial 59, 3) := by decide +kernel
theorem dX5_needRoomIn_25 : decode cX5_needRoomIn 25 = .ok (.athrow, 1) := by decide +kernel
theorem dX5_needRoomIn_26 : decode cX5_needRoomIn 26 = .ok (.return_, 1) := by decide +kernel
set_option maxRecDepth 20000 in
theorem ggX5_sidingUnder_X5_isSiding : GoodIn wsX5_sidingUnder wsX5_isSiding := goodIn_r _ [8] (by decide +kernel) (by decide +kernel)
set_option maxRecDepth 20000 in
theorem gX5_sidingUnder_X5_isSiding : GoodIn wsX5_sidingUnder (va_wsS RX5 212 yX5_isSiding wsX5_isSiding) := goodIn_app (goodIn_of _ (by decide +kernel)) ggX5_sidingUnder_X5_isSiding
theorem dX5_sidingUnder_0 : decode cX5_sidingUnder 0 = .ok (.aload_n 0, 1) := by decide +kernel
theorem dX5_sidingUnder_1 : decode cX5_sidingUnder 1 = .ok (.getfield 19, 3) := by decide +kernel
theorem dX5_sidingUnder_4 : decode cX5_sidingUnder 4 = .ok (.getfield 103, 3) := by decide +kernel
theorem dX5_sidingUnder_7 : decode cX5_sidingUnder 7 = .ok (.iload_n 1, 1) := by decide +kernel
theorem dX5_sidingUnder_8 : decode cX5_sidingUnder 8 = .ok (.iaload, 1) := by decide +kernel
theorem dX5_sidingUnder_9 : decode cX5_sidingUnder 9 = .ok (.istore_n 2, 1) := by decide +kernel
theorem dX5_sidingUnder_10 : decode cX5_sidingUnder 10 = .ok (.iload_n 2, 1) := by decide +kernel
theorem dX5_sidingUnder_11 : decode cX5_sidingUnder 11 = .ok (.invokestatic 212, 3) := by decide +kernel
theorem dX5_sidingUnder_14 : decode cX5_sidingUnder 14 = .ok (.ifCond .ne 13, 3) := by decide +kernel
theorem dX5_sidingUnder_17 : decode cX5_sidingUnder 17 = .ok (.new 55, 3) := by decide +kernel
theorem dX5_sidingUnder_20 : decode cX5_sidingUnder 20 = .ok (.dup, 1) := by decide +kernel
theorem dX5_sidingUnder_21 : decode cX5_sidingUnder 21 = .ok (.ldc 244, 2) := by decide +kernel
theorem dX5_sidingUnder_23 : decode cX5_sidingUnder 23 = .ok (.invokespecial 59, 3) := by decide +kernel
theorem dX5_sidingUnder_26 : decode cX5_sidingUnder 26 = .ok (.athrow, 1) := by decide +kernel
theorem dX5_sidingUnder_27 : decode cX5_sidingUnder 27 = .ok (.iload_n 2, 1) := by decide +kernel
theorem dX5_sidingUnder_28 : decode cX5_sidingUnder 28 = .ok (.ireturn, 1) := by decide +kernel
