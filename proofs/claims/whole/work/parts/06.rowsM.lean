theorem dX6_init_0 : decode cX6_init 0 = .ok (.aload_n 0, 1) := by decide +kernel
theorem dX6_init_1 : decode cX6_init 1 = .ok (.invokespecial 1, 3) := by decide +kernel
theorem dX6_init_4 : decode cX6_init 4 = .ok (.aload_n 0, 1) := by decide +kernel
theorem dX6_init_5 : decode cX6_init 5 = .ok (.iconst 4, 1) := by decide +kernel
theorem dX6_init_6 : decode cX6_init 6 = .ok (.newarray .int, 2) := by decide +kernel
theorem dX6_init_8 : decode cX6_init 8 = .ok (.putfield 7, 3) := by decide +kernel
theorem dX6_init_11 : decode cX6_init 11 = .ok (.aload_n 0, 1) := by decide +kernel
theorem dX6_init_12 : decode cX6_init 12 = .ok (.iconst 4, 1) := by decide +kernel
theorem dX6_init_13 : decode cX6_init 13 = .ok (.newarray .boolean, 2) := by decide +kernel
theorem dX6_init_15 : decode cX6_init 15 = .ok (.putfield 13, 3) := by decide +kernel
theorem dX6_init_18 : decode cX6_init 18 = .ok (.aload_n 0, 1) := by decide +kernel
theorem dX6_init_19 : decode cX6_init 19 = .ok (.iconst 4, 1) := by decide +kernel
theorem dX6_init_20 : decode cX6_init 20 = .ok (.newarray .boolean, 2) := by decide +kernel
theorem dX6_init_22 : decode cX6_init 22 = .ok (.putfield 17, 3) := by decide +kernel
theorem dX6_init_25 : decode cX6_init 25 = .ok (.aload_n 0, 1) := by decide +kernel
theorem dX6_init_26 : decode cX6_init 26 = .ok (.iconst 4, 1) := by decide +kernel
theorem dX6_init_27 : decode cX6_init 27 = .ok (.newarray .int, 2) := by decide +kernel
theorem dX6_init_29 : decode cX6_init 29 = .ok (.putfield 20, 3) := by decide +kernel
theorem dX6_init_32 : decode cX6_init 32 = .ok (.aload_n 0, 1) := by decide +kernel
theorem dX6_init_33 : decode cX6_init 33 = .ok (.iconst 2, 1) := by decide +kernel
theorem dX6_init_34 : decode cX6_init 34 = .ok (.newarray .boolean, 2) := by decide +kernel
theorem dX6_init_36 : decode cX6_init 36 = .ok (.putfield 23, 3) := by decide +kernel
theorem dX6_init_39 : decode cX6_init 39 = .ok (.aload_n 0, 1) := by decide +kernel
theorem dX6_init_40 : decode cX6_init 40 = .ok (.iconst 4, 1) := by decide +kernel
theorem dX6_init_41 : decode cX6_init 41 = .ok (.newarray .int, 2) := by decide +kernel
theorem dX6_init_43 : decode cX6_init 43 = .ok (.putfield 26, 3) := by decide +kernel
theorem dX6_init_46 : decode cX6_init 46 = .ok (.aload_n 0, 1) := by decide +kernel
theorem dX6_init_47 : decode cX6_init 47 = .ok (.iconst 4, 1) := by decide +kernel
theorem dX6_init_48 : decode cX6_init 48 = .ok (.newarray .boolean, 2) := by decide +kernel
theorem dX6_init_50 : decode cX6_init 50 = .ok (.putfield 29, 3) := by decide +kernel
theorem dX6_init_53 : decode cX6_init 53 = .ok (.aload_n 0, 1) := by decide +kernel
theorem dX6_init_54 : decode cX6_init 54 = .ok (.iconst 4, 1) := by decide +kernel
theorem dX6_init_55 : decode cX6_init 55 = .ok (.newarray .int, 2) := by decide +kernel
theorem dX6_init_57 : decode cX6_init 57 = .ok (.putfield 32, 3) := by decide +kernel
theorem dX6_init_60 : decode cX6_init 60 = .ok (.aload_n 0, 1) := by decide +kernel
theorem dX6_init_61 : decode cX6_init 61 = .ok (.bipush 30, 2) := by decide +kernel
theorem dX6_init_63 : decode cX6_init 63 = .ok (.newarray .int, 2) := by decide +kernel
theorem dX6_init_65 : decode cX6_init 65 = .ok (.putfield 35, 3) := by decide +kernel
theorem dX6_init_68 : decode cX6_init 68 = .ok (.aload_n 0, 1) := by decide +kernel
theorem dX6_init_69 : decode cX6_init 69 = .ok (.bipush 30, 2) := by decide +kernel
theorem dX6_init_71 : decode cX6_init 71 = .ok (.newarray .int, 2) := by decide +kernel
theorem dX6_init_73 : decode cX6_init 73 = .ok (.putfield 38, 3) := by decide +kernel
theorem dX6_init_76 : decode cX6_init 76 = .ok (.aload_n 0, 1) := by decide +kernel
theorem dX6_init_77 : decode cX6_init 77 = .ok (.bipush 30, 2) := by decide +kernel
theorem dX6_init_79 : decode cX6_init 79 = .ok (.newarray .int, 2) := by decide +kernel
theorem dX6_init_81 : decode cX6_init 81 = .ok (.putfield 41, 3) := by decide +kernel
theorem dX6_init_84 : decode cX6_init 84 = .ok (.aload_n 0, 1) := by decide +kernel
theorem dX6_init_85 : decode cX6_init 85 = .ok (.bipush 30, 2) := by decide +kernel
theorem dX6_init_87 : decode cX6_init 87 = .ok (.newarray .int, 2) := by decide +kernel
theorem dX6_init_89 : decode cX6_init 89 = .ok (.putfield 44, 3) := by decide +kernel
theorem dX6_init_92 : decode cX6_init 92 = .ok (.aload_n 0, 1) := by decide +kernel
theorem dX6_init_93 : decode cX6_init 93 = .ok (.bipush 30, 2) := by decide +kernel
theorem dX6_init_95 : decode cX6_init 95 = .ok (.newarray .int, 2) := by decide +kernel
theorem dX6_init_97 : decode cX6_init 97 = .ok (.putfield 47, 3) := by decide +kernel
theorem dX6_init_100 : decode cX6_init 100 = .ok (.aload_n 0, 1) := by decide +kernel
theorem dX6_init_101 : decode cX6_init 101 = .ok (.bipush 30, 2) := by decide +kernel
theorem dX6_init_103 : decode cX6_init 103 = .ok (.newarray .int, 2) := by decide +kernel
theorem dX6_init_105 : decode cX6_init 105 = .ok (.putfield 50, 3) := by decide +kernel
theorem dX6_init_108 : decode cX6_init 108 = .ok (.aload_n 0, 1) := by decide +kernel
theorem dX6_init_109 : decode cX6_init 109 = .ok (.bipush 8, 2) := by decide +kernel
theorem dX6_init_111 : decode cX6_init 111 = .ok (.newarray .int, 2) := by decide +kernel
theorem dX6_init_113 : decode cX6_init 113 = .ok (.putfield 53, 3) := by decide +kernel
theorem dX6_init_116 : decode cX6_init 116 = .ok (.aload_n 0, 1) := by decide +kernel
theorem dX6_init_117 : decode cX6_init 117 = .ok (.bipush 8, 2) := by decide +kernel
theorem dX6_init_119 : decode cX6_init 119 = .ok (.newarray .int, 2) := by decide +kernel
theorem dX6_init_121 : decode cX6_init 121 = .ok (.putfield 56, 3) := by decide +kernel
theorem dX6_init_124 : decode cX6_init 124 = .ok (.aload_n 0, 1) := by decide +kernel
theorem dX6_init_125 : decode cX6_init 125 = .ok (.bipush 8, 2) := by decide +kernel
theorem dX6_init_127 : decode cX6_init 127 = .ok (.newarray .int, 2) := by decide +kernel
theorem dX6_init_129 : decode cX6_init 129 = .ok (.putfield 59, 3) := by decide +kernel
theorem dX6_init_132 : decode cX6_init 132 = .ok (.aload_n 0, 1) := by decide +kernel
theorem dX6_init_133 : decode cX6_init 133 = .ok (.bipush 8, 2) := by decide +kernel
theorem dX6_init_135 : decode cX6_init 135 = .ok (.newarray .int, 2) := by decide +kernel
theorem dX6_init_137 : decode cX6_init 137 = .ok (.putfield 62, 3) := by decide +kernel
theorem dX6_init_140 : decode cX6_init 140 = .ok (.aload_n 0, 1) := by decide +kernel
theorem dX6_init_141 : decode cX6_init 141 = .ok (.bipush 8, 2) := by decide +kernel
theorem dX6_init_143 : decode cX6_init 143 = .ok (.newarray .int, 2) := by decide +kernel
theorem dX6_init_145 : decode cX6_init 145 = .ok (.putfield 65, 3) := by decide +kernel
theorem dX6_init_148 : decode cX6_init 148 = .ok (.aload_n 0, 1) := by decide +kernel
theorem dX6_init_149 : decode cX6_init 149 = .ok (.bipush 8, 2) := by decide +kernel
theorem dX6_init_151 : decode cX6_init 151 = .ok (.newarray .int, 2) := by decide +kernel
theorem dX6_init_153 : decode cX6_init 153 = .ok (.putfield 68, 3) := by decide +kernel
theorem dX6_init_156 : decode cX6_init 156 = .ok (.return_, 1) := by decide +kernel
theorem dX6_thrown_0 : decode cX6_thrown 0 = .ok (.aload_n 0, 1) := by decide +kernel
theorem dX6_thrown_1 : decode cX6_thrown 1 = .ok (.getfield 71, 3) := by decide +kernel
theorem dX6_thrown_4 : decode cX6_thrown 4 = .ok (.ireturn, 1) := by decide +kernel
theorem dX6_holds_0 : decode cX6_holds 0 = .ok (.aload_n 0, 1) := by decide +kernel
theorem dX6_holds_1 : decode cX6_holds 1 = .ok (.iload_n 1, 1) := by decide +kernel
theorem dX6_holds_2 : decode cX6_holds 2 = .ok (.putfield 71, 3) := by decide +kernel
theorem dX6_holds_5 : decode cX6_holds 5 = .ok (.iload_n 1, 1) := by decide +kernel
theorem dX6_holds_6 : decode cX6_holds 6 = .ok (.ifCond .ne 7, 3) := by decide +kernel
theorem dX6_holds_9 : decode cX6_holds 9 = .ok (.iconst 1, 1) := by decide +kernel
theorem dX6_holds_10 : decode cX6_holds 10 = .ok (.goto 4, 3) := by decide +kernel
theorem dX6_holds_13 : decode cX6_holds 13 = .ok (.iconst 0, 1) := by decide +kernel
theorem dX6_holds_14 : decode cX6_holds 14 = .ok (.ireturn, 1) := by decide +kernel
theorem dX6_in_0 : decode cX6_in 0 = .ok (.iload_n 0, 1) := by decide +kernel
theorem dX6_in_1 : decode cX6_in 1 = .ok (.iload_n 1, 1) := by decide +kernel
theorem dX6_in_2 : decode cX6_in 2 = .ok (.if_icmp .lt 12, 3) := by decide +kernel
theorem dX6_in_5 : decode cX6_in 5 = .ok (.iload_n 0, 1) := by decide +kernel
theorem dX6_in_6 : decode cX6_in 6 = .ok (.iload_n 2, 1) := by decide +kernel
theorem dX6_in_7 : decode cX6_in 7 = .ok (.if_icmp .gt 7, 3) := by decide +kernel
theorem dX6_in_10 : decode cX6_in 10 = .ok (.iconst 1, 1) := by decide +kernel
theorem dX6_in_11 : decode cX6_in 11 = .ok (.goto 4, 3) := by decide +kernel
theorem dX6_in_14 : decode cX6_in 14 = .ok (.iconst 0, 1) := by decide +kernel
theorem dX6_in_15 : decode cX6_in 15 = .ok (.ireturn, 1) := by decide +kernel
set_option maxRecDepth 20000 in
theorem ggX6_isTrain_X6_in : GoodIn wsX6_isTrain wsX6_in := goodIn_r _ [5] (by decide +kernel) (by decide +kernel)
set_option maxRecDepth 20000 in
theorem gX6_isTrain_X6_in : GoodIn wsX6_isTrain (va_wsS RX6 78 yX6_in wsX6_in) := goodIn_app (goodIn_of _ (by decide +kernel)) ggX6_isTrain_X6_in
theorem dX6_isTrain_0 : decode cX6_isTrain 0 = .ok (.iload_n 1, 1) := by decide +kernel
theorem dX6_isTrain_1 : decode cX6_isTrain 1 = .ok (.iconst 0, 1) := by decide +kernel
theorem dX6_isTrain_2 : decode cX6_isTrain 2 = .ok (.aload_n 0, 1) := by decide +kernel
theorem dX6_isTrain_3 : decode cX6_isTrain 3 = .ok (.getfield 75, 3) := by decide +kernel
theorem dX6_isTrain_6 : decode cX6_isTrain 6 = .ok (.iconst 1, 1) := by decide +kernel
theorem dX6_isTrain_7 : decode cX6_isTrain 7 = .ok (.isub, 1) := by decide +kernel
theorem dX6_isTrain_8 : decode cX6_isTrain 8 = .ok (.invokestatic 78, 3) := by decide +kernel
theorem dX6_isTrain_11 : decode cX6_isTrain 11 = .ok (.ireturn, 1) := by decide +kernel
set_option maxRecDepth 20000 in
theorem ggX6_isBlock_X6_in : GoodIn wsX6_isBlock wsX6_in := goodIn_r _ [4] (by decide +kernel) (by decide +kernel)
set_option maxRecDepth 20000 in
theorem gX6_isBlock_X6_in : GoodIn wsX6_isBlock (va_wsS RX6 78 yX6_in wsX6_in) := goodIn_app (goodIn_of _ (by decide +kernel)) ggX6_isBlock_X6_in
theorem dX6_isBlock_0 : decode cX6_isBlock 0 = .ok (.iload_n 0, 1) := by decide +kernel
theorem dX6_isBlock_1 : decode cX6_isBlock 1 = .ok (.iconst 0, 1) := by decide +kernel
theorem dX6_isBlock_2 : decode cX6_isBlock 2 = .ok (.bipush 7, 2) := by decide +kernel
theorem dX6_isBlock_4 : decode cX6_isBlock 4 = .ok (.invokestatic 78, 3) := by decide +kernel
theorem dX6_isBlock_7 : decode cX6_isBlock 7 = .ok (.ireturn, 1) := by decide +kernel
theorem dX6_standsOn_0 : decode cX6_standsOn 0 = .ok (.iconst 0, 1) := by decide +kernel
theorem dX6_standsOn_1 : decode cX6_standsOn 1 = .ok (.istore_n 2, 1) := by decide +kernel
theorem dX6_standsOn_2 : decode cX6_standsOn 2 = .ok (.iload_n 2, 1) := by decide +kernel
theorem dX6_standsOn_3 : decode cX6_standsOn 3 = .ok (.aload_n 0, 1) := by decide +kernel
theorem dX6_standsOn_4 : decode cX6_standsOn 4 = .ok (.getfield 75, 3) := by decide +kernel
theorem dX6_standsOn_7 : decode cX6_standsOn 7 = .ok (.if_icmp .ge 21, 3) := by decide +kernel
theorem dX6_standsOn_10 : decode cX6_standsOn 10 = .ok (.aload_n 0, 1) := by decide +kernel
theorem dX6_standsOn_11 : decode cX6_standsOn 11 = .ok (.getfield 7, 3) := by decide +kernel
theorem dX6_standsOn_14 : decode cX6_standsOn 14 = .ok (.iload_n 2, 1) := by decide +kernel
theorem dX6_standsOn_15 : decode cX6_standsOn 15 = .ok (.iaload, 1) := by decide +kernel
theorem dX6_standsOn_16 : decode cX6_standsOn 16 = .ok (.iload_n 1, 1) := by decide +kernel
theorem dX6_standsOn_17 : decode cX6_standsOn 17 = .ok (.if_icmp .ne 5, 3) := by decide +kernel
theorem dX6_standsOn_20 : decode cX6_standsOn 20 = .ok (.iload_n 2, 1) := by decide +kernel
theorem dX6_standsOn_21 : decode cX6_standsOn 21 = .ok (.ireturn, 1) := by decide +kernel
theorem dX6_standsOn_22 : decode cX6_standsOn 22 = .ok (.iinc 2 1, 3) := by decide +kernel
theorem dX6_standsOn_25 : decode cX6_standsOn 25 = .ok (.goto (-23), 3) := by decide +kernel
theorem dX6_standsOn_28 : decode cX6_standsOn 28 = .ok (.iconst (-1), 1) := by decide +kernel
theorem dX6_standsOn_29 : decode cX6_standsOn 29 = .ok (.ireturn, 1) := by decide +kernel
set_option maxRecDepth 20000 in
theorem ggX6_addTrain_X6_isBlock : GoodIn wsX6_addTrain wsX6_isBlock := goodIn_r _ [7, 8, 9, 6, 10] (by decide +kernel) (by decide +kernel)
set_option maxRecDepth 20000 in
theorem gX6_addTrain_X6_isBlock : GoodIn wsX6_addTrain (va_wsS RX6 82 yX6_isBlock wsX6_isBlock) := goodIn_app (goodIn_of _ (by decide +kernel)) ggX6_addTrain_X6_isBlock
set_option maxRecDepth 20000 in
theorem ggX6_addTrain_X6_standsOn : GoodIn wsX6_addTrain wsX6_standsOn := goodIn_r _ [14, 1, 2, 20, 21, 22, 23, 24, 25, 26, 27, 28, 29, 30, 31, 32, 33, 34, 35, 36, 37, 38, 39, 40, 41, 42, 43, 44, 45] (by decide +kernel) (by decide +kernel)
set_option maxRecDepth 20000 in
theorem gX6_addTrain_X6_standsOn : GoodIn wsX6_addTrain (wsV RX6 86 RX6 yX6_standsOn wsX6_standsOn) := goodIn_app (goodIn_of _ (by decide +kernel)) ggX6_addTrain_X6_standsOn
set_option maxRecDepth 20000 in
theorem ggX6_addTrain_X6_holds : GoodIn wsX6_addTrain wsX6_holds := goodIn_r _ [18, 19, 20, 21, 22, 23, 24, 25, 26, 27, 28, 29, 30, 31, 32, 33, 34, 35, 36, 37, 38, 39, 40, 41, 42, 43, 44, 45] (by decide +kernel) (by decide +kernel)
set_option maxRecDepth 20000 in
theorem gX6_addTrain_X6_holds : GoodIn wsX6_addTrain (wsV RX6 90 RX6 yX6_holds wsX6_holds) := goodIn_app (goodIn_of _ (by decide +kernel)) ggX6_addTrain_X6_holds
theorem dX6_addTrain_0 : decode cX6_addTrain 0 = .ok (.aload_n 0, 1) := by decide +kernel
theorem dX6_addTrain_1 : decode cX6_addTrain 1 = .ok (.iload_n 1, 1) := by decide +kernel
theorem dX6_addTrain_2 : decode cX6_addTrain 2 = .ok (.invokestatic 82, 3) := by decide +kernel
theorem dX6_addTrain_5 : decode cX6_addTrain 5 = .ok (.ifCond .ne 7, 3) := by decide +kernel
theorem dX6_addTrain_8 : decode cX6_addTrain 8 = .ok (.iconst 1, 1) := by decide +kernel
theorem dX6_addTrain_9 : decode cX6_addTrain 9 = .ok (.goto 25, 3) := by decide +kernel
theorem dX6_addTrain_12 : decode cX6_addTrain 12 = .ok (.aload_n 0, 1) := by decide +kernel
theorem dX6_addTrain_13 : decode cX6_addTrain 13 = .ok (.getfield 75, 3) := by decide +kernel
theorem dX6_addTrain_16 : decode cX6_addTrain 16 = .ok (.iconst 4, 1) := by decide +kernel
theorem dX6_addTrain_17 : decode cX6_addTrain 17 = .ok (.if_icmp .eq 12, 3) := by decide +kernel
theorem dX6_addTrain_20 : decode cX6_addTrain 20 = .ok (.aload_n 0, 1) := by decide +kernel
theorem dX6_addTrain_21 : decode cX6_addTrain 21 = .ok (.iload_n 1, 1) := by decide +kernel
theorem dX6_addTrain_22 : decode cX6_addTrain 22 = .ok (.invokevirtual 86, 3) := by decide +kernel
theorem dX6_addTrain_25 : decode cX6_addTrain 25 = .ok (.iconst (-1), 1) := by decide +kernel
theorem dX6_addTrain_26 : decode cX6_addTrain 26 = .ok (.if_icmp .eq 7, 3) := by decide +kernel
theorem dX6_addTrain_29 : decode cX6_addTrain 29 = .ok (.iconst 2, 1) := by decide +kernel
theorem dX6_addTrain_30 : decode cX6_addTrain 30 = .ok (.goto 4, 3) := by decide +kernel
theorem dX6_addTrain_33 : decode cX6_addTrain 33 = .ok (.iconst 0, 1) := by decide +kernel
theorem dX6_addTrain_34 : decode cX6_addTrain 34 = .ok (.invokevirtual 90, 3) := by decide +kernel
theorem dX6_addTrain_37 : decode cX6_addTrain 37 = .ok (.ifCond .ne 5, 3) := by decide +kernel
theorem dX6_addTrain_40 : decode cX6_addTrain 40 = .ok (.iconst 0, 1) := by decide +kernel
theorem dX6_addTrain_41 : decode cX6_addTrain 41 = .ok (.ireturn, 1) := by decide +kernel
theorem dX6_addTrain_42 : decode cX6_addTrain 42 = .ok (.aload_n 0, 1) := by decide +kernel
theorem dX6_addTrain_43 : decode cX6_addTrain 43 = .ok (.getfield 7, 3) := by decide +kernel
theorem dX6_addTrain_46 : decode cX6_addTrain 46 = .ok (.aload_n 0, 1) := by decide +kernel
theorem dX6_addTrain_47 : decode cX6_addTrain 47 = .ok (.getfield 75, 3) := by decide +kernel
theorem dX6_addTrain_50 : decode cX6_addTrain 50 = .ok (.iload_n 1, 1) := by decide +kernel
theorem dX6_addTrain_51 : decode cX6_addTrain 51 = .ok (.iastore, 1) := by decide +kernel
theorem dX6_addTrain_52 : decode cX6_addTrain 52 = .ok (.aload_n 0, 1) := by decide +kernel
theorem dX6_addTrain_53 : decode cX6_addTrain 53 = .ok (.getfield 13, 3) := by decide +kernel
theorem dX6_addTrain_56 : decode cX6_addTrain 56 = .ok (.aload_n 0, 1) := by decide +kernel
theorem dX6_addTrain_57 : decode cX6_addTrain 57 = .ok (.getfield 75, 3) := by decide +kernel
theorem dX6_addTrain_60 : decode cX6_addTrain 60 = .ok (.iload_n 2, 1) := by decide +kernel
theorem dX6_addTrain_61 : decode cX6_addTrain 61 = .ok (.bastore, 1) := by decide +kernel
theorem dX6_addTrain_62 : decode cX6_addTrain 62 = .ok (.aload_n 0, 1) := by decide +kernel
theorem dX6_addTrain_63 : decode cX6_addTrain 63 = .ok (.dup, 1) := by decide +kernel
theorem dX6_addTrain_64 : decode cX6_addTrain 64 = .ok (.getfield 75, 3) := by decide +kernel
theorem dX6_addTrain_67 : decode cX6_addTrain 67 = .ok (.iconst 1, 1) := by decide +kernel
theorem dX6_addTrain_68 : decode cX6_addTrain 68 = .ok (.iadd, 1) := by decide +kernel
theorem dX6_addTrain_69 : decode cX6_addTrain 69 = .ok (.putfield 75, 3) := by decide +kernel
theorem dX6_addTrain_72 : decode cX6_addTrain 72 = .ok (.aload_n 0, 1) := by decide +kernel
theorem dX6_addTrain_73 : decode cX6_addTrain 73 = .ok (.getfield 75, 3) := by decide +kernel
theorem dX6_addTrain_76 : decode cX6_addTrain 76 = .ok (.iconst 1, 1) := by decide +kernel
theorem dX6_addTrain_77 : decode cX6_addTrain 77 = .ok (.isub, 1) := by decide +kernel
theorem dX6_addTrain_78 : decode cX6_addTrain 78 = .ok (.ireturn, 1) := by decide +kernel
set_option maxRecDepth 20000 in
theorem ggX6_hold_X6_isTrain : GoodIn wsX6_hold wsX6_isTrain := goodIn_r _ [6, 7, 8, 9, 5, 10, 16, 17, 18, 19, 20, 21, 22, 23, 24, 25, 26, 27, 28, 29, 30, 31, 32, 33, 34, 35, 36, 37, 38, 39, 40, 41] (by decide +kernel) (by decide +kernel)
set_option maxRecDepth 20000 in
theorem gX6_hold_X6_isTrain : GoodIn wsX6_hold (wsV RX6 93 RX6 yX6_isTrain wsX6_isTrain) := goodIn_app (goodIn_of _ (by decide +kernel)) ggX6_hold_X6_isTrain
set_option maxRecDepth 20000 in
theorem ggX6_hold_X6_holds : GoodIn wsX6_hold wsX6_holds := goodIn_r _ [14, 15, 16, 17, 18, 19, 20, 21, 22, 23, 24, 25, 26, 27, 28, 29, 30, 31, 32, 33, 34, 35, 36, 37, 38, 39, 40, 41] (by decide +kernel) (by decide +kernel)
set_option maxRecDepth 20000 in
theorem gX6_hold_X6_holds : GoodIn wsX6_hold (wsV RX6 90 RX6 yX6_holds wsX6_holds) := goodIn_app (goodIn_of _ (by decide +kernel)) ggX6_hold_X6_holds
theorem dX6_hold_0 : decode cX6_hold 0 = .ok (.aload_n 0, 1) := by decide +kernel
theorem dX6_hold_1 : decode cX6_hold 1 = .ok (.aload_n 0, 1) := by decide +kernel
theorem dX6_hold_2 : decode cX6_hold 2 = .ok (.iload_n 1, 1) := by decide +kernel
theorem dX6_hold_3 : decode cX6_hold 3 = .ok (.invokevirtual 93, 3) := by decide +kernel
theorem dX6_hold_6 : decode cX6_hold 6 = .ok (.ifCond .eq 7, 3) := by decide +kernel
theorem dX6_hold_9 : decode cX6_hold 9 = .ok (.iconst 0, 1) := by decide +kernel
theorem dX6_hold_10 : decode cX6_hold 10 = .ok (.goto 4, 3) := by decide +kernel
theorem dX6_hold_13 : decode cX6_hold 13 = .ok (.iconst 1, 1) := by decide +kernel
theorem dX6_hold_14 : decode cX6_hold 14 = .ok (.invokevirtual 90, 3) := by decide +kernel
theorem dX6_hold_17 : decode cX6_hold 17 = .ok (.ifCond .ne 5, 3) := by decide +kernel
theorem dX6_hold_20 : decode cX6_hold 20 = .ok (.iconst 0, 1) := by decide +kernel
theorem dX6_hold_21 : decode cX6_hold 21 = .ok (.ireturn, 1) := by decide +kernel
theorem dX6_hold_22 : decode cX6_hold 22 = .ok (.aload_n 0, 1) := by decide +kernel
theorem dX6_hold_23 : decode cX6_hold 23 = .ok (.getfield 17, 3) := by decide +kernel
theorem dX6_hold_26 : decode cX6_hold 26 = .ok (.iload_n 1, 1) := by decide +kernel
theorem dX6_hold_27 : decode cX6_hold 27 = .ok (.baload, 1) := by decide +kernel
theorem dX6_hold_28 : decode cX6_hold 28 = .ok (.istore_n 3, 1) := by decide +kernel
theorem dX6_hold_29 : decode cX6_hold 29 = .ok (.aload_n 0, 1) := by decide +kernel
theorem dX6_hold_30 : decode cX6_hold 30 = .ok (.getfield 17, 3) := by decide +kernel
theorem dX6_hold_33 : decode cX6_hold 33 = .ok (.iload_n 1, 1) := by decide +kernel
theorem dX6_hold_34 : decode cX6_hold 34 = .ok (.iload_n 2, 1) := by decide +kernel
theorem dX6_hold_35 : decode cX6_hold 35 = .ok (.bastore, 1) := by decide +kernel
theorem dX6_hold_36 : decode cX6_hold 36 = .ok (.iload_n 3, 1) := by decide +kernel
theorem dX6_hold_37 : decode cX6_hold 37 = .ok (.iload_n 2, 1) := by decide +kernel
theorem dX6_hold_38 : decode cX6_hold 38 = .ok (.if_icmp .eq 7, 3) := by decide +kernel
theorem dX6_hold_41 : decode cX6_hold 41 = .ok (.iconst 1, 1) := by decide +kernel
theorem dX6_hold_42 : decode cX6_hold 42 = .ok (.goto 4, 3) := by decide +kernel
theorem dX6_hold_45 : decode cX6_hold 45 = .ok (.iconst 0, 1) := by decide +kernel
theorem dX6_hold_46 : decode cX6_hold 46 = .ok (.ireturn, 1) := by decide +kernel
set_option maxRecDepth 20000 in
theorem ggX6_delay_X6_isTrain : GoodIn wsX6_delay wsX6_isTrain := goodIn_r _ [6, 7, 8, 9, 5, 10, 16, 17, 18, 19, 20, 21, 22, 23, 24, 25, 26, 27, 28, 29, 30, 31, 32, 33, 34, 35, 36, 37, 38, 39, 40, 41] (by decide +kernel) (by decide +kernel)
set_option maxRecDepth 20000 in
theorem gX6_delay_X6_isTrain : GoodIn wsX6_delay (wsV RX6 93 RX6 yX6_isTrain wsX6_isTrain) := goodIn_app (goodIn_of _ (by decide +kernel)) ggX6_delay_X6_isTrain
set_option maxRecDepth 20000 in
theorem ggX6_delay_X6_in : GoodIn wsX6_delay wsX6_in := goodIn_r _ [10] (by decide +kernel) (by decide +kernel)
set_option maxRecDepth 20000 in
theorem gX6_delay_X6_in : GoodIn wsX6_delay (va_wsS RX6 78 yX6_in wsX6_in) := goodIn_app (goodIn_of _ (by decide +kernel)) ggX6_delay_X6_in
set_option maxRecDepth 20000 in
theorem ggX6_delay_X6_holds : GoodIn wsX6_delay wsX6_holds := goodIn_r _ [14, 15, 16, 17, 18, 19, 20, 21, 22, 23, 24, 25, 26, 27, 28, 29, 30, 31, 32, 33, 34, 35, 36, 37, 38, 39, 40, 41] (by decide +kernel) (by decide +kernel)
set_option maxRecDepth 20000 in
theorem gX6_delay_X6_holds : GoodIn wsX6_delay (wsV RX6 90 RX6 yX6_holds wsX6_holds) := goodIn_app (goodIn_of _ (by decide +kernel)) ggX6_delay_X6_holds
theorem dX6_delay_0 : decode cX6_delay 0 = .ok (.aload_n 0, 1) := by decide +kernel
theorem dX6_delay_1 : decode cX6_delay 1 = .ok (.aload_n 0, 1) := by decide +kernel
theorem dX6_delay_2 : decode cX6_delay 2 = .ok (.iload_n 1, 1) := by decide +kernel
theorem dX6_delay_3 : decode cX6_delay 3 = .ok (.invokevirtual 93, 3) := by decide +kernel
theorem dX6_delay_6 : decode cX6_delay 6 = .ok (.ifCond .ne 7, 3) := by decide +kernel
theorem dX6_delay_9 : decode cX6_delay 9 = .ok (.iconst 1, 1) := by decide +kernel
theorem dX6_delay_10 : decode cX6_delay 10 = .ok (.goto 32, 3) := by decide +kernel
theorem dX6_delay_13 : decode cX6_delay 13 = .ok (.iload_n 2, 1) := by decide +kernel
theorem dX6_delay_14 : decode cX6_delay 14 = .ok (.iconst 1, 1) := by decide +kernel
theorem dX6_delay_15 : decode cX6_delay 15 = .ok (.bipush 100, 2) := by decide +kernel
theorem dX6_delay_17 : decode cX6_delay 17 = .ok (.invokestatic 78, 3) := by decide +kernel
theorem dX6_delay_20 : decode cX6_delay 20 = .ok (.ifCond .eq 17, 3) := by decide +kernel
theorem dX6_delay_23 : decode cX6_delay 23 = .ok (.aload_n 0, 1) := by decide +kernel
theorem dX6_delay_24 : decode cX6_delay 24 = .ok (.getfield 20, 3) := by decide +kernel
theorem dX6_delay_27 : decode cX6_delay 27 = .ok (.iload_n 1, 1) := by decide +kernel
theorem dX6_delay_28 : decode cX6_delay 28 = .ok (.iaload, 1) := by decide +kernel
theorem dX6_delay_29 : decode cX6_delay 29 = .ok (.iload_n 2, 1) := by decide +kernel
theorem dX6_delay_30 : decode cX6_delay 30 = .ok (.iadd, 1) := by decide +kernel
theorem dX6_delay_31 : decode cX6_delay 31 = .ok (.sipush 1000, 3) := by decide +kernel
theorem dX6_delay_34 : decode cX6_delay 34 = .ok (.if_icmp .le 7, 3) := by decide +kernel
theorem dX6_delay_37 : decode cX6_delay 37 = .ok (.iconst 2, 1) := by decide +kernel
theorem dX6_delay_38 : decode cX6_delay 38 = .ok (.goto 4, 3) := by decide +kernel
theorem dX6_delay_41 : decode cX6_delay 41 = .ok (.iconst 0, 1) := by decide +kernel
theorem dX6_delay_42 : decode cX6_delay 42 = .ok (.invokevirtual 90, 3) := by decide +kernel
theorem dX6_delay_45 : decode cX6_delay 45 = .ok (.ifCond .ne 5, 3) := by decide +kernel
theorem dX6_delay_48 : decode cX6_delay 48 = .ok (.iconst 0, 1) := by decide +kernel
theorem dX6_delay_49 : decode cX6_delay 49 = .ok (.ireturn, 1) := by decide +kernel
theorem dX6_delay_50 : decode cX6_delay 50 = .ok (.aload_n 0, 1) := by decide +kernel
theorem dX6_delay_51 : decode cX6_delay 51 = .ok (.getfield 20, 3) := by decide +kernel
theorem dX6_delay_54 : decode cX6_delay 54 = .ok (.iload_n 1, 1) := by decide +kernel
theorem dX6_delay_55 : decode cX6_delay 55 = .ok (.dup2, 1) := by decide +kernel
theorem dX6_delay_56 : decode cX6_delay 56 = .ok (.iaload, 1) := by decide +kernel
theorem dX6_delay_57 : decode cX6_delay 57 = .ok (.iload_n 2, 1) := by decide +kernel
theorem dX6_delay_58 : decode cX6_delay 58 = .ok (.iadd, 1) := by decide +kernel
theorem dX6_delay_59 : decode cX6_delay 59 = .ok (.iastore, 1) := by decide +kernel
theorem dX6_delay_60 : decode cX6_delay 60 = .ok (.aload_n 0, 1) := by decide +kernel
theorem dX6_delay_61 : decode cX6_delay 61 = .ok (.getfield 20, 3) := by decide +kernel
theorem dX6_delay_64 : decode cX6_delay 64 = .ok (.iload_n 1, 1) := by decide +kernel
theorem dX6_delay_65 : decode cX6_delay 65 = .ok (.iaload, 1) := by decide +kernel
theorem dX6_delay_66 : decode cX6_delay 66 = .ok (.ireturn, 1) := by decide +kernel
set_option maxRecDepth 20000 in
theorem ggX6_reverse_X6_isTrain : GoodIn wsX6_reverse wsX6_isTrain := goodIn_r _ [6, 7, 8, 9, 5, 10, 16, 17, 18, 19, 20, 21, 22, 23, 24, 25, 26, 27, 28, 29, 30, 31, 32, 33, 34, 35, 36, 37, 38, 39, 40, 41] (by decide +kernel) (by decide +kernel)
set_option maxRecDepth 20000 in
theorem gX6_reverse_X6_isTrain : GoodIn wsX6_reverse (wsV RX6 93 RX6 yX6_isTrain wsX6_isTrain) := goodIn_app (goodIn_of _ (by decide +kernel)) ggX6_reverse_X6_isTrain
set_option maxRecDepth 20000 in
theorem ggX6_reverse_X6_holds : GoodIn wsX6_reverse wsX6_holds := goodIn_r _ [14, 15, 16, 17, 18, 19, 20, 21, 22, 23, 24, 25, 26, 27, 28, 29, 30, 31, 32, 33, 34, 35, 36, 37, 38, 39, 40, 41] (by decide +kernel) (by decide +kernel)
set_option maxRecDepth 20000 in
theorem gX6_reverse_X6_holds : GoodIn wsX6_reverse (wsV RX6 90 RX6 yX6_holds wsX6_holds) := goodIn_app (goodIn_of _ (by decide +kernel)) ggX6_reverse_X6_holds
theorem dX6_reverse_0 : decode cX6_reverse 0 = .ok (.aload_n 0, 1) := by decide +kernel
theorem dX6_reverse_1 : decode cX6_reverse 1 = .ok (.aload_n 0, 1) := by decide +kernel
theorem dX6_reverse_2 : decode cX6_reverse 2 = .ok (.iload_n 1, 1) := by decide +kernel
theorem dX6_reverse_3 : decode cX6_reverse 3 = .ok (.invokevirtual 93, 3) := by decide +kernel
theorem dX6_reverse_6 : decode cX6_reverse 6 = .ok (.ifCond .eq 7, 3) := by decide +kernel
theorem dX6_reverse_9 : decode cX6_reverse 9 = .ok (.iconst 0, 1) := by decide +kernel
theorem dX6_reverse_10 : decode cX6_reverse 10 = .ok (.goto 4, 3) := by decide +kernel
theorem dX6_reverse_13 : decode cX6_reverse 13 = .ok (.iconst 1, 1) := by decide +kernel
theorem dX6_reverse_14 : decode cX6_reverse 14 = .ok (.invokevirtual 90, 3) := by decide +kernel
theorem dX6_reverse_17 : decode cX6_reverse 17 = .ok (.ifCond .ne 5, 3) := by decide +kernel
theorem dX6_reverse_20 : decode cX6_reverse 20 = .ok (.iconst 0, 1) := by decide +kernel
theorem dX6_reverse_21 : decode cX6_reverse 21 = .ok (.ireturn, 1) := by decide +kernel
theorem dX6_reverse_22 : decode cX6_reverse 22 = .ok (.aload_n 0, 1) := by decide +kernel
theorem dX6_reverse_23 : decode cX6_reverse 23 = .ok (.getfield 13, 3) := by decide +kernel
theorem dX6_reverse_26 : decode cX6_reverse 26 = .ok (.iload_n 1, 1) := by decide +kernel
theorem dX6_reverse_27 : decode cX6_reverse 27 = .ok (.aload_n 0, 1) := by decide +kernel
theorem dX6_reverse_28 : decode cX6_reverse 28 = .ok (.getfield 13, 3) := by decide +kernel
theorem dX6_reverse_31 : decode cX6_reverse 31 = .ok (.iload_n 1, 1) := by decide +kernel
theorem dX6_reverse_32 : decode cX6_reverse 32 = .ok (.baload, 1) := by decide +kernel
theorem dX6_reverse_33 : decode cX6_reverse 33 = .ok (.ifCond .ne 7, 3) := by decide +kernel
theorem dX6_reverse_36 : decode cX6_reverse 36 = .ok (.iconst 1, 1) := by decide +kernel
theorem dX6_reverse_37 : decode cX6_reverse 37 = .ok (.goto 4, 3) := by decide +kernel
theorem dX6_reverse_40 : decode cX6_reverse 40 = .ok (.iconst 0, 1) := by decide +kernel
theorem dX6_reverse_41 : decode cX6_reverse 41 = .ok (.bastore, 1) := by decide +kernel
theorem dX6_reverse_42 : decode cX6_reverse 42 = .ok (.aload_n 0, 1) := by decide +kernel
theorem dX6_reverse_43 : decode cX6_reverse 43 = .ok (.getfield 13, 3) := by decide +kernel
theorem dX6_reverse_46 : decode cX6_reverse 46 = .ok (.iload_n 1, 1) := by decide +kernel
theorem dX6_reverse_47 : decode cX6_reverse 47 = .ok (.baload, 1) := by decide +kernel
theorem dX6_reverse_48 : decode cX6_reverse 48 = .ok (.ireturn, 1) := by decide +kernel
set_option maxRecDepth 20000 in
theorem ggX6_throwSwitch_X6_in : GoodIn wsX6_throwSwitch wsX6_in := goodIn_r _ [5] (by decide +kernel) (by decide +kernel)
set_option maxRecDepth 20000 in
theorem gX6_throwSwitch_X6_in : GoodIn wsX6_throwSwitch (va_wsS RX6 78 yX6_in wsX6_in) := goodIn_app (goodIn_of _ (by decide +kernel)) ggX6_throwSwitch_X6_in
set_option maxRecDepth 20000 in
theorem ggX6_throwSwitch_X6_holds : GoodIn wsX6_throwSwitch wsX6_holds := goodIn_r _ [9, 10, 11, 12, 13, 14, 15, 16, 17, 18, 19, 20, 21, 22, 23, 24, 25, 26, 27, 28, 29, 30, 31, 32, 33, 34, 35, 36] (by decide +kernel) (by decide +kernel)
set_option maxRecDepth 20000 in
theorem gX6_throwSwitch_X6_holds : GoodIn wsX6_throwSwitch (wsV RX6 90 RX6 yX6_holds wsX6_holds) := goodIn_app (goodIn_of _ (by decide +kernel)) ggX6_throwSwitch_X6_holds
theorem dX6_throwSwitch_0 : decode cX6_throwSwitch 0 = .ok (.aload_n 0, 1) := by decide +kernel
theorem dX6_throwSwitch_1 : decode cX6_throwSwitch 1 = .ok (.iload_n 1, 1) := by decide +kernel
theorem dX6_throwSwitch_2 : decode cX6_throwSwitch 2 = .ok (.iconst 0, 1) := by decide +kernel
theorem dX6_throwSwitch_3 : decode cX6_throwSwitch 3 = .ok (.iconst 1, 1) := by decide +kernel
theorem dX6_throwSwitch_4 : decode cX6_throwSwitch 4 = .ok (.invokestatic 78, 3) := by decide +kernel
theorem dX6_throwSwitch_7 : decode cX6_throwSwitch 7 = .ok (.ifCond .eq 7, 3) := by decide +kernel
theorem dX6_throwSwitch_10 : decode cX6_throwSwitch 10 = .ok (.iconst 0, 1) := by decide +kernel
theorem dX6_throwSwitch_11 : decode cX6_throwSwitch 11 = .ok (.goto 4, 3) := by decide +kernel
theorem dX6_throwSwitch_14 : decode cX6_throwSwitch 14 = .ok (.iconst 1, 1) := by decide +kernel
theorem dX6_throwSwitch_15 : decode cX6_throwSwitch 15 = .ok (.invokevirtual 90, 3) := by decide +kernel
theorem dX6_throwSwitch_18 : decode cX6_throwSwitch 18 = .ok (.ifCond .ne 5, 3) := by decide +kernel
theorem dX6_throwSwitch_21 : decode cX6_throwSwitch 21 = .ok (.iconst 0, 1) := by decide +kernel
theorem dX6_throwSwitch_22 : decode cX6_throwSwitch 22 = .ok (.ireturn, 1) := by decide +kernel
theorem dX6_throwSwitch_23 : decode cX6_throwSwitch 23 = .ok (.aload_n 0, 1) := by decide +kernel
theorem dX6_throwSwitch_24 : decode cX6_throwSwitch 24 = .ok (.getfield 23, 3) := by decide +kernel
theorem dX6_throwSwitch_27 : decode cX6_throwSwitch 27 = .ok (.iload_n 1, 1) := by decide +kernel
theorem dX6_throwSwitch_28 : decode cX6_throwSwitch 28 = .ok (.aload_n 0, 1) := by decide +kernel
theorem dX6_throwSwitch_29 : decode cX6_throwSwitch 29 = .ok (.getfield 23, 3) := by decide +kernel
theorem dX6_throwSwitch_32 : decode cX6_throwSwitch 32 = .ok (.iload_n 1, 1) := by decide +kernel
theorem dX6_throwSwitch_33 : decode cX6_throwSwitch 33 = .ok (.baload, 1) := by decide +kernel
theorem dX6_throwSwitch_34 : decode cX6_throwSwitch 34 = .ok (.ifCond .ne 7, 3) := by decide +kernel
theorem dX6_throwSwitch_37 : decode cX6_throwSwitch 37 = .ok (.iconst 1, 1) := by decide +kernel
theorem dX6_throwSwitch_38 : decode cX6_throwSwitch 38 = .ok (.goto 4, 3) := by decide +kernel
theorem dX6_throwSwitch_41 : decode cX6_throwSwitch 41 = .ok (.iconst 0, 1) := by decide +kernel
theorem dX6_throwSwitch_42 : decode cX6_throwSwitch 42 = .ok (.bastore, 1) := by decide +kernel
theorem dX6_throwSwitch_43 : decode cX6_throwSwitch 43 = .ok (.aload_n 0, 1) := by decide +kernel
theorem dX6_throwSwitch_44 : decode cX6_throwSwitch 44 = .ok (.getfield 23, 3) := by decide +kernel
theorem dX6_throwSwitch_47 : decode cX6_throwSwitch 47 = .ok (.iload_n 1, 1) := by decide +kernel
theorem dX6_throwSwitch_48 : decode cX6_throwSwitch 48 = .ok (.baload, 1) := by decide +kernel
theorem dX6_throwSwitch_49 : decode cX6_throwSwitch 49 = .ok (.ireturn, 1) := by decide +kernel
set_option maxRecDepth 20000 in
theorem ggX6_block_X6_isTrain : GoodIn wsX6_block wsX6_isTrain := goodIn_r _ [6, 7, 8, 9, 5, 10, 16, 17, 18, 19, 20, 21, 22, 23, 24, 25, 26, 27, 28, 29, 30, 31, 32, 33, 34, 35, 36, 37, 38, 39, 40, 41] (by decide +kernel) (by decide +kernel)
set_option maxRecDepth 20000 in
theorem gX6_block_X6_isTrain : GoodIn wsX6_block (wsV RX6 93 RX6 yX6_isTrain wsX6_isTrain) := goodIn_app (goodIn_of _ (by decide +kernel)) ggX6_block_X6_isTrain
set_option maxRecDepth 20000 in
theorem ggX6_block_X6_holds : GoodIn wsX6_block wsX6_holds := goodIn_r _ [14, 15, 16, 17, 18, 19, 20, 21, 22, 23, 24, 25, 26, 27, 28, 29, 30, 31, 32, 33, 34, 35, 36, 37, 38, 39, 40, 41] (by decide +kernel) (by decide +kernel)
set_option maxRecDepth 20000 in
theorem gX6_block_X6_holds : GoodIn wsX6_block (wsV RX6 90 RX6 yX6_holds wsX6_holds) := goodIn_app (goodIn_of _ (by decide +kernel)) ggX6_block_X6_holds
theorem dX6_block_0 : decode cX6_block 0 = .ok (.aload_n 0, 1) := by decide +kernel
theorem dX6_block_1 : decode cX6_block 1 = .ok (.aload_n 0, 1) := by decide +kernel
theorem dX6_block_2 : decode cX6_block 2 = .ok (.iload_n 1, 1) := by decide +kernel
theorem dX6_block_3 : decode cX6_block 3 = .ok (.invokevirtual 93, 3) := by decide +kernel
theorem dX6_block_6 : decode cX6_block 6 = .ok (.ifCond .eq 7, 3) := by decide +kernel
theorem dX6_block_9 : decode cX6_block 9 = .ok (.iconst 0, 1) := by decide +kernel
theorem dX6_block_10 : decode cX6_block 10 = .ok (.goto 4, 3) := by decide +kernel
theorem dX6_block_13 : decode cX6_block 13 = .ok (.iconst 1, 1) := by decide +kernel
theorem dX6_block_14 : decode cX6_block 14 = .ok (.invokevirtual 90, 3) := by decide +kernel
theorem dX6_block_17 : decode cX6_block 17 = .ok (.ifCond .eq 12, 3) := by decide +kernel
theorem dX6_block_20 : decode cX6_block 20 = .ok (.aload_n 0, 1) := by decide +kernel
theorem dX6_block_21 : decode cX6_block 21 = .ok (.getfield 7, 3) := by decide +kernel
theorem dX6_block_24 : decode cX6_block 24 = .ok (.iload_n 1, 1) := by decide +kernel
theorem dX6_block_25 : decode cX6_block 25 = .ok (.iaload, 1) := by decide +kernel
theorem dX6_block_26 : decode cX6_block 26 = .ok (.goto 4, 3) := by decide +kernel
theorem dX6_block_29 : decode cX6_block 29 = .ok (.iconst 0, 1) := by decide +kernel
theorem dX6_block_30 : decode cX6_block 30 = .ok (.ireturn, 1) := by decide +kernel
set_option maxRecDepth 20000 in
theorem ggX6_isRight_X6_isTrain : GoodIn wsX6_isRight wsX6_isTrain := goodIn_r _ [6, 7, 8, 9, 5, 10, 16, 17, 18, 19, 20, 21, 22, 23, 24, 25, 26, 27, 28, 29, 30, 31, 32, 33, 34, 35, 36, 37, 38, 39, 40, 41] (by decide +kernel) (by decide +kernel)
set_option maxRecDepth 20000 in
theorem gX6_isRight_X6_isTrain : GoodIn wsX6_isRight (wsV RX6 93 RX6 yX6_isTrain wsX6_isTrain) := goodIn_app (goodIn_of _ (by decide +kernel)) ggX6_isRight_X6_isTrain
set_option maxRecDepth 20000 in
theorem ggX6_isRight_X6_holds : GoodIn wsX6_isRight wsX6_holds := goodIn_r _ [14, 15, 16, 17, 18, 19, 20, 21, 22, 23, 24, 25, 26, 27, 28, 29, 30, 31, 32, 33, 34, 35, 36, 37, 38, 39, 40, 41] (by decide +kernel) (by decide +kernel)
set_option maxRecDepth 20000 in
theorem gX6_isRight_X6_holds : GoodIn wsX6_isRight (wsV RX6 90 RX6 yX6_holds wsX6_holds) := goodIn_app (goodIn_of _ (by decide +kernel)) ggX6_isRight_X6_holds
theorem dX6_isRight_0 : decode cX6_isRight 0 = .ok (.aload_n 0, 1) := by decide +kernel
theorem dX6_isRight_1 : decode cX6_isRight 1 = .ok (.aload_n 0, 1) := by decide +kernel
theorem dX6_isRight_2 : decode cX6_isRight 2 = .ok (.iload_n 1, 1) := by decide +kernel
theorem dX6_isRight_3 : decode cX6_isRight 3 = .ok (.invokevirtual 93, 3) := by decide +kernel
theorem dX6_isRight_6 : decode cX6_isRight 6 = .ok (.ifCond .eq 7, 3) := by decide +kernel
theorem dX6_isRight_9 : decode cX6_isRight 9 = .ok (.iconst 0, 1) := by decide +kernel
theorem dX6_isRight_10 : decode cX6_isRight 10 = .ok (.goto 4, 3) := by decide +kernel
theorem dX6_isRight_13 : decode cX6_isRight 13 = .ok (.iconst 1, 1) := by decide +kernel
theorem dX6_isRight_14 : decode cX6_isRight 14 = .ok (.invokevirtual 90, 3) := by decide +kernel
theorem dX6_isRight_17 : decode cX6_isRight 17 = .ok (.ifCond .eq 16, 3) := by decide +kernel
theorem dX6_isRight_20 : decode cX6_isRight 20 = .ok (.aload_n 0, 1) := by decide +kernel
theorem dX6_isRight_21 : decode cX6_isRight 21 = .ok (.getfield 13, 3) := by decide +kernel
theorem dX6_isRight_24 : decode cX6_isRight 24 = .ok (.iload_n 1, 1) := by decide +kernel
theorem dX6_isRight_25 : decode cX6_isRight 25 = .ok (.baload, 1) := by decide +kernel
theorem dX6_isRight_26 : decode cX6_isRight 26 = .ok (.ifCond .eq 7, 3) := by decide +kernel
theorem dX6_isRight_29 : decode cX6_isRight 29 = .ok (.iconst 1, 1) := by decide +kernel
theorem dX6_isRight_30 : decode cX6_isRight 30 = .ok (.goto 4, 3) := by decide +kernel
theorem dX6_isRight_33 : decode cX6_isRight 33 = .ok (.iconst 0, 1) := by decide +kernel
theorem dX6_isRight_34 : decode cX6_isRight 34 = .ok (.ireturn, 1) := by decide +kernel
set_option maxRecDepth 20000 in
theorem ggX6_trainOn_X6_isBlock : GoodIn wsX6_trainOn wsX6_isBlock := goodIn_r _ [4, 5, 6, 3, 7] (by decide +kernel) (by decide +kernel)
set_option maxRecDepth 20000 in
theorem gX6_trainOn_X6_isBlock : GoodIn wsX6_trainOn (va_wsS RX6 82 yX6_isBlock wsX6_isBlock) := goodIn_app (goodIn_of _ (by decide +kernel)) ggX6_trainOn_X6_isBlock
set_option maxRecDepth 20000 in
theorem ggX6_trainOn_X6_holds : GoodIn wsX6_trainOn wsX6_holds := goodIn_r _ [11, 12, 19, 20, 21, 22, 23, 24, 25, 26, 27, 28, 29, 30, 31, 32, 33, 34, 35, 36, 37, 38, 39, 40, 41, 42, 43, 44] (by decide +kernel) (by decide +kernel)
set_option maxRecDepth 20000 in
theorem gX6_trainOn_X6_holds : GoodIn wsX6_trainOn (wsV RX6 90 RX6 yX6_holds wsX6_holds) := goodIn_app (goodIn_of _ (by decide +kernel)) ggX6_trainOn_X6_holds
set_option maxRecDepth 20000 in
theorem ggX6_trainOn_X6_standsOn : GoodIn wsX6_trainOn wsX6_standsOn := goodIn_r _ [16, 17, 18, 19, 20, 21, 22, 23, 24, 25, 26, 27, 28, 29, 30, 31, 32, 33, 34, 35, 36, 37, 38, 39, 40, 41, 42, 43, 44] (by decide +kernel) (by decide +kernel)
set_option maxRecDepth 20000 in
theorem gX6_trainOn_X6_standsOn : GoodIn wsX6_trainOn (wsV RX6 86 RX6 yX6_standsOn wsX6_standsOn) := goodIn_app (goodIn_of _ (by decide +kernel)) ggX6_trainOn_X6_standsOn
theorem dX6_trainOn_0 : decode cX6_trainOn 0 = .ok (.aload_n 0, 1) := by decide +kernel
theorem dX6_trainOn_1 : decode cX6_trainOn 1 = .ok (.iload_n 1, 1) := by decide +kernel
theorem dX6_trainOn_2 : decode cX6_trainOn 2 = .ok (.invokestatic 82, 3) := by decide +kernel
theorem dX6_trainOn_5 : decode cX6_trainOn 5 = .ok (.ifCond .eq 7, 3) := by decide +kernel
theorem dX6_trainOn_8 : decode cX6_trainOn 8 = .ok (.iconst 0, 1) := by decide +kernel
theorem dX6_trainOn_9 : decode cX6_trainOn 9 = .ok (.goto 4, 3) := by decide +kernel
theorem dX6_trainOn_12 : decode cX6_trainOn 12 = .ok (.iconst 1, 1) := by decide +kernel
theorem dX6_trainOn_13 : decode cX6_trainOn 13 = .ok (.invokevirtual 90, 3) := by decide +kernel
theorem dX6_trainOn_16 : decode cX6_trainOn 16 = .ok (.ifCond .eq 11, 3) := by decide +kernel
theorem dX6_trainOn_19 : decode cX6_trainOn 19 = .ok (.aload_n 0, 1) := by decide +kernel
theorem dX6_trainOn_20 : decode cX6_trainOn 20 = .ok (.iload_n 1, 1) := by decide +kernel
theorem dX6_trainOn_21 : decode cX6_trainOn 21 = .ok (.invokevirtual 86, 3) := by decide +kernel
theorem dX6_trainOn_24 : decode cX6_trainOn 24 = .ok (.goto 4, 3) := by decide +kernel
theorem dX6_trainOn_27 : decode cX6_trainOn 27 = .ok (.iconst 0, 1) := by decide +kernel
theorem dX6_trainOn_28 : decode cX6_trainOn 28 = .ok (.ireturn, 1) := by decide +kernel
theorem dX6_behind_0 : decode cX6_behind 0 = .ok (.iload_n 1, 1) := by decide +kernel
theorem dX6_behind_1 : decode cX6_behind 1 = .ok (.iconst 5, 1) := by decide +kernel
theorem dX6_behind_2 : decode cX6_behind 2 = .ok (.if_icmp .le 36, 3) := by decide +kernel
theorem dX6_behind_5 : decode cX6_behind 5 = .ok (.iload_n 1, 1) := by decide +kernel
theorem dX6_behind_6 : decode cX6_behind 6 = .ok (.bipush 6, 2) := by decide +kernel
theorem dX6_behind_8 : decode cX6_behind 8 = .ok (.isub, 1) := by decide +kernel
theorem dX6_behind_9 : decode cX6_behind 9 = .ok (.istore_n 3, 1) := by decide +kernel
theorem dX6_behind_10 : decode cX6_behind 10 = .ok (.iload_n 2, 1) := by decide +kernel
theorem dX6_behind_11 : decode cX6_behind 11 = .ok (.ifCond .eq 8, 3) := by decide +kernel
theorem dX6_behind_14 : decode cX6_behind 14 = .ok (.bipush (-2), 2) := by decide +kernel
theorem dX6_behind_16 : decode cX6_behind 16 = .ok (.goto 21, 3) := by decide +kernel
theorem dX6_behind_19 : decode cX6_behind 19 = .ok (.aload_n 0, 1) := by decide +kernel
theorem dX6_behind_20 : decode cX6_behind 20 = .ok (.getfield 23, 3) := by decide +kernel
theorem dX6_behind_23 : decode cX6_behind 23 = .ok (.iload_n 3, 1) := by decide +kernel
theorem dX6_behind_24 : decode cX6_behind 24 = .ok (.baload, 1) := by decide +kernel
theorem dX6_behind_25 : decode cX6_behind 25 = .ok (.ifCond .eq 11, 3) := by decide +kernel
theorem dX6_behind_28 : decode cX6_behind 28 = .ok (.iconst 2, 1) := by decide +kernel
theorem dX6_behind_29 : decode cX6_behind 29 = .ok (.iload_n 3, 1) := by decide +kernel
theorem dX6_behind_30 : decode cX6_behind 30 = .ok (.imul, 1) := by decide +kernel
theorem dX6_behind_31 : decode cX6_behind 31 = .ok (.iconst 1, 1) := by decide +kernel
theorem dX6_behind_32 : decode cX6_behind 32 = .ok (.iadd, 1) := by decide +kernel
theorem dX6_behind_33 : decode cX6_behind 33 = .ok (.goto 4, 3) := by decide +kernel
theorem dX6_behind_36 : decode cX6_behind 36 = .ok (.iconst (-1), 1) := by decide +kernel
theorem dX6_behind_37 : decode cX6_behind 37 = .ok (.ireturn, 1) := by decide +kernel
theorem dX6_behind_38 : decode cX6_behind 38 = .ok (.iload_n 2, 1) := by decide +kernel
theorem dX6_behind_39 : decode cX6_behind 39 = .ok (.ifCond .eq 57, 3) := by decide +kernel
theorem dX6_behind_42 : decode cX6_behind 42 = .ok (.iload_n 1, 1) := by decide +kernel
theorem dX6_behind_43 : decode cX6_behind 43 = .ok (.iconst 1, 1) := by decide +kernel
theorem dX6_behind_44 : decode cX6_behind 44 = .ok (.if_icmp .eq 8, 3) := by decide +kernel
theorem dX6_behind_47 : decode cX6_behind 47 = .ok (.iload_n 1, 1) := by decide +kernel
theorem dX6_behind_48 : decode cX6_behind 48 = .ok (.iconst 3, 1) := by decide +kernel
theorem dX6_behind_49 : decode cX6_behind 49 = .ok (.if_icmp .ne 7, 3) := by decide +kernel
theorem dX6_behind_52 : decode cX6_behind 52 = .ok (.iconst 1, 1) := by decide +kernel
theorem dX6_behind_53 : decode cX6_behind 53 = .ok (.goto 4, 3) := by decide +kernel
theorem dX6_behind_56 : decode cX6_behind 56 = .ok (.iconst 0, 1) := by decide +kernel
theorem dX6_behind_57 : decode cX6_behind 57 = .ok (.istore_n 3, 1) := by decide +kernel
theorem dX6_behind_58 : decode cX6_behind 58 = .ok (.iload_n 1, 1) := by decide +kernel
theorem dX6_behind_59 : decode cX6_behind 59 = .ok (.iconst 5, 1) := by decide +kernel
theorem dX6_behind_60 : decode cX6_behind 60 = .ok (.if_icmp .ne 8, 3) := by decide +kernel
theorem dX6_behind_63 : decode cX6_behind 63 = .ok (.bipush (-2), 2) := by decide +kernel
theorem dX6_behind_65 : decode cX6_behind 65 = .ok (.goto 30, 3) := by decide +kernel
theorem dX6_behind_68 : decode cX6_behind 68 = .ok (.iload_n 3, 1) := by decide +kernel
theorem dX6_behind_69 : decode cX6_behind 69 = .ok (.ifCond .eq 23, 3) := by decide +kernel
theorem dX6_behind_72 : decode cX6_behind 72 = .ok (.aload_n 0, 1) := by decide +kernel
theorem dX6_behind_73 : decode cX6_behind 73 = .ok (.getfield 23, 3) := by decide +kernel
theorem dX6_behind_76 : decode cX6_behind 76 = .ok (.iload_n 1, 1) := by decide +kernel
theorem dX6_behind_77 : decode cX6_behind 77 = .ok (.iconst 2, 1) := by decide +kernel
theorem dX6_behind_78 : decode cX6_behind 78 = .ok (.idiv, 1) := by decide +kernel
theorem dX6_behind_79 : decode cX6_behind 79 = .ok (.baload, 1) := by decide +kernel
theorem dX6_behind_80 : decode cX6_behind 80 = .ok (.ifCond .eq 12, 3) := by decide +kernel
theorem dX6_behind_83 : decode cX6_behind 83 = .ok (.bipush 6, 2) := by decide +kernel
theorem dX6_behind_85 : decode cX6_behind 85 = .ok (.iload_n 1, 1) := by decide +kernel
theorem dX6_behind_86 : decode cX6_behind 86 = .ok (.iconst 2, 1) := by decide +kernel
theorem dX6_behind_87 : decode cX6_behind 87 = .ok (.idiv, 1) := by decide +kernel
theorem dX6_behind_88 : decode cX6_behind 88 = .ok (.iadd, 1) := by decide +kernel
theorem dX6_behind_89 : decode cX6_behind 89 = .ok (.goto 6, 3) := by decide +kernel
theorem dX6_behind_92 : decode cX6_behind 92 = .ok (.iload_n 1, 1) := by decide +kernel
theorem dX6_behind_93 : decode cX6_behind 93 = .ok (.iconst 1, 1) := by decide +kernel
theorem dX6_behind_94 : decode cX6_behind 94 = .ok (.iadd, 1) := by decide +kernel
theorem dX6_behind_95 : decode cX6_behind 95 = .ok (.ireturn, 1) := by decide +kernel
theorem dX6_behind_96 : decode cX6_behind 96 = .ok (.iload_n 1, 1) := by decide +kernel
theorem dX6_behind_97 : decode cX6_behind 97 = .ok (.iconst 2, 1) := by decide +kernel
theorem dX6_behind_98 : decode cX6_behind 98 = .ok (.if_icmp .eq 8, 3) := by decide +kernel
theorem dX6_behind_101 : decode cX6_behind 101 = .ok (.iload_n 1, 1) := by decide +kernel
theorem dX6_behind_102 : decode cX6_behind 102 = .ok (.iconst 4, 1) := by decide +kernel
theorem dX6_behind_103 : decode cX6_behind 103 = .ok (.if_icmp .ne 7, 3) := by decide +kernel
theorem dX6_behind_106 : decode cX6_behind 106 = .ok (.iconst 1, 1) := by decide +kernel
theorem dX6_behind_107 : decode cX6_behind 107 = .ok (.goto 4, 3) := by decide +kernel
theorem dX6_behind_110 : decode cX6_behind 110 = .ok (.iconst 0, 1) := by decide +kernel
theorem dX6_behind_111 : decode cX6_behind 111 = .ok (.istore_n 3, 1) := by decide +kernel
theorem dX6_behind_112 : decode cX6_behind 112 = .ok (.iload_n 1, 1) := by decide +kernel
theorem dX6_behind_113 : decode cX6_behind 113 = .ok (.ifCond .ne 8, 3) := by decide +kernel
theorem dX6_behind_116 : decode cX6_behind 116 = .ok (.bipush (-2), 2) := by decide +kernel
theorem dX6_behind_118 : decode cX6_behind 118 = .ok (.goto 27, 3) := by decide +kernel
theorem dX6_behind_121 : decode cX6_behind 121 = .ok (.iload_n 3, 1) := by decide +kernel
theorem dX6_behind_122 : decode cX6_behind 122 = .ok (.ifCond .eq 20, 3) := by decide +kernel
theorem dX6_behind_125 : decode cX6_behind 125 = .ok (.aload_n 0, 1) := by decide +kernel
theorem dX6_behind_126 : decode cX6_behind 126 = .ok (.getfield 23, 3) := by decide +kernel
theorem dX6_behind_129 : decode cX6_behind 129 = .ok (.iload_n 1, 1) := by decide +kernel
theorem dX6_behind_130 : decode cX6_behind 130 = .ok (.iconst 2, 1) := by decide +kernel
theorem dX6_behind_131 : decode cX6_behind 131 = .ok (.idiv, 1) := by decide +kernel
theorem dX6_behind_132 : decode cX6_behind 132 = .ok (.iconst 1, 1) := by decide +kernel
theorem dX6_behind_133 : decode cX6_behind 133 = .ok (.isub, 1) := by decide +kernel
theorem dX6_behind_134 : decode cX6_behind 134 = .ok (.baload, 1) := by decide +kernel
theorem dX6_behind_135 : decode cX6_behind 135 = .ok (.ifCond .eq 7, 3) := by decide +kernel
theorem dX6_behind_138 : decode cX6_behind 138 = .ok (.iconst (-1), 1) := by decide +kernel
theorem dX6_behind_139 : decode cX6_behind 139 = .ok (.goto 6, 3) := by decide +kernel
theorem dX6_behind_142 : decode cX6_behind 142 = .ok (.iload_n 1, 1) := by decide +kernel
theorem dX6_behind_143 : decode cX6_behind 143 = .ok (.iconst 1, 1) := by decide +kernel
theorem dX6_behind_144 : decode cX6_behind 144 = .ok (.isub, 1) := by decide +kernel
theorem dX6_behind_145 : decode cX6_behind 145 = .ok (.ireturn, 1) := by decide +kernel
theorem dX6_meets_0 : decode cX6_meets 0 = .ok (.iconst 0, 1) := by decide +kernel
theorem dX6_meets_1 : decode cX6_meets 1 = .ok (.istore 5, 2) := by decide +kernel
theorem dX6_meets_3 : decode cX6_meets 3 = .ok (.iload 5, 2) := by decide +kernel
theorem dX6_meets_5 : decode cX6_meets 5 = .ok (.aload_n 0, 1) := by decide +kernel
theorem dX6_meets_6 : decode cX6_meets 6 = .ok (.getfield 96, 3) := by decide +kernel
theorem dX6_meets_9 : decode cX6_meets 9 = .ok (.if_icmp .ge 56, 3) := by decide +kernel
theorem dX6_meets_12 : decode cX6_meets 12 = .ok (.aload_n 0, 1) := by decide +kernel
theorem dX6_meets_13 : decode cX6_meets 13 = .ok (.getfield 38, 3) := by decide +kernel
theorem dX6_meets_16 : decode cX6_meets 16 = .ok (.iload 5, 2) := by decide +kernel
theorem dX6_meets_18 : decode cX6_meets 18 = .ok (.iaload, 1) := by decide +kernel
theorem dX6_meets_19 : decode cX6_meets 19 = .ok (.iload_n 2, 1) := by decide +kernel
theorem dX6_meets_20 : decode cX6_meets 20 = .ok (.if_icmp .ne 39, 3) := by decide +kernel
theorem dX6_meets_23 : decode cX6_meets 23 = .ok (.aload_n 0, 1) := by decide +kernel
theorem dX6_meets_24 : decode cX6_meets 24 = .ok (.getfield 35, 3) := by decide +kernel
theorem dX6_meets_27 : decode cX6_meets 27 = .ok (.iload 5, 2) := by decide +kernel
theorem dX6_meets_29 : decode cX6_meets 29 = .ok (.iaload, 1) := by decide +kernel
theorem dX6_meets_30 : decode cX6_meets 30 = .ok (.iload_n 1, 1) := by decide +kernel
theorem dX6_meets_31 : decode cX6_meets 31 = .ok (.if_icmp .eq 28, 3) := by decide +kernel
theorem dX6_meets_34 : decode cX6_meets 34 = .ok (.aload_n 0, 1) := by decide +kernel
theorem dX6_meets_35 : decode cX6_meets 35 = .ok (.getfield 41, 3) := by decide +kernel
theorem dX6_meets_38 : decode cX6_meets 38 = .ok (.iload 5, 2) := by decide +kernel
theorem dX6_meets_40 : decode cX6_meets 40 = .ok (.iaload, 1) := by decide +kernel
theorem dX6_meets_41 : decode cX6_meets 41 = .ok (.iload 4, 2) := by decide +kernel
theorem dX6_meets_43 : decode cX6_meets 43 = .ok (.if_icmp .gt 16, 3) := by decide +kernel
theorem dX6_meets_46 : decode cX6_meets 46 = .ok (.aload_n 0, 1) := by decide +kernel
theorem dX6_meets_47 : decode cX6_meets 47 = .ok (.getfield 44, 3) := by decide +kernel
theorem dX6_meets_50 : decode cX6_meets 50 = .ok (.iload 5, 2) := by decide +kernel
theorem dX6_meets_52 : decode cX6_meets 52 = .ok (.iaload, 1) := by decide +kernel
theorem dX6_meets_53 : decode cX6_meets 53 = .ok (.iload_n 3, 1) := by decide +kernel
theorem dX6_meets_54 : decode cX6_meets 54 = .ok (.if_icmp .lt 5, 3) := by decide +kernel
theorem dX6_meets_57 : decode cX6_meets 57 = .ok (.iconst 1, 1) := by decide +kernel
theorem dX6_meets_58 : decode cX6_meets 58 = .ok (.ireturn, 1) := by decide +kernel
theorem dX6_meets_59 : decode cX6_meets 59 = .ok (.iinc 5 1, 3) := by decide +kernel
theorem dX6_meets_62 : decode cX6_meets 62 = .ok (.goto (-59), 3) := by decide +kernel
theorem dX6_meets_65 : decode cX6_meets 65 = .ok (.iconst 0, 1) := by decide +kernel
theorem dX6_meets_66 : decode cX6_meets 66 = .ok (.ireturn, 1) := by decide +kernel
theorem dX6_isTriedOn_0 : decode cX6_isTriedOn 0 = .ok (.iconst 0, 1) := by decide +kernel
theorem dX6_isTriedOn_1 : decode cX6_isTriedOn 1 = .ok (.istore_n 2, 1) := by decide +kernel
theorem dX6_isTriedOn_2 : decode cX6_isTriedOn 2 = .ok (.iload_n 2, 1) := by decide +kernel
theorem dX6_isTriedOn_3 : decode cX6_isTriedOn 3 = .ok (.aload_n 0, 1) := by decide +kernel
theorem dX6_isTriedOn_4 : decode cX6_isTriedOn 4 = .ok (.getfield 75, 3) := by decide +kernel
theorem dX6_isTriedOn_7 : decode cX6_isTriedOn 7 = .ok (.if_icmp .ge 21, 3) := by decide +kernel
theorem dX6_isTriedOn_10 : decode cX6_isTriedOn 10 = .ok (.aload_n 0, 1) := by decide +kernel
theorem dX6_isTriedOn_11 : decode cX6_isTriedOn 11 = .ok (.getfield 26, 3) := by decide +kernel
theorem dX6_isTriedOn_14 : decode cX6_isTriedOn 14 = .ok (.iload_n 2, 1) := by decide +kernel
theorem dX6_isTriedOn_15 : decode cX6_isTriedOn 15 = .ok (.iaload, 1) := by decide +kernel
theorem dX6_isTriedOn_16 : decode cX6_isTriedOn 16 = .ok (.iload_n 1, 1) := by decide +kernel
theorem dX6_isTriedOn_17 : decode cX6_isTriedOn 17 = .ok (.if_icmp .ne 5, 3) := by decide +kernel
theorem dX6_isTriedOn_20 : decode cX6_isTriedOn 20 = .ok (.iconst 1, 1) := by decide +kernel
theorem dX6_isTriedOn_21 : decode cX6_isTriedOn 21 = .ok (.ireturn, 1) := by decide +kernel
theorem dX6_isTriedOn_22 : decode cX6_isTriedOn 22 = .ok (.iinc 2 1, 3) := by decide +kernel
theorem dX6_isTriedOn_25 : decode cX6_isTriedOn 25 = .ok (.goto (-23), 3) := by decide +kernel
theorem dX6_isTriedOn_28 : decode cX6_isTriedOn 28 = .ok (.iconst 0, 1) := by decide +kernel
theorem dX6_isTriedOn_29 : decode cX6_isTriedOn 29 = .ok (.ireturn, 1) := by decide +kernel
theorem dX6_tries_0 : decode cX6_tries 0 = .ok (.iconst 0, 1) := by decide +kernel
theorem dX6_tries_1 : decode cX6_tries 1 = .ok (.istore_n 1, 1) := by decide +kernel
theorem dX6_tries_2 : decode cX6_tries 2 = .ok (.iload_n 1, 1) := by decide +kernel
theorem dX6_tries_3 : decode cX6_tries 3 = .ok (.aload_n 0, 1) := by decide +kernel
theorem dX6_tries_4 : decode cX6_tries 4 = .ok (.getfield 75, 3) := by decide +kernel
theorem dX6_tries_7 : decode cX6_tries 7 = .ok (.if_icmp .ge 45, 3) := by decide +kernel
theorem dX6_tries_10 : decode cX6_tries 10 = .ok (.aload_n 0, 1) := by decide +kernel
theorem dX6_tries_11 : decode cX6_tries 11 = .ok (.getfield 26, 3) := by decide +kernel
theorem dX6_tries_14 : decode cX6_tries 14 = .ok (.iload_n 1, 1) := by decide +kernel
theorem dX6_tries_15 : decode cX6_tries 15 = .ok (.aload_n 0, 1) := by decide +kernel
theorem dX6_tries_16 : decode cX6_tries 16 = .ok (.getfield 7, 3) := by decide +kernel
theorem dX6_tries_19 : decode cX6_tries 19 = .ok (.iload_n 1, 1) := by decide +kernel
theorem dX6_tries_20 : decode cX6_tries 20 = .ok (.iaload, 1) := by decide +kernel
theorem dX6_tries_21 : decode cX6_tries 21 = .ok (.iastore, 1) := by decide +kernel
theorem dX6_tries_22 : decode cX6_tries 22 = .ok (.aload_n 0, 1) := by decide +kernel
theorem dX6_tries_23 : decode cX6_tries 23 = .ok (.getfield 29, 3) := by decide +kernel
theorem dX6_tries_26 : decode cX6_tries 26 = .ok (.iload_n 1, 1) := by decide +kernel
theorem dX6_tries_27 : decode cX6_tries 27 = .ok (.aload_n 0, 1) := by decide +kernel
theorem dX6_tries_28 : decode cX6_tries 28 = .ok (.getfield 13, 3) := by decide +kernel
theorem dX6_tries_31 : decode cX6_tries 31 = .ok (.iload_n 1, 1) := by decide +kernel
theorem dX6_tries_32 : decode cX6_tries 32 = .ok (.baload, 1) := by decide +kernel
theorem dX6_tries_33 : decode cX6_tries 33 = .ok (.bastore, 1) := by decide +kernel
theorem dX6_tries_34 : decode cX6_tries 34 = .ok (.aload_n 0, 1) := by decide +kernel
theorem dX6_tries_35 : decode cX6_tries 35 = .ok (.getfield 32, 3) := by decide +kernel
theorem dX6_tries_38 : decode cX6_tries 38 = .ok (.iload_n 1, 1) := by decide +kernel
theorem dX6_tries_39 : decode cX6_tries 39 = .ok (.aload_n 0, 1) := by decide +kernel
theorem dX6_tries_40 : decode cX6_tries 40 = .ok (.getfield 20, 3) := by decide +kernel
theorem dX6_tries_43 : decode cX6_tries 43 = .ok (.iload_n 1, 1) := by decide +kernel
theorem dX6_tries_44 : decode cX6_tries 44 = .ok (.iaload, 1) := by decide +kernel
theorem dX6_tries_45 : decode cX6_tries 45 = .ok (.iastore, 1) := by decide +kernel
theorem dX6_tries_46 : decode cX6_tries 46 = .ok (.iinc 1 1, 3) := by decide +kernel
theorem dX6_tries_49 : decode cX6_tries 49 = .ok (.goto (-47), 3) := by decide +kernel
theorem dX6_tries_52 : decode cX6_tries 52 = .ok (.return_, 1) := by decide +kernel
set_option maxRecDepth 20000 in
theorem ggX6_moves_X6_behind : GoodIn wsX6_moves wsX6_behind := goodIn_r _ [10, 11, 25, 26, 27, 28, 29, 30, 31, 32, 33, 34, 35, 36, 37, 38, 39, 40, 41, 42, 43, 44, 45, 46, 47, 48, 49, 50] (by decide +kernel) (by decide +kernel)
set_option maxRecDepth 20000 in
theorem gX6_moves_X6_behind : GoodIn wsX6_moves (wsV RX6 99 RX6 yX6_behind wsX6_behind) := goodIn_app (goodIn_of _ (by decide +kernel)) ggX6_moves_X6_behind
set_option maxRecDepth 20000 in
theorem ggX6_moves_X6_isTriedOn : GoodIn wsX6_moves wsX6_isTriedOn := goodIn_r _ [15, 1, 2, 25, 26, 27, 28, 29, 30, 31, 32, 33, 34, 35, 36, 37, 38, 39, 40, 41, 42, 43, 44, 45, 46, 47, 48, 49, 50] (by decide +kernel) (by decide +kernel)
set_option maxRecDepth 20000 in
theorem gX6_moves_X6_isTriedOn : GoodIn wsX6_moves (wsV RX6 103 RX6 yX6_isTriedOn wsX6_isTriedOn) := goodIn_app (goodIn_of _ (by decide +kernel)) ggX6_moves_X6_isTriedOn
set_option maxRecDepth 20000 in
theorem ggX6_moves_X6_meets : GoodIn wsX6_moves wsX6_meets := goodIn_r _ [19, 20, 21, 22, 23, 24, 25, 26, 27, 28, 29, 30, 31, 32, 33, 34, 35, 36, 37, 38, 39, 40, 41, 42, 43, 44, 45, 46, 47, 48, 49, 50] (by decide +kernel) (by decide +kernel)
set_option maxRecDepth 20000 in
theorem gX6_moves_X6_meets : GoodIn wsX6_moves (wsV RX6 106 RX6 yX6_meets wsX6_meets) := goodIn_app (goodIn_of _ (by decide +kernel)) ggX6_moves_X6_meets
theorem dX6_moves_0 : decode cX6_moves 0 = .ok (.iconst 0, 1) := by decide +kernel
theorem dX6_moves_1 : decode cX6_moves 1 = .ok (.istore_n 2, 1) := by decide +kernel
theorem dX6_moves_2 : decode cX6_moves 2 = .ok (.iconst 0, 1) := by decide +kernel
theorem dX6_moves_3 : decode cX6_moves 3 = .ok (.istore_n 3, 1) := by decide +kernel
theorem dX6_moves_4 : decode cX6_moves 4 = .ok (.iload_n 3, 1) := by decide +kernel
theorem dX6_moves_5 : decode cX6_moves 5 = .ok (.aload_n 0, 1) := by decide +kernel
theorem dX6_moves_6 : decode cX6_moves 6 = .ok (.getfield 75, 3) := by decide +kernel
theorem dX6_moves_9 : decode cX6_moves 9 = .ok (.if_icmp .ge 135, 3) := by decide +kernel
theorem dX6_moves_12 : decode cX6_moves 12 = .ok (.aload_n 0, 1) := by decide +kernel
theorem dX6_moves_13 : decode cX6_moves 13 = .ok (.aload_n 0, 1) := by decide +kernel
theorem dX6_moves_14 : decode cX6_moves 14 = .ok (.getfield 26, 3) := by decide +kernel
theorem dX6_moves_17 : decode cX6_moves 17 = .ok (.iload_n 3, 1) := by decide +kernel
theorem dX6_moves_18 : decode cX6_moves 18 = .ok (.iaload, 1) := by decide +kernel
theorem dX6_moves_19 : decode cX6_moves 19 = .ok (.aload_n 0, 1) := by decide +kernel
theorem dX6_moves_20 : decode cX6_moves 20 = .ok (.getfield 29, 3) := by decide +kernel
theorem dX6_moves_23 : decode cX6_moves 23 = .ok (.iload_n 3, 1) := by decide +kernel
theorem dX6_moves_24 : decode cX6_moves 24 = .ok (.baload, 1) := by decide +kernel
theorem dX6_moves_25 : decode cX6_moves 25 = .ok (.invokevirtual 99, 3) := by decide +kernel
theorem dX6_moves_28 : decode cX6_moves 28 = .ok (.istore 4, 2) := by decide +kernel
theorem dX6_moves_30 : decode cX6_moves 30 = .ok (.aload_n 0, 1) := by decide +kernel
theorem dX6_moves_31 : decode cX6_moves 31 = .ok (.getfield 32, 3) := by decide +kernel
theorem dX6_moves_34 : decode cX6_moves 34 = .ok (.iload_n 3, 1) := by decide +kernel
theorem dX6_moves_35 : decode cX6_moves 35 = .ok (.iaload, 1) := by decide +kernel
theorem dX6_moves_36 : decode cX6_moves 36 = .ok (.ifCond .le 16, 3) := by decide +kernel
theorem dX6_moves_39 : decode cX6_moves 39 = .ok (.aload_n 0, 1) := by decide +kernel
theorem dX6_moves_40 : decode cX6_moves 40 = .ok (.getfield 32, 3) := by decide +kernel
theorem dX6_moves_43 : decode cX6_moves 43 = .ok (.iload_n 3, 1) := by decide +kernel
theorem dX6_moves_44 : decode cX6_moves 44 = .ok (.dup2, 1) := by decide +kernel
theorem dX6_moves_45 : decode cX6_moves 45 = .ok (.iaload, 1) := by decide +kernel
theorem dX6_moves_46 : decode cX6_moves 46 = .ok (.iconst 1, 1) := by decide +kernel
theorem dX6_moves_47 : decode cX6_moves 47 = .ok (.isub, 1) := by decide +kernel
theorem dX6_moves_48 : decode cX6_moves 48 = .ok (.iastore, 1) := by decide +kernel
theorem dX6_moves_49 : decode cX6_moves 49 = .ok (.goto 89, 3) := by decide +kernel
theorem dX6_moves_52 : decode cX6_moves 52 = .ok (.aload_n 0, 1) := by decide +kernel
theorem dX6_moves_53 : decode cX6_moves 53 = .ok (.getfield 17, 3) := by decide +kernel
theorem dX6_moves_56 : decode cX6_moves 56 = .ok (.iload_n 3, 1) := by decide +kernel
theorem dX6_moves_57 : decode cX6_moves 57 = .ok (.baload, 1) := by decide +kernel
theorem dX6_moves_58 : decode cX6_moves 58 = .ok (.ifCond .ne 33, 3) := by decide +kernel
theorem dX6_moves_61 : decode cX6_moves 61 = .ok (.iload 4, 2) := by decide +kernel
theorem dX6_moves_63 : decode cX6_moves 63 = .ok (.bipush (-2), 2) := by decide +kernel
theorem dX6_moves_65 : decode cX6_moves 65 = .ok (.if_icmp .ne 26, 3) := by decide +kernel
theorem dX6_moves_68 : decode cX6_moves 68 = .ok (.aload_n 0, 1) := by decide +kernel
theorem dX6_moves_69 : decode cX6_moves 69 = .ok (.getfield 29, 3) := by decide +kernel
theorem dX6_moves_72 : decode cX6_moves 72 = .ok (.iload_n 3, 1) := by decide +kernel
theorem dX6_moves_73 : decode cX6_moves 73 = .ok (.aload_n 0, 1) := by decide +kernel
theorem dX6_moves_74 : decode cX6_moves 74 = .ok (.getfield 29, 3) := by decide +kernel
theorem dX6_moves_77 : decode cX6_moves 77 = .ok (.iload_n 3, 1) := by decide +kernel
theorem dX6_moves_78 : decode cX6_moves 78 = .ok (.baload, 1) := by decide +kernel
theorem dX6_moves_79 : decode cX6_moves 79 = .ok (.ifCond .ne 7, 3) := by decide +kernel
theorem dX6_moves_82 : decode cX6_moves 82 = .ok (.iconst 1, 1) := by decide +kernel
theorem dX6_moves_83 : decode cX6_moves 83 = .ok (.goto 4, 3) := by decide +kernel
theorem dX6_moves_86 : decode cX6_moves 86 = .ok (.iconst 0, 1) := by decide +kernel
theorem dX6_moves_87 : decode cX6_moves 87 = .ok (.bastore, 1) := by decide +kernel
theorem dX6_moves_88 : decode cX6_moves 88 = .ok (.goto 50, 3) := by decide +kernel
theorem dX6_moves_91 : decode cX6_moves 91 = .ok (.aload_n 0, 1) := by decide +kernel
theorem dX6_moves_92 : decode cX6_moves 92 = .ok (.getfield 17, 3) := by decide +kernel
theorem dX6_moves_95 : decode cX6_moves 95 = .ok (.iload_n 3, 1) := by decide +kernel
theorem dX6_moves_96 : decode cX6_moves 96 = .ok (.baload, 1) := by decide +kernel
theorem dX6_moves_97 : decode cX6_moves 97 = .ok (.ifCond .ne 41, 3) := by decide +kernel
theorem dX6_moves_100 : decode cX6_moves 100 = .ok (.iload 4, 2) := by decide +kernel
theorem dX6_moves_102 : decode cX6_moves 102 = .ok (.iconst (-1), 1) := by decide +kernel
theorem dX6_moves_103 : decode cX6_moves 103 = .ok (.if_icmp .eq 35, 3) := by decide +kernel
theorem dX6_moves_106 : decode cX6_moves 106 = .ok (.aload_n 0, 1) := by decide +kernel
theorem dX6_moves_107 : decode cX6_moves 107 = .ok (.iload 4, 2) := by decide +kernel
theorem dX6_moves_109 : decode cX6_moves 109 = .ok (.invokevirtual 103, 3) := by decide +kernel
theorem dX6_moves_112 : decode cX6_moves 112 = .ok (.ifCond .ne 26, 3) := by decide +kernel
theorem dX6_moves_115 : decode cX6_moves 115 = .ok (.aload_n 0, 1) := by decide +kernel
theorem dX6_moves_116 : decode cX6_moves 116 = .ok (.iload_n 3, 1) := by decide +kernel
theorem dX6_moves_117 : decode cX6_moves 117 = .ok (.iload 4, 2) := by decide +kernel
theorem dX6_moves_119 : decode cX6_moves 119 = .ok (.iload_n 1, 1) := by decide +kernel
theorem dX6_moves_120 : decode cX6_moves 120 = .ok (.iload_n 1, 1) := by decide +kernel
theorem dX6_moves_121 : decode cX6_moves 121 = .ok (.invokevirtual 106, 3) := by decide +kernel
theorem dX6_moves_124 : decode cX6_moves 124 = .ok (.ifCond .ne 14, 3) := by decide +kernel
theorem dX6_moves_127 : decode cX6_moves 127 = .ok (.aload_n 0, 1) := by decide +kernel
theorem dX6_moves_128 : decode cX6_moves 128 = .ok (.getfield 26, 3) := by decide +kernel
theorem dX6_moves_131 : decode cX6_moves 131 = .ok (.iload_n 3, 1) := by decide +kernel
theorem dX6_moves_132 : decode cX6_moves 132 = .ok (.iload 4, 2) := by decide +kernel
theorem dX6_moves_134 : decode cX6_moves 134 = .ok (.iastore, 1) := by decide +kernel
theorem dX6_moves_135 : decode cX6_moves 135 = .ok (.iinc 2 1, 3) := by decide +kernel
theorem dX6_moves_138 : decode cX6_moves 138 = .ok (.iinc 3 1, 3) := by decide +kernel
theorem dX6_moves_141 : decode cX6_moves 141 = .ok (.goto (-137), 3) := by decide +kernel
theorem dX6_moves_144 : decode cX6_moves 144 = .ok (.iload_n 2, 1) := by decide +kernel
theorem dX6_moves_145 : decode cX6_moves 145 = .ok (.ireturn, 1) := by decide +kernel
set_option maxRecDepth 20000 in
theorem ggX6_runs_X6_tries : GoodIn wsX6_runs wsX6_tries := goodIn_r _ [20, 2, 4, 3, 6, 5, 8, 7, 42, 43, 44, 45, 46, 47, 48, 49, 50, 51, 52, 53, 54, 55, 56, 57, 58, 59, 60, 61, 62, 63, 64, 65, 66, 67] (by decide +kernel) (by decide +kernel)
set_option maxRecDepth 20000 in
theorem gX6_runs_X6_tries : GoodIn wsX6_runs (wsV RX6 110 RX6 yX6_tries wsX6_tries) := goodIn_app (goodIn_of _ (by decide +kernel)) ggX6_runs_X6_tries
set_option maxRecDepth 20000 in
theorem ggX6_runs_X6_moves : GoodIn wsX6_runs wsX6_moves := goodIn_r _ [24, 2, 4, 6, 8, 25, 26, 27, 28, 19, 29, 30, 31, 32, 33, 34, 35, 36, 37, 38, 9, 14, 13, 11, 12, 42, 43, 44, 45, 46, 47, 48, 49, 50, 51, 52, 53, 54, 55, 56, 57, 58, 59, 60, 61, 62, 63, 64, 65, 66, 67] (by decide +kernel) (by decide +kernel)
set_option maxRecDepth 20000 in
theorem gX6_runs_X6_moves : GoodIn wsX6_runs (wsV RX6 116 RX6 yX6_moves wsX6_moves) := goodIn_app (goodIn_of _ (by decide +kernel)) ggX6_runs_X6_moves
set_option maxRecDepth 20000 in
theorem ggX6_runs_X6_in : GoodIn wsX6_runs wsX6_in := goodIn_r _ [41] (by decide +kernel) (by decide +kernel)
set_option maxRecDepth 20000 in
theorem gX6_runs_X6_in : GoodIn wsX6_runs (va_wsS RX6 78 yX6_in wsX6_in) := goodIn_app (goodIn_of _ (by decide +kernel)) ggX6_runs_X6_in
theorem dX6_runs_0 : decode cX6_runs 0 = .ok (.aload_n 0, 1) := by decide +kernel
theorem dX6_runs_1 : decode cX6_runs 1 = .ok (.invokevirtual 110, 3) := by decide +kernel
theorem dX6_runs_4 : decode cX6_runs 4 = .ok (.aload_n 0, 1) := by decide +kernel
theorem dX6_runs_5 : decode cX6_runs 5 = .ok (.aload_n 0, 1) := by decide +kernel
theorem dX6_runs_6 : decode cX6_runs 6 = .ok (.getfield 113, 3) := by decide +kernel
theorem dX6_runs_9 : decode cX6_runs 9 = .ok (.invokevirtual 116, 3) := by decide +kernel
theorem dX6_runs_12 : decode cX6_runs 12 = .ok (.istore_n 1, 1) := by decide +kernel
theorem dX6_runs_13 : decode cX6_runs 13 = .ok (.iconst 0, 1) := by decide +kernel
theorem dX6_runs_14 : decode cX6_runs 14 = .ok (.istore_n 2, 1) := by decide +kernel
theorem dX6_runs_15 : decode cX6_runs 15 = .ok (.iload_n 2, 1) := by decide +kernel
theorem dX6_runs_16 : decode cX6_runs 16 = .ok (.aload_n 0, 1) := by decide +kernel
theorem dX6_runs_17 : decode cX6_runs 17 = .ok (.getfield 75, 3) := by decide +kernel
theorem dX6_runs_20 : decode cX6_runs 20 = .ok (.if_icmp .ge 45, 3) := by decide +kernel
theorem dX6_runs_23 : decode cX6_runs 23 = .ok (.aload_n 0, 1) := by decide +kernel
theorem dX6_runs_24 : decode cX6_runs 24 = .ok (.getfield 7, 3) := by decide +kernel
theorem dX6_runs_27 : decode cX6_runs 27 = .ok (.iload_n 2, 1) := by decide +kernel
theorem dX6_runs_28 : decode cX6_runs 28 = .ok (.aload_n 0, 1) := by decide +kernel
theorem dX6_runs_29 : decode cX6_runs 29 = .ok (.getfield 26, 3) := by decide +kernel
theorem dX6_runs_32 : decode cX6_runs 32 = .ok (.iload_n 2, 1) := by decide +kernel
theorem dX6_runs_33 : decode cX6_runs 33 = .ok (.iaload, 1) := by decide +kernel
theorem dX6_runs_34 : decode cX6_runs 34 = .ok (.iastore, 1) := by decide +kernel
theorem dX6_runs_35 : decode cX6_runs 35 = .ok (.aload_n 0, 1) := by decide +kernel
theorem dX6_runs_36 : decode cX6_runs 36 = .ok (.getfield 13, 3) := by decide +kernel
theorem dX6_runs_39 : decode cX6_runs 39 = .ok (.iload_n 2, 1) := by decide +kernel
theorem dX6_runs_40 : decode cX6_runs 40 = .ok (.aload_n 0, 1) := by decide +kernel
theorem dX6_runs_41 : decode cX6_runs 41 = .ok (.getfield 29, 3) := by decide +kernel
theorem dX6_runs_44 : decode cX6_runs 44 = .ok (.iload_n 2, 1) := by decide +kernel
theorem dX6_runs_45 : decode cX6_runs 45 = .ok (.baload, 1) := by decide +kernel
theorem dX6_runs_46 : decode cX6_runs 46 = .ok (.bastore, 1) := by decide +kernel
theorem dX6_runs_47 : decode cX6_runs 47 = .ok (.aload_n 0, 1) := by decide +kernel
theorem dX6_runs_48 : decode cX6_runs 48 = .ok (.getfield 20, 3) := by decide +kernel
theorem dX6_runs_51 : decode cX6_runs 51 = .ok (.iload_n 2, 1) := by decide +kernel
theorem dX6_runs_52 : decode cX6_runs 52 = .ok (.aload_n 0, 1) := by decide +kernel
theorem dX6_runs_53 : decode cX6_runs 53 = .ok (.getfield 32, 3) := by decide +kernel
theorem dX6_runs_56 : decode cX6_runs 56 = .ok (.iload_n 2, 1) := by decide +kernel
theorem dX6_runs_57 : decode cX6_runs 57 = .ok (.iaload, 1) := by decide +kernel
theorem dX6_runs_58 : decode cX6_runs 58 = .ok (.iastore, 1) := by decide +kernel
theorem dX6_runs_59 : decode cX6_runs 59 = .ok (.iinc 2 1, 3) := by decide +kernel
theorem dX6_runs_62 : decode cX6_runs 62 = .ok (.goto (-47), 3) := by decide +kernel
theorem dX6_runs_65 : decode cX6_runs 65 = .ok (.iconst 0, 1) := by decide +kernel
theorem dX6_runs_66 : decode cX6_runs 66 = .ok (.istore_n 2, 1) := by decide +kernel
theorem dX6_runs_67 : decode cX6_runs 67 = .ok (.iload_n 2, 1) := by decide +kernel
theorem dX6_runs_68 : decode cX6_runs 68 = .ok (.aload_n 0, 1) := by decide +kernel
theorem dX6_runs_69 : decode cX6_runs 69 = .ok (.getfield 96, 3) := by decide +kernel
theorem dX6_runs_72 : decode cX6_runs 72 = .ok (.if_icmp .ge 115, 3) := by decide +kernel
theorem dX6_runs_75 : decode cX6_runs 75 = .ok (.aload_n 0, 1) := by decide +kernel
theorem dX6_runs_76 : decode cX6_runs 76 = .ok (.getfield 47, 3) := by decide +kernel
theorem dX6_runs_79 : decode cX6_runs 79 = .ok (.iload_n 2, 1) := by decide +kernel
theorem dX6_runs_80 : decode cX6_runs 80 = .ok (.iaload, 1) := by decide +kernel
theorem dX6_runs_81 : decode cX6_runs 81 = .ok (.ifCond .ne 100, 3) := by decide +kernel
theorem dX6_runs_84 : decode cX6_runs 84 = .ok (.aload_n 0, 1) := by decide +kernel
theorem dX6_runs_85 : decode cX6_runs 85 = .ok (.getfield 113, 3) := by decide +kernel
theorem dX6_runs_88 : decode cX6_runs 88 = .ok (.aload_n 0, 1) := by decide +kernel
theorem dX6_runs_89 : decode cX6_runs 89 = .ok (.getfield 41, 3) := by decide +kernel
theorem dX6_runs_92 : decode cX6_runs 92 = .ok (.iload_n 2, 1) := by decide +kernel
theorem dX6_runs_93 : decode cX6_runs 93 = .ok (.iaload, 1) := by decide +kernel
theorem dX6_runs_94 : decode cX6_runs 94 = .ok (.aload_n 0, 1) := by decide +kernel
theorem dX6_runs_95 : decode cX6_runs 95 = .ok (.getfield 44, 3) := by decide +kernel
theorem dX6_runs_98 : decode cX6_runs 98 = .ok (.iload_n 2, 1) := by decide +kernel
theorem dX6_runs_99 : decode cX6_runs 99 = .ok (.iaload, 1) := by decide +kernel
theorem dX6_runs_100 : decode cX6_runs 100 = .ok (.invokestatic 78, 3) := by decide +kernel
theorem dX6_runs_103 : decode cX6_runs 103 = .ok (.ifCond .eq 78, 3) := by decide +kernel
theorem dX6_runs_106 : decode cX6_runs 106 = .ok (.aload_n 0, 1) := by decide +kernel
theorem dX6_runs_107 : decode cX6_runs 107 = .ok (.getfield 7, 3) := by decide +kernel
theorem dX6_runs_110 : decode cX6_runs 110 = .ok (.aload_n 0, 1) := by decide +kernel
theorem dX6_runs_111 : decode cX6_runs 111 = .ok (.getfield 35, 3) := by decide +kernel
theorem dX6_runs_114 : decode cX6_runs 114 = .ok (.iload_n 2, 1) := by decide +kernel
theorem dX6_runs_115 : decode cX6_runs 115 = .ok (.iaload, 1) := by decide +kernel
theorem dX6_runs_116 : decode cX6_runs 116 = .ok (.iaload, 1) := by decide +kernel
theorem dX6_runs_117 : decode cX6_runs 117 = .ok (.aload_n 0, 1) := by decide +kernel
theorem dX6_runs_118 : decode cX6_runs 118 = .ok (.getfield 38, 3) := by decide +kernel
theorem dX6_runs_121 : decode cX6_runs 121 = .ok (.iload_n 2, 1) := by decide +kernel
theorem dX6_runs_122 : decode cX6_runs 122 = .ok (.iaload, 1) := by decide +kernel
theorem dX6_runs_123 : decode cX6_runs 123 = .ok (.if_icmp .ne 7, 3) := by decide +kernel
theorem dX6_runs_126 : decode cX6_runs 126 = .ok (.iconst 1, 1) := by decide +kernel
theorem dX6_runs_127 : decode cX6_runs 127 = .ok (.goto 4, 3) := by decide +kernel
theorem dX6_runs_130 : decode cX6_runs 130 = .ok (.iconst 0, 1) := by decide +kernel
theorem dX6_runs_131 : decode cX6_runs 131 = .ok (.istore_n 3, 1) := by decide +kernel
theorem dX6_runs_132 : decode cX6_runs 132 = .ok (.aload_n 0, 1) := by decide +kernel
theorem dX6_runs_133 : decode cX6_runs 133 = .ok (.getfield 47, 3) := by decide +kernel
theorem dX6_runs_136 : decode cX6_runs 136 = .ok (.iload_n 2, 1) := by decide +kernel
theorem dX6_runs_137 : decode cX6_runs 137 = .ok (.iload_n 3, 1) := by decide +kernel
theorem dX6_runs_138 : decode cX6_runs 138 = .ok (.ifCond .eq 7, 3) := by decide +kernel
theorem dX6_runs_141 : decode cX6_runs 141 = .ok (.iconst 1, 1) := by decide +kernel
theorem dX6_runs_142 : decode cX6_runs 142 = .ok (.goto 21, 3) := by decide +kernel
theorem dX6_runs_145 : decode cX6_runs 145 = .ok (.aload_n 0, 1) := by decide +kernel
theorem dX6_runs_146 : decode cX6_runs 146 = .ok (.getfield 113, 3) := by decide +kernel
theorem dX6_runs_149 : decode cX6_runs 149 = .ok (.aload_n 0, 1) := by decide +kernel
theorem dX6_runs_150 : decode cX6_runs 150 = .ok (.getfield 44, 3) := by decide +kernel
theorem dX6_runs_153 : decode cX6_runs 153 = .ok (.iload_n 2, 1) := by decide +kernel
theorem dX6_runs_154 : decode cX6_runs 154 = .ok (.iaload, 1) := by decide +kernel
theorem dX6_runs_155 : decode cX6_runs 155 = .ok (.if_icmp .ne 7, 3) := by decide +kernel
theorem dX6_runs_158 : decode cX6_runs 158 = .ok (.iconst 2, 1) := by decide +kernel
theorem dX6_runs_159 : decode cX6_runs 159 = .ok (.goto 4, 3) := by decide +kernel
theorem dX6_runs_162 : decode cX6_runs 162 = .ok (.iconst 0, 1) := by decide +kernel
theorem dX6_runs_163 : decode cX6_runs 163 = .ok (.iastore, 1) := by decide +kernel
theorem dX6_runs_164 : decode cX6_runs 164 = .ok (.aload_n 0, 1) := by decide +kernel
theorem dX6_runs_165 : decode cX6_runs 165 = .ok (.getfield 50, 3) := by decide +kernel
theorem dX6_runs_168 : decode cX6_runs 168 = .ok (.iload_n 2, 1) := by decide +kernel
theorem dX6_runs_169 : decode cX6_runs 169 = .ok (.aload_n 0, 1) := by decide +kernel
theorem dX6_runs_170 : decode cX6_runs 170 = .ok (.getfield 113, 3) := by decide +kernel
theorem dX6_runs_173 : decode cX6_runs 173 = .ok (.aload_n 0, 1) := by decide +kernel
theorem dX6_runs_174 : decode cX6_runs 174 = .ok (.getfield 41, 3) := by decide +kernel
theorem dX6_runs_177 : decode cX6_runs 177 = .ok (.iload_n 2, 1) := by decide +kernel
theorem dX6_runs_178 : decode cX6_runs 178 = .ok (.iaload, 1) := by decide +kernel
theorem dX6_runs_179 : decode cX6_runs 179 = .ok (.isub, 1) := by decide +kernel
theorem dX6_runs_180 : decode cX6_runs 180 = .ok (.iastore, 1) := by decide +kernel
theorem dX6_runs_181 : decode cX6_runs 181 = .ok (.iinc 2 1, 3) := by decide +kernel
theorem dX6_runs_184 : decode cX6_runs 184 = .ok (.goto (-117), 3) := by decide +kernel
theorem dX6_runs_187 : decode cX6_runs 187 = .ok (.aload_n 0, 1) := by decide +kernel
theorem dX6_runs_188 : decode cX6_runs 188 = .ok (.dup, 1) := by decide +kernel
theorem dX6_runs_189 : decode cX6_runs 189 = .ok (.getfield 113, 3) := by decide +kernel
theorem dX6_runs_192 : decode cX6_runs 192 = .ok (.iconst 1, 1) := by decide +kernel
theorem dX6_runs_193 : decode cX6_runs 193 = .ok (.iadd, 1) := by decide +kernel
theorem dX6_runs_194 : decode cX6_runs 194 = .ok (.putfield 113, 3) := by decide +kernel
theorem dX6_runs_197 : decode cX6_runs 197 = .ok (.iload_n 1, 1) := by decide +kernel
theorem dX6_runs_198 : decode cX6_runs 198 = .ok (.ireturn, 1) := by decide +kernel
set_option maxRecDepth 20000 in
theorem ggX6_run_X6_in : GoodIn wsX6_run wsX6_in := goodIn_r _ [5] (by decide +kernel) (by decide +kernel)
set_option maxRecDepth 20000 in
theorem gX6_run_X6_in : GoodIn wsX6_run (va_wsS RX6 78 yX6_in wsX6_in) := goodIn_app (goodIn_of _ (by decide +kernel)) ggX6_run_X6_in
set_option maxRecDepth 20000 in
theorem ggX6_run_X6_holds : GoodIn wsX6_run wsX6_holds := goodIn_r _ [9, 10, 51, 52, 53, 54, 55, 56, 57, 58, 59, 60, 61, 62, 63, 64, 65, 66, 67, 68, 69, 70, 71, 72, 73, 74, 75, 76] (by decide +kernel) (by decide +kernel)
set_option maxRecDepth 20000 in
theorem gX6_run_X6_holds : GoodIn wsX6_run (wsV RX6 90 RX6 yX6_holds wsX6_holds) := goodIn_app (goodIn_of _ (by decide +kernel)) ggX6_run_X6_holds
set_option maxRecDepth 20000 in
theorem ggX6_run_X6_runs : GoodIn wsX6_run wsX6_runs := goodIn_r _ [14, 1, 15, 16, 17, 18, 19, 20, 21, 22, 23, 24, 25, 26, 27, 28, 29, 30, 31, 4, 32, 33, 34, 35, 36, 37, 38, 39, 40, 41, 42, 43, 44, 45, 46, 47, 48, 49, 50, 2, 3, 5, 51, 52, 53, 54, 55, 56, 57, 58, 59, 60, 61, 62, 63, 64, 65, 66, 67, 68, 69, 70, 71, 72, 73, 74, 75, 76] (by decide +kernel) (by decide +kernel)
set_option maxRecDepth 20000 in
theorem gX6_run_X6_runs : GoodIn wsX6_run (wsV RX6 119 RX6 yX6_runs wsX6_runs) := goodIn_app (goodIn_of _ (by decide +kernel)) ggX6_run_X6_runs
theorem dX6_run_0 : decode cX6_run 0 = .ok (.aload_n 0, 1) := by decide +kernel
theorem dX6_run_1 : decode cX6_run 1 = .ok (.iload_n 1, 1) := by decide +kernel
theorem dX6_run_2 : decode cX6_run 2 = .ok (.iconst 1, 1) := by decide +kernel
theorem dX6_run_3 : decode cX6_run 3 = .ok (.bipush 100, 2) := by decide +kernel
theorem dX6_run_5 : decode cX6_run 5 = .ok (.invokestatic 78, 3) := by decide +kernel
theorem dX6_run_8 : decode cX6_run 8 = .ok (.ifCond .ne 7, 3) := by decide +kernel
theorem dX6_run_11 : decode cX6_run 11 = .ok (.iconst 1, 1) := by decide +kernel
theorem dX6_run_12 : decode cX6_run 12 = .ok (.goto 20, 3) := by decide +kernel
theorem dX6_run_15 : decode cX6_run 15 = .ok (.aload_n 0, 1) := by decide +kernel
theorem dX6_run_16 : decode cX6_run 16 = .ok (.getfield 113, 3) := by decide +kernel
theorem dX6_run_19 : decode cX6_run 19 = .ok (.iload_n 1, 1) := by decide +kernel
theorem dX6_run_20 : decode cX6_run 20 = .ok (.iadd, 1) := by decide +kernel
theorem dX6_run_21 : decode cX6_run 21 = .ok (.sipush 5000, 3) := by decide +kernel
theorem dX6_run_24 : decode cX6_run 24 = .ok (.if_icmp .le 7, 3) := by decide +kernel
theorem dX6_run_27 : decode cX6_run 27 = .ok (.iconst 2, 1) := by decide +kernel
theorem dX6_run_28 : decode cX6_run 28 = .ok (.goto 4, 3) := by decide +kernel
theorem dX6_run_31 : decode cX6_run 31 = .ok (.iconst 0, 1) := by decide +kernel
theorem dX6_run_32 : decode cX6_run 32 = .ok (.invokevirtual 90, 3) := by decide +kernel
theorem dX6_run_35 : decode cX6_run 35 = .ok (.ifCond .ne 5, 3) := by decide +kernel
theorem dX6_run_38 : decode cX6_run 38 = .ok (.iconst 0, 1) := by decide +kernel
theorem dX6_run_39 : decode cX6_run 39 = .ok (.ireturn, 1) := by decide +kernel
theorem dX6_run_40 : decode cX6_run 40 = .ok (.iconst 0, 1) := by decide +kernel
theorem dX6_run_41 : decode cX6_run 41 = .ok (.istore_n 2, 1) := by decide +kernel
theorem dX6_run_42 : decode cX6_run 42 = .ok (.iconst 0, 1) := by decide +kernel
theorem dX6_run_43 : decode cX6_run 43 = .ok (.istore_n 3, 1) := by decide +kernel
theorem dX6_run_44 : decode cX6_run 44 = .ok (.iload_n 3, 1) := by decide +kernel
theorem dX6_run_45 : decode cX6_run 45 = .ok (.iload_n 1, 1) := by decide +kernel
theorem dX6_run_46 : decode cX6_run 46 = .ok (.if_icmp .ge 16, 3) := by decide +kernel
theorem dX6_run_49 : decode cX6_run 49 = .ok (.iload_n 2, 1) := by decide +kernel
theorem dX6_run_50 : decode cX6_run 50 = .ok (.aload_n 0, 1) := by decide +kernel
theorem dX6_run_51 : decode cX6_run 51 = .ok (.invokevirtual 119, 3) := by decide +kernel
theorem dX6_run_54 : decode cX6_run 54 = .ok (.iadd, 1) := by decide +kernel
theorem dX6_run_55 : decode cX6_run 55 = .ok (.istore_n 2, 1) := by decide +kernel
theorem dX6_run_56 : decode cX6_run 56 = .ok (.iinc 3 1, 3) := by decide +kernel
theorem dX6_run_59 : decode cX6_run 59 = .ok (.goto (-15), 3) := by decide +kernel
theorem dX6_run_62 : decode cX6_run 62 = .ok (.iload_n 2, 1) := by decide +kernel
theorem dX6_run_63 : decode cX6_run 63 = .ok (.ireturn, 1) := by decide +kernel
theorem dX6_clock_0 : decode cX6_clock 0 = .ok (.aload_n 0, 1) := by decide +kernel
theorem dX6_clock_1 : decode cX6_clock 1 = .ok (.iconst 0, 1) := by decide +kernel
theorem dX6_clock_2 : decode cX6_clock 2 = .ok (.putfield 71, 3) := by decide +kernel
theorem dX6_clock_5 : decode cX6_clock 5 = .ok (.aload_n 0, 1) := by decide +kernel
theorem dX6_clock_6 : decode cX6_clock 6 = .ok (.getfield 113, 3) := by decide +kernel
theorem dX6_clock_9 : decode cX6_clock 9 = .ok (.ireturn, 1) := by decide +kernel
set_option maxRecDepth 20000 in
theorem ggX6_reaches_X6_isTrain : GoodIn wsX6_reaches wsX6_isTrain := goodIn_r _ [7, 8, 9, 10, 6, 11, 52, 53, 54, 55, 56, 57, 58, 59, 60, 61, 62, 63, 64, 65, 66, 67, 68, 69, 70, 71, 72, 73, 74, 75, 76, 77] (by decide +kernel) (by decide +kernel)
set_option maxRecDepth 20000 in
theorem gX6_reaches_X6_isTrain : GoodIn wsX6_reaches (wsV RX6 93 RX6 yX6_isTrain wsX6_isTrain) := goodIn_app (goodIn_of _ (by decide +kernel)) ggX6_reaches_X6_isTrain
set_option maxRecDepth 20000 in
theorem ggX6_reaches_X6_isBlock : GoodIn wsX6_reaches wsX6_isBlock := goodIn_r _ [14, 9, 10, 6, 11] (by decide +kernel) (by decide +kernel)
set_option maxRecDepth 20000 in
theorem gX6_reaches_X6_isBlock : GoodIn wsX6_reaches (va_wsS RX6 82 yX6_isBlock wsX6_isBlock) := goodIn_app (goodIn_of _ (by decide +kernel)) ggX6_reaches_X6_isBlock
set_option maxRecDepth 20000 in
theorem ggX6_reaches_X6_holds : GoodIn wsX6_reaches wsX6_holds := goodIn_r _ [18, 19, 52, 53, 54, 55, 56, 57, 58, 59, 60, 61, 62, 63, 64, 65, 66, 67, 68, 69, 70, 71, 72, 73, 74, 75, 76, 77] (by decide +kernel) (by decide +kernel)
set_option maxRecDepth 20000 in
theorem gX6_reaches_X6_holds : GoodIn wsX6_reaches (wsV RX6 90 RX6 yX6_holds wsX6_holds) := goodIn_app (goodIn_of _ (by decide +kernel)) ggX6_reaches_X6_holds
set_option maxRecDepth 20000 in
theorem ggX6_reaches_X6_tries : GoodIn wsX6_reaches wsX6_tries := goodIn_r _ [23, 8, 1, 24, 25, 26, 27, 28, 52, 53, 54, 55, 56, 57, 58, 59, 60, 61, 62, 63, 64, 65, 66, 67, 68, 69, 70, 71, 72, 73, 74, 75, 76, 77] (by decide +kernel) (by decide +kernel)
set_option maxRecDepth 20000 in
theorem gX6_reaches_X6_tries : GoodIn wsX6_reaches (wsV RX6 110 RX6 yX6_tries wsX6_tries) := goodIn_app (goodIn_of _ (by decide +kernel)) ggX6_reaches_X6_tries
set_option maxRecDepth 20000 in
theorem ggX6_reaches_X6_moves : GoodIn wsX6_reaches wsX6_moves := goodIn_r _ [32, 8, 1, 25, 27, 33, 34, 35, 36, 6, 37, 38, 39, 40, 41, 42, 43, 44, 45, 46, 47, 48, 49, 50, 51, 52, 53, 54, 55, 56, 57, 58, 59, 60, 61, 62, 63, 64, 65, 66, 67, 68, 69, 70, 71, 72, 73, 74, 75, 76, 77] (by decide +kernel) (by decide +kernel)
set_option maxRecDepth 20000 in
theorem gX6_reaches_X6_moves : GoodIn wsX6_reaches (wsV RX6 116 RX6 yX6_moves wsX6_moves) := goodIn_app (goodIn_of _ (by decide +kernel)) ggX6_reaches_X6_moves
theorem dX6_reaches_0 : decode cX6_reaches 0 = .ok (.aload_n 0, 1) := by decide +kernel
theorem dX6_reaches_1 : decode cX6_reaches 1 = .ok (.aload_n 0, 1) := by decide +kernel
theorem dX6_reaches_2 : decode cX6_reaches 2 = .ok (.iload_n 1, 1) := by decide +kernel
theorem dX6_reaches_3 : decode cX6_reaches 3 = .ok (.invokevirtual 93, 3) := by decide +kernel
theorem dX6_reaches_6 : decode cX6_reaches 6 = .ok (.ifCond .eq 14, 3) := by decide +kernel
theorem dX6_reaches_9 : decode cX6_reaches 9 = .ok (.iload_n 2, 1) := by decide +kernel
theorem dX6_reaches_10 : decode cX6_reaches 10 = .ok (.invokestatic 82, 3) := by decide +kernel
theorem dX6_reaches_13 : decode cX6_reaches 13 = .ok (.ifCond .eq 7, 3) := by decide +kernel
theorem dX6_reaches_16 : decode cX6_reaches 16 = .ok (.iconst 0, 1) := by decide +kernel
theorem dX6_reaches_17 : decode cX6_reaches 17 = .ok (.goto 4, 3) := by decide +kernel
theorem dX6_reaches_20 : decode cX6_reaches 20 = .ok (.iconst 1, 1) := by decide +kernel
theorem dX6_reaches_21 : decode cX6_reaches 21 = .ok (.invokevirtual 90, 3) := by decide +kernel
theorem dX6_reaches_24 : decode cX6_reaches 24 = .ok (.ifCond .ne 5, 3) := by decide +kernel
theorem dX6_reaches_27 : decode cX6_reaches 27 = .ok (.iconst 0, 1) := by decide +kernel
theorem dX6_reaches_28 : decode cX6_reaches 28 = .ok (.ireturn, 1) := by decide +kernel
theorem dX6_reaches_29 : decode cX6_reaches 29 = .ok (.aload_n 0, 1) := by decide +kernel
theorem dX6_reaches_30 : decode cX6_reaches 30 = .ok (.invokevirtual 110, 3) := by decide +kernel
theorem dX6_reaches_33 : decode cX6_reaches 33 = .ok (.iconst 0, 1) := by decide +kernel
theorem dX6_reaches_34 : decode cX6_reaches 34 = .ok (.istore_n 3, 1) := by decide +kernel
theorem dX6_reaches_35 : decode cX6_reaches 35 = .ok (.aload_n 0, 1) := by decide +kernel
theorem dX6_reaches_36 : decode cX6_reaches 36 = .ok (.getfield 26, 3) := by decide +kernel
theorem dX6_reaches_39 : decode cX6_reaches 39 = .ok (.iload_n 1, 1) := by decide +kernel
theorem dX6_reaches_40 : decode cX6_reaches 40 = .ok (.iaload, 1) := by decide +kernel
theorem dX6_reaches_41 : decode cX6_reaches 41 = .ok (.iload_n 2, 1) := by decide +kernel
theorem dX6_reaches_42 : decode cX6_reaches 42 = .ok (.if_icmp .eq 26, 3) := by decide +kernel
theorem dX6_reaches_45 : decode cX6_reaches 45 = .ok (.iload_n 3, 1) := by decide +kernel
theorem dX6_reaches_46 : decode cX6_reaches 46 = .ok (.bipush 100, 2) := by decide +kernel
theorem dX6_reaches_48 : decode cX6_reaches 48 = .ok (.if_icmp .ge 20, 3) := by decide +kernel
theorem dX6_reaches_51 : decode cX6_reaches 51 = .ok (.aload_n 0, 1) := by decide +kernel
theorem dX6_reaches_52 : decode cX6_reaches 52 = .ok (.aload_n 0, 1) := by decide +kernel
theorem dX6_reaches_53 : decode cX6_reaches 53 = .ok (.getfield 113, 3) := by decide +kernel
theorem dX6_reaches_56 : decode cX6_reaches 56 = .ok (.iload_n 3, 1) := by decide +kernel
theorem dX6_reaches_57 : decode cX6_reaches 57 = .ok (.iadd, 1) := by decide +kernel
theorem dX6_reaches_58 : decode cX6_reaches 58 = .ok (.invokevirtual 116, 3) := by decide +kernel
theorem dX6_reaches_61 : decode cX6_reaches 61 = .ok (.pop, 1) := by decide +kernel
theorem dX6_reaches_62 : decode cX6_reaches 62 = .ok (.iinc 3 1, 3) := by decide +kernel
theorem dX6_reaches_65 : decode cX6_reaches 65 = .ok (.goto (-30), 3) := by decide +kernel
theorem dX6_reaches_68 : decode cX6_reaches 68 = .ok (.aload_n 0, 1) := by decide +kernel
theorem dX6_reaches_69 : decode cX6_reaches 69 = .ok (.getfield 26, 3) := by decide +kernel
theorem dX6_reaches_72 : decode cX6_reaches 72 = .ok (.iload_n 1, 1) := by decide +kernel
theorem dX6_reaches_73 : decode cX6_reaches 73 = .ok (.iaload, 1) := by decide +kernel
theorem dX6_reaches_74 : decode cX6_reaches 74 = .ok (.iload_n 2, 1) := by decide +kernel
theorem dX6_reaches_75 : decode cX6_reaches 75 = .ok (.if_icmp .ne 7, 3) := by decide +kernel
theorem dX6_reaches_78 : decode cX6_reaches 78 = .ok (.iload_n 3, 1) := by decide +kernel
theorem dX6_reaches_79 : decode cX6_reaches 79 = .ok (.goto 4, 3) := by decide +kernel
theorem dX6_reaches_82 : decode cX6_reaches 82 = .ok (.iconst (-1), 1) := by decide +kernel
theorem dX6_reaches_83 : decode cX6_reaches 83 = .ok (.ireturn, 1) := by decide +kernel
set_option maxRecDepth 20000 in
theorem ggX6_book_X6_isTrain : GoodIn wsX6_book wsX6_isTrain := goodIn_r _ [11, 12, 13, 14, 10, 15, 28, 29, 30, 31, 32, 33, 34, 35, 36, 37, 38, 39, 40, 41, 42, 43, 44, 45, 46, 47, 48, 49, 50, 51, 52, 53] (by decide +kernel) (by decide +kernel)
set_option maxRecDepth 20000 in
theorem gX6_book_X6_isTrain : GoodIn wsX6_book (wsV RX6 93 RX6 yX6_isTrain wsX6_isTrain) := goodIn_app (goodIn_of _ (by decide +kernel)) ggX6_book_X6_isTrain
set_option maxRecDepth 20000 in
theorem ggX6_book_X6_isBlock : GoodIn wsX6_book wsX6_isBlock := goodIn_r _ [18, 13, 14, 10, 15] (by decide +kernel) (by decide +kernel)
set_option maxRecDepth 20000 in
theorem gX6_book_X6_isBlock : GoodIn wsX6_book (va_wsS RX6 82 yX6_isBlock wsX6_isBlock) := goodIn_app (goodIn_of _ (by decide +kernel)) ggX6_book_X6_isBlock
set_option maxRecDepth 20000 in
theorem ggX6_book_X6_in : GoodIn wsX6_book wsX6_in := goodIn_r _ [15] (by decide +kernel) (by decide +kernel)
set_option maxRecDepth 20000 in
theorem gX6_book_X6_in : GoodIn wsX6_book (va_wsS RX6 78 yX6_in wsX6_in) := goodIn_app (goodIn_of _ (by decide +kernel)) ggX6_book_X6_in
set_option maxRecDepth 20000 in
theorem ggX6_book_X6_holds : GoodIn wsX6_book wsX6_holds := goodIn_r _ [22, 23, 28, 29, 30, 31, 32, 33, 34, 35, 36, 37, 38, 39, 40, 41, 42, 43, 44, 45, 46, 47, 48, 49, 50, 51, 52, 53] (by decide +kernel) (by decide +kernel)
set_option maxRecDepth 20000 in
theorem gX6_book_X6_holds : GoodIn wsX6_book (wsV RX6 90 RX6 yX6_holds wsX6_holds) := goodIn_app (goodIn_of _ (by decide +kernel)) ggX6_book_X6_holds
set_option maxRecDepth 20000 in
theorem ggX6_book_X6_meets : GoodIn wsX6_book wsX6_meets := goodIn_r _ [27, 2, 4, 3, 5, 6, 28, 29, 30, 31, 32, 33, 34, 35, 36, 37, 38, 39, 40, 41, 42, 43, 44, 45, 46, 47, 48, 49, 50, 51, 52, 53] (by decide +kernel) (by decide +kernel)
set_option maxRecDepth 20000 in
theorem gX6_book_X6_meets : GoodIn wsX6_book (wsV RX6 106 RX6 yX6_meets wsX6_meets) := goodIn_app (goodIn_of _ (by decide +kernel)) ggX6_book_X6_meets
theorem dX6_book_0 : decode cX6_book 0 = .ok (.aload_n 0, 1) := by decide +kernel
theorem dX6_book_1 : decode cX6_book 1 = .ok (.iload_n 1, 1) := by decide +kernel
theorem dX6_book_2 : decode cX6_book 2 = .ok (.invokevirtual 93, 3) := by decide +kernel
theorem dX6_book_5 : decode cX6_book 5 = .ok (.ifCond .eq 14, 3) := by decide +kernel
theorem dX6_book_8 : decode cX6_book 8 = .ok (.iload_n 2, 1) := by decide +kernel
theorem dX6_book_9 : decode cX6_book 9 = .ok (.invokestatic 82, 3) := by decide +kernel
theorem dX6_book_12 : decode cX6_book 12 = .ok (.ifCond .eq 7, 3) := by decide +kernel
theorem dX6_book_15 : decode cX6_book 15 = .ok (.iconst 1, 1) := by decide +kernel
theorem dX6_book_16 : decode cX6_book 16 = .ok (.goto 4, 3) := by decide +kernel
theorem dX6_book_19 : decode cX6_book 19 = .ok (.iconst 0, 1) := by decide +kernel
theorem dX6_book_20 : decode cX6_book 20 = .ok (.istore 5, 2) := by decide +kernel
theorem dX6_book_22 : decode cX6_book 22 = .ok (.iload_n 3, 1) := by decide +kernel
theorem dX6_book_23 : decode cX6_book 23 = .ok (.aload_n 0, 1) := by decide +kernel
theorem dX6_book_24 : decode cX6_book 24 = .ok (.getfield 113, 3) := by decide +kernel
theorem dX6_book_27 : decode cX6_book 27 = .ok (.sipush 5000, 3) := by decide +kernel
theorem dX6_book_30 : decode cX6_book 30 = .ok (.invokestatic 78, 3) := by decide +kernel
theorem dX6_book_33 : decode cX6_book 33 = .ok (.ifCond .eq 19, 3) := by decide +kernel
theorem dX6_book_36 : decode cX6_book 36 = .ok (.iload 4, 2) := by decide +kernel
theorem dX6_book_38 : decode cX6_book 38 = .ok (.iload_n 3, 1) := by decide +kernel
theorem dX6_book_39 : decode cX6_book 39 = .ok (.sipush 5000, 3) := by decide +kernel
theorem dX6_book_42 : decode cX6_book 42 = .ok (.invokestatic 78, 3) := by decide +kernel
theorem dX6_book_45 : decode cX6_book 45 = .ok (.ifCond .eq 7, 3) := by decide +kernel
theorem dX6_book_48 : decode cX6_book 48 = .ok (.iconst 1, 1) := by decide +kernel
theorem dX6_book_49 : decode cX6_book 49 = .ok (.goto 4, 3) := by decide +kernel
theorem dX6_book_52 : decode cX6_book 52 = .ok (.iconst 0, 1) := by decide +kernel
theorem dX6_book_53 : decode cX6_book 53 = .ok (.istore 6, 2) := by decide +kernel
theorem dX6_book_55 : decode cX6_book 55 = .ok (.aload_n 0, 1) := by decide +kernel
theorem dX6_book_56 : decode cX6_book 56 = .ok (.iload 5, 2) := by decide +kernel
theorem dX6_book_58 : decode cX6_book 58 = .ok (.ifCond .ne 7, 3) := by decide +kernel
theorem dX6_book_61 : decode cX6_book 61 = .ok (.iconst 1, 1) := by decide +kernel
theorem dX6_book_62 : decode cX6_book 62 = .ok (.goto 26, 3) := by decide +kernel
theorem dX6_book_65 : decode cX6_book 65 = .ok (.iload 6, 2) := by decide +kernel
theorem dX6_book_67 : decode cX6_book 67 = .ok (.ifCond .ne 7, 3) := by decide +kernel
theorem dX6_book_70 : decode cX6_book 70 = .ok (.iconst 2, 1) := by decide +kernel
theorem dX6_book_71 : decode cX6_book 71 = .ok (.goto 17, 3) := by decide +kernel
theorem dX6_book_74 : decode cX6_book 74 = .ok (.aload_n 0, 1) := by decide +kernel
theorem dX6_book_75 : decode cX6_book 75 = .ok (.getfield 96, 3) := by decide +kernel
theorem dX6_book_78 : decode cX6_book 78 = .ok (.bipush 30, 2) := by decide +kernel
theorem dX6_book_80 : decode cX6_book 80 = .ok (.if_icmp .ne 7, 3) := by decide +kernel
theorem dX6_book_83 : decode cX6_book 83 = .ok (.iconst 3, 1) := by decide +kernel
theorem dX6_book_84 : decode cX6_book 84 = .ok (.goto 4, 3) := by decide +kernel
theorem dX6_book_87 : decode cX6_book 87 = .ok (.iconst 0, 1) := by decide +kernel
theorem dX6_book_88 : decode cX6_book 88 = .ok (.invokevirtual 90, 3) := by decide +kernel
theorem dX6_book_91 : decode cX6_book 91 = .ok (.ifCond .ne 5, 3) := by decide +kernel
theorem dX6_book_94 : decode cX6_book 94 = .ok (.iconst 0, 1) := by decide +kernel
theorem dX6_book_95 : decode cX6_book 95 = .ok (.ireturn, 1) := by decide +kernel
theorem dX6_book_96 : decode cX6_book 96 = .ok (.aload_n 0, 1) := by decide +kernel
theorem dX6_book_97 : decode cX6_book 97 = .ok (.iload_n 1, 1) := by decide +kernel
theorem dX6_book_98 : decode cX6_book 98 = .ok (.iload_n 2, 1) := by decide +kernel
theorem dX6_book_99 : decode cX6_book 99 = .ok (.iload_n 3, 1) := by decide +kernel
theorem dX6_book_100 : decode cX6_book 100 = .ok (.iload 4, 2) := by decide +kernel
theorem dX6_book_102 : decode cX6_book 102 = .ok (.invokevirtual 106, 3) := by decide +kernel
theorem dX6_book_105 : decode cX6_book 105 = .ok (.ifCond .eq 5, 3) := by decide +kernel
theorem dX6_book_108 : decode cX6_book 108 = .ok (.iconst (-1), 1) := by decide +kernel
theorem dX6_book_109 : decode cX6_book 109 = .ok (.ireturn, 1) := by decide +kernel
theorem dX6_book_110 : decode cX6_book 110 = .ok (.aload_n 0, 1) := by decide +kernel
theorem dX6_book_111 : decode cX6_book 111 = .ok (.getfield 35, 3) := by decide +kernel
theorem dX6_book_114 : decode cX6_book 114 = .ok (.aload_n 0, 1) := by decide +kernel
theorem dX6_book_115 : decode cX6_book 115 = .ok (.getfield 96, 3) := by decide +kernel
theorem dX6_book_118 : decode cX6_book 118 = .ok (.iload_n 1, 1) := by decide +kernel
theorem dX6_book_119 : decode cX6_book 119 = .ok (.iastore, 1) := by decide +kernel
theorem dX6_book_120 : decode cX6_book 120 = .ok (.aload_n 0, 1) := by decide +kernel
theorem dX6_book_121 : decode cX6_book 121 = .ok (.getfield 38, 3) := by decide +kernel
theorem dX6_book_124 : decode cX6_book 124 = .ok (.aload_n 0, 1) := by decide +kernel
theorem dX6_book_125 : decode cX6_book 125 = .ok (.getfield 96, 3) := by decide +kernel
theorem dX6_book_128 : decode cX6_book 128 = .ok (.iload_n 2, 1) := by decide +kernel
theorem dX6_book_129 : decode cX6_book 129 = .ok (.iastore, 1) := by decide +kernel
theorem dX6_book_130 : decode cX6_book 130 = .ok (.aload_n 0, 1) := by decide +kernel
theorem dX6_book_131 : decode cX6_book 131 = .ok (.getfield 41, 3) := by decide +kernel
theorem dX6_book_134 : decode cX6_book 134 = .ok (.aload_n 0, 1) := by decide +kernel
theorem dX6_book_135 : decode cX6_book 135 = .ok (.getfield 96, 3) := by decide +kernel
theorem dX6_book_138 : decode cX6_book 138 = .ok (.iload_n 3, 1) := by decide +kernel
theorem dX6_book_139 : decode cX6_book 139 = .ok (.iastore, 1) := by decide +kernel
theorem dX6_book_140 : decode cX6_book 140 = .ok (.aload_n 0, 1) := by decide +kernel
theorem dX6_book_141 : decode cX6_book 141 = .ok (.getfield 44, 3) := by decide +kernel
theorem dX6_book_144 : decode cX6_book 144 = .ok (.aload_n 0, 1) := by decide +kernel
theorem dX6_book_145 : decode cX6_book 145 = .ok (.getfield 96, 3) := by decide +kernel
theorem dX6_book_148 : decode cX6_book 148 = .ok (.iload 4, 2) := by decide +kernel
theorem dX6_book_150 : decode cX6_book 150 = .ok (.iastore, 1) := by decide +kernel
theorem dX6_book_151 : decode cX6_book 151 = .ok (.aload_n 0, 1) := by decide +kernel
theorem dX6_book_152 : decode cX6_book 152 = .ok (.dup, 1) := by decide +kernel
theorem dX6_book_153 : decode cX6_book 153 = .ok (.getfield 96, 3) := by decide +kernel
theorem dX6_book_156 : decode cX6_book 156 = .ok (.iconst 1, 1) := by decide +kernel
theorem dX6_book_157 : decode cX6_book 157 = .ok (.iadd, 1) := by decide +kernel
theorem dX6_book_158 : decode cX6_book 158 = .ok (.putfield 96, 3) := by decide +kernel
theorem dX6_book_161 : decode cX6_book 161 = .ok (.aload_n 0, 1) := by decide +kernel
theorem dX6_book_162 : decode cX6_book 162 = .ok (.getfield 96, 3) := by decide +kernel
theorem dX6_book_165 : decode cX6_book 165 = .ok (.iconst 1, 1) := by decide +kernel
theorem dX6_book_166 : decode cX6_book 166 = .ok (.isub, 1) := by decide +kernel
theorem dX6_book_167 : decode cX6_book 167 = .ok (.ireturn, 1) := by decide +kernel
set_option maxRecDepth 20000 in
theorem ggX6_mayBook_X6_isTrain : GoodIn wsX6_mayBook wsX6_isTrain := goodIn_r _ [5, 6, 7, 8, 4, 9, 27, 28, 29, 30, 31, 32, 33, 34, 35, 36, 37, 38, 39, 40, 41, 42, 43, 44, 45, 46, 47, 48, 49, 50, 51, 52] (by decide +kernel) (by decide +kernel)
set_option maxRecDepth 20000 in
theorem gX6_mayBook_X6_isTrain : GoodIn wsX6_mayBook (wsV RX6 93 RX6 yX6_isTrain wsX6_isTrain) := goodIn_app (goodIn_of _ (by decide +kernel)) ggX6_mayBook_X6_isTrain
set_option maxRecDepth 20000 in
theorem ggX6_mayBook_X6_isBlock : GoodIn wsX6_mayBook wsX6_isBlock := goodIn_r _ [12, 7, 8, 4, 9] (by decide +kernel) (by decide +kernel)
set_option maxRecDepth 20000 in
theorem gX6_mayBook_X6_isBlock : GoodIn wsX6_mayBook (va_wsS RX6 82 yX6_isBlock wsX6_isBlock) := goodIn_app (goodIn_of _ (by decide +kernel)) ggX6_mayBook_X6_isBlock
set_option maxRecDepth 20000 in
theorem ggX6_mayBook_X6_in : GoodIn wsX6_mayBook wsX6_in := goodIn_r _ [9] (by decide +kernel) (by decide +kernel)
set_option maxRecDepth 20000 in
theorem gX6_mayBook_X6_in : GoodIn wsX6_mayBook (va_wsS RX6 78 yX6_in wsX6_in) := goodIn_app (goodIn_of _ (by decide +kernel)) ggX6_mayBook_X6_in
set_option maxRecDepth 20000 in
theorem ggX6_mayBook_X6_holds : GoodIn wsX6_mayBook wsX6_holds := goodIn_r _ [16, 17, 27, 28, 29, 30, 31, 32, 33, 34, 35, 36, 37, 38, 39, 40, 41, 42, 43, 44, 45, 46, 47, 48, 49, 50, 51, 52] (by decide +kernel) (by decide +kernel)
set_option maxRecDepth 20000 in
theorem gX6_mayBook_X6_holds : GoodIn wsX6_mayBook (wsV RX6 90 RX6 yX6_holds wsX6_holds) := goodIn_app (goodIn_of _ (by decide +kernel)) ggX6_mayBook_X6_holds
set_option maxRecDepth 20000 in
theorem ggX6_mayBook_X6_meets : GoodIn wsX6_mayBook wsX6_meets := goodIn_r _ [21, 22, 23, 24, 25, 26, 27, 28, 29, 30, 31, 32, 33, 34, 35, 36, 37, 38, 39, 40, 41, 42, 43, 44, 45, 46, 47, 48, 49, 50, 51, 52] (by decide +kernel) (by decide +kernel)
set_option maxRecDepth 20000 in
theorem gX6_mayBook_X6_meets : GoodIn wsX6_mayBook (wsV RX6 106 RX6 yX6_meets wsX6_meets) := goodIn_app (goodIn_of _ (by decide +kernel)) ggX6_mayBook_X6_meets
theorem dX6_mayBook_0 : decode cX6_mayBook 0 = .ok (.aload_n 0, 1) := by decide +kernel
theorem dX6_mayBook_1 : decode cX6_mayBook 1 = .ok (.iload_n 1, 1) := by decide +kernel
theorem dX6_mayBook_2 : decode cX6_mayBook 2 = .ok (.invokevirtual 93, 3) := by decide +kernel
theorem dX6_mayBook_5 : decode cX6_mayBook 5 = .ok (.ifCond .eq 14, 3) := by decide +kernel
theorem dX6_mayBook_8 : decode cX6_mayBook 8 = .ok (.iload_n 2, 1) := by decide +kernel
theorem dX6_mayBook_9 : decode cX6_mayBook 9 = .ok (.invokestatic 82, 3) := by decide +kernel
theorem dX6_mayBook_12 : decode cX6_mayBook 12 = .ok (.ifCond .eq 7, 3) := by decide +kernel
theorem dX6_mayBook_15 : decode cX6_mayBook 15 = .ok (.iconst 1, 1) := by decide +kernel
theorem dX6_mayBook_16 : decode cX6_mayBook 16 = .ok (.goto 4, 3) := by decide +kernel
theorem dX6_mayBook_19 : decode cX6_mayBook 19 = .ok (.iconst 0, 1) := by decide +kernel
theorem dX6_mayBook_20 : decode cX6_mayBook 20 = .ok (.istore 5, 2) := by decide +kernel
theorem dX6_mayBook_22 : decode cX6_mayBook 22 = .ok (.iload_n 3, 1) := by decide +kernel
theorem dX6_mayBook_23 : decode cX6_mayBook 23 = .ok (.iconst 0, 1) := by decide +kernel
theorem dX6_mayBook_24 : decode cX6_mayBook 24 = .ok (.sipush 5000, 3) := by decide +kernel
theorem dX6_mayBook_27 : decode cX6_mayBook 27 = .ok (.invokestatic 78, 3) := by decide +kernel
theorem dX6_mayBook_30 : decode cX6_mayBook 30 = .ok (.ifCond .eq 19, 3) := by decide +kernel
theorem dX6_mayBook_33 : decode cX6_mayBook 33 = .ok (.iload 4, 2) := by decide +kernel
theorem dX6_mayBook_35 : decode cX6_mayBook 35 = .ok (.iload_n 3, 1) := by decide +kernel
theorem dX6_mayBook_36 : decode cX6_mayBook 36 = .ok (.sipush 5000, 3) := by decide +kernel
theorem dX6_mayBook_39 : decode cX6_mayBook 39 = .ok (.invokestatic 78, 3) := by decide +kernel
theorem dX6_mayBook_42 : decode cX6_mayBook 42 = .ok (.ifCond .eq 7, 3) := by decide +kernel
theorem dX6_mayBook_45 : decode cX6_mayBook 45 = .ok (.iconst 1, 1) := by decide +kernel
theorem dX6_mayBook_46 : decode cX6_mayBook 46 = .ok (.goto 4, 3) := by decide +kernel
theorem dX6_mayBook_49 : decode cX6_mayBook 49 = .ok (.iconst 0, 1) := by decide +kernel
theorem dX6_mayBook_50 : decode cX6_mayBook 50 = .ok (.istore 6, 2) := by decide +kernel
theorem dX6_mayBook_52 : decode cX6_mayBook 52 = .ok (.aload_n 0, 1) := by decide +kernel
theorem dX6_mayBook_53 : decode cX6_mayBook 53 = .ok (.iload 5, 2) := by decide +kernel
theorem dX6_mayBook_55 : decode cX6_mayBook 55 = .ok (.ifCond .ne 7, 3) := by decide +kernel
theorem dX6_mayBook_58 : decode cX6_mayBook 58 = .ok (.iconst 1, 1) := by decide +kernel
theorem dX6_mayBook_59 : decode cX6_mayBook 59 = .ok (.goto 13, 3) := by decide +kernel
theorem dX6_mayBook_62 : decode cX6_mayBook 62 = .ok (.iload 6, 2) := by decide +kernel
theorem dX6_mayBook_64 : decode cX6_mayBook 64 = .ok (.ifCond .eq 7, 3) := by decide +kernel
theorem dX6_mayBook_67 : decode cX6_mayBook 67 = .ok (.iconst 0, 1) := by decide +kernel
theorem dX6_mayBook_68 : decode cX6_mayBook 68 = .ok (.goto 4, 3) := by decide +kernel
theorem dX6_mayBook_71 : decode cX6_mayBook 71 = .ok (.iconst 2, 1) := by decide +kernel
theorem dX6_mayBook_72 : decode cX6_mayBook 72 = .ok (.invokevirtual 90, 3) := by decide +kernel
theorem dX6_mayBook_75 : decode cX6_mayBook 75 = .ok (.ifCond .eq 19, 3) := by decide +kernel
theorem dX6_mayBook_78 : decode cX6_mayBook 78 = .ok (.aload_n 0, 1) := by decide +kernel
theorem dX6_mayBook_79 : decode cX6_mayBook 79 = .ok (.iload_n 1, 1) := by decide +kernel
theorem dX6_mayBook_80 : decode cX6_mayBook 80 = .ok (.iload_n 2, 1) := by decide +kernel
theorem dX6_mayBook_81 : decode cX6_mayBook 81 = .ok (.iload_n 3, 1) := by decide +kernel
theorem dX6_mayBook_82 : decode cX6_mayBook 82 = .ok (.iload 4, 2) := by decide +kernel
theorem dX6_mayBook_84 : decode cX6_mayBook 84 = .ok (.invokevirtual 106, 3) := by decide +kernel
theorem dX6_mayBook_87 : decode cX6_mayBook 87 = .ok (.ifCond .ne 7, 3) := by decide +kernel
theorem dX6_mayBook_90 : decode cX6_mayBook 90 = .ok (.iconst 1, 1) := by decide +kernel
theorem dX6_mayBook_91 : decode cX6_mayBook 91 = .ok (.goto 4, 3) := by decide +kernel
theorem dX6_mayBook_94 : decode cX6_mayBook 94 = .ok (.iconst 0, 1) := by decide +kernel
theorem dX6_mayBook_95 : decode cX6_mayBook 95 = .ok (.ireturn, 1) := by decide +kernel
set_option maxRecDepth 20000 in
theorem ggX6_canBook_X6_mayBook : GoodIn wsX6_canBook wsX6_mayBook := goodIn_r _ [5, 6, 7, 8, 4, 9, 10, 11, 12, 13, 14, 15, 16, 17, 18, 19, 20, 21, 22, 23, 24, 25, 26, 27, 28, 29, 30, 31, 32, 33, 34, 35, 36, 37, 38, 39, 40, 41, 42, 43, 44, 45, 46, 47, 48, 49, 50, 51, 52, 53, 54, 55, 56] (by decide +kernel) (by decide +kernel)
set_option maxRecDepth 20000 in
theorem gX6_canBook_X6_mayBook : GoodIn wsX6_canBook (wsV RX6 123 RX6 yX6_mayBook wsX6_mayBook) := goodIn_app (goodIn_of _ (by decide +kernel)) ggX6_canBook_X6_mayBook
theorem dX6_canBook_0 : decode cX6_canBook 0 = .ok (.aload_n 0, 1) := by decide +kernel
theorem dX6_canBook_1 : decode cX6_canBook 1 = .ok (.iload_n 1, 1) := by decide +kernel
theorem dX6_canBook_2 : decode cX6_canBook 2 = .ok (.iload_n 2, 1) := by decide +kernel
theorem dX6_canBook_3 : decode cX6_canBook 3 = .ok (.iload_n 3, 1) := by decide +kernel
theorem dX6_canBook_4 : decode cX6_canBook 4 = .ok (.iload 4, 2) := by decide +kernel
theorem dX6_canBook_6 : decode cX6_canBook 6 = .ok (.invokevirtual 123, 3) := by decide +kernel
theorem dX6_canBook_9 : decode cX6_canBook 9 = .ok (.ireturn, 1) := by decide +kernel
set_option maxRecDepth 20000 in
theorem ggX6_canBookByMinutes_X6_mayBook : GoodIn wsX6_canBookByMinutes wsX6_mayBook := goodIn_r _ [5, 6, 7, 8, 4, 9, 10, 11, 12, 13, 14, 15, 16, 17, 18, 19, 20, 21, 22, 23, 24, 25, 26, 27, 28, 29, 30, 31, 32, 33, 34, 35, 36, 37, 38, 39, 40, 41, 42, 43, 44, 45, 46, 47, 48, 49, 50, 51, 52, 53, 54, 55, 56] (by decide +kernel) (by decide +kernel)
set_option maxRecDepth 20000 in
theorem gX6_canBookByMinutes_X6_mayBook : GoodIn wsX6_canBookByMinutes (wsV RX6 123 RX6 yX6_mayBook wsX6_mayBook) := goodIn_app (goodIn_of _ (by decide +kernel)) ggX6_canBookByMinutes_X6_mayBook
theorem dX6_canBookByMinutes_0 : decode cX6_canBookByMinutes 0 = .ok (.aload_n 0, 1) := by decide +kernel
theorem dX6_canBookByMinutes_1 : decode cX6_canBookByMinutes 1 = .ok (.iload_n 1, 1) := by decide +kernel
theorem dX6_canBookByMinutes_2 : decode cX6_canBookByMinutes 2 = .ok (.iload_n 2, 1) := by decide +kernel
theorem dX6_canBookByMinutes_3 : decode cX6_canBookByMinutes 3 = .ok (.iload_n 3, 1) := by decide +kernel
theorem dX6_canBookByMinutes_4 : decode cX6_canBookByMinutes 4 = .ok (.iload 4, 2) := by decide +kernel
theorem dX6_canBookByMinutes_6 : decode cX6_canBookByMinutes 6 = .ok (.invokevirtual 123, 3) := by decide +kernel
theorem dX6_canBookByMinutes_9 : decode cX6_canBookByMinutes 9 = .ok (.ireturn, 1) := by decide +kernel
set_option maxRecDepth 20000 in
theorem ggX6_isBooking_X6_in : GoodIn wsX6_isBooking wsX6_in := goodIn_r _ [5] (by decide +kernel) (by decide +kernel)
set_option maxRecDepth 20000 in
theorem gX6_isBooking_X6_in : GoodIn wsX6_isBooking (va_wsS RX6 78 yX6_in wsX6_in) := goodIn_app (goodIn_of _ (by decide +kernel)) ggX6_isBooking_X6_in
set_option maxRecDepth 20000 in
theorem ggX6_isBooking_X6_holds : GoodIn wsX6_isBooking wsX6_holds := goodIn_r _ [9, 10, 11, 12, 13, 14, 15, 16, 17, 18, 19, 20, 21, 22, 23, 24, 25, 26, 27, 28, 29, 30, 31, 32, 33, 34, 35, 36] (by decide +kernel) (by decide +kernel)
set_option maxRecDepth 20000 in
theorem gX6_isBooking_X6_holds : GoodIn wsX6_isBooking (wsV RX6 90 RX6 yX6_holds wsX6_holds) := goodIn_app (goodIn_of _ (by decide +kernel)) ggX6_isBooking_X6_holds
theorem dX6_isBooking_0 : decode cX6_isBooking 0 = .ok (.aload_n 0, 1) := by decide +kernel
theorem dX6_isBooking_1 : decode cX6_isBooking 1 = .ok (.iload_n 1, 1) := by decide +kernel
theorem dX6_isBooking_2 : decode cX6_isBooking 2 = .ok (.iconst 0, 1) := by decide +kernel
theorem dX6_isBooking_3 : decode cX6_isBooking 3 = .ok (.aload_n 0, 1) := by decide +kernel
theorem dX6_isBooking_4 : decode cX6_isBooking 4 = .ok (.getfield 96, 3) := by decide +kernel
theorem dX6_isBooking_7 : decode cX6_isBooking 7 = .ok (.iconst 1, 1) := by decide +kernel
theorem dX6_isBooking_8 : decode cX6_isBooking 8 = .ok (.isub, 1) := by decide +kernel
theorem dX6_isBooking_9 : decode cX6_isBooking 9 = .ok (.invokestatic 78, 3) := by decide +kernel
theorem dX6_isBooking_12 : decode cX6_isBooking 12 = .ok (.ifCond .eq 7, 3) := by decide +kernel
theorem dX6_isBooking_15 : decode cX6_isBooking 15 = .ok (.iconst 0, 1) := by decide +kernel
theorem dX6_isBooking_16 : decode cX6_isBooking 16 = .ok (.goto 4, 3) := by decide +kernel
theorem dX6_isBooking_19 : decode cX6_isBooking 19 = .ok (.iconst 1, 1) := by decide +kernel
theorem dX6_isBooking_20 : decode cX6_isBooking 20 = .ok (.invokevirtual 90, 3) := by decide +kernel
theorem dX6_isBooking_23 : decode cX6_isBooking 23 = .ok (.ireturn, 1) := by decide +kernel
set_option maxRecDepth 20000 in
theorem ggX6_booking_X6_isBooking : GoodIn wsX6_booking wsX6_isBooking := goodIn_r _ [6, 7, 8, 9, 5, 10, 11, 12, 13, 14, 15, 16, 17, 18, 19, 20, 21, 22, 23, 24, 25, 26, 27, 28, 29, 30, 31, 32, 33, 34, 35, 36, 37, 38, 39, 40, 41] (by decide +kernel) (by decide +kernel)
set_option maxRecDepth 20000 in
theorem gX6_booking_X6_isBooking : GoodIn wsX6_booking (wsV RX6 126 RX6 yX6_isBooking wsX6_isBooking) := goodIn_app (goodIn_of _ (by decide +kernel)) ggX6_booking_X6_isBooking
theorem dX6_booking_0 : decode cX6_booking 0 = .ok (.aload_n 0, 1) := by decide +kernel
theorem dX6_booking_1 : decode cX6_booking 1 = .ok (.iload_n 1, 1) := by decide +kernel
theorem dX6_booking_2 : decode cX6_booking 2 = .ok (.invokevirtual 126, 3) := by decide +kernel
theorem dX6_booking_5 : decode cX6_booking 5 = .ok (.ifCond .eq 12, 3) := by decide +kernel
theorem dX6_booking_8 : decode cX6_booking 8 = .ok (.aload_n 0, 1) := by decide +kernel
theorem dX6_booking_9 : decode cX6_booking 9 = .ok (.getfield 47, 3) := by decide +kernel
theorem dX6_booking_12 : decode cX6_booking 12 = .ok (.iload_n 1, 1) := by decide +kernel
theorem dX6_booking_13 : decode cX6_booking 13 = .ok (.iaload, 1) := by decide +kernel
theorem dX6_booking_14 : decode cX6_booking 14 = .ok (.goto 4, 3) := by decide +kernel
theorem dX6_booking_17 : decode cX6_booking 17 = .ok (.iconst 0, 1) := by decide +kernel
theorem dX6_booking_18 : decode cX6_booking 18 = .ok (.ireturn, 1) := by decide +kernel
set_option maxRecDepth 20000 in
theorem ggX6_late_X6_isBooking : GoodIn wsX6_late wsX6_isBooking := goodIn_r _ [7, 8, 9, 10, 6, 11, 12, 13, 14, 15, 16, 17, 18, 19, 20, 21, 22, 23, 24, 25, 26, 27, 28, 29, 30, 31, 32, 33, 34, 35, 36, 37, 38, 39, 40, 41, 42] (by decide +kernel) (by decide +kernel)
set_option maxRecDepth 20000 in
theorem gX6_late_X6_isBooking : GoodIn wsX6_late (wsV RX6 126 RX6 yX6_isBooking wsX6_isBooking) := goodIn_app (goodIn_of _ (by decide +kernel)) ggX6_late_X6_isBooking
theorem dX6_late_0 : decode cX6_late 0 = .ok (.aload_n 0, 1) := by decide +kernel
theorem dX6_late_1 : decode cX6_late 1 = .ok (.iload_n 1, 1) := by decide +kernel
theorem dX6_late_2 : decode cX6_late 2 = .ok (.invokevirtual 126, 3) := by decide +kernel
theorem dX6_late_5 : decode cX6_late 5 = .ok (.ifCond .ne 7, 3) := by decide +kernel
theorem dX6_late_8 : decode cX6_late 8 = .ok (.iconst 0, 1) := by decide +kernel
theorem dX6_late_9 : decode cX6_late 9 = .ok (.goto 23, 3) := by decide +kernel
theorem dX6_late_12 : decode cX6_late 12 = .ok (.aload_n 0, 1) := by decide +kernel
theorem dX6_late_13 : decode cX6_late 13 = .ok (.getfield 47, 3) := by decide +kernel
theorem dX6_late_16 : decode cX6_late 16 = .ok (.iload_n 1, 1) := by decide +kernel
theorem dX6_late_17 : decode cX6_late 17 = .ok (.iaload, 1) := by decide +kernel
theorem dX6_late_18 : decode cX6_late 18 = .ok (.iconst 1, 1) := by decide +kernel
theorem dX6_late_19 : decode cX6_late 19 = .ok (.if_icmp .ne 12, 3) := by decide +kernel
theorem dX6_late_22 : decode cX6_late 22 = .ok (.aload_n 0, 1) := by decide +kernel
theorem dX6_late_23 : decode cX6_late 23 = .ok (.getfield 50, 3) := by decide +kernel
theorem dX6_late_26 : decode cX6_late 26 = .ok (.iload_n 1, 1) := by decide +kernel
theorem dX6_late_27 : decode cX6_late 27 = .ok (.iaload, 1) := by decide +kernel
theorem dX6_late_28 : decode cX6_late 28 = .ok (.goto 4, 3) := by decide +kernel
theorem dX6_late_31 : decode cX6_late 31 = .ok (.iconst (-1), 1) := by decide +kernel
theorem dX6_late_32 : decode cX6_late 32 = .ok (.ireturn, 1) := by decide +kernel
set_option maxRecDepth 20000 in
theorem ggX6_isSiding_X6_in : GoodIn wsX6_isSiding wsX6_in := goodIn_r _ [4] (by decide +kernel) (by decide +kernel)
set_option maxRecDepth 20000 in
theorem gX6_isSiding_X6_in : GoodIn wsX6_isSiding (va_wsS RX6 78 yX6_in wsX6_in) := goodIn_app (goodIn_of _ (by decide +kernel)) ggX6_isSiding_X6_in
theorem dX6_isSiding_0 : decode cX6_isSiding 0 = .ok (.iload_n 0, 1) := by decide +kernel
theorem dX6_isSiding_1 : decode cX6_isSiding 1 = .ok (.bipush 6, 2) := by decide +kernel
theorem dX6_isSiding_3 : decode cX6_isSiding 3 = .ok (.bipush 7, 2) := by decide +kernel
theorem dX6_isSiding_5 : decode cX6_isSiding 5 = .ok (.invokestatic 78, 3) := by decide +kernel
theorem dX6_isSiding_8 : decode cX6_isSiding 8 = .ok (.ireturn, 1) := by decide +kernel
theorem dX6_many_0 : decode cX6_many 0 = .ok (.iconst 0, 1) := by decide +kernel
theorem dX6_many_1 : decode cX6_many 1 = .ok (.istore_n 2, 1) := by decide +kernel
theorem dX6_many_2 : decode cX6_many 2 = .ok (.iconst 0, 1) := by decide +kernel
theorem dX6_many_3 : decode cX6_many 3 = .ok (.istore_n 3, 1) := by decide +kernel
theorem dX6_many_4 : decode cX6_many 4 = .ok (.iload_n 3, 1) := by decide +kernel
theorem dX6_many_5 : decode cX6_many 5 = .ok (.aload_n 0, 1) := by decide +kernel
theorem dX6_many_6 : decode cX6_many 6 = .ok (.getfield 129, 3) := by decide +kernel
theorem dX6_many_9 : decode cX6_many 9 = .ok (.if_icmp .ge 27, 3) := by decide +kernel
theorem dX6_many_12 : decode cX6_many 12 = .ok (.iload_n 2, 1) := by decide +kernel
theorem dX6_many_13 : decode cX6_many 13 = .ok (.aload_n 0, 1) := by decide +kernel
theorem dX6_many_14 : decode cX6_many 14 = .ok (.getfield 56, 3) := by decide +kernel
theorem dX6_many_17 : decode cX6_many 17 = .ok (.iload_n 3, 1) := by decide +kernel
theorem dX6_many_18 : decode cX6_many 18 = .ok (.iaload, 1) := by decide +kernel
theorem dX6_many_19 : decode cX6_many 19 = .ok (.iload_n 1, 1) := by decide +kernel
theorem dX6_many_20 : decode cX6_many 20 = .ok (.if_icmp .ne 7, 3) := by decide +kernel
theorem dX6_many_23 : decode cX6_many 23 = .ok (.iconst 1, 1) := by decide +kernel
theorem dX6_many_24 : decode cX6_many 24 = .ok (.goto 4, 3) := by decide +kernel
theorem dX6_many_27 : decode cX6_many 27 = .ok (.iconst 0, 1) := by decide +kernel
theorem dX6_many_28 : decode cX6_many 28 = .ok (.iadd, 1) := by decide +kernel
theorem dX6_many_29 : decode cX6_many 29 = .ok (.istore_n 2, 1) := by decide +kernel
theorem dX6_many_30 : decode cX6_many 30 = .ok (.iinc 3 1, 3) := by decide +kernel
theorem dX6_many_33 : decode cX6_many 33 = .ok (.goto (-29), 3) := by decide +kernel
theorem dX6_many_36 : decode cX6_many 36 = .ok (.iload_n 2, 1) := by decide +kernel
theorem dX6_many_37 : decode cX6_many 37 = .ok (.ireturn, 1) := by decide +kernel
theorem dX6_waggon_0 : decode cX6_waggon 0 = .ok (.iconst 0, 1) := by decide +kernel
theorem dX6_waggon_1 : decode cX6_waggon 1 = .ok (.istore_n 3, 1) := by decide +kernel
theorem dX6_waggon_2 : decode cX6_waggon 2 = .ok (.iload_n 3, 1) := by decide +kernel
theorem dX6_waggon_3 : decode cX6_waggon 3 = .ok (.aload_n 0, 1) := by decide +kernel
theorem dX6_waggon_4 : decode cX6_waggon 4 = .ok (.getfield 129, 3) := by decide +kernel
theorem dX6_waggon_7 : decode cX6_waggon 7 = .ok (.if_icmp .ge 31, 3) := by decide +kernel
theorem dX6_waggon_10 : decode cX6_waggon 10 = .ok (.aload_n 0, 1) := by decide +kernel
theorem dX6_waggon_11 : decode cX6_waggon 11 = .ok (.getfield 56, 3) := by decide +kernel
theorem dX6_waggon_14 : decode cX6_waggon 14 = .ok (.iload_n 3, 1) := by decide +kernel
theorem dX6_waggon_15 : decode cX6_waggon 15 = .ok (.iaload, 1) := by decide +kernel
theorem dX6_waggon_16 : decode cX6_waggon 16 = .ok (.iload_n 1, 1) := by decide +kernel
theorem dX6_waggon_17 : decode cX6_waggon 17 = .ok (.if_icmp .ne 15, 3) := by decide +kernel
theorem dX6_waggon_20 : decode cX6_waggon 20 = .ok (.aload_n 0, 1) := by decide +kernel
theorem dX6_waggon_21 : decode cX6_waggon 21 = .ok (.getfield 59, 3) := by decide +kernel
theorem dX6_waggon_24 : decode cX6_waggon 24 = .ok (.iload_n 3, 1) := by decide +kernel
theorem dX6_waggon_25 : decode cX6_waggon 25 = .ok (.iaload, 1) := by decide +kernel
theorem dX6_waggon_26 : decode cX6_waggon 26 = .ok (.iload_n 2, 1) := by decide +kernel
theorem dX6_waggon_27 : decode cX6_waggon 27 = .ok (.if_icmp .ne 5, 3) := by decide +kernel
theorem dX6_waggon_30 : decode cX6_waggon 30 = .ok (.iload_n 3, 1) := by decide +kernel
theorem dX6_waggon_31 : decode cX6_waggon 31 = .ok (.ireturn, 1) := by decide +kernel
theorem dX6_waggon_32 : decode cX6_waggon 32 = .ok (.iinc 3 1, 3) := by decide +kernel
theorem dX6_waggon_35 : decode cX6_waggon 35 = .ok (.goto (-33), 3) := by decide +kernel
theorem dX6_waggon_38 : decode cX6_waggon 38 = .ok (.iconst (-1), 1) := by decide +kernel
theorem dX6_waggon_39 : decode cX6_waggon 39 = .ok (.ireturn, 1) := by decide +kernel
set_option maxRecDepth 20000 in
theorem ggX6_comes_X6_many : GoodIn wsX6_comes wsX6_many := goodIn_r _ [7, 8, 1, 9, 10, 11, 12, 13, 14, 15, 16, 17, 18, 19, 20, 21, 22, 23, 24, 25, 26, 27, 28, 29, 30, 31, 32, 33, 34] (by decide +kernel) (by decide +kernel)
set_option maxRecDepth 20000 in
theorem gX6_comes_X6_many : GoodIn wsX6_comes (wsV RX6 132 RX6 yX6_many wsX6_many) := goodIn_app (goodIn_of _ (by decide +kernel)) ggX6_comes_X6_many
theorem dX6_comes_0 : decode cX6_comes 0 = .ok (.aload_n 0, 1) := by decide +kernel
theorem dX6_comes_1 : decode cX6_comes 1 = .ok (.iload_n 2, 1) := by decide +kernel
theorem dX6_comes_2 : decode cX6_comes 2 = .ok (.invokevirtual 132, 3) := by decide +kernel
theorem dX6_comes_5 : decode cX6_comes 5 = .ok (.istore_n 3, 1) := by decide +kernel
theorem dX6_comes_6 : decode cX6_comes 6 = .ok (.aload_n 0, 1) := by decide +kernel
theorem dX6_comes_7 : decode cX6_comes 7 = .ok (.getfield 56, 3) := by decide +kernel
theorem dX6_comes_10 : decode cX6_comes 10 = .ok (.iload_n 1, 1) := by decide +kernel
theorem dX6_comes_11 : decode cX6_comes 11 = .ok (.iload_n 2, 1) := by decide +kernel
theorem dX6_comes_12 : decode cX6_comes 12 = .ok (.iastore, 1) := by decide +kernel
theorem dX6_comes_13 : decode cX6_comes 13 = .ok (.aload_n 0, 1) := by decide +kernel
theorem dX6_comes_14 : decode cX6_comes 14 = .ok (.getfield 59, 3) := by decide +kernel
theorem dX6_comes_17 : decode cX6_comes 17 = .ok (.iload_n 1, 1) := by decide +kernel
theorem dX6_comes_18 : decode cX6_comes 18 = .ok (.iload_n 3, 1) := by decide +kernel
theorem dX6_comes_19 : decode cX6_comes 19 = .ok (.iastore, 1) := by decide +kernel
theorem dX6_comes_20 : decode cX6_comes 20 = .ok (.return_, 1) := by decide +kernel
set_option maxRecDepth 20000 in
theorem ggX6_addWaggon_X6_isSiding : GoodIn wsX6_addWaggon wsX6_isSiding := goodIn_r _ [6, 7, 8, 5, 9] (by decide +kernel) (by decide +kernel)
set_option maxRecDepth 20000 in
theorem gX6_addWaggon_X6_isSiding : GoodIn wsX6_addWaggon (va_wsS RX6 135 yX6_isSiding wsX6_isSiding) := goodIn_app (goodIn_of _ (by decide +kernel)) ggX6_addWaggon_X6_isSiding
set_option maxRecDepth 20000 in
theorem ggX6_addWaggon_X6_many : GoodIn wsX6_addWaggon wsX6_many := goodIn_r _ [13, 1, 14, 25, 26, 27, 28, 29, 30, 31, 32, 33, 34, 35, 36, 37, 38, 39, 40, 41, 42, 43, 44, 45, 46, 47, 48, 49, 50] (by decide +kernel) (by decide +kernel)
set_option maxRecDepth 20000 in
theorem gX6_addWaggon_X6_many : GoodIn wsX6_addWaggon (wsV RX6 132 RX6 yX6_many wsX6_many) := goodIn_app (goodIn_of _ (by decide +kernel)) ggX6_addWaggon_X6_many
set_option maxRecDepth 20000 in
theorem ggX6_addWaggon_X6_in : GoodIn wsX6_addWaggon wsX6_in := goodIn_r _ [9] (by decide +kernel) (by decide +kernel)
set_option maxRecDepth 20000 in
theorem gX6_addWaggon_X6_in : GoodIn wsX6_addWaggon (va_wsS RX6 78 yX6_in wsX6_in) := goodIn_app (goodIn_of _ (by decide +kernel)) ggX6_addWaggon_X6_in
set_option maxRecDepth 20000 in
theorem ggX6_addWaggon_X6_holds : GoodIn wsX6_addWaggon wsX6_holds := goodIn_r _ [18, 19, 25, 26, 27, 28, 29, 30, 31, 32, 33, 34, 35, 36, 37, 38, 39, 40, 41, 42, 43, 44, 45, 46, 47, 48, 49, 50] (by decide +kernel) (by decide +kernel)
set_option maxRecDepth 20000 in
theorem gX6_addWaggon_X6_holds : GoodIn wsX6_addWaggon (wsV RX6 90 RX6 yX6_holds wsX6_holds) := goodIn_app (goodIn_of _ (by decide +kernel)) ggX6_addWaggon_X6_holds
set_option maxRecDepth 20000 in
theorem ggX6_addWaggon_X6_comes : GoodIn wsX6_addWaggon wsX6_comes := goodIn_r _ [23, 14, 24, 10, 11, 12, 5, 13, 1, 25, 26, 27, 28, 29, 30, 31, 32, 33, 34, 35, 36, 37, 38, 39, 40, 41, 42, 43, 44, 45, 46, 47, 48, 49, 50] (by decide +kernel) (by decide +kernel)
set_option maxRecDepth 20000 in
theorem gX6_addWaggon_X6_comes : GoodIn wsX6_addWaggon (wsV RX6 138 RX6 yX6_comes wsX6_comes) := goodIn_app (goodIn_of _ (by decide +kernel)) ggX6_addWaggon_X6_comes
theorem dX6_addWaggon_0 : decode cX6_addWaggon 0 = .ok (.aload_n 0, 1) := by decide +kernel
theorem dX6_addWaggon_1 : decode cX6_addWaggon 1 = .ok (.getfield 129, 3) := by decide +kernel
theorem dX6_addWaggon_4 : decode cX6_addWaggon 4 = .ok (.bipush 8, 2) := by decide +kernel
theorem dX6_addWaggon_6 : decode cX6_addWaggon 6 = .ok (.if_icmp .eq 19, 3) := by decide +kernel
theorem dX6_addWaggon_9 : decode cX6_addWaggon 9 = .ok (.iload_n 1, 1) := by decide +kernel
theorem dX6_addWaggon_10 : decode cX6_addWaggon 10 = .ok (.invokestatic 135, 3) := by decide +kernel
theorem dX6_addWaggon_13 : decode cX6_addWaggon 13 = .ok (.ifCond .eq 16, 3) := by decide +kernel
theorem dX6_addWaggon_16 : decode cX6_addWaggon 16 = .ok (.aload_n 0, 1) := by decide +kernel
theorem dX6_addWaggon_17 : decode cX6_addWaggon 17 = .ok (.iload_n 1, 1) := by decide +kernel
theorem dX6_addWaggon_18 : decode cX6_addWaggon 18 = .ok (.invokevirtual 132, 3) := by decide +kernel
theorem dX6_addWaggon_21 : decode cX6_addWaggon 21 = .ok (.iconst 4, 1) := by decide +kernel
theorem dX6_addWaggon_22 : decode cX6_addWaggon 22 = .ok (.if_icmp .ne 7, 3) := by decide +kernel
theorem dX6_addWaggon_25 : decode cX6_addWaggon 25 = .ok (.iconst 1, 1) := by decide +kernel
theorem dX6_addWaggon_26 : decode cX6_addWaggon 26 = .ok (.goto 4, 3) := by decide +kernel
theorem dX6_addWaggon_29 : decode cX6_addWaggon 29 = .ok (.iconst 0, 1) := by decide +kernel
theorem dX6_addWaggon_30 : decode cX6_addWaggon 30 = .ok (.istore_n 3, 1) := by decide +kernel
theorem dX6_addWaggon_31 : decode cX6_addWaggon 31 = .ok (.aload_n 0, 1) := by decide +kernel
theorem dX6_addWaggon_32 : decode cX6_addWaggon 32 = .ok (.iload_n 1, 1) := by decide +kernel
theorem dX6_addWaggon_33 : decode cX6_addWaggon 33 = .ok (.invokestatic 135, 3) := by decide +kernel
theorem dX6_addWaggon_36 : decode cX6_addWaggon 36 = .ok (.ifCond .ne 7, 3) := by decide +kernel
theorem dX6_addWaggon_39 : decode cX6_addWaggon 39 = .ok (.iconst 1, 1) := by decide +kernel
theorem dX6_addWaggon_40 : decode cX6_addWaggon 40 = .ok (.goto 26, 3) := by decide +kernel
theorem dX6_addWaggon_43 : decode cX6_addWaggon 43 = .ok (.iload_n 2, 1) := by decide +kernel
theorem dX6_addWaggon_44 : decode cX6_addWaggon 44 = .ok (.iconst 1, 1) := by decide +kernel
theorem dX6_addWaggon_45 : decode cX6_addWaggon 45 = .ok (.bipush 100, 2) := by decide +kernel
theorem dX6_addWaggon_47 : decode cX6_addWaggon 47 = .ok (.invokestatic 78, 3) := by decide +kernel
theorem dX6_addWaggon_50 : decode cX6_addWaggon 50 = .ok (.ifCond .ne 7, 3) := by decide +kernel
theorem dX6_addWaggon_53 : decode cX6_addWaggon 53 = .ok (.iconst 2, 1) := by decide +kernel
theorem dX6_addWaggon_54 : decode cX6_addWaggon 54 = .ok (.goto 12, 3) := by decide +kernel
theorem dX6_addWaggon_57 : decode cX6_addWaggon 57 = .ok (.iload_n 3, 1) := by decide +kernel
theorem dX6_addWaggon_58 : decode cX6_addWaggon 58 = .ok (.ifCond .eq 7, 3) := by decide +kernel
theorem dX6_addWaggon_61 : decode cX6_addWaggon 61 = .ok (.iconst 3, 1) := by decide +kernel
theorem dX6_addWaggon_62 : decode cX6_addWaggon 62 = .ok (.goto 4, 3) := by decide +kernel
theorem dX6_addWaggon_65 : decode cX6_addWaggon 65 = .ok (.iconst 0, 1) := by decide +kernel
theorem dX6_addWaggon_66 : decode cX6_addWaggon 66 = .ok (.invokevirtual 90, 3) := by decide +kernel
theorem dX6_addWaggon_69 : decode cX6_addWaggon 69 = .ok (.ifCond .ne 5, 3) := by decide +kernel
theorem dX6_addWaggon_72 : decode cX6_addWaggon 72 = .ok (.iconst 0, 1) := by decide +kernel
theorem dX6_addWaggon_73 : decode cX6_addWaggon 73 = .ok (.ireturn, 1) := by decide +kernel
theorem dX6_addWaggon_74 : decode cX6_addWaggon 74 = .ok (.aload_n 0, 1) := by decide +kernel
theorem dX6_addWaggon_75 : decode cX6_addWaggon 75 = .ok (.getfield 53, 3) := by decide +kernel
theorem dX6_addWaggon_78 : decode cX6_addWaggon 78 = .ok (.aload_n 0, 1) := by decide +kernel
theorem dX6_addWaggon_79 : decode cX6_addWaggon 79 = .ok (.getfield 129, 3) := by decide +kernel
theorem dX6_addWaggon_82 : decode cX6_addWaggon 82 = .ok (.iload_n 2, 1) := by decide +kernel
theorem dX6_addWaggon_83 : decode cX6_addWaggon 83 = .ok (.iastore, 1) := by decide +kernel
theorem dX6_addWaggon_84 : decode cX6_addWaggon 84 = .ok (.aload_n 0, 1) := by decide +kernel
theorem dX6_addWaggon_85 : decode cX6_addWaggon 85 = .ok (.aload_n 0, 1) := by decide +kernel
theorem dX6_addWaggon_86 : decode cX6_addWaggon 86 = .ok (.getfield 129, 3) := by decide +kernel
theorem dX6_addWaggon_89 : decode cX6_addWaggon 89 = .ok (.iload_n 1, 1) := by decide +kernel
theorem dX6_addWaggon_90 : decode cX6_addWaggon 90 = .ok (.invokevirtual 138, 3) := by decide +kernel
theorem dX6_addWaggon_93 : decode cX6_addWaggon 93 = .ok (.aload_n 0, 1) := by decide +kernel
theorem dX6_addWaggon_94 : decode cX6_addWaggon 94 = .ok (.dup, 1) := by decide +kernel
theorem dX6_addWaggon_95 : decode cX6_addWaggon 95 = .ok (.getfield 129, 3) := by decide +kernel
theorem dX6_addWaggon_98 : decode cX6_addWaggon 98 = .ok (.iconst 1, 1) := by decide +kernel
theorem dX6_addWaggon_99 : decode cX6_addWaggon 99 = .ok (.iadd, 1) := by decide +kernel
theorem dX6_addWaggon_100 : decode cX6_addWaggon 100 = .ok (.putfield 129, 3) := by decide +kernel
theorem dX6_addWaggon_103 : decode cX6_addWaggon 103 = .ok (.aload_n 0, 1) := by decide +kernel
theorem dX6_addWaggon_104 : decode cX6_addWaggon 104 = .ok (.getfield 129, 3) := by decide +kernel
theorem dX6_addWaggon_107 : decode cX6_addWaggon 107 = .ok (.iconst 1, 1) := by decide +kernel
theorem dX6_addWaggon_108 : decode cX6_addWaggon 108 = .ok (.isub, 1) := by decide +kernel
theorem dX6_addWaggon_109 : decode cX6_addWaggon 109 = .ok (.ireturn, 1) := by decide +kernel
set_option maxRecDepth 20000 in
theorem ggX6_offer_X6_in : GoodIn wsX6_offer wsX6_in := goodIn_r _ [8] (by decide +kernel) (by decide +kernel)
set_option maxRecDepth 20000 in
theorem gX6_offer_X6_in : GoodIn wsX6_offer (va_wsS RX6 78 yX6_in wsX6_in) := goodIn_app (goodIn_of _ (by decide +kernel)) ggX6_offer_X6_in
set_option maxRecDepth 20000 in
theorem ggX6_offer_X6_isSiding : GoodIn wsX6_offer wsX6_isSiding := goodIn_r _ [11, 5, 6, 7, 8] (by decide +kernel) (by decide +kernel)
set_option maxRecDepth 20000 in
theorem gX6_offer_X6_isSiding : GoodIn wsX6_offer (va_wsS RX6 135 yX6_isSiding wsX6_isSiding) := goodIn_app (goodIn_of _ (by decide +kernel)) ggX6_offer_X6_isSiding
set_option maxRecDepth 20000 in
theorem ggX6_offer_X6_holds : GoodIn wsX6_offer wsX6_holds := goodIn_r _ [15, 16, 17, 18, 19, 20, 21, 22, 23, 24, 25, 26, 27, 28, 29, 30, 31, 32, 33, 34, 35, 36, 37, 38, 39, 40, 41, 42] (by decide +kernel) (by decide +kernel)
set_option maxRecDepth 20000 in
theorem gX6_offer_X6_holds : GoodIn wsX6_offer (wsV RX6 90 RX6 yX6_holds wsX6_holds) := goodIn_app (goodIn_of _ (by decide +kernel)) ggX6_offer_X6_holds
theorem dX6_offer_0 : decode cX6_offer 0 = .ok (.iload_n 1, 1) := by decide +kernel
theorem dX6_offer_1 : decode cX6_offer 1 = .ok (.iconst 0, 1) := by decide +kernel
theorem dX6_offer_2 : decode cX6_offer 2 = .ok (.aload_n 0, 1) := by decide +kernel
theorem dX6_offer_3 : decode cX6_offer 3 = .ok (.getfield 129, 3) := by decide +kernel
theorem dX6_offer_6 : decode cX6_offer 6 = .ok (.iconst 1, 1) := by decide +kernel
theorem dX6_offer_7 : decode cX6_offer 7 = .ok (.isub, 1) := by decide +kernel
theorem dX6_offer_8 : decode cX6_offer 8 = .ok (.invokestatic 78, 3) := by decide +kernel
theorem dX6_offer_11 : decode cX6_offer 11 = .ok (.ifCond .eq 14, 3) := by decide +kernel
theorem dX6_offer_14 : decode cX6_offer 14 = .ok (.iload_n 2, 1) := by decide +kernel
theorem dX6_offer_15 : decode cX6_offer 15 = .ok (.invokestatic 135, 3) := by decide +kernel
theorem dX6_offer_18 : decode cX6_offer 18 = .ok (.ifCond .eq 7, 3) := by decide +kernel
theorem dX6_offer_21 : decode cX6_offer 21 = .ok (.iconst 1, 1) := by decide +kernel
theorem dX6_offer_22 : decode cX6_offer 22 = .ok (.goto 4, 3) := by decide +kernel
theorem dX6_offer_25 : decode cX6_offer 25 = .ok (.iconst 0, 1) := by decide +kernel
theorem dX6_offer_26 : decode cX6_offer 26 = .ok (.istore 5, 2) := by decide +kernel
theorem dX6_offer_28 : decode cX6_offer 28 = .ok (.aload_n 0, 1) := by decide +kernel
theorem dX6_offer_29 : decode cX6_offer 29 = .ok (.iload 5, 2) := by decide +kernel
theorem dX6_offer_31 : decode cX6_offer 31 = .ok (.ifCond .ne 7, 3) := by decide +kernel
theorem dX6_offer_34 : decode cX6_offer 34 = .ok (.iconst 1, 1) := by decide +kernel
theorem dX6_offer_35 : decode cX6_offer 35 = .ok (.goto 31, 3) := by decide +kernel
theorem dX6_offer_38 : decode cX6_offer 38 = .ok (.iload_n 3, 1) := by decide +kernel
theorem dX6_offer_39 : decode cX6_offer 39 = .ok (.iconst 0, 1) := by decide +kernel
theorem dX6_offer_40 : decode cX6_offer 40 = .ok (.sipush 5000, 3) := by decide +kernel
theorem dX6_offer_43 : decode cX6_offer 43 = .ok (.invokestatic 78, 3) := by decide +kernel
theorem dX6_offer_46 : decode cX6_offer 46 = .ok (.ifCond .eq 19, 3) := by decide +kernel
theorem dX6_offer_49 : decode cX6_offer 49 = .ok (.iload 4, 2) := by decide +kernel
theorem dX6_offer_51 : decode cX6_offer 51 = .ok (.iconst 1, 1) := by decide +kernel
theorem dX6_offer_52 : decode cX6_offer 52 = .ok (.sipush 1000, 3) := by decide +kernel
theorem dX6_offer_55 : decode cX6_offer 55 = .ok (.invokestatic 78, 3) := by decide +kernel
theorem dX6_offer_58 : decode cX6_offer 58 = .ok (.ifCond .eq 7, 3) := by decide +kernel
theorem dX6_offer_61 : decode cX6_offer 61 = .ok (.iconst 0, 1) := by decide +kernel
theorem dX6_offer_62 : decode cX6_offer 62 = .ok (.goto 4, 3) := by decide +kernel
theorem dX6_offer_65 : decode cX6_offer 65 = .ok (.iconst 2, 1) := by decide +kernel
theorem dX6_offer_66 : decode cX6_offer 66 = .ok (.invokevirtual 90, 3) := by decide +kernel
theorem dX6_offer_69 : decode cX6_offer 69 = .ok (.ifCond .eq 25, 3) := by decide +kernel
theorem dX6_offer_72 : decode cX6_offer 72 = .ok (.aload_n 0, 1) := by decide +kernel
theorem dX6_offer_73 : decode cX6_offer 73 = .ok (.getfield 62, 3) := by decide +kernel
theorem dX6_offer_76 : decode cX6_offer 76 = .ok (.iload_n 1, 1) := by decide +kernel
theorem dX6_offer_77 : decode cX6_offer 77 = .ok (.iload_n 2, 1) := by decide +kernel
theorem dX6_offer_78 : decode cX6_offer 78 = .ok (.iastore, 1) := by decide +kernel
theorem dX6_offer_79 : decode cX6_offer 79 = .ok (.aload_n 0, 1) := by decide +kernel
theorem dX6_offer_80 : decode cX6_offer 80 = .ok (.getfield 65, 3) := by decide +kernel
theorem dX6_offer_83 : decode cX6_offer 83 = .ok (.iload_n 1, 1) := by decide +kernel
theorem dX6_offer_84 : decode cX6_offer 84 = .ok (.iload_n 3, 1) := by decide +kernel
theorem dX6_offer_85 : decode cX6_offer 85 = .ok (.iastore, 1) := by decide +kernel
theorem dX6_offer_86 : decode cX6_offer 86 = .ok (.aload_n 0, 1) := by decide +kernel
theorem dX6_offer_87 : decode cX6_offer 87 = .ok (.getfield 68, 3) := by decide +kernel
theorem dX6_offer_90 : decode cX6_offer 90 = .ok (.iload_n 1, 1) := by decide +kernel
theorem dX6_offer_91 : decode cX6_offer 91 = .ok (.iload 4, 2) := by decide +kernel
theorem dX6_offer_93 : decode cX6_offer 93 = .ok (.iastore, 1) := by decide +kernel
theorem dX6_offer_94 : decode cX6_offer 94 = .ok (.return_, 1) := by decide +kernel
theorem dX6_weight_0 : decode cX6_weight 0 = .ok (.iconst 0, 1) := by decide +kernel
theorem dX6_weight_1 : decode cX6_weight 1 = .ok (.istore_n 2, 1) := by decide +kernel
theorem dX6_weight_2 : decode cX6_weight 2 = .ok (.iconst 0, 1) := by decide +kernel
theorem dX6_weight_3 : decode cX6_weight 3 = .ok (.istore_n 3, 1) := by decide +kernel
theorem dX6_weight_4 : decode cX6_weight 4 = .ok (.iload_n 3, 1) := by decide +kernel
theorem dX6_weight_5 : decode cX6_weight 5 = .ok (.aload_n 0, 1) := by decide +kernel
theorem dX6_weight_6 : decode cX6_weight 6 = .ok (.getfield 129, 3) := by decide +kernel
theorem dX6_weight_9 : decode cX6_weight 9 = .ok (.if_icmp .ge 32, 3) := by decide +kernel
theorem dX6_weight_12 : decode cX6_weight 12 = .ok (.iload_n 2, 1) := by decide +kernel
theorem dX6_weight_13 : decode cX6_weight 13 = .ok (.aload_n 0, 1) := by decide +kernel
theorem dX6_weight_14 : decode cX6_weight 14 = .ok (.getfield 56, 3) := by decide +kernel
theorem dX6_weight_17 : decode cX6_weight 17 = .ok (.iload_n 3, 1) := by decide +kernel
theorem dX6_weight_18 : decode cX6_weight 18 = .ok (.iaload, 1) := by decide +kernel
theorem dX6_weight_19 : decode cX6_weight 19 = .ok (.iload_n 1, 1) := by decide +kernel
theorem dX6_weight_20 : decode cX6_weight 20 = .ok (.if_icmp .ne 12, 3) := by decide +kernel
theorem dX6_weight_23 : decode cX6_weight 23 = .ok (.aload_n 0, 1) := by decide +kernel
theorem dX6_weight_24 : decode cX6_weight 24 = .ok (.getfield 53, 3) := by decide +kernel
theorem dX6_weight_27 : decode cX6_weight 27 = .ok (.iload_n 3, 1) := by decide +kernel
theorem dX6_weight_28 : decode cX6_weight 28 = .ok (.iaload, 1) := by decide +kernel
theorem dX6_weight_29 : decode cX6_weight 29 = .ok (.goto 4, 3) := by decide +kernel
theorem dX6_weight_32 : decode cX6_weight 32 = .ok (.iconst 0, 1) := by decide +kernel
theorem dX6_weight_33 : decode cX6_weight 33 = .ok (.iadd, 1) := by decide +kernel
theorem dX6_weight_34 : decode cX6_weight 34 = .ok (.istore_n 2, 1) := by decide +kernel
theorem dX6_weight_35 : decode cX6_weight 35 = .ok (.iinc 3 1, 3) := by decide +kernel
theorem dX6_weight_38 : decode cX6_weight 38 = .ok (.goto (-34), 3) := by decide +kernel
theorem dX6_weight_41 : decode cX6_weight 41 = .ok (.iload_n 2, 1) := by decide +kernel
theorem dX6_weight_42 : decode cX6_weight 42 = .ok (.ireturn, 1) := by decide +kernel
set_option maxRecDepth 20000 in
theorem ggX6_errorOfCouple_X6_isTrain : GoodIn wsX6_errorOfCouple wsX6_isTrain := goodIn_r _ [7, 8, 9, 10, 6, 11, 30, 31, 32, 33, 34, 35, 36, 37, 38, 39, 40, 41, 42, 43, 44, 45, 46, 47, 48, 49, 50, 51, 52, 53, 54, 55] (by decide +kernel) (by decide +kernel)
set_option maxRecDepth 20000 in
theorem gX6_errorOfCouple_X6_isTrain : GoodIn wsX6_errorOfCouple (wsV RX6 93 RX6 yX6_isTrain wsX6_isTrain) := goodIn_app (goodIn_of _ (by decide +kernel)) ggX6_errorOfCouple_X6_isTrain
set_option maxRecDepth 20000 in
theorem ggX6_errorOfCouple_X6_isSiding : GoodIn wsX6_errorOfCouple wsX6_isSiding := goodIn_r _ [14, 9, 10, 6, 11] (by decide +kernel) (by decide +kernel)
set_option maxRecDepth 20000 in
theorem gX6_errorOfCouple_X6_isSiding : GoodIn wsX6_errorOfCouple (va_wsS RX6 135 yX6_isSiding wsX6_isSiding) := goodIn_app (goodIn_of _ (by decide +kernel)) ggX6_errorOfCouple_X6_isSiding
set_option maxRecDepth 20000 in
theorem ggX6_errorOfCouple_X6_many : GoodIn wsX6_errorOfCouple wsX6_many := goodIn_r _ [18, 19, 20, 30, 31, 32, 33, 34, 35, 36, 37, 38, 39, 40, 41, 42, 43, 44, 45, 46, 47, 48, 49, 50, 51, 52, 53, 54, 55] (by decide +kernel) (by decide +kernel)
set_option maxRecDepth 20000 in
theorem gX6_errorOfCouple_X6_many : GoodIn wsX6_errorOfCouple (wsV RX6 132 RX6 yX6_many wsX6_many) := goodIn_app (goodIn_of _ (by decide +kernel)) ggX6_errorOfCouple_X6_many
set_option maxRecDepth 20000 in
theorem ggX6_errorOfCouple_X6_waggon : GoodIn wsX6_errorOfCouple wsX6_waggon := goodIn_r _ [24, 19, 20, 25, 30, 31, 32, 33, 34, 35, 36, 37, 38, 39, 40, 41, 42, 43, 44, 45, 46, 47, 48, 49, 50, 51, 52, 53, 54, 55] (by decide +kernel) (by decide +kernel)
set_option maxRecDepth 20000 in
theorem gX6_errorOfCouple_X6_waggon : GoodIn wsX6_errorOfCouple (wsV RX6 142 RX6 yX6_waggon wsX6_waggon) := goodIn_app (goodIn_of _ (by decide +kernel)) ggX6_errorOfCouple_X6_waggon
set_option maxRecDepth 20000 in
theorem ggX6_errorOfCouple_X6_weight : GoodIn wsX6_errorOfCouple wsX6_weight := goodIn_r _ [29, 19, 20, 2, 30, 31, 32, 33, 34, 35, 36, 37, 38, 39, 40, 41, 42, 43, 44, 45, 46, 47, 48, 49, 50, 51, 52, 53, 54, 55] (by decide +kernel) (by decide +kernel)
set_option maxRecDepth 20000 in
theorem gX6_errorOfCouple_X6_weight : GoodIn wsX6_errorOfCouple (wsV RX6 146 RX6 yX6_weight wsX6_weight) := goodIn_app (goodIn_of _ (by decide +kernel)) ggX6_errorOfCouple_X6_weight
theorem dX6_errorOfCouple_0 : decode cX6_errorOfCouple 0 = .ok (.aload_n 0, 1) := by decide +kernel
theorem dX6_errorOfCouple_1 : decode cX6_errorOfCouple 1 = .ok (.iload_n 1, 1) := by decide +kernel
theorem dX6_errorOfCouple_2 : decode cX6_errorOfCouple 2 = .ok (.invokevirtual 93, 3) := by decide +kernel
theorem dX6_errorOfCouple_5 : decode cX6_errorOfCouple 5 = .ok (.ifCond .ne 5, 3) := by decide +kernel
theorem dX6_errorOfCouple_8 : decode cX6_errorOfCouple 8 = .ok (.iconst 1, 1) := by decide +kernel
theorem dX6_errorOfCouple_9 : decode cX6_errorOfCouple 9 = .ok (.ireturn, 1) := by decide +kernel
theorem dX6_errorOfCouple_10 : decode cX6_errorOfCouple 10 = .ok (.aload_n 0, 1) := by decide +kernel
theorem dX6_errorOfCouple_11 : decode cX6_errorOfCouple 11 = .ok (.getfield 7, 3) := by decide +kernel
theorem dX6_errorOfCouple_14 : decode cX6_errorOfCouple 14 = .ok (.iload_n 1, 1) := by decide +kernel
theorem dX6_errorOfCouple_15 : decode cX6_errorOfCouple 15 = .ok (.iaload, 1) := by decide +kernel
theorem dX6_errorOfCouple_16 : decode cX6_errorOfCouple 16 = .ok (.istore_n 2, 1) := by decide +kernel
theorem dX6_errorOfCouple_17 : decode cX6_errorOfCouple 17 = .ok (.iload_n 2, 1) := by decide +kernel
theorem dX6_errorOfCouple_18 : decode cX6_errorOfCouple 18 = .ok (.invokestatic 135, 3) := by decide +kernel
theorem dX6_errorOfCouple_21 : decode cX6_errorOfCouple 21 = .ok (.ifCond .eq 11, 3) := by decide +kernel
theorem dX6_errorOfCouple_24 : decode cX6_errorOfCouple 24 = .ok (.aload_n 0, 1) := by decide +kernel
theorem dX6_errorOfCouple_25 : decode cX6_errorOfCouple 25 = .ok (.iload_n 2, 1) := by decide +kernel
theorem dX6_errorOfCouple_26 : decode cX6_errorOfCouple 26 = .ok (.invokevirtual 132, 3) := by decide +kernel
theorem dX6_errorOfCouple_29 : decode cX6_errorOfCouple 29 = .ok (.ifCond .ne 5, 3) := by decide +kernel
theorem dX6_errorOfCouple_32 : decode cX6_errorOfCouple 32 = .ok (.iconst 2, 1) := by decide +kernel
theorem dX6_errorOfCouple_33 : decode cX6_errorOfCouple 33 = .ok (.ireturn, 1) := by decide +kernel
theorem dX6_errorOfCouple_34 : decode cX6_errorOfCouple 34 = .ok (.aload_n 0, 1) := by decide +kernel
theorem dX6_errorOfCouple_35 : decode cX6_errorOfCouple 35 = .ok (.iload_n 2, 1) := by decide +kernel
theorem dX6_errorOfCouple_36 : decode cX6_errorOfCouple 36 = .ok (.aload_n 0, 1) := by decide +kernel
theorem dX6_errorOfCouple_37 : decode cX6_errorOfCouple 37 = .ok (.iload_n 2, 1) := by decide +kernel
theorem dX6_errorOfCouple_38 : decode cX6_errorOfCouple 38 = .ok (.invokevirtual 132, 3) := by decide +kernel
theorem dX6_errorOfCouple_41 : decode cX6_errorOfCouple 41 = .ok (.iconst 1, 1) := by decide +kernel
theorem dX6_errorOfCouple_42 : decode cX6_errorOfCouple 42 = .ok (.isub, 1) := by decide +kernel
theorem dX6_errorOfCouple_43 : decode cX6_errorOfCouple 43 = .ok (.invokevirtual 142, 3) := by decide +kernel
theorem dX6_errorOfCouple_46 : decode cX6_errorOfCouple 46 = .ok (.istore_n 3, 1) := by decide +kernel
theorem dX6_errorOfCouple_47 : decode cX6_errorOfCouple 47 = .ok (.aload_n 0, 1) := by decide +kernel
theorem dX6_errorOfCouple_48 : decode cX6_errorOfCouple 48 = .ok (.bipush 10, 2) := by decide +kernel
theorem dX6_errorOfCouple_50 : decode cX6_errorOfCouple 50 = .ok (.iload_n 1, 1) := by decide +kernel
theorem dX6_errorOfCouple_51 : decode cX6_errorOfCouple 51 = .ok (.iadd, 1) := by decide +kernel
theorem dX6_errorOfCouple_52 : decode cX6_errorOfCouple 52 = .ok (.invokevirtual 146, 3) := by decide +kernel
theorem dX6_errorOfCouple_55 : decode cX6_errorOfCouple 55 = .ok (.aload_n 0, 1) := by decide +kernel
theorem dX6_errorOfCouple_56 : decode cX6_errorOfCouple 56 = .ok (.getfield 53, 3) := by decide +kernel
theorem dX6_errorOfCouple_59 : decode cX6_errorOfCouple 59 = .ok (.iload_n 3, 1) := by decide +kernel
theorem dX6_errorOfCouple_60 : decode cX6_errorOfCouple 60 = .ok (.iaload, 1) := by decide +kernel
theorem dX6_errorOfCouple_61 : decode cX6_errorOfCouple 61 = .ok (.iadd, 1) := by decide +kernel
theorem dX6_errorOfCouple_62 : decode cX6_errorOfCouple 62 = .ok (.bipush 100, 2) := by decide +kernel
theorem dX6_errorOfCouple_64 : decode cX6_errorOfCouple 64 = .ok (.if_icmp .le 7, 3) := by decide +kernel
theorem dX6_errorOfCouple_67 : decode cX6_errorOfCouple 67 = .ok (.iconst 2, 1) := by decide +kernel
theorem dX6_errorOfCouple_68 : decode cX6_errorOfCouple 68 = .ok (.goto 4, 3) := by decide +kernel
theorem dX6_errorOfCouple_71 : decode cX6_errorOfCouple 71 = .ok (.iconst 0, 1) := by decide +kernel
theorem dX6_errorOfCouple_72 : decode cX6_errorOfCouple 72 = .ok (.ireturn, 1) := by decide +kernel
set_option maxRecDepth 20000 in
theorem ggX6_couple_X6_errorOfCouple : GoodIn wsX6_couple wsX6_errorOfCouple := goodIn_r _ [6, 1, 7, 8, 9, 10, 5, 11, 12, 13, 14, 15, 16, 17, 18, 19, 20, 21, 22, 23, 24, 25, 26, 27, 28, 29, 30, 31, 32, 33, 43, 44, 45, 46, 47, 48, 49, 50, 51, 52, 53, 54, 55, 56, 57, 58, 59, 60, 61, 62, 63, 64, 65, 66, 67, 68] (by decide +kernel) (by decide +kernel)
set_option maxRecDepth 20000 in
theorem gX6_couple_X6_errorOfCouple : GoodIn wsX6_couple (wsV RX6 149 RX6 yX6_errorOfCouple wsX6_errorOfCouple) := goodIn_app (goodIn_of _ (by decide +kernel)) ggX6_couple_X6_errorOfCouple
set_option maxRecDepth 20000 in
theorem ggX6_couple_X6_holds : GoodIn wsX6_couple wsX6_holds := goodIn_r _ [37, 38, 43, 44, 45, 46, 47, 48, 49, 50, 51, 52, 53, 54, 55, 56, 57, 58, 59, 60, 61, 62, 63, 64, 65, 66, 67, 68] (by decide +kernel) (by decide +kernel)
set_option maxRecDepth 20000 in
theorem gX6_couple_X6_holds : GoodIn wsX6_couple (wsV RX6 90 RX6 yX6_holds wsX6_holds) := goodIn_app (goodIn_of _ (by decide +kernel)) ggX6_couple_X6_holds
set_option maxRecDepth 20000 in
theorem ggX6_couple_X6_many : GoodIn wsX6_couple wsX6_many := goodIn_r _ [22, 23, 24, 43, 44, 45, 46, 47, 48, 49, 50, 51, 52, 53, 54, 55, 56, 57, 58, 59, 60, 61, 62, 63, 64, 65, 66, 67, 68] (by decide +kernel) (by decide +kernel)
set_option maxRecDepth 20000 in
theorem gX6_couple_X6_many : GoodIn wsX6_couple (wsV RX6 132 RX6 yX6_many wsX6_many) := goodIn_app (goodIn_of _ (by decide +kernel)) ggX6_couple_X6_many
set_option maxRecDepth 20000 in
theorem ggX6_couple_X6_waggon : GoodIn wsX6_couple wsX6_waggon := goodIn_r _ [28, 23, 24, 29, 43, 44, 45, 46, 47, 48, 49, 50, 51, 52, 53, 54, 55, 56, 57, 58, 59, 60, 61, 62, 63, 64, 65, 66, 67, 68] (by decide +kernel) (by decide +kernel)
set_option maxRecDepth 20000 in
theorem gX6_couple_X6_waggon : GoodIn wsX6_couple (wsV RX6 142 RX6 yX6_waggon wsX6_waggon) := goodIn_app (goodIn_of _ (by decide +kernel)) ggX6_couple_X6_waggon
set_option maxRecDepth 20000 in
theorem ggX6_couple_X6_comes : GoodIn wsX6_couple wsX6_comes := goodIn_r _ [42, 24, 29, 19, 20, 21, 5, 22, 23, 43, 44, 45, 46, 47, 48, 49, 50, 51, 52, 53, 54, 55, 56, 57, 58, 59, 60, 61, 62, 63, 64, 65, 66, 67, 68] (by decide +kernel) (by decide +kernel)
set_option maxRecDepth 20000 in
theorem gX6_couple_X6_comes : GoodIn wsX6_couple (wsV RX6 138 RX6 yX6_comes wsX6_comes) := goodIn_app (goodIn_of _ (by decide +kernel)) ggX6_couple_X6_comes
theorem dX6_couple_0 : decode cX6_couple 0 = .ok (.aload_n 0, 1) := by decide +kernel
theorem dX6_couple_1 : decode cX6_couple 1 = .ok (.aload_n 0, 1) := by decide +kernel
theorem dX6_couple_2 : decode cX6_couple 2 = .ok (.iload_n 1, 1) := by decide +kernel
theorem dX6_couple_3 : decode cX6_couple 3 = .ok (.invokevirtual 149, 3) := by decide +kernel
theorem dX6_couple_6 : decode cX6_couple 6 = .ok (.invokevirtual 90, 3) := by decide +kernel
theorem dX6_couple_9 : decode cX6_couple 9 = .ok (.ifCond .ne 5, 3) := by decide +kernel
theorem dX6_couple_12 : decode cX6_couple 12 = .ok (.iconst 0, 1) := by decide +kernel
theorem dX6_couple_13 : decode cX6_couple 13 = .ok (.ireturn, 1) := by decide +kernel
theorem dX6_couple_14 : decode cX6_couple 14 = .ok (.aload_n 0, 1) := by decide +kernel
theorem dX6_couple_15 : decode cX6_couple 15 = .ok (.aload_n 0, 1) := by decide +kernel
theorem dX6_couple_16 : decode cX6_couple 16 = .ok (.getfield 7, 3) := by decide +kernel
theorem dX6_couple_19 : decode cX6_couple 19 = .ok (.iload_n 1, 1) := by decide +kernel
theorem dX6_couple_20 : decode cX6_couple 20 = .ok (.iaload, 1) := by decide +kernel
theorem dX6_couple_21 : decode cX6_couple 21 = .ok (.aload_n 0, 1) := by decide +kernel
theorem dX6_couple_22 : decode cX6_couple 22 = .ok (.aload_n 0, 1) := by decide +kernel
theorem dX6_couple_23 : decode cX6_couple 23 = .ok (.getfield 7, 3) := by decide +kernel
theorem dX6_couple_26 : decode cX6_couple 26 = .ok (.iload_n 1, 1) := by decide +kernel
theorem dX6_couple_27 : decode cX6_couple 27 = .ok (.iaload, 1) := by decide +kernel
theorem dX6_couple_28 : decode cX6_couple 28 = .ok (.invokevirtual 132, 3) := by decide +kernel
theorem dX6_couple_31 : decode cX6_couple 31 = .ok (.iconst 1, 1) := by decide +kernel
theorem dX6_couple_32 : decode cX6_couple 32 = .ok (.isub, 1) := by decide +kernel
theorem dX6_couple_33 : decode cX6_couple 33 = .ok (.invokevirtual 142, 3) := by decide +kernel
theorem dX6_couple_36 : decode cX6_couple 36 = .ok (.istore_n 2, 1) := by decide +kernel
theorem dX6_couple_37 : decode cX6_couple 37 = .ok (.aload_n 0, 1) := by decide +kernel
theorem dX6_couple_38 : decode cX6_couple 38 = .ok (.iload_n 2, 1) := by decide +kernel
theorem dX6_couple_39 : decode cX6_couple 39 = .ok (.bipush 10, 2) := by decide +kernel
theorem dX6_couple_41 : decode cX6_couple 41 = .ok (.iload_n 1, 1) := by decide +kernel
theorem dX6_couple_42 : decode cX6_couple 42 = .ok (.iadd, 1) := by decide +kernel
theorem dX6_couple_43 : decode cX6_couple 43 = .ok (.invokevirtual 138, 3) := by decide +kernel
theorem dX6_couple_46 : decode cX6_couple 46 = .ok (.iload_n 2, 1) := by decide +kernel
theorem dX6_couple_47 : decode cX6_couple 47 = .ok (.ireturn, 1) := by decide +kernel
set_option maxRecDepth 20000 in
theorem ggX6_leave_X6_isTrain : GoodIn wsX6_leave wsX6_isTrain := goodIn_r _ [11, 12, 13, 14, 10, 15, 39, 40, 41, 42, 43, 44, 45, 46, 47, 48, 49, 50, 51, 52, 53, 54, 55, 56, 57, 58, 59, 60, 61, 62, 63, 64] (by decide +kernel) (by decide +kernel)
set_option maxRecDepth 20000 in
theorem gX6_leave_X6_isTrain : GoodIn wsX6_leave (wsV RX6 93 RX6 yX6_isTrain wsX6_isTrain) := goodIn_app (goodIn_of _ (by decide +kernel)) ggX6_leave_X6_isTrain
set_option maxRecDepth 20000 in
theorem ggX6_leave_X6_isSiding : GoodIn wsX6_leave wsX6_isSiding := goodIn_r _ [18, 13, 14, 10, 15] (by decide +kernel) (by decide +kernel)
set_option maxRecDepth 20000 in
theorem gX6_leave_X6_isSiding : GoodIn wsX6_leave (va_wsS RX6 135 yX6_isSiding wsX6_isSiding) := goodIn_app (goodIn_of _ (by decide +kernel)) ggX6_leave_X6_isSiding
set_option maxRecDepth 20000 in
theorem ggX6_leave_X6_many : GoodIn wsX6_leave wsX6_many := goodIn_r _ [22, 23, 24, 39, 40, 41, 42, 43, 44, 45, 46, 47, 48, 49, 50, 51, 52, 53, 54, 55, 56, 57, 58, 59, 60, 61, 62, 63, 64] (by decide +kernel) (by decide +kernel)
set_option maxRecDepth 20000 in
theorem gX6_leave_X6_many : GoodIn wsX6_leave (wsV RX6 132 RX6 yX6_many wsX6_many) := goodIn_app (goodIn_of _ (by decide +kernel)) ggX6_leave_X6_many
set_option maxRecDepth 20000 in
theorem ggX6_leave_X6_holds : GoodIn wsX6_leave wsX6_holds := goodIn_r _ [28, 29, 39, 40, 41, 42, 43, 44, 45, 46, 47, 48, 49, 50, 51, 52, 53, 54, 55, 56, 57, 58, 59, 60, 61, 62, 63, 64] (by decide +kernel) (by decide +kernel)
set_option maxRecDepth 20000 in
theorem gX6_leave_X6_holds : GoodIn wsX6_leave (wsV RX6 90 RX6 yX6_holds wsX6_holds) := goodIn_app (goodIn_of _ (by decide +kernel)) ggX6_leave_X6_holds
set_option maxRecDepth 20000 in
theorem ggX6_leave_X6_waggon : GoodIn wsX6_leave wsX6_waggon := goodIn_r _ [33, 23, 24, 34, 39, 40, 41, 42, 43, 44, 45, 46, 47, 48, 49, 50, 51, 52, 53, 54, 55, 56, 57, 58, 59, 60, 61, 62, 63, 64] (by decide +kernel) (by decide +kernel)
set_option maxRecDepth 20000 in
theorem gX6_leave_X6_waggon : GoodIn wsX6_leave (wsV RX6 142 RX6 yX6_waggon wsX6_waggon) := goodIn_app (goodIn_of _ (by decide +kernel)) ggX6_leave_X6_waggon
set_option maxRecDepth 20000 in
theorem ggX6_leave_X6_comes : GoodIn wsX6_leave wsX6_comes := goodIn_r _ [38, 24, 34, 19, 20, 21, 10, 22, 23, 39, 40, 41, 42, 43, 44, 45, 46, 47, 48, 49, 50, 51, 52, 53, 54, 55, 56, 57, 58, 59, 60, 61, 62, 63, 64] (by decide +kernel) (by decide +kernel)
set_option maxRecDepth 20000 in
theorem gX6_leave_X6_comes : GoodIn wsX6_leave (wsV RX6 138 RX6 yX6_comes wsX6_comes) := goodIn_app (goodIn_of _ (by decide +kernel)) ggX6_leave_X6_comes
theorem dX6_leave_0 : decode cX6_leave 0 = .ok (.aload_n 0, 1) := by decide +kernel
theorem dX6_leave_1 : decode cX6_leave 1 = .ok (.iload_n 1, 1) := by decide +kernel
theorem dX6_leave_2 : decode cX6_leave 2 = .ok (.invokevirtual 93, 3) := by decide +kernel
theorem dX6_leave_5 : decode cX6_leave 5 = .ok (.istore_n 2, 1) := by decide +kernel
theorem dX6_leave_6 : decode cX6_leave 6 = .ok (.iload_n 2, 1) := by decide +kernel
theorem dX6_leave_7 : decode cX6_leave 7 = .ok (.ifCond .eq 12, 3) := by decide +kernel
theorem dX6_leave_10 : decode cX6_leave 10 = .ok (.aload_n 0, 1) := by decide +kernel
theorem dX6_leave_11 : decode cX6_leave 11 = .ok (.getfield 7, 3) := by decide +kernel
theorem dX6_leave_14 : decode cX6_leave 14 = .ok (.iload_n 1, 1) := by decide +kernel
theorem dX6_leave_15 : decode cX6_leave 15 = .ok (.iaload, 1) := by decide +kernel
theorem dX6_leave_16 : decode cX6_leave 16 = .ok (.goto 4, 3) := by decide +kernel
theorem dX6_leave_19 : decode cX6_leave 19 = .ok (.iconst (-1), 1) := by decide +kernel
theorem dX6_leave_20 : decode cX6_leave 20 = .ok (.istore_n 3, 1) := by decide +kernel
theorem dX6_leave_21 : decode cX6_leave 21 = .ok (.iload_n 2, 1) := by decide +kernel
theorem dX6_leave_22 : decode cX6_leave 22 = .ok (.ifCond .eq 34, 3) := by decide +kernel
theorem dX6_leave_25 : decode cX6_leave 25 = .ok (.iload_n 3, 1) := by decide +kernel
theorem dX6_leave_26 : decode cX6_leave 26 = .ok (.invokestatic 135, 3) := by decide +kernel
theorem dX6_leave_29 : decode cX6_leave 29 = .ok (.ifCond .eq 27, 3) := by decide +kernel
theorem dX6_leave_32 : decode cX6_leave 32 = .ok (.aload_n 0, 1) := by decide +kernel
theorem dX6_leave_33 : decode cX6_leave 33 = .ok (.bipush 10, 2) := by decide +kernel
theorem dX6_leave_35 : decode cX6_leave 35 = .ok (.iload_n 1, 1) := by decide +kernel
theorem dX6_leave_36 : decode cX6_leave 36 = .ok (.iadd, 1) := by decide +kernel
theorem dX6_leave_37 : decode cX6_leave 37 = .ok (.invokevirtual 132, 3) := by decide +kernel
theorem dX6_leave_40 : decode cX6_leave 40 = .ok (.ifCond .le 16, 3) := by decide +kernel
theorem dX6_leave_43 : decode cX6_leave 43 = .ok (.aload_n 0, 1) := by decide +kernel
theorem dX6_leave_44 : decode cX6_leave 44 = .ok (.iload_n 3, 1) := by decide +kernel
theorem dX6_leave_45 : decode cX6_leave 45 = .ok (.invokevirtual 132, 3) := by decide +kernel
theorem dX6_leave_48 : decode cX6_leave 48 = .ok (.iconst 4, 1) := by decide +kernel
theorem dX6_leave_49 : decode cX6_leave 49 = .ok (.if_icmp .ge 7, 3) := by decide +kernel
theorem dX6_leave_52 : decode cX6_leave 52 = .ok (.iconst 1, 1) := by decide +kernel
theorem dX6_leave_53 : decode cX6_leave 53 = .ok (.goto 4, 3) := by decide +kernel
theorem dX6_leave_56 : decode cX6_leave 56 = .ok (.iconst 0, 1) := by decide +kernel
theorem dX6_leave_57 : decode cX6_leave 57 = .ok (.istore 4, 2) := by decide +kernel
theorem dX6_leave_59 : decode cX6_leave 59 = .ok (.aload_n 0, 1) := by decide +kernel
theorem dX6_leave_60 : decode cX6_leave 60 = .ok (.iload_n 2, 1) := by decide +kernel
theorem dX6_leave_61 : decode cX6_leave 61 = .ok (.ifCond .ne 7, 3) := by decide +kernel
theorem dX6_leave_64 : decode cX6_leave 64 = .ok (.iconst 1, 1) := by decide +kernel
theorem dX6_leave_65 : decode cX6_leave 65 = .ok (.goto 13, 3) := by decide +kernel
theorem dX6_leave_68 : decode cX6_leave 68 = .ok (.iload 4, 2) := by decide +kernel
theorem dX6_leave_70 : decode cX6_leave 70 = .ok (.ifCond .eq 7, 3) := by decide +kernel
theorem dX6_leave_73 : decode cX6_leave 73 = .ok (.iconst 0, 1) := by decide +kernel
theorem dX6_leave_74 : decode cX6_leave 74 = .ok (.goto 4, 3) := by decide +kernel
theorem dX6_leave_77 : decode cX6_leave 77 = .ok (.iconst 2, 1) := by decide +kernel
theorem dX6_leave_78 : decode cX6_leave 78 = .ok (.invokevirtual 90, 3) := by decide +kernel
theorem dX6_leave_81 : decode cX6_leave 81 = .ok (.ifCond .ne 5, 3) := by decide +kernel
theorem dX6_leave_84 : decode cX6_leave 84 = .ok (.iconst 0, 1) := by decide +kernel
theorem dX6_leave_85 : decode cX6_leave 85 = .ok (.ireturn, 1) := by decide +kernel
theorem dX6_leave_86 : decode cX6_leave 86 = .ok (.aload_n 0, 1) := by decide +kernel
theorem dX6_leave_87 : decode cX6_leave 87 = .ok (.bipush 10, 2) := by decide +kernel
theorem dX6_leave_89 : decode cX6_leave 89 = .ok (.iload_n 1, 1) := by decide +kernel
theorem dX6_leave_90 : decode cX6_leave 90 = .ok (.iadd, 1) := by decide +kernel
theorem dX6_leave_91 : decode cX6_leave 91 = .ok (.aload_n 0, 1) := by decide +kernel
theorem dX6_leave_92 : decode cX6_leave 92 = .ok (.bipush 10, 2) := by decide +kernel
theorem dX6_leave_94 : decode cX6_leave 94 = .ok (.iload_n 1, 1) := by decide +kernel
theorem dX6_leave_95 : decode cX6_leave 95 = .ok (.iadd, 1) := by decide +kernel
theorem dX6_leave_96 : decode cX6_leave 96 = .ok (.invokevirtual 132, 3) := by decide +kernel
theorem dX6_leave_99 : decode cX6_leave 99 = .ok (.iconst 1, 1) := by decide +kernel
theorem dX6_leave_100 : decode cX6_leave 100 = .ok (.isub, 1) := by decide +kernel
theorem dX6_leave_101 : decode cX6_leave 101 = .ok (.invokevirtual 142, 3) := by decide +kernel
theorem dX6_leave_104 : decode cX6_leave 104 = .ok (.istore 5, 2) := by decide +kernel
theorem dX6_leave_106 : decode cX6_leave 106 = .ok (.aload_n 0, 1) := by decide +kernel
theorem dX6_leave_107 : decode cX6_leave 107 = .ok (.iload 5, 2) := by decide +kernel
theorem dX6_leave_109 : decode cX6_leave 109 = .ok (.iload_n 3, 1) := by decide +kernel
theorem dX6_leave_110 : decode cX6_leave 110 = .ok (.invokevirtual 138, 3) := by decide +kernel
theorem dX6_leave_113 : decode cX6_leave 113 = .ok (.aload_n 0, 1) := by decide +kernel
theorem dX6_leave_114 : decode cX6_leave 114 = .ok (.getfield 68, 3) := by decide +kernel
theorem dX6_leave_117 : decode cX6_leave 117 = .ok (.iload 5, 2) := by decide +kernel
theorem dX6_leave_119 : decode cX6_leave 119 = .ok (.iaload, 1) := by decide +kernel
theorem dX6_leave_120 : decode cX6_leave 120 = .ok (.ifCond .eq 14, 3) := by decide +kernel
theorem dX6_leave_123 : decode cX6_leave 123 = .ok (.aload_n 0, 1) := by decide +kernel
theorem dX6_leave_124 : decode cX6_leave 124 = .ok (.getfield 62, 3) := by decide +kernel
theorem dX6_leave_127 : decode cX6_leave 127 = .ok (.iload 5, 2) := by decide +kernel
theorem dX6_leave_129 : decode cX6_leave 129 = .ok (.iaload, 1) := by decide +kernel
theorem dX6_leave_130 : decode cX6_leave 130 = .ok (.iload_n 3, 1) := by decide +kernel
theorem dX6_leave_131 : decode cX6_leave 131 = .ok (.if_icmp .eq 5, 3) := by decide +kernel
theorem dX6_leave_134 : decode cX6_leave 134 = .ok (.iconst 0, 1) := by decide +kernel
theorem dX6_leave_135 : decode cX6_leave 135 = .ok (.ireturn, 1) := by decide +kernel
theorem dX6_leave_136 : decode cX6_leave 136 = .ok (.aload_n 0, 1) := by decide +kernel
theorem dX6_leave_137 : decode cX6_leave 137 = .ok (.getfield 113, 3) := by decide +kernel
theorem dX6_leave_140 : decode cX6_leave 140 = .ok (.aload_n 0, 1) := by decide +kernel
theorem dX6_leave_141 : decode cX6_leave 141 = .ok (.getfield 65, 3) := by decide +kernel
theorem dX6_leave_144 : decode cX6_leave 144 = .ok (.iload 5, 2) := by decide +kernel
theorem dX6_leave_146 : decode cX6_leave 146 = .ok (.iaload, 1) := by decide +kernel
theorem dX6_leave_147 : decode cX6_leave 147 = .ok (.if_icmp .le 18, 3) := by decide +kernel
theorem dX6_leave_150 : decode cX6_leave 150 = .ok (.aload_n 0, 1) := by decide +kernel
theorem dX6_leave_151 : decode cX6_leave 151 = .ok (.getfield 113, 3) := by decide +kernel
theorem dX6_leave_154 : decode cX6_leave 154 = .ok (.aload_n 0, 1) := by decide +kernel
theorem dX6_leave_155 : decode cX6_leave 155 = .ok (.getfield 65, 3) := by decide +kernel
theorem dX6_leave_158 : decode cX6_leave 158 = .ok (.iload 5, 2) := by decide +kernel
theorem dX6_leave_160 : decode cX6_leave 160 = .ok (.iaload, 1) := by decide +kernel
theorem dX6_leave_161 : decode cX6_leave 161 = .ok (.isub, 1) := by decide +kernel
theorem dX6_leave_162 : decode cX6_leave 162 = .ok (.goto 4, 3) := by decide +kernel
theorem dX6_leave_165 : decode cX6_leave 165 = .ok (.iconst 0, 1) := by decide +kernel
theorem dX6_leave_166 : decode cX6_leave 166 = .ok (.istore 6, 2) := by decide +kernel
theorem dX6_leave_168 : decode cX6_leave 168 = .ok (.aload_n 0, 1) := by decide +kernel
theorem dX6_leave_169 : decode cX6_leave 169 = .ok (.getfield 68, 3) := by decide +kernel
theorem dX6_leave_172 : decode cX6_leave 172 = .ok (.iload 5, 2) := by decide +kernel
theorem dX6_leave_174 : decode cX6_leave 174 = .ok (.iaload, 1) := by decide +kernel
theorem dX6_leave_175 : decode cX6_leave 175 = .ok (.bipush 10, 2) := by decide +kernel
theorem dX6_leave_177 : decode cX6_leave 177 = .ok (.iload 6, 2) := by decide +kernel
theorem dX6_leave_179 : decode cX6_leave 179 = .ok (.bipush 59, 2) := by decide +kernel
theorem dX6_leave_181 : decode cX6_leave 181 = .ok (.iadd, 1) := by decide +kernel
theorem dX6_leave_182 : decode cX6_leave 182 = .ok (.bipush 60, 2) := by decide +kernel
theorem dX6_leave_184 : decode cX6_leave 184 = .ok (.idiv, 1) := by decide +kernel
theorem dX6_leave_185 : decode cX6_leave 185 = .ok (.imul, 1) := by decide +kernel
theorem dX6_leave_186 : decode cX6_leave 186 = .ok (.isub, 1) := by decide +kernel
theorem dX6_leave_187 : decode cX6_leave 187 = .ok (.istore 7, 2) := by decide +kernel
theorem dX6_leave_189 : decode cX6_leave 189 = .ok (.iload 7, 2) := by decide +kernel
theorem dX6_leave_191 : decode cX6_leave 191 = .ok (.ifCond .ge 7, 3) := by decide +kernel
theorem dX6_leave_194 : decode cX6_leave 194 = .ok (.iconst 0, 1) := by decide +kernel
theorem dX6_leave_195 : decode cX6_leave 195 = .ok (.goto 5, 3) := by decide +kernel
theorem dX6_leave_198 : decode cX6_leave 198 = .ok (.iload 7, 2) := by decide +kernel
theorem dX6_leave_200 : decode cX6_leave 200 = .ok (.istore 7, 2) := by decide +kernel
theorem dX6_leave_202 : decode cX6_leave 202 = .ok (.aload_n 0, 1) := by decide +kernel
theorem dX6_leave_203 : decode cX6_leave 203 = .ok (.getfield 68, 3) := by decide +kernel
theorem dX6_leave_206 : decode cX6_leave 206 = .ok (.iload 5, 2) := by decide +kernel
theorem dX6_leave_208 : decode cX6_leave 208 = .ok (.iconst 0, 1) := by decide +kernel
theorem dX6_leave_209 : decode cX6_leave 209 = .ok (.iastore, 1) := by decide +kernel
theorem dX6_leave_210 : decode cX6_leave 210 = .ok (.aload_n 0, 1) := by decide +kernel
theorem dX6_leave_211 : decode cX6_leave 211 = .ok (.dup, 1) := by decide +kernel
theorem dX6_leave_212 : decode cX6_leave 212 = .ok (.getfield 152, 3) := by decide +kernel
theorem dX6_leave_215 : decode cX6_leave 215 = .ok (.iload 7, 2) := by decide +kernel
theorem dX6_leave_217 : decode cX6_leave 217 = .ok (.iadd, 1) := by decide +kernel
theorem dX6_leave_218 : decode cX6_leave 218 = .ok (.putfield 152, 3) := by decide +kernel
theorem dX6_leave_221 : decode cX6_leave 221 = .ok (.iload 7, 2) := by decide +kernel
theorem dX6_leave_223 : decode cX6_leave 223 = .ok (.ireturn, 1) := by decide +kernel
set_option maxRecDepth 20000 in
theorem ggX6_waggonAt_X6_isSiding : GoodIn wsX6_waggonAt wsX6_isSiding := goodIn_r _ [4, 5, 6, 3, 7] (by decide +kernel) (by decide +kernel)
set_option maxRecDepth 20000 in
theorem gX6_waggonAt_X6_isSiding : GoodIn wsX6_waggonAt (va_wsS RX6 135 yX6_isSiding wsX6_isSiding) := goodIn_app (goodIn_of _ (by decide +kernel)) ggX6_waggonAt_X6_isSiding
set_option maxRecDepth 20000 in
theorem ggX6_waggonAt_X6_isTrain : GoodIn wsX6_waggonAt wsX6_isTrain := goodIn_r _ [11, 12, 5, 6, 3, 7, 29, 30, 31, 32, 33, 34, 35, 36, 37, 38, 39, 40, 41, 42, 43, 44, 45, 46, 47, 48, 49, 50, 51, 52, 53, 54] (by decide +kernel) (by decide +kernel)
set_option maxRecDepth 20000 in
theorem gX6_waggonAt_X6_isTrain : GoodIn wsX6_waggonAt (wsV RX6 93 RX6 yX6_isTrain wsX6_isTrain) := goodIn_app (goodIn_of _ (by decide +kernel)) ggX6_waggonAt_X6_isTrain
set_option maxRecDepth 20000 in
theorem ggX6_waggonAt_X6_holds : GoodIn wsX6_waggonAt wsX6_holds := goodIn_r _ [16, 17, 29, 30, 31, 32, 33, 34, 35, 36, 37, 38, 39, 40, 41, 42, 43, 44, 45, 46, 47, 48, 49, 50, 51, 52, 53, 54] (by decide +kernel) (by decide +kernel)
set_option maxRecDepth 20000 in
theorem gX6_waggonAt_X6_holds : GoodIn wsX6_waggonAt (wsV RX6 90 RX6 yX6_holds wsX6_holds) := goodIn_app (goodIn_of _ (by decide +kernel)) ggX6_waggonAt_X6_holds
set_option maxRecDepth 20000 in
theorem ggX6_waggonAt_X6_many : GoodIn wsX6_waggonAt wsX6_many := goodIn_r _ [21, 22, 23, 29, 30, 31, 32, 33, 34, 35, 36, 37, 38, 39, 40, 41, 42, 43, 44, 45, 46, 47, 48, 49, 50, 51, 52, 53, 54] (by decide +kernel) (by decide +kernel)
set_option maxRecDepth 20000 in
theorem gX6_waggonAt_X6_many : GoodIn wsX6_waggonAt (wsV RX6 132 RX6 yX6_many wsX6_many) := goodIn_app (goodIn_of _ (by decide +kernel)) ggX6_waggonAt_X6_many
set_option maxRecDepth 20000 in
theorem ggX6_waggonAt_X6_waggon : GoodIn wsX6_waggonAt wsX6_waggon := goodIn_r _ [27, 22, 23, 28, 29, 30, 31, 32, 33, 34, 35, 36, 37, 38, 39, 40, 41, 42, 43, 44, 45, 46, 47, 48, 49, 50, 51, 52, 53, 54] (by decide +kernel) (by decide +kernel)
set_option maxRecDepth 20000 in
theorem gX6_waggonAt_X6_waggon : GoodIn wsX6_waggonAt (wsV RX6 142 RX6 yX6_waggon wsX6_waggon) := goodIn_app (goodIn_of _ (by decide +kernel)) ggX6_waggonAt_X6_waggon
theorem dX6_waggonAt_0 : decode cX6_waggonAt 0 = .ok (.iload_n 1, 1) := by decide +kernel
theorem dX6_waggonAt_1 : decode cX6_waggonAt 1 = .ok (.invokestatic 135, 3) := by decide +kernel
theorem dX6_waggonAt_4 : decode cX6_waggonAt 4 = .ok (.ifCond .ne 14, 3) := by decide +kernel
theorem dX6_waggonAt_7 : decode cX6_waggonAt 7 = .ok (.aload_n 0, 1) := by decide +kernel
theorem dX6_waggonAt_8 : decode cX6_waggonAt 8 = .ok (.iload_n 1, 1) := by decide +kernel
theorem dX6_waggonAt_9 : decode cX6_waggonAt 9 = .ok (.bipush 10, 2) := by decide +kernel
theorem dX6_waggonAt_11 : decode cX6_waggonAt 11 = .ok (.isub, 1) := by decide +kernel
theorem dX6_waggonAt_12 : decode cX6_waggonAt 12 = .ok (.invokevirtual 93, 3) := by decide +kernel
theorem dX6_waggonAt_15 : decode cX6_waggonAt 15 = .ok (.ifCond .eq 11, 3) := by decide +kernel
theorem dX6_waggonAt_18 : decode cX6_waggonAt 18 = .ok (.iload_n 2, 1) := by decide +kernel
theorem dX6_waggonAt_19 : decode cX6_waggonAt 19 = .ok (.ifCond .lt 7, 3) := by decide +kernel
theorem dX6_waggonAt_22 : decode cX6_waggonAt 22 = .ok (.iconst 1, 1) := by decide +kernel
theorem dX6_waggonAt_23 : decode cX6_waggonAt 23 = .ok (.goto 4, 3) := by decide +kernel
theorem dX6_waggonAt_26 : decode cX6_waggonAt 26 = .ok (.iconst 0, 1) := by decide +kernel
theorem dX6_waggonAt_27 : decode cX6_waggonAt 27 = .ok (.istore_n 3, 1) := by decide +kernel
theorem dX6_waggonAt_28 : decode cX6_waggonAt 28 = .ok (.aload_n 0, 1) := by decide +kernel
theorem dX6_waggonAt_29 : decode cX6_waggonAt 29 = .ok (.iload_n 3, 1) := by decide +kernel
theorem dX6_waggonAt_30 : decode cX6_waggonAt 30 = .ok (.ifCond .eq 7, 3) := by decide +kernel
theorem dX6_waggonAt_33 : decode cX6_waggonAt 33 = .ok (.iconst 0, 1) := by decide +kernel
theorem dX6_waggonAt_34 : decode cX6_waggonAt 34 = .ok (.goto 4, 3) := by decide +kernel
theorem dX6_waggonAt_37 : decode cX6_waggonAt 37 = .ok (.iconst 1, 1) := by decide +kernel
theorem dX6_waggonAt_38 : decode cX6_waggonAt 38 = .ok (.invokevirtual 90, 3) := by decide +kernel
theorem dX6_waggonAt_41 : decode cX6_waggonAt 41 = .ok (.ifCond .ne 5, 3) := by decide +kernel
theorem dX6_waggonAt_44 : decode cX6_waggonAt 44 = .ok (.iconst 0, 1) := by decide +kernel
theorem dX6_waggonAt_45 : decode cX6_waggonAt 45 = .ok (.ireturn, 1) := by decide +kernel
theorem dX6_waggonAt_46 : decode cX6_waggonAt 46 = .ok (.aload_n 0, 1) := by decide +kernel
theorem dX6_waggonAt_47 : decode cX6_waggonAt 47 = .ok (.iload_n 1, 1) := by decide +kernel
theorem dX6_waggonAt_48 : decode cX6_waggonAt 48 = .ok (.invokevirtual 132, 3) := by decide +kernel
theorem dX6_waggonAt_51 : decode cX6_waggonAt 51 = .ok (.istore 4, 2) := by decide +kernel
theorem dX6_waggonAt_53 : decode cX6_waggonAt 53 = .ok (.iload_n 2, 1) := by decide +kernel
theorem dX6_waggonAt_54 : decode cX6_waggonAt 54 = .ok (.iload 4, 2) := by decide +kernel
theorem dX6_waggonAt_56 : decode cX6_waggonAt 56 = .ok (.if_icmp .lt 7, 3) := by decide +kernel
theorem dX6_waggonAt_59 : decode cX6_waggonAt 59 = .ok (.iconst (-1), 1) := by decide +kernel
theorem dX6_waggonAt_60 : decode cX6_waggonAt 60 = .ok (.goto 25, 3) := by decide +kernel
theorem dX6_waggonAt_63 : decode cX6_waggonAt 63 = .ok (.aload_n 0, 1) := by decide +kernel
theorem dX6_waggonAt_64 : decode cX6_waggonAt 64 = .ok (.iload_n 1, 1) := by decide +kernel
theorem dX6_waggonAt_65 : decode cX6_waggonAt 65 = .ok (.iload_n 1, 1) := by decide +kernel
theorem dX6_waggonAt_66 : decode cX6_waggonAt 66 = .ok (.invokestatic 135, 3) := by decide +kernel
theorem dX6_waggonAt_69 : decode cX6_waggonAt 69 = .ok (.ifCond .eq 12, 3) := by decide +kernel
theorem dX6_waggonAt_72 : decode cX6_waggonAt 72 = .ok (.iload 4, 2) := by decide +kernel
theorem dX6_waggonAt_74 : decode cX6_waggonAt 74 = .ok (.iconst 1, 1) := by decide +kernel
theorem dX6_waggonAt_75 : decode cX6_waggonAt 75 = .ok (.isub, 1) := by decide +kernel
theorem dX6_waggonAt_76 : decode cX6_waggonAt 76 = .ok (.iload_n 2, 1) := by decide +kernel
theorem dX6_waggonAt_77 : decode cX6_waggonAt 77 = .ok (.isub, 1) := by decide +kernel
theorem dX6_waggonAt_78 : decode cX6_waggonAt 78 = .ok (.goto 4, 3) := by decide +kernel
theorem dX6_waggonAt_81 : decode cX6_waggonAt 81 = .ok (.iload_n 2, 1) := by decide +kernel
theorem dX6_waggonAt_82 : decode cX6_waggonAt 82 = .ok (.invokevirtual 142, 3) := by decide +kernel
theorem dX6_waggonAt_85 : decode cX6_waggonAt 85 = .ok (.ireturn, 1) := by decide +kernel
theorem dX6_earned_0 : decode cX6_earned 0 = .ok (.aload_n 0, 1) := by decide +kernel
theorem dX6_earned_1 : decode cX6_earned 1 = .ok (.iconst 0, 1) := by decide +kernel
theorem dX6_earned_2 : decode cX6_earned 2 = .ok (.putfield 71, 3) := by decide +kernel
theorem dX6_earned_5 : decode cX6_earned 5 = .ok (.aload_n 0, 1) := by decide +kernel
theorem dX6_earned_6 : decode cX6_earned 6 = .ok (.getfield 152, 3) := by decide +kernel
theorem dX6_earned_9 : decode cX6_earned 9 = .ok (.ireturn, 1) := by decide +kernel
theorem dJ9_max_7cf53_0 : decode cJ9_max_7cf53 0 = .ok (.iload_n 0, 1) := by decide +kernel
theorem dJ9_max_7cf53_1 : decode cJ9_max_7cf53 1 = .ok (.iload_n 1, 1) := by decide +kernel
theorem dJ9_max_7cf53_2 : decode cJ9_max_7cf53 2 = .ok (.if_icmp .lt 7, 3) := by decide +kernel
theorem dJ9_max_7cf53_5 : decode cJ9_max_7cf53 5 = .ok (.iload_n 0, 1) := by decide +kernel
theorem dJ9_max_7cf53_6 : decode cJ9_max_7cf53 6 = .ok (.goto 4, 3) := by decide +kernel
theorem dJ9_max_7cf53_9 : decode cJ9_max_7cf53 9 = .ok (.iload_n 1, 1) := by decide +kernel
theorem dJ9_max_7cf53_10 : decode cJ9_max_7cf53 10 = .ok (.ireturn, 1) := by decide +kernel
