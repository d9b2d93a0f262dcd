theorem dL_cell_0 : decode cL_cell 0 = .ok (.iload_n 1, 1) := by decide +kernel
theorem dL_cell_1 : decode cL_cell 1 = .ok (.aload_n 0, 1) := by decide +kernel
theorem dL_cell_2 : decode cL_cell 2 = .ok (.arraylength, 1) := by decide +kernel
theorem dL_cell_3 : decode cL_cell 3 = .ok (.if_icmp .ge 9, 3) := by decide +kernel
theorem dL_cell_6 : decode cL_cell 6 = .ok (.aload_n 0, 1) := by decide +kernel
theorem dL_cell_7 : decode cL_cell 7 = .ok (.iload_n 1, 1) := by decide +kernel
theorem dL_cell_8 : decode cL_cell 8 = .ok (.iaload, 1) := by decide +kernel
theorem dL_cell_9 : decode cL_cell 9 = .ok (.goto 18, 3) := by decide +kernel
theorem dL_cell_12 : decode cL_cell 12 = .ok (.sipush 7919, 3) := by decide +kernel
theorem dL_cell_15 : decode cL_cell 15 = .ok (.iload_n 1, 1) := by decide +kernel
theorem dL_cell_16 : decode cL_cell 16 = .ok (.sipush 677, 3) := by decide +kernel
theorem dL_cell_19 : decode cL_cell 19 = .ok (.iadd, 1) := by decide +kernel
theorem dL_cell_20 : decode cL_cell 20 = .ok (.imul, 1) := by decide +kernel
theorem dL_cell_21 : decode cL_cell 21 = .ok (.iload_n 1, 1) := by decide +kernel
theorem dL_cell_22 : decode cL_cell 22 = .ok (.sipush 3041, 3) := by decide +kernel
theorem dL_cell_25 : decode cL_cell 25 = .ok (.iadd, 1) := by decide +kernel
theorem dL_cell_26 : decode cL_cell 26 = .ok (.imul, 1) := by decide +kernel
theorem dL_cell_27 : decode cL_cell 27 = .ok (.ireturn, 1) := by decide +kernel
theorem dL_low_0 : decode cL_low 0 = .ok (.iload_n 0, 1) := by decide +kernel
theorem dL_low_1 : decode cL_low 1 = .ok (.ldc 7, 2) := by decide +kernel
theorem dL_low_3 : decode cL_low 3 = .ok (.iand, 1) := by decide +kernel
theorem dL_low_4 : decode cL_low 4 = .ok (.iload_n 1, 1) := by decide +kernel
theorem dL_low_5 : decode cL_low 5 = .ok (.irem, 1) := by decide +kernel
theorem dL_low_6 : decode cL_low 6 = .ok (.ireturn, 1) := by decide +kernel
set_option maxRecDepth 20000 in
theorem ggL_does_X5_addTrain : GoodIn wsL_does wsX5_addTrain := goodIn_ca (goodIn_ca (goodIn_r _ [9, 10, 11, 12, 13, 14, 15, 8, 16, 17, 18, 19, 20, 21, 22, 23, 24, 25, 26, 27, 28, 29, 30, 231, 232, 233, 234, 235, 236, 237, 238, 239, 240, 241, 242, 243] (by decide +kernel) (by decide +kernel)) (goodIn_sub (fun _ h => List.mem_cons_of_mem _ (List.mem_append_left _ (List.mem_append_left _ (List.mem_append_right _ h)))) (by decide +kernel))) (goodIn_sub (fun _ h => List.mem_cons_of_mem _ (List.mem_append_left _ (List.mem_append_right _ h))) (by decide +kernel))
set_option maxRecDepth 20000 in
theorem gL_does_X5_addTrain : GoodIn wsL_does (wsV RL 8 RX5 yX5_addTrain wsX5_addTrain) := goodIn_app (goodIn_of _ (by decide +kernel)) ggL_does_X5_addTrain
theorem dL_does_0 : decode cL_does 0 = .ok (.iload_n 1, 1) := by decide +kernel
theorem dL_does_1 : decode cL_does 1 = .ok (.ifCond .ne 21, 3) := by decide +kernel
theorem dL_does_4 : decode cL_does 4 = .ok (.aload_n 0, 1) := by decide +kernel
theorem dL_does_5 : decode cL_does 5 = .ok (.iload_n 2, 1) := by decide +kernel
theorem dL_does_6 : decode cL_does 6 = .ok (.iload_n 3, 1) := by decide +kernel
theorem dL_does_7 : decode cL_does 7 = .ok (.iconst 1, 1) := by decide +kernel
theorem dL_does_8 : decode cL_does 8 = .ok (.if_icmp .ne 7, 3) := by decide +kernel
theorem dL_does_11 : decode cL_does 11 = .ok (.iconst 1, 1) := by decide +kernel
theorem dL_does_12 : decode cL_does 12 = .ok (.goto 4, 3) := by decide +kernel
theorem dL_does_15 : decode cL_does 15 = .ok (.iconst 0, 1) := by decide +kernel
theorem dL_does_16 : decode cL_does 16 = .ok (.invokevirtual 8, 3) := by decide +kernel
theorem dL_does_19 : decode cL_does 19 = .ok (.goto 175, 3) := by decide +kernel
theorem dL_does_22 : decode cL_does 22 = .ok (.iload_n 1, 1) := by decide +kernel
theorem dL_does_23 : decode cL_does 23 = .ok (.iconst 1, 1) := by decide +kernel
theorem dL_does_24 : decode cL_does 24 = .ok (.if_icmp .ne 29, 3) := by decide +kernel
theorem dL_does_27 : decode cL_does 27 = .ok (.aload_n 0, 1) := by decide +kernel
theorem dL_does_28 : decode cL_does 28 = .ok (.iload_n 2, 1) := by decide +kernel
theorem dL_does_29 : decode cL_does 29 = .ok (.iload_n 3, 1) := by decide +kernel
theorem dL_does_30 : decode cL_does 30 = .ok (.iconst 1, 1) := by decide +kernel
theorem dL_does_31 : decode cL_does 31 = .ok (.if_icmp .ne 7, 3) := by decide +kernel
theorem dL_does_34 : decode cL_does 34 = .ok (.iconst 1, 1) := by decide +kernel
theorem dL_does_35 : decode cL_does 35 = .ok (.goto 4, 3) := by decide +kernel
theorem dL_does_38 : decode cL_does 38 = .ok (.iconst 0, 1) := by decide +kernel
theorem dL_does_39 : decode cL_does 39 = .ok (.invokevirtual 14, 3) := by decide +kernel
theorem dL_does_42 : decode cL_does 42 = .ok (.ifCond .eq 7, 3) := by decide +kernel
theorem dL_does_45 : decode cL_does 45 = .ok (.iconst 1, 1) := by decide +kernel
theorem dL_does_46 : decode cL_does 46 = .ok (.goto 148, 3) := by decide +kernel
theorem dL_does_49 : decode cL_does 49 = .ok (.iconst 0, 1) := by decide +kernel
theorem dL_does_50 : decode cL_does 50 = .ok (.goto 144, 3) := by decide +kernel
theorem dL_does_53 : decode cL_does 53 = .ok (.iload_n 1, 1) := by decide +kernel
theorem dL_does_54 : decode cL_does 54 = .ok (.iconst 2, 1) := by decide +kernel
theorem dL_does_55 : decode cL_does 55 = .ok (.if_icmp .ne 12, 3) := by decide +kernel
theorem dL_does_58 : decode cL_does 58 = .ok (.aload_n 0, 1) := by decide +kernel
theorem dL_does_59 : decode cL_does 59 = .ok (.iload_n 2, 1) := by decide +kernel
theorem dL_does_60 : decode cL_does 60 = .ok (.iload_n 3, 1) := by decide +kernel
theorem dL_does_61 : decode cL_does 61 = .ok (.invokevirtual 18, 3) := by decide +kernel
theorem dL_does_64 : decode cL_does 64 = .ok (.goto 130, 3) := by decide +kernel
theorem dL_does_67 : decode cL_does 67 = .ok (.iload_n 1, 1) := by decide +kernel
theorem dL_does_68 : decode cL_does 68 = .ok (.iconst 3, 1) := by decide +kernel
theorem dL_does_69 : decode cL_does 69 = .ok (.if_icmp .ne 19, 3) := by decide +kernel
theorem dL_does_72 : decode cL_does 72 = .ok (.aload_n 0, 1) := by decide +kernel
theorem dL_does_73 : decode cL_does 73 = .ok (.iload_n 2, 1) := by decide +kernel
theorem dL_does_74 : decode cL_does 74 = .ok (.invokevirtual 22, 3) := by decide +kernel
theorem dL_does_77 : decode cL_does 77 = .ok (.ifCond .eq 7, 3) := by decide +kernel
theorem dL_does_80 : decode cL_does 80 = .ok (.iconst 1, 1) := by decide +kernel
theorem dL_does_81 : decode cL_does 81 = .ok (.goto 113, 3) := by decide +kernel
theorem dL_does_84 : decode cL_does 84 = .ok (.iconst 0, 1) := by decide +kernel
theorem dL_does_85 : decode cL_does 85 = .ok (.goto 109, 3) := by decide +kernel
theorem dL_does_88 : decode cL_does 88 = .ok (.iload_n 1, 1) := by decide +kernel
theorem dL_does_89 : decode cL_does 89 = .ok (.iconst 4, 1) := by decide +kernel
theorem dL_does_90 : decode cL_does 90 = .ok (.if_icmp .ne 19, 3) := by decide +kernel
theorem dL_does_93 : decode cL_does 93 = .ok (.aload_n 0, 1) := by decide +kernel
theorem dL_does_94 : decode cL_does 94 = .ok (.iload_n 2, 1) := by decide +kernel
theorem dL_does_95 : decode cL_does 95 = .ok (.invokevirtual 26, 3) := by decide +kernel
theorem dL_does_98 : decode cL_does 98 = .ok (.ifCond .eq 7, 3) := by decide +kernel
theorem dL_does_101 : decode cL_does 101 = .ok (.iconst 1, 1) := by decide +kernel
theorem dL_does_102 : decode cL_does 102 = .ok (.goto 92, 3) := by decide +kernel
theorem dL_does_105 : decode cL_does 105 = .ok (.iconst 0, 1) := by decide +kernel
theorem dL_does_106 : decode cL_does 106 = .ok (.goto 88, 3) := by decide +kernel
theorem dL_does_109 : decode cL_does 109 = .ok (.iload_n 1, 1) := by decide +kernel
theorem dL_does_110 : decode cL_does 110 = .ok (.iconst 5, 1) := by decide +kernel
theorem dL_does_111 : decode cL_does 111 = .ok (.if_icmp .ne 11, 3) := by decide +kernel
theorem dL_does_114 : decode cL_does 114 = .ok (.aload_n 0, 1) := by decide +kernel
theorem dL_does_115 : decode cL_does 115 = .ok (.iload_n 2, 1) := by decide +kernel
theorem dL_does_116 : decode cL_does 116 = .ok (.invokevirtual 29, 3) := by decide +kernel
theorem dL_does_119 : decode cL_does 119 = .ok (.goto 75, 3) := by decide +kernel
theorem dL_does_122 : decode cL_does 122 = .ok (.iload_n 1, 1) := by decide +kernel
theorem dL_does_123 : decode cL_does 123 = .ok (.bipush 6, 2) := by decide +kernel
theorem dL_does_125 : decode cL_does 125 = .ok (.if_icmp .ne 16, 3) := by decide +kernel
theorem dL_does_128 : decode cL_does 128 = .ok (.aload_n 0, 1) := by decide +kernel
theorem dL_does_129 : decode cL_does 129 = .ok (.iload_n 2, 1) := by decide +kernel
theorem dL_does_130 : decode cL_does 130 = .ok (.iload_n 3, 1) := by decide +kernel
theorem dL_does_131 : decode cL_does 131 = .ok (.iload 4, 2) := by decide +kernel
theorem dL_does_133 : decode cL_does 133 = .ok (.iload 5, 2) := by decide +kernel
theorem dL_does_135 : decode cL_does 135 = .ok (.invokevirtual 33, 3) := by decide +kernel
theorem dL_does_138 : decode cL_does 138 = .ok (.goto 56, 3) := by decide +kernel
theorem dL_does_141 : decode cL_does 141 = .ok (.iload_n 1, 1) := by decide +kernel
theorem dL_does_142 : decode cL_does 142 = .ok (.bipush 7, 2) := by decide +kernel
theorem dL_does_144 : decode cL_does 144 = .ok (.if_icmp .ne 12, 3) := by decide +kernel
theorem dL_does_147 : decode cL_does 147 = .ok (.aload_n 0, 1) := by decide +kernel
theorem dL_does_148 : decode cL_does 148 = .ok (.iload_n 2, 1) := by decide +kernel
theorem dL_does_149 : decode cL_does 149 = .ok (.iload_n 3, 1) := by decide +kernel
theorem dL_does_150 : decode cL_does 150 = .ok (.invokevirtual 37, 3) := by decide +kernel
theorem dL_does_153 : decode cL_does 153 = .ok (.goto 41, 3) := by decide +kernel
theorem dL_does_156 : decode cL_does 156 = .ok (.iload_n 1, 1) := by decide +kernel
theorem dL_does_157 : decode cL_does 157 = .ok (.bipush 8, 2) := by decide +kernel
theorem dL_does_159 : decode cL_does 159 = .ok (.if_icmp .ne 16, 3) := by decide +kernel
theorem dL_does_162 : decode cL_does 162 = .ok (.aload_n 0, 1) := by decide +kernel
theorem dL_does_163 : decode cL_does 163 = .ok (.iload_n 2, 1) := by decide +kernel
theorem dL_does_164 : decode cL_does 164 = .ok (.iload_n 3, 1) := by decide +kernel
theorem dL_does_165 : decode cL_does 165 = .ok (.iload 4, 2) := by decide +kernel
theorem dL_does_167 : decode cL_does 167 = .ok (.iload 5, 2) := by decide +kernel
theorem dL_does_169 : decode cL_does 169 = .ok (.invokestatic 40, 3) := by decide +kernel
theorem dL_does_172 : decode cL_does 172 = .ok (.goto 22, 3) := by decide +kernel
theorem dL_does_175 : decode cL_does 175 = .ok (.iload_n 1, 1) := by decide +kernel
theorem dL_does_176 : decode cL_does 176 = .ok (.bipush 9, 2) := by decide +kernel
theorem dL_does_178 : decode cL_does 178 = .ok (.if_icmp .ne 11, 3) := by decide +kernel
theorem dL_does_181 : decode cL_does 181 = .ok (.aload_n 0, 1) := by decide +kernel
theorem dL_does_182 : decode cL_does 182 = .ok (.iload_n 2, 1) := by decide +kernel
theorem dL_does_183 : decode cL_does 183 = .ok (.invokevirtual 46, 3) := by decide +kernel
theorem dL_does_186 : decode cL_does 186 = .ok (.goto 8, 3) := by decide +kernel
theorem dL_does_189 : decode cL_does 189 = .ok (.aload_n 0, 1) := by decide +kernel
theorem dL_does_190 : decode cL_does 190 = .ok (.iload_n 2, 1) := by decide +kernel
theorem dL_does_191 : decode cL_does 191 = .ok (.invokevirtual 49, 3) := by decide +kernel
theorem dL_does_194 : decode cL_does 194 = .ok (.ireturn, 1) := by decide +kernel
theorem dL_does_195 : decode cL_does 195 = .ok (.astore 6, 2) := by decide +kernel
theorem dL_does_197 : decode cL_does 197 = .ok (.ldc 54, 2) := by decide +kernel
theorem dL_does_199 : decode cL_does 199 = .ok (.ireturn, 1) := by decide +kernel
theorem dL_does_200 : decode cL_does 200 = .ok (.astore 6, 2) := by decide +kernel
theorem dL_does_202 : decode cL_does 202 = .ok (.ldc 54, 2) := by decide +kernel
theorem dL_does_204 : decode cL_does 204 = .ok (.ireturn, 1) := by decide +kernel
theorem dL_does_205 : decode cL_does 205 = .ok (.astore 6, 2) := by decide +kernel
theorem dL_does_207 : decode cL_does 207 = .ok (.ldc 54, 2) := by decide +kernel
theorem dL_does_209 : decode cL_does 209 = .ok (.ireturn, 1) := by decide +kernel
set_option maxRecDepth 20000 in
theorem ggL_looks_X5_block : GoodIn wsL_looks wsX5_block := goodIn_ca (goodIn_r _ [7, 8, 9, 10, 11, 12, 6, 13, 14, 15, 16, 127, 128, 129, 130, 131, 132, 133, 134, 135, 136, 137, 138, 139] (by decide +kernel) (by decide +kernel)) (goodIn_sub (fun _ h => List.mem_cons_of_mem _ (List.mem_append_right _ h)) (by decide +kernel))
set_option maxRecDepth 20000 in
theorem gL_looks_X5_block : GoodIn wsL_looks (wsV RL 63 RX5 yX5_block wsX5_block) := goodIn_app (goodIn_of _ (by decide +kernel)) ggL_looks_X5_block
set_option maxRecDepth 20000 in
theorem ggL_looks_X5_isRight : GoodIn wsL_looks wsX5_isRight := goodIn_ca (goodIn_r _ [20, 8, 21, 10, 11, 12, 6, 13, 14, 15, 16, 127, 128, 129, 130, 131, 132, 133, 134, 135, 136, 137, 138, 139] (by decide +kernel) (by decide +kernel)) (goodIn_sub (fun _ h => List.mem_cons_of_mem _ (List.mem_append_right _ h)) (by decide +kernel))
set_option maxRecDepth 20000 in
theorem gL_looks_X5_isRight : GoodIn wsL_looks (wsV RL 66 RX5 yX5_isRight wsX5_isRight) := goodIn_app (goodIn_of _ (by decide +kernel)) ggL_looks_X5_isRight
set_option maxRecDepth 20000 in
theorem ggL_looks_X5_booking : GoodIn wsL_looks wsX5_booking := goodIn_ca (goodIn_r _ [25, 26, 27, 28, 29, 30, 31, 32, 6, 33, 14, 15, 34, 127, 128, 129, 130, 131, 132, 133, 134, 140, 141, 142, 143, 144, 145] (by decide +kernel) (by decide +kernel)) (goodIn_sub (fun _ h => List.mem_cons_of_mem _ (List.mem_append_right _ h)) (by decide +kernel))
set_option maxRecDepth 20000 in
theorem gL_looks_X5_booking : GoodIn wsL_looks (wsV RL 69 RX5 yX5_booking wsX5_booking) := goodIn_app (goodIn_of _ (by decide +kernel)) ggL_looks_X5_booking
set_option maxRecDepth 20000 in
theorem ggL_looks_X5_late : GoodIn wsL_looks wsX5_late := goodIn_ca (goodIn_r _ [38, 26, 27, 30, 31, 32, 6, 33, 14, 15, 34, 127, 128, 129, 130, 131, 132, 133, 134, 140, 141, 142, 143, 144, 145] (by decide +kernel) (by decide +kernel)) (goodIn_sub (fun _ h => List.mem_cons_of_mem _ (List.mem_append_right _ h)) (by decide +kernel))
set_option maxRecDepth 20000 in
theorem gL_looks_X5_late : GoodIn wsL_looks (wsV RL 72 RX5 yX5_late wsX5_late) := goodIn_app (goodIn_of _ (by decide +kernel)) ggL_looks_X5_late
set_option maxRecDepth 20000 in
theorem ggL_looks_X5_waggonAt : GoodIn wsL_looks wsX5_waggonAt := goodIn_ca (goodIn_r _ [42, 14, 15, 8, 16, 43, 44, 45, 6, 46, 47, 48, 49, 50, 51, 52, 53, 54, 55, 56, 57, 58, 59, 60, 61, 62, 63, 127, 128, 129, 130, 131, 132, 133, 134, 135, 136, 137, 138, 139, 146, 147, 148, 149] (by decide +kernel) (by decide +kernel)) (goodIn_sub (fun _ h => List.mem_cons_of_mem _ (List.mem_append_right _ h)) (by decide +kernel))
set_option maxRecDepth 20000 in
theorem gL_looks_X5_waggonAt : GoodIn wsL_looks (wsV RL 75 RX5 yX5_waggonAt wsX5_waggonAt) := goodIn_app (goodIn_of _ (by decide +kernel)) ggL_looks_X5_waggonAt
theorem dL_looks_0 : decode cL_looks 0 = .ok (.iload_n 1, 1) := by decide +kernel
theorem dL_looks_1 : decode cL_looks 1 = .ok (.ifCond .ne 11, 3) := by decide +kernel
theorem dL_looks_4 : decode cL_looks 4 = .ok (.aload_n 0, 1) := by decide +kernel
theorem dL_looks_5 : decode cL_looks 5 = .ok (.iload_n 2, 1) := by decide +kernel
theorem dL_looks_6 : decode cL_looks 6 = .ok (.invokevirtual 63, 3) := by decide +kernel
theorem dL_looks_9 : decode cL_looks 9 = .ok (.goto 70, 3) := by decide +kernel
theorem dL_looks_12 : decode cL_looks 12 = .ok (.iload_n 1, 1) := by decide +kernel
theorem dL_looks_13 : decode cL_looks 13 = .ok (.iconst 1, 1) := by decide +kernel
theorem dL_looks_14 : decode cL_looks 14 = .ok (.if_icmp .ne 19, 3) := by decide +kernel
theorem dL_looks_17 : decode cL_looks 17 = .ok (.aload_n 0, 1) := by decide +kernel
theorem dL_looks_18 : decode cL_looks 18 = .ok (.iload_n 2, 1) := by decide +kernel
theorem dL_looks_19 : decode cL_looks 19 = .ok (.invokevirtual 66, 3) := by decide +kernel
theorem dL_looks_22 : decode cL_looks 22 = .ok (.ifCond .eq 7, 3) := by decide +kernel
theorem dL_looks_25 : decode cL_looks 25 = .ok (.iconst 1, 1) := by decide +kernel
theorem dL_looks_26 : decode cL_looks 26 = .ok (.goto 53, 3) := by decide +kernel
theorem dL_looks_29 : decode cL_looks 29 = .ok (.iconst 0, 1) := by decide +kernel
theorem dL_looks_30 : decode cL_looks 30 = .ok (.goto 49, 3) := by decide +kernel
theorem dL_looks_33 : decode cL_looks 33 = .ok (.iload_n 1, 1) := by decide +kernel
theorem dL_looks_34 : decode cL_looks 34 = .ok (.iconst 2, 1) := by decide +kernel
theorem dL_looks_35 : decode cL_looks 35 = .ok (.if_icmp .ne 11, 3) := by decide +kernel
theorem dL_looks_38 : decode cL_looks 38 = .ok (.aload_n 0, 1) := by decide +kernel
theorem dL_looks_39 : decode cL_looks 39 = .ok (.iload_n 2, 1) := by decide +kernel
theorem dL_looks_40 : decode cL_looks 40 = .ok (.invokevirtual 69, 3) := by decide +kernel
theorem dL_looks_43 : decode cL_looks 43 = .ok (.goto 36, 3) := by decide +kernel
theorem dL_looks_46 : decode cL_looks 46 = .ok (.iload_n 1, 1) := by decide +kernel
theorem dL_looks_47 : decode cL_looks 47 = .ok (.iconst 3, 1) := by decide +kernel
theorem dL_looks_48 : decode cL_looks 48 = .ok (.if_icmp .ne 11, 3) := by decide +kernel
theorem dL_looks_51 : decode cL_looks 51 = .ok (.aload_n 0, 1) := by decide +kernel
theorem dL_looks_52 : decode cL_looks 52 = .ok (.iload_n 2, 1) := by decide +kernel
theorem dL_looks_53 : decode cL_looks 53 = .ok (.invokevirtual 72, 3) := by decide +kernel
theorem dL_looks_56 : decode cL_looks 56 = .ok (.goto 23, 3) := by decide +kernel
theorem dL_looks_59 : decode cL_looks 59 = .ok (.iload_n 1, 1) := by decide +kernel
theorem dL_looks_60 : decode cL_looks 60 = .ok (.iconst 4, 1) := by decide +kernel
theorem dL_looks_61 : decode cL_looks 61 = .ok (.if_icmp .ne 12, 3) := by decide +kernel
theorem dL_looks_64 : decode cL_looks 64 = .ok (.aload_n 0, 1) := by decide +kernel
theorem dL_looks_65 : decode cL_looks 65 = .ok (.iload_n 2, 1) := by decide +kernel
theorem dL_looks_66 : decode cL_looks 66 = .ok (.iload_n 3, 1) := by decide +kernel
theorem dL_looks_67 : decode cL_looks 67 = .ok (.invokevirtual 75, 3) := by decide +kernel
theorem dL_looks_70 : decode cL_looks 70 = .ok (.goto 9, 3) := by decide +kernel
theorem dL_looks_73 : decode cL_looks 73 = .ok (.aload_n 0, 1) := by decide +kernel
theorem dL_looks_74 : decode cL_looks 74 = .ok (.iload_n 2, 1) := by decide +kernel
theorem dL_looks_75 : decode cL_looks 75 = .ok (.iload_n 3, 1) := by decide +kernel
theorem dL_looks_76 : decode cL_looks 76 = .ok (.invokevirtual 78, 3) := by decide +kernel
theorem dL_looks_79 : decode cL_looks 79 = .ok (.ireturn, 1) := by decide +kernel
theorem dL_looks_80 : decode cL_looks 80 = .ok (.astore 4, 2) := by decide +kernel
theorem dL_looks_82 : decode cL_looks 82 = .ok (.ldc 54, 2) := by decide +kernel
theorem dL_looks_84 : decode cL_looks 84 = .ok (.ireturn, 1) := by decide +kernel
set_option maxRecDepth 20000 in
theorem ggL_can_X5_canBook : GoodIn wsL_can wsX5_canBook := goodIn_ca (goodIn_ca (goodIn_r _ [8, 9, 10, 11, 12, 7, 13, 14, 15, 16, 17, 18, 19, 20, 21, 22, 23, 24, 25, 26, 27, 28, 29, 30, 31, 32, 33, 34, 35, 36, 37, 38, 39, 40, 41, 42, 43, 44, 45, 46, 47, 48, 49, 50, 51, 52, 53, 54] (by decide +kernel) (by decide +kernel)) (goodIn_sub (fun _ h => List.mem_cons_of_mem _ (List.mem_append_left _ (List.mem_append_right _ h))) (by decide +kernel))) (goodIn_sub (fun _ h => List.mem_cons_of_mem _ (List.mem_append_right _ h)) (by decide +kernel))
set_option maxRecDepth 20000 in
theorem gL_can_X5_canBook : GoodIn wsL_can (wsV RL 81 RX5 yX5_canBook wsX5_canBook) := goodIn_app (goodIn_of _ (by decide +kernel)) ggL_can_X5_canBook
theorem dL_can_0 : decode cL_can 0 = .ok (.aload_n 0, 1) := by decide +kernel
theorem dL_can_1 : decode cL_can 1 = .ok (.iload_n 1, 1) := by decide +kernel
theorem dL_can_2 : decode cL_can 2 = .ok (.iload_n 2, 1) := by decide +kernel
theorem dL_can_3 : decode cL_can 3 = .ok (.iload_n 3, 1) := by decide +kernel
theorem dL_can_4 : decode cL_can 4 = .ok (.iload 4, 2) := by decide +kernel
theorem dL_can_6 : decode cL_can 6 = .ok (.invokevirtual 81, 3) := by decide +kernel
theorem dL_can_9 : decode cL_can 9 = .ok (.ifCond .eq 7, 3) := by decide +kernel
theorem dL_can_12 : decode cL_can 12 = .ok (.iconst 1, 1) := by decide +kernel
theorem dL_can_13 : decode cL_can 13 = .ok (.goto 4, 3) := by decide +kernel
theorem dL_can_16 : decode cL_can 16 = .ok (.iconst 0, 1) := by decide +kernel
theorem dL_can_17 : decode cL_can 17 = .ok (.ireturn, 1) := by decide +kernel
theorem dL_can_18 : decode cL_can 18 = .ok (.astore 5, 2) := by decide +kernel
theorem dL_can_20 : decode cL_can 20 = .ok (.ldc 54, 2) := by decide +kernel
theorem dL_can_22 : decode cL_can 22 = .ok (.ireturn, 1) := by decide +kernel
theorem dL_can_23 : decode cL_can 23 = .ok (.astore 5, 2) := by decide +kernel
theorem dL_can_25 : decode cL_can 25 = .ok (.ldc 54, 2) := by decide +kernel
theorem dL_can_27 : decode cL_can 27 = .ok (.ireturn, 1) := by decide +kernel
set_option maxRecDepth 20000 in
theorem ggL_trains_L_looks : GoodIn wsL_trains wsL_looks := goodIn_ca (goodIn_r _ [4, 5, 6, 7, 8, 9, 10, 11, 12, 13, 14, 15, 16, 17, 18, 19, 20, 21, 22, 23, 24, 25, 26, 27, 28, 29, 30, 31, 32, 33, 34, 35, 36, 37, 38, 39, 40, 41, 42, 43, 44, 45, 46, 47, 48, 49, 50, 51, 52, 53, 54, 55, 56, 57, 58, 59, 60, 61, 62, 63, 64, 65, 66, 67, 68, 69, 70, 71, 72, 73, 74, 75, 76, 77, 78, 79, 80, 81, 82, 83, 84, 85, 86, 87, 88, 89, 90, 91, 92, 93, 94, 95, 96, 97, 98, 99, 100, 101, 102, 103, 104, 105, 106, 107, 108, 109, 110, 111, 112, 113, 114, 115, 116, 117, 118, 119, 120, 121, 122, 123, 124, 125, 126, 127, 128, 129, 130, 131, 132, 133, 134, 135, 136, 137, 138, 139, 140, 141, 142, 143, 144, 145, 146, 147, 148, 149, 150, 151, 152, 153, 154] (by decide +kernel) (by decide +kernel)) (goodIn_sub (fun _ h => List.mem_cons_of_mem _ (List.mem_append_right _ h)) (by decide +kernel))
set_option maxRecDepth 20000 in
theorem gL_trains_L_looks : GoodIn wsL_trains (va_wsS RL 85 yL_looks wsL_looks) := goodIn_app (goodIn_of _ (by decide +kernel)) ggL_trains_L_looks
theorem dL_trains_0 : decode cL_trains 0 = .ok (.iconst 0, 1) := by decide +kernel
theorem dL_trains_1 : decode cL_trains 1 = .ok (.istore_n 1, 1) := by decide +kernel
theorem dL_trains_2 : decode cL_trains 2 = .ok (.aload_n 0, 1) := by decide +kernel
theorem dL_trains_3 : decode cL_trains 3 = .ok (.iconst 0, 1) := by decide +kernel
theorem dL_trains_4 : decode cL_trains 4 = .ok (.iload_n 1, 1) := by decide +kernel
theorem dL_trains_5 : decode cL_trains 5 = .ok (.iconst 0, 1) := by decide +kernel
theorem dL_trains_6 : decode cL_trains 6 = .ok (.invokestatic 85, 3) := by decide +kernel
theorem dL_trains_9 : decode cL_trains 9 = .ok (.ifCond .lt 9, 3) := by decide +kernel
theorem dL_trains_12 : decode cL_trains 12 = .ok (.iinc 1 1, 3) := by decide +kernel
theorem dL_trains_15 : decode cL_trains 15 = .ok (.goto (-13), 3) := by decide +kernel
theorem dL_trains_18 : decode cL_trains 18 = .ok (.iload_n 1, 1) := by decide +kernel
theorem dL_trains_19 : decode cL_trains 19 = .ok (.ireturn, 1) := by decide +kernel
set_option maxRecDepth 20000 in
theorem ggL_act_L_low : GoodIn wsL_act wsL_low := goodIn_r _ [4, 5] (by decide +kernel) (by decide +kernel)
set_option maxRecDepth 20000 in
theorem gL_act_L_low : GoodIn wsL_act (va_wsS RL 89 yL_low wsL_low) := goodIn_app (goodIn_of _ (by decide +kernel)) ggL_act_L_low
set_option maxRecDepth 20000 in
theorem ggL_act_L_does : GoodIn wsL_act wsL_does := goodIn_ca (goodIn_ca (goodIn_ca (goodIn_r _ [8, 9, 10, 11, 12, 13, 14, 15, 16, 17, 18, 19, 20, 21, 22, 23, 24, 25, 26, 27, 28, 29, 30, 31, 32, 33, 34, 35, 36, 37, 38, 39, 40, 41, 42, 43, 44, 45, 46, 47, 48, 49, 50, 51, 52, 53, 54, 55, 56, 57, 58, 59, 60, 61, 62, 63, 64, 65, 66, 67, 68, 69, 70, 71, 72, 73, 74, 75, 76, 77, 78, 79, 80, 81, 82, 83, 84, 85, 86, 87, 88, 89, 90, 91, 92, 93, 94, 95, 96, 97, 98, 99, 100, 101, 102, 103, 104, 105, 106, 107, 108, 109, 110, 111, 112, 113, 114, 115, 116, 117, 118, 119, 120, 121, 122, 123, 124, 125, 126, 127, 128, 129, 130, 131, 132, 133, 134, 135, 136, 137, 138, 139, 140, 141, 142, 143, 144, 145, 146, 147, 148, 149, 150, 151, 152, 153, 154, 155, 156, 157, 158, 159, 160, 161, 162, 163, 164, 165, 166, 167, 168, 169, 170, 171, 172, 173, 174, 175, 176, 177, 3, 178, 179, 180, 181, 182, 183, 184, 185, 186, 187, 188, 189, 190, 191, 192, 193, 194, 195, 196, 197, 198, 199, 200, 201, 202, 203, 204, 205, 206, 207, 208, 209, 210, 211, 212, 213, 214, 215, 216, 217, 218, 219, 220, 221, 222, 223, 224, 225, 226, 227, 228, 229, 230, 231, 232, 233, 234, 235, 236, 237, 242, 243, 244, 245, 246, 247, 248, 249, 250, 251, 252, 253, 254, 255, 256, 257, 258, 259, 260, 261, 262, 263, 264, 265, 266, 267, 268] (by decide +kernel) (by decide +kernel)) (goodIn_sub (fun _ h => List.mem_cons_of_mem _ (List.mem_append_left _ (List.mem_append_left _ (List.mem_append_right _ h)))) (by decide +kernel))) (goodIn_sub (fun _ h => List.mem_cons_of_mem _ (List.mem_append_left _ (List.mem_append_right _ h))) (by decide +kernel))) (goodIn_sub (fun _ h => List.mem_cons_of_mem _ (List.mem_append_right _ h)) (by decide +kernel))
set_option maxRecDepth 20000 in
theorem gL_act_L_does : GoodIn wsL_act (va_wsS RL 92 yL_does wsL_does) := goodIn_app (goodIn_of _ (by decide +kernel)) ggL_act_L_does
set_option maxRecDepth 20000 in
theorem ggL_act_X5_clock : GoodIn wsL_act wsX5_clock := goodIn_r _ [241, 81, 242, 243, 244, 245, 246, 247, 248, 249] (by decide +kernel) (by decide +kernel)
set_option maxRecDepth 20000 in
theorem gL_act_X5_clock : GoodIn wsL_act (wsV RL 96 RX5 yX5_clock wsX5_clock) := goodIn_app (goodIn_of _ (by decide +kernel)) ggL_act_X5_clock
theorem dL_act_0 : decode cL_act 0 = .ok (.iload_n 1, 1) := by decide +kernel
theorem dL_act_1 : decode cL_act 1 = .ok (.bipush 24, 2) := by decide +kernel
theorem dL_act_3 : decode cL_act 3 = .ok (.ishr, 1) := by decide +kernel
theorem dL_act_4 : decode cL_act 4 = .ok (.bipush 8, 2) := by decide +kernel
theorem dL_act_6 : decode cL_act 6 = .ok (.invokestatic 89, 3) := by decide +kernel
theorem dL_act_9 : decode cL_act 9 = .ok (.ifCond .ne 7, 3) := by decide +kernel
theorem dL_act_12 : decode cL_act 12 = .ok (.iconst 1, 1) := by decide +kernel
theorem dL_act_13 : decode cL_act 13 = .ok (.goto 4, 3) := by decide +kernel
theorem dL_act_16 : decode cL_act 16 = .ok (.iconst 0, 1) := by decide +kernel
theorem dL_act_17 : decode cL_act 17 = .ok (.istore_n 2, 1) := by decide +kernel
theorem dL_act_18 : decode cL_act 18 = .ok (.iload_n 1, 1) := by decide +kernel
theorem dL_act_19 : decode cL_act 19 = .ok (.bipush 32, 2) := by decide +kernel
theorem dL_act_21 : decode cL_act 21 = .ok (.invokestatic 89, 3) := by decide +kernel
theorem dL_act_24 : decode cL_act 24 = .ok (.istore_n 3, 1) := by decide +kernel
theorem dL_act_25 : decode cL_act 25 = .ok (.iload_n 2, 1) := by decide +kernel
theorem dL_act_26 : decode cL_act 26 = .ok (.ifCond .eq 17, 3) := by decide +kernel
theorem dL_act_29 : decode cL_act 29 = .ok (.iload_n 1, 1) := by decide +kernel
theorem dL_act_30 : decode cL_act 30 = .ok (.bipush 6, 2) := by decide +kernel
theorem dL_act_32 : decode cL_act 32 = .ok (.ishr, 1) := by decide +kernel
theorem dL_act_33 : decode cL_act 33 = .ok (.bipush 7, 2) := by decide +kernel
theorem dL_act_35 : decode cL_act 35 = .ok (.invokestatic 89, 3) := by decide +kernel
theorem dL_act_38 : decode cL_act 38 = .ok (.iconst 1, 1) := by decide +kernel
theorem dL_act_39 : decode cL_act 39 = .ok (.isub, 1) := by decide +kernel
theorem dL_act_40 : decode cL_act 40 = .ok (.goto 11, 3) := by decide +kernel
theorem dL_act_43 : decode cL_act 43 = .ok (.iload_n 1, 1) := by decide +kernel
theorem dL_act_44 : decode cL_act 44 = .ok (.bipush 6, 2) := by decide +kernel
theorem dL_act_46 : decode cL_act 46 = .ok (.ishr, 1) := by decide +kernel
theorem dL_act_47 : decode cL_act 47 = .ok (.iconst 3, 1) := by decide +kernel
theorem dL_act_48 : decode cL_act 48 = .ok (.invokestatic 89, 3) := by decide +kernel
theorem dL_act_51 : decode cL_act 51 = .ok (.istore 4, 2) := by decide +kernel
theorem dL_act_53 : decode cL_act 53 = .ok (.iload_n 3, 1) := by decide +kernel
theorem dL_act_54 : decode cL_act 54 = .ok (.iconst 2, 1) := by decide +kernel
theorem dL_act_55 : decode cL_act 55 = .ok (.if_icmp .ge 42, 3) := by decide +kernel
theorem dL_act_58 : decode cL_act 58 = .ok (.aload_n 0, 1) := by decide +kernel
theorem dL_act_59 : decode cL_act 59 = .ok (.iconst 0, 1) := by decide +kernel
theorem dL_act_60 : decode cL_act 60 = .ok (.iload_n 2, 1) := by decide +kernel
theorem dL_act_61 : decode cL_act 61 = .ok (.ifCond .eq 17, 3) := by decide +kernel
theorem dL_act_64 : decode cL_act 64 = .ok (.iload_n 1, 1) := by decide +kernel
theorem dL_act_65 : decode cL_act 65 = .ok (.bipush 6, 2) := by decide +kernel
theorem dL_act_67 : decode cL_act 67 = .ok (.ishr, 1) := by decide +kernel
theorem dL_act_68 : decode cL_act 68 = .ok (.bipush 11, 2) := by decide +kernel
theorem dL_act_70 : decode cL_act 70 = .ok (.invokestatic 89, 3) := by decide +kernel
theorem dL_act_73 : decode cL_act 73 = .ok (.iconst 1, 1) := by decide +kernel
theorem dL_act_74 : decode cL_act 74 = .ok (.isub, 1) := by decide +kernel
theorem dL_act_75 : decode cL_act 75 = .ok (.goto 10, 3) := by decide +kernel
theorem dL_act_78 : decode cL_act 78 = .ok (.iload_n 1, 1) := by decide +kernel
theorem dL_act_79 : decode cL_act 79 = .ok (.bipush 6, 2) := by decide +kernel
theorem dL_act_81 : decode cL_act 81 = .ok (.ishr, 1) := by decide +kernel
theorem dL_act_82 : decode cL_act 82 = .ok (.bipush 7, 2) := by decide +kernel
theorem dL_act_84 : decode cL_act 84 = .ok (.iand, 1) := by decide +kernel
theorem dL_act_85 : decode cL_act 85 = .ok (.iload_n 1, 1) := by decide +kernel
theorem dL_act_86 : decode cL_act 86 = .ok (.bipush 10, 2) := by decide +kernel
theorem dL_act_88 : decode cL_act 88 = .ok (.ishr, 1) := by decide +kernel
theorem dL_act_89 : decode cL_act 89 = .ok (.iconst 1, 1) := by decide +kernel
theorem dL_act_90 : decode cL_act 90 = .ok (.iand, 1) := by decide +kernel
theorem dL_act_91 : decode cL_act 91 = .ok (.iconst 0, 1) := by decide +kernel
theorem dL_act_92 : decode cL_act 92 = .ok (.iconst 0, 1) := by decide +kernel
theorem dL_act_93 : decode cL_act 93 = .ok (.invokestatic 92, 3) := by decide +kernel
theorem dL_act_96 : decode cL_act 96 = .ok (.ireturn, 1) := by decide +kernel
theorem dL_act_97 : decode cL_act 97 = .ok (.iload_n 3, 1) := by decide +kernel
theorem dL_act_98 : decode cL_act 98 = .ok (.bipush 8, 2) := by decide +kernel
theorem dL_act_100 : decode cL_act 100 = .ok (.if_icmp .ge 118, 3) := by decide +kernel
theorem dL_act_103 : decode cL_act 103 = .ok (.iload_n 3, 1) := by decide +kernel
theorem dL_act_104 : decode cL_act 104 = .ok (.iconst 4, 1) := by decide +kernel
theorem dL_act_105 : decode cL_act 105 = .ok (.if_icmp .ge 7, 3) := by decide +kernel
theorem dL_act_108 : decode cL_act 108 = .ok (.iconst 1, 1) := by decide +kernel
theorem dL_act_109 : decode cL_act 109 = .ok (.goto 22, 3) := by decide +kernel
theorem dL_act_112 : decode cL_act 112 = .ok (.iload_n 3, 1) := by decide +kernel
theorem dL_act_113 : decode cL_act 113 = .ok (.iconst 4, 1) := by decide +kernel
theorem dL_act_114 : decode cL_act 114 = .ok (.if_icmp .ne 7, 3) := by decide +kernel
theorem dL_act_117 : decode cL_act 117 = .ok (.iconst 2, 1) := by decide +kernel
theorem dL_act_118 : decode cL_act 118 = .ok (.goto 13, 3) := by decide +kernel
theorem dL_act_121 : decode cL_act 121 = .ok (.iload_n 3, 1) := by decide +kernel
theorem dL_act_122 : decode cL_act 122 = .ok (.iconst 5, 1) := by decide +kernel
theorem dL_act_123 : decode cL_act 123 = .ok (.if_icmp .ne 7, 3) := by decide +kernel
theorem dL_act_126 : decode cL_act 126 = .ok (.iconst 3, 1) := by decide +kernel
theorem dL_act_127 : decode cL_act 127 = .ok (.goto 4, 3) := by decide +kernel
theorem dL_act_130 : decode cL_act 130 = .ok (.iconst 4, 1) := by decide +kernel
theorem dL_act_131 : decode cL_act 131 = .ok (.istore 5, 2) := by decide +kernel
theorem dL_act_133 : decode cL_act 133 = .ok (.aload_n 0, 1) := by decide +kernel
theorem dL_act_134 : decode cL_act 134 = .ok (.iload 5, 2) := by decide +kernel
theorem dL_act_136 : decode cL_act 136 = .ok (.iload 5, 2) := by decide +kernel
theorem dL_act_138 : decode cL_act 138 = .ok (.iconst 4, 1) := by decide +kernel
theorem dL_act_139 : decode cL_act 139 = .ok (.if_icmp .ne 29, 3) := by decide +kernel
theorem dL_act_142 : decode cL_act 142 = .ok (.iload_n 2, 1) := by decide +kernel
theorem dL_act_143 : decode cL_act 143 = .ok (.ifCond .eq 16, 3) := by decide +kernel
theorem dL_act_146 : decode cL_act 146 = .ok (.iload_n 1, 1) := by decide +kernel
theorem dL_act_147 : decode cL_act 147 = .ok (.bipush 9, 2) := by decide +kernel
theorem dL_act_149 : decode cL_act 149 = .ok (.ishr, 1) := by decide +kernel
theorem dL_act_150 : decode cL_act 150 = .ok (.iconst 4, 1) := by decide +kernel
theorem dL_act_151 : decode cL_act 151 = .ok (.invokestatic 89, 3) := by decide +kernel
theorem dL_act_154 : decode cL_act 154 = .ok (.iconst 1, 1) := by decide +kernel
theorem dL_act_155 : decode cL_act 155 = .ok (.isub, 1) := by decide +kernel
theorem dL_act_156 : decode cL_act 156 = .ok (.goto 14, 3) := by decide +kernel
theorem dL_act_159 : decode cL_act 159 = .ok (.iload_n 1, 1) := by decide +kernel
theorem dL_act_160 : decode cL_act 160 = .ok (.bipush 9, 2) := by decide +kernel
theorem dL_act_162 : decode cL_act 162 = .ok (.ishr, 1) := by decide +kernel
theorem dL_act_163 : decode cL_act 163 = .ok (.iconst 1, 1) := by decide +kernel
theorem dL_act_164 : decode cL_act 164 = .ok (.iand, 1) := by decide +kernel
theorem dL_act_165 : decode cL_act 165 = .ok (.goto 5, 3) := by decide +kernel
theorem dL_act_168 : decode cL_act 168 = .ok (.iload 4, 2) := by decide +kernel
theorem dL_act_170 : decode cL_act 170 = .ok (.iload 5, 2) := by decide +kernel
theorem dL_act_172 : decode cL_act 172 = .ok (.iconst 1, 1) := by decide +kernel
theorem dL_act_173 : decode cL_act 173 = .ok (.if_icmp .ne 12, 3) := by decide +kernel
theorem dL_act_176 : decode cL_act 176 = .ok (.iload_n 1, 1) := by decide +kernel
theorem dL_act_177 : decode cL_act 177 = .ok (.bipush 9, 2) := by decide +kernel
theorem dL_act_179 : decode cL_act 179 = .ok (.ishr, 1) := by decide +kernel
theorem dL_act_180 : decode cL_act 180 = .ok (.iconst 1, 1) := by decide +kernel
theorem dL_act_181 : decode cL_act 181 = .ok (.iand, 1) := by decide +kernel
theorem dL_act_182 : decode cL_act 182 = .ok (.goto 30, 3) := by decide +kernel
theorem dL_act_185 : decode cL_act 185 = .ok (.iload_n 2, 1) := by decide +kernel
theorem dL_act_186 : decode cL_act 186 = .ok (.ifCond .eq 15, 3) := by decide +kernel
theorem dL_act_189 : decode cL_act 189 = .ok (.iload_n 1, 1) := by decide +kernel
theorem dL_act_190 : decode cL_act 190 = .ok (.bipush 9, 2) := by decide +kernel
theorem dL_act_192 : decode cL_act 192 = .ok (.ishr, 1) := by decide +kernel
theorem dL_act_193 : decode cL_act 193 = .ok (.bipush 120, 2) := by decide +kernel
theorem dL_act_195 : decode cL_act 195 = .ok (.invokestatic 89, 3) := by decide +kernel
theorem dL_act_198 : decode cL_act 198 = .ok (.goto 14, 3) := by decide +kernel
theorem dL_act_201 : decode cL_act 201 = .ok (.iconst 1, 1) := by decide +kernel
theorem dL_act_202 : decode cL_act 202 = .ok (.iload_n 1, 1) := by decide +kernel
theorem dL_act_203 : decode cL_act 203 = .ok (.bipush 9, 2) := by decide +kernel
theorem dL_act_205 : decode cL_act 205 = .ok (.ishr, 1) := by decide +kernel
theorem dL_act_206 : decode cL_act 206 = .ok (.bipush 6, 2) := by decide +kernel
theorem dL_act_208 : decode cL_act 208 = .ok (.invokestatic 89, 3) := by decide +kernel
theorem dL_act_211 : decode cL_act 211 = .ok (.iadd, 1) := by decide +kernel
theorem dL_act_212 : decode cL_act 212 = .ok (.iconst 0, 1) := by decide +kernel
theorem dL_act_213 : decode cL_act 213 = .ok (.iconst 0, 1) := by decide +kernel
theorem dL_act_214 : decode cL_act 214 = .ok (.invokestatic 92, 3) := by decide +kernel
theorem dL_act_217 : decode cL_act 217 = .ok (.ireturn, 1) := by decide +kernel
theorem dL_act_218 : decode cL_act 218 = .ok (.iload_n 3, 1) := by decide +kernel
theorem dL_act_219 : decode cL_act 219 = .ok (.bipush 13, 2) := by decide +kernel
theorem dL_act_221 : decode cL_act 221 = .ok (.if_icmp .ge 96, 3) := by decide +kernel
theorem dL_act_224 : decode cL_act 224 = .ok (.aload_n 0, 1) := by decide +kernel
theorem dL_act_225 : decode cL_act 225 = .ok (.invokevirtual 96, 3) := by decide +kernel
theorem dL_act_228 : decode cL_act 228 = .ok (.iload_n 2, 1) := by decide +kernel
theorem dL_act_229 : decode cL_act 229 = .ok (.ifCond .eq 18, 3) := by decide +kernel
theorem dL_act_232 : decode cL_act 232 = .ok (.iload_n 1, 1) := by decide +kernel
theorem dL_act_233 : decode cL_act 233 = .ok (.bipush 9, 2) := by decide +kernel
theorem dL_act_235 : decode cL_act 235 = .ok (.ishr, 1) := by decide +kernel
theorem dL_act_236 : decode cL_act 236 = .ok (.bipush 40, 2) := by decide +kernel
theorem dL_act_238 : decode cL_act 238 = .ok (.invokestatic 89, 3) := by decide +kernel
theorem dL_act_241 : decode cL_act 241 = .ok (.bipush 10, 2) := by decide +kernel
theorem dL_act_243 : decode cL_act 243 = .ok (.isub, 1) := by decide +kernel
theorem dL_act_244 : decode cL_act 244 = .ok (.goto 12, 3) := by decide +kernel
theorem dL_act_247 : decode cL_act 247 = .ok (.iload_n 1, 1) := by decide +kernel
theorem dL_act_248 : decode cL_act 248 = .ok (.bipush 9, 2) := by decide +kernel
theorem dL_act_250 : decode cL_act 250 = .ok (.ishr, 1) := by decide +kernel
theorem dL_act_251 : decode cL_act 251 = .ok (.bipush 10, 2) := by decide +kernel
theorem dL_act_253 : decode cL_act 253 = .ok (.invokestatic 89, 3) := by decide +kernel
theorem dL_act_256 : decode cL_act 256 = .ok (.iadd, 1) := by decide +kernel
theorem dL_act_257 : decode cL_act 257 = .ok (.istore 5, 2) := by decide +kernel
theorem dL_act_259 : decode cL_act 259 = .ok (.aload_n 0, 1) := by decide +kernel
theorem dL_act_260 : decode cL_act 260 = .ok (.bipush 6, 2) := by decide +kernel
theorem dL_act_262 : decode cL_act 262 = .ok (.iload 4, 2) := by decide +kernel
theorem dL_act_264 : decode cL_act 264 = .ok (.iload_n 2, 1) := by decide +kernel
theorem dL_act_265 : decode cL_act 265 = .ok (.ifCond .eq 17, 3) := by decide +kernel
theorem dL_act_268 : decode cL_act 268 = .ok (.iload_n 1, 1) := by decide +kernel
theorem dL_act_269 : decode cL_act 269 = .ok (.bipush 12, 2) := by decide +kernel
theorem dL_act_271 : decode cL_act 271 = .ok (.ishr, 1) := by decide +kernel
theorem dL_act_272 : decode cL_act 272 = .ok (.bipush 10, 2) := by decide +kernel
theorem dL_act_274 : decode cL_act 274 = .ok (.invokestatic 89, 3) := by decide +kernel
theorem dL_act_277 : decode cL_act 277 = .ok (.iconst 1, 1) := by decide +kernel
theorem dL_act_278 : decode cL_act 278 = .ok (.isub, 1) := by decide +kernel
theorem dL_act_279 : decode cL_act 279 = .ok (.goto 10, 3) := by decide +kernel
theorem dL_act_282 : decode cL_act 282 = .ok (.iload_n 1, 1) := by decide +kernel
theorem dL_act_283 : decode cL_act 283 = .ok (.bipush 12, 2) := by decide +kernel
theorem dL_act_285 : decode cL_act 285 = .ok (.ishr, 1) := by decide +kernel
theorem dL_act_286 : decode cL_act 286 = .ok (.bipush 7, 2) := by decide +kernel
theorem dL_act_288 : decode cL_act 288 = .ok (.iand, 1) := by decide +kernel
theorem dL_act_289 : decode cL_act 289 = .ok (.iload 5, 2) := by decide +kernel
theorem dL_act_291 : decode cL_act 291 = .ok (.iload 5, 2) := by decide +kernel
theorem dL_act_293 : decode cL_act 293 = .ok (.iload_n 1, 1) := by decide +kernel
theorem dL_act_294 : decode cL_act 294 = .ok (.bipush 14, 2) := by decide +kernel
theorem dL_act_296 : decode cL_act 296 = .ok (.ishr, 1) := by decide +kernel
theorem dL_act_297 : decode cL_act 297 = .ok (.bipush 12, 2) := by decide +kernel
theorem dL_act_299 : decode cL_act 299 = .ok (.invokestatic 89, 3) := by decide +kernel
theorem dL_act_302 : decode cL_act 302 = .ok (.iadd, 1) := by decide +kernel
theorem dL_act_303 : decode cL_act 303 = .ok (.iload_n 2, 1) := by decide +kernel
theorem dL_act_304 : decode cL_act 304 = .ok (.ifCond .eq 7, 3) := by decide +kernel
theorem dL_act_307 : decode cL_act 307 = .ok (.iconst 3, 1) := by decide +kernel
theorem dL_act_308 : decode cL_act 308 = .ok (.goto 4, 3) := by decide +kernel
theorem dL_act_311 : decode cL_act 311 = .ok (.iconst 0, 1) := by decide +kernel
theorem dL_act_312 : decode cL_act 312 = .ok (.isub, 1) := by decide +kernel
theorem dL_act_313 : decode cL_act 313 = .ok (.invokestatic 92, 3) := by decide +kernel
theorem dL_act_316 : decode cL_act 316 = .ok (.ireturn, 1) := by decide +kernel
theorem dL_act_317 : decode cL_act 317 = .ok (.iload_n 3, 1) := by decide +kernel
theorem dL_act_318 : decode cL_act 318 = .ok (.bipush 19, 2) := by decide +kernel
theorem dL_act_320 : decode cL_act 320 = .ok (.if_icmp .ge 185, 3) := by decide +kernel
theorem dL_act_323 : decode cL_act 323 = .ok (.iload_n 3, 1) := by decide +kernel
theorem dL_act_324 : decode cL_act 324 = .ok (.bipush 16, 2) := by decide +kernel
theorem dL_act_326 : decode cL_act 326 = .ok (.if_icmp .ge 68, 3) := by decide +kernel
theorem dL_act_329 : decode cL_act 329 = .ok (.aload_n 0, 1) := by decide +kernel
theorem dL_act_330 : decode cL_act 330 = .ok (.bipush 7, 2) := by decide +kernel
theorem dL_act_332 : decode cL_act 332 = .ok (.iload_n 2, 1) := by decide +kernel
theorem dL_act_333 : decode cL_act 333 = .ok (.ifCond .eq 17, 3) := by decide +kernel
theorem dL_act_336 : decode cL_act 336 = .ok (.iconst 4, 1) := by decide +kernel
theorem dL_act_337 : decode cL_act 337 = .ok (.iload_n 1, 1) := by decide +kernel
theorem dL_act_338 : decode cL_act 338 = .ok (.bipush 9, 2) := by decide +kernel
theorem dL_act_340 : decode cL_act 340 = .ok (.ishr, 1) := by decide +kernel
theorem dL_act_341 : decode cL_act 341 = .ok (.bipush 6, 2) := by decide +kernel
theorem dL_act_343 : decode cL_act 343 = .ok (.invokestatic 89, 3) := by decide +kernel
theorem dL_act_346 : decode cL_act 346 = .ok (.iadd, 1) := by decide +kernel
theorem dL_act_347 : decode cL_act 347 = .ok (.goto 12, 3) := by decide +kernel
theorem dL_act_350 : decode cL_act 350 = .ok (.bipush 6, 2) := by decide +kernel
theorem dL_act_352 : decode cL_act 352 = .ok (.iload_n 1, 1) := by decide +kernel
theorem dL_act_353 : decode cL_act 353 = .ok (.bipush 9, 2) := by decide +kernel
theorem dL_act_355 : decode cL_act 355 = .ok (.ishr, 1) := by decide +kernel
theorem dL_act_356 : decode cL_act 356 = .ok (.iconst 1, 1) := by decide +kernel
theorem dL_act_357 : decode cL_act 357 = .ok (.iand, 1) := by decide +kernel
theorem dL_act_358 : decode cL_act 358 = .ok (.iadd, 1) := by decide +kernel
theorem dL_act_359 : decode cL_act 359 = .ok (.iload_n 2, 1) := by decide +kernel
theorem dL_act_360 : decode cL_act 360 = .ok (.ifCond .eq 15, 3) := by decide +kernel
theorem dL_act_363 : decode cL_act 363 = .ok (.iload_n 1, 1) := by decide +kernel
theorem dL_act_364 : decode cL_act 364 = .ok (.bipush 10, 2) := by decide +kernel
theorem dL_act_366 : decode cL_act 366 = .ok (.ishr, 1) := by decide +kernel
theorem dL_act_367 : decode cL_act 367 = .ok (.bipush 120, 2) := by decide +kernel
theorem dL_act_369 : decode cL_act 369 = .ok (.invokestatic 89, 3) := by decide +kernel
theorem dL_act_372 : decode cL_act 372 = .ok (.goto 14, 3) := by decide +kernel
theorem dL_act_375 : decode cL_act 375 = .ok (.iconst 1, 1) := by decide +kernel
theorem dL_act_376 : decode cL_act 376 = .ok (.iload_n 1, 1) := by decide +kernel
theorem dL_act_377 : decode cL_act 377 = .ok (.bipush 10, 2) := by decide +kernel
theorem dL_act_379 : decode cL_act 379 = .ok (.ishr, 1) := by decide +kernel
theorem dL_act_380 : decode cL_act 380 = .ok (.bipush 60, 2) := by decide +kernel
theorem dL_act_382 : decode cL_act 382 = .ok (.invokestatic 89, 3) := by decide +kernel
theorem dL_act_385 : decode cL_act 385 = .ok (.iadd, 1) := by decide +kernel
theorem dL_act_386 : decode cL_act 386 = .ok (.iconst 0, 1) := by decide +kernel
theorem dL_act_387 : decode cL_act 387 = .ok (.iconst 0, 1) := by decide +kernel
theorem dL_act_388 : decode cL_act 388 = .ok (.invokestatic 92, 3) := by decide +kernel
theorem dL_act_391 : decode cL_act 391 = .ok (.goto 113, 3) := by decide +kernel
theorem dL_act_394 : decode cL_act 394 = .ok (.aload_n 0, 1) := by decide +kernel
theorem dL_act_395 : decode cL_act 395 = .ok (.bipush 8, 2) := by decide +kernel
theorem dL_act_397 : decode cL_act 397 = .ok (.iload_n 1, 1) := by decide +kernel
theorem dL_act_398 : decode cL_act 398 = .ok (.bipush 6, 2) := by decide +kernel
theorem dL_act_400 : decode cL_act 400 = .ok (.ishr, 1) := by decide +kernel
theorem dL_act_401 : decode cL_act 401 = .ok (.iload_n 2, 1) := by decide +kernel
theorem dL_act_402 : decode cL_act 402 = .ok (.ifCond .eq 8, 3) := by decide +kernel
theorem dL_act_405 : decode cL_act 405 = .ok (.bipush 12, 2) := by decide +kernel
theorem dL_act_407 : decode cL_act 407 = .ok (.goto 5, 3) := by decide +kernel
theorem dL_act_410 : decode cL_act 410 = .ok (.bipush 6, 2) := by decide +kernel
theorem dL_act_412 : decode cL_act 412 = .ok (.invokestatic 89, 3) := by decide +kernel
theorem dL_act_415 : decode cL_act 415 = .ok (.iload_n 2, 1) := by decide +kernel
theorem dL_act_416 : decode cL_act 416 = .ok (.ifCond .eq 17, 3) := by decide +kernel
theorem dL_act_419 : decode cL_act 419 = .ok (.iconst 4, 1) := by decide +kernel
theorem dL_act_420 : decode cL_act 420 = .ok (.iload_n 1, 1) := by decide +kernel
theorem dL_act_421 : decode cL_act 421 = .ok (.bipush 9, 2) := by decide +kernel
theorem dL_act_423 : decode cL_act 423 = .ok (.ishr, 1) := by decide +kernel
theorem dL_act_424 : decode cL_act 424 = .ok (.bipush 6, 2) := by decide +kernel
theorem dL_act_426 : decode cL_act 426 = .ok (.invokestatic 89, 3) := by decide +kernel
theorem dL_act_429 : decode cL_act 429 = .ok (.iadd, 1) := by decide +kernel
theorem dL_act_430 : decode cL_act 430 = .ok (.goto 12, 3) := by decide +kernel
theorem dL_act_433 : decode cL_act 433 = .ok (.bipush 6, 2) := by decide +kernel
theorem dL_act_435 : decode cL_act 435 = .ok (.iload_n 1, 1) := by decide +kernel
theorem dL_act_436 : decode cL_act 436 = .ok (.bipush 9, 2) := by decide +kernel
theorem dL_act_438 : decode cL_act 438 = .ok (.ishr, 1) := by decide +kernel
theorem dL_act_439 : decode cL_act 439 = .ok (.iconst 1, 1) := by decide +kernel
theorem dL_act_440 : decode cL_act 440 = .ok (.iand, 1) := by decide +kernel
theorem dL_act_441 : decode cL_act 441 = .ok (.iadd, 1) := by decide +kernel
theorem dL_act_442 : decode cL_act 442 = .ok (.iload_n 2, 1) := by decide +kernel
theorem dL_act_443 : decode cL_act 443 = .ok (.ifCond .eq 20, 3) := by decide +kernel
theorem dL_act_446 : decode cL_act 446 = .ok (.iload_n 1, 1) := by decide +kernel
theorem dL_act_447 : decode cL_act 447 = .ok (.bipush 10, 2) := by decide +kernel
theorem dL_act_449 : decode cL_act 449 = .ok (.ishr, 1) := by decide +kernel
theorem dL_act_450 : decode cL_act 450 = .ok (.sipush 6000, 3) := by decide +kernel
theorem dL_act_453 : decode cL_act 453 = .ok (.invokestatic 89, 3) := by decide +kernel
theorem dL_act_456 : decode cL_act 456 = .ok (.sipush 500, 3) := by decide +kernel
theorem dL_act_459 : decode cL_act 459 = .ok (.isub, 1) := by decide +kernel
theorem dL_act_460 : decode cL_act 460 = .ok (.goto 13, 3) := by decide +kernel
theorem dL_act_463 : decode cL_act 463 = .ok (.iload_n 1, 1) := by decide +kernel
theorem dL_act_464 : decode cL_act 464 = .ok (.bipush 10, 2) := by decide +kernel
theorem dL_act_466 : decode cL_act 466 = .ok (.ishr, 1) := by decide +kernel
theorem dL_act_467 : decode cL_act 467 = .ok (.sipush 300, 3) := by decide +kernel
theorem dL_act_470 : decode cL_act 470 = .ok (.invokestatic 89, 3) := by decide +kernel
theorem dL_act_473 : decode cL_act 473 = .ok (.iload_n 2, 1) := by decide +kernel
theorem dL_act_474 : decode cL_act 474 = .ok (.ifCond .eq 16, 3) := by decide +kernel
theorem dL_act_477 : decode cL_act 477 = .ok (.iload_n 1, 1) := by decide +kernel
theorem dL_act_478 : decode cL_act 478 = .ok (.bipush 12, 2) := by decide +kernel
theorem dL_act_480 : decode cL_act 480 = .ok (.ishr, 1) := by decide +kernel
theorem dL_act_481 : decode cL_act 481 = .ok (.sipush 1200, 3) := by decide +kernel
theorem dL_act_484 : decode cL_act 484 = .ok (.invokestatic 89, 3) := by decide +kernel
theorem dL_act_487 : decode cL_act 487 = .ok (.goto 14, 3) := by decide +kernel
theorem dL_act_490 : decode cL_act 490 = .ok (.iconst 1, 1) := by decide +kernel
theorem dL_act_491 : decode cL_act 491 = .ok (.iload_n 1, 1) := by decide +kernel
theorem dL_act_492 : decode cL_act 492 = .ok (.bipush 12, 2) := by decide +kernel
theorem dL_act_494 : decode cL_act 494 = .ok (.ishr, 1) := by decide +kernel
theorem dL_act_495 : decode cL_act 495 = .ok (.bipush 100, 2) := by decide +kernel
theorem dL_act_497 : decode cL_act 497 = .ok (.invokestatic 89, 3) := by decide +kernel
theorem dL_act_500 : decode cL_act 500 = .ok (.iadd, 1) := by decide +kernel
theorem dL_act_501 : decode cL_act 501 = .ok (.invokestatic 92, 3) := by decide +kernel
theorem dL_act_504 : decode cL_act 504 = .ok (.ireturn, 1) := by decide +kernel
theorem dL_act_505 : decode cL_act 505 = .ok (.iload_n 3, 1) := by decide +kernel
theorem dL_act_506 : decode cL_act 506 = .ok (.bipush 25, 2) := by decide +kernel
theorem dL_act_508 : decode cL_act 508 = .ok (.if_icmp .ge 26, 3) := by decide +kernel
theorem dL_act_511 : decode cL_act 511 = .ok (.aload_n 0, 1) := by decide +kernel
theorem dL_act_512 : decode cL_act 512 = .ok (.iload_n 3, 1) := by decide +kernel
theorem dL_act_513 : decode cL_act 513 = .ok (.bipush 23, 2) := by decide +kernel
theorem dL_act_515 : decode cL_act 515 = .ok (.if_icmp .ge 8, 3) := by decide +kernel
theorem dL_act_518 : decode cL_act 518 = .ok (.bipush 9, 2) := by decide +kernel
theorem dL_act_520 : decode cL_act 520 = .ok (.goto 5, 3) := by decide +kernel
theorem dL_act_523 : decode cL_act 523 = .ok (.bipush 10, 2) := by decide +kernel
theorem dL_act_525 : decode cL_act 525 = .ok (.iload 4, 2) := by decide +kernel
theorem dL_act_527 : decode cL_act 527 = .ok (.iconst 0, 1) := by decide +kernel
theorem dL_act_528 : decode cL_act 528 = .ok (.iconst 0, 1) := by decide +kernel
theorem dL_act_529 : decode cL_act 529 = .ok (.iconst 0, 1) := by decide +kernel
theorem dL_act_530 : decode cL_act 530 = .ok (.invokestatic 92, 3) := by decide +kernel
theorem dL_act_533 : decode cL_act 533 = .ok (.ireturn, 1) := by decide +kernel
theorem dL_act_534 : decode cL_act 534 = .ok (.aload_n 0, 1) := by decide +kernel
theorem dL_act_535 : decode cL_act 535 = .ok (.iconst 5, 1) := by decide +kernel
theorem dL_act_536 : decode cL_act 536 = .ok (.iload_n 2, 1) := by decide +kernel
theorem dL_act_537 : decode cL_act 537 = .ok (.ifCond .eq 15, 3) := by decide +kernel
theorem dL_act_540 : decode cL_act 540 = .ok (.iload_n 1, 1) := by decide +kernel
theorem dL_act_541 : decode cL_act 541 = .ok (.bipush 6, 2) := by decide +kernel
theorem dL_act_543 : decode cL_act 543 = .ok (.ishr, 1) := by decide +kernel
theorem dL_act_544 : decode cL_act 544 = .ok (.bipush 110, 2) := by decide +kernel
theorem dL_act_546 : decode cL_act 546 = .ok (.invokestatic 89, 3) := by decide +kernel
theorem dL_act_549 : decode cL_act 549 = .ok (.goto 14, 3) := by decide +kernel
theorem dL_act_552 : decode cL_act 552 = .ok (.iconst 1, 1) := by decide +kernel
theorem dL_act_553 : decode cL_act 553 = .ok (.iload_n 1, 1) := by decide +kernel
theorem dL_act_554 : decode cL_act 554 = .ok (.bipush 6, 2) := by decide +kernel
theorem dL_act_556 : decode cL_act 556 = .ok (.ishr, 1) := by decide +kernel
theorem dL_act_557 : decode cL_act 557 = .ok (.bipush 8, 2) := by decide +kernel
theorem dL_act_559 : decode cL_act 559 = .ok (.invokestatic 89, 3) := by decide +kernel
theorem dL_act_562 : decode cL_act 562 = .ok (.iadd, 1) := by decide +kernel
theorem dL_act_563 : decode cL_act 563 = .ok (.iconst 0, 1) := by decide +kernel
theorem dL_act_564 : decode cL_act 564 = .ok (.iconst 0, 1) := by decide +kernel
theorem dL_act_565 : decode cL_act 565 = .ok (.iconst 0, 1) := by decide +kernel
theorem dL_act_566 : decode cL_act 566 = .ok (.invokestatic 92, 3) := by decide +kernel
theorem dL_act_569 : decode cL_act 569 = .ok (.ireturn, 1) := by decide +kernel
set_option maxRecDepth 20000 in
theorem ggL_areAlike_X5_clock : GoodIn wsL_areAlike wsX5_clock := goodIn_r _ [5, 6, 140, 141, 142, 143, 144, 145, 146, 147] (by decide +kernel) (by decide +kernel)
set_option maxRecDepth 20000 in
theorem gL_areAlike_X5_clock : GoodIn wsL_areAlike (wsV RL 96 RX5 yX5_clock wsX5_clock) := goodIn_app (goodIn_of _ (by decide +kernel)) ggL_areAlike_X5_clock
set_option maxRecDepth 20000 in
theorem ggL_areAlike_X5_earned : GoodIn wsL_areAlike wsX5_earned := goodIn_r _ [10, 11, 140, 141, 142, 143, 144, 145, 146, 147] (by decide +kernel) (by decide +kernel)
set_option maxRecDepth 20000 in
theorem gL_areAlike_X5_earned : GoodIn wsL_areAlike (wsV RL 100 RX5 yX5_earned wsX5_earned) := goodIn_app (goodIn_of _ (by decide +kernel)) ggL_areAlike_X5_earned
set_option maxRecDepth 20000 in
theorem ggL_areAlike_L_looks : GoodIn wsL_areAlike wsL_looks := goodIn_ca (goodIn_r _ [15, 16, 17, 18, 19, 20, 4, 21, 22, 23, 24, 25, 26, 27, 28, 29, 30, 31, 32, 33, 34, 35, 36, 37, 38, 39, 40, 41, 42, 6, 43, 44, 45, 46, 47, 48, 49, 50, 51, 52, 53, 54, 55, 56, 57, 58, 59, 60, 61, 62, 63, 64, 65, 66, 67, 68, 69, 70, 71, 72, 73, 74, 75, 76, 77, 78, 79, 80, 81, 82, 83, 84, 85, 86, 87, 88, 89, 90, 91, 92, 93, 94, 95, 96, 97, 98, 99, 100, 101, 102, 103, 104, 105, 106, 107, 108, 109, 110, 111, 112, 113, 114, 115, 116, 117, 118, 119, 120, 121, 122, 123, 124, 125, 126, 127, 128, 129, 130, 131, 132, 133, 134, 135, 136, 137, 138, 139, 140, 141, 142, 143, 144, 145, 146, 147, 148, 149, 150, 151, 152, 153, 154, 155, 156, 157, 158, 159, 160, 161, 162, 163] (by decide +kernel) (by decide +kernel)) (goodIn_sub (fun _ h => List.mem_cons_of_mem _ (List.mem_append_right _ h)) (by decide +kernel))
set_option maxRecDepth 20000 in
theorem gL_areAlike_L_looks : GoodIn wsL_areAlike (va_wsS RL 85 yL_looks wsL_looks) := goodIn_app (goodIn_of _ (by decide +kernel)) ggL_areAlike_L_looks
theorem dL_areAlike_0 : decode cL_areAlike 0 = .ok (.aload_n 0, 1) := by decide +kernel
theorem dL_areAlike_1 : decode cL_areAlike 1 = .ok (.invokevirtual 96, 3) := by decide +kernel
theorem dL_areAlike_4 : decode cL_areAlike 4 = .ok (.aload_n 1, 1) := by decide +kernel
theorem dL_areAlike_5 : decode cL_areAlike 5 = .ok (.invokevirtual 96, 3) := by decide +kernel
theorem dL_areAlike_8 : decode cL_areAlike 8 = .ok (.if_icmp .ne 18, 3) := by decide +kernel
theorem dL_areAlike_11 : decode cL_areAlike 11 = .ok (.aload_n 0, 1) := by decide +kernel
theorem dL_areAlike_12 : decode cL_areAlike 12 = .ok (.invokevirtual 100, 3) := by decide +kernel
theorem dL_areAlike_15 : decode cL_areAlike 15 = .ok (.aload_n 1, 1) := by decide +kernel
theorem dL_areAlike_16 : decode cL_areAlike 16 = .ok (.invokevirtual 100, 3) := by decide +kernel
theorem dL_areAlike_19 : decode cL_areAlike 19 = .ok (.if_icmp .ne 7, 3) := by decide +kernel
theorem dL_areAlike_22 : decode cL_areAlike 22 = .ok (.iconst 1, 1) := by decide +kernel
theorem dL_areAlike_23 : decode cL_areAlike 23 = .ok (.goto 4, 3) := by decide +kernel
theorem dL_areAlike_26 : decode cL_areAlike 26 = .ok (.iconst 0, 1) := by decide +kernel
theorem dL_areAlike_27 : decode cL_areAlike 27 = .ok (.istore_n 2, 1) := by decide +kernel
theorem dL_areAlike_28 : decode cL_areAlike 28 = .ok (.iconst 0, 1) := by decide +kernel
theorem dL_areAlike_29 : decode cL_areAlike 29 = .ok (.istore_n 3, 1) := by decide +kernel
theorem dL_areAlike_30 : decode cL_areAlike 30 = .ok (.iload_n 3, 1) := by decide +kernel
theorem dL_areAlike_31 : decode cL_areAlike 31 = .ok (.bipush 30, 2) := by decide +kernel
theorem dL_areAlike_33 : decode cL_areAlike 33 = .ok (.if_icmp .ge 122, 3) := by decide +kernel
theorem dL_areAlike_36 : decode cL_areAlike 36 = .ok (.iload_n 2, 1) := by decide +kernel
theorem dL_areAlike_37 : decode cL_areAlike 37 = .ok (.ifCond .eq 118, 3) := by decide +kernel
theorem dL_areAlike_40 : decode cL_areAlike 40 = .ok (.aload_n 0, 1) := by decide +kernel
theorem dL_areAlike_41 : decode cL_areAlike 41 = .ok (.iconst 0, 1) := by decide +kernel
theorem dL_areAlike_42 : decode cL_areAlike 42 = .ok (.iload_n 3, 1) := by decide +kernel
theorem dL_areAlike_43 : decode cL_areAlike 43 = .ok (.iconst 0, 1) := by decide +kernel
theorem dL_areAlike_44 : decode cL_areAlike 44 = .ok (.invokestatic 85, 3) := by decide +kernel
theorem dL_areAlike_47 : decode cL_areAlike 47 = .ok (.aload_n 1, 1) := by decide +kernel
theorem dL_areAlike_48 : decode cL_areAlike 48 = .ok (.iconst 0, 1) := by decide +kernel
theorem dL_areAlike_49 : decode cL_areAlike 49 = .ok (.iload_n 3, 1) := by decide +kernel
theorem dL_areAlike_50 : decode cL_areAlike 50 = .ok (.iconst 0, 1) := by decide +kernel
theorem dL_areAlike_51 : decode cL_areAlike 51 = .ok (.invokestatic 85, 3) := by decide +kernel
theorem dL_areAlike_54 : decode cL_areAlike 54 = .ok (.if_icmp .ne 93, 3) := by decide +kernel
theorem dL_areAlike_57 : decode cL_areAlike 57 = .ok (.aload_n 0, 1) := by decide +kernel
theorem dL_areAlike_58 : decode cL_areAlike 58 = .ok (.iconst 1, 1) := by decide +kernel
theorem dL_areAlike_59 : decode cL_areAlike 59 = .ok (.iload_n 3, 1) := by decide +kernel
theorem dL_areAlike_60 : decode cL_areAlike 60 = .ok (.iconst 0, 1) := by decide +kernel
theorem dL_areAlike_61 : decode cL_areAlike 61 = .ok (.invokestatic 85, 3) := by decide +kernel
theorem dL_areAlike_64 : decode cL_areAlike 64 = .ok (.aload_n 1, 1) := by decide +kernel
theorem dL_areAlike_65 : decode cL_areAlike 65 = .ok (.iconst 1, 1) := by decide +kernel
theorem dL_areAlike_66 : decode cL_areAlike 66 = .ok (.iload_n 3, 1) := by decide +kernel
theorem dL_areAlike_67 : decode cL_areAlike 67 = .ok (.iconst 0, 1) := by decide +kernel
theorem dL_areAlike_68 : decode cL_areAlike 68 = .ok (.invokestatic 85, 3) := by decide +kernel
theorem dL_areAlike_71 : decode cL_areAlike 71 = .ok (.if_icmp .ne 76, 3) := by decide +kernel
theorem dL_areAlike_74 : decode cL_areAlike 74 = .ok (.aload_n 0, 1) := by decide +kernel
theorem dL_areAlike_75 : decode cL_areAlike 75 = .ok (.iconst 2, 1) := by decide +kernel
theorem dL_areAlike_76 : decode cL_areAlike 76 = .ok (.iload_n 3, 1) := by decide +kernel
theorem dL_areAlike_77 : decode cL_areAlike 77 = .ok (.iconst 0, 1) := by decide +kernel
theorem dL_areAlike_78 : decode cL_areAlike 78 = .ok (.invokestatic 85, 3) := by decide +kernel
theorem dL_areAlike_81 : decode cL_areAlike 81 = .ok (.aload_n 1, 1) := by decide +kernel
theorem dL_areAlike_82 : decode cL_areAlike 82 = .ok (.iconst 2, 1) := by decide +kernel
theorem dL_areAlike_83 : decode cL_areAlike 83 = .ok (.iload_n 3, 1) := by decide +kernel
theorem dL_areAlike_84 : decode cL_areAlike 84 = .ok (.iconst 0, 1) := by decide +kernel
theorem dL_areAlike_85 : decode cL_areAlike 85 = .ok (.invokestatic 85, 3) := by decide +kernel
theorem dL_areAlike_88 : decode cL_areAlike 88 = .ok (.if_icmp .ne 59, 3) := by decide +kernel
theorem dL_areAlike_91 : decode cL_areAlike 91 = .ok (.aload_n 0, 1) := by decide +kernel
theorem dL_areAlike_92 : decode cL_areAlike 92 = .ok (.iconst 3, 1) := by decide +kernel
theorem dL_areAlike_93 : decode cL_areAlike 93 = .ok (.iload_n 3, 1) := by decide +kernel
theorem dL_areAlike_94 : decode cL_areAlike 94 = .ok (.iconst 0, 1) := by decide +kernel
theorem dL_areAlike_95 : decode cL_areAlike 95 = .ok (.invokestatic 85, 3) := by decide +kernel
theorem dL_areAlike_98 : decode cL_areAlike 98 = .ok (.aload_n 1, 1) := by decide +kernel
theorem dL_areAlike_99 : decode cL_areAlike 99 = .ok (.iconst 3, 1) := by decide +kernel
theorem dL_areAlike_100 : decode cL_areAlike 100 = .ok (.iload_n 3, 1) := by decide +kernel
theorem dL_areAlike_101 : decode cL_areAlike 101 = .ok (.iconst 0, 1) := by decide +kernel
theorem dL_areAlike_102 : decode cL_areAlike 102 = .ok (.invokestatic 85, 3) := by decide +kernel
theorem dL_areAlike_105 : decode cL_areAlike 105 = .ok (.if_icmp .ne 42, 3) := by decide +kernel
theorem dL_areAlike_108 : decode cL_areAlike 108 = .ok (.aload_n 0, 1) := by decide +kernel
theorem dL_areAlike_109 : decode cL_areAlike 109 = .ok (.iconst 4, 1) := by decide +kernel
theorem dL_areAlike_110 : decode cL_areAlike 110 = .ok (.bipush 6, 2) := by decide +kernel
theorem dL_areAlike_112 : decode cL_areAlike 112 = .ok (.iload_n 3, 1) := by decide +kernel
theorem dL_areAlike_113 : decode cL_areAlike 113 = .ok (.bipush 8, 2) := by decide +kernel
theorem dL_areAlike_115 : decode cL_areAlike 115 = .ok (.irem, 1) := by decide +kernel
theorem dL_areAlike_116 : decode cL_areAlike 116 = .ok (.iadd, 1) := by decide +kernel
theorem dL_areAlike_117 : decode cL_areAlike 117 = .ok (.iload_n 3, 1) := by decide +kernel
theorem dL_areAlike_118 : decode cL_areAlike 118 = .ok (.bipush 8, 2) := by decide +kernel
theorem dL_areAlike_120 : decode cL_areAlike 120 = .ok (.idiv, 1) := by decide +kernel
theorem dL_areAlike_121 : decode cL_areAlike 121 = .ok (.invokestatic 85, 3) := by decide +kernel
theorem dL_areAlike_124 : decode cL_areAlike 124 = .ok (.aload_n 1, 1) := by decide +kernel
theorem dL_areAlike_125 : decode cL_areAlike 125 = .ok (.iconst 4, 1) := by decide +kernel
theorem dL_areAlike_126 : decode cL_areAlike 126 = .ok (.bipush 6, 2) := by decide +kernel
theorem dL_areAlike_128 : decode cL_areAlike 128 = .ok (.iload_n 3, 1) := by decide +kernel
theorem dL_areAlike_129 : decode cL_areAlike 129 = .ok (.bipush 8, 2) := by decide +kernel
theorem dL_areAlike_131 : decode cL_areAlike 131 = .ok (.irem, 1) := by decide +kernel
theorem dL_areAlike_132 : decode cL_areAlike 132 = .ok (.iadd, 1) := by decide +kernel
theorem dL_areAlike_133 : decode cL_areAlike 133 = .ok (.iload_n 3, 1) := by decide +kernel
theorem dL_areAlike_134 : decode cL_areAlike 134 = .ok (.bipush 8, 2) := by decide +kernel
theorem dL_areAlike_136 : decode cL_areAlike 136 = .ok (.idiv, 1) := by decide +kernel
theorem dL_areAlike_137 : decode cL_areAlike 137 = .ok (.invokestatic 85, 3) := by decide +kernel
theorem dL_areAlike_140 : decode cL_areAlike 140 = .ok (.if_icmp .ne 7, 3) := by decide +kernel
theorem dL_areAlike_143 : decode cL_areAlike 143 = .ok (.iconst 1, 1) := by decide +kernel
theorem dL_areAlike_144 : decode cL_areAlike 144 = .ok (.goto 4, 3) := by decide +kernel
theorem dL_areAlike_147 : decode cL_areAlike 147 = .ok (.iconst 0, 1) := by decide +kernel
theorem dL_areAlike_148 : decode cL_areAlike 148 = .ok (.istore_n 2, 1) := by decide +kernel
theorem dL_areAlike_149 : decode cL_areAlike 149 = .ok (.iinc 3 1, 3) := by decide +kernel
theorem dL_areAlike_152 : decode cL_areAlike 152 = .ok (.goto (-122), 3) := by decide +kernel
theorem dL_areAlike_155 : decode cL_areAlike 155 = .ok (.iload_n 2, 1) := by decide +kernel
theorem dL_areAlike_156 : decode cL_areAlike 156 = .ok (.ireturn, 1) := by decide +kernel
set_option maxRecDepth 20000 in
theorem ggL_arePlacesSo_L_trains : GoodIn wsL_arePlacesSo wsL_trains := goodIn_ca (goodIn_r _ [5, 6, 7, 4, 8, 9, 1, 10, 11, 12, 13, 14, 15, 16, 17, 18, 19, 20, 21, 22, 23, 24, 25, 26, 27, 28, 29, 30, 31, 32, 33, 34, 35, 36, 37, 38, 39, 40, 41, 42, 43, 44, 45, 46, 47, 48, 49, 50, 51, 52, 53, 54, 55, 56, 57, 58, 59, 60, 61, 62, 63, 64, 65, 66, 67, 68, 69, 70, 71, 72, 73, 74, 75, 76, 77, 78, 79, 80, 81, 82, 83, 84, 85, 86, 87, 88, 89, 90, 91, 92, 93, 94, 95, 96, 97, 98, 99, 100, 101, 102, 103, 104, 105, 106, 107, 108, 109, 110, 111, 112, 113, 114, 115, 116, 117, 118, 119, 120, 121, 122, 123, 124, 125, 126, 127, 128, 129, 130, 131, 132, 133, 148, 149, 150, 151, 152, 153, 154, 155, 156, 157, 158, 159, 160, 161, 162, 163, 164, 165, 166, 167, 168, 169, 170, 171] (by decide +kernel) (by decide +kernel)) (goodIn_sub (fun _ h => List.mem_cons_of_mem _ (List.mem_append_right _ h)) (by decide +kernel))
set_option maxRecDepth 20000 in
theorem gL_arePlacesSo_L_trains : GoodIn wsL_arePlacesSo (va_wsS RL 103 yL_trains wsL_trains) := goodIn_app (goodIn_of _ (by decide +kernel)) ggL_arePlacesSo_L_trains
set_option maxRecDepth 20000 in
theorem ggL_arePlacesSo_X5_clock : GoodIn wsL_arePlacesSo wsX5_clock := goodIn_r _ [137, 36, 148, 149, 150, 151, 152, 153, 154, 155] (by decide +kernel) (by decide +kernel)
set_option maxRecDepth 20000 in
theorem gL_arePlacesSo_X5_clock : GoodIn wsL_arePlacesSo (wsV RL 96 RX5 yX5_clock wsX5_clock) := goodIn_app (goodIn_of _ (by decide +kernel)) ggL_arePlacesSo_X5_clock
set_option maxRecDepth 20000 in
theorem ggL_arePlacesSo_X5_earned : GoodIn wsL_arePlacesSo wsX5_earned := goodIn_r _ [141, 142, 148, 149, 150, 151, 152, 153, 154, 155] (by decide +kernel) (by decide +kernel)
set_option maxRecDepth 20000 in
theorem gL_arePlacesSo_X5_earned : GoodIn wsL_arePlacesSo (wsV RL 100 RX5 yX5_earned wsX5_earned) := goodIn_app (goodIn_of _ (by decide +kernel)) ggL_arePlacesSo_X5_earned
set_option maxRecDepth 20000 in
theorem ggL_arePlacesSo_X5_trainOn : GoodIn wsL_arePlacesSo wsX5_trainOn := goodIn_ca (goodIn_r _ [146, 15, 77, 78, 13, 79, 21, 22, 147, 117, 118, 83, 119, 85, 86, 148, 149, 150, 151, 152, 153, 154, 155, 156, 157, 158, 159, 160] (by decide +kernel) (by decide +kernel)) (goodIn_sub (fun _ h => List.mem_cons_of_mem _ (List.mem_append_right _ h)) (by decide +kernel))
set_option maxRecDepth 20000 in
theorem gL_arePlacesSo_X5_trainOn : GoodIn wsL_arePlacesSo (wsV RL 107 RX5 yX5_trainOn wsX5_trainOn) := goodIn_app (goodIn_of _ (by decide +kernel)) ggL_arePlacesSo_X5_trainOn
set_option maxRecDepth 20000 in
theorem ggL_arePlacesSo_X5_block : GoodIn wsL_arePlacesSo wsX5_block := goodIn_ca (goodIn_r _ [14, 15, 16, 17, 18, 19, 13, 20, 21, 22, 23, 148, 149, 150, 151, 152, 153, 154, 155, 156, 157, 158, 159, 160] (by decide +kernel) (by decide +kernel)) (goodIn_sub (fun _ h => List.mem_cons_of_mem _ (List.mem_append_right _ h)) (by decide +kernel))
set_option maxRecDepth 20000 in
theorem gL_arePlacesSo_X5_block : GoodIn wsL_arePlacesSo (wsV RL 63 RX5 yX5_block wsX5_block) := goodIn_app (goodIn_of _ (by decide +kernel)) ggL_arePlacesSo_X5_block
set_option maxRecDepth 20000 in
theorem ggL_arePlacesSo_L_looks : GoodIn wsL_arePlacesSo wsL_looks := goodIn_ca (goodIn_r _ [8, 9, 1, 10, 11, 12, 13, 14, 15, 16, 17, 18, 19, 20, 21, 22, 23, 24, 25, 26, 27, 28, 29, 30, 31, 32, 33, 34, 35, 36, 37, 38, 39, 40, 41, 42, 43, 44, 45, 46, 47, 48, 49, 50, 51, 52, 53, 54, 55, 56, 57, 58, 59, 60, 61, 62, 63, 64, 65, 66, 67, 68, 69, 70, 71, 72, 73, 74, 75, 76, 77, 78, 79, 80, 81, 82, 83, 84, 85, 86, 87, 88, 89, 90, 91, 92, 93, 94, 95, 96, 97, 98, 99, 100, 101, 102, 103, 104, 105, 106, 107, 108, 109, 110, 111, 112, 113, 114, 115, 116, 117, 118, 119, 120, 121, 122, 123, 124, 125, 126, 127, 128, 129, 130, 131, 132, 133, 148, 149, 150, 151, 152, 153, 154, 155, 156, 157, 158, 159, 160, 161, 162, 163, 164, 165, 166, 167, 168, 169, 170, 171] (by decide +kernel) (by decide +kernel)) (goodIn_sub (fun _ h => List.mem_cons_of_mem _ (List.mem_append_right _ h)) (by decide +kernel))
set_option maxRecDepth 20000 in
theorem gL_arePlacesSo_L_looks : GoodIn wsL_arePlacesSo (va_wsS RL 85 yL_looks wsL_looks) := goodIn_app (goodIn_of _ (by decide +kernel)) ggL_arePlacesSo_L_looks
theorem dL_arePlacesSo_0 : decode cL_arePlacesSo 0 = .ok (.aload_n 0, 1) := by decide +kernel
theorem dL_arePlacesSo_1 : decode cL_arePlacesSo 1 = .ok (.invokestatic 103, 3) := by decide +kernel
theorem dL_arePlacesSo_4 : decode cL_arePlacesSo 4 = .ok (.istore_n 1, 1) := by decide +kernel
theorem dL_arePlacesSo_5 : decode cL_arePlacesSo 5 = .ok (.iconst 0, 1) := by decide +kernel
theorem dL_arePlacesSo_6 : decode cL_arePlacesSo 6 = .ok (.istore_n 2, 1) := by decide +kernel
theorem dL_arePlacesSo_7 : decode cL_arePlacesSo 7 = .ok (.iconst 0, 1) := by decide +kernel
theorem dL_arePlacesSo_8 : decode cL_arePlacesSo 8 = .ok (.istore_n 3, 1) := by decide +kernel
theorem dL_arePlacesSo_9 : decode cL_arePlacesSo 9 = .ok (.iload_n 1, 1) := by decide +kernel
theorem dL_arePlacesSo_10 : decode cL_arePlacesSo 10 = .ok (.iconst 4, 1) := by decide +kernel
theorem dL_arePlacesSo_11 : decode cL_arePlacesSo 11 = .ok (.if_icmp .gt 31, 3) := by decide +kernel
theorem dL_arePlacesSo_14 : decode cL_arePlacesSo 14 = .ok (.aload_n 0, 1) := by decide +kernel
theorem dL_arePlacesSo_15 : decode cL_arePlacesSo 15 = .ok (.invokevirtual 96, 3) := by decide +kernel
theorem dL_arePlacesSo_18 : decode cL_arePlacesSo 18 = .ok (.ifCond .lt 24, 3) := by decide +kernel
theorem dL_arePlacesSo_21 : decode cL_arePlacesSo 21 = .ok (.aload_n 0, 1) := by decide +kernel
theorem dL_arePlacesSo_22 : decode cL_arePlacesSo 22 = .ok (.invokevirtual 96, 3) := by decide +kernel
theorem dL_arePlacesSo_25 : decode cL_arePlacesSo 25 = .ok (.sipush 5000, 3) := by decide +kernel
theorem dL_arePlacesSo_28 : decode cL_arePlacesSo 28 = .ok (.if_icmp .gt 14, 3) := by decide +kernel
theorem dL_arePlacesSo_31 : decode cL_arePlacesSo 31 = .ok (.aload_n 0, 1) := by decide +kernel
theorem dL_arePlacesSo_32 : decode cL_arePlacesSo 32 = .ok (.invokevirtual 100, 3) := by decide +kernel
theorem dL_arePlacesSo_35 : decode cL_arePlacesSo 35 = .ok (.ifCond .lt 7, 3) := by decide +kernel
theorem dL_arePlacesSo_38 : decode cL_arePlacesSo 38 = .ok (.iconst 1, 1) := by decide +kernel
theorem dL_arePlacesSo_39 : decode cL_arePlacesSo 39 = .ok (.goto 4, 3) := by decide +kernel
theorem dL_arePlacesSo_42 : decode cL_arePlacesSo 42 = .ok (.iconst 0, 1) := by decide +kernel
theorem dL_arePlacesSo_43 : decode cL_arePlacesSo 43 = .ok (.istore 4, 2) := by decide +kernel
theorem dL_arePlacesSo_45 : decode cL_arePlacesSo 45 = .ok (.iconst 0, 1) := by decide +kernel
theorem dL_arePlacesSo_46 : decode cL_arePlacesSo 46 = .ok (.istore 5, 2) := by decide +kernel
theorem dL_arePlacesSo_48 : decode cL_arePlacesSo 48 = .ok (.iload 5, 2) := by decide +kernel
theorem dL_arePlacesSo_50 : decode cL_arePlacesSo 50 = .ok (.bipush 8, 2) := by decide +kernel
theorem dL_arePlacesSo_52 : decode cL_arePlacesSo 52 = .ok (.if_icmp .ge 81, 3) := by decide +kernel
theorem dL_arePlacesSo_55 : decode cL_arePlacesSo 55 = .ok (.iload 4, 2) := by decide +kernel
theorem dL_arePlacesSo_57 : decode cL_arePlacesSo 57 = .ok (.ifCond .eq 76, 3) := by decide +kernel
theorem dL_arePlacesSo_60 : decode cL_arePlacesSo 60 = .ok (.aload_n 0, 1) := by decide +kernel
theorem dL_arePlacesSo_61 : decode cL_arePlacesSo 61 = .ok (.iload 5, 2) := by decide +kernel
theorem dL_arePlacesSo_63 : decode cL_arePlacesSo 63 = .ok (.invokevirtual 107, 3) := by decide +kernel
theorem dL_arePlacesSo_66 : decode cL_arePlacesSo 66 = .ok (.istore 6, 2) := by decide +kernel
theorem dL_arePlacesSo_68 : decode cL_arePlacesSo 68 = .ok (.iload 6, 2) := by decide +kernel
theorem dL_arePlacesSo_70 : decode cL_arePlacesSo 70 = .ok (.iconst (-1), 1) := by decide +kernel
theorem dL_arePlacesSo_71 : decode cL_arePlacesSo 71 = .ok (.if_icmp .lt 40, 3) := by decide +kernel
theorem dL_arePlacesSo_74 : decode cL_arePlacesSo 74 = .ok (.iload 6, 2) := by decide +kernel
theorem dL_arePlacesSo_76 : decode cL_arePlacesSo 76 = .ok (.iload_n 1, 1) := by decide +kernel
theorem dL_arePlacesSo_77 : decode cL_arePlacesSo 77 = .ok (.if_icmp .ge 34, 3) := by decide +kernel
theorem dL_arePlacesSo_80 : decode cL_arePlacesSo 80 = .ok (.iload 6, 2) := by decide +kernel
theorem dL_arePlacesSo_82 : decode cL_arePlacesSo 82 = .ok (.ifCond .lt 25, 3) := by decide +kernel
theorem dL_arePlacesSo_85 : decode cL_arePlacesSo 85 = .ok (.aload_n 0, 1) := by decide +kernel
theorem dL_arePlacesSo_86 : decode cL_arePlacesSo 86 = .ok (.iload 6, 2) := by decide +kernel
theorem dL_arePlacesSo_88 : decode cL_arePlacesSo 88 = .ok (.invokevirtual 63, 3) := by decide +kernel
theorem dL_arePlacesSo_91 : decode cL_arePlacesSo 91 = .ok (.iload 5, 2) := by decide +kernel
theorem dL_arePlacesSo_93 : decode cL_arePlacesSo 93 = .ok (.if_icmp .ne 18, 3) := by decide +kernel
theorem dL_arePlacesSo_96 : decode cL_arePlacesSo 96 = .ok (.aload_n 0, 1) := by decide +kernel
theorem dL_arePlacesSo_97 : decode cL_arePlacesSo 97 = .ok (.iload 6, 2) := by decide +kernel
theorem dL_arePlacesSo_99 : decode cL_arePlacesSo 99 = .ok (.iload 5, 2) := by decide +kernel
theorem dL_arePlacesSo_101 : decode cL_arePlacesSo 101 = .ok (.invokevirtual 78, 3) := by decide +kernel
theorem dL_arePlacesSo_104 : decode cL_arePlacesSo 104 = .ok (.ifCond .ne 7, 3) := by decide +kernel
theorem dL_arePlacesSo_107 : decode cL_arePlacesSo 107 = .ok (.iconst 1, 1) := by decide +kernel
theorem dL_arePlacesSo_108 : decode cL_arePlacesSo 108 = .ok (.goto 4, 3) := by decide +kernel
theorem dL_arePlacesSo_111 : decode cL_arePlacesSo 111 = .ok (.iconst 0, 1) := by decide +kernel
theorem dL_arePlacesSo_112 : decode cL_arePlacesSo 112 = .ok (.istore 4, 2) := by decide +kernel
theorem dL_arePlacesSo_114 : decode cL_arePlacesSo 114 = .ok (.iload_n 3, 1) := by decide +kernel
theorem dL_arePlacesSo_115 : decode cL_arePlacesSo 115 = .ok (.iload 6, 2) := by decide +kernel
theorem dL_arePlacesSo_117 : decode cL_arePlacesSo 117 = .ok (.ifCond .ge 7, 3) := by decide +kernel
theorem dL_arePlacesSo_120 : decode cL_arePlacesSo 120 = .ok (.iconst 0, 1) := by decide +kernel
theorem dL_arePlacesSo_121 : decode cL_arePlacesSo 121 = .ok (.goto 4, 3) := by decide +kernel
theorem dL_arePlacesSo_124 : decode cL_arePlacesSo 124 = .ok (.iconst 1, 1) := by decide +kernel
theorem dL_arePlacesSo_125 : decode cL_arePlacesSo 125 = .ok (.iadd, 1) := by decide +kernel
theorem dL_arePlacesSo_126 : decode cL_arePlacesSo 126 = .ok (.istore_n 3, 1) := by decide +kernel
theorem dL_arePlacesSo_127 : decode cL_arePlacesSo 127 = .ok (.iinc 5 1, 3) := by decide +kernel
theorem dL_arePlacesSo_130 : decode cL_arePlacesSo 130 = .ok (.goto (-82), 3) := by decide +kernel
theorem dL_arePlacesSo_133 : decode cL_arePlacesSo 133 = .ok (.bipush 6, 2) := by decide +kernel
theorem dL_arePlacesSo_135 : decode cL_arePlacesSo 135 = .ok (.istore 5, 2) := by decide +kernel
theorem dL_arePlacesSo_137 : decode cL_arePlacesSo 137 = .ok (.iload 5, 2) := by decide +kernel
theorem dL_arePlacesSo_139 : decode cL_arePlacesSo 139 = .ok (.bipush 10, 2) := by decide +kernel
theorem dL_arePlacesSo_141 : decode cL_arePlacesSo 141 = .ok (.iload_n 1, 1) := by decide +kernel
theorem dL_arePlacesSo_142 : decode cL_arePlacesSo 142 = .ok (.iadd, 1) := by decide +kernel
theorem dL_arePlacesSo_143 : decode cL_arePlacesSo 143 = .ok (.if_icmp .ge 159, 3) := by decide +kernel
theorem dL_arePlacesSo_146 : decode cL_arePlacesSo 146 = .ok (.iload 4, 2) := by decide +kernel
theorem dL_arePlacesSo_148 : decode cL_arePlacesSo 148 = .ok (.ifCond .eq 154, 3) := by decide +kernel
theorem dL_arePlacesSo_151 : decode cL_arePlacesSo 151 = .ok (.iload 5, 2) := by decide +kernel
theorem dL_arePlacesSo_153 : decode cL_arePlacesSo 153 = .ok (.bipush 8, 2) := by decide +kernel
theorem dL_arePlacesSo_155 : decode cL_arePlacesSo 155 = .ok (.if_icmp .ge 7, 3) := by decide +kernel
theorem dL_arePlacesSo_158 : decode cL_arePlacesSo 158 = .ok (.iconst 4, 1) := by decide +kernel
theorem dL_arePlacesSo_159 : decode cL_arePlacesSo 159 = .ok (.goto 5, 3) := by decide +kernel
theorem dL_arePlacesSo_162 : decode cL_arePlacesSo 162 = .ok (.bipush 8, 2) := by decide +kernel
theorem dL_arePlacesSo_164 : decode cL_arePlacesSo 164 = .ok (.istore 6, 2) := by decide +kernel
theorem dL_arePlacesSo_166 : decode cL_arePlacesSo 166 = .ok (.iload 5, 2) := by decide +kernel
theorem dL_arePlacesSo_168 : decode cL_arePlacesSo 168 = .ok (.bipush 8, 2) := by decide +kernel
theorem dL_arePlacesSo_170 : decode cL_arePlacesSo 170 = .ok (.if_icmp .lt 10, 3) := by decide +kernel
theorem dL_arePlacesSo_173 : decode cL_arePlacesSo 173 = .ok (.iload 5, 2) := by decide +kernel
theorem dL_arePlacesSo_175 : decode cL_arePlacesSo 175 = .ok (.bipush 9, 2) := by decide +kernel
theorem dL_arePlacesSo_177 : decode cL_arePlacesSo 177 = .ok (.if_icmp .le 7, 3) := by decide +kernel
theorem dL_arePlacesSo_180 : decode cL_arePlacesSo 180 = .ok (.iconst 1, 1) := by decide +kernel
theorem dL_arePlacesSo_181 : decode cL_arePlacesSo 181 = .ok (.goto 4, 3) := by decide +kernel
theorem dL_arePlacesSo_184 : decode cL_arePlacesSo 184 = .ok (.iconst 0, 1) := by decide +kernel
theorem dL_arePlacesSo_185 : decode cL_arePlacesSo 185 = .ok (.istore 7, 2) := by decide +kernel
theorem dL_arePlacesSo_187 : decode cL_arePlacesSo 187 = .ok (.iload 7, 2) := by decide +kernel
theorem dL_arePlacesSo_189 : decode cL_arePlacesSo 189 = .ok (.aload_n 0, 1) := by decide +kernel
theorem dL_arePlacesSo_190 : decode cL_arePlacesSo 190 = .ok (.iconst 4, 1) := by decide +kernel
theorem dL_arePlacesSo_191 : decode cL_arePlacesSo 191 = .ok (.iload 5, 2) := by decide +kernel
theorem dL_arePlacesSo_193 : decode cL_arePlacesSo 193 = .ok (.iconst 0, 1) := by decide +kernel
theorem dL_arePlacesSo_194 : decode cL_arePlacesSo 194 = .ok (.invokestatic 85, 3) := by decide +kernel
theorem dL_arePlacesSo_197 : decode cL_arePlacesSo 197 = .ok (.ldc 54, 2) := by decide +kernel
theorem dL_arePlacesSo_199 : decode cL_arePlacesSo 199 = .ok (.if_icmp .eq 7, 3) := by decide +kernel
theorem dL_arePlacesSo_202 : decode cL_arePlacesSo 202 = .ok (.iconst 1, 1) := by decide +kernel
theorem dL_arePlacesSo_203 : decode cL_arePlacesSo 203 = .ok (.goto 4, 3) := by decide +kernel
theorem dL_arePlacesSo_206 : decode cL_arePlacesSo 206 = .ok (.iconst 0, 1) := by decide +kernel
theorem dL_arePlacesSo_207 : decode cL_arePlacesSo 207 = .ok (.if_icmp .ne 7, 3) := by decide +kernel
theorem dL_arePlacesSo_210 : decode cL_arePlacesSo 210 = .ok (.iconst 1, 1) := by decide +kernel
theorem dL_arePlacesSo_211 : decode cL_arePlacesSo 211 = .ok (.goto 4, 3) := by decide +kernel
theorem dL_arePlacesSo_214 : decode cL_arePlacesSo 214 = .ok (.iconst 0, 1) := by decide +kernel
theorem dL_arePlacesSo_215 : decode cL_arePlacesSo 215 = .ok (.istore 4, 2) := by decide +kernel
theorem dL_arePlacesSo_217 : decode cL_arePlacesSo 217 = .ok (.iconst 0, 1) := by decide +kernel
theorem dL_arePlacesSo_218 : decode cL_arePlacesSo 218 = .ok (.istore 8, 2) := by decide +kernel
theorem dL_arePlacesSo_220 : decode cL_arePlacesSo 220 = .ok (.iload 7, 2) := by decide +kernel
theorem dL_arePlacesSo_222 : decode cL_arePlacesSo 222 = .ok (.ifCond .eq 74, 3) := by decide +kernel
theorem dL_arePlacesSo_225 : decode cL_arePlacesSo 225 = .ok (.aload_n 0, 1) := by decide +kernel
theorem dL_arePlacesSo_226 : decode cL_arePlacesSo 226 = .ok (.iconst 4, 1) := by decide +kernel
theorem dL_arePlacesSo_227 : decode cL_arePlacesSo 227 = .ok (.iload 5, 2) := by decide +kernel
theorem dL_arePlacesSo_229 : decode cL_arePlacesSo 229 = .ok (.iload 8, 2) := by decide +kernel
theorem dL_arePlacesSo_231 : decode cL_arePlacesSo 231 = .ok (.invokestatic 85, 3) := by decide +kernel
theorem dL_arePlacesSo_234 : decode cL_arePlacesSo 234 = .ok (.ifCond .lt 62, 3) := by decide +kernel
theorem dL_arePlacesSo_237 : decode cL_arePlacesSo 237 = .ok (.iload 4, 2) := by decide +kernel
theorem dL_arePlacesSo_239 : decode cL_arePlacesSo 239 = .ok (.ifCond .eq 57, 3) := by decide +kernel
theorem dL_arePlacesSo_242 : decode cL_arePlacesSo 242 = .ok (.aload_n 0, 1) := by decide +kernel
theorem dL_arePlacesSo_243 : decode cL_arePlacesSo 243 = .ok (.iconst 4, 1) := by decide +kernel
theorem dL_arePlacesSo_244 : decode cL_arePlacesSo 244 = .ok (.iload 5, 2) := by decide +kernel
theorem dL_arePlacesSo_246 : decode cL_arePlacesSo 246 = .ok (.iload 8, 2) := by decide +kernel
theorem dL_arePlacesSo_248 : decode cL_arePlacesSo 248 = .ok (.invokestatic 85, 3) := by decide +kernel
theorem dL_arePlacesSo_251 : decode cL_arePlacesSo 251 = .ok (.istore 9, 2) := by decide +kernel
theorem dL_arePlacesSo_253 : decode cL_arePlacesSo 253 = .ok (.iload 8, 2) := by decide +kernel
theorem dL_arePlacesSo_255 : decode cL_arePlacesSo 255 = .ok (.iload 6, 2) := by decide +kernel
theorem dL_arePlacesSo_257 : decode cL_arePlacesSo 257 = .ok (.if_icmp .ge 23, 3) := by decide +kernel
theorem dL_arePlacesSo_260 : decode cL_arePlacesSo 260 = .ok (.iload 9, 2) := by decide +kernel
theorem dL_arePlacesSo_262 : decode cL_arePlacesSo 262 = .ok (.bipush 8, 2) := by decide +kernel
theorem dL_arePlacesSo_264 : decode cL_arePlacesSo 264 = .ok (.if_icmp .ge 16, 3) := by decide +kernel
theorem dL_arePlacesSo_267 : decode cL_arePlacesSo 267 = .ok (.iload_n 2, 1) := by decide +kernel
theorem dL_arePlacesSo_268 : decode cL_arePlacesSo 268 = .ok (.iload 9, 2) := by decide +kernel
theorem dL_arePlacesSo_270 : decode cL_arePlacesSo 270 = .ok (.ishr, 1) := by decide +kernel
theorem dL_arePlacesSo_271 : decode cL_arePlacesSo 271 = .ok (.iconst 1, 1) := by decide +kernel
theorem dL_arePlacesSo_272 : decode cL_arePlacesSo 272 = .ok (.iand, 1) := by decide +kernel
theorem dL_arePlacesSo_273 : decode cL_arePlacesSo 273 = .ok (.ifCond .ne 7, 3) := by decide +kernel
theorem dL_arePlacesSo_276 : decode cL_arePlacesSo 276 = .ok (.iconst 1, 1) := by decide +kernel
theorem dL_arePlacesSo_277 : decode cL_arePlacesSo 277 = .ok (.goto 4, 3) := by decide +kernel
theorem dL_arePlacesSo_280 : decode cL_arePlacesSo 280 = .ok (.iconst 0, 1) := by decide +kernel
theorem dL_arePlacesSo_281 : decode cL_arePlacesSo 281 = .ok (.istore 4, 2) := by decide +kernel
theorem dL_arePlacesSo_283 : decode cL_arePlacesSo 283 = .ok (.iload_n 2, 1) := by decide +kernel
theorem dL_arePlacesSo_284 : decode cL_arePlacesSo 284 = .ok (.iconst 1, 1) := by decide +kernel
theorem dL_arePlacesSo_285 : decode cL_arePlacesSo 285 = .ok (.iload 9, 2) := by decide +kernel
theorem dL_arePlacesSo_287 : decode cL_arePlacesSo 287 = .ok (.ishl, 1) := by decide +kernel
theorem dL_arePlacesSo_288 : decode cL_arePlacesSo 288 = .ok (.ior, 1) := by decide +kernel
theorem dL_arePlacesSo_289 : decode cL_arePlacesSo 289 = .ok (.istore_n 2, 1) := by decide +kernel
theorem dL_arePlacesSo_290 : decode cL_arePlacesSo 290 = .ok (.iinc 8 1, 3) := by decide +kernel
theorem dL_arePlacesSo_293 : decode cL_arePlacesSo 293 = .ok (.goto (-73), 3) := by decide +kernel
theorem dL_arePlacesSo_296 : decode cL_arePlacesSo 296 = .ok (.iinc 5 1, 3) := by decide +kernel
theorem dL_arePlacesSo_299 : decode cL_arePlacesSo 299 = .ok (.goto (-162), 3) := by decide +kernel
theorem dL_arePlacesSo_302 : decode cL_arePlacesSo 302 = .ok (.iload 4, 2) := by decide +kernel
theorem dL_arePlacesSo_304 : decode cL_arePlacesSo 304 = .ok (.ifCond .eq 20, 3) := by decide +kernel
theorem dL_arePlacesSo_307 : decode cL_arePlacesSo 307 = .ok (.iload_n 3, 1) := by decide +kernel
theorem dL_arePlacesSo_308 : decode cL_arePlacesSo 308 = .ok (.iload_n 1, 1) := by decide +kernel
theorem dL_arePlacesSo_309 : decode cL_arePlacesSo 309 = .ok (.if_icmp .ne 15, 3) := by decide +kernel
theorem dL_arePlacesSo_312 : decode cL_arePlacesSo 312 = .ok (.iload_n 2, 1) := by decide +kernel
theorem dL_arePlacesSo_313 : decode cL_arePlacesSo 313 = .ok (.iload_n 2, 1) := by decide +kernel
theorem dL_arePlacesSo_314 : decode cL_arePlacesSo 314 = .ok (.iconst 1, 1) := by decide +kernel
theorem dL_arePlacesSo_315 : decode cL_arePlacesSo 315 = .ok (.iadd, 1) := by decide +kernel
theorem dL_arePlacesSo_316 : decode cL_arePlacesSo 316 = .ok (.iand, 1) := by decide +kernel
theorem dL_arePlacesSo_317 : decode cL_arePlacesSo 317 = .ok (.ifCond .ne 7, 3) := by decide +kernel
theorem dL_arePlacesSo_320 : decode cL_arePlacesSo 320 = .ok (.iconst 1, 1) := by decide +kernel
theorem dL_arePlacesSo_321 : decode cL_arePlacesSo 321 = .ok (.goto 4, 3) := by decide +kernel
theorem dL_arePlacesSo_324 : decode cL_arePlacesSo 324 = .ok (.iconst 0, 1) := by decide +kernel
theorem dL_arePlacesSo_325 : decode cL_arePlacesSo 325 = .ok (.ireturn, 1) := by decide +kernel
set_option maxRecDepth 20000 in
theorem ggL_areBookingsSo_L_trains : GoodIn wsL_areBookingsSo wsL_trains := goodIn_ca (goodIn_r _ [5, 6, 7, 4, 8, 9, 1, 10, 11, 12, 13, 14, 15, 16, 17, 18, 19, 20, 21, 22, 23, 24, 25, 26, 27, 28, 29, 30, 31, 32, 33, 34, 35, 36, 37, 38, 39, 40, 41, 42, 43, 44, 45, 46, 47, 48, 49, 50, 51, 52, 53, 54, 55, 56, 57, 58, 59, 60, 61, 62, 63, 64, 65, 66, 67, 68, 69, 70, 71, 72, 73, 74, 75, 76, 77, 78, 79, 80, 81, 82, 83, 84, 85, 86, 87, 88, 89, 90, 91, 92, 93, 94, 95, 96, 97, 98, 99, 100, 101, 102, 103, 104, 105, 106, 107, 108, 109, 110, 111, 112, 113, 114, 115, 116, 117, 118, 119, 120, 121, 122, 123, 124, 125, 126, 127, 128, 129, 130, 131, 132, 133, 156, 157, 158, 159, 160, 161, 162, 163, 164, 165, 166, 167, 168, 169, 170, 171, 172, 173, 174, 175, 176, 177, 178, 179] (by decide +kernel) (by decide +kernel)) (goodIn_sub (fun _ h => List.mem_cons_of_mem _ (List.mem_append_left _ (List.mem_append_right _ h))) (by decide +kernel))
set_option maxRecDepth 20000 in
theorem gL_areBookingsSo_L_trains : GoodIn wsL_areBookingsSo (va_wsS RL 103 yL_trains wsL_trains) := goodIn_app (goodIn_of _ (by decide +kernel)) ggL_areBookingsSo_L_trains
set_option maxRecDepth 20000 in
theorem ggL_areBookingsSo_L_looks : GoodIn wsL_areBookingsSo wsL_looks := goodIn_ca (goodIn_r _ [8, 9, 1, 10, 11, 12, 13, 14, 15, 16, 17, 18, 19, 20, 21, 22, 23, 24, 25, 26, 27, 28, 29, 30, 31, 32, 33, 34, 35, 36, 37, 38, 39, 40, 41, 42, 43, 44, 45, 46, 47, 48, 49, 50, 51, 52, 53, 54, 55, 56, 57, 58, 59, 60, 61, 62, 63, 64, 65, 66, 67, 68, 69, 70, 71, 72, 73, 74, 75, 76, 77, 78, 79, 80, 81, 82, 83, 84, 85, 86, 87, 88, 89, 90, 91, 92, 93, 94, 95, 96, 97, 98, 99, 100, 101, 102, 103, 104, 105, 106, 107, 108, 109, 110, 111, 112, 113, 114, 115, 116, 117, 118, 119, 120, 121, 122, 123, 124, 125, 126, 127, 128, 129, 130, 131, 132, 133, 156, 157, 158, 159, 160, 161, 162, 163, 164, 165, 166, 167, 168, 169, 170, 171, 172, 173, 174, 175, 176, 177, 178, 179] (by decide +kernel) (by decide +kernel)) (goodIn_sub (fun _ h => List.mem_cons_of_mem _ (List.mem_append_left _ (List.mem_append_right _ h))) (by decide +kernel))
set_option maxRecDepth 20000 in
theorem gL_areBookingsSo_L_looks : GoodIn wsL_areBookingsSo (va_wsS RL 85 yL_looks wsL_looks) := goodIn_app (goodIn_of _ (by decide +kernel)) ggL_areBookingsSo_L_looks
set_option maxRecDepth 20000 in
theorem ggL_areBookingsSo_L_can : GoodIn wsL_areBookingsSo wsL_can := goodIn_ca (goodIn_ca (goodIn_r _ [136, 9, 137, 1, 138, 139, 140, 13, 141, 33, 17, 18, 19, 20, 21, 22, 15, 23, 77, 78, 79, 142, 143, 144, 145, 146, 147, 148, 149, 123, 150, 125, 126, 127, 132, 133, 156, 157, 158, 159, 160, 161, 162, 163, 164, 165, 166, 167, 168, 169, 170, 171, 172, 173, 174] (by decide +kernel) (by decide +kernel)) (goodIn_sub (fun _ h => List.mem_cons_of_mem _ (List.mem_append_left _ (List.mem_append_right _ h))) (by decide +kernel))) (goodIn_sub (fun _ h => List.mem_cons_of_mem _ (List.mem_append_right _ h)) (by decide +kernel))
set_option maxRecDepth 20000 in
theorem gL_areBookingsSo_L_can : GoodIn wsL_areBookingsSo (va_wsS RL 110 yL_can wsL_can) := goodIn_app (goodIn_of _ (by decide +kernel)) ggL_areBookingsSo_L_can
theorem dL_areBookingsSo_0 : decode cL_areBookingsSo 0 = .ok (.aload_n 0, 1) := by decide +kernel
theorem dL_areBookingsSo_1 : decode cL_areBookingsSo 1 = .ok (.invokestatic 103, 3) := by decide +kernel
theorem dL_areBookingsSo_4 : decode cL_areBookingsSo 4 = .ok (.istore_n 3, 1) := by decide +kernel
theorem dL_areBookingsSo_5 : decode cL_areBookingsSo 5 = .ok (.iconst 0, 1) := by decide +kernel
theorem dL_areBookingsSo_6 : decode cL_areBookingsSo 6 = .ok (.istore 4, 2) := by decide +kernel
theorem dL_areBookingsSo_8 : decode cL_areBookingsSo 8 = .ok (.iconst 1, 1) := by decide +kernel
theorem dL_areBookingsSo_9 : decode cL_areBookingsSo 9 = .ok (.istore 5, 2) := by decide +kernel
theorem dL_areBookingsSo_11 : decode cL_areBookingsSo 11 = .ok (.iconst 0, 1) := by decide +kernel
theorem dL_areBookingsSo_12 : decode cL_areBookingsSo 12 = .ok (.istore 6, 2) := by decide +kernel
theorem dL_areBookingsSo_14 : decode cL_areBookingsSo 14 = .ok (.aload_n 0, 1) := by decide +kernel
theorem dL_areBookingsSo_15 : decode cL_areBookingsSo 15 = .ok (.iconst 2, 1) := by decide +kernel
theorem dL_areBookingsSo_16 : decode cL_areBookingsSo 16 = .ok (.iload 6, 2) := by decide +kernel
theorem dL_areBookingsSo_18 : decode cL_areBookingsSo 18 = .ok (.iconst 0, 1) := by decide +kernel
theorem dL_areBookingsSo_19 : decode cL_areBookingsSo 19 = .ok (.invokestatic 85, 3) := by decide +kernel
theorem dL_areBookingsSo_22 : decode cL_areBookingsSo 22 = .ok (.ifCond .lt 69, 3) := by decide +kernel
theorem dL_areBookingsSo_25 : decode cL_areBookingsSo 25 = .ok (.iload 5, 2) := by decide +kernel
theorem dL_areBookingsSo_27 : decode cL_areBookingsSo 27 = .ok (.ifCond .eq 64, 3) := by decide +kernel
theorem dL_areBookingsSo_30 : decode cL_areBookingsSo 30 = .ok (.aload_n 0, 1) := by decide +kernel
theorem dL_areBookingsSo_31 : decode cL_areBookingsSo 31 = .ok (.iconst 2, 1) := by decide +kernel
theorem dL_areBookingsSo_32 : decode cL_areBookingsSo 32 = .ok (.iload 6, 2) := by decide +kernel
theorem dL_areBookingsSo_34 : decode cL_areBookingsSo 34 = .ok (.iconst 0, 1) := by decide +kernel
theorem dL_areBookingsSo_35 : decode cL_areBookingsSo 35 = .ok (.invokestatic 85, 3) := by decide +kernel
theorem dL_areBookingsSo_38 : decode cL_areBookingsSo 38 = .ok (.iconst 2, 1) := by decide +kernel
theorem dL_areBookingsSo_39 : decode cL_areBookingsSo 39 = .ok (.if_icmp .gt 43, 3) := by decide +kernel
theorem dL_areBookingsSo_42 : decode cL_areBookingsSo 42 = .ok (.aload_n 0, 1) := by decide +kernel
theorem dL_areBookingsSo_43 : decode cL_areBookingsSo 43 = .ok (.iconst 2, 1) := by decide +kernel
theorem dL_areBookingsSo_44 : decode cL_areBookingsSo 44 = .ok (.iload 6, 2) := by decide +kernel
theorem dL_areBookingsSo_46 : decode cL_areBookingsSo 46 = .ok (.iconst 0, 1) := by decide +kernel
theorem dL_areBookingsSo_47 : decode cL_areBookingsSo 47 = .ok (.invokestatic 85, 3) := by decide +kernel
theorem dL_areBookingsSo_50 : decode cL_areBookingsSo 50 = .ok (.iconst 1, 1) := by decide +kernel
theorem dL_areBookingsSo_51 : decode cL_areBookingsSo 51 = .ok (.if_icmp .ne 7, 3) := by decide +kernel
theorem dL_areBookingsSo_54 : decode cL_areBookingsSo 54 = .ok (.iconst 1, 1) := by decide +kernel
theorem dL_areBookingsSo_55 : decode cL_areBookingsSo 55 = .ok (.goto 4, 3) := by decide +kernel
theorem dL_areBookingsSo_58 : decode cL_areBookingsSo 58 = .ok (.iconst 0, 1) := by decide +kernel
theorem dL_areBookingsSo_59 : decode cL_areBookingsSo 59 = .ok (.aload_n 0, 1) := by decide +kernel
theorem dL_areBookingsSo_60 : decode cL_areBookingsSo 60 = .ok (.iconst 3, 1) := by decide +kernel
theorem dL_areBookingsSo_61 : decode cL_areBookingsSo 61 = .ok (.iload 6, 2) := by decide +kernel
theorem dL_areBookingsSo_63 : decode cL_areBookingsSo 63 = .ok (.iconst 0, 1) := by decide +kernel
theorem dL_areBookingsSo_64 : decode cL_areBookingsSo 64 = .ok (.invokestatic 85, 3) := by decide +kernel
theorem dL_areBookingsSo_67 : decode cL_areBookingsSo 67 = .ok (.ifCond .lt 7, 3) := by decide +kernel
theorem dL_areBookingsSo_70 : decode cL_areBookingsSo 70 = .ok (.iconst 1, 1) := by decide +kernel
theorem dL_areBookingsSo_71 : decode cL_areBookingsSo 71 = .ok (.goto 4, 3) := by decide +kernel
theorem dL_areBookingsSo_74 : decode cL_areBookingsSo 74 = .ok (.iconst 0, 1) := by decide +kernel
theorem dL_areBookingsSo_75 : decode cL_areBookingsSo 75 = .ok (.if_icmp .ne 7, 3) := by decide +kernel
theorem dL_areBookingsSo_78 : decode cL_areBookingsSo 78 = .ok (.iconst 1, 1) := by decide +kernel
theorem dL_areBookingsSo_79 : decode cL_areBookingsSo 79 = .ok (.goto 4, 3) := by decide +kernel
theorem dL_areBookingsSo_82 : decode cL_areBookingsSo 82 = .ok (.iconst 0, 1) := by decide +kernel
theorem dL_areBookingsSo_83 : decode cL_areBookingsSo 83 = .ok (.istore 5, 2) := by decide +kernel
theorem dL_areBookingsSo_85 : decode cL_areBookingsSo 85 = .ok (.iinc 6 1, 3) := by decide +kernel
theorem dL_areBookingsSo_88 : decode cL_areBookingsSo 88 = .ok (.goto (-74), 3) := by decide +kernel
theorem dL_areBookingsSo_91 : decode cL_areBookingsSo 91 = .ok (.iconst 0, 1) := by decide +kernel
theorem dL_areBookingsSo_92 : decode cL_areBookingsSo 92 = .ok (.istore 6, 2) := by decide +kernel
theorem dL_areBookingsSo_94 : decode cL_areBookingsSo 94 = .ok (.iload 6, 2) := by decide +kernel
theorem dL_areBookingsSo_96 : decode cL_areBookingsSo 96 = .ok (.iload_n 3, 1) := by decide +kernel
theorem dL_areBookingsSo_97 : decode cL_areBookingsSo 97 = .ok (.if_icmp .ge 119, 3) := by decide +kernel
theorem dL_areBookingsSo_100 : decode cL_areBookingsSo 100 = .ok (.iload 5, 2) := by decide +kernel
theorem dL_areBookingsSo_102 : decode cL_areBookingsSo 102 = .ok (.ifCond .eq 114, 3) := by decide +kernel
theorem dL_areBookingsSo_105 : decode cL_areBookingsSo 105 = .ok (.aload_n 0, 1) := by decide +kernel
theorem dL_areBookingsSo_106 : decode cL_areBookingsSo 106 = .ok (.iload 6, 2) := by decide +kernel
theorem dL_areBookingsSo_108 : decode cL_areBookingsSo 108 = .ok (.iload_n 1, 1) := by decide +kernel
theorem dL_areBookingsSo_109 : decode cL_areBookingsSo 109 = .ok (.iload_n 2, 1) := by decide +kernel
theorem dL_areBookingsSo_110 : decode cL_areBookingsSo 110 = .ok (.iload_n 2, 1) := by decide +kernel
theorem dL_areBookingsSo_111 : decode cL_areBookingsSo 111 = .ok (.bipush 9, 2) := by decide +kernel
theorem dL_areBookingsSo_113 : decode cL_areBookingsSo 113 = .ok (.iadd, 1) := by decide +kernel
theorem dL_areBookingsSo_114 : decode cL_areBookingsSo 114 = .ok (.invokestatic 110, 3) := by decide +kernel
theorem dL_areBookingsSo_117 : decode cL_areBookingsSo 117 = .ok (.istore 7, 2) := by decide +kernel
theorem dL_areBookingsSo_119 : decode cL_areBookingsSo 119 = .ok (.iconst 1, 1) := by decide +kernel
theorem dL_areBookingsSo_120 : decode cL_areBookingsSo 120 = .ok (.istore 8, 2) := by decide +kernel
theorem dL_areBookingsSo_122 : decode cL_areBookingsSo 122 = .ok (.iload_n 2, 1) := by decide +kernel
theorem dL_areBookingsSo_123 : decode cL_areBookingsSo 123 = .ok (.istore 9, 2) := by decide +kernel
theorem dL_areBookingsSo_125 : decode cL_areBookingsSo 125 = .ok (.iload 9, 2) := by decide +kernel
theorem dL_areBookingsSo_127 : decode cL_areBookingsSo 127 = .ok (.iload_n 2, 1) := by decide +kernel
theorem dL_areBookingsSo_128 : decode cL_areBookingsSo 128 = .ok (.bipush 10, 2) := by decide +kernel
theorem dL_areBookingsSo_130 : decode cL_areBookingsSo 130 = .ok (.iadd, 1) := by decide +kernel
theorem dL_areBookingsSo_131 : decode cL_areBookingsSo 131 = .ok (.if_icmp .ge 32, 3) := by decide +kernel
theorem dL_areBookingsSo_134 : decode cL_areBookingsSo 134 = .ok (.aload_n 0, 1) := by decide +kernel
theorem dL_areBookingsSo_135 : decode cL_areBookingsSo 135 = .ok (.iload 6, 2) := by decide +kernel
theorem dL_areBookingsSo_137 : decode cL_areBookingsSo 137 = .ok (.iload_n 1, 1) := by decide +kernel
theorem dL_areBookingsSo_138 : decode cL_areBookingsSo 138 = .ok (.iload 9, 2) := by decide +kernel
theorem dL_areBookingsSo_140 : decode cL_areBookingsSo 140 = .ok (.iload 9, 2) := by decide +kernel
theorem dL_areBookingsSo_142 : decode cL_areBookingsSo 142 = .ok (.invokestatic 110, 3) := by decide +kernel
theorem dL_areBookingsSo_145 : decode cL_areBookingsSo 145 = .ok (.iconst 1, 1) := by decide +kernel
theorem dL_areBookingsSo_146 : decode cL_areBookingsSo 146 = .ok (.if_icmp .ne 8, 3) := by decide +kernel
theorem dL_areBookingsSo_149 : decode cL_areBookingsSo 149 = .ok (.iload 8, 2) := by decide +kernel
theorem dL_areBookingsSo_151 : decode cL_areBookingsSo 151 = .ok (.goto 4, 3) := by decide +kernel
theorem dL_areBookingsSo_154 : decode cL_areBookingsSo 154 = .ok (.iconst 0, 1) := by decide +kernel
theorem dL_areBookingsSo_155 : decode cL_areBookingsSo 155 = .ok (.istore 8, 2) := by decide +kernel
theorem dL_areBookingsSo_157 : decode cL_areBookingsSo 157 = .ok (.iinc 9 1, 3) := by decide +kernel
theorem dL_areBookingsSo_160 : decode cL_areBookingsSo 160 = .ok (.goto (-35), 3) := by decide +kernel
theorem dL_areBookingsSo_163 : decode cL_areBookingsSo 163 = .ok (.iload 4, 2) := by decide +kernel
theorem dL_areBookingsSo_165 : decode cL_areBookingsSo 165 = .ok (.iload 7, 2) := by decide +kernel
theorem dL_areBookingsSo_167 : decode cL_areBookingsSo 167 = .ok (.iadd, 1) := by decide +kernel
theorem dL_areBookingsSo_168 : decode cL_areBookingsSo 168 = .ok (.istore 4, 2) := by decide +kernel
theorem dL_areBookingsSo_170 : decode cL_areBookingsSo 170 = .ok (.iload 7, 2) := by decide +kernel
theorem dL_areBookingsSo_172 : decode cL_areBookingsSo 172 = .ok (.iload 8, 2) := by decide +kernel
theorem dL_areBookingsSo_174 : decode cL_areBookingsSo 174 = .ok (.if_icmp .ne 33, 3) := by decide +kernel
theorem dL_areBookingsSo_177 : decode cL_areBookingsSo 177 = .ok (.aload_n 0, 1) := by decide +kernel
theorem dL_areBookingsSo_178 : decode cL_areBookingsSo 178 = .ok (.iload 6, 2) := by decide +kernel
theorem dL_areBookingsSo_180 : decode cL_areBookingsSo 180 = .ok (.iload_n 1, 1) := by decide +kernel
theorem dL_areBookingsSo_181 : decode cL_areBookingsSo 181 = .ok (.iload_n 2, 1) := by decide +kernel
theorem dL_areBookingsSo_182 : decode cL_areBookingsSo 182 = .ok (.iload_n 2, 1) := by decide +kernel
theorem dL_areBookingsSo_183 : decode cL_areBookingsSo 183 = .ok (.bipush 9, 2) := by decide +kernel
theorem dL_areBookingsSo_185 : decode cL_areBookingsSo 185 = .ok (.iadd, 1) := by decide +kernel
theorem dL_areBookingsSo_186 : decode cL_areBookingsSo 186 = .ok (.invokevirtual 113, 3) := by decide +kernel
theorem dL_areBookingsSo_189 : decode cL_areBookingsSo 189 = .ok (.iload 7, 2) := by decide +kernel
theorem dL_areBookingsSo_191 : decode cL_areBookingsSo 191 = .ok (.iconst 1, 1) := by decide +kernel
theorem dL_areBookingsSo_192 : decode cL_areBookingsSo 192 = .ok (.if_icmp .ne 7, 3) := by decide +kernel
theorem dL_areBookingsSo_195 : decode cL_areBookingsSo 195 = .ok (.iconst 1, 1) := by decide +kernel
theorem dL_areBookingsSo_196 : decode cL_areBookingsSo 196 = .ok (.goto 4, 3) := by decide +kernel
theorem dL_areBookingsSo_199 : decode cL_areBookingsSo 199 = .ok (.iconst 0, 1) := by decide +kernel
theorem dL_areBookingsSo_200 : decode cL_areBookingsSo 200 = .ok (.if_icmp .ne 7, 3) := by decide +kernel
theorem dL_areBookingsSo_203 : decode cL_areBookingsSo 203 = .ok (.iconst 1, 1) := by decide +kernel
theorem dL_areBookingsSo_204 : decode cL_areBookingsSo 204 = .ok (.goto 4, 3) := by decide +kernel
theorem dL_areBookingsSo_207 : decode cL_areBookingsSo 207 = .ok (.iconst 0, 1) := by decide +kernel
theorem dL_areBookingsSo_208 : decode cL_areBookingsSo 208 = .ok (.istore 5, 2) := by decide +kernel
theorem dL_areBookingsSo_210 : decode cL_areBookingsSo 210 = .ok (.iinc 6 1, 3) := by decide +kernel
theorem dL_areBookingsSo_213 : decode cL_areBookingsSo 213 = .ok (.goto (-119), 3) := by decide +kernel
theorem dL_areBookingsSo_216 : decode cL_areBookingsSo 216 = .ok (.iload 5, 2) := by decide +kernel
theorem dL_areBookingsSo_218 : decode cL_areBookingsSo 218 = .ok (.ifCond .eq 32, 3) := by decide +kernel
theorem dL_areBookingsSo_221 : decode cL_areBookingsSo 221 = .ok (.iload 4, 2) := by decide +kernel
theorem dL_areBookingsSo_223 : decode cL_areBookingsSo 223 = .ok (.iload_n 3, 1) := by decide +kernel
theorem dL_areBookingsSo_224 : decode cL_areBookingsSo 224 = .ok (.if_icmp .eq 9, 3) := by decide +kernel
theorem dL_areBookingsSo_227 : decode cL_areBookingsSo 227 = .ok (.iload 4, 2) := by decide +kernel
theorem dL_areBookingsSo_229 : decode cL_areBookingsSo 229 = .ok (.iconst 1, 1) := by decide +kernel
theorem dL_areBookingsSo_230 : decode cL_areBookingsSo 230 = .ok (.if_icmp .gt 20, 3) := by decide +kernel
theorem dL_areBookingsSo_233 : decode cL_areBookingsSo 233 = .ok (.aload_n 0, 1) := by decide +kernel
theorem dL_areBookingsSo_234 : decode cL_areBookingsSo 234 = .ok (.iload_n 3, 1) := by decide +kernel
theorem dL_areBookingsSo_235 : decode cL_areBookingsSo 235 = .ok (.iload_n 1, 1) := by decide +kernel
theorem dL_areBookingsSo_236 : decode cL_areBookingsSo 236 = .ok (.iload_n 2, 1) := by decide +kernel
theorem dL_areBookingsSo_237 : decode cL_areBookingsSo 237 = .ok (.iload_n 2, 1) := by decide +kernel
theorem dL_areBookingsSo_238 : decode cL_areBookingsSo 238 = .ok (.invokestatic 110, 3) := by decide +kernel
theorem dL_areBookingsSo_241 : decode cL_areBookingsSo 241 = .ok (.ldc 54, 2) := by decide +kernel
theorem dL_areBookingsSo_243 : decode cL_areBookingsSo 243 = .ok (.if_icmp .ne 7, 3) := by decide +kernel
theorem dL_areBookingsSo_246 : decode cL_areBookingsSo 246 = .ok (.iconst 1, 1) := by decide +kernel
theorem dL_areBookingsSo_247 : decode cL_areBookingsSo 247 = .ok (.goto 4, 3) := by decide +kernel
theorem dL_areBookingsSo_250 : decode cL_areBookingsSo 250 = .ok (.iconst 0, 1) := by decide +kernel
theorem dL_areBookingsSo_251 : decode cL_areBookingsSo 251 = .ok (.ireturn, 1) := by decide +kernel
