set_option maxRecDepth 20000 in
theorem qc_L_law_L_act : GoodIn wsL_law [Cond.code yL_act cL_act 6 (some .int)] := goodIn_r _ [70] (by decide +kernel) (by decide +kernel)
set_option maxRecDepth 20000 in
theorem q_L_law_wsL_act_r1 : GoodIn wsL_law wsL_act_r1 := goodIn_r _ [71, 72, 66, 73, 74, 75, 76, 77, 78, 79, 80, 3, 81, 82, 83, 2, 84, 85, 86, 17, 87, 88, 89, 90] (by decide +kernel) (by decide +kernel)
set_option maxRecDepth 20000 in
theorem q_L_law_wsL_act_r2 : GoodIn wsL_law wsL_act_r2 := goodIn_r _ [91, 92, 93, 94, 95, 16, 96, 97, 40, 98, 99, 100, 101, 41, 102, 103, 104, 105, 106, 107, 108, 109, 110, 111] (by decide +kernel) (by decide +kernel)
set_option maxRecDepth 20000 in
theorem q_L_law_wsL_act_r3 : GoodIn wsL_law wsL_act_r3 := goodIn_r _ [112, 113, 114, 115, 116, 117, 118, 119, 120, 121, 122, 123, 124, 125, 126, 127, 128, 129, 130, 131, 132, 13, 133, 134] (by decide +kernel) (by decide +kernel)
set_option maxRecDepth 20000 in
theorem q_L_law_wsL_act_r4 : GoodIn wsL_law wsL_act_r4 := goodIn_r _ [135, 12, 136, 35, 137, 138, 139, 140, 141, 22, 142, 143, 144, 145, 146, 147, 148, 149, 43, 42, 150, 151, 152, 153] (by decide +kernel) (by decide +kernel)
set_option maxRecDepth 20000 in
theorem q_L_law_wsL_act_r5 : GoodIn wsL_law wsL_act_r5 := goodIn_r _ [154, 155, 156, 157, 158, 159, 160, 161, 162, 163, 164, 165, 166, 21, 167, 168, 48, 47, 169, 170, 171, 172, 49, 50] (by decide +kernel) (by decide +kernel)
set_option maxRecDepth 20000 in
theorem q_L_law_wsL_act_r6 : GoodIn wsL_law wsL_act_r6 := goodIn_r _ [173, 174, 175, 176, 51, 177, 178, 179, 180, 181, 182, 183, 184, 185, 186, 187, 188, 189, 190, 191, 192, 193, 194, 195] (by decide +kernel) (by decide +kernel)
set_option maxRecDepth 20000 in
theorem q_L_law_wsL_act_r7 : GoodIn wsL_law wsL_act_r7 := goodIn_r _ [196, 197, 26, 198, 199, 200, 201, 202, 203, 204, 205, 206, 207, 208, 209, 210, 211, 25, 212, 213, 214, 215, 216, 217] (by decide +kernel) (by decide +kernel)
set_option maxRecDepth 20000 in
theorem q_L_law_wsL_act_r8 : GoodIn wsL_law wsL_act_r8 := goodIn_r _ [55, 218, 219, 220, 221, 56, 57, 222, 223, 224, 225, 226, 227, 228, 30, 229, 230, 231, 29, 232, 61, 62, 63, 233] (by decide +kernel) (by decide +kernel)
set_option maxRecDepth 20000 in
theorem q_L_law_wsL_act_r9 : GoodIn wsL_law wsL_act_r9 := goodIn_r _ [234, 235, 236, 237, 238, 239, 240, 241, 242, 243, 244, 245, 246, 247, 248, 249, 250, 251, 252, 253, 254, 255, 256, 257] (by decide +kernel) (by decide +kernel)
set_option maxRecDepth 20000 in
theorem q_L_law_wsL_act_r10 : GoodIn wsL_law wsL_act_r10 := goodIn_r _ [258, 259, 260, 261, 262, 263, 264, 265, 266, 267, 268, 269, 270, 271, 272, 273, 274, 275, 276, 277, 278, 279, 280, 281] (by decide +kernel) (by decide +kernel)
set_option maxRecDepth 20000 in
theorem q_L_law_wsL_act_r11 : GoodIn wsL_law wsL_act_r11 := goodIn_r _ [282] (by decide +kernel) (by decide +kernel)
set_option maxRecDepth 20000 in
theorem ggL_law_L_act : GoodIn wsL_law wsL_act := goodIn_ca (goodIn_ca (goodIn_ca (goodIn_c1 qc_L_law_L_act (goodIn_app (goodIn_app (goodIn_app (goodIn_app (goodIn_app (goodIn_app (goodIn_app q_L_law_wsL_act_r1 (goodIn_app q_L_law_wsL_act_r2 (goodIn_app q_L_law_wsL_act_r3 (goodIn_app q_L_law_wsL_act_r4 (goodIn_app q_L_law_wsL_act_r5 (goodIn_app q_L_law_wsL_act_r6 (goodIn_app q_L_law_wsL_act_r7 (goodIn_app q_L_law_wsL_act_r8 (goodIn_app q_L_law_wsL_act_r9 (goodIn_app q_L_law_wsL_act_r10 q_L_law_wsL_act_r11)))))))))) (goodIn_sub inlX5 (by decide +kernel))) (goodIn_sub inlX3 (by decide +kernel))) (goodIn_sub inlX2 (by decide +kernel))) (goodIn_sub inlX0 (by decide +kernel))) (goodIn_sub inlX4 (by decide +kernel))) (goodIn_sub inlX1 (by decide +kernel)))) (goodIn_sub (fun _ h => List.mem_append_left _ (List.mem_append_left _ (List.mem_append_right _ h))) (by decide +kernel))) (goodIn_sub (fun _ h => List.mem_append_left _ (List.mem_append_right _ h)) (by decide +kernel))) (goodIn_sub (fun _ h => List.mem_append_right _ h) (by decide +kernel))
