set_option maxRecDepth 20000 in
theorem qc_L_law_L_areAlike : GoodIn wsL_law [Cond.code yL_areAlike cL_areAlike 4 (some .boolean)] := goodIn_r _ [285] (by decide +kernel) (by decide +kernel)
set_option maxRecDepth 20000 in
theorem q_L_law_wsL_areAlike_r1 : GoodIn wsL_law wsL_areAlike_r1 := goodIn_r _ [279, 280, 281, 2, 282, 141, 286, 287, 288, 289, 267, 290, 291, 66, 292, 78, 3, 293, 294, 295, 296, 17, 242, 107] (by decide +kernel) (by decide +kernel)
set_option maxRecDepth 20000 in
theorem q_L_law_wsL_areAlike_r2 : GoodIn wsL_law wsL_areAlike_r2 := goodIn_r _ [108, 109, 110, 91, 92, 87, 297, 298, 299, 300, 301, 302, 303, 304, 305, 22, 306, 307, 308, 309, 310, 311, 182, 312] (by decide +kernel) (by decide +kernel)
set_option maxRecDepth 20000 in
theorem q_L_law_wsL_areAlike_r3 : GoodIn wsL_law wsL_areAlike_r3 := goodIn_r _ [313, 314, 315, 316, 317, 318, 319, 26, 202, 203, 204, 210, 211, 25, 212, 320, 251, 252, 253, 56, 57, 243, 244, 245] (by decide +kernel) (by decide +kernel)
set_option maxRecDepth 20000 in
theorem q_L_law_wsL_areAlike_r4 : GoodIn wsL_law wsL_areAlike_r4 := goodIn_r _ [321, 322, 323, 324, 325, 326, 327, 328, 18, 13, 88, 89, 90, 329, 330, 331, 16, 332, 97, 40, 41, 42, 43, 142] (by decide +kernel) (by decide +kernel)
set_option maxRecDepth 20000 in
theorem q_L_law_wsL_areAlike_r5 : GoodIn wsL_law wsL_areAlike_r5 := goodIn_r _ [143, 144, 145, 146, 147, 148, 149, 150, 151, 152, 12, 153, 154, 155, 156, 157, 35, 158, 159, 160, 161, 162, 126, 127] (by decide +kernel) (by decide +kernel)
set_option maxRecDepth 20000 in
theorem q_L_law_wsL_areAlike_r6 : GoodIn wsL_law wsL_areAlike_r6 := goodIn_r _ [128, 163, 94, 95, 96, 164, 165, 166, 21, 167, 168, 48, 47, 169, 170, 171, 172, 49, 50] (by decide +kernel) (by decide +kernel)
set_option maxRecDepth 20000 in
theorem ggL_law_L_areAlike : GoodIn wsL_law wsL_areAlike := goodIn_ca (goodIn_c1 qc_L_law_L_areAlike (goodIn_app (goodIn_app (goodIn_app (goodIn_app (goodIn_app (goodIn_app q_L_law_wsL_areAlike_r1 (goodIn_app q_L_law_wsL_areAlike_r2 (goodIn_app q_L_law_wsL_areAlike_r3 (goodIn_app q_L_law_wsL_areAlike_r4 (goodIn_app q_L_law_wsL_areAlike_r5 q_L_law_wsL_areAlike_r6))))) (goodIn_sub inlX5 (by decide +kernel))) (goodIn_sub inlX3 (by decide +kernel))) (goodIn_sub inlX0 (by decide +kernel))) (goodIn_sub inlX4 (by decide +kernel))) (goodIn_sub inlX2 (by decide +kernel)))) (goodIn_sub (fun _ h => List.mem_append_left _ (List.mem_append_right _ h)) (by decide +kernel))
