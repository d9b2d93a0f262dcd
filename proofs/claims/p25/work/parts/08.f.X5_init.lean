set_option maxRecDepth 20000 in
theorem qc_L_law_X5_init : GoodIn wsL_law [Cond.code yX5_init cX5_init 1 none] := goodIn_r _ [6] (by decide +kernel) (by decide +kernel)
set_option maxRecDepth 20000 in
theorem q_L_law_wsX5_init_r1 : GoodIn wsL_law wsX5_init_r1 := goodIn_r _ [7, 8, 9, 10, 11, 12, 13, 14, 15, 16, 17, 18, 19, 20, 21, 22, 23, 24, 25, 26, 27, 28, 29, 30] (by decide +kernel) (by decide +kernel)
set_option maxRecDepth 20000 in
theorem q_L_law_wsX5_init_r2 : GoodIn wsL_law wsX5_init_r2 := goodIn_r _ [31, 32, 33, 34, 35, 36, 37, 38, 39, 40, 41, 42, 43, 44, 45, 46, 47, 48, 49, 50, 51, 52, 53, 54] (by decide +kernel) (by decide +kernel)
set_option maxRecDepth 20000 in
theorem q_L_law_wsX5_init_r3 : GoodIn wsL_law wsX5_init_r3 := goodIn_r _ [55, 56, 57, 58, 59, 60, 61, 62, 63] (by decide +kernel) (by decide +kernel)
set_option maxRecDepth 20000 in
theorem ggL_law_X5_init : GoodIn wsL_law wsX5_init := (goodIn_c1 qc_L_law_X5_init (goodIn_app (goodIn_app (goodIn_app (goodIn_app (goodIn_app (goodIn_app (goodIn_app q_L_law_wsX5_init_r1 (goodIn_app q_L_law_wsX5_init_r2 q_L_law_wsX5_init_r3)) (goodIn_sub inlX2 (by decide +kernel))) (goodIn_sub inlX5 (by decide +kernel))) (goodIn_sub inlX3 (by decide +kernel))) (goodIn_sub inlX0 (by decide +kernel))) (goodIn_sub inlX4 (by decide +kernel))) (goodIn_sub inlX1 (by decide +kernel))))
