set_option maxRecDepth 20000 in
theorem ggL_both_L_low : GoodIn wsL_both wsL_low := goodIn_r _ [4, 5] (by decide +kernel) (by decide +kernel)
set_option maxRecDepth 20000 in
theorem gL_both_L_low : GoodIn wsL_both (va_wsS RL 57 yL_low wsL_low) := goodIn_app (goodIn_of _ (by decide +kernel)) ggL_both_L_low
set_option maxRecDepth 20000 in
theorem ggL_both_X3_part : GoodIn wsL_both wsX3_part := goodIn_r _ [10, 11, 12, 13, 14, 15, 9, 16, 17, 18, 19, 20, 21, 22, 23, 24, 25, 26, 27, 28, 29, 30, 31, 32, 33, 55, 56, 57, 58, 59, 60, 61, 62, 63, 64, 65, 66, 67, 68, 69, 70, 71, 72, 73] (by decide +kernel) (by decide +kernel)
set_option maxRecDepth 20000 in
theorem gL_both_X3_part : GoodIn wsL_both (wsV RL 67 RX3 yX3_part wsX3_part) := goodIn_app (goodIn_of _ (by decide +kernel)) ggL_both_X3_part
set_option maxRecDepth 20000 in
theorem ggL_both_X3_set : GoodIn wsL_both wsX3_set := goodIn_r _ [37, 38, 39, 40, 9, 41, 12, 13, 14, 15, 16, 42, 43, 20, 44, 45, 46, 47, 48, 49, 50, 29, 30, 31, 32, 33, 51, 52, 53, 54, 55, 56, 57, 58, 59, 60, 61, 62, 63, 64, 65, 66, 67, 68, 69, 70, 71, 72, 73] (by decide +kernel) (by decide +kernel)
set_option maxRecDepth 20000 in
theorem gL_both_X3_set : GoodIn wsL_both (wsV RL 71 RX3 yX3_set wsX3_set) := goodIn_app (goodIn_of _ (by decide +kernel)) ggL_both_X3_set
set_option maxRecDepth 20000 in
theorem ggL_fits_X3_fit : GoodIn wsL_fits wsX3_fit := goodIn_r _ [7, 8, 9, 10, 11, 12, 13, 14, 15, 16, 17, 6, 18, 19, 20, 21, 22, 23, 24, 25, 26, 27, 28, 29, 30, 31, 32, 33, 34, 35, 36, 37, 38, 39, 40, 41, 55, 56, 57, 58, 59, 60, 61, 62, 63, 64, 65, 66] (by decide +kernel) (by decide +kernel)
set_option maxRecDepth 20000 in
theorem gL_fits_X3_fit : GoodIn wsL_fits (wsV RL 75 RX3 yX3_fit wsX3_fit) := goodIn_app (goodIn_of _ (by decide +kernel)) ggL_fits_X3_fit
set_option maxRecDepth 20000 in
theorem ggL_fits_X3_reading : GoodIn wsL_fits wsX3_reading := goodIn_r _ [45, 8, 46, 47, 48, 49, 50, 10, 11, 12, 13, 14, 15, 55, 56, 57, 58, 59, 60, 61, 62, 63, 64, 65, 66] (by decide +kernel) (by decide +kernel)
set_option maxRecDepth 20000 in
theorem gL_fits_X3_reading : GoodIn wsL_fits (wsV RL 47 RX3 yX3_reading wsX3_reading) := goodIn_app (goodIn_of _ (by decide +kernel)) ggL_fits_X3_reading
set_option maxRecDepth 20000 in
theorem ggL_fits_L_part : GoodIn wsL_fits wsL_part := goodIn_r _ [54] (by decide +kernel) (by decide +kernel)
set_option maxRecDepth 20000 in
theorem gL_fits_L_part : GoodIn wsL_fits (va_wsS RL 81 yL_part wsL_part) := goodIn_app (goodIn_of _ (by decide +kernel)) ggL_fits_L_part
