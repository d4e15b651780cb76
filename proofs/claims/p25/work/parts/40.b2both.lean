set_option maxRecDepth 20000 in
theorem ggL_law_L_both : GoodIn wsL_law wsL_both := goodIn_r _ [266, 267, 268, 261, 269, 270, 271, 272, 273, 2, 274, 22, 11, 52, 78, 79, 80, 275, 276, 277, 26, 278, 279, 119, 125, 280, 281, 124, 118, 126, 128, 127, 188, 117, 282, 283, 284, 285, 89, 90, 91, 92, 286, 287, 288, 289, 290, 291, 292, 293, 294, 295, 296, 297, 298, 385, 386, 387, 388, 389, 390, 391, 400, 401, 402, 403, 404, 405, 406, 407, 408, 409, 410, 411] (by decide +kernel) (by decide +kernel)
set_option maxRecDepth 20000 in
theorem gL_law_L_both : GoodIn wsL_law (va_wsS RL 95 yL_both wsL_both) := goodIn_app (goodIn_of _ (by decide +kernel)) ggL_law_L_both
