set_option maxRecDepth 20000 in
theorem ggL_law_L_fits : GoodIn wsL_law wsL_fits := goodIn_r _ [365, 3, 366, 233, 234, 235, 2, 236, 17, 237, 224, 225, 226, 16, 227, 34, 78, 79, 80, 238, 239, 240, 241, 31, 32, 242, 243, 244, 245, 246, 247, 248, 249, 250, 251, 232, 178, 99, 179, 252, 253, 254, 355, 356, 357, 358, 359, 360, 361, 85, 362, 367, 368, 261, 369, 385, 386, 387, 388, 389, 390, 391, 392, 393, 394, 395, 396] (by decide +kernel) (by decide +kernel)
set_option maxRecDepth 20000 in
theorem gL_law_L_fits : GoodIn wsL_law (va_wsS RL 114 yL_fits wsL_fits) := goodIn_app (goodIn_of _ (by decide +kernel)) ggL_law_L_fits
