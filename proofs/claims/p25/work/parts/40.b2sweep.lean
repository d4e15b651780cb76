set_option maxRecDepth 20000 in
theorem gc_sweep_0 : GoodIn wsL_law ([.code yL_sweep cL_sweep 18 (some .boolean)] : List Cond) := goodIn_r _ [331] (by decide +kernel) (by decide +kernel)
set_option maxRecDepth 20000 in
theorem gc_sweep_wsL_sweep_r1 : GoodIn wsL_law wsL_sweep_r1 := goodIn_r _ [267, 268, 261, 269, 270, 255, 256, 257, 2, 258, 17, 150, 332, 333, 334, 335, 336, 337, 338, 22, 97, 98, 99, 100] (by decide +kernel) (by decide +kernel)
set_option maxRecDepth 20000 in
theorem gc_sweep_wsL_sweep_r2 : GoodIn wsL_law wsL_sweep_r2 := goodIn_r _ [21, 86, 87, 88, 78, 79, 80, 48, 49, 50, 51, 11, 52, 53, 54, 55, 56, 13, 57, 58, 59, 60, 61, 62] (by decide +kernel) (by decide +kernel)
set_option maxRecDepth 20000 in
theorem gc_sweep_wsL_sweep_r3 : GoodIn wsL_law wsL_sweep_r3 := goodIn_r _ [63, 64, 65, 66, 67, 68, 69, 89, 90, 91, 92, 151, 152, 153, 16, 154, 34, 155, 156, 157, 20, 158, 40, 159] (by decide +kernel) (by decide +kernel)
set_option maxRecDepth 20000 in
theorem gc_sweep_wsL_sweep_r4 : GoodIn wsL_law wsL_sweep_r4 := goodIn_r _ [160, 161, 162, 163, 93, 94, 95, 96, 101, 102, 103, 104, 23, 105, 106, 107, 108, 109, 110, 111, 112, 113, 114, 115] (by decide +kernel) (by decide +kernel)
set_option maxRecDepth 20000 in
theorem gc_sweep_wsL_sweep_r5 : GoodIn wsL_law wsL_sweep_r5 := goodIn_r _ [26, 116, 117, 118, 119, 120, 121, 122, 123, 124, 125, 126, 127, 128, 129, 130, 131, 132, 70, 71, 72, 73, 133, 134] (by decide +kernel) (by decide +kernel)
set_option maxRecDepth 20000 in
theorem gc_sweep_wsL_sweep_r6 : GoodIn wsL_law wsL_sweep_r6 := goodIn_r _ [135, 136, 24, 137, 164, 165, 166, 167, 138, 139, 140, 141, 142, 143, 144, 145, 168, 169, 170, 171, 30, 31, 32, 33] (by decide +kernel) (by decide +kernel)
set_option maxRecDepth 20000 in
theorem gc_sweep_wsL_sweep_r7 : GoodIn wsL_law wsL_sweep_r7 := goodIn_r _ [172, 173, 174, 175, 176, 177, 178, 179, 180, 181, 182, 183, 184, 185, 186, 187, 188, 193, 194, 195, 196, 38, 39, 189] (by decide +kernel) (by decide +kernel)
set_option maxRecDepth 20000 in
theorem gc_sweep_wsL_sweep_r8 : GoodIn wsL_law wsL_sweep_r8 := goodIn_r _ [190, 191, 192, 205, 206, 207, 208, 209, 210, 211, 212, 339, 340, 341, 342, 343, 344, 345, 346, 304, 347, 348, 349, 350] (by decide +kernel) (by decide +kernel)
set_option maxRecDepth 20000 in
theorem gc_sweep_wsL_sweep_r9 : GoodIn wsL_law wsL_sweep_r9 := goodIn_r _ [351, 352, 353, 354, 44, 45, 46, 47, 299, 300, 301, 302, 303, 201, 291, 292, 293, 294, 146, 147, 148, 149, 197, 198] (by decide +kernel) (by decide +kernel)
set_option maxRecDepth 20000 in
theorem gc_sweep_wsL_sweep_r10 : GoodIn wsL_law wsL_sweep_r10 := goodIn_r _ [199, 200, 202, 203, 204, 213, 214, 215, 216, 217, 218, 219, 355, 356, 357, 358, 359, 360, 361, 85, 362, 224, 225, 226] (by decide +kernel) (by decide +kernel)
set_option maxRecDepth 20000 in
theorem gc_sweep_wsL_sweep_r11 : GoodIn wsL_law wsL_sweep_r11 := goodIn_r _ [227] (by decide +kernel) (by decide +kernel)
set_option maxRecDepth 20000 in
theorem gc_sweep_wsX30 : GoodIn wsL_law wsX30 := goodIn_r _ [385, 386, 387, 388, 389, 390, 391] (by decide +kernel) (by decide +kernel)
set_option maxRecDepth 20000 in
theorem gc_sweep_wsX20 : GoodIn wsL_law wsX20 := goodIn_r _ [392, 393, 394, 395, 396] (by decide +kernel) (by decide +kernel)
set_option maxRecDepth 20000 in
theorem gc_sweep_wsX10 : GoodIn wsL_law wsX10 := goodIn_r _ [400, 401, 402, 403, 404, 405, 406, 407, 408, 409, 410, 411] (by decide +kernel) (by decide +kernel)
set_option maxRecDepth 20000 in
theorem gc_sweep_wsX00 : GoodIn wsL_law wsX00 := goodIn_r _ [397, 398, 399] (by decide +kernel) (by decide +kernel)
theorem ggL_law_L_sweep : GoodIn wsL_law wsL_sweep := goodIn_app gc_sweep_0 (goodIn_app (goodIn_app (goodIn_app (goodIn_app (goodIn_app gc_sweep_wsL_sweep_r1 (goodIn_app gc_sweep_wsL_sweep_r2 (goodIn_app gc_sweep_wsL_sweep_r3 (goodIn_app gc_sweep_wsL_sweep_r4 (goodIn_app gc_sweep_wsL_sweep_r5 (goodIn_app gc_sweep_wsL_sweep_r6 (goodIn_app gc_sweep_wsL_sweep_r7 (goodIn_app gc_sweep_wsL_sweep_r8 (goodIn_app gc_sweep_wsL_sweep_r9 (goodIn_app gc_sweep_wsL_sweep_r10 gc_sweep_wsL_sweep_r11)))))))))) gc_sweep_wsX30) gc_sweep_wsX20) gc_sweep_wsX10) gc_sweep_wsX00)
set_option maxRecDepth 20000 in
theorem gL_law_L_sweep : GoodIn wsL_law (va_wsS RL 111 yL_sweep wsL_sweep) := goodIn_app (goodIn_of _ (by decide +kernel)) ggL_law_L_sweep
