set_option maxRecDepth 20000 in
theorem gc_pulse_0 : GoodIn wsL_law ([.code yL_pulse cL_pulse 20 (some .boolean)] : List Cond) := goodIn_r _ [382] (by decide +kernel) (by decide +kernel)
set_option maxRecDepth 20000 in
theorem gc_pulse_wsL_pulse_r1 : GoodIn wsL_law wsL_pulse_r1 := goodIn_r _ [366, 383, 384, 44, 45, 46, 2, 47, 22, 23, 24, 48, 49, 50, 51, 11, 52, 53, 54, 55, 56, 13, 57, 58] (by decide +kernel) (by decide +kernel)
set_option maxRecDepth 20000 in
theorem gc_pulse_wsL_pulse_r2 : GoodIn wsL_law wsL_pulse_r2 := goodIn_r _ [59, 60, 61, 62, 63, 64, 65, 66, 67, 68, 69, 70, 71, 72, 73, 339, 340, 341, 342, 17, 150, 343, 344, 345] (by decide +kernel) (by decide +kernel)
set_option maxRecDepth 20000 in
theorem gc_pulse_wsL_pulse_r3 : GoodIn wsL_law wsL_pulse_r3 := goodIn_r _ [346, 304, 347, 348, 349, 350, 351, 352, 353, 16, 354, 34, 33, 146, 147, 148, 149, 21, 86, 87, 88, 78, 79, 80] (by decide +kernel) (by decide +kernel)
set_option maxRecDepth 20000 in
theorem gc_pulse_wsL_pulse_r4 : GoodIn wsL_law wsL_pulse_r4 := goodIn_r _ [89, 90, 91, 92, 151, 152, 153, 154, 155, 156, 157, 20, 158, 40, 159, 160, 161, 162, 163, 93, 94, 95, 96, 97] (by decide +kernel) (by decide +kernel)
set_option maxRecDepth 20000 in
theorem gc_pulse_wsL_pulse_r5 : GoodIn wsL_law wsL_pulse_r5 := goodIn_r _ [98, 99, 100, 101, 102, 103, 104, 105, 106, 107, 108, 109, 110, 111, 112, 113, 114, 115, 26, 116, 117, 118, 119, 120] (by decide +kernel) (by decide +kernel)
set_option maxRecDepth 20000 in
theorem gc_pulse_wsL_pulse_r6 : GoodIn wsL_law wsL_pulse_r6 := goodIn_r _ [121, 122, 123, 124, 125, 126, 127, 128, 129, 130, 131, 132, 133, 134, 135, 136, 137, 164, 165, 166, 167, 138, 139, 140] (by decide +kernel) (by decide +kernel)
set_option maxRecDepth 20000 in
theorem gc_pulse_wsL_pulse_r7 : GoodIn wsL_law wsL_pulse_r7 := goodIn_r _ [141, 142, 143, 144, 145, 168, 169, 170, 171, 30, 31, 32, 172, 173, 174, 175, 176, 177, 178, 179, 180, 181, 182, 183] (by decide +kernel) (by decide +kernel)
set_option maxRecDepth 20000 in
theorem gc_pulse_wsL_pulse_r8 : GoodIn wsL_law wsL_pulse_r8 := goodIn_r _ [184, 185, 186, 187, 188, 189, 190, 191, 192, 193, 194, 195, 196, 38, 39, 255, 256, 257, 258, 305, 306, 307, 308, 299] (by decide +kernel) (by decide +kernel)
set_option maxRecDepth 20000 in
theorem gc_pulse_wsL_pulse_r9 : GoodIn wsL_law wsL_pulse_r9 := goodIn_r _ [300, 301, 302, 303, 201, 291, 292, 293, 294, 81, 82, 83, 84, 85, 355, 356, 357, 358, 359, 360, 361, 362, 224, 225] (by decide +kernel) (by decide +kernel)
set_option maxRecDepth 20000 in
theorem gc_pulse_wsL_pulse_r10 : GoodIn wsL_law wsL_pulse_r10 := goodIn_r _ [226, 227, 332, 333, 261, 334, 377, 378, 379, 213, 214, 215, 216, 217, 218, 219] (by decide +kernel) (by decide +kernel)
set_option maxRecDepth 20000 in
theorem gc_pulse_wsX30 : GoodIn wsL_law wsX30 := goodIn_r _ [385, 386, 387, 388, 389, 390, 391] (by decide +kernel) (by decide +kernel)
set_option maxRecDepth 20000 in
theorem gc_pulse_wsX10 : GoodIn wsL_law wsX10 := goodIn_r _ [400, 401, 402, 403, 404, 405, 406, 407, 408, 409, 410, 411] (by decide +kernel) (by decide +kernel)
set_option maxRecDepth 20000 in
theorem gc_pulse_wsX20 : GoodIn wsL_law wsX20 := goodIn_r _ [392, 393, 394, 395, 396] (by decide +kernel) (by decide +kernel)
set_option maxRecDepth 20000 in
theorem gc_pulse_wsX00 : GoodIn wsL_law wsX00 := goodIn_r _ [397, 398, 399] (by decide +kernel) (by decide +kernel)
theorem ggL_law_L_pulse : GoodIn wsL_law wsL_pulse := goodIn_app gc_pulse_0 (goodIn_app (goodIn_app (goodIn_app (goodIn_app (goodIn_app gc_pulse_wsL_pulse_r1 (goodIn_app gc_pulse_wsL_pulse_r2 (goodIn_app gc_pulse_wsL_pulse_r3 (goodIn_app gc_pulse_wsL_pulse_r4 (goodIn_app gc_pulse_wsL_pulse_r5 (goodIn_app gc_pulse_wsL_pulse_r6 (goodIn_app gc_pulse_wsL_pulse_r7 (goodIn_app gc_pulse_wsL_pulse_r8 (goodIn_app gc_pulse_wsL_pulse_r9 gc_pulse_wsL_pulse_r10))))))))) gc_pulse_wsX30) gc_pulse_wsX10) gc_pulse_wsX20) gc_pulse_wsX00)
set_option maxRecDepth 20000 in
theorem gL_law_L_pulse : GoodIn wsL_law (va_wsS RL 122 yL_pulse wsL_pulse) := goodIn_app (goodIn_of _ (by decide +kernel)) ggL_law_L_pulse
