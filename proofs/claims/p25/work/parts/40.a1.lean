set_option maxRecDepth 20000 in
theorem ggL_found_X3_now : GoodIn wsL_found wsX3_now := goodIn_r _ [6, 7, 8, 9, 10, 11, 12, 5, 13, 14, 15, 16, 17, 18, 19, 20, 21, 22, 23, 24, 25, 26, 27, 28, 29, 30, 31, 32, 33, 34, 35, 36, 37, 135, 136, 137, 138, 139, 140, 141, 142, 143, 144, 145, 146, 147, 148, 149, 150, 151, 152, 153] (by decide +kernel) (by decide +kernel)
set_option maxRecDepth 20000 in
theorem gL_found_X3_now : GoodIn wsL_found (wsV RL 9 RX3 yX3_now wsX3_now) := goodIn_app (goodIn_of _ (by decide +kernel)) ggL_found_X3_now
set_option maxRecDepth 20000 in
theorem ggL_found_X3_pins : GoodIn wsL_found wsX3_pins := goodIn_r _ [41, 20, 42, 43, 5, 44, 135, 136, 137, 138, 139, 140, 141] (by decide +kernel) (by decide +kernel)
set_option maxRecDepth 20000 in
theorem gL_found_X3_pins : GoodIn wsL_found (wsV RL 15 RX3 yX3_pins wsX3_pins) := goodIn_app (goodIn_of _ (by decide +kernel)) ggL_found_X3_pins
set_option maxRecDepth 20000 in
theorem ggL_found_X3_ofPart : GoodIn wsL_found wsX3_ofPart := goodIn_r _ [48, 32, 33, 49, 50, 51, 52, 53, 54, 55, 5, 56, 14, 15, 42, 43, 44, 57, 58, 59, 60, 61, 62, 63, 64, 65, 66, 142, 143, 144, 145, 146, 147, 148, 149, 150, 151, 152, 153, 135, 136, 137, 138, 139, 140, 141] (by decide +kernel) (by decide +kernel)
set_option maxRecDepth 20000 in
theorem gL_found_X3_ofPart : GoodIn wsL_found (wsV RL 18 RX3 yX3_ofPart wsX3_ofPart) := goodIn_app (goodIn_of _ (by decide +kernel)) ggL_found_X3_ofPart
set_option maxRecDepth 20000 in
theorem ggL_found_X3_would : GoodIn wsL_found wsX3_would := goodIn_r _ [70, 71, 72, 73, 5, 74, 42, 43, 44, 10, 11, 12, 13, 14, 15, 16, 17, 18, 19, 20, 21, 22, 23, 24, 25, 26, 27, 28, 29, 30, 31, 32, 33, 53, 54, 55, 56, 75, 76, 77, 78, 79, 80, 81, 82, 83, 84, 85, 86, 8, 87, 88, 89, 90, 91, 92, 93, 94, 95, 96, 97, 60, 98, 66, 99, 100, 101, 102, 103, 104, 105, 106, 62, 64, 63, 107, 108, 109, 110, 34, 35, 36, 37, 111, 112, 113, 114, 9, 115, 116, 117, 118, 119, 120, 121, 122, 123, 135, 136, 137, 138, 139, 140, 141, 142, 143, 144, 145, 146, 147, 148, 149, 150, 151, 152, 153] (by decide +kernel) (by decide +kernel)
set_option maxRecDepth 20000 in
theorem gL_found_X3_would : GoodIn wsL_found (wsV RL 22 RX3 yX3_would wsX3_would) := goodIn_app (goodIn_of _ (by decide +kernel)) ggL_found_X3_would
set_option maxRecDepth 20000 in
theorem ggL_found_L_size : GoodIn wsL_found wsL_size := goodIn_r _ [127] (by decide +kernel) (by decide +kernel)
set_option maxRecDepth 20000 in
theorem gL_found_L_size : GoodIn wsL_found (va_wsS RL 26 yL_size wsL_size) := goodIn_app (goodIn_of _ (by decide +kernel)) ggL_found_L_size
set_option maxRecDepth 20000 in
theorem ggL_found_X3_amps : GoodIn wsL_found wsX3_amps := goodIn_r _ [131, 71, 53, 54, 55, 5, 56, 14, 15, 42, 43, 44, 72, 73, 74, 95, 96, 97, 60, 98, 66, 99, 100, 101, 102, 103, 104, 105, 106, 62, 64, 63, 107, 108, 109, 110, 135, 136, 137, 138, 139, 140, 141, 142, 143, 144, 145, 146, 147, 148, 149, 150, 151, 152, 153] (by decide +kernel) (by decide +kernel)
set_option maxRecDepth 20000 in
theorem gL_found_X3_amps : GoodIn wsL_found (wsV RL 31 RX3 yX3_amps wsX3_amps) := goodIn_app (goodIn_of _ (by decide +kernel)) ggL_found_X3_amps
set_option maxRecDepth 20000 in
theorem ggL_found_L_cut : GoodIn wsL_found wsL_cut := goodIn_r _ [134] (by decide +kernel) (by decide +kernel)
set_option maxRecDepth 20000 in
theorem gL_found_L_cut : GoodIn wsL_found (va_wsS RL 34 yL_cut wsL_cut) := goodIn_app (goodIn_of _ (by decide +kernel)) ggL_found_L_cut
