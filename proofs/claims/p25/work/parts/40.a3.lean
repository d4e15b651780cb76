set_option maxRecDepth 20000 in
theorem ggL_sweep_L_low : GoodIn wsL_sweep wsL_low := goodIn_r _ [4, 5] (by decide +kernel) (by decide +kernel)
set_option maxRecDepth 20000 in
theorem gL_sweep_L_low : GoodIn wsL_sweep (va_wsS RL 57 yL_low wsL_low) := goodIn_app (goodIn_of _ (by decide +kernel)) ggL_sweep_L_low
set_option maxRecDepth 20000 in
theorem ggL_sweep_X3_clear : GoodIn wsL_sweep wsX3_clear := goodIn_r _ [10, 11, 12, 242, 243, 244, 245, 246, 247, 248, 249, 250, 251, 252, 253] (by decide +kernel) (by decide +kernel)
set_option maxRecDepth 20000 in
theorem gL_sweep_X3_clear : GoodIn wsL_sweep (wsV RL 43 RX3 yX3_clear wsX3_clear) := goodIn_app (goodIn_of _ (by decide +kernel)) ggL_sweep_X3_clear
set_option maxRecDepth 20000 in
theorem ggL_sweep_L_size : GoodIn wsL_sweep wsL_size := goodIn_r _ [15] (by decide +kernel) (by decide +kernel)
set_option maxRecDepth 20000 in
theorem gL_sweep_L_size : GoodIn wsL_sweep (va_wsS RL 26 yL_size wsL_size) := goodIn_app (goodIn_of _ (by decide +kernel)) ggL_sweep_L_size
set_option maxRecDepth 20000 in
theorem ggL_sweep_X3_sweep : GoodIn wsL_sweep wsX3_sweep := goodIn_r _ [19, 20, 21, 22, 23, 24, 11, 25, 26, 27, 9, 28, 29, 30, 31, 32, 33, 34, 35, 36, 37, 38, 39, 40, 41, 42, 43, 44, 45, 46, 47, 48, 49, 50, 51, 52, 53, 54, 55, 56, 57, 58, 59, 60, 61, 62, 63, 64, 65, 66, 67, 68, 69, 70, 71, 72, 73, 74, 75, 76, 77, 78, 79, 80, 81, 82, 83, 84, 85, 86, 87, 88, 89, 90, 91, 92, 93, 94, 95, 96, 97, 98, 99, 100, 101, 102, 103, 104, 105, 106, 107, 108, 109, 110, 111, 112, 113, 114, 115, 116, 117, 118, 119, 120, 121, 122, 123, 124, 125, 126, 127, 128, 129, 130, 131, 132, 133, 134, 135, 136, 137, 138, 139, 140, 141, 142, 143, 144, 145, 146, 147, 148, 149, 150, 151, 152, 153, 154, 155, 156, 157, 158, 159, 160, 161, 162, 163, 164, 165, 166, 167, 168, 169, 170, 171, 172, 173, 174, 175, 176, 177, 178, 179, 242, 243, 244, 245, 246, 247, 248, 254, 255, 256, 257, 258, 259, 260, 261, 262, 263, 264, 265, 249, 250, 251, 252, 253, 266, 267, 268] (by decide +kernel) (by decide +kernel)
set_option maxRecDepth 20000 in
theorem gL_sweep_X3_sweep : GoodIn wsL_sweep (wsV RL 60 RX3 yX3_sweep wsX3_sweep) := goodIn_app (goodIn_of _ (by decide +kernel)) ggL_sweep_X3_sweep
set_option maxRecDepth 20000 in
theorem ggL_sweep_X3_many : GoodIn wsL_sweep wsX3_many := goodIn_r _ [183, 11, 12, 184, 185, 186, 9, 187, 36, 37, 188, 189, 190, 191, 192, 42, 43, 44, 45, 46, 47, 48, 49, 193, 194, 195, 63, 196, 65, 144, 242, 243, 244, 245, 246, 247, 248, 249, 250, 251, 252, 253, 254, 255, 256, 257, 258, 259, 260, 261, 262, 263, 264, 265] (by decide +kernel) (by decide +kernel)
set_option maxRecDepth 20000 in
theorem gL_sweep_X3_many : GoodIn wsL_sweep (wsV RL 37 RX3 yX3_many wsX3_many) := goodIn_app (goodIn_of _ (by decide +kernel)) ggL_sweep_X3_many
set_option maxRecDepth 20000 in
theorem ggL_sweep_X3_now : GoodIn wsL_sweep wsX3_now := goodIn_r _ [200, 20, 85, 123, 32, 33, 34, 9, 35, 36, 37, 38, 39, 40, 41, 42, 43, 44, 45, 46, 47, 48, 49, 50, 51, 52, 53, 54, 55, 115, 116, 117, 118, 242, 243, 244, 245, 246, 247, 248, 254, 255, 256, 257, 258, 259, 260, 261, 262, 263, 264, 265] (by decide +kernel) (by decide +kernel)
set_option maxRecDepth 20000 in
theorem gL_sweep_X3_now : GoodIn wsL_sweep (wsV RL 9 RX3 yX3_now wsX3_now) := goodIn_app (goodIn_of _ (by decide +kernel)) ggL_sweep_X3_now
set_option maxRecDepth 20000 in
theorem ggL_sweep_X3_ofPart : GoodIn wsL_sweep wsX3_ofPart := goodIn_r _ [204, 54, 55, 205, 206, 188, 76, 56, 57, 58, 9, 59, 36, 37, 29, 30, 31, 207, 208, 209, 97, 210, 108, 110, 109, 161, 99, 254, 255, 256, 257, 258, 259, 260, 261, 262, 263, 264, 265, 242, 243, 244, 245, 246, 247, 248] (by decide +kernel) (by decide +kernel)
set_option maxRecDepth 20000 in
theorem gL_sweep_X3_ofPart : GoodIn wsL_sweep (wsV RL 18 RX3 yX3_ofPart wsX3_ofPart) := goodIn_app (goodIn_of _ (by decide +kernel)) ggL_sweep_X3_ofPart
set_option maxRecDepth 20000 in
theorem ggL_sweep_X3_pulse : GoodIn wsL_sweep wsX3_pulse := goodIn_r _ [214, 20, 11, 25, 12, 26, 27, 9, 28, 29, 30, 31, 32, 33, 34, 35, 36, 37, 38, 39, 40, 41, 42, 43, 44, 45, 46, 47, 48, 49, 50, 51, 52, 53, 54, 55, 56, 57, 58, 59, 60, 61, 62, 63, 64, 65, 66, 67, 68, 69, 70, 71, 72, 73, 74, 75, 76, 77, 78, 79, 80, 21, 22, 23, 24, 81, 82, 83, 84, 85, 86, 87, 88, 89, 90, 91, 92, 93, 94, 95, 96, 97, 98, 99, 100, 101, 102, 103, 104, 105, 106, 107, 108, 109, 110, 111, 112, 113, 114, 115, 116, 117, 118, 119, 120, 121, 122, 123, 124, 125, 126, 127, 128, 129, 130, 131, 132, 133, 134, 135, 136, 137, 138, 139, 140, 141, 142, 143, 144, 145, 146, 147, 148, 149, 150, 151, 152, 153, 154, 155, 156, 157, 158, 159, 160, 161, 168, 169, 170, 171, 162, 163, 164, 165, 166, 167, 242, 243, 244, 245, 246, 247, 248, 249, 250, 251, 252, 253, 254, 255, 256, 257, 258, 259, 260, 261, 262, 263, 264, 265, 266, 267, 268] (by decide +kernel) (by decide +kernel)
set_option maxRecDepth 20000 in
theorem gL_sweep_X3_pulse : GoodIn wsL_sweep (wsV RL 40 RX3 yX3_pulse wsX3_pulse) := goodIn_app (goodIn_of _ (by decide +kernel)) ggL_sweep_X3_pulse
set_option maxRecDepth 20000 in
theorem ggL_sweep_X3_rest : GoodIn wsL_sweep wsX3_rest := goodIn_r _ [218, 36, 37, 206, 219, 220, 23, 221, 29, 30, 9, 31, 172, 173, 174, 175, 176, 177, 178, 97, 179, 100, 242, 243, 244, 245, 246, 247, 248, 254, 255, 256, 257, 258, 259, 260, 261, 262, 263, 264, 265] (by decide +kernel) (by decide +kernel)
set_option maxRecDepth 20000 in
theorem gL_sweep_X3_rest : GoodIn wsL_sweep (wsV RL 64 RX3 yX3_rest wsX3_rest) := goodIn_app (goodIn_of _ (by decide +kernel)) ggL_sweep_X3_rest
set_option maxRecDepth 20000 in
theorem ggL_sweep_X3_why : GoodIn wsL_sweep wsX3_why := goodIn_r _ [225, 25, 226, 227, 228, 29, 30, 9, 31, 242, 243, 244, 245, 246, 247, 248, 266, 267, 268] (by decide +kernel) (by decide +kernel)
set_option maxRecDepth 20000 in
theorem gL_sweep_X3_why : GoodIn wsL_sweep (wsV RL 54 RX3 yX3_why wsX3_why) := goodIn_app (goodIn_of _ (by decide +kernel)) ggL_sweep_X3_why
set_option maxRecDepth 20000 in
theorem ggL_sweep_X3_reading : GoodIn wsL_sweep wsX3_reading := goodIn_r _ [232, 11, 233, 234, 235, 236, 237, 238, 239, 240, 63, 241, 65, 242, 243, 244, 245, 246, 247, 248, 249, 250, 251, 252, 253] (by decide +kernel) (by decide +kernel)
set_option maxRecDepth 20000 in
theorem gL_sweep_X3_reading : GoodIn wsL_sweep (wsV RL 47 RX3 yX3_reading wsX3_reading) := goodIn_app (goodIn_of _ (by decide +kernel)) ggL_sweep_X3_reading
