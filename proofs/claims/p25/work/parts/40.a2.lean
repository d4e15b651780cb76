set_option maxRecDepth 20000 in
theorem ggL_pulse_X3_now : GoodIn wsL_pulse wsX3_now := goodIn_r _ [8, 9, 10, 11, 12, 13, 14, 7, 15, 16, 17, 18, 19, 20, 21, 22, 23, 24, 25, 26, 27, 28, 29, 30, 31, 32, 33, 34, 35, 36, 37, 38, 39, 233, 234, 235, 236, 237, 238, 239, 240, 241, 242, 243, 244, 245, 246, 247, 248, 249, 250, 251] (by decide +kernel) (by decide +kernel)
set_option maxRecDepth 20000 in
theorem gL_pulse_X3_now : GoodIn wsL_pulse (wsV RL 9 RX3 yX3_now wsX3_now) := goodIn_app (goodIn_of _ (by decide +kernel)) ggL_pulse_X3_now
set_option maxRecDepth 20000 in
theorem ggL_pulse_X3_many : GoodIn wsL_pulse wsX3_many := goodIn_r _ [43, 44, 45, 46, 47, 48, 7, 49, 16, 17, 50, 51, 52, 53, 54, 22, 23, 24, 25, 26, 27, 28, 29, 55, 56, 57, 58, 59, 60, 61, 233, 234, 235, 236, 237, 238, 239, 252, 253, 254, 255, 256, 240, 241, 242, 243, 244, 245, 246, 247, 248, 249, 250, 251] (by decide +kernel) (by decide +kernel)
set_option maxRecDepth 20000 in
theorem gL_pulse_X3_many : GoodIn wsL_pulse (wsV RL 37 RX3 yX3_many wsX3_many) := goodIn_app (goodIn_of _ (by decide +kernel)) ggL_pulse_X3_many
set_option maxRecDepth 20000 in
theorem ggL_pulse_X3_pulse : GoodIn wsL_pulse wsX3_pulse := goodIn_r _ [65, 9, 44, 66, 45, 67, 68, 7, 69, 70, 71, 72, 12, 13, 14, 15, 16, 17, 18, 19, 20, 21, 22, 23, 24, 25, 26, 27, 28, 29, 30, 31, 32, 33, 34, 35, 73, 74, 75, 76, 77, 78, 79, 58, 80, 60, 81, 82, 83, 84, 85, 86, 87, 88, 89, 90, 91, 92, 93, 94, 95, 96, 97, 98, 99, 100, 101, 102, 103, 10, 104, 105, 106, 107, 108, 109, 110, 111, 112, 113, 114, 115, 116, 117, 118, 119, 120, 121, 122, 123, 124, 125, 126, 127, 128, 129, 130, 131, 132, 36, 37, 38, 39, 133, 134, 135, 136, 11, 137, 138, 139, 140, 141, 142, 143, 144, 145, 146, 147, 148, 149, 150, 151, 152, 153, 154, 155, 156, 61, 157, 158, 159, 160, 161, 162, 163, 164, 165, 166, 167, 168, 169, 170, 171, 172, 173, 174, 175, 176, 177, 178, 179, 180, 181, 182, 183, 233, 234, 235, 236, 237, 238, 239, 252, 253, 254, 255, 256, 240, 241, 242, 243, 244, 245, 246, 247, 248, 249, 250, 251, 257, 258, 259] (by decide +kernel) (by decide +kernel)
set_option maxRecDepth 20000 in
theorem gL_pulse_X3_pulse : GoodIn wsL_pulse (wsV RL 40 RX3 yX3_pulse wsX3_pulse) := goodIn_app (goodIn_of _ (by decide +kernel)) ggL_pulse_X3_pulse
set_option maxRecDepth 20000 in
theorem ggL_pulse_X3_clear : GoodIn wsL_pulse wsX3_clear := goodIn_r _ [187, 44, 45, 233, 234, 235, 236, 237, 238, 239, 252, 253, 254, 255, 256] (by decide +kernel) (by decide +kernel)
set_option maxRecDepth 20000 in
theorem gL_pulse_X3_clear : GoodIn wsL_pulse (wsV RL 43 RX3 yX3_clear wsX3_clear) := goodIn_app (goodIn_of _ (by decide +kernel)) ggL_pulse_X3_clear
set_option maxRecDepth 20000 in
theorem ggL_pulse_X3_pins : GoodIn wsL_pulse wsX3_pins := goodIn_r _ [191, 22, 70, 71, 7, 72, 233, 234, 235, 236, 237, 238, 239] (by decide +kernel) (by decide +kernel)
set_option maxRecDepth 20000 in
theorem gL_pulse_X3_pins : GoodIn wsL_pulse (wsV RL 15 RX3 yX3_pins wsX3_pins) := goodIn_app (goodIn_of _ (by decide +kernel)) ggL_pulse_X3_pins
set_option maxRecDepth 20000 in
theorem ggL_pulse_X3_ofPart : GoodIn wsL_pulse wsX3_ofPart := goodIn_r _ [195, 34, 35, 196, 197, 50, 91, 73, 74, 75, 7, 76, 16, 17, 70, 71, 72, 198, 199, 200, 115, 201, 126, 128, 127, 173, 117, 240, 241, 242, 243, 244, 245, 246, 247, 248, 249, 250, 251, 233, 234, 235, 236, 237, 238, 239] (by decide +kernel) (by decide +kernel)
set_option maxRecDepth 20000 in
theorem gL_pulse_X3_ofPart : GoodIn wsL_pulse (wsV RL 18 RX3 yX3_ofPart wsX3_ofPart) := goodIn_app (goodIn_of _ (by decide +kernel)) ggL_pulse_X3_ofPart
set_option maxRecDepth 20000 in
theorem ggL_pulse_X3_would : GoodIn wsL_pulse wsX3_would := goodIn_r _ [205, 206, 67, 68, 7, 69, 70, 71, 72, 12, 13, 14, 15, 16, 17, 18, 19, 20, 21, 22, 23, 24, 25, 26, 27, 28, 29, 30, 31, 32, 33, 34, 35, 73, 74, 75, 76, 92, 93, 94, 95, 96, 97, 98, 99, 100, 101, 102, 103, 10, 104, 105, 106, 107, 108, 109, 110, 111, 112, 113, 114, 115, 116, 117, 118, 119, 120, 121, 122, 123, 124, 125, 126, 127, 128, 129, 130, 131, 132, 36, 37, 38, 39, 133, 134, 135, 136, 11, 137, 142, 143, 144, 145, 146, 147, 148, 149, 233, 234, 235, 236, 237, 238, 239, 240, 241, 242, 243, 244, 245, 246, 247, 248, 249, 250, 251] (by decide +kernel) (by decide +kernel)
set_option maxRecDepth 20000 in
theorem gL_pulse_X3_would : GoodIn wsL_pulse (wsV RL 22 RX3 yX3_would wsX3_would) := goodIn_app (goodIn_of _ (by decide +kernel)) ggL_pulse_X3_would
set_option maxRecDepth 20000 in
theorem ggL_pulse_X3_reading : GoodIn wsL_pulse wsX3_reading := goodIn_r _ [210, 44, 211, 212, 213, 206, 214, 215, 216, 217, 58, 218, 60, 233, 234, 235, 236, 237, 238, 239, 252, 253, 254, 255, 256] (by decide +kernel) (by decide +kernel)
set_option maxRecDepth 20000 in
theorem gL_pulse_X3_reading : GoodIn wsL_pulse (wsV RL 47 RX3 yX3_reading wsX3_reading) := goodIn_app (goodIn_of _ (by decide +kernel)) ggL_pulse_X3_reading
set_option maxRecDepth 20000 in
theorem ggL_pulse_L_size : GoodIn wsL_pulse wsL_size := goodIn_r _ [222] (by decide +kernel) (by decide +kernel)
set_option maxRecDepth 20000 in
theorem gL_pulse_L_size : GoodIn wsL_pulse (va_wsS RL 26 yL_size wsL_size) := goodIn_app (goodIn_of _ (by decide +kernel)) ggL_pulse_L_size
set_option maxRecDepth 20000 in
theorem ggL_pulse_L_cut : GoodIn wsL_pulse wsL_cut := goodIn_r _ [225] (by decide +kernel) (by decide +kernel)
set_option maxRecDepth 20000 in
theorem gL_pulse_L_cut : GoodIn wsL_pulse (va_wsS RL 34 yL_cut wsL_cut) := goodIn_app (goodIn_of _ (by decide +kernel)) ggL_pulse_L_cut
set_option maxRecDepth 20000 in
theorem ggL_pulse_X3_why : GoodIn wsL_pulse wsX3_why := goodIn_r _ [229, 66, 230, 231, 232, 70, 71, 7, 72, 233, 234, 235, 236, 237, 238, 239, 257, 258, 259] (by decide +kernel) (by decide +kernel)
set_option maxRecDepth 20000 in
theorem gL_pulse_X3_why : GoodIn wsL_pulse (wsV RL 54 RX3 yX3_why wsX3_why) := goodIn_app (goodIn_of _ (by decide +kernel)) ggL_pulse_X3_why
