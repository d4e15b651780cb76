set_option maxRecDepth 20000 in
theorem ggL_law_X3_init : GoodIn wsL_law wsX3_init := goodIn_r _ [6, 7, 8, 9, 10, 11, 12, 13, 14, 15, 16, 17, 18, 19, 20, 21, 22, 23, 24, 25, 26, 27, 28, 29, 30, 31, 32, 33, 34, 35, 36, 37, 38, 39, 40, 41, 42, 43, 385, 386, 387, 388, 389, 390, 391, 392, 393, 394, 395, 396, 397, 398, 399, 400, 401, 402, 403, 404, 405, 406, 407, 408, 409, 410, 411] (by decide +kernel) (by decide +kernel)
set_option maxRecDepth 20000 in
theorem gL_law_X3_init : GoodIn wsL_law (wsX3_init) := ggL_law_X3_init
set_option maxRecDepth 20000 in
theorem ggL_law_X3_now : GoodIn wsL_law wsX3_now := goodIn_r _ [47, 22, 23, 24, 48, 49, 50, 2, 51, 11, 52, 53, 54, 55, 56, 13, 57, 58, 59, 60, 61, 62, 63, 64, 65, 66, 67, 68, 69, 70, 71, 72, 73, 385, 386, 387, 388, 389, 390, 391, 400, 401, 402, 403, 404, 405, 406, 407, 408, 409, 410, 411] (by decide +kernel) (by decide +kernel)
set_option maxRecDepth 20000 in
theorem gL_law_X3_now : GoodIn wsL_law (wsV RL 9 RX3 yX3_now wsX3_now) := goodIn_app (goodIn_of _ (by decide +kernel)) ggL_law_X3_now
set_option maxRecDepth 20000 in
theorem ggL_law_X3_power : GoodIn wsL_law wsX3_power := goodIn_r _ [77, 22, 78, 79, 2, 80, 48, 49, 50, 51, 11, 52, 53, 54, 55, 56, 13, 57, 58, 59, 60, 61, 62, 63, 64, 65, 66, 67, 68, 69, 385, 386, 387, 388, 389, 390, 391, 400, 401, 402, 403, 404, 405, 406, 407, 408, 409, 410, 411] (by decide +kernel) (by decide +kernel)
set_option maxRecDepth 20000 in
theorem gL_law_X3_power : GoodIn wsL_law (wsV RL 85 RX3 yX3_power wsX3_power) := goodIn_app (goodIn_of _ (by decide +kernel)) ggL_law_X3_power
set_option maxRecDepth 20000 in
theorem ggL_law_X3_would : GoodIn wsL_law wsX3_would := goodIn_r _ [84, 85, 86, 87, 2, 88, 78, 79, 80, 48, 49, 50, 51, 11, 52, 53, 54, 55, 56, 13, 57, 58, 59, 60, 61, 62, 63, 64, 65, 66, 67, 68, 69, 89, 90, 91, 92, 93, 94, 95, 96, 97, 98, 99, 100, 101, 102, 103, 104, 23, 105, 106, 107, 108, 109, 110, 111, 112, 113, 114, 115, 26, 116, 117, 118, 119, 120, 121, 122, 123, 124, 125, 126, 127, 128, 129, 130, 131, 132, 70, 71, 72, 73, 133, 134, 135, 136, 24, 137, 138, 139, 140, 141, 142, 143, 144, 145, 385, 386, 387, 388, 389, 390, 391, 400, 401, 402, 403, 404, 405, 406, 407, 408, 409, 410, 411] (by decide +kernel) (by decide +kernel)
set_option maxRecDepth 20000 in
theorem gL_law_X3_would : GoodIn wsL_law (wsV RL 22 RX3 yX3_would wsX3_would) := goodIn_app (goodIn_of _ (by decide +kernel)) ggL_law_X3_would
set_option maxRecDepth 20000 in
theorem ggL_law_X3_pulse : GoodIn wsL_law wsX3_pulse := goodIn_r _ [149, 22, 17, 21, 150, 86, 87, 2, 88, 78, 79, 80, 48, 49, 50, 51, 11, 52, 53, 54, 55, 56, 13, 57, 58, 59, 60, 61, 62, 63, 64, 65, 66, 67, 68, 69, 89, 90, 91, 92, 151, 152, 153, 16, 154, 34, 155, 156, 157, 20, 158, 40, 159, 160, 161, 162, 163, 93, 94, 95, 96, 97, 98, 99, 100, 101, 102, 103, 104, 23, 105, 106, 107, 108, 109, 110, 111, 112, 113, 114, 115, 26, 116, 117, 118, 119, 120, 121, 122, 123, 124, 125, 126, 127, 128, 129, 130, 131, 132, 70, 71, 72, 73, 133, 134, 135, 136, 24, 137, 164, 165, 166, 167, 138, 139, 140, 141, 142, 143, 144, 145, 168, 169, 170, 171, 30, 31, 32, 33, 172, 173, 174, 175, 176, 177, 178, 179, 180, 181, 182, 183, 184, 185, 186, 187, 188, 189, 190, 191, 192, 193, 194, 195, 196, 38, 39, 385, 386, 387, 388, 389, 390, 391, 392, 393, 394, 395, 396, 400, 401, 402, 403, 404, 405, 406, 407, 408, 409, 410, 411, 397, 398, 399] (by decide +kernel) (by decide +kernel)
set_option maxRecDepth 20000 in
theorem gL_law_X3_pulse : GoodIn wsL_law (wsV RL 40 RX3 yX3_pulse wsX3_pulse) := goodIn_app (goodIn_of _ (by decide +kernel)) ggL_law_X3_pulse
set_option maxRecDepth 20000 in
theorem ggL_law_X3_rest : GoodIn wsL_law wsX3_rest := goodIn_r _ [200, 11, 52, 201, 202, 203, 99, 204, 78, 79, 2, 80, 205, 206, 207, 208, 209, 210, 211, 26, 212, 118, 385, 386, 387, 388, 389, 390, 391, 400, 401, 402, 403, 404, 405, 406, 407, 408, 409, 410, 411] (by decide +kernel) (by decide +kernel)
set_option maxRecDepth 20000 in
theorem gL_law_X3_rest : GoodIn wsL_law (wsV RL 64 RX3 yX3_rest wsX3_rest) := goodIn_app (goodIn_of _ (by decide +kernel)) ggL_law_X3_rest
set_option maxRecDepth 20000 in
theorem ggL_law_X3_why : GoodIn wsL_law wsX3_why := goodIn_r _ [216, 21, 217, 218, 219, 78, 79, 2, 80, 385, 386, 387, 388, 389, 390, 391, 397, 398, 399] (by decide +kernel) (by decide +kernel)
set_option maxRecDepth 20000 in
theorem gL_law_X3_why : GoodIn wsL_law (wsV RL 54 RX3 yX3_why wsX3_why) := goodIn_app (goodIn_of _ (by decide +kernel)) ggL_law_X3_why
set_option maxRecDepth 20000 in
theorem ggL_law_X3_knee : GoodIn wsL_law wsX3_knee := goodIn_r _ [223, 17, 224, 225, 226, 16, 227, 34, 228, 229, 230, 231, 31, 32, 232, 178, 99, 179, 385, 386, 387, 388, 389, 390, 391, 392, 393, 394, 395, 396] (by decide +kernel) (by decide +kernel)
set_option maxRecDepth 20000 in
theorem gL_law_X3_knee : GoodIn wsL_law (wsV RL 88 RX3 yX3_knee wsX3_knee) := goodIn_app (goodIn_of _ (by decide +kernel)) ggL_law_X3_knee
set_option maxRecDepth 20000 in
theorem ggL_law_X3_fit : GoodIn wsL_law wsX3_fit := goodIn_r _ [236, 17, 237, 224, 225, 226, 16, 227, 34, 78, 79, 2, 80, 238, 239, 240, 241, 31, 32, 242, 243, 244, 245, 246, 247, 248, 249, 250, 251, 232, 178, 99, 179, 252, 253, 254, 385, 386, 387, 388, 389, 390, 391, 392, 393, 394, 395, 396] (by decide +kernel) (by decide +kernel)
set_option maxRecDepth 20000 in
theorem gL_law_X3_fit : GoodIn wsL_law (wsV RL 75 RX3 yX3_fit wsX3_fit) := goodIn_app (goodIn_of _ (by decide +kernel)) ggL_law_X3_fit
set_option maxRecDepth 20000 in
theorem ggL_law_X3_clear : GoodIn wsL_law wsX3_clear := goodIn_r _ [258, 17, 150, 385, 386, 387, 388, 389, 390, 391, 392, 393, 394, 395, 396] (by decide +kernel) (by decide +kernel)
set_option maxRecDepth 20000 in
theorem gL_law_X3_clear : GoodIn wsL_law (wsV RL 43 RX3 yX3_clear wsX3_clear) := goodIn_app (goodIn_of _ (by decide +kernel)) ggL_law_X3_clear
set_option maxRecDepth 20000 in
theorem ggL_law_X3_ofPart : GoodIn wsL_law wsX3_ofPart := goodIn_r _ [302, 68, 69, 303, 201, 304, 163, 89, 90, 91, 2, 92, 11, 52, 78, 79, 80, 291, 292, 293, 26, 294, 126, 128, 127, 188, 117, 400, 401, 402, 403, 404, 405, 406, 407, 408, 409, 410, 411, 385, 386, 387, 388, 389, 390, 391] (by decide +kernel) (by decide +kernel)
set_option maxRecDepth 20000 in
theorem gL_law_X3_ofPart : GoodIn wsL_law (wsV RL 18 RX3 yX3_ofPart wsX3_ofPart) := goodIn_app (goodIn_of _ (by decide +kernel)) ggL_law_X3_ofPart
set_option maxRecDepth 20000 in
theorem ggL_law_X3_pins : GoodIn wsL_law wsX3_pins := goodIn_r _ [308, 13, 78, 79, 2, 80, 385, 386, 387, 388, 389, 390, 391] (by decide +kernel) (by decide +kernel)
set_option maxRecDepth 20000 in
theorem gL_law_X3_pins : GoodIn wsL_law (wsV RL 15 RX3 yX3_pins wsX3_pins) := goodIn_app (goodIn_of _ (by decide +kernel)) ggL_law_X3_pins
set_option maxRecDepth 20000 in
theorem ggL_law_X3_relay : GoodIn wsL_law wsX3_relay := goodIn_r _ [312, 22, 13, 78, 79, 2, 80, 313, 314, 315, 316, 385, 386, 387, 388, 389, 390, 391] (by decide +kernel) (by decide +kernel)
set_option maxRecDepth 20000 in
theorem gL_law_X3_relay : GoodIn wsL_law (wsV RL 99 RX3 yX3_relay wsX3_relay) := goodIn_app (goodIn_of _ (by decide +kernel)) ggL_law_X3_relay
set_option maxRecDepth 20000 in
theorem ggL_law_X3_limit : GoodIn wsL_law wsX3_limit := goodIn_r _ [320, 23, 78, 79, 2, 80, 385, 386, 387, 388, 389, 390, 391] (by decide +kernel) (by decide +kernel)
set_option maxRecDepth 20000 in
theorem gL_law_X3_limit : GoodIn wsL_law (wsV RL 102 RX3 yX3_limit wsX3_limit) := goodIn_app (goodIn_of _ (by decide +kernel)) ggL_law_X3_limit
set_option maxRecDepth 20000 in
theorem ggL_law_X3_leads : GoodIn wsL_law wsX3_leads := goodIn_r _ [324, 24, 78, 79, 2, 80, 385, 386, 387, 388, 389, 390, 391] (by decide +kernel) (by decide +kernel)
set_option maxRecDepth 20000 in
theorem gL_law_X3_leads : GoodIn wsL_law (wsV RL 105 RX3 yX3_leads wsX3_leads) := goodIn_app (goodIn_of _ (by decide +kernel)) ggL_law_X3_leads
set_option maxRecDepth 20000 in
theorem ggL_law_X3_part : GoodIn wsL_law wsX3_part := goodIn_r _ [274, 22, 11, 52, 78, 79, 2, 80, 275, 276, 277, 26, 278, 279, 119, 125, 280, 281, 124, 118, 126, 128, 127, 188, 117, 385, 386, 387, 388, 389, 390, 391, 400, 401, 402, 403, 404, 405, 406, 407, 408, 409, 410, 411] (by decide +kernel) (by decide +kernel)
set_option maxRecDepth 20000 in
theorem gL_law_X3_part : GoodIn wsL_law (wsV RL 67 RX3 yX3_part wsX3_part) := goodIn_app (goodIn_of _ (by decide +kernel)) ggL_law_X3_part
set_option maxRecDepth 20000 in
theorem ggL_law_X3_remove : GoodIn wsL_law wsX3_remove := goodIn_r _ [328, 22, 52, 89, 90, 91, 2, 92, 11, 78, 79, 80, 385, 386, 387, 388, 389, 390, 391, 400, 401, 402, 403, 404, 405, 406, 407, 408, 409, 410, 411] (by decide +kernel) (by decide +kernel)
set_option maxRecDepth 20000 in
theorem gL_law_X3_remove : GoodIn wsL_law (wsV RL 108 RX3 yX3_remove wsX3_remove) := goodIn_app (goodIn_of _ (by decide +kernel)) ggL_law_X3_remove
set_option maxRecDepth 20000 in
theorem ggL_law_X3_many : GoodIn wsL_law wsX3_many := goodIn_r _ [342, 17, 150, 343, 344, 345, 2, 346, 11, 52, 304, 347, 348, 349, 350, 13, 57, 58, 59, 60, 61, 62, 63, 351, 352, 353, 16, 354, 34, 33, 385, 386, 387, 388, 389, 390, 391, 392, 393, 394, 395, 396, 400, 401, 402, 403, 404, 405, 406, 407, 408, 409, 410, 411] (by decide +kernel) (by decide +kernel)
set_option maxRecDepth 20000 in
theorem gL_law_X3_many : GoodIn wsL_law (wsV RL 37 RX3 yX3_many wsX3_many) := goodIn_app (goodIn_of _ (by decide +kernel)) ggL_law_X3_many
set_option maxRecDepth 20000 in
theorem ggL_law_X3_set : GoodIn wsL_law wsX3_set := goodIn_r _ [285, 89, 90, 91, 2, 92, 11, 52, 78, 79, 80, 286, 287, 26, 288, 289, 290, 291, 292, 293, 294, 126, 128, 127, 188, 117, 295, 296, 297, 298, 385, 386, 387, 388, 389, 390, 391, 400, 401, 402, 403, 404, 405, 406, 407, 408, 409, 410, 411] (by decide +kernel) (by decide +kernel)
set_option maxRecDepth 20000 in
theorem gL_law_X3_set : GoodIn wsL_law (wsV RL 71 RX3 yX3_set wsX3_set) := goodIn_app (goodIn_of _ (by decide +kernel)) ggL_law_X3_set
set_option maxRecDepth 20000 in
theorem ggL_law_X3_sweep : GoodIn wsL_law wsX3_sweep := goodIn_r _ [338, 22, 97, 98, 99, 100, 17, 21, 86, 87, 2, 88, 78, 79, 80, 48, 49, 50, 51, 11, 52, 53, 54, 55, 56, 13, 57, 58, 59, 60, 61, 62, 63, 64, 65, 66, 67, 68, 69, 89, 90, 91, 92, 151, 152, 153, 16, 154, 34, 155, 156, 157, 20, 158, 40, 159, 160, 161, 162, 163, 93, 94, 95, 96, 101, 102, 103, 104, 23, 105, 106, 107, 108, 109, 110, 111, 112, 113, 114, 115, 26, 116, 117, 118, 119, 120, 121, 122, 123, 124, 125, 126, 127, 128, 129, 130, 131, 132, 70, 71, 72, 73, 133, 134, 135, 136, 24, 137, 164, 165, 166, 167, 138, 139, 140, 141, 142, 143, 144, 145, 168, 169, 170, 171, 30, 31, 32, 33, 172, 173, 174, 175, 176, 177, 178, 179, 180, 181, 182, 183, 184, 185, 186, 187, 188, 193, 194, 195, 196, 38, 39, 189, 190, 191, 192, 205, 206, 207, 208, 209, 210, 211, 212, 385, 386, 387, 388, 389, 390, 391, 400, 401, 402, 403, 404, 405, 406, 407, 408, 409, 410, 411, 392, 393, 394, 395, 396, 397, 398, 399] (by decide +kernel) (by decide +kernel)
set_option maxRecDepth 20000 in
theorem gL_law_X3_sweep : GoodIn wsL_law (wsV RL 60 RX3 yX3_sweep wsX3_sweep) := goodIn_app (goodIn_of _ (by decide +kernel)) ggL_law_X3_sweep
set_option maxRecDepth 20000 in
theorem ggL_law_X3_amps : GoodIn wsL_law wsX3_amps := goodIn_r _ [376, 85, 89, 90, 91, 2, 92, 11, 52, 78, 79, 80, 86, 87, 88, 113, 114, 115, 26, 116, 117, 118, 119, 120, 121, 122, 123, 124, 125, 126, 127, 128, 129, 130, 131, 132, 385, 386, 387, 388, 389, 390, 391, 400, 401, 402, 403, 404, 405, 406, 407, 408, 409, 410, 411] (by decide +kernel) (by decide +kernel)
set_option maxRecDepth 20000 in
theorem gL_law_X3_amps : GoodIn wsL_law (wsV RL 31 RX3 yX3_amps wsX3_amps) := goodIn_app (goodIn_of _ (by decide +kernel)) ggL_law_X3_amps
