set_option maxRecDepth 20000 in
theorem in_wsL_law_r1 : ∀ w ∈ wsL_law_r1, w ∈ lw_tbl := fun w h => (goodIn_r (big := lw_tbl) wsL_law_r1 [26, 27, 20, 463, 28, 29, 30, 31, 32, 33, 34, 132, 63, 133, 36, 37, 21, 134, 64, 65, 22, 135, 136, 137] (by decide +kernel) (by decide +kernel) w h).1
set_option maxRecDepth 20000 in
theorem in_wsL_law_r2 : ∀ w ∈ wsL_law_r2, w ∈ lw_tbl := fun w h => (goodIn_r (big := lw_tbl) wsL_law_r2 [138, 83, 23, 39, 40, 41, 42, 44, 46, 48, 50, 67, 68, 69, 70, 72, 74, 85, 86, 87, 238, 239, 240, 241] (by decide +kernel) (by decide +kernel) w h).1
set_option maxRecDepth 20000 in
theorem in_wsL_law_r3 : ∀ w ∈ wsL_law_r3, w ∈ lw_tbl := fun w h => (goodIn_r (big := lw_tbl) wsL_law_r3 [212, 214, 2, 215, 88, 216, 218, 3, 219, 220, 221, 24, 222, 223, 224, 225, 226, 228, 4, 229, 95, 97, 242, 244] (by decide +kernel) (by decide +kernel) w h).1
set_option maxRecDepth 20000 in
theorem in_wsL_law_r4 : ∀ w ∈ wsL_law_r4, w ∈ lw_tbl := fun w h => (goodIn_r (big := lw_tbl) wsL_law_r4 [5, 245, 208, 209, 210, 211, 158, 159, 160, 265, 266, 267, 268, 264, 250, 251, 252, 169, 171, 0, 172, 269, 271, 7] (by decide +kernel) (by decide +kernel) w h).1
set_option maxRecDepth 20000 in
theorem in_wsL_law_r5 : ∀ w ∈ wsL_law_r5, w ∈ lw_tbl := fun w h => (goodIn_r (big := lw_tbl) wsL_law_r5 [272, 273, 274, 25, 275, 276, 278, 8, 279, 280, 282, 9, 283, 284, 286, 10, 287, 253, 254, 255, 256, 106, 100, 90] (by decide +kernel) (by decide +kernel) w h).1
set_option maxRecDepth 20000 in
theorem in_wsL_law_r6 : ∀ w ∈ wsL_law_r6, w ∈ lw_tbl := fun w h => (goodIn_r (big := lw_tbl) wsL_law_r6 [257, 259, 6, 260, 98, 92, 102, 104, 103, 261, 262, 25, 263, 288, 290, 11, 291, 292, 293, 295, 12, 296, 297, 299] (by decide +kernel) (by decide +kernel) w h).1
set_option maxRecDepth 20000 in
theorem in_wsL_law_r7 : ∀ w ∈ wsL_law_r7, w ∈ lw_tbl := fun w h => (goodIn_r (big := lw_tbl) wsL_law_r7 [13, 300, 301, 302, 303, 304, 51, 305, 306, 307, 308, 309, 310, 311, 312, 313, 315, 14, 316, 93, 317, 318, 319, 320] (by decide +kernel) (by decide +kernel) w h).1
