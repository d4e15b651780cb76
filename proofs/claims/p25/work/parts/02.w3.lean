set_option maxRecDepth 20000 in
theorem in_wsL_law_r15 : ∀ w ∈ wsL_law_r15, w ∈ lw_tbl := fun w h => (goodIn_r (big := lw_tbl) wsL_law_r15 [365, 366, 367, 411, 412, 413, 414, 415, 417, 17, 418, 419, 421, 18, 422, 423, 424, 425, 426, 448, 449, 450, 451, 43] (by decide +kernel) (by decide +kernel) w h).1
def wsL_law_r16_0 : List Cond := [Cond.fieldLink RX3 166 "PartCurves$Readings" "told" "[I", Cond.fieldLink RX3 169 "PartCurves$Readings" "flowed" "[I", Cond.fieldLink RX3 172 "PartCurves$Readings" "rules" "[I", Cond.methodLink RL 114 yL_fits, Cond.static yL_fits, Cond.code yL_fits cL_fits 25 (some .boolean)]
set_option maxRecDepth 20000 in
theorem in_wsL_law_r16_0 : ∀ w ∈ wsL_law_r16_0, w ∈ lw_tbl := fun w h => (goodIn_r (big := lw_tbl) wsL_law_r16_0 [45, 47, 49, 460, 461, 462] (by decide +kernel) (by decide +kernel) w h).1
def wsL_law_r16_1 : List Cond := [Cond.constant RL 25 (50000), Cond.methodLink RL 81 yL_part, Cond.static yL_part, Cond.code yL_part cL_part 10 (some .long)]
set_option maxRecDepth 20000 in
theorem in_wsL_law_r16_1 : ∀ w ∈ wsL_law_r16_1, w ∈ lw_tbl := fun w h => (goodIn_r (big := lw_tbl) wsL_law_r16_1 [438, 464, 465, 466] (by decide +kernel) (by decide +kernel) w h).1
def wsL_law_r16_2 : List Cond := [Cond.methodLink RL 118 yL_found, Cond.static yL_found, Cond.code yL_found cL_found 12 (some .boolean)]
set_option maxRecDepth 20000 in
theorem in_wsL_law_r16_2 : ∀ w ∈ wsL_law_r16_2, w ∈ lw_tbl := fun w h => (goodIn_r (big := lw_tbl) wsL_law_r16_2 [435, 436, 437] (by decide +kernel) (by decide +kernel) w h).1
def wsL_law_r16_3 : List Cond := [Cond.methodLink RL 31 yX3_amps, Cond.instanceMethod yX3_amps, Cond.selects RX3 yX3_amps yX3_amps, Cond.code yX3_amps cX3_amps 4 (some .int), Cond.methodLink RL 34 yL_cut, Cond.static yL_cut, Cond.code yL_cut cL_cut 3 (some .int)]
set_option maxRecDepth 20000 in
theorem in_wsL_law_r16_3 : ∀ w ∈ wsL_law_r16_3, w ∈ lw_tbl := fun w h => (goodIn_r (big := lw_tbl) wsL_law_r16_3 [246, 247, 248, 249, 442, 443, 444] (by decide +kernel) (by decide +kernel) w h).1
def wsL_law_r16_4 : List Cond := [Cond.methodLink RL 122 yL_pulse, Cond.static yL_pulse, Cond.code yL_pulse cL_pulse 20 (some .boolean)]
set_option maxRecDepth 20000 in
theorem in_wsL_law_r16_4 : ∀ w ∈ wsL_law_r16_4, w ∈ lw_tbl := fun w h => (goodIn_r (big := lw_tbl) wsL_law_r16_4 [445, 446, 447] (by decide +kernel) (by decide +kernel) w h).1
def wsL_law_r16_5 : List Cond := [Cond.constantLong RL 50 (500000)]
set_option maxRecDepth 20000 in
theorem in_wsL_law_r16_5 : ∀ w ∈ wsL_law_r16_5, w ∈ lw_tbl := fun w h => (goodIn_r (big := lw_tbl) wsL_law_r16_5 [452] (by decide +kernel) (by decide +kernel) w h).1
theorem in_wsL_law_r16 : ∀ w ∈ wsL_law_r16, w ∈ lw_tbl := by
  show ∀ w ∈ wsL_law_r16_0 ++ (wsL_law_r16_1 ++ (wsL_law_r16_2 ++ (wsL_law_r16_3 ++ (wsL_law_r16_4 ++ (wsL_law_r16_5))))), w ∈ lw_tbl
  exact List.forall_mem_append.mpr ⟨in_wsL_law_r16_0, List.forall_mem_append.mpr ⟨in_wsL_law_r16_1, List.forall_mem_append.mpr ⟨in_wsL_law_r16_2, List.forall_mem_append.mpr ⟨in_wsL_law_r16_3, List.forall_mem_append.mpr ⟨in_wsL_law_r16_4, in_wsL_law_r16_5⟩⟩⟩⟩⟩
set_option maxRecDepth 20000 in
theorem in_wsL_law_r17 : ∀ w ∈ wsL_law_r17, w ∈ lw_tbl := fun w h => (goodIn_r (big := lw_tbl) wsL_law_r17 [453] (by decide +kernel) (by decide +kernel) w h).1
set_option maxRecDepth 20000 in
theorem in_wsX30 : ∀ w ∈ wsX30, w ∈ lw_tbl := fun w h => (goodIn_r (big := lw_tbl) wsX30 [139, 141, 143, 145, 147, 149, 151] (by decide +kernel) (by decide +kernel) w h).1
set_option maxRecDepth 20000 in
theorem in_wsX20 : ∀ w ∈ wsX20, w ∈ lw_tbl := fun w h => (goodIn_r (big := lw_tbl) wsX20 [52, 54, 56, 58, 60] (by decide +kernel) (by decide +kernel) w h).1
set_option maxRecDepth 20000 in
theorem in_wsX00 : ∀ w ∈ wsX00, w ∈ lw_tbl := fun w h => (goodIn_r (big := lw_tbl) wsX00 [76, 78, 80] (by decide +kernel) (by decide +kernel) w h).1
set_option maxRecDepth 20000 in
theorem in_wsX10 : ∀ w ∈ wsX10, w ∈ lw_tbl := fun w h => (goodIn_r (big := lw_tbl) wsX10 [107, 109, 111, 113, 115, 117, 119, 121, 123, 125, 127, 129] (by decide +kernel) (by decide +kernel) w h).1
