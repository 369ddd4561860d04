set_option maxRecDepth 100000 in
theorem lt_wsL_law_r1 : ∀ w ∈ wsL_law_r1, w ∈ lw_tbl := fun w h => (goodIn_p wsL_law_r1 [68, 71] (by decide +kernel) (by decide +kernel) w h).1
set_option maxRecDepth 100000 in
theorem lt_wsL_law_r2 : ∀ w ∈ wsL_law_r2, w ∈ lw_tbl := fun w h => (goodIn_p wsL_law_r2 [] (by decide +kernel) (by decide +kernel) w h).1
set_option maxRecDepth 100000 in
theorem lt_wsL_law_r3 : ∀ w ∈ wsL_law_r3, w ∈ lw_tbl := fun w h => (goodIn_p wsL_law_r3 [76, 79, 82, 102] (by decide +kernel) (by decide +kernel) w h).1
set_option maxRecDepth 100000 in
theorem lt_wsL_law_r4 : ∀ w ∈ wsL_law_r4, w ∈ lw_tbl := fun w h => (goodIn_p wsL_law_r4 [119, 153, 174] (by decide +kernel) (by decide +kernel) w h).1
set_option maxRecDepth 100000 in
theorem lt_wsL_law_r5 : ∀ w ∈ wsL_law_r5, w ∈ lw_tbl := fun w h => (goodIn_p wsL_law_r5 [208, 224] (by decide +kernel) (by decide +kernel) w h).1
set_option maxRecDepth 100000 in
theorem lt_wsL_law_r6 : ∀ w ∈ wsL_law_r6, w ∈ lw_tbl := fun w h => (goodIn_p wsL_law_r6 [256, 298, 303] (by decide +kernel) (by decide +kernel) w h).1
set_option maxRecDepth 100000 in
theorem lt_wsL_law_r7 : ∀ w ∈ wsL_law_r7, w ∈ lw_tbl := fun w h => (goodIn_p wsL_law_r7 [306, 819] (by decide +kernel) (by decide +kernel) w h).1
set_option maxRecDepth 100000 in
theorem lt_wsL_law_r8 : ∀ w ∈ wsL_law_r8, w ∈ lw_tbl := fun w h => (goodIn_p wsL_law_r8 [375, 378] (by decide +kernel) (by decide +kernel) w h).1
set_option maxRecDepth 100000 in
theorem lt_wsL_law_r9 : ∀ w ∈ wsL_law_r9, w ∈ lw_tbl := fun w h => (goodIn_p wsL_law_r9 [381, 385, 390, 426] (by decide +kernel) (by decide +kernel) w h).1
set_option maxRecDepth 100000 in
theorem lt_wsL_law_r10 : ∀ w ∈ wsL_law_r10, w ∈ lw_tbl := fun w h => (goodIn_p wsL_law_r10 [430, 434, 438, 444, 441] (by decide +kernel) (by decide +kernel) w h).1
set_option maxRecDepth 100000 in
theorem lt_wsL_law_r11 : ∀ w ∈ wsL_law_r11, w ∈ lw_tbl := fun w h => (goodIn_p wsL_law_r11 [448, 451, 470, 476] (by decide +kernel) (by decide +kernel) w h).1
set_option maxRecDepth 100000 in
theorem lt_wsL_law_r12 : ∀ w ∈ wsL_law_r12, w ∈ lw_tbl := fun w h => (goodIn_p wsL_law_r12 [975, 978, 981, 984, 987, 990, 485] (by decide +kernel) (by decide +kernel) w h).1
set_option maxRecDepth 100000 in
theorem lt_wsL_law_r13 : ∀ w ∈ wsL_law_r13, w ∈ lw_tbl := fun w h => (goodIn_p wsL_law_r13 [489, 994, 493, 497, 998, 501] (by decide +kernel) (by decide +kernel) w h).1
set_option maxRecDepth 100000 in
theorem lt_wsL_law_r14 : ∀ w ∈ wsL_law_r14, w ∈ lw_tbl := fun w h => (goodIn_p wsL_law_r14 [505, 510, 513, 516, 520] (by decide +kernel) (by decide +kernel) w h).1
set_option maxRecDepth 100000 in
theorem lt_wsL_law_r15 : ∀ w ∈ wsL_law_r15, w ∈ lw_tbl := fun w h => (goodIn_p wsL_law_r15 [523, 539, 543, 547, 553] (by decide +kernel) (by decide +kernel) w h).1
set_option maxRecDepth 100000 in
theorem lt_wsL_law_r16 : ∀ w ∈ wsL_law_r16, w ∈ lw_tbl := fun w h => (goodIn_p wsL_law_r16 [557, 560, 563, 568, 571, 574, 577] (by decide +kernel) (by decide +kernel) w h).1
set_option maxRecDepth 100000 in
theorem lt_wsL_law_r17 : ∀ w ∈ wsL_law_r17, w ∈ lw_tbl := fun w h => (goodIn_p wsL_law_r17 [581, 590, 594, 598, 602] (by decide +kernel) (by decide +kernel) w h).1
set_option maxRecDepth 100000 in
theorem lt_wsL_law_r18 : ∀ w ∈ wsL_law_r18, w ∈ lw_tbl := fun w h => (goodIn_p wsL_law_r18 [606, 610, 613, 616, 1002] (by decide +kernel) (by decide +kernel) w h).1
set_option maxRecDepth 100000 in
theorem lt_wsL_law_r19 : ∀ w ∈ wsL_law_r19, w ∈ lw_tbl := fun w h => (goodIn_p wsL_law_r19 [1006, 1010, 1013, 1016] (by decide +kernel) (by decide +kernel) w h).1
set_option maxRecDepth 100000 in
theorem lt_wsL_law_r20 : ∀ w ∈ wsL_law_r20, w ∈ lw_tbl := fun w h => (goodIn_p wsL_law_r20 [1030, 1034, 1038, 1042] (by decide +kernel) (by decide +kernel) w h).1
set_option maxRecDepth 100000 in
theorem lt_wsL_law_r21 : ∀ w ∈ wsL_law_r21, w ∈ lw_tbl := fun w h => (goodIn_p wsL_law_r21 [1046, 1050, 620, 1054, 624] (by decide +kernel) (by decide +kernel) w h).1
set_option maxRecDepth 100000 in
theorem lt_wsL_law_r22 : ∀ w ∈ wsL_law_r22, w ∈ lw_tbl := fun w h => (goodIn_p wsL_law_r22 [628, 1058, 632, 636] (by decide +kernel) (by decide +kernel) w h).1
set_option maxRecDepth 100000 in
theorem lt_wsL_law_r23 : ∀ w ∈ wsL_law_r23, w ∈ lw_tbl := fun w h => (goodIn_p wsL_law_r23 [639, 644, 648, 654, 658] (by decide +kernel) (by decide +kernel) w h).1
