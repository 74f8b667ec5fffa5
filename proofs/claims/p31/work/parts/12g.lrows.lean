set_option maxRecDepth 20000 in
theorem ggL_law_X7_deafest : GoodIn wsL_law wsX7_deafest := goodIn_r _ [121, 14, 122, 27, 123, 124, 125, 13, 126, 45, 47, 127, 128, 129, 26, 130, 131, 132, 133, 134, 135, 78, 74, 77, 75, 136, 137, 138, 31, 139, 140, 141, 142, 143, 53, 144, 145, 146, 147, 148, 149, 150, 151, 152, 153, 154, 155, 63, 156, 157, 158, 159, 52, 160, 161, 162, 163, 164, 165, 166, 167, 76, 168, 169, 170, 171, 172, 173, 174, 175, 176, 177, 178, 179, 180, 181, 182, 183, 184, 185, 186, 187, 188, 189, 190, 191, 192, 193, 194, 502, 503, 504, 505, 506, 507, 508, 509, 510, 511, 512, 513, 514, 515, 516, 517, 520, 521, 522, 523, 524, 525, 526, 527, 528, 529, 530, 531, 532, 533, 534] (by decide +kernel) (by decide +kernel)
set_option maxRecDepth 20000 in
theorem gL_law_X7_deafest : GoodIn wsL_law (wsV RL 56 RX7 yX7_deafest wsX7_deafest) := goodIn_app (goodIn_of _ (by decide +kernel)) ggL_law_X7_deafest
set_option maxRecDepth 20000 in
theorem ggL_law_X7_count : GoodIn wsL_law wsX7_count := goodIn_r _ [198, 14, 106, 122, 199, 200, 23, 201, 16, 202, 203, 204, 13, 205, 43, 44, 206, 207, 146, 208, 209, 210, 211, 212, 145, 147, 148, 502, 503, 504, 505, 506, 507, 508, 509, 510, 511, 512, 513, 514, 515, 516, 517, 518, 519] (by decide +kernel) (by decide +kernel)
set_option maxRecDepth 20000 in
theorem gL_law_X7_count : GoodIn wsL_law (wsV RL 33 RX7 yX7_count wsX7_count) := goodIn_app (goodIn_of _ (by decide +kernel)) ggL_law_X7_count
set_option maxRecDepth 20000 in
theorem ggL_law_X7_ear : GoodIn wsL_law wsX7_ear := goodIn_r _ [216, 14, 122, 217, 123, 124, 125, 13, 126, 45, 47, 110, 111, 112, 2, 113, 16, 15, 89, 90, 91, 92, 41, 42, 43, 44, 93, 94, 95, 96, 97, 98, 99, 31, 100, 52, 101, 53, 63, 64, 54, 55, 56, 57, 218, 59, 60, 61, 62, 219, 502, 503, 504, 505, 506, 507, 508, 509, 510, 511, 512, 513, 514, 515, 516, 517, 527, 528, 529, 530, 531, 532, 533, 534] (by decide +kernel) (by decide +kernel)
set_option maxRecDepth 20000 in
theorem gL_law_X7_ear : GoodIn wsL_law (wsV RL 65 RX7 yX7_ear wsX7_ear) := goodIn_app (goodIn_of _ (by decide +kernel)) ggL_law_X7_ear
set_option maxRecDepth 20000 in
theorem ggL_law_L_cell : GoodIn wsL_law wsL_cell := goodIn_r _ [223, 224, 225] (by decide +kernel) (by decide +kernel)
set_option maxRecDepth 20000 in
theorem gL_law_L_cell : GoodIn wsL_law (va_wsS RL 156 yL_cell wsL_cell) := goodIn_app (goodIn_of _ (by decide +kernel)) ggL_law_L_cell
