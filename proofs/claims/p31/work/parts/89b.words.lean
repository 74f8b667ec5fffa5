set_option maxHeartbeats 4000000 in set_option maxRecDepth 100000 in
theorem in_wsL_law_r8 : ∀ w ∈ wsL_law_r8, w ∈ lw_tbl := fun w h => (goodIn_p wsL_law_r8 [276, 280, 284, 288, 292, 295] rfl (by decide +kernel) w h).1
set_option maxHeartbeats 4000000 in set_option maxRecDepth 100000 in
theorem in_wsL_law_r9 : ∀ w ∈ wsL_law_r9, w ∈ lw_tbl := fun w h => (goodIn_p wsL_law_r9 [223, 227, 230, 233] rfl (by decide +kernel) w h).1
set_option maxHeartbeats 4000000 in set_option maxRecDepth 100000 in
theorem in_wsL_law_r10 : ∀ w ∈ wsL_law_r10, w ∈ lw_tbl := fun w h => (goodIn_p wsL_law_r10 [197, 316, 361, 325, 329] rfl (by decide +kernel) w h).1
set_option maxHeartbeats 4000000 in set_option maxRecDepth 100000 in
theorem in_wsL_law_r11 : ∀ w ∈ wsL_law_r11, w ∈ lw_tbl := fun w h => (goodIn_p wsL_law_r11 [366, 371, 375] rfl (by decide +kernel) w h).1
set_option maxHeartbeats 4000000 in set_option maxRecDepth 100000 in
theorem in_wsL_law_r12 : ∀ w ∈ wsL_law_r12, w ∈ lw_tbl := fun w h => (goodIn_p wsL_law_r12 [379, 382, 386, 390, 576, 579, 582] rfl (by decide +kernel) w h).1
set_option maxHeartbeats 4000000 in set_option maxRecDepth 100000 in
theorem in_wsL_law_r13 : ∀ w ∈ wsL_law_r13, w ∈ lw_tbl := fun w h => (goodIn_p wsL_law_r13 [585, 528, 335, 532, 536, 338, 507] rfl (by decide +kernel) w h).1
set_option maxHeartbeats 4000000 in set_option maxRecDepth 100000 in
theorem in_wsL_law_r14 : ∀ w ∈ wsL_law_r14, w ∈ lw_tbl := fun w h => (goodIn_p wsL_law_r14 [510, 517, 540, 544, 547, 551] rfl (by decide +kernel) w h).1
