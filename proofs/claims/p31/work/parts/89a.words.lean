set_option maxHeartbeats 4000000 in set_option maxRecDepth 100000 in
theorem in_wsL_law_r1 : ∀ w ∈ wsL_law_r1, w ∈ lw_tbl := fun w h => (goodIn_p wsL_law_r1 [18, 21] rfl (by decide +kernel) w h).1
set_option maxHeartbeats 4000000 in set_option maxRecDepth 100000 in
theorem in_wsL_law_r2 : ∀ w ∈ wsL_law_r2, w ∈ lw_tbl := fun w h => (goodIn_p wsL_law_r2 [26] rfl (by decide +kernel) w h).1
set_option maxHeartbeats 4000000 in set_option maxRecDepth 100000 in
theorem in_wsL_law_r3 : ∀ w ∈ wsL_law_r3, w ∈ lw_tbl := fun w h => (goodIn_p wsL_law_r3 [33, 38, 107] rfl (by decide +kernel) w h).1
set_option maxHeartbeats 4000000 in set_option maxRecDepth 100000 in
theorem in_wsL_law_r4 : ∀ w ∈ wsL_law_r4, w ∈ lw_tbl := fun w h => (goodIn_p wsL_law_r4 [123, 154, 302, 209] rfl (by decide +kernel) w h).1
set_option maxHeartbeats 4000000 in set_option maxRecDepth 100000 in
theorem in_wsL_law_r5 : ∀ w ∈ wsL_law_r5, w ∈ lw_tbl := fun w h => (goodIn_p wsL_law_r5 [216, 313, 309, 205, 306] rfl (by decide +kernel) w h).1
set_option maxHeartbeats 4000000 in set_option maxRecDepth 100000 in
theorem in_wsL_law_r6 : ∀ w ∈ wsL_law_r6, w ∈ lw_tbl := fun w h => (goodIn_p wsL_law_r6 [241, 201, 245, 249, 253] rfl (by decide +kernel) w h).1
set_option maxHeartbeats 4000000 in set_option maxRecDepth 100000 in
theorem in_wsL_law_r7 : ∀ w ∈ wsL_law_r7, w ∈ lw_tbl := fun w h => (goodIn_p wsL_law_r7 [236, 257, 261, 265, 268, 272] rfl (by decide +kernel) w h).1
