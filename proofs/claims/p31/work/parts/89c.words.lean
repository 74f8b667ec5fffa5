set_option maxHeartbeats 4000000 in set_option maxRecDepth 100000 in
theorem in_wsL_law_r15 : ∀ w ∈ wsL_law_r15, w ∈ lw_tbl := fun w h => (goodIn_p wsL_law_r15 [404, 408, 400, 423, 415, 412] rfl (by decide +kernel) w h).1
set_option maxHeartbeats 4000000 in set_option maxRecDepth 100000 in
theorem in_wsL_law_r16 : ∀ w ∈ wsL_law_r16, w ∈ lw_tbl := fun w h => (goodIn_p wsL_law_r16 [419, 321, 393, 396, 427, 431] rfl (by decide +kernel) w h).1
set_option maxHeartbeats 4000000 in set_option maxRecDepth 100000 in
theorem in_wsL_law_r17 : ∀ w ∈ wsL_law_r17, w ∈ lw_tbl := fun w h => (goodIn_p wsL_law_r17 [434, 438, 443, 447, 452] rfl (by decide +kernel) w h).1
set_option maxHeartbeats 4000000 in set_option maxRecDepth 100000 in
theorem in_wsL_law_r18 : ∀ w ∈ wsL_law_r18, w ∈ lw_tbl := fun w h => (goodIn_p wsL_law_r18 [456, 460, 466, 469, 472, 477] rfl (by decide +kernel) w h).1
set_option maxHeartbeats 4000000 in set_option maxRecDepth 100000 in
theorem in_wsL_law_r19 : ∀ w ∈ wsL_law_r19, w ∈ lw_tbl := fun w h => (goodIn_p wsL_law_r19 [482, 486, 491, 495, 499, 503] rfl (by decide +kernel) w h).1
set_option maxHeartbeats 4000000 in set_option maxRecDepth 100000 in
theorem in_wsL_law_r20 : ∀ w ∈ wsL_law_r20, w ∈ lw_tbl := fun w h => (goodIn_p wsL_law_r20 [342, 346, 350, 355, 358, 524] rfl (by decide +kernel) w h).1
set_option maxHeartbeats 4000000 in set_option maxRecDepth 100000 in
theorem in_wsL_law_r21 : ∀ w ∈ wsL_law_r21, w ∈ lw_tbl := fun w h => (goodIn_p wsL_law_r21 [555, 559, 563, 568] rfl (by decide +kernel) w h).1
