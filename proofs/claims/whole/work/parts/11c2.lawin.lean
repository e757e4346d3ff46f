set_option maxRecDepth 20000 in
theorem wl_r11 : ∀ w ∈ wsL_law_r11, w ∈ lw_tbl := fun w h => (goodIn_p wsL_law_r11 [259, 263, 553, 557, 561, 565] (by decide +kernel) (by decide +kernel) w h).1
set_option maxRecDepth 20000 in
theorem wl_r12 : ∀ w ∈ wsL_law_r12, w ∈ lw_tbl := fun w h => (goodIn_p wsL_law_r12 [568, 572, 267, 271, 576, 580] (by decide +kernel) (by decide +kernel) w h).1
set_option maxRecDepth 20000 in
theorem wl_r13 : ∀ w ∈ wsL_law_r13, w ∈ lw_tbl := fun w h => (goodIn_p wsL_law_r13 [275, 278, 584, 282, 588, 286, 592] (by decide +kernel) (by decide +kernel) w h).1
set_option maxRecDepth 20000 in
theorem wl_r14 : ∀ w ∈ wsL_law_r14, w ∈ lw_tbl := fun w h => (goodIn_p wsL_law_r14 [291, 295, 596, 300, 304, 308] (by decide +kernel) (by decide +kernel) w h).1
set_option maxRecDepth 20000 in
theorem wl_r15 : ∀ w ∈ wsL_law_r15, w ∈ lw_tbl := fun w h => (goodIn_p wsL_law_r15 [312, 316, 320, 601, 605, 324] (by decide +kernel) (by decide +kernel) w h).1
