section
set_option maxRecDepth 20000 in
theorem wli_29 : ∀ w ∈ wsL_law_r29, w ∈ lw_tbl := fun w h => (goodIn_p wsL_law_r29 [540, 546, 1045, 1049] (by decide +kernel) (by decide +kernel) w h).1
set_option maxRecDepth 20000 in
theorem wli_30 : ∀ w ∈ wsL_law_r30, w ∈ lw_tbl := fun w h => (goodIn_p wsL_law_r30 [550, 553, 557, 1053, 1056, 1061] (by decide +kernel) (by decide +kernel) w h).1
set_option maxRecDepth 20000 in
theorem wli_31 : ∀ w ∈ wsL_law_r31, w ∈ lw_tbl := fun w h => (goodIn_p wsL_law_r31 [1065, 561, 565, 568, 1069, 1074] (by decide +kernel) (by decide +kernel) w h).1
set_option maxRecDepth 20000 in
theorem wli_32 : ∀ w ∈ wsL_law_r32, w ∈ lw_tbl := fun w h => (goodIn_p wsL_law_r32 [1077, 1080, 574, 578, 582, 586] (by decide +kernel) (by decide +kernel) w h).1
set_option maxRecDepth 20000 in
theorem wli_33 : ∀ w ∈ wsL_law_r33, w ∈ lw_tbl := fun w h => (goodIn_p wsL_law_r33 [590, 749, 752, 761, 594] (by decide +kernel) (by decide +kernel) w h).1
set_option maxRecDepth 20000 in
theorem wli_34 : ∀ w ∈ wsL_law_r34, w ∈ lw_tbl := fun w h => (goodIn_p wsL_law_r34 [765, 598, 602, 607, 769, 773] (by decide +kernel) (by decide +kernel) w h).1
set_option maxRecDepth 20000 in
theorem wli_35 : ∀ w ∈ wsL_law_r35, w ∈ lw_tbl := fun w h => (goodIn_p wsL_law_r35 [776, 611, 616, 780, 620] (by decide +kernel) (by decide +kernel) w h).1
set_option maxRecDepth 20000 in
theorem wli_36 : ∀ w ∈ wsL_law_r36, w ∈ lw_tbl := fun w h => (goodIn_p wsL_law_r36 [624, 785, 631, 1085, 636] (by decide +kernel) (by decide +kernel) w h).1
set_option maxRecDepth 20000 in
theorem wli_37 : ∀ w ∈ wsL_law_r37, w ∈ lw_tbl := fun w h => (goodIn_p wsL_law_r37 [988, 641, 645, 650, 655] (by decide +kernel) (by decide +kernel) w h).1
set_option maxRecDepth 20000 in
theorem wli_38 : ∀ w ∈ wsL_law_r38, w ∈ lw_tbl := fun w h => (goodIn_p wsL_law_r38 [1089, 660, 668] (by decide +kernel) (by decide +kernel) w h).1
set_option maxRecDepth 20000 in
theorem wli_39 : ∀ w ∈ wsL_law_r39, w ∈ lw_tbl := fun w h => (goodIn_p wsL_law_r39 [1093] (by decide +kernel) (by decide +kernel) w h).1
end
