set_option maxRecDepth 20000 in
theorem li_0_r7 : ∀ w ∈ wsL_law0_r7, w ∈ lw_tbl := fun w h => (goodIn_p wsL_law0_r7 [332, 336, 356, 376, 208] (by decide +kernel) (by decide +kernel) w h).1
set_option maxRecDepth 20000 in
theorem li_0_r8 : ∀ w ∈ wsL_law0_r8, w ∈ lw_tbl := fun w h => (goodIn_p wsL_law0_r8 [382, 410, 414, 418, 422] (by decide +kernel) (by decide +kernel) w h).1
set_option maxRecDepth 20000 in
theorem li_0_r9 : ∀ w ∈ wsL_law0_r9, w ∈ lw_tbl := fun w h => (goodIn_p wsL_law0_r9 [427, 432, 458] (by decide +kernel) (by decide +kernel) w h).1
set_option maxRecDepth 20000 in
theorem li_0_r10 : ∀ w ∈ wsL_law0_r10, w ∈ lw_tbl := fun w h => (goodIn_p wsL_law0_r10 [462, 466, 470, 476, 473, 480] (by decide +kernel) (by decide +kernel) w h).1
set_option maxRecDepth 20000 in
theorem li_0_r11 : ∀ w ∈ wsL_law0_r11, w ∈ lw_tbl := fun w h => (goodIn_p wsL_law0_r11 [483, 502, 508, 946] (by decide +kernel) (by decide +kernel) w h).1
set_option maxRecDepth 20000 in
theorem li_0_r12 : ∀ w ∈ wsL_law0_r12, w ∈ lw_tbl := fun w h => (goodIn_p wsL_law0_r12 [950, 954, 958, 962, 965, 969] (by decide +kernel) (by decide +kernel) w h).1
