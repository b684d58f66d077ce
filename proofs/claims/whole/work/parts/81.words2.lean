/-! the words of the law in the tables, in pieces -/
set_option maxRecDepth 20000 in
theorem wsL_law_p10 : ∀ w ∈ wsL_law0_r10, w ∈ lw_tbl := fun w h => (goodIn_p wsL_law0_r10 [608, 950, 954, 958, 615] (by decide +kernel) (by decide +kernel) w h).1
set_option maxRecDepth 20000 in
theorem wsL_law_p11 : ∀ w ∈ wsL_law0_r11, w ∈ lw_tbl := fun w h => (goodIn_p wsL_law0_r11 [962, 623, 627, 966, 970] (by decide +kernel) (by decide +kernel) w h).1
set_option maxRecDepth 20000 in
theorem wsL_law_p12 : ∀ w ∈ wsL_law0_r12, w ∈ lw_tbl := fun w h => (goodIn_p wsL_law0_r12 [634, 639, 974, 646] (by decide +kernel) (by decide +kernel) w h).1
set_option maxRecDepth 20000 in
theorem wsL_law_p13 : ∀ w ∈ wsL_law0_r13, w ∈ lw_tbl := fun w h => (goodIn_p wsL_law0_r13 [650, 978, 301, 982, 657] (by decide +kernel) (by decide +kernel) w h).1
set_option maxRecDepth 20000 in
theorem wsL_law_p14 : ∀ w ∈ wsL_law0_r14, w ∈ lw_tbl := fun w h => (goodIn_p wsL_law0_r14 [986, 666, 672, 990, 305] (by decide +kernel) (by decide +kernel) w h).1
set_option maxRecDepth 20000 in
theorem wsL_law_p15 : ∀ w ∈ wsL_law0_r15, w ∈ lw_tbl := fun w h => (goodIn_p wsL_law0_r15 [309, 313, 317, 322] (by decide +kernel) (by decide +kernel) w h).1
set_option maxRecDepth 20000 in
theorem wsL_law_p16 : ∀ w ∈ wsL_law0_r16, w ∈ lw_tbl := fun w h => (goodIn_p wsL_law0_r16 [326, 330, 340, 343, 334] (by decide +kernel) (by decide +kernel) w h).1
set_option maxRecDepth 20000 in
theorem wsL_law_p17 : ∀ w ∈ wsL_law0_r17, w ∈ lw_tbl := fun w h => (goodIn_p wsL_law0_r17 [348, 352, 357, 362] (by decide +kernel) (by decide +kernel) w h).1
set_option maxRecDepth 20000 in
theorem wsL_law_p18 : ∀ w ∈ wsL_law0_r18, w ∈ lw_tbl := fun w h => (goodIn_p wsL_law0_r18 [366, 371, 379, 382] (by decide +kernel) (by decide +kernel) w h).1
