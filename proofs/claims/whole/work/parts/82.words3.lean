/-! the words of the law in the tables, in pieces -/
set_option maxRecDepth 20000 in
theorem wsL_law_p19 : ∀ w ∈ wsL_law0_r19, w ∈ lw_tbl := fun w h => (goodIn_p wsL_law0_r19 [389, 392, 396, 400, 403, 407] (by decide +kernel) (by decide +kernel) w h).1
set_option maxRecDepth 20000 in
theorem wsL_law_p20 : ∀ w ∈ wsL_law0_r20, w ∈ lw_tbl := fun w h => (goodIn_p wsL_law0_r20 [411, 416, 420, 424, 427, 431] (by decide +kernel) (by decide +kernel) w h).1
set_option maxRecDepth 20000 in
theorem wsL_law_p21 : ∀ w ∈ wsL_law0_r21, w ∈ lw_tbl := fun w h => (goodIn_p wsL_law0_r21 [435, 439, 994, 998, 1002] (by decide +kernel) (by decide +kernel) w h).1
set_option maxRecDepth 20000 in
theorem wsL_law_p22 : ∀ w ∈ wsL_law0_r22, w ∈ lw_tbl := fun w h => (goodIn_p wsL_law0_r22 [1006, 1010, 1014, 1018, 1021, 1029] (by decide +kernel) (by decide +kernel) w h).1
set_option maxRecDepth 20000 in
theorem wsL_law_p23 : ∀ w ∈ wsL_law0_r23, w ∈ lw_tbl := fun w h => (goodIn_p wsL_law0_r23 [1034, 1038, 1042, 1046, 1050, 1054] (by decide +kernel) (by decide +kernel) w h).1
set_option maxRecDepth 20000 in
theorem wsL_law_p24 : ∀ w ∈ wsL_law0_r24, w ∈ lw_tbl := fun w h => (goodIn_p wsL_law0_r24 [443, 1058, 679, 683] (by decide +kernel) (by decide +kernel) w h).1
set_option maxRecDepth 20000 in
theorem wsL_law_p25 : ∀ w ∈ wsL_law0_r25, w ∈ lw_tbl := fun w h => (goodIn_p wsL_law0_r25 [1062, 692, 695, 1066, 1070] (by decide +kernel) (by decide +kernel) w h).1
set_option maxRecDepth 20000 in
theorem wsL_law_p26 : ∀ w ∈ wsL_law0_r26, w ∈ lw_tbl := fun w h => (goodIn_p wsL_law0_r26 [718, 1074, 725, 1078] (by decide +kernel) (by decide +kernel) w h).1
set_option maxRecDepth 20000 in
theorem wsL_law_p27 : ∀ w ∈ wsL_law0_r27, w ∈ lw_tbl := fun w h => (goodIn_p wsL_law0_r27 [733, 737, 1082, 744, 748] (by decide +kernel) (by decide +kernel) w h).1
