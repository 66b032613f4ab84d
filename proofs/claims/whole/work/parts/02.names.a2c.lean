set_option maxRecDepth 100000 in
theorem wl_in15 : GoodIn lw_tbl wsL_law_r15 := goodIn_p wsL_law_r15 [345, 348, 352, 650, 356] (by decide +kernel) (by decide +kernel)
set_option maxRecDepth 100000 in
theorem wl_in16 : GoodIn lw_tbl wsL_law_r16 := goodIn_p wsL_law_r16 [360, 364, 654, 658, 368, 372] (by decide +kernel) (by decide +kernel)
set_option maxRecDepth 100000 in
theorem wl_in17 : GoodIn lw_tbl wsL_law_r17 := goodIn_p wsL_law_r17 [376, 380, 383, 662, 666] (by decide +kernel) (by decide +kernel)
set_option maxRecDepth 100000 in
theorem wl_in18 : GoodIn lw_tbl wsL_law_r18 := goodIn_p wsL_law_r18 [669, 391, 673, 395, 399, 403] (by decide +kernel) (by decide +kernel)
set_option maxRecDepth 100000 in
theorem wl_in19 : GoodIn lw_tbl wsL_law_r19 := goodIn_p wsL_law_r19 [407, 411, 415, 677, 681, 685] (by decide +kernel) (by decide +kernel)
set_option maxRecDepth 100000 in
theorem wl_in20 : GoodIn lw_tbl wsL_law_r20 := goodIn_p wsL_law_r20 [419, 423, 689, 427, 693] (by decide +kernel) (by decide +kernel)
set_option maxRecDepth 100000 in
theorem wl_in21 : GoodIn lw_tbl wsL_law_r21 := goodIn_p wsL_law_r21 [431, 697, 435, 701, 705, 440] (by decide +kernel) (by decide +kernel)
