set_option maxRecDepth 100000 in
theorem wl_in1 : GoodIn lw_tbl wsL_law_r1 := goodIn_p wsL_law_r1 [44, 47] (by decide +kernel) (by decide +kernel)
set_option maxRecDepth 100000 in
theorem wl_in2 : GoodIn lw_tbl wsL_law_r2 := goodIn_p wsL_law_r2 [54, 461] (by decide +kernel) (by decide +kernel)
set_option maxRecDepth 100000 in
theorem wl_in3 : GoodIn lw_tbl wsL_law_r3 := goodIn_p wsL_law_r3 [] (by decide +kernel) (by decide +kernel)
set_option maxRecDepth 100000 in
theorem wl_in4 : GoodIn lw_tbl wsL_law_r4 := goodIn_p wsL_law_r4 [131, 134, 138, 142] (by decide +kernel) (by decide +kernel)
set_option maxRecDepth 100000 in
theorem wl_in5 : GoodIn lw_tbl wsL_law_r5 := goodIn_p wsL_law_r5 [567, 570] (by decide +kernel) (by decide +kernel)
set_option maxRecDepth 100000 in
theorem wl_in6 : GoodIn lw_tbl wsL_law_r6 := goodIn_p wsL_law_r6 [574, 211, 215, 219, 578, 223] (by decide +kernel) (by decide +kernel)
set_option maxRecDepth 100000 in
theorem wl_in7 : GoodIn lw_tbl wsL_law_r7 := goodIn_p wsL_law_r7 [227, 582, 231, 235, 239] (by decide +kernel) (by decide +kernel)
