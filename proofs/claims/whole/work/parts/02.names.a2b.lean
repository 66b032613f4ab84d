set_option maxRecDepth 100000 in
theorem wl_in8 : GoodIn lw_tbl wsL_law_r8 := goodIn_p wsL_law_r8 [243, 247, 251, 255, 259, 263] (by decide +kernel) (by decide +kernel)
set_option maxRecDepth 100000 in
theorem wl_in9 : GoodIn lw_tbl wsL_law_r9 := goodIn_p wsL_law_r9 [267, 271, 275, 282, 286] (by decide +kernel) (by decide +kernel)
set_option maxRecDepth 100000 in
theorem wl_in10 : GoodIn lw_tbl wsL_law_r10 := goodIn_p wsL_law_r10 [290, 294, 298, 598, 602, 606] (by decide +kernel) (by decide +kernel)
set_option maxRecDepth 100000 in
theorem wl_in11 : GoodIn lw_tbl wsL_law_r11 := goodIn_p wsL_law_r11 [610, 590, 594, 614, 618, 303] (by decide +kernel) (by decide +kernel)
set_option maxRecDepth 100000 in
theorem wl_in12 : GoodIn lw_tbl wsL_law_r12 := goodIn_p wsL_law_r12 [622, 307, 586, 311, 314, 318] (by decide +kernel) (by decide +kernel)
set_option maxRecDepth 100000 in
theorem wl_in13 : GoodIn lw_tbl wsL_law_r13 := goodIn_p wsL_law_r13 [626, 630, 324, 634, 328] (by decide +kernel) (by decide +kernel)
set_option maxRecDepth 100000 in
theorem wl_in14 : GoodIn lw_tbl wsL_law_r14 := goodIn_p wsL_law_r14 [638, 332, 642, 336, 340, 646] (by decide +kernel) (by decide +kernel)
