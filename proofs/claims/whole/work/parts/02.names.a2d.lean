set_option maxRecDepth 100000 in
theorem wl_in22 : GoodIn lw_tbl wsL_law_r22 := goodIn_p wsL_law_r22 [447, 455, 709] (by decide +kernel) (by decide +kernel)
set_option maxRecDepth 100000 in
theorem wl_in23 : GoodIn lw_tbl wsX20 := goodIn_p wsX20 [] (by decide +kernel) (by decide +kernel)
set_option maxRecDepth 100000 in
theorem wl_in24 : GoodIn lw_tbl wsX30 := goodIn_p wsX30 [] (by decide +kernel) (by decide +kernel)
set_option maxRecDepth 100000 in
theorem wl_in25 : GoodIn lw_tbl wsX10 := goodIn_p wsX10 [] (by decide +kernel) (by decide +kernel)
set_option maxRecDepth 100000 in
theorem wl_in26 : GoodIn lw_tbl wsX00 := goodIn_p wsX00 [] (by decide +kernel) (by decide +kernel)
