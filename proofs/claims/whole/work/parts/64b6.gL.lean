set_option maxRecDepth 20000 in
theorem ggc_2 : GoodIn wsL_law wsX5_check_r2 := goodIn_r _ [470, 471, 472, 287, 288, 289, 290, 104, 99, 98, 291, 292, 293, 294, 297, 298, 299, 300, 301, 302, 303, 304, 109, 110] (by decide +kernel) (by decide +kernel)
