set_option maxRecDepth 20000 in
theorem ggc_2 : GoodIn wsL_law wsX5_check_r2 := goodIn_r _ [467, 468, 469, 284, 285, 286, 287, 104, 99, 98, 288, 289, 290, 291, 294, 295, 296, 297, 298, 299, 300, 301, 109, 110] (by decide +kernel) (by decide +kernel)
