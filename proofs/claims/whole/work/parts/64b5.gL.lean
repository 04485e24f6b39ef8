set_option maxRecDepth 20000 in
theorem ggc_0 : GoodIn wsL_law [.code yX5_check cX5_check 12 (some .int)] := goodIn_r _ [560] (by decide +kernel) (by decide +kernel)
set_option maxRecDepth 20000 in
theorem ggc_1 : GoodIn wsL_law wsX5_check_r1 := goodIn_r _ [561, 94, 114, 510, 103, 107, 106, 105, 295, 296, 279, 280, 93, 108, 150, 151, 5, 152, 463, 464, 465, 511, 512, 513] (by decide +kernel) (by decide +kernel)
