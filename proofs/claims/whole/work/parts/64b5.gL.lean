set_option maxRecDepth 20000 in
theorem ggc_0 : GoodIn wsL_law [.code yX5_check cX5_check 12 (some .int)] := goodIn_r _ [557] (by decide +kernel) (by decide +kernel)
set_option maxRecDepth 20000 in
theorem ggc_1 : GoodIn wsL_law wsX5_check_r1 := goodIn_r _ [558, 94, 114, 507, 103, 107, 106, 105, 292, 293, 276, 277, 93, 108, 150, 151, 5, 152, 460, 461, 462, 508, 509, 510] (by decide +kernel) (by decide +kernel)
