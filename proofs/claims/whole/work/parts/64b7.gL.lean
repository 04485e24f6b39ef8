set_option maxRecDepth 20000 in
theorem ggc_3 : GoodIn wsL_law wsX5_check_r3 := goodIn_r _ [111, 305, 306, 307, 308, 309, 310, 311, 284, 285, 286] (by decide +kernel) (by decide +kernel)
set_option maxRecDepth 20000 in
theorem ggc_4 : GoodIn wsL_law wsX50 := goodIn_r _ [569, 570, 571, 572, 573, 574, 575, 576, 577, 578, 579, 580, 581, 582, 583, 584, 585, 586, 587, 588, 589, 590, 591, 592, 593, 594, 595, 596] (by decide +kernel) (by decide +kernel)
theorem ggL_law_X5_check : GoodIn wsL_law wsX5_check := fun w h => (List.mem_cons.mp h).elim (fun e => ggc_0 w (List.mem_cons.mpr (Or.inl e))) (goodIn_app (goodIn_app ggc_1 (goodIn_app ggc_2 ggc_3)) ggc_4 w)
set_option maxRecDepth 20000 in
theorem gL_law_X5_check : GoodIn wsL_law (wsV RL 100 RX5 yX5_check wsX5_check) := goodIn_app (goodIn_of _ (by decide +kernel)) ggL_law_X5_check
