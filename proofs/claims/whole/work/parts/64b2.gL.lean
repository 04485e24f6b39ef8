set_option maxRecDepth 20000 in
theorem ggL_law_X4_prove : GoodIn wsL_law wsX4_prove := goodIn_r _ [476, 19, 20, 27, 477, 478, 36, 479, 23, 29, 480, 481, 2, 482, 483, 484, 485, 157, 158, 159, 18, 160, 140, 486, 487, 488, 489, 490, 491, 492, 202, 178, 179, 180, 39, 493, 142, 143, 144, 494, 495, 496, 26, 497, 498, 87, 88, 499, 500, 501, 455, 456, 457, 458, 189, 193, 62, 63, 22, 64, 48, 65, 66, 67, 68, 69, 70, 71, 72, 73, 74, 75, 76, 77, 50, 78, 79, 80, 81, 82, 51, 83, 207, 208, 209, 210, 211, 212, 213, 214, 215, 216, 217, 218, 219, 47, 49, 220, 221, 222, 223, 224, 225, 226, 46, 227, 56, 57, 228, 229, 230, 231, 232, 233, 234, 59, 58, 235, 236, 237, 238, 239, 240, 241, 242, 243, 244, 245, 246, 247, 60, 248, 249, 250, 251, 252, 253, 254, 255, 256, 257, 258, 259, 260, 261, 262, 263, 264, 265, 266, 267, 268, 273, 274, 502, 503, 504, 505, 562, 563, 564, 565, 566, 567, 568, 597, 598, 612, 613, 614, 599, 600, 601, 602, 603, 604, 605, 606, 607, 608, 609, 610, 611, 615, 616, 617, 618, 619, 620, 621, 622] (by decide +kernel) (by decide +kernel)
set_option maxRecDepth 20000 in
theorem gL_law_X4_prove : GoodIn wsL_law (wsV RL 81 RX4 yX4_prove wsX4_prove) := goodIn_app (goodIn_of _ (by decide +kernel)) ggL_law_X4_prove
set_option maxRecDepth 20000 in
theorem ggL_law_X5_prove : GoodIn wsL_law wsX5_prove := goodIn_r _ [509, 430, 510, 103, 102, 106, 463, 464, 5, 465, 287, 288, 289, 290, 105, 104, 99, 98, 279, 470, 471, 472, 511, 512, 513, 466, 467, 468, 469, 364, 373, 374, 375, 376, 377, 291, 292, 293, 294, 295, 296, 107, 280, 297, 298, 299, 300, 108, 301, 302, 303, 304, 109, 110, 111, 305, 306, 307, 308, 309, 310, 311, 378, 379, 380, 381, 112, 382, 383, 384, 385, 569, 570, 571, 572, 573, 574, 575, 576, 577, 578, 579, 580, 581, 582, 583, 584, 585, 586, 587, 588, 589, 590, 591, 592, 593, 594, 595, 596] (by decide +kernel) (by decide +kernel)
set_option maxRecDepth 20000 in
theorem gL_law_X5_prove : GoodIn wsL_law (wsV RL 84 RX5 yX5_prove wsX5_prove) := goodIn_app (goodIn_of _ (by decide +kernel)) ggL_law_X5_prove
set_option maxRecDepth 20000 in
theorem ggL_law_X4_proof : GoodIn wsL_law wsX4_proof := goodIn_r _ [517, 20, 177, 178, 179, 18, 180, 140, 39, 562, 563, 564, 565, 566, 567, 568, 597, 598] (by decide +kernel) (by decide +kernel)
set_option maxRecDepth 20000 in
theorem gL_law_X4_proof : GoodIn wsL_law (wsV RL 85 RX4 yX4_proof wsX4_proof) := goodIn_app (goodIn_of _ (by decide +kernel)) ggL_law_X4_proof
set_option maxRecDepth 20000 in
theorem ggL_law_X5_proof : GoodIn wsL_law wsX5_proof := goodIn_r _ [521, 510, 103, 569, 570, 571, 572, 573, 574, 575, 576, 577, 578, 579, 580, 581, 582, 583, 584, 585, 586, 587, 588, 589, 590, 591, 592, 593, 594, 595, 596] (by decide +kernel) (by decide +kernel)
set_option maxRecDepth 20000 in
theorem gL_law_X5_proof : GoodIn wsL_law (wsV RL 88 RX5 yX5_proof wsX5_proof) := goodIn_app (goodIn_of _ (by decide +kernel)) ggL_law_X5_proof
