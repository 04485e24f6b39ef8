set_option maxRecDepth 20000 in
theorem ggL_law_X4_prove : GoodIn wsL_law wsX4_prove := goodIn_r _ [473, 19, 20, 27, 474, 475, 36, 476, 23, 29, 477, 478, 2, 479, 480, 481, 482, 157, 158, 159, 18, 160, 140, 483, 484, 485, 486, 487, 488, 489, 202, 178, 179, 180, 39, 490, 142, 143, 144, 491, 492, 493, 26, 494, 495, 87, 88, 496, 497, 498, 452, 453, 454, 455, 189, 193, 62, 63, 22, 64, 48, 65, 66, 67, 68, 69, 70, 71, 72, 73, 74, 75, 76, 77, 50, 78, 79, 80, 81, 82, 51, 83, 207, 208, 209, 210, 211, 212, 213, 214, 215, 216, 217, 218, 219, 47, 49, 220, 221, 222, 223, 224, 225, 226, 46, 227, 56, 57, 228, 229, 230, 231, 232, 233, 234, 59, 58, 235, 236, 237, 238, 239, 240, 241, 242, 243, 244, 245, 246, 247, 60, 248, 249, 250, 251, 252, 253, 254, 255, 256, 257, 258, 259, 260, 261, 262, 263, 264, 265, 270, 271, 499, 500, 501, 502, 559, 560, 561, 562, 563, 564, 565, 594, 595, 609, 610, 611, 596, 597, 598, 599, 600, 601, 602, 603, 604, 605, 606, 607, 608, 612, 613, 614, 615, 616, 617, 618, 619] (by decide +kernel) (by decide +kernel)
set_option maxRecDepth 20000 in
theorem gL_law_X4_prove : GoodIn wsL_law (wsV RL 81 RX4 yX4_prove wsX4_prove) := goodIn_app (goodIn_of _ (by decide +kernel)) ggL_law_X4_prove
set_option maxRecDepth 20000 in
theorem ggL_law_X5_prove : GoodIn wsL_law wsX5_prove := goodIn_r _ [506, 427, 507, 103, 102, 106, 460, 461, 5, 462, 284, 285, 286, 287, 105, 104, 99, 98, 276, 467, 468, 469, 508, 509, 510, 463, 464, 465, 466, 361, 370, 371, 372, 373, 374, 288, 289, 290, 291, 292, 293, 107, 277, 294, 295, 296, 297, 108, 298, 299, 300, 301, 109, 110, 111, 302, 303, 304, 305, 306, 307, 308, 375, 376, 377, 378, 112, 379, 380, 381, 382, 566, 567, 568, 569, 570, 571, 572, 573, 574, 575, 576, 577, 578, 579, 580, 581, 582, 583, 584, 585, 586, 587, 588, 589, 590, 591, 592, 593] (by decide +kernel) (by decide +kernel)
set_option maxRecDepth 20000 in
theorem gL_law_X5_prove : GoodIn wsL_law (wsV RL 84 RX5 yX5_prove wsX5_prove) := goodIn_app (goodIn_of _ (by decide +kernel)) ggL_law_X5_prove
set_option maxRecDepth 20000 in
theorem ggL_law_X4_proof : GoodIn wsL_law wsX4_proof := goodIn_r _ [514, 20, 177, 178, 179, 18, 180, 140, 39, 559, 560, 561, 562, 563, 564, 565, 594, 595] (by decide +kernel) (by decide +kernel)
set_option maxRecDepth 20000 in
theorem gL_law_X4_proof : GoodIn wsL_law (wsV RL 85 RX4 yX4_proof wsX4_proof) := goodIn_app (goodIn_of _ (by decide +kernel)) ggL_law_X4_proof
set_option maxRecDepth 20000 in
theorem ggL_law_X5_proof : GoodIn wsL_law wsX5_proof := goodIn_r _ [518, 507, 103, 566, 567, 568, 569, 570, 571, 572, 573, 574, 575, 576, 577, 578, 579, 580, 581, 582, 583, 584, 585, 586, 587, 588, 589, 590, 591, 592, 593] (by decide +kernel) (by decide +kernel)
set_option maxRecDepth 20000 in
theorem gL_law_X5_proof : GoodIn wsL_law (wsV RL 88 RX5 yX5_proof wsX5_proof) := goodIn_app (goodIn_of _ (by decide +kernel)) ggL_law_X5_proof
