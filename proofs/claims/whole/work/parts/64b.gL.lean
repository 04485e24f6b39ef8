set_option maxRecDepth 20000 in
theorem ggL_law_X5_told : GoodIn wsL_law wsX5_told := goodIn_r _ [406, 98, 97, 278, 279, 5, 280, 366, 367, 368, 369, 566, 567, 568, 569, 570, 571, 572, 573, 574, 575, 576, 577, 578, 579, 580, 581, 582, 583, 584, 585, 586, 587, 588, 589, 590, 591, 592, 593] (by decide +kernel) (by decide +kernel)
set_option maxRecDepth 20000 in
theorem gL_law_X5_told : GoodIn wsL_law (wsV RL 60 RX5 yX5_told wsX5_told) := goodIn_app (goodIn_of _ (by decide +kernel)) ggL_law_X5_told
set_option maxRecDepth 20000 in
theorem ggL_law_X4_chain : GoodIn wsL_law wsX4_chain := goodIn_r _ [410, 16, 190, 191, 2, 192, 411, 412, 413, 22, 414, 70, 49, 559, 560, 561, 562, 563, 564, 565, 596, 597, 598, 599, 600, 601, 602, 603, 604, 605, 606, 607, 608] (by decide +kernel) (by decide +kernel)
set_option maxRecDepth 20000 in
theorem gL_law_X4_chain : GoodIn wsL_law (wsV RL 61 RX4 yX4_chain wsX4_chain) := goodIn_app (goodIn_of _ (by decide +kernel)) ggL_law_X4_chain
set_option maxRecDepth 20000 in
theorem ggL_law_X5_chain : GoodIn wsL_law wsX5_chain := goodIn_r _ [418, 361, 112, 278, 279, 5, 280, 362, 363, 364, 365, 101, 96, 318, 100, 106, 284, 285, 286, 287, 105, 104, 99, 98, 276, 366, 367, 368, 369, 97, 288, 289, 290, 291, 292, 293, 107, 277, 294, 295, 296, 297, 108, 298, 299, 300, 301, 109, 110, 111, 302, 303, 304, 305, 306, 307, 308, 370, 371, 372, 373, 374, 375, 376, 377, 378, 379, 380, 381, 382, 566, 567, 568, 569, 570, 571, 572, 573, 574, 575, 576, 577, 578, 579, 580, 581, 582, 583, 584, 585, 586, 587, 588, 589, 590, 591, 592, 593] (by decide +kernel) (by decide +kernel)
set_option maxRecDepth 20000 in
theorem gL_law_X5_chain : GoodIn wsL_law (wsV RL 64 RX5 yX5_chain wsX5_chain) := goodIn_app (goodIn_of _ (by decide +kernel)) ggL_law_X5_chain
set_option maxRecDepth 20000 in
theorem ggL_law_X4_grow : GoodIn wsL_law wsX4_grow := goodIn_r _ [422, 19, 136, 137, 138, 18, 139, 39, 140, 141, 142, 143, 144, 559, 560, 561, 562, 563, 564, 565, 594, 595] (by decide +kernel) (by decide +kernel)
set_option maxRecDepth 20000 in
theorem gL_law_X4_grow : GoodIn wsL_law (wsV RL 65 RX4 yX4_grow wsX4_grow) := goodIn_app (goodIn_of _ (by decide +kernel)) ggL_law_X4_grow
set_option maxRecDepth 20000 in
theorem ggL_law_X5_grow : GoodIn wsL_law wsX5_grow := goodIn_r _ [426, 427, 102, 566, 567, 568, 569, 570, 571, 572, 573, 574, 575, 576, 577, 578, 579, 580, 581, 582, 583, 584, 585, 586, 587, 588, 589, 590, 591, 592, 593] (by decide +kernel) (by decide +kernel)
set_option maxRecDepth 20000 in
theorem gL_law_X5_grow : GoodIn wsL_law (wsV RL 68 RX5 yX5_grow wsX5_grow) := goodIn_app (goodIn_of _ (by decide +kernel)) ggL_law_X5_grow
set_option maxRecDepth 20000 in
theorem ggL_law_X4_spoil : GoodIn wsL_law wsX4_spoil := goodIn_r _ [431, 19, 432, 433, 434, 18, 435, 140, 39, 559, 560, 561, 562, 563, 564, 565, 594, 595] (by decide +kernel) (by decide +kernel)
set_option maxRecDepth 20000 in
theorem gL_law_X4_spoil : GoodIn wsL_law (wsV RL 69 RX4 yX4_spoil wsX4_spoil) := goodIn_app (goodIn_of _ (by decide +kernel)) ggL_law_X4_spoil
set_option maxRecDepth 20000 in
theorem ggL_law_X5_spoil : GoodIn wsL_law wsX5_spoil := goodIn_r _ [439, 427, 102, 566, 567, 568, 569, 570, 571, 572, 573, 574, 575, 576, 577, 578, 579, 580, 581, 582, 583, 584, 585, 586, 587, 588, 589, 590, 591, 592, 593] (by decide +kernel) (by decide +kernel)
set_option maxRecDepth 20000 in
theorem gL_law_X5_spoil : GoodIn wsL_law (wsV RL 72 RX5 yX5_spoil wsX5_spoil) := goodIn_app (goodIn_of _ (by decide +kernel)) ggL_law_X5_spoil
set_option maxRecDepth 20000 in
theorem ggL_law_X4_shorten : GoodIn wsL_law wsX4_shorten := goodIn_r _ [443, 19, 157, 158, 159, 18, 160, 140, 559, 560, 561, 562, 563, 564, 565, 594, 595] (by decide +kernel) (by decide +kernel)
set_option maxRecDepth 20000 in
theorem gL_law_X4_shorten : GoodIn wsL_law (wsV RL 73 RX4 yX4_shorten wsX4_shorten) := goodIn_app (goodIn_of _ (by decide +kernel)) ggL_law_X4_shorten
set_option maxRecDepth 20000 in
theorem ggL_law_X5_shorten : GoodIn wsL_law wsX5_shorten := goodIn_r _ [447, 427, 566, 567, 568, 569, 570, 571, 572, 573, 574, 575, 576, 577, 578, 579, 580, 581, 582, 583, 584, 585, 586, 587, 588, 589, 590, 591, 592, 593] (by decide +kernel) (by decide +kernel)
set_option maxRecDepth 20000 in
theorem gL_law_X5_shorten : GoodIn wsL_law (wsV RL 76 RX5 yX5_shorten wsX5_shorten) := goodIn_app (goodIn_of _ (by decide +kernel)) ggL_law_X5_shorten
set_option maxRecDepth 20000 in
theorem ggL_law_X4_root : GoodIn wsL_law wsX4_root := goodIn_r _ [451, 19, 23, 14, 133, 134, 2, 135, 452, 453, 454, 455, 189, 193, 62, 63, 22, 64, 48, 65, 66, 67, 68, 69, 70, 71, 72, 73, 74, 75, 76, 77, 50, 78, 79, 80, 81, 82, 51, 83, 207, 208, 209, 210, 211, 178, 179, 18, 180, 140, 39, 212, 213, 214, 215, 216, 217, 218, 219, 47, 49, 220, 221, 222, 223, 224, 225, 226, 46, 227, 56, 57, 228, 229, 230, 231, 232, 233, 234, 59, 58, 235, 236, 237, 238, 239, 240, 241, 242, 243, 244, 245, 246, 247, 60, 248, 249, 250, 251, 252, 253, 254, 255, 256, 257, 258, 259, 260, 261, 262, 263, 264, 265, 333, 334, 335, 336, 337, 338, 158, 159, 160, 339, 267, 268, 269, 340, 341, 342, 343, 344, 345, 142, 143, 144, 559, 560, 561, 562, 563, 564, 565, 594, 595, 596, 597, 598, 599, 600, 601, 602, 603, 604, 605, 606, 607, 608, 612, 613, 614, 615, 616, 617, 618, 619] (by decide +kernel) (by decide +kernel)
set_option maxRecDepth 20000 in
theorem gL_law_X4_root : GoodIn wsL_law (wsV RL 77 RX4 yX4_root wsX4_root) := goodIn_app (goodIn_of _ (by decide +kernel)) ggL_law_X4_root
set_option maxRecDepth 20000 in
theorem ggL_law_X5_root : GoodIn wsL_law wsX5_root := goodIn_r _ [459, 102, 427, 277, 93, 108, 94, 150, 151, 5, 152, 284, 285, 286, 287, 105, 104, 99, 98, 276, 460, 461, 462, 463, 464, 465, 466, 361, 370, 371, 372, 373, 374, 467, 468, 469, 288, 289, 290, 291, 106, 292, 293, 107, 294, 295, 296, 297, 298, 299, 300, 301, 109, 110, 111, 302, 303, 304, 305, 306, 307, 308, 375, 376, 377, 378, 112, 379, 380, 381, 382, 566, 567, 568, 569, 570, 571, 572, 573, 574, 575, 576, 577, 578, 579, 580, 581, 582, 583, 584, 585, 586, 587, 588, 589, 590, 591, 592, 593] (by decide +kernel) (by decide +kernel)
set_option maxRecDepth 20000 in
theorem gL_law_X5_root : GoodIn wsL_law (wsV RL 80 RX5 yX5_root wsX5_root) := goodIn_app (goodIn_of _ (by decide +kernel)) ggL_law_X5_root
