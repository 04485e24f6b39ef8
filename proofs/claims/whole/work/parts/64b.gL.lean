set_option maxRecDepth 20000 in
theorem ggL_law_X5_told : GoodIn wsL_law wsX5_told := goodIn_r _ [409, 98, 97, 281, 282, 5, 283, 369, 370, 371, 372, 569, 570, 571, 572, 573, 574, 575, 576, 577, 578, 579, 580, 581, 582, 583, 584, 585, 586, 587, 588, 589, 590, 591, 592, 593, 594, 595, 596] (by decide +kernel) (by decide +kernel)
set_option maxRecDepth 20000 in
theorem gL_law_X5_told : GoodIn wsL_law (wsV RL 60 RX5 yX5_told wsX5_told) := goodIn_app (goodIn_of _ (by decide +kernel)) ggL_law_X5_told
set_option maxRecDepth 20000 in
theorem ggL_law_X4_chain : GoodIn wsL_law wsX4_chain := goodIn_r _ [413, 16, 190, 191, 2, 192, 414, 415, 416, 22, 417, 70, 49, 562, 563, 564, 565, 566, 567, 568, 599, 600, 601, 602, 603, 604, 605, 606, 607, 608, 609, 610, 611] (by decide +kernel) (by decide +kernel)
set_option maxRecDepth 20000 in
theorem gL_law_X4_chain : GoodIn wsL_law (wsV RL 61 RX4 yX4_chain wsX4_chain) := goodIn_app (goodIn_of _ (by decide +kernel)) ggL_law_X4_chain
set_option maxRecDepth 20000 in
theorem ggL_law_X5_chain : GoodIn wsL_law wsX5_chain := goodIn_r _ [421, 364, 112, 281, 282, 5, 283, 365, 366, 367, 368, 101, 96, 321, 100, 106, 287, 288, 289, 290, 105, 104, 99, 98, 279, 369, 370, 371, 372, 97, 291, 292, 293, 294, 295, 296, 107, 280, 297, 298, 299, 300, 108, 301, 302, 303, 304, 109, 110, 111, 305, 306, 307, 308, 309, 310, 311, 373, 374, 375, 376, 377, 378, 379, 380, 381, 382, 383, 384, 385, 569, 570, 571, 572, 573, 574, 575, 576, 577, 578, 579, 580, 581, 582, 583, 584, 585, 586, 587, 588, 589, 590, 591, 592, 593, 594, 595, 596] (by decide +kernel) (by decide +kernel)
set_option maxRecDepth 20000 in
theorem gL_law_X5_chain : GoodIn wsL_law (wsV RL 64 RX5 yX5_chain wsX5_chain) := goodIn_app (goodIn_of _ (by decide +kernel)) ggL_law_X5_chain
set_option maxRecDepth 20000 in
theorem ggL_law_X4_grow : GoodIn wsL_law wsX4_grow := goodIn_r _ [425, 19, 136, 137, 138, 18, 139, 39, 140, 141, 142, 143, 144, 562, 563, 564, 565, 566, 567, 568, 597, 598] (by decide +kernel) (by decide +kernel)
set_option maxRecDepth 20000 in
theorem gL_law_X4_grow : GoodIn wsL_law (wsV RL 65 RX4 yX4_grow wsX4_grow) := goodIn_app (goodIn_of _ (by decide +kernel)) ggL_law_X4_grow
set_option maxRecDepth 20000 in
theorem ggL_law_X5_grow : GoodIn wsL_law wsX5_grow := goodIn_r _ [429, 430, 102, 569, 570, 571, 572, 573, 574, 575, 576, 577, 578, 579, 580, 581, 582, 583, 584, 585, 586, 587, 588, 589, 590, 591, 592, 593, 594, 595, 596] (by decide +kernel) (by decide +kernel)
set_option maxRecDepth 20000 in
theorem gL_law_X5_grow : GoodIn wsL_law (wsV RL 68 RX5 yX5_grow wsX5_grow) := goodIn_app (goodIn_of _ (by decide +kernel)) ggL_law_X5_grow
set_option maxRecDepth 20000 in
theorem ggL_law_X4_spoil : GoodIn wsL_law wsX4_spoil := goodIn_r _ [434, 19, 435, 436, 437, 18, 438, 140, 39, 562, 563, 564, 565, 566, 567, 568, 597, 598] (by decide +kernel) (by decide +kernel)
set_option maxRecDepth 20000 in
theorem gL_law_X4_spoil : GoodIn wsL_law (wsV RL 69 RX4 yX4_spoil wsX4_spoil) := goodIn_app (goodIn_of _ (by decide +kernel)) ggL_law_X4_spoil
set_option maxRecDepth 20000 in
theorem ggL_law_X5_spoil : GoodIn wsL_law wsX5_spoil := goodIn_r _ [442, 430, 102, 569, 570, 571, 572, 573, 574, 575, 576, 577, 578, 579, 580, 581, 582, 583, 584, 585, 586, 587, 588, 589, 590, 591, 592, 593, 594, 595, 596] (by decide +kernel) (by decide +kernel)
set_option maxRecDepth 20000 in
theorem gL_law_X5_spoil : GoodIn wsL_law (wsV RL 72 RX5 yX5_spoil wsX5_spoil) := goodIn_app (goodIn_of _ (by decide +kernel)) ggL_law_X5_spoil
set_option maxRecDepth 20000 in
theorem ggL_law_X4_shorten : GoodIn wsL_law wsX4_shorten := goodIn_r _ [446, 19, 157, 158, 159, 18, 160, 140, 562, 563, 564, 565, 566, 567, 568, 597, 598] (by decide +kernel) (by decide +kernel)
set_option maxRecDepth 20000 in
theorem gL_law_X4_shorten : GoodIn wsL_law (wsV RL 73 RX4 yX4_shorten wsX4_shorten) := goodIn_app (goodIn_of _ (by decide +kernel)) ggL_law_X4_shorten
set_option maxRecDepth 20000 in
theorem ggL_law_X5_shorten : GoodIn wsL_law wsX5_shorten := goodIn_r _ [450, 430, 569, 570, 571, 572, 573, 574, 575, 576, 577, 578, 579, 580, 581, 582, 583, 584, 585, 586, 587, 588, 589, 590, 591, 592, 593, 594, 595, 596] (by decide +kernel) (by decide +kernel)
set_option maxRecDepth 20000 in
theorem gL_law_X5_shorten : GoodIn wsL_law (wsV RL 76 RX5 yX5_shorten wsX5_shorten) := goodIn_app (goodIn_of _ (by decide +kernel)) ggL_law_X5_shorten
set_option maxRecDepth 20000 in
theorem ggL_law_X4_root : GoodIn wsL_law wsX4_root := goodIn_r _ [454, 19, 23, 14, 133, 134, 2, 135, 455, 456, 457, 458, 189, 193, 62, 63, 22, 64, 48, 65, 66, 67, 68, 69, 70, 71, 72, 73, 74, 75, 76, 77, 50, 78, 79, 80, 81, 82, 51, 83, 207, 208, 209, 210, 211, 178, 179, 18, 180, 140, 39, 212, 213, 214, 215, 216, 217, 218, 219, 47, 49, 220, 221, 222, 223, 224, 225, 226, 46, 227, 56, 57, 228, 229, 230, 231, 232, 233, 234, 59, 58, 235, 236, 237, 238, 239, 240, 241, 242, 243, 244, 245, 246, 247, 60, 248, 249, 250, 251, 252, 253, 254, 255, 256, 257, 258, 259, 260, 261, 262, 263, 264, 265, 266, 267, 268, 336, 337, 338, 339, 340, 341, 158, 159, 160, 342, 270, 271, 272, 343, 344, 345, 346, 347, 348, 142, 143, 144, 562, 563, 564, 565, 566, 567, 568, 597, 598, 599, 600, 601, 602, 603, 604, 605, 606, 607, 608, 609, 610, 611, 615, 616, 617, 618, 619, 620, 621, 622] (by decide +kernel) (by decide +kernel)
set_option maxRecDepth 20000 in
theorem gL_law_X4_root : GoodIn wsL_law (wsV RL 77 RX4 yX4_root wsX4_root) := goodIn_app (goodIn_of _ (by decide +kernel)) ggL_law_X4_root
set_option maxRecDepth 20000 in
theorem ggL_law_X5_root : GoodIn wsL_law wsX5_root := goodIn_r _ [462, 102, 430, 280, 93, 108, 94, 150, 151, 5, 152, 287, 288, 289, 290, 105, 104, 99, 98, 279, 463, 464, 465, 466, 467, 468, 469, 364, 373, 374, 375, 376, 377, 470, 471, 472, 291, 292, 293, 294, 106, 295, 296, 107, 297, 298, 299, 300, 301, 302, 303, 304, 109, 110, 111, 305, 306, 307, 308, 309, 310, 311, 378, 379, 380, 381, 112, 382, 383, 384, 385, 569, 570, 571, 572, 573, 574, 575, 576, 577, 578, 579, 580, 581, 582, 583, 584, 585, 586, 587, 588, 589, 590, 591, 592, 593, 594, 595, 596] (by decide +kernel) (by decide +kernel)
set_option maxRecDepth 20000 in
theorem gL_law_X5_root : GoodIn wsL_law (wsV RL 80 RX5 yX5_root wsX5_root) := goodIn_app (goodIn_of _ (by decide +kernel)) ggL_law_X5_root
