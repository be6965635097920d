set_option maxRecDepth 100000 in
theorem ggL_law_X2_look : GoodIn vsL_law wsX2_look := goodIn_r _ [417, 85, 72, 52, 53, 54, 55, 51, 56, 57, 312, 313, 314, 5, 315, 446, 447, 448, 449, 450, 451, 452, 453, 454, 455, 456, 457, 458, 459, 460, 461, 462, 463, 464, 465, 466] rfl (by decide +kernel)
set_option maxRecDepth 100000 in
theorem gL_law_X2_look : GoodIn vsL_law (wsV RL 97 RX2 yX2_look wsX2_look) := goodIn_app (goodIn_of _ (by decide +kernel)) ggL_law_X2_look
set_option maxRecDepth 100000 in
theorem ggL_law_X1_count : GoodIn vsL_law wsX1_count := goodIn_r _ [421, 40, 41, 42, 422, 423, 424, 2, 425, 406, 407, 408, 409, 18, 106, 107, 108, 430, 431, 432, 433, 434, 435, 436, 437, 438, 439, 440, 441, 442, 443, 444, 445] rfl (by decide +kernel)
set_option maxRecDepth 100000 in
theorem gL_law_X1_count : GoodIn vsL_law (wsV RL 98 RX1 yX1_count wsX1_count) := goodIn_app (goodIn_of _ (by decide +kernel)) ggL_law_X1_count
set_option maxRecDepth 100000 in
theorem ggL_law_X2_count : GoodIn vsL_law wsX2_count := goodIn_r _ [429, 85, 51, 72, 73, 56, 446, 447, 448, 449, 450, 451, 452, 453, 454, 455, 456, 457, 458, 459, 460, 461, 462, 463, 464, 465, 466] rfl (by decide +kernel)
set_option maxRecDepth 100000 in
theorem gL_law_X2_count : GoodIn vsL_law (wsV RL 101 RX2 yX2_count wsX2_count) := goodIn_app (goodIn_of _ (by decide +kernel)) ggL_law_X2_count
