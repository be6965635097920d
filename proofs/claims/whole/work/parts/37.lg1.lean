set_option maxRecDepth 20000 in
theorem ggL_law_X2_row : GoodIn vsL_law wsX2_row := goodIn_r _ [112, 85, 56, 57, 113, 114, 115, 5, 116, 72, 51, 446, 447, 448, 449, 450, 451, 452, 453, 454, 455, 456, 457, 458, 459, 460, 461, 462, 463, 464, 465, 466] (by decide +kernel) (by decide +kernel)
set_option maxRecDepth 20000 in
theorem gL_law_X2_row : GoodIn vsL_law (wsV RL 42 RX2 yX2_row wsX2_row) := goodIn_app (goodIn_of _ (by decide +kernel)) ggL_law_X2_row
set_option maxRecDepth 20000 in
theorem ggL_law_X1_lack : GoodIn vsL_law wsX1_lack := goodIn_r _ [120, 18, 19, 98, 99, 100, 2, 101, 41, 78, 79, 80, 102, 103, 104, 105, 40, 106, 107, 108, 430, 431, 432, 433, 434, 435, 436, 437, 438, 439, 440, 441, 442, 443, 444, 445] (by decide +kernel) (by decide +kernel)
set_option maxRecDepth 20000 in
theorem gL_law_X1_lack : GoodIn vsL_law (wsV RL 43 RX1 yX1_lack wsX1_lack) := goodIn_app (goodIn_of _ (by decide +kernel)) ggL_law_X1_lack
set_option maxRecDepth 20000 in
theorem ggL_law_X2_lack : GoodIn vsL_law wsX2_lack := goodIn_r _ [124, 85, 56, 57, 113, 114, 115, 5, 116, 72, 51, 446, 447, 448, 449, 450, 451, 452, 453, 454, 455, 456, 457, 458, 459, 460, 461, 462, 463, 464, 465, 466] (by decide +kernel) (by decide +kernel)
set_option maxRecDepth 20000 in
theorem gL_law_X2_lack : GoodIn vsL_law (wsV RL 47 RX2 yX2_lack wsX2_lack) := goodIn_app (goodIn_of _ (by decide +kernel)) ggL_law_X2_lack
set_option maxRecDepth 20000 in
theorem ggL_law_X1_start : GoodIn vsL_law wsX1_start := goodIn_r _ [128, 20, 21, 78, 79, 2, 80, 129, 130, 131, 430, 431, 432, 433, 434, 435, 436, 437, 438, 439, 440, 441, 442, 443, 444, 445] (by decide +kernel) (by decide +kernel)
set_option maxRecDepth 20000 in
theorem gL_law_X1_start : GoodIn vsL_law (wsV RL 48 RX1 yX1_start wsX1_start) := goodIn_app (goodIn_of _ (by decide +kernel)) ggL_law_X1_start
set_option maxRecDepth 20000 in
theorem ggL_law_X2_start : GoodIn vsL_law wsX2_start := goodIn_r _ [135, 85, 58, 59, 446, 447, 448, 449, 450, 451, 452, 453, 454, 455, 456, 457, 458, 459, 460, 461, 462, 463, 464, 465, 466] (by decide +kernel) (by decide +kernel)
set_option maxRecDepth 20000 in
theorem gL_law_X2_start : GoodIn vsL_law (wsV RL 51 RX2 yX2_start wsX2_start) := goodIn_app (goodIn_of _ (by decide +kernel)) ggL_law_X2_start
set_option maxRecDepth 20000 in
theorem ggL_law_X1_check : GoodIn vsL_law wsX1_check := goodIn_r _ [139, 42, 22, 23, 24, 25, 140, 141, 142, 2, 143, 40, 78, 79, 80, 144, 145, 146, 129, 130, 131, 430, 431, 432, 433, 434, 435, 436, 437, 438, 439, 440, 441, 442, 443, 444, 445] (by decide +kernel) (by decide +kernel)
set_option maxRecDepth 20000 in
theorem gL_law_X1_check : GoodIn vsL_law (wsV RL 52 RX1 yX1_check wsX1_check) := goodIn_app (goodIn_of _ (by decide +kernel)) ggL_law_X1_check
set_option maxRecDepth 20000 in
theorem ggL_law_X2_check : GoodIn vsL_law wsX2_check := goodIn_r _ [150, 85, 73, 51, 60, 61, 62, 63, 446, 447, 448, 449, 450, 451, 452, 453, 454, 455, 456, 457, 458, 459, 460, 461, 462, 463, 464, 465, 466] (by decide +kernel) (by decide +kernel)
set_option maxRecDepth 20000 in
theorem gL_law_X2_check : GoodIn vsL_law (wsV RL 55 RX2 yX2_check wsX2_check) := goodIn_app (goodIn_of _ (by decide +kernel)) ggL_law_X2_check
set_option maxRecDepth 20000 in
theorem ggL_law_X1_uncheck : GoodIn vsL_law wsX1_uncheck := goodIn_r _ [154, 42, 430, 431, 432, 433, 434, 435, 436, 437, 438, 439, 440, 441, 442, 443, 444, 445] (by decide +kernel) (by decide +kernel)
set_option maxRecDepth 20000 in
theorem gL_law_X1_uncheck : GoodIn vsL_law (wsV RL 56 RX1 yX1_uncheck wsX1_uncheck) := goodIn_app (goodIn_of _ (by decide +kernel)) ggL_law_X1_uncheck
set_option maxRecDepth 20000 in
theorem ggL_law_X2_uncheck : GoodIn vsL_law wsX2_uncheck := goodIn_r _ [158, 85, 73, 446, 447, 448, 449, 450, 451, 452, 453, 454, 455, 456, 457, 458, 459, 460, 461, 462, 463, 464, 465, 466] (by decide +kernel) (by decide +kernel)
set_option maxRecDepth 20000 in
theorem gL_law_X2_uncheck : GoodIn vsL_law (wsV RL 60 RX2 yX2_uncheck wsX2_uncheck) := goodIn_app (goodIn_of _ (by decide +kernel)) ggL_law_X2_uncheck
set_option maxRecDepth 20000 in
theorem ggL_law_X1_fits : GoodIn vsL_law wsX1_fits := goodIn_r _ [162, 163, 164, 165, 2, 166, 29, 20, 21, 40, 167, 168, 169, 28, 170, 34, 35, 171, 172, 173, 174, 175, 176, 177, 41, 14, 178, 179, 180, 181, 18, 19, 106, 107, 108, 182, 183, 184, 185, 16, 186, 187, 188, 189, 190, 191, 192, 193, 17, 15, 194, 195, 196, 197, 198, 199, 200, 201, 202, 203, 204, 205, 206, 207, 208, 209, 210, 211, 212, 213, 214, 215, 216, 217, 218, 219, 220, 221, 222, 223, 42, 22, 23, 24, 25, 224, 225, 226, 227, 228, 229, 230, 231, 232, 233, 234, 235, 236, 237, 238, 239, 240, 430, 431, 432, 433, 434, 435, 436, 437, 438, 439, 440, 441, 442, 443, 444, 445, 467, 468] (by decide +kernel) (by decide +kernel)
set_option maxRecDepth 20000 in
theorem gL_law_X1_fits : GoodIn vsL_law (wsV RL 61 RX1 yX1_fits wsX1_fits) := goodIn_app (goodIn_of _ (by decide +kernel)) ggL_law_X1_fits
