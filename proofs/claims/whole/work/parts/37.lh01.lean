set_option maxRecDepth 100000 in
theorem ggL_law_X2_thrown : GoodIn vsL_law wsX2_thrown := goodIn_r _ [328, 85, 446, 447, 448, 449, 450, 451, 452, 453, 454, 455, 456, 457, 458, 459, 460, 461, 462, 463, 464, 465, 466] rfl (by decide +kernel)
set_option maxRecDepth 100000 in
theorem gL_law_X2_thrown : GoodIn vsL_law (wsV RL 71 RX2 yX2_thrown wsX2_thrown) := goodIn_app (goodIn_of _ (by decide +kernel)) ggL_law_X2_thrown
set_option maxRecDepth 100000 in
theorem ggL_law_X1_could : GoodIn vsL_law wsX1_could := goodIn_r _ [332, 333, 334, 335, 2, 336, 337, 40, 29, 78, 79, 80, 163, 164, 165, 166, 20, 21, 167, 168, 169, 28, 170, 34, 35, 171, 172, 173, 174, 175, 176, 177, 41, 14, 178, 179, 180, 181, 18, 19, 106, 107, 108, 182, 183, 184, 185, 16, 186, 187, 188, 189, 190, 191, 192, 193, 17, 15, 194, 195, 196, 197, 198, 199, 200, 201, 202, 203, 204, 205, 206, 207, 208, 209, 210, 211, 212, 213, 214, 215, 216, 217, 218, 219, 220, 221, 222, 223, 42, 22, 23, 24, 25, 224, 225, 226, 227, 228, 229, 230, 231, 232, 233, 234, 235, 236, 237, 238, 239, 240, 298, 299, 300, 301, 302, 303, 304, 305, 306, 307, 430, 431, 432, 433, 434, 435, 436, 437, 438, 439, 440, 441, 442, 443, 444, 445, 467, 468] rfl (by decide +kernel)
set_option maxRecDepth 100000 in
theorem gL_law_X1_could : GoodIn vsL_law (wsV RL 74 RX1 yX1_could wsX1_could) := goodIn_app (goodIn_of _ (by decide +kernel)) ggL_law_X1_could
set_option maxRecDepth 100000 in
theorem ggL_law_X2_could : GoodIn vsL_law wsX2_could := goodIn_r _ [341, 85, 342, 343, 344, 5, 345, 346, 51, 66, 316, 317, 318, 319, 245, 64, 65, 246, 247, 248, 249, 58, 59, 67, 250, 251, 252, 253, 73, 60, 61, 62, 63, 254, 255, 256, 257, 258, 259, 260, 261, 262, 263, 264, 265, 266, 267, 72, 52, 268, 269, 270, 271, 56, 57, 272, 273, 274, 275, 54, 276, 277, 278, 279, 55, 53, 280, 281, 282, 283, 320, 321, 322, 323, 324, 446, 447, 448, 449, 450, 451, 452, 453, 454, 455, 456, 457, 458, 459, 460, 461, 462, 463, 464, 465, 466] rfl (by decide +kernel)
set_option maxRecDepth 100000 in
theorem gL_law_X2_could : GoodIn vsL_law (wsV RL 78 RX2 yX2_could wsX2_could) := goodIn_app (goodIn_of _ (by decide +kernel)) ggL_law_X2_could
