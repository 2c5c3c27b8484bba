set_option maxRecDepth 20000 in
theorem ggL_dams_X6_planned : GoodIn wsL_dams wsX6_planned := goodIn_r _ [217, 6, 7, 145, 147, 148, 4, 149, 8, 9, 10, 11, 12, 13, 14, 15, 16, 17, 18, 19, 20, 21, 22, 23, 24, 25, 26, 27, 28, 29, 30, 31, 32, 33, 34, 35, 36, 37, 38, 39, 40, 41, 42, 43, 44, 45, 46, 47, 48, 49, 50, 51, 52, 53, 54, 55, 56, 57, 58, 59, 60, 61, 62, 63, 64, 65, 66, 67, 68, 69, 70, 71, 72, 73, 74, 75, 76, 77, 78, 79, 80, 81, 82, 83, 84, 85, 86, 87, 88, 89, 90, 91, 92, 93, 94, 95, 96, 97, 98, 99, 100, 101, 102, 103, 104, 105, 106, 107, 108, 109, 110, 111, 112, 113, 114, 115, 116, 117, 118, 119, 120, 121, 122, 123, 124, 125, 126, 127, 128, 129, 130, 131, 132, 133, 134, 135, 136, 137, 138, 139, 140, 218, 219, 220, 221, 222, 223, 224, 225, 226, 227, 228, 229, 230, 231, 232, 233, 234, 235, 236, 237, 238, 239, 240, 241, 242, 243, 244, 245, 246, 247] (by decide +kernel) (by decide +kernel)
set_option maxRecDepth 20000 in
theorem gL_dams_X6_planned : GoodIn wsL_dams (wsV RL 33 RX6 yX6_planned wsX6_planned) := goodIn_app (goodIn_of _ (by decide +kernel)) ggL_dams_X6_planned
set_option maxRecDepth 20000 in
theorem ggL_law_X6_init : GoodIn wsL_law wsX6_init := goodIn_r _ [5, 6, 7, 8, 9, 10, 11, 12, 13, 14, 15, 16, 17, 18, 19, 20, 21, 22, 23, 24, 25, 26, 27, 28, 29, 30, 31, 32, 33, 34, 35, 36, 37, 38, 39, 40, 41, 42, 43, 44, 45, 46, 47, 48, 49, 50, 51, 52, 53, 54, 55, 56, 57, 58, 59, 60, 61, 62, 63, 64, 65, 66, 67, 68, 69, 70, 71, 72, 73, 74, 75, 76, 77, 78, 79, 80, 81, 82, 83, 84, 85, 86, 87, 88, 89, 90, 91, 434, 435, 436, 437, 438, 439, 429, 430, 431, 432, 433, 440, 441, 442, 443, 444, 445, 446, 447, 448, 449, 450, 451, 452, 453, 454, 455, 456, 457, 458] (by decide +kernel) (by decide +kernel)
set_option maxRecDepth 20000 in
theorem gL_law_X6_init : GoodIn wsL_law (wsX6_init) := ggL_law_X6_init
set_option maxRecDepth 20000 in
theorem ggL_law_L_cell : GoodIn wsL_law wsL_cell := goodIn_r _ [328, 329, 330] (by decide +kernel) (by decide +kernel)
set_option maxRecDepth 20000 in
theorem gL_law_L_cell : GoodIn wsL_law (va_wsS RL 47 yL_cell wsL_cell) := goodIn_app (goodIn_of _ (by decide +kernel)) ggL_law_L_cell
set_option maxRecDepth 20000 in
theorem ggL_law_X6_setWidth : GoodIn wsL_law wsX6_setWidth := goodIn_r _ [334, 12, 101, 215, 216, 2, 217, 185, 186, 187, 11, 188, 34, 40, 114, 115, 116, 37, 117, 50, 335, 336, 337, 338, 16, 24, 339, 340, 341, 15, 342, 55, 57, 343, 344, 345, 346, 347, 348, 349, 350, 351, 253, 254, 255, 32, 33, 38, 39, 256, 257, 258, 259, 260, 352, 353, 354, 23, 355, 74, 356, 357, 358, 359, 360, 361, 362, 363, 364, 365, 366, 367, 368, 369, 370, 371, 164, 128, 129, 130, 372, 373, 374, 375, 376, 132, 133, 134, 151, 152, 153, 154, 429, 430, 431, 432, 433, 434, 435, 436, 437, 438, 439, 458, 440, 441, 446, 447, 448, 449, 450, 451, 452, 453, 454, 455] (by decide +kernel) (by decide +kernel)
set_option maxRecDepth 20000 in
theorem gL_law_X6_setWidth : GoodIn wsL_law (wsV RL 51 RX6 yX6_setWidth wsX6_setWidth) := goodIn_app (goodIn_of _ (by decide +kernel)) ggL_law_X6_setWidth
set_option maxRecDepth 20000 in
theorem ggL_law_X6_setSlack : GoodIn wsL_law wsX6_setSlack := goodIn_r _ [380, 12, 102, 215, 216, 2, 217, 335, 336, 337, 338, 16, 24, 339, 340, 341, 15, 342, 55, 57, 343, 344, 345, 346, 347, 348, 349, 350, 351, 253, 254, 11, 255, 32, 33, 34, 38, 39, 40, 256, 257, 258, 37, 259, 50, 260, 115, 116, 117, 352, 353, 354, 23, 355, 74, 429, 430, 431, 432, 433, 434, 435, 436, 437, 438, 439, 440, 441, 458, 446, 447, 448, 449, 450, 451, 452, 453, 454, 455] (by decide +kernel) (by decide +kernel)
set_option maxRecDepth 20000 in
theorem gL_law_X6_setSlack : GoodIn wsL_law (wsV RL 54 RX6 yX6_setSlack wsX6_setSlack) := goodIn_app (goodIn_of _ (by decide +kernel)) ggL_law_X6_setSlack
