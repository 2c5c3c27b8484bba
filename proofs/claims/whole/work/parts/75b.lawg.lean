set_option maxRecDepth 20000 in
theorem ggL_law_X6_push : GoodIn wsL_law wsX6_push := goodIn_r _ [302, 15, 235, 274, 275, 276, 14, 277, 278, 187, 188, 189, 37, 42, 125, 126, 127, 40, 128, 53, 236, 237, 238, 239, 279, 280, 281, 282, 244, 245, 246, 247, 43, 248, 171, 172, 173, 174, 175, 176, 177, 35, 41, 129, 130, 131, 2, 132, 19, 27, 133, 134, 135, 18, 136, 58, 60, 137, 138, 139, 140, 141, 142, 143, 144, 145, 146, 147, 148, 36, 149, 150, 151, 152, 153, 154, 155, 156, 26, 157, 77, 249, 179, 180, 181, 182, 183, 184, 185, 283, 284, 285, 286, 186, 707, 708, 709, 710, 711, 731, 732, 733, 734, 735, 736, 755, 737, 738, 743, 744, 745, 746, 747, 748, 749, 750, 751, 752] (by decide +kernel) (by decide +kernel)
set_option maxRecDepth 20000 in
theorem gL_law_X6_push : GoodIn wsL_law (wsV RL 35 RX6 yX6_push wsX6_push) := goodIn_app (goodIn_of _ (by decide +kernel)) ggL_law_X6_push
set_option maxRecDepth 20000 in
theorem ggL_law_X7_push : GoodIn wsL_law wsX7_push := goodIn_r _ [306, 99, 291, 292, 293, 5, 294, 194, 195, 196, 295, 296, 297, 298, 254, 255, 256, 257, 214, 215, 216, 217, 218, 219, 220, 221, 201, 202, 203, 204, 205, 100, 712, 713, 714, 715, 716, 717, 718, 719, 720, 721, 722, 723, 724, 725, 726, 727, 728, 729, 730] (by decide +kernel) (by decide +kernel)
set_option maxRecDepth 20000 in
theorem gL_law_X7_push : GoodIn wsL_law (wsV RL 38 RX7 yX7_push wsX7_push) := goodIn_app (goodIn_of _ (by decide +kernel)) ggL_law_X7_push
set_option maxRecDepth 20000 in
theorem ggL_law_X6_freeze : GoodIn wsL_law wsX6_freeze := goodIn_r _ [310, 15, 274, 275, 276, 14, 277, 278, 187, 188, 189, 37, 42, 125, 126, 127, 40, 128, 53, 118, 119, 2, 120, 129, 130, 131, 132, 19, 27, 133, 134, 135, 18, 136, 58, 60, 137, 138, 139, 140, 141, 142, 143, 144, 145, 146, 147, 148, 35, 36, 41, 43, 149, 150, 151, 152, 153, 154, 155, 156, 26, 157, 77, 236, 237, 238, 239, 244, 245, 246, 247, 311, 312, 313, 314, 182, 183, 184, 185, 707, 708, 709, 710, 711, 731, 732, 733, 734, 735, 736, 755, 737, 738, 743, 744, 745, 746, 747, 748, 749, 750, 751, 752] (by decide +kernel) (by decide +kernel)
set_option maxRecDepth 20000 in
theorem gL_law_X6_freeze : GoodIn wsL_law (wsV RL 39 RX6 yX6_freeze wsX6_freeze) := goodIn_app (goodIn_of _ (by decide +kernel)) ggL_law_X6_freeze
set_option maxRecDepth 20000 in
theorem ggL_law_X7_freeze : GoodIn wsL_law wsX7_freeze := goodIn_r _ [318, 99, 291, 292, 293, 5, 294, 194, 195, 196, 201, 202, 203, 204, 205, 100, 712, 713, 714, 715, 716, 717, 718, 719, 720, 721, 722, 723, 724, 725, 726, 727, 728, 729, 730] (by decide +kernel) (by decide +kernel)
set_option maxRecDepth 20000 in
theorem gL_law_X7_freeze : GoodIn wsL_law (wsV RL 43 RX7 yX7_freeze wsX7_freeze) := goodIn_app (goodIn_of _ (by decide +kernel)) ggL_law_X7_freeze
set_option maxRecDepth 20000 in
theorem ggL_law_X6_reflow : GoodIn wsL_law wsX6_reflow := goodIn_r _ [322, 15, 121, 122, 123, 14, 124, 37, 43, 125, 126, 127, 40, 128, 53, 129, 130, 131, 2, 132, 19, 27, 133, 134, 135, 18, 136, 58, 60, 137, 138, 139, 140, 141, 142, 143, 144, 145, 146, 147, 148, 35, 36, 41, 42, 149, 150, 151, 152, 153, 154, 155, 156, 26, 157, 77, 158, 159, 160, 161, 162, 163, 164, 165, 166, 167, 168, 169, 170, 171, 172, 173, 174, 175, 176, 177, 178, 179, 180, 181, 182, 183, 184, 185, 186, 187, 188, 189, 707, 708, 709, 710, 711, 731, 732, 733, 734, 735, 736, 755, 737, 738, 743, 744, 745, 746, 747, 748, 749, 750, 751, 752] (by decide +kernel) (by decide +kernel)
set_option maxRecDepth 20000 in
theorem gL_law_X6_reflow : GoodIn wsL_law (wsV RL 44 RX6 yX6_reflow wsX6_reflow) := goodIn_app (goodIn_of _ (by decide +kernel)) ggL_law_X6_reflow
set_option maxRecDepth 20000 in
theorem ggL_law_X7_reflow : GoodIn wsL_law wsX7_reflow := goodIn_r _ [326, 99, 197, 198, 199, 5, 200, 201, 202, 203, 204, 205, 100, 206, 207, 208, 209, 210, 211, 212, 213, 214, 215, 216, 217, 218, 219, 220, 221, 712, 713, 714, 715, 716, 717, 718, 719, 720, 721, 722, 723, 724, 725, 726, 727, 728, 729, 730] (by decide +kernel) (by decide +kernel)
set_option maxRecDepth 20000 in
theorem gL_law_X7_reflow : GoodIn wsL_law (wsV RL 47 RX7 yX7_reflow wsX7_reflow) := goodIn_app (goodIn_of _ (by decide +kernel)) ggL_law_X7_reflow
set_option maxRecDepth 20000 in
theorem ggL_law_X6_count : GoodIn wsL_law wsX6_count := goodIn_r _ [330, 23, 15, 235, 117, 226, 19, 331, 31, 332, 333, 334, 335, 22, 336, 337, 338, 280, 281, 14, 282, 37, 42, 125, 126, 127, 40, 128, 53, 339, 340, 341, 342, 68, 343, 49, 50, 51, 344, 345, 346, 347, 65, 66, 67, 348, 175, 176, 177, 35, 41, 349, 183, 184, 185, 350, 351, 352, 353, 354, 355, 356, 357, 358, 359, 360, 361, 362, 363, 364, 365, 186, 187, 188, 189, 366, 367, 368, 369, 370, 371, 372, 373, 374, 174, 375, 376, 377, 378, 379, 380, 381, 382, 383, 384, 385, 386, 387, 237, 238, 239, 388, 389, 390, 391, 121, 122, 123, 124, 43, 392, 393, 394, 395, 396, 707, 708, 709, 710, 711, 731, 732, 733, 734, 735, 736, 737, 738, 753, 754, 755, 739, 740, 741, 742] (by decide +kernel) (by decide +kernel)
set_option maxRecDepth 20000 in
theorem gL_law_X6_count : GoodIn wsL_law (wsV RL 48 RX6 yX6_count wsX6_count) := goodIn_app (goodIn_of _ (by decide +kernel)) ggL_law_X6_count
set_option maxRecDepth 20000 in
theorem ggL_law_X7_count : GoodIn wsL_law wsX7_count := goodIn_r _ [400, 99, 205, 401, 402, 403, 404, 5, 405, 406, 407, 408, 409, 410, 411, 412, 413, 254, 255, 256, 257, 295, 296, 297, 298, 218, 219, 220, 221, 414, 415, 416, 417, 418, 419, 420, 421, 103, 104, 105, 106, 422, 423, 424, 425, 426, 427, 428, 429, 430, 431, 432, 433, 434, 435, 436, 437, 197, 198, 199, 200, 712, 713, 714, 715, 716, 717, 718, 719, 720, 721, 722, 723, 724, 725, 726, 727, 728, 729, 730] (by decide +kernel) (by decide +kernel)
set_option maxRecDepth 20000 in
theorem gL_law_X7_count : GoodIn wsL_law (wsV RL 51 RX7 yX7_count wsX7_count) := goodIn_app (goodIn_of _ (by decide +kernel)) ggL_law_X7_count
set_option maxRecDepth 20000 in
theorem ggL_law_X6_word : GoodIn wsL_law wsX6_word := goodIn_r _ [441, 15, 235, 23, 118, 119, 2, 120, 333, 334, 335, 22, 336, 337, 338, 280, 281, 14, 282, 37, 42, 125, 126, 127, 40, 128, 53, 339, 340, 341, 342, 68, 343, 49, 50, 51, 344, 345, 346, 347, 65, 66, 67, 348, 175, 176, 177, 35, 41, 349, 183, 184, 185, 350, 351, 352, 353, 354, 355, 356, 357, 358, 359, 360, 361, 362, 363, 364, 365, 442, 443, 384, 385, 386, 444, 445, 446, 447, 707, 708, 709, 710, 711, 731, 732, 733, 734, 735, 736, 755, 739, 740, 741, 742] (by decide +kernel) (by decide +kernel)
set_option maxRecDepth 20000 in
theorem gL_law_X6_word : GoodIn wsL_law (wsV RL 52 RX6 yX6_word wsX6_word) := goodIn_app (goodIn_of _ (by decide +kernel)) ggL_law_X6_word
set_option maxRecDepth 20000 in
theorem ggL_law_X7_word : GoodIn wsL_law wsX7_word := goodIn_r _ [451, 99, 103, 194, 195, 5, 196, 414, 415, 416, 417, 254, 255, 256, 257, 295, 296, 297, 298, 418, 419, 420, 421, 104, 105, 106, 218, 219, 220, 221, 422, 423, 424, 425, 452, 453, 454, 455, 712, 713, 714, 715, 716, 717, 718, 719, 720, 721, 722, 723, 724, 725, 726, 727, 728, 729, 730] (by decide +kernel) (by decide +kernel)
set_option maxRecDepth 20000 in
theorem gL_law_X7_word : GoodIn wsL_law (wsV RL 55 RX7 yX7_word wsX7_word) := goodIn_app (goodIn_of _ (by decide +kernel)) ggL_law_X7_word
set_option maxRecDepth 20000 in
theorem ggL_law_X6_line : GoodIn wsL_law wsX6_line := goodIn_r _ [459, 15, 23, 274, 275, 276, 14, 277, 278, 187, 188, 189, 37, 42, 125, 126, 127, 40, 128, 53, 236, 237, 238, 239, 279, 280, 281, 282, 333, 334, 335, 22, 336, 337, 338, 339, 340, 341, 342, 68, 343, 49, 50, 51, 344, 345, 346, 347, 65, 66, 67, 348, 175, 176, 177, 35, 41, 349, 183, 184, 185, 350, 351, 352, 353, 354, 355, 356, 357, 358, 359, 360, 361, 362, 363, 364, 365, 460, 461, 372, 373, 374, 174, 244, 245, 246, 247, 43, 375, 376, 377, 378, 707, 708, 709, 710, 711, 731, 732, 733, 734, 735, 736, 755, 739, 740, 741, 742] (by decide +kernel) (by decide +kernel)
set_option maxRecDepth 20000 in
theorem gL_law_X6_line : GoodIn wsL_law (wsV RL 56 RX6 yX6_line wsX6_line) := goodIn_app (goodIn_of _ (by decide +kernel)) ggL_law_X6_line
set_option maxRecDepth 20000 in
theorem ggL_law_X7_line : GoodIn wsL_law wsX7_line := goodIn_r _ [465, 99, 106, 291, 292, 293, 5, 294, 194, 195, 196, 254, 255, 256, 257, 295, 296, 297, 298, 410, 411, 412, 413, 218, 219, 220, 221, 406, 407, 408, 409, 414, 415, 416, 417, 418, 419, 420, 421, 103, 104, 105, 422, 423, 424, 425, 712, 713, 714, 715, 716, 717, 718, 719, 720, 721, 722, 723, 724, 725, 726, 727, 728, 729, 730] (by decide +kernel) (by decide +kernel)
set_option maxRecDepth 20000 in
theorem gL_law_X7_line : GoodIn wsL_law (wsV RL 59 RX7 yX7_line wsX7_line) := goodIn_app (goodIn_of _ (by decide +kernel)) ggL_law_X7_line
