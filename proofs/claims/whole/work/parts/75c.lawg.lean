set_option maxRecDepth 20000 in
theorem ggL_law_X6_undo : GoodIn wsL_law wsX6_undo := goodIn_r _ [469, 19, 331, 15, 27, 470, 471, 472, 18, 473, 58, 141, 142, 143, 144, 60, 145, 146, 147, 14, 148, 35, 36, 37, 41, 42, 43, 149, 150, 151, 40, 152, 53, 153, 126, 127, 128, 154, 155, 156, 26, 157, 77, 707, 708, 709, 710, 711, 737, 738, 731, 732, 733, 734, 735, 736, 755, 743, 744, 745, 746, 747, 748, 749, 750, 751, 752] (by decide +kernel) (by decide +kernel)
set_option maxRecDepth 20000 in
theorem gL_law_X6_undo : GoodIn wsL_law (wsV RL 60 RX6 yX6_undo wsX6_undo) := goodIn_app (goodIn_of _ (by decide +kernel)) ggL_law_X6_undo
set_option maxRecDepth 20000 in
theorem ggL_law_X7_undo : GoodIn wsL_law wsX7_undo := goodIn_r _ [477, 205, 99, 100, 712, 713, 714, 715, 716, 717, 718, 719, 720, 721, 722, 723, 724, 725, 726, 727, 728, 729, 730] (by decide +kernel) (by decide +kernel)
set_option maxRecDepth 20000 in
theorem gL_law_X7_undo : GoodIn wsL_law (wsV RL 63 RX7 yX7_undo wsX7_undo) := goodIn_app (goodIn_of _ (by decide +kernel)) ggL_law_X7_undo
set_option maxRecDepth 20000 in
theorem ggL_law_X6_gap : GoodIn wsL_law wsX6_gap := goodIn_r _ [481, 15, 23, 274, 275, 276, 14, 277, 278, 187, 188, 189, 37, 42, 125, 126, 127, 40, 128, 53, 236, 237, 238, 239, 279, 280, 281, 282, 118, 119, 2, 120, 333, 334, 335, 22, 336, 337, 338, 339, 340, 341, 342, 68, 343, 49, 50, 51, 344, 345, 346, 347, 65, 66, 67, 348, 175, 176, 177, 35, 41, 349, 183, 184, 185, 350, 351, 352, 353, 354, 355, 356, 357, 358, 359, 360, 361, 362, 363, 364, 365, 482, 483, 484, 485, 486, 487, 488, 489, 490, 491, 492, 493, 494, 389, 390, 391, 707, 708, 709, 710, 711, 731, 732, 733, 734, 735, 736, 755, 739, 740, 741, 742] (by decide +kernel) (by decide +kernel)
set_option maxRecDepth 20000 in
theorem gL_law_X6_gap : GoodIn wsL_law (wsV RL 64 RX6 yX6_gap wsX6_gap) := goodIn_app (goodIn_of _ (by decide +kernel)) ggL_law_X6_gap
set_option maxRecDepth 20000 in
theorem ggL_law_X7_gap : GoodIn wsL_law wsX7_gap := goodIn_r _ [498, 104, 105, 106, 291, 292, 293, 5, 294, 99, 194, 195, 196, 295, 296, 297, 298, 254, 255, 256, 257, 414, 415, 416, 417, 418, 419, 420, 421, 103, 218, 219, 220, 221, 422, 423, 424, 425, 430, 431, 432, 433, 434, 435, 436, 437, 499, 500, 501, 502, 712, 713, 714, 715, 716, 717, 718, 719, 720, 721, 722, 723, 724, 725, 726, 727, 728, 729, 730] (by decide +kernel) (by decide +kernel)
set_option maxRecDepth 20000 in
theorem gL_law_X7_gap : GoodIn wsL_law (wsV RL 68 RX7 yX7_gap wsX7_gap) := goodIn_app (goodIn_of _ (by decide +kernel)) ggL_law_X7_gap
set_option maxRecDepth 20000 in
theorem ggL_law_X6_river : GoodIn wsL_law wsX6_river := goodIn_r _ [506, 23, 15, 235, 118, 119, 2, 120, 333, 334, 335, 22, 336, 337, 338, 280, 281, 14, 282, 37, 42, 125, 126, 127, 40, 128, 53, 339, 340, 341, 342, 68, 343, 49, 50, 51, 344, 345, 346, 347, 65, 66, 67, 348, 175, 176, 177, 35, 41, 349, 183, 184, 185, 350, 351, 352, 353, 354, 355, 356, 357, 358, 359, 360, 361, 362, 363, 364, 365, 375, 376, 377, 378, 507, 508, 509, 510, 511, 512, 513, 514, 443, 384, 385, 386, 236, 237, 238, 239, 515, 490, 491, 492, 493, 707, 708, 709, 710, 711, 731, 732, 733, 734, 735, 736, 755, 739, 740, 741, 742] (by decide +kernel) (by decide +kernel)
set_option maxRecDepth 20000 in
theorem gL_law_X6_river : GoodIn wsL_law (wsV RL 69 RX6 yX6_river wsX6_river) := goodIn_app (goodIn_of _ (by decide +kernel)) ggL_law_X6_river
set_option maxRecDepth 20000 in
theorem ggL_law_X7_river : GoodIn wsL_law wsX7_river := goodIn_r _ [519, 106, 194, 195, 5, 196, 414, 415, 416, 417, 99, 254, 255, 256, 257, 295, 296, 297, 298, 418, 419, 420, 421, 103, 104, 105, 218, 219, 220, 221, 422, 423, 424, 425, 452, 453, 454, 455, 712, 713, 714, 715, 716, 717, 718, 719, 720, 721, 722, 723, 724, 725, 726, 727, 728, 729, 730] (by decide +kernel) (by decide +kernel)
set_option maxRecDepth 20000 in
theorem gL_law_X7_river : GoodIn wsL_law (wsV RL 72 RX7 yX7_river wsX7_river) := goodIn_app (goodIn_of _ (by decide +kernel)) ggL_law_X7_river
set_option maxRecDepth 20000 in
theorem ggL_law_X6_at : GoodIn wsL_law wsX6_at := goodIn_r _ [523, 15, 117, 23, 274, 275, 276, 14, 277, 278, 187, 188, 189, 37, 42, 125, 126, 127, 40, 128, 53, 118, 119, 2, 120, 333, 334, 335, 22, 336, 337, 338, 280, 281, 282, 339, 340, 341, 342, 68, 343, 49, 50, 51, 344, 345, 346, 347, 65, 66, 67, 348, 175, 176, 177, 35, 41, 349, 183, 184, 185, 350, 351, 352, 353, 354, 355, 356, 357, 358, 359, 360, 361, 362, 363, 364, 365, 236, 237, 238, 239, 279, 444, 445, 446, 447, 442, 707, 708, 709, 710, 711, 731, 732, 733, 734, 735, 736, 755, 739, 740, 741, 742] (by decide +kernel) (by decide +kernel)
set_option maxRecDepth 20000 in
theorem gL_law_X6_at : GoodIn wsL_law (wsV RL 73 RX6 yX6_at wsX6_at) := goodIn_app (goodIn_of _ (by decide +kernel)) ggL_law_X6_at
set_option maxRecDepth 20000 in
theorem ggL_law_X7_at : GoodIn wsL_law wsX7_at := goodIn_r _ [527, 99, 291, 292, 293, 5, 294, 194, 195, 196, 414, 415, 416, 417, 254, 255, 256, 257, 295, 296, 297, 298, 418, 419, 420, 421, 103, 104, 105, 106, 218, 219, 220, 221, 422, 423, 424, 425, 528, 529, 530, 531, 712, 713, 714, 715, 716, 717, 718, 719, 720, 721, 722, 723, 724, 725, 726, 727, 728, 729, 730] (by decide +kernel) (by decide +kernel)
set_option maxRecDepth 20000 in
theorem gL_law_X7_at : GoodIn wsL_law (wsV RL 76 RX7 yX7_at wsX7_at) := goodIn_app (goodIn_of _ (by decide +kernel)) ggL_law_X7_at
set_option maxRecDepth 20000 in
theorem ggL_law_X6_plan : GoodIn wsL_law wsX6_plan := goodIn_r _ [535, 27, 15, 536, 537, 118, 119, 2, 120, 538, 539, 540, 26, 541, 77, 79, 75, 76, 73, 74, 542, 146, 147, 14, 148, 35, 36, 37, 41, 42, 43, 149, 150, 151, 40, 152, 53, 153, 126, 127, 128, 543, 544, 545, 546, 84, 547, 83, 548, 363, 50, 364, 549, 183, 184, 185, 550, 551, 552, 553, 554, 555, 556, 557, 558, 559, 125, 370, 280, 281, 282, 560, 175, 176, 177, 561, 562, 563, 564, 565, 245, 246, 247, 566, 567, 372, 373, 374, 174, 568, 569, 570, 571, 572, 573, 574, 81, 85, 575, 49, 51, 576, 577, 578, 579, 86, 580, 581, 340, 341, 22, 342, 68, 343, 344, 345, 346, 347, 337, 65, 66, 67, 348, 349, 350, 351, 352, 353, 354, 355, 356, 357, 358, 359, 360, 361, 362, 365, 582, 583, 584, 585, 586, 587, 588, 589, 590, 591, 592, 593, 707, 708, 709, 710, 711, 743, 744, 745, 746, 747, 748, 749, 750, 751, 752, 731, 732, 733, 734, 735, 736, 755, 739, 740, 741, 742] (by decide +kernel) (by decide +kernel)
set_option maxRecDepth 20000 in
theorem gL_law_X6_plan : GoodIn wsL_law (wsV RL 77 RX6 yX6_plan wsX6_plan) := goodIn_app (goodIn_of _ (by decide +kernel)) ggL_law_X6_plan
set_option maxRecDepth 20000 in
theorem ggL_law_X7_plan : GoodIn wsL_law wsX7_plan := goodIn_r _ [597, 598, 599, 600, 601, 602, 603, 5, 604, 194, 195, 196, 605, 606, 607, 608, 108, 107, 99, 109, 110, 111, 210, 211, 212, 213, 214, 215, 216, 217, 218, 219, 220, 221, 609, 610, 611, 612, 112, 613, 614, 615, 616, 617, 618, 619, 620, 254, 255, 256, 257, 295, 296, 297, 298, 418, 419, 420, 421, 103, 104, 105, 106, 422, 423, 424, 425, 712, 713, 714, 715, 716, 717, 718, 719, 720, 721, 722, 723, 724, 725, 726, 727, 728, 729, 730] (by decide +kernel) (by decide +kernel)
set_option maxRecDepth 20000 in
theorem gL_law_X7_plan : GoodIn wsL_law (wsV RL 80 RX7 yX7_plan wsX7_plan) := goodIn_app (goodIn_of _ (by decide +kernel)) ggL_law_X7_plan
set_option maxRecDepth 20000 in
theorem ggL_law_X6_planned : GoodIn wsL_law wsX6_planned := goodIn_r _ [624, 27, 15, 536, 118, 119, 2, 120, 538, 539, 540, 26, 541, 77, 79, 75, 76, 73, 74, 542, 146, 147, 14, 148, 35, 36, 37, 41, 42, 43, 149, 150, 151, 40, 152, 53, 153, 126, 127, 128, 543, 544, 545, 546, 84, 547, 83, 548, 363, 50, 364, 549, 183, 184, 185, 550, 551, 552, 553, 554, 555, 556, 557, 558, 559, 125, 370, 280, 281, 282, 560, 175, 176, 177, 561, 562, 563, 564, 565, 245, 246, 247, 566, 567, 372, 373, 374, 174, 568, 569, 570, 571, 572, 573, 574, 81, 85, 575, 49, 51, 576, 577, 578, 579, 86, 580, 581, 340, 341, 22, 342, 68, 343, 344, 345, 346, 347, 337, 65, 66, 67, 348, 349, 350, 351, 352, 353, 354, 355, 356, 357, 358, 359, 360, 361, 362, 365, 582, 583, 584, 585, 625, 626, 627, 628, 707, 708, 709, 710, 711, 743, 744, 745, 746, 747, 748, 749, 750, 751, 752, 731, 732, 733, 734, 735, 736, 755, 739, 740, 741, 742] (by decide +kernel) (by decide +kernel)
set_option maxRecDepth 20000 in
theorem gL_law_X6_planned : GoodIn wsL_law (wsV RL 81 RX6 yX6_planned wsX6_planned) := goodIn_app (goodIn_of _ (by decide +kernel)) ggL_law_X6_planned
set_option maxRecDepth 20000 in
theorem ggL_law_X7_planned : GoodIn wsL_law wsX7_planned := goodIn_r _ [632, 599, 112, 602, 603, 5, 604, 194, 195, 196, 605, 606, 607, 608, 598, 108, 107, 99, 109, 110, 600, 111, 210, 211, 212, 213, 214, 215, 216, 217, 218, 219, 220, 221, 609, 610, 611, 612, 601, 613, 614, 615, 616, 617, 618, 619, 620, 254, 255, 256, 257, 295, 296, 297, 298, 418, 419, 420, 421, 103, 104, 105, 106, 422, 423, 424, 425, 712, 713, 714, 715, 716, 717, 718, 719, 720, 721, 722, 723, 724, 725, 726, 727, 728, 729, 730] (by decide +kernel) (by decide +kernel)
set_option maxRecDepth 20000 in
theorem gL_law_X7_planned : GoodIn wsL_law (wsV RL 84 RX7 yX7_planned wsX7_planned) := goodIn_app (goodIn_of _ (by decide +kernel)) ggL_law_X7_planned
