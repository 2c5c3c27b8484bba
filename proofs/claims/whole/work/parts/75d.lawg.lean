set_option maxRecDepth 20000 in
theorem ggL_law_X6_dam : GoodIn wsL_law wsX6_dam := goodIn_r _ [636, 27, 15, 118, 119, 2, 120, 538, 539, 540, 26, 541, 77, 79, 75, 76, 73, 74, 542, 146, 147, 14, 148, 35, 36, 37, 41, 42, 43, 149, 150, 151, 40, 152, 53, 153, 126, 127, 128, 543, 544, 545, 546, 84, 547, 83, 548, 363, 50, 364, 549, 183, 184, 185, 550, 551, 552, 553, 554, 555, 556, 557, 558, 559, 125, 370, 280, 281, 282, 560, 175, 176, 177, 561, 562, 563, 564, 565, 245, 246, 247, 566, 567, 372, 373, 374, 174, 568, 569, 570, 571, 572, 573, 574, 81, 85, 575, 49, 51, 576, 577, 578, 579, 86, 580, 581, 340, 341, 22, 342, 68, 343, 344, 345, 346, 347, 337, 65, 66, 67, 348, 349, 350, 351, 352, 353, 354, 355, 356, 357, 358, 359, 360, 361, 362, 365, 582, 583, 584, 585, 586, 587, 588, 589, 129, 130, 131, 132, 19, 133, 134, 135, 18, 136, 58, 60, 137, 138, 139, 140, 141, 142, 143, 144, 145, 154, 155, 156, 157, 637, 638, 639, 640, 641, 163, 164, 165, 166, 167, 168, 169, 642, 179, 180, 181, 182, 707, 708, 709, 710, 711, 743, 744, 745, 746, 747, 748, 749, 750, 751, 752, 731, 732, 733, 734, 735, 736, 755, 739, 740, 741, 742, 737, 738] (by decide +kernel) (by decide +kernel)
set_option maxRecDepth 20000 in
theorem gL_law_X6_dam : GoodIn wsL_law (wsV RL 85 RX6 yX6_dam wsX6_dam) := goodIn_app (goodIn_of _ (by decide +kernel)) ggL_law_X6_dam
set_option maxRecDepth 20000 in
theorem ggL_law_X7_dam : GoodIn wsL_law wsX7_dam := goodIn_r _ [646, 599, 112, 108, 99, 598, 602, 603, 5, 604, 194, 195, 196, 605, 606, 607, 608, 107, 109, 110, 600, 111, 210, 211, 212, 213, 214, 215, 216, 217, 218, 219, 220, 221, 609, 610, 611, 612, 601, 613, 614, 615, 616, 617, 618, 619, 620, 254, 255, 256, 257, 295, 296, 297, 298, 418, 419, 420, 421, 103, 104, 105, 106, 422, 423, 424, 425, 201, 202, 203, 204, 205, 100, 712, 713, 714, 715, 716, 717, 718, 719, 720, 721, 722, 723, 724, 725, 726, 727, 728, 729, 730] (by decide +kernel) (by decide +kernel)
set_option maxRecDepth 20000 in
theorem gL_law_X7_dam : GoodIn wsL_law (wsV RL 88 RX7 yX7_dam wsX7_dam) := goodIn_app (goodIn_of _ (by decide +kernel)) ggL_law_X7_dam
set_option maxRecDepth 20000 in
theorem ggL_law_X6_leastRiver : GoodIn wsL_law wsX6_leastRiver := goodIn_r _ [650, 27, 15, 538, 539, 540, 26, 541, 77, 79, 75, 76, 73, 74, 542, 146, 147, 14, 148, 35, 36, 37, 41, 42, 43, 149, 150, 151, 40, 152, 53, 153, 126, 127, 128, 543, 544, 545, 546, 84, 547, 83, 548, 363, 50, 364, 549, 183, 184, 185, 550, 551, 552, 553, 554, 555, 556, 557, 558, 559, 125, 370, 280, 281, 282, 560, 175, 176, 177, 561, 562, 563, 564, 565, 245, 246, 247, 566, 567, 372, 373, 374, 174, 568, 569, 570, 571, 572, 573, 574, 81, 85, 575, 49, 51, 576, 577, 578, 579, 86, 580, 581, 340, 341, 22, 342, 68, 343, 344, 345, 346, 347, 337, 65, 66, 67, 348, 349, 350, 351, 352, 353, 354, 355, 356, 357, 358, 359, 360, 361, 362, 365, 582, 583, 584, 585, 707, 708, 709, 710, 711, 743, 744, 745, 746, 747, 748, 749, 750, 751, 752, 731, 732, 733, 734, 735, 736, 755, 739, 740, 741, 742] (by decide +kernel) (by decide +kernel)
set_option maxRecDepth 20000 in
theorem gL_law_X6_leastRiver : GoodIn wsL_law (wsV RL 89 RX6 yX6_leastRiver wsX6_leastRiver) := goodIn_app (goodIn_of _ (by decide +kernel)) ggL_law_X6_leastRiver
set_option maxRecDepth 20000 in
theorem ggL_law_X7_leastRiver : GoodIn wsL_law wsX7_leastRiver := goodIn_r _ [654, 605, 606, 607, 5, 608, 598, 108, 107, 99, 109, 110, 600, 111, 210, 211, 212, 213, 214, 215, 216, 217, 218, 219, 220, 221, 609, 610, 611, 612, 599, 601, 112, 613, 614, 615, 616, 617, 618, 619, 620, 254, 255, 256, 257, 295, 296, 297, 298, 418, 419, 420, 421, 103, 104, 105, 106, 422, 423, 424, 425, 712, 713, 714, 715, 716, 717, 718, 719, 720, 721, 722, 723, 724, 725, 726, 727, 728, 729, 730] (by decide +kernel) (by decide +kernel)
set_option maxRecDepth 20000 in
theorem gL_law_X7_leastRiver : GoodIn wsL_law (wsV RL 92 RX7 yX7_leastRiver wsX7_leastRiver) := goodIn_app (goodIn_of _ (by decide +kernel)) ggL_law_X7_leastRiver
set_option maxRecDepth 20000 in
theorem ggL_law_X6_type : GoodIn wsL_law wsX6_type := goodIn_r _ [658, 31, 332, 118, 119, 2, 120, 659, 660, 661, 30, 662, 93, 91, 663, 183, 184, 40, 185, 53, 707, 708, 709, 710, 711, 753, 754, 755] (by decide +kernel) (by decide +kernel)
set_option maxRecDepth 20000 in
theorem gL_law_X6_type : GoodIn wsL_law (wsV RL 93 RX6 yX6_type wsX6_type) := goodIn_app (goodIn_of _ (by decide +kernel)) ggL_law_X6_type
set_option maxRecDepth 20000 in
theorem ggL_law_X7_type : GoodIn wsL_law wsX7_type := goodIn_r _ [667, 401, 102, 194, 195, 5, 196, 712, 713, 714, 715, 716, 717, 718, 719, 720, 721, 722, 723, 724, 725, 726, 727, 728, 729, 730] (by decide +kernel) (by decide +kernel)
set_option maxRecDepth 20000 in
theorem gL_law_X7_type : GoodIn wsL_law (wsV RL 96 RX7 yX7_type wsX7_type) := goodIn_app (goodIn_of _ (by decide +kernel)) ggL_law_X7_type
set_option maxRecDepth 20000 in
theorem ggL_law_X6_clearText : GoodIn wsL_law wsX6_clearText := goodIn_r _ [671, 31, 332, 707, 708, 709, 710, 711, 753, 754] (by decide +kernel) (by decide +kernel)
set_option maxRecDepth 20000 in
theorem gL_law_X6_clearText : GoodIn wsL_law (wsV RL 97 RX6 yX6_clearText wsX6_clearText) := goodIn_app (goodIn_of _ (by decide +kernel)) ggL_law_X6_clearText
set_option maxRecDepth 20000 in
theorem ggL_law_X7_clearText : GoodIn wsL_law wsX7_clearText := goodIn_r _ [675, 401, 712, 713, 714, 715, 716, 717, 718, 719, 720, 721, 722, 723, 724, 725, 726, 727, 728, 729, 730] (by decide +kernel) (by decide +kernel)
set_option maxRecDepth 20000 in
theorem gL_law_X7_clearText : GoodIn wsL_law (wsV RL 100 RX7 yX7_clearText wsX7_clearText) := goodIn_app (goodIn_of _ (by decide +kernel)) ggL_law_X7_clearText
set_option maxRecDepth 20000 in
theorem ggL_law_X6_fault : GoodIn wsL_law wsX6_fault := goodIn_r _ [679, 31, 680, 681, 682, 30, 683, 91, 93, 684, 126, 127, 40, 128, 53, 707, 708, 709, 710, 711, 753, 754, 755] (by decide +kernel) (by decide +kernel)
set_option maxRecDepth 20000 in
theorem gL_law_X6_fault : GoodIn wsL_law (wsV RL 101 RX6 yX6_fault wsX6_fault) := goodIn_app (goodIn_of _ (by decide +kernel)) ggL_law_X6_fault
set_option maxRecDepth 20000 in
theorem ggL_law_X7_fault : GoodIn wsL_law wsX7_fault := goodIn_r _ [688, 401, 102, 712, 713, 714, 715, 716, 717, 718, 719, 720, 721, 722, 723, 724, 725, 726, 727, 728, 729, 730] (by decide +kernel) (by decide +kernel)
set_option maxRecDepth 20000 in
theorem gL_law_X7_fault : GoodIn wsL_law (wsV RL 104 RX7 yX7_fault wsX7_fault) := goodIn_app (goodIn_of _ (by decide +kernel)) ggL_law_X7_fault
set_option maxRecDepth 20000 in
theorem ggL_law_X6_read : GoodIn wsL_law wsX6_read := goodIn_r _ [692, 31, 15, 235, 680, 681, 682, 30, 683, 91, 93, 684, 126, 127, 40, 128, 53, 129, 130, 131, 2, 132, 19, 27, 133, 134, 135, 18, 136, 58, 60, 137, 138, 139, 140, 141, 142, 143, 144, 145, 146, 147, 14, 148, 35, 36, 37, 41, 42, 43, 149, 150, 151, 152, 153, 154, 155, 156, 26, 157, 77, 693, 694, 695, 696, 697, 698, 699, 700, 166, 167, 168, 169, 701, 241, 242, 243, 182, 183, 184, 185, 158, 159, 160, 161, 162, 163, 164, 165, 170, 171, 172, 173, 174, 175, 176, 177, 125, 178, 179, 180, 181, 707, 708, 709, 710, 711, 731, 732, 733, 734, 735, 736, 753, 754, 755, 737, 738, 743, 744, 745, 746, 747, 748, 749, 750, 751, 752] (by decide +kernel) (by decide +kernel)
set_option maxRecDepth 20000 in
theorem gL_law_X6_read : GoodIn wsL_law (wsV RL 105 RX6 yX6_read wsX6_read) := goodIn_app (goodIn_of _ (by decide +kernel)) ggL_law_X6_read
set_option maxRecDepth 20000 in
theorem ggL_law_X7_read : GoodIn wsL_law wsX7_read := goodIn_r _ [705, 99, 401, 102, 706, 686, 687, 5, 688, 201, 202, 203, 204, 205, 100, 206, 207, 208, 209, 210, 211, 212, 213, 214, 215, 216, 217, 218, 219, 220, 221, 712, 713, 714, 715, 716, 717, 718, 719, 720, 721, 722, 723, 724, 725, 726, 727, 728, 729, 730] (by decide +kernel) (by decide +kernel)
set_option maxRecDepth 20000 in
theorem gL_law_X7_read : GoodIn wsL_law (wsV RL 108 RX7 yX7_read wsX7_read) := goodIn_app (goodIn_of _ (by decide +kernel)) ggL_law_X7_read
