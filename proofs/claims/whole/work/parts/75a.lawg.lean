set_option maxRecDepth 20000 in
theorem ggL_law_X6_init : GoodIn wsL_law wsX6_init := goodIn_r _ [8, 9, 10, 11, 12, 13, 14, 15, 16, 17, 18, 19, 20, 21, 22, 23, 24, 25, 26, 27, 28, 29, 30, 31, 32, 33, 34, 35, 36, 37, 38, 39, 40, 41, 42, 43, 44, 45, 46, 47, 48, 49, 50, 51, 52, 53, 54, 55, 56, 57, 58, 59, 60, 61, 62, 63, 64, 65, 66, 67, 68, 69, 70, 71, 72, 73, 74, 75, 76, 77, 78, 79, 80, 81, 82, 83, 84, 85, 86, 87, 88, 89, 90, 91, 92, 93, 94, 731, 732, 733, 734, 735, 736, 707, 708, 709, 710, 711, 737, 738, 739, 740, 741, 742, 743, 744, 745, 746, 747, 748, 749, 750, 751, 752, 753, 754, 755] (by decide +kernel) (by decide +kernel)
set_option maxRecDepth 20000 in
theorem gL_law_X6_init : GoodIn wsL_law (wsX6_init) := ggL_law_X6_init
set_option maxRecDepth 20000 in
theorem ggL_law_X7_init : GoodIn wsL_law wsX7_init := goodIn_r _ [97, 98, 10, 11, 52, 99, 100, 101, 102, 103, 104, 105, 106, 107, 108, 109, 110, 111, 112, 712, 713, 714, 715, 716, 717, 718, 719, 720, 721, 722, 723, 724, 725, 726, 727, 728, 729, 730] (by decide +kernel) (by decide +kernel)
set_option maxRecDepth 20000 in
theorem gL_law_X7_init : GoodIn wsL_law (wsX7_init) := ggL_law_X7_init
set_option maxRecDepth 20000 in
theorem ggL_law_X6_setWidth : GoodIn wsL_law wsX6_setWidth := goodIn_r _ [116, 15, 117, 118, 119, 2, 120, 121, 122, 123, 14, 124, 37, 43, 125, 126, 127, 40, 128, 53, 129, 130, 131, 132, 19, 27, 133, 134, 135, 18, 136, 58, 60, 137, 138, 139, 140, 141, 142, 143, 144, 145, 146, 147, 148, 35, 36, 41, 42, 149, 150, 151, 152, 153, 154, 155, 156, 26, 157, 77, 158, 159, 160, 161, 162, 163, 164, 165, 166, 167, 168, 169, 170, 171, 172, 173, 174, 175, 176, 177, 178, 179, 180, 181, 182, 183, 184, 185, 186, 187, 188, 189, 707, 708, 709, 710, 711, 731, 732, 733, 734, 735, 736, 755, 737, 738, 743, 744, 745, 746, 747, 748, 749, 750, 751, 752] (by decide +kernel) (by decide +kernel)
set_option maxRecDepth 20000 in
theorem gL_law_X6_setWidth : GoodIn wsL_law (wsV RL 13 RX6 yX6_setWidth wsX6_setWidth) := goodIn_app (goodIn_of _ (by decide +kernel)) ggL_law_X6_setWidth
set_option maxRecDepth 20000 in
theorem ggL_law_X7_setWidth : GoodIn wsL_law wsX7_setWidth := goodIn_r _ [193, 99, 194, 195, 5, 196, 197, 198, 199, 200, 201, 202, 203, 204, 205, 100, 206, 207, 208, 209, 210, 211, 212, 213, 214, 215, 216, 217, 218, 219, 220, 221, 712, 713, 714, 715, 716, 717, 718, 719, 720, 721, 722, 723, 724, 725, 726, 727, 728, 729, 730] (by decide +kernel) (by decide +kernel)
set_option maxRecDepth 20000 in
theorem gL_law_X7_setWidth : GoodIn wsL_law (wsV RL 17 RX7 yX7_setWidth wsX7_setWidth) := goodIn_app (goodIn_of _ (by decide +kernel)) ggL_law_X7_setWidth
set_option maxRecDepth 20000 in
theorem ggL_law_X6_setSlack : GoodIn wsL_law wsX6_setSlack := goodIn_r _ [225, 15, 226, 118, 119, 2, 120, 129, 130, 131, 132, 19, 27, 133, 134, 135, 18, 136, 58, 60, 137, 138, 139, 140, 141, 142, 143, 144, 145, 146, 147, 14, 148, 35, 36, 37, 41, 42, 43, 149, 150, 151, 40, 152, 53, 153, 126, 127, 128, 154, 155, 156, 26, 157, 77, 707, 708, 709, 710, 711, 731, 732, 733, 734, 735, 736, 737, 738, 755, 743, 744, 745, 746, 747, 748, 749, 750, 751, 752] (by decide +kernel) (by decide +kernel)
set_option maxRecDepth 20000 in
theorem gL_law_X6_setSlack : GoodIn wsL_law (wsV RL 18 RX6 yX6_setSlack wsX6_setSlack) := goodIn_app (goodIn_of _ (by decide +kernel)) ggL_law_X6_setSlack
set_option maxRecDepth 20000 in
theorem ggL_law_X7_setSlack : GoodIn wsL_law wsX7_setSlack := goodIn_r _ [230, 99, 194, 195, 5, 196, 201, 202, 203, 204, 205, 100, 712, 713, 714, 715, 716, 717, 718, 719, 720, 721, 722, 723, 724, 725, 726, 727, 728, 729, 730] (by decide +kernel) (by decide +kernel)
set_option maxRecDepth 20000 in
theorem gL_law_X7_setSlack : GoodIn wsL_law (wsV RL 21 RX7 yX7_setSlack wsX7_setSlack) := goodIn_app (goodIn_of _ (by decide +kernel)) ggL_law_X7_setSlack
set_option maxRecDepth 20000 in
theorem ggL_law_X6_add : GoodIn wsL_law wsX6_add := goodIn_r _ [234, 15, 235, 118, 119, 2, 120, 129, 130, 131, 132, 19, 27, 133, 134, 135, 18, 136, 58, 60, 137, 138, 139, 140, 141, 142, 143, 144, 145, 146, 147, 14, 148, 35, 36, 37, 41, 42, 43, 149, 150, 151, 40, 152, 53, 153, 126, 127, 128, 154, 155, 156, 26, 157, 77, 186, 187, 188, 189, 125, 236, 237, 238, 239, 240, 241, 242, 243, 182, 183, 184, 185, 244, 245, 246, 247, 248, 171, 172, 173, 174, 175, 176, 177, 249, 179, 180, 181, 707, 708, 709, 710, 711, 731, 732, 733, 734, 735, 736, 737, 738, 755, 743, 744, 745, 746, 747, 748, 749, 750, 751, 752] (by decide +kernel) (by decide +kernel)
set_option maxRecDepth 20000 in
theorem gL_law_X6_add : GoodIn wsL_law (wsV RL 22 RX6 yX6_add wsX6_add) := goodIn_app (goodIn_of _ (by decide +kernel)) ggL_law_X6_add
set_option maxRecDepth 20000 in
theorem ggL_law_X7_add : GoodIn wsL_law wsX7_add := goodIn_r _ [253, 99, 194, 195, 5, 196, 201, 202, 203, 204, 205, 100, 254, 255, 256, 257, 214, 215, 216, 217, 218, 219, 220, 221, 712, 713, 714, 715, 716, 717, 718, 719, 720, 721, 722, 723, 724, 725, 726, 727, 728, 729, 730] (by decide +kernel) (by decide +kernel)
set_option maxRecDepth 20000 in
theorem gL_law_X7_add : GoodIn wsL_law (wsV RL 25 RX7 yX7_add wsX7_add) := goodIn_app (goodIn_of _ (by decide +kernel)) ggL_law_X7_add
set_option maxRecDepth 20000 in
theorem ggL_law_X6_remove : GoodIn wsL_law wsX6_remove := goodIn_r _ [261, 15, 235, 186, 187, 188, 14, 189, 37, 42, 125, 126, 127, 40, 128, 53, 236, 237, 238, 239, 244, 245, 246, 247, 43, 129, 130, 131, 2, 132, 19, 27, 133, 134, 135, 18, 136, 58, 60, 137, 138, 139, 140, 141, 142, 143, 144, 145, 146, 147, 148, 35, 36, 41, 149, 150, 151, 152, 153, 154, 155, 156, 26, 157, 77, 262, 263, 264, 265, 182, 183, 184, 185, 707, 708, 709, 710, 711, 731, 732, 733, 734, 735, 736, 755, 737, 738, 743, 744, 745, 746, 747, 748, 749, 750, 751, 752] (by decide +kernel) (by decide +kernel)
set_option maxRecDepth 20000 in
theorem gL_law_X6_remove : GoodIn wsL_law (wsV RL 26 RX6 yX6_remove wsX6_remove) := goodIn_app (goodIn_of _ (by decide +kernel)) ggL_law_X6_remove
set_option maxRecDepth 20000 in
theorem ggL_law_X7_remove : GoodIn wsL_law wsX7_remove := goodIn_r _ [269, 99, 201, 202, 203, 5, 204, 205, 100, 254, 255, 256, 257, 712, 713, 714, 715, 716, 717, 718, 719, 720, 721, 722, 723, 724, 725, 726, 727, 728, 729, 730] (by decide +kernel) (by decide +kernel)
set_option maxRecDepth 20000 in
theorem gL_law_X7_remove : GoodIn wsL_law (wsV RL 30 RX7 yX7_remove wsX7_remove) := goodIn_app (goodIn_of _ (by decide +kernel)) ggL_law_X7_remove
set_option maxRecDepth 20000 in
theorem ggL_law_X6_pull : GoodIn wsL_law wsX6_pull := goodIn_r _ [273, 15, 235, 274, 275, 276, 14, 277, 278, 187, 188, 189, 37, 42, 125, 126, 127, 40, 128, 53, 236, 237, 238, 239, 279, 280, 281, 282, 244, 245, 246, 247, 43, 248, 171, 172, 173, 174, 175, 176, 177, 35, 41, 129, 130, 131, 2, 132, 19, 27, 133, 134, 135, 18, 136, 58, 60, 137, 138, 139, 140, 141, 142, 143, 144, 145, 146, 147, 148, 36, 149, 150, 151, 152, 153, 154, 155, 156, 26, 157, 77, 283, 284, 285, 286, 182, 183, 184, 185, 249, 179, 180, 181, 186, 707, 708, 709, 710, 711, 731, 732, 733, 734, 735, 736, 755, 737, 738, 743, 744, 745, 746, 747, 748, 749, 750, 751, 752] (by decide +kernel) (by decide +kernel)
set_option maxRecDepth 20000 in
theorem gL_law_X6_pull : GoodIn wsL_law (wsV RL 31 RX6 yX6_pull wsX6_pull) := goodIn_app (goodIn_of _ (by decide +kernel)) ggL_law_X6_pull
set_option maxRecDepth 20000 in
theorem ggL_law_X7_pull : GoodIn wsL_law wsX7_pull := goodIn_r _ [290, 99, 291, 292, 293, 5, 294, 194, 195, 196, 254, 255, 256, 257, 295, 296, 297, 298, 214, 215, 216, 217, 218, 219, 220, 221, 201, 202, 203, 204, 205, 100, 712, 713, 714, 715, 716, 717, 718, 719, 720, 721, 722, 723, 724, 725, 726, 727, 728, 729, 730] (by decide +kernel) (by decide +kernel)
set_option maxRecDepth 20000 in
theorem gL_law_X7_pull : GoodIn wsL_law (wsV RL 34 RX7 yX7_pull wsX7_pull) := goodIn_app (goodIn_of _ (by decide +kernel)) ggL_law_X7_pull
