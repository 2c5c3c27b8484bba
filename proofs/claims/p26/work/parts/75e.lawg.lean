theorem gpL_holds_c : GoodIn wsL_law [Cond.code yL_holds cL_holds 11 (some .boolean)] := goodIn_r _ [95] (by decide +kernel) (by decide +kernel)
set_option maxRecDepth 20000 in
theorem gpL_holds_r1 : GoodIn wsL_law wsL_holds_r1 := goodIn_r _ [96, 97, 98, 2, 99, 20, 12, 100, 101, 102, 16, 103, 28, 104, 105, 106, 107, 19, 108, 109, 110, 111, 112, 11] (by decide +kernel) (by decide +kernel)
set_option maxRecDepth 20000 in
theorem gpL_holds_r2 : GoodIn wsL_law wsL_holds_r2 := goodIn_r _ [113, 34, 39, 114, 115, 116, 37, 117, 50, 118, 119, 120, 121, 65, 122, 46, 47, 48, 123, 124, 125, 126, 62, 63] (by decide +kernel) (by decide +kernel)
set_option maxRecDepth 20000 in
theorem gpL_holds_r3 : GoodIn wsL_law wsL_holds_r3 := goodIn_r _ [64, 127, 128, 129, 130, 32, 38, 131, 132, 133, 134, 135, 136, 137, 138, 139, 140, 141, 142, 143, 144, 145, 146, 147] (by decide +kernel) (by decide +kernel)
set_option maxRecDepth 20000 in
theorem gpL_holds_r4 : GoodIn wsL_law wsL_holds_r4 := goodIn_r _ [148, 149, 150, 151, 152, 153, 154, 155, 156, 157, 158, 159, 160, 161, 162, 163, 164, 165, 166, 167, 168, 169, 170, 171] (by decide +kernel) (by decide +kernel)
set_option maxRecDepth 20000 in
theorem gpL_holds_r5 : GoodIn wsL_law wsL_holds_r5 := goodIn_r _ [172, 173, 174, 175, 176, 177, 178, 179, 180, 181, 182, 183, 184, 185, 186, 187, 188, 40, 189, 190, 191, 192, 193, 194] (by decide +kernel) (by decide +kernel)
set_option maxRecDepth 20000 in
theorem gpL_holds_r6 : GoodIn wsL_law wsL_holds_r6 := goodIn_r _ [195, 196, 197, 198, 199, 200, 201, 202, 203, 204, 205, 206, 207, 208, 209, 210, 211, 212, 213, 214, 215, 216, 217, 218] (by decide +kernel) (by decide +kernel)
set_option maxRecDepth 20000 in
theorem gpL_holds_r7 : GoodIn wsL_law wsL_holds_r7 := goodIn_r _ [219, 220, 221, 222, 223, 224, 225, 226, 227, 228, 229, 230, 231, 232, 233, 234, 235, 236, 237, 238, 239, 240] (by decide +kernel) (by decide +kernel)
theorem gpL_holds_wsX60 : GoodIn wsL_law wsX60 := goodIn_r _ [429, 430, 431, 432, 433] (by decide +kernel) (by decide +kernel)
theorem gpL_holds_wsX10 : GoodIn wsL_law wsX10 := goodIn_r _ [434, 435, 436, 437, 438, 439] (by decide +kernel) (by decide +kernel)
theorem gpL_holds_wsX00 : GoodIn wsL_law wsX00 := goodIn_r _ [440, 441] (by decide +kernel) (by decide +kernel)
theorem gpL_holds_wsX50 : GoodIn wsL_law wsX50 := goodIn_r _ [456, 457] (by decide +kernel) (by decide +kernel)
theorem gpL_holds_wsX20 : GoodIn wsL_law wsX20 := goodIn_r _ [458] (by decide +kernel) (by decide +kernel)
theorem gpL_holds_wsX40 : GoodIn wsL_law wsX40 := goodIn_r _ [442, 443, 444, 445] (by decide +kernel) (by decide +kernel)
theorem ggL_law_L_holds : GoodIn wsL_law wsL_holds := fun w hw => by
  rcases List.mem_cons.mp hw with h | h
  · subst h
    exact gpL_holds_c _ (List.mem_singleton.mpr rfl)
  · exact (goodIn_app (goodIn_app (goodIn_app (goodIn_app (goodIn_app (goodIn_app (goodIn_app gpL_holds_r1 (goodIn_app gpL_holds_r2 (goodIn_app gpL_holds_r3 (goodIn_app gpL_holds_r4 (goodIn_app gpL_holds_r5 (goodIn_app gpL_holds_r6 gpL_holds_r7)))))) gpL_holds_wsX60) gpL_holds_wsX10) gpL_holds_wsX00) gpL_holds_wsX50) gpL_holds_wsX20) gpL_holds_wsX40) w h
set_option maxRecDepth 20000 in
theorem gL_law_L_holds : GoodIn wsL_law (va_wsS RL 37 yL_holds wsL_holds) := goodIn_app (goodIn_of _ (by decide +kernel)) ggL_law_L_holds
theorem gpL_dams_c : GoodIn wsL_law [Cond.code yL_dams cL_dams 8 (some .boolean)] := goodIn_r _ [243] (by decide +kernel) (by decide +kernel)
set_option maxRecDepth 20000 in
theorem gpL_dams_r1 : GoodIn wsL_law wsL_dams_r1 := goodIn_r _ [244, 245, 246, 2, 247, 24, 12, 248, 249, 250, 23, 251, 74, 76, 72, 73, 70, 71, 252, 253, 254, 11, 255, 32] (by decide +kernel) (by decide +kernel)
set_option maxRecDepth 20000 in
theorem gpL_dams_r2 : GoodIn wsL_law wsL_dams_r2 := goodIn_r _ [33, 34, 38, 39, 40, 256, 257, 258, 37, 259, 50, 260, 115, 116, 117, 261, 262, 263, 264, 81, 265, 80, 266, 148] (by decide +kernel) (by decide +kernel)
set_option maxRecDepth 20000 in
theorem gpL_dams_r3 : GoodIn wsL_law wsL_dams_r3 := goodIn_r _ [47, 149, 267, 132, 133, 134, 268, 269, 270, 271, 272, 273, 274, 275, 276, 277, 114, 159, 111, 112, 113, 278, 128, 129] (by decide +kernel) (by decide +kernel)
set_option maxRecDepth 20000 in
theorem gpL_dams_r4 : GoodIn wsL_law wsL_dams_r4 := goodIn_r _ [130, 279, 280, 281, 282, 283, 208, 209, 210, 284, 285, 161, 162, 163, 164, 286, 287, 288, 289, 290, 291, 292, 78, 82] (by decide +kernel) (by decide +kernel)
set_option maxRecDepth 20000 in
theorem gpL_dams_r5 : GoodIn wsL_law wsL_dams_r5 := goodIn_r _ [293, 46, 48, 294, 295, 296, 297, 83, 298, 299, 119, 120, 19, 121, 65, 122, 123, 124, 125, 126, 109, 62, 63, 64] (by decide +kernel) (by decide +kernel)
set_option maxRecDepth 20000 in
theorem gpL_dams_r6 : GoodIn wsL_law wsL_dams_r6 := goodIn_r _ [127, 131, 135, 136, 137, 138, 139, 140, 141, 142, 143, 144, 145, 146, 147, 150, 300, 301, 302, 303, 304, 305, 306, 307] (by decide +kernel) (by decide +kernel)
set_option maxRecDepth 20000 in
theorem gpL_dams_r7 : GoodIn wsL_law wsL_dams_r7 := goodIn_r _ [308, 309, 215, 216, 217, 310, 311, 312, 313, 314, 315, 316, 317, 96, 97, 98, 99, 20, 100, 101, 102, 16, 103, 28] (by decide +kernel) (by decide +kernel)
set_option maxRecDepth 20000 in
theorem gpL_dams_r8 : GoodIn wsL_law wsL_dams_r8 := goodIn_r _ [104, 105, 106, 107, 108, 110, 118, 151, 152, 153, 154, 155, 156, 157, 158, 160, 165, 166, 167, 168, 169, 170, 171, 172] (by decide +kernel) (by decide +kernel)
set_option maxRecDepth 20000 in
theorem gpL_dams_r9 : GoodIn wsL_law wsL_dams_r9 := goodIn_r _ [173, 174, 175, 176, 177, 178, 179, 180, 181, 182, 183, 184, 185, 186, 187, 188, 189, 190, 191, 192, 193, 318, 319, 320] (by decide +kernel) (by decide +kernel)
set_option maxRecDepth 20000 in
theorem gpL_dams_r10 : GoodIn wsL_law wsL_dams_r10 := goodIn_r _ [321, 322, 323, 324, 325] (by decide +kernel) (by decide +kernel)
theorem gpL_dams_wsX60 : GoodIn wsL_law wsX60 := goodIn_r _ [429, 430, 431, 432, 433] (by decide +kernel) (by decide +kernel)
theorem gpL_dams_wsX30 : GoodIn wsL_law wsX30 := goodIn_r _ [446, 447, 448, 449, 450, 451, 452, 453, 454, 455] (by decide +kernel) (by decide +kernel)
theorem gpL_dams_wsX10 : GoodIn wsL_law wsX10 := goodIn_r _ [434, 435, 436, 437, 438, 439] (by decide +kernel) (by decide +kernel)
theorem gpL_dams_wsX20 : GoodIn wsL_law wsX20 := goodIn_r _ [458] (by decide +kernel) (by decide +kernel)
theorem gpL_dams_wsX40 : GoodIn wsL_law wsX40 := goodIn_r _ [442, 443, 444, 445] (by decide +kernel) (by decide +kernel)
theorem gpL_dams_wsX00 : GoodIn wsL_law wsX00 := goodIn_r _ [440, 441] (by decide +kernel) (by decide +kernel)
theorem gpL_dams_wsX50 : GoodIn wsL_law wsX50 := goodIn_r _ [456, 457] (by decide +kernel) (by decide +kernel)
theorem ggL_law_L_dams : GoodIn wsL_law wsL_dams := fun w hw => by
  rcases List.mem_cons.mp hw with h | h
  · subst h
    exact gpL_dams_c _ (List.mem_singleton.mpr rfl)
  · exact (goodIn_app (goodIn_app (goodIn_app (goodIn_app (goodIn_app (goodIn_app (goodIn_app (goodIn_app gpL_dams_r1 (goodIn_app gpL_dams_r2 (goodIn_app gpL_dams_r3 (goodIn_app gpL_dams_r4 (goodIn_app gpL_dams_r5 (goodIn_app gpL_dams_r6 (goodIn_app gpL_dams_r7 (goodIn_app gpL_dams_r8 (goodIn_app gpL_dams_r9 gpL_dams_r10))))))))) gpL_dams_wsX60) gpL_dams_wsX30) gpL_dams_wsX10) gpL_dams_wsX20) gpL_dams_wsX40) gpL_dams_wsX00) gpL_dams_wsX50) w h
set_option maxRecDepth 20000 in
theorem gL_law_L_dams : GoodIn wsL_law (va_wsS RL 43 yL_dams wsL_dams) := goodIn_app (goodIn_of _ (by decide +kernel)) ggL_law_L_dams
