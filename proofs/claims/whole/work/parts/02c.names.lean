theorem dX6_line_135 : decode cX6_line 135 = .ok (.iconst 1, 1) := by decide +kernel
theorem dX6_line_136 : decode cX6_line 136 = .ok (.goto 4, 3) := by decide +kernel
theorem dX6_line_139 : decode cX6_line 139 = .ok (.iconst 0, 1) := by decide +kernel
theorem dX6_line_140 : decode cX6_line 140 = .ok (.ireturn, 1) := by decide +kernel
theorem dX6_line_141 : decode cX6_line 141 = .ok (.aload_n 0, 1) := by decide +kernel
theorem dX6_line_142 : decode cX6_line 142 = .ok (.getfield 26, 3) := by decide +kernel
theorem dX6_line_145 : decode cX6_line 145 = .ok (.iload_n 3, 1) := by decide +kernel
theorem dX6_line_146 : decode cX6_line 146 = .ok (.iload 4, 2) := by decide +kernel
theorem dX6_line_148 : decode cX6_line 148 = .ok (.invokevirtual 113, 3) := by decide +kernel
theorem dX6_line_151 : decode cX6_line 151 = .ok (.ireturn, 1) := by decide +kernel
theorem dX6_line_152 : decode cX6_line 152 = .ok (.iconst (-1), 1) := by decide +kernel
theorem dX6_line_153 : decode cX6_line 153 = .ok (.ireturn, 1) := by decide +kernel
set_option maxRecDepth 20000 in
theorem ggX6_undo_X0_restoreLatest : GoodIn wsX6_undo wsX0_restoreLatest := goodIn_r _ [9, 10, 11, 12, 13, 8, 14, 15, 16, 17, 18, 19, 20, 21, 22, 23, 24, 25, 26, 27, 28, 29, 30, 31, 32, 33, 34, 35, 36, 48, 49, 50, 51, 52, 53, 54, 55, 56] (by decide +kernel) (by decide +kernel)
set_option maxRecDepth 20000 in
theorem gX6_undo_X0_restoreLatest : GoodIn wsX6_undo (wsV RX6 145 RX0 yX0_restoreLatest wsX0_restoreLatest) := goodIn_app (goodIn_of _ (by decide +kernel)) ggX6_undo_X0_restoreLatest
set_option maxRecDepth 20000 in
theorem ggX6_undo_X3_forget : GoodIn wsX6_undo wsX3_forget := goodIn_r _ [41, 42, 57, 58, 59, 60, 61, 62, 63, 64, 65, 66] (by decide +kernel) (by decide +kernel)
set_option maxRecDepth 20000 in
theorem gX6_undo_X3_forget : GoodIn wsX6_undo (wsV RX6 148 RX3 yX3_forget wsX3_forget) := goodIn_app (goodIn_of _ (by decide +kernel)) ggX6_undo_X3_forget
theorem dX6_undo_0 : decode cX6_undo 0 = .ok (.aload_n 0, 1) := by decide +kernel
theorem dX6_undo_1 : decode cX6_undo 1 = .ok (.getfield 19, 3) := by decide +kernel
theorem dX6_undo_4 : decode cX6_undo 4 = .ok (.getfield 121, 3) := by decide +kernel
theorem dX6_undo_7 : decode cX6_undo 7 = .ok (.ifCond .ne 6, 3) := by decide +kernel
theorem dX6_undo_10 : decode cX6_undo 10 = .ok (.bipush (-2), 2) := by decide +kernel
theorem dX6_undo_12 : decode cX6_undo 12 = .ok (.ireturn, 1) := by decide +kernel
theorem dX6_undo_13 : decode cX6_undo 13 = .ok (.aload_n 0, 1) := by decide +kernel
theorem dX6_undo_14 : decode cX6_undo 14 = .ok (.getfield 19, 3) := by decide +kernel
theorem dX6_undo_17 : decode cX6_undo 17 = .ok (.aload_n 0, 1) := by decide +kernel
theorem dX6_undo_18 : decode cX6_undo 18 = .ok (.getfield 10, 3) := by decide +kernel
theorem dX6_undo_21 : decode cX6_undo 21 = .ok (.invokevirtual 145, 3) := by decide +kernel
theorem dX6_undo_24 : decode cX6_undo 24 = .ok (.aload_n 0, 1) := by decide +kernel
theorem dX6_undo_25 : decode cX6_undo 25 = .ok (.getfield 33, 3) := by decide +kernel
theorem dX6_undo_28 : decode cX6_undo 28 = .ok (.invokevirtual 148, 3) := by decide +kernel
theorem dX6_undo_31 : decode cX6_undo 31 = .ok (.aload_n 0, 1) := by decide +kernel
theorem dX6_undo_32 : decode cX6_undo 32 = .ok (.getfield 19, 3) := by decide +kernel
theorem dX6_undo_35 : decode cX6_undo 35 = .ok (.getfield 121, 3) := by decide +kernel
theorem dX6_undo_38 : decode cX6_undo 38 = .ok (.ireturn, 1) := by decide +kernel
set_option maxRecDepth 20000 in
theorem ggX6_gap_X1_hasLine : GoodIn wsX6_gap wsX1_hasLine := goodIn_r _ [7, 8, 9, 10, 6, 11, 12, 13, 14, 15, 16, 17, 18, 19, 102, 103, 104, 105, 106, 107, 108] (by decide +kernel) (by decide +kernel)
set_option maxRecDepth 20000 in
theorem gX6_gap_X1_hasLine : GoodIn wsX6_gap (wsV RX6 93 RX1 yX1_hasLine wsX1_hasLine) := goodIn_app (goodIn_of _ (by decide +kernel)) ggX6_gap_X1_hasLine
set_option maxRecDepth 20000 in
theorem ggX6_gap_X1_firstOf : GoodIn wsX6_gap wsX1_firstOf := goodIn_r _ [23, 12, 13, 14, 15, 16, 17, 18, 19, 102, 103, 104, 105, 106, 107, 108] (by decide +kernel) (by decide +kernel)
set_option maxRecDepth 20000 in
theorem gX6_gap_X1_firstOf : GoodIn wsX6_gap (wsV RX6 71 RX1 yX1_firstOf wsX1_firstOf) := goodIn_app (goodIn_of _ (by decide +kernel)) ggX6_gap_X1_firstOf
set_option maxRecDepth 20000 in
theorem ggX6_gap_X1_endOf : GoodIn wsX6_gap wsX1_endOf := goodIn_r _ [27, 12, 13, 14, 15, 16, 17, 18, 19, 102, 103, 104, 105, 106, 107, 108] (by decide +kernel) (by decide +kernel)
set_option maxRecDepth 20000 in
theorem gX6_gap_X1_endOf : GoodIn wsX6_gap (wsV RX6 96 RX1 yX1_endOf wsX1_endOf) := goodIn_app (goodIn_of _ (by decide +kernel)) ggX6_gap_X1_endOf
set_option maxRecDepth 20000 in
theorem ggX6_gap_X6_isWithin : GoodIn wsX6_gap wsX6_isWithin := goodIn_r _ [31] (by decide +kernel) (by decide +kernel)
set_option maxRecDepth 20000 in
theorem gX6_gap_X6_isWithin : GoodIn wsX6_gap (va_wsS RX6 44 yX6_isWithin wsX6_isWithin) := goodIn_app (goodIn_of _ (by decide +kernel)) ggX6_gap_X6_isWithin
set_option maxRecDepth 20000 in
theorem ggX6_gap_X4_layAll : GoodIn wsX6_gap wsX4_layAll := goodIn_r _ [36, 37, 38, 25, 26, 6, 27, 12, 13, 14, 15, 16, 17, 18, 19, 39, 40, 41, 35, 42, 43, 44, 45, 46, 47, 48, 49, 50, 51, 52, 53, 54, 55, 56, 57, 58, 59, 60, 61, 62, 63, 64, 65, 66, 67, 68, 69, 70, 71, 72, 73, 74, 75, 76, 77, 78, 79, 80, 102, 103, 104, 105, 106, 107, 108, 109, 110, 111, 112] (by decide +kernel) (by decide +kernel)
set_option maxRecDepth 20000 in
theorem gX6_gap_X4_layAll : GoodIn wsX6_gap (wsV RX6 106 RX4 yX4_layAll wsX4_layAll) := goodIn_app (goodIn_of _ (by decide +kernel)) ggX6_gap_X4_layAll
set_option maxRecDepth 20000 in
theorem ggX6_gap_X4_gapColumn : GoodIn wsX6_gap wsX4_gapColumn := goodIn_r _ [84, 53, 80, 15, 16, 17, 18, 19, 109, 110, 111, 112, 108] (by decide +kernel) (by decide +kernel)
set_option maxRecDepth 20000 in
theorem gX6_gap_X4_gapColumn : GoodIn wsX6_gap (wsV RX6 151 RX4 yX4_gapColumn wsX4_gapColumn) := goodIn_app (goodIn_of _ (by decide +kernel)) ggX6_gap_X4_gapColumn
set_option maxRecDepth 20000 in
theorem ggX6_gap_X4_gapWidth : GoodIn wsX6_gap wsX4_gapWidth := goodIn_r _ [88, 54, 80, 15, 16, 17, 18, 19, 109, 110, 111, 112, 108] (by decide +kernel) (by decide +kernel)
set_option maxRecDepth 20000 in
theorem gX6_gap_X4_gapWidth : GoodIn wsX6_gap (wsV RX6 154 RX4 yX4_gapWidth wsX4_gapWidth) := goodIn_app (goodIn_of _ (by decide +kernel)) ggX6_gap_X4_gapWidth
set_option maxRecDepth 20000 in
theorem ggX6_gap_X4_reachOf : GoodIn wsX6_gap wsX4_reachOf := goodIn_r _ [92, 43, 80, 15, 16, 17, 18, 19, 109, 110, 111, 112, 108] (by decide +kernel) (by decide +kernel)
set_option maxRecDepth 20000 in
theorem gX6_gap_X4_reachOf : GoodIn wsX6_gap (wsV RX6 157 RX4 yX4_reachOf wsX4_reachOf) := goodIn_app (goodIn_of _ (by decide +kernel)) ggX6_gap_X4_reachOf
set_option maxRecDepth 20000 in
theorem ggX6_gap_X4_gapsThatMeet : GoodIn wsX6_gap wsX4_gapsThatMeet := goodIn_r _ [96, 73, 74, 75, 35, 76, 53, 54, 44, 45, 46, 47, 77, 78, 79, 80, 15, 16, 17, 18, 19, 109, 110, 111, 112, 108] (by decide +kernel) (by decide +kernel)
set_option maxRecDepth 20000 in
theorem gX6_gap_X4_gapsThatMeet : GoodIn wsX6_gap (wsV RX6 160 RX4 yX4_gapsThatMeet wsX4_gapsThatMeet) := goodIn_app (goodIn_of _ (by decide +kernel)) ggX6_gap_X4_gapsThatMeet
theorem dX6_gap_0 : decode cX6_gap 0 = .ok (.aload_n 0, 1) := by decide +kernel
theorem dX6_gap_1 : decode cX6_gap 1 = .ok (.getfield 10, 3) := by decide +kernel
theorem dX6_gap_4 : decode cX6_gap 4 = .ok (.iload_n 1, 1) := by decide +kernel
theorem dX6_gap_5 : decode cX6_gap 5 = .ok (.invokevirtual 93, 3) := by decide +kernel
theorem dX6_gap_8 : decode cX6_gap 8 = .ok (.ifCond .ne 5, 3) := by decide +kernel
theorem dX6_gap_11 : decode cX6_gap 11 = .ok (.iconst (-1), 1) := by decide +kernel
theorem dX6_gap_12 : decode cX6_gap 12 = .ok (.ireturn, 1) := by decide +kernel
theorem dX6_gap_13 : decode cX6_gap 13 = .ok (.aload_n 0, 1) := by decide +kernel
theorem dX6_gap_14 : decode cX6_gap 14 = .ok (.getfield 10, 3) := by decide +kernel
theorem dX6_gap_17 : decode cX6_gap 17 = .ok (.iload_n 1, 1) := by decide +kernel
theorem dX6_gap_18 : decode cX6_gap 18 = .ok (.invokevirtual 71, 3) := by decide +kernel
theorem dX6_gap_21 : decode cX6_gap 21 = .ok (.istore 4, 2) := by decide +kernel
theorem dX6_gap_23 : decode cX6_gap 23 = .ok (.aload_n 0, 1) := by decide +kernel
theorem dX6_gap_24 : decode cX6_gap 24 = .ok (.getfield 10, 3) := by decide +kernel
theorem dX6_gap_27 : decode cX6_gap 27 = .ok (.iload 4, 2) := by decide +kernel
theorem dX6_gap_29 : decode cX6_gap 29 = .ok (.invokevirtual 96, 3) := by decide +kernel
theorem dX6_gap_32 : decode cX6_gap 32 = .ok (.istore 5, 2) := by decide +kernel
theorem dX6_gap_34 : decode cX6_gap 34 = .ok (.iload_n 2, 1) := by decide +kernel
theorem dX6_gap_35 : decode cX6_gap 35 = .ok (.iconst 0, 1) := by decide +kernel
theorem dX6_gap_36 : decode cX6_gap 36 = .ok (.iload 5, 2) := by decide +kernel
theorem dX6_gap_38 : decode cX6_gap 38 = .ok (.iload 4, 2) := by decide +kernel
theorem dX6_gap_40 : decode cX6_gap 40 = .ok (.isub, 1) := by decide +kernel
theorem dX6_gap_41 : decode cX6_gap 41 = .ok (.iconst 2, 1) := by decide +kernel
theorem dX6_gap_42 : decode cX6_gap 42 = .ok (.isub, 1) := by decide +kernel
theorem dX6_gap_43 : decode cX6_gap 43 = .ok (.invokestatic 44, 3) := by decide +kernel
theorem dX6_gap_46 : decode cX6_gap 46 = .ok (.ifCond .ne 5, 3) := by decide +kernel
theorem dX6_gap_49 : decode cX6_gap 49 = .ok (.iconst (-1), 1) := by decide +kernel
theorem dX6_gap_50 : decode cX6_gap 50 = .ok (.ireturn, 1) := by decide +kernel
theorem dX6_gap_51 : decode cX6_gap 51 = .ok (.iload 4, 2) := by decide +kernel
theorem dX6_gap_53 : decode cX6_gap 53 = .ok (.iload_n 2, 1) := by decide +kernel
theorem dX6_gap_54 : decode cX6_gap 54 = .ok (.iadd, 1) := by decide +kernel
theorem dX6_gap_55 : decode cX6_gap 55 = .ok (.istore 6, 2) := by decide +kernel
theorem dX6_gap_57 : decode cX6_gap 57 = .ok (.aload_n 0, 1) := by decide +kernel
theorem dX6_gap_58 : decode cX6_gap 58 = .ok (.getfield 26, 3) := by decide +kernel
theorem dX6_gap_61 : decode cX6_gap 61 = .ok (.aload_n 0, 1) := by decide +kernel
theorem dX6_gap_62 : decode cX6_gap 62 = .ok (.getfield 10, 3) := by decide +kernel
theorem dX6_gap_65 : decode cX6_gap 65 = .ok (.invokevirtual 106, 3) := by decide +kernel
theorem dX6_gap_68 : decode cX6_gap 68 = .ok (.iload_n 3, 1) := by decide +kernel
theorem dX6_gap_69 : decode cX6_gap 69 = .ok (.tableswitch 108 0 4 #[35, 45, 55, 65, 87], 35) := by decide +kernel
theorem dX6_gap_104 : decode cX6_gap 104 = .ok (.aload_n 0, 1) := by decide +kernel
theorem dX6_gap_105 : decode cX6_gap 105 = .ok (.getfield 26, 3) := by decide +kernel
theorem dX6_gap_108 : decode cX6_gap 108 = .ok (.iload 6, 2) := by decide +kernel
theorem dX6_gap_110 : decode cX6_gap 110 = .ok (.invokevirtual 151, 3) := by decide +kernel
theorem dX6_gap_113 : decode cX6_gap 113 = .ok (.ireturn, 1) := by decide +kernel
theorem dX6_gap_114 : decode cX6_gap 114 = .ok (.aload_n 0, 1) := by decide +kernel
theorem dX6_gap_115 : decode cX6_gap 115 = .ok (.getfield 26, 3) := by decide +kernel
theorem dX6_gap_118 : decode cX6_gap 118 = .ok (.iload 6, 2) := by decide +kernel
theorem dX6_gap_120 : decode cX6_gap 120 = .ok (.invokevirtual 154, 3) := by decide +kernel
theorem dX6_gap_123 : decode cX6_gap 123 = .ok (.ireturn, 1) := by decide +kernel
theorem dX6_gap_124 : decode cX6_gap 124 = .ok (.aload_n 0, 1) := by decide +kernel
theorem dX6_gap_125 : decode cX6_gap 125 = .ok (.getfield 26, 3) := by decide +kernel
theorem dX6_gap_128 : decode cX6_gap 128 = .ok (.iload 6, 2) := by decide +kernel
theorem dX6_gap_130 : decode cX6_gap 130 = .ok (.invokevirtual 157, 3) := by decide +kernel
theorem dX6_gap_133 : decode cX6_gap 133 = .ok (.ireturn, 1) := by decide +kernel
theorem dX6_gap_134 : decode cX6_gap 134 = .ok (.aload_n 0, 1) := by decide +kernel
theorem dX6_gap_135 : decode cX6_gap 135 = .ok (.getfield 26, 3) := by decide +kernel
theorem dX6_gap_138 : decode cX6_gap 138 = .ok (.iload 6, 2) := by decide +kernel
theorem dX6_gap_140 : decode cX6_gap 140 = .ok (.aload_n 0, 1) := by decide +kernel
theorem dX6_gap_141 : decode cX6_gap 141 = .ok (.getfield 10, 3) := by decide +kernel
theorem dX6_gap_144 : decode cX6_gap 144 = .ok (.iload_n 1, 1) := by decide +kernel
theorem dX6_gap_145 : decode cX6_gap 145 = .ok (.iconst 1, 1) := by decide +kernel
theorem dX6_gap_146 : decode cX6_gap 146 = .ok (.isub, 1) := by decide +kernel
theorem dX6_gap_147 : decode cX6_gap 147 = .ok (.invokevirtual 71, 3) := by decide +kernel
theorem dX6_gap_150 : decode cX6_gap 150 = .ok (.iload 4, 2) := by decide +kernel
theorem dX6_gap_152 : decode cX6_gap 152 = .ok (.invokevirtual 160, 3) := by decide +kernel
theorem dX6_gap_155 : decode cX6_gap 155 = .ok (.ireturn, 1) := by decide +kernel
theorem dX6_gap_156 : decode cX6_gap 156 = .ok (.aload_n 0, 1) := by decide +kernel
theorem dX6_gap_157 : decode cX6_gap 157 = .ok (.getfield 26, 3) := by decide +kernel
theorem dX6_gap_160 : decode cX6_gap 160 = .ok (.iload 6, 2) := by decide +kernel
theorem dX6_gap_162 : decode cX6_gap 162 = .ok (.iload 5, 2) := by decide +kernel
theorem dX6_gap_164 : decode cX6_gap 164 = .ok (.aload_n 0, 1) := by decide +kernel
theorem dX6_gap_165 : decode cX6_gap 165 = .ok (.getfield 10, 3) := by decide +kernel
theorem dX6_gap_168 : decode cX6_gap 168 = .ok (.iload 5, 2) := by decide +kernel
theorem dX6_gap_170 : decode cX6_gap 170 = .ok (.invokevirtual 96, 3) := by decide +kernel
theorem dX6_gap_173 : decode cX6_gap 173 = .ok (.invokevirtual 160, 3) := by decide +kernel
theorem dX6_gap_176 : decode cX6_gap 176 = .ok (.ireturn, 1) := by decide +kernel
theorem dX6_gap_177 : decode cX6_gap 177 = .ok (.iconst (-1), 1) := by decide +kernel
theorem dX6_gap_178 : decode cX6_gap 178 = .ok (.ireturn, 1) := by decide +kernel
set_option maxRecDepth 20000 in
theorem ggX6_river_X6_isWithin : GoodIn wsX6_river wsX6_isWithin := goodIn_r _ [7] (by decide +kernel) (by decide +kernel)
set_option maxRecDepth 20000 in
theorem gX6_river_X6_isWithin : GoodIn wsX6_river (va_wsS RX6 44 yX6_isWithin wsX6_isWithin) := goodIn_app (goodIn_of _ (by decide +kernel)) ggX6_river_X6_isWithin
set_option maxRecDepth 20000 in
theorem ggX6_river_X4_layAll : GoodIn wsX6_river wsX4_layAll := goodIn_r _ [12, 13, 14, 15, 16, 17, 18, 19, 20, 21, 22, 23, 24, 25, 26, 27, 28, 29, 11, 30, 31, 32, 33, 34, 35, 36, 37, 38, 39, 40, 41, 42, 43, 44, 45, 46, 47, 48, 49, 50, 51, 52, 53, 54, 55, 56, 57, 58, 59, 60, 61, 62, 63, 64, 65, 66, 67, 68, 99, 100, 101, 102, 103, 104, 105, 106, 107, 108, 109] (by decide +kernel) (by decide +kernel)
set_option maxRecDepth 20000 in
theorem gX6_river_X4_layAll : GoodIn wsX6_river (wsV RX6 106 RX4 yX4_layAll wsX4_layAll) := goodIn_app (goodIn_of _ (by decide +kernel)) ggX6_river_X4_layAll
set_option maxRecDepth 20000 in
theorem ggX6_river_X4_greatestReach : GoodIn wsX6_river wsX4_greatestReach := goodIn_r _ [72, 31, 32, 33, 34, 35, 68, 22, 23, 24, 25, 26, 106, 107, 108, 109, 105] (by decide +kernel) (by decide +kernel)
set_option maxRecDepth 20000 in
theorem gX6_river_X4_greatestReach : GoodIn wsX6_river (wsV RX6 113 RX4 yX4_greatestReach wsX4_greatestReach) := goodIn_app (goodIn_of _ (by decide +kernel)) ggX6_river_X4_greatestReach
set_option maxRecDepth 20000 in
theorem ggX6_river_X4_firstOfReach : GoodIn wsX6_river wsX4_firstOfReach := goodIn_r _ [76, 31, 68, 22, 23, 24, 25, 26, 106, 107, 108, 109, 105] (by decide +kernel) (by decide +kernel)
set_option maxRecDepth 20000 in
theorem gX6_river_X4_firstOfReach : GoodIn wsX6_river (wsV RX6 164 RX4 yX4_firstOfReach wsX4_firstOfReach) := goodIn_app (goodIn_of _ (by decide +kernel)) ggX6_river_X4_firstOfReach
set_option maxRecDepth 20000 in
theorem ggX6_river_X6_gapAbove : GoodIn wsX6_river wsX6_gapAbove := goodIn_r _ [80, 2, 1, 81, 82, 83, 17, 84, 19, 20, 21, 22, 23, 24, 25, 26, 85, 86, 87, 88, 89, 62, 63, 11, 64, 41, 42, 32, 33, 34, 35, 65, 66, 67, 68, 90, 91, 92, 93, 31, 94, 95, 96, 97, 98, 99, 100, 101, 102, 103, 104, 105, 106, 107, 108, 109] (by decide +kernel) (by decide +kernel)
set_option maxRecDepth 20000 in
theorem gX6_river_X6_gapAbove : GoodIn wsX6_river (wsV RX6 167 RX6 yX6_gapAbove wsX6_gapAbove) := goodIn_app (goodIn_of _ (by decide +kernel)) ggX6_river_X6_gapAbove
set_option maxRecDepth 20000 in
theorem ggX6_river_X1_lineOf : GoodIn wsX6_river wsX1_lineOf := goodIn_r _ [84, 19, 20, 21, 22, 23, 24, 25, 26, 99, 100, 101, 102, 103, 104, 105] (by decide +kernel) (by decide +kernel)
set_option maxRecDepth 20000 in
theorem gX6_river_X1_lineOf : GoodIn wsX6_river (wsV RX6 133 RX1 yX1_lineOf wsX1_lineOf) := goodIn_app (goodIn_of _ (by decide +kernel)) ggX6_river_X1_lineOf
set_option maxRecDepth 20000 in
theorem ggX6_river_X1_firstOf : GoodIn wsX6_river wsX1_firstOf := goodIn_r _ [88, 19, 20, 21, 22, 23, 24, 25, 26, 99, 100, 101, 102, 103, 104, 105] (by decide +kernel) (by decide +kernel)
set_option maxRecDepth 20000 in
theorem gX6_river_X1_firstOf : GoodIn wsX6_river (wsV RX6 71 RX1 yX1_firstOf wsX1_firstOf) := goodIn_app (goodIn_of _ (by decide +kernel)) ggX6_river_X1_firstOf
theorem dX6_river_0 : decode cX6_river 0 = .ok (.iload_n 1, 1) := by decide +kernel
theorem dX6_river_1 : decode cX6_river 1 = .ok (.ifCond .lt 12, 3) := by decide +kernel
theorem dX6_river_4 : decode cX6_river 4 = .ok (.iload_n 2, 1) := by decide +kernel
theorem dX6_river_5 : decode cX6_river 5 = .ok (.iconst 0, 1) := by decide +kernel
theorem dX6_river_6 : decode cX6_river 6 = .ok (.iconst 1, 1) := by decide +kernel
theorem dX6_river_7 : decode cX6_river 7 = .ok (.invokestatic 44, 3) := by decide +kernel
theorem dX6_river_10 : decode cX6_river 10 = .ok (.ifCond .ne 5, 3) := by decide +kernel
theorem dX6_river_13 : decode cX6_river 13 = .ok (.iconst (-1), 1) := by decide +kernel
theorem dX6_river_14 : decode cX6_river 14 = .ok (.ireturn, 1) := by decide +kernel
theorem dX6_river_15 : decode cX6_river 15 = .ok (.aload_n 0, 1) := by decide +kernel
theorem dX6_river_16 : decode cX6_river 16 = .ok (.getfield 26, 3) := by decide +kernel
theorem dX6_river_19 : decode cX6_river 19 = .ok (.aload_n 0, 1) := by decide +kernel
theorem dX6_river_20 : decode cX6_river 20 = .ok (.getfield 10, 3) := by decide +kernel
theorem dX6_river_23 : decode cX6_river 23 = .ok (.invokevirtual 106, 3) := by decide +kernel
theorem dX6_river_26 : decode cX6_river 26 = .ok (.aload_n 0, 1) := by decide +kernel
theorem dX6_river_27 : decode cX6_river 27 = .ok (.getfield 26, 3) := by decide +kernel
theorem dX6_river_30 : decode cX6_river 30 = .ok (.iconst 0, 1) := by decide +kernel
theorem dX6_river_31 : decode cX6_river 31 = .ok (.aload_n 0, 1) := by decide +kernel
theorem dX6_river_32 : decode cX6_river 32 = .ok (.getfield 10, 3) := by decide +kernel
theorem dX6_river_35 : decode cX6_river 35 = .ok (.getfield 68, 3) := by decide +kernel
theorem dX6_river_38 : decode cX6_river 38 = .ok (.invokevirtual 113, 3) := by decide +kernel
theorem dX6_river_41 : decode cX6_river 41 = .ok (.istore_n 3, 1) := by decide +kernel
theorem dX6_river_42 : decode cX6_river 42 = .ok (.iload_n 1, 1) := by decide +kernel
theorem dX6_river_43 : decode cX6_river 43 = .ok (.iload_n 3, 1) := by decide +kernel
theorem dX6_river_44 : decode cX6_river 44 = .ok (.if_icmp .lt 6, 3) := by decide +kernel
theorem dX6_river_47 : decode cX6_river 47 = .ok (.bipush (-4), 2) := by decide +kernel
theorem dX6_river_49 : decode cX6_river 49 = .ok (.ireturn, 1) := by decide +kernel
theorem dX6_river_50 : decode cX6_river 50 = .ok (.aload_n 0, 1) := by decide +kernel
theorem dX6_river_51 : decode cX6_river 51 = .ok (.getfield 26, 3) := by decide +kernel
theorem dX6_river_54 : decode cX6_river 54 = .ok (.iload_n 3, 1) := by decide +kernel
theorem dX6_river_55 : decode cX6_river 55 = .ok (.iconst 0, 1) := by decide +kernel
theorem dX6_river_56 : decode cX6_river 56 = .ok (.aload_n 0, 1) := by decide +kernel
theorem dX6_river_57 : decode cX6_river 57 = .ok (.getfield 10, 3) := by decide +kernel
theorem dX6_river_60 : decode cX6_river 60 = .ok (.getfield 68, 3) := by decide +kernel
theorem dX6_river_63 : decode cX6_river 63 = .ok (.invokevirtual 164, 3) := by decide +kernel
theorem dX6_river_66 : decode cX6_river 66 = .ok (.istore 4, 2) := by decide +kernel
theorem dX6_river_68 : decode cX6_river 68 = .ok (.iconst 0, 1) := by decide +kernel
theorem dX6_river_69 : decode cX6_river 69 = .ok (.istore 5, 2) := by decide +kernel
theorem dX6_river_71 : decode cX6_river 71 = .ok (.iload 5, 2) := by decide +kernel
theorem dX6_river_73 : decode cX6_river 73 = .ok (.iload_n 1, 1) := by decide +kernel
theorem dX6_river_74 : decode cX6_river 74 = .ok (.if_icmp .ge 17, 3) := by decide +kernel
theorem dX6_river_77 : decode cX6_river 77 = .ok (.aload_n 0, 1) := by decide +kernel
theorem dX6_river_78 : decode cX6_river 78 = .ok (.iload 4, 2) := by decide +kernel
theorem dX6_river_80 : decode cX6_river 80 = .ok (.invokevirtual 167, 3) := by decide +kernel
theorem dX6_river_83 : decode cX6_river 83 = .ok (.istore 4, 2) := by decide +kernel
theorem dX6_river_85 : decode cX6_river 85 = .ok (.iinc 5 1, 3) := by decide +kernel
theorem dX6_river_88 : decode cX6_river 88 = .ok (.goto (-17), 3) := by decide +kernel
theorem dX6_river_91 : decode cX6_river 91 = .ok (.aload_n 0, 1) := by decide +kernel
theorem dX6_river_92 : decode cX6_river 92 = .ok (.getfield 10, 3) := by decide +kernel
theorem dX6_river_95 : decode cX6_river 95 = .ok (.iload 4, 2) := by decide +kernel
theorem dX6_river_97 : decode cX6_river 97 = .ok (.invokevirtual 133, 3) := by decide +kernel
theorem dX6_river_100 : decode cX6_river 100 = .ok (.istore 5, 2) := by decide +kernel
theorem dX6_river_102 : decode cX6_river 102 = .ok (.iload_n 2, 1) := by decide +kernel
theorem dX6_river_103 : decode cX6_river 103 = .ok (.ifCond .ne 8, 3) := by decide +kernel
theorem dX6_river_106 : decode cX6_river 106 = .ok (.iload 5, 2) := by decide +kernel
theorem dX6_river_108 : decode cX6_river 108 = .ok (.goto 15, 3) := by decide +kernel
theorem dX6_river_111 : decode cX6_river 111 = .ok (.iload 4, 2) := by decide +kernel
theorem dX6_river_113 : decode cX6_river 113 = .ok (.aload_n 0, 1) := by decide +kernel
theorem dX6_river_114 : decode cX6_river 114 = .ok (.getfield 10, 3) := by decide +kernel
theorem dX6_river_117 : decode cX6_river 117 = .ok (.iload 5, 2) := by decide +kernel
theorem dX6_river_119 : decode cX6_river 119 = .ok (.invokevirtual 71, 3) := by decide +kernel
theorem dX6_river_122 : decode cX6_river 122 = .ok (.isub, 1) := by decide +kernel
theorem dX6_river_123 : decode cX6_river 123 = .ok (.ireturn, 1) := by decide +kernel
set_option maxRecDepth 20000 in
theorem ggX6_at_X1_hasLine : GoodIn wsX6_at wsX1_hasLine := goodIn_r _ [8, 9, 10, 11, 7, 12, 13, 14, 15, 16, 17, 18, 19, 20, 92, 93, 94, 95, 96, 97, 98] (by decide +kernel) (by decide +kernel)
set_option maxRecDepth 20000 in
theorem gX6_at_X1_hasLine : GoodIn wsX6_at (wsV RX6 93 RX1 yX1_hasLine wsX1_hasLine) := goodIn_app (goodIn_of _ (by decide +kernel)) ggX6_at_X1_hasLine
set_option maxRecDepth 20000 in
theorem ggX6_at_X6_isWithin : GoodIn wsX6_at wsX6_isWithin := goodIn_r _ [24] (by decide +kernel) (by decide +kernel)
set_option maxRecDepth 20000 in
theorem gX6_at_X6_isWithin : GoodIn wsX6_at (va_wsS RX6 44 yX6_isWithin wsX6_isWithin) := goodIn_app (goodIn_of _ (by decide +kernel)) ggX6_at_X6_isWithin
set_option maxRecDepth 20000 in
theorem ggX6_at_X4_layAll : GoodIn wsX6_at wsX4_layAll := goodIn_r _ [29, 30, 31, 32, 33, 7, 34, 13, 14, 15, 16, 17, 18, 19, 20, 35, 36, 37, 28, 38, 39, 40, 41, 42, 43, 44, 45, 46, 47, 48, 49, 50, 51, 52, 53, 54, 55, 56, 57, 58, 59, 60, 61, 62, 63, 64, 65, 66, 67, 68, 69, 70, 71, 72, 73, 74, 75, 76, 92, 93, 94, 95, 96, 97, 98, 99, 100, 101, 102] (by decide +kernel) (by decide +kernel)
set_option maxRecDepth 20000 in
theorem gX6_at_X4_layAll : GoodIn wsX6_at (wsV RX6 106 RX4 yX4_layAll wsX4_layAll) := goodIn_app (goodIn_of _ (by decide +kernel)) ggX6_at_X4_layAll
set_option maxRecDepth 20000 in
theorem ggX6_at_X1_firstOf : GoodIn wsX6_at wsX1_firstOf := goodIn_r _ [80, 13, 14, 15, 16, 17, 18, 19, 20, 92, 93, 94, 95, 96, 97, 98] (by decide +kernel) (by decide +kernel)
set_option maxRecDepth 20000 in
theorem gX6_at_X1_firstOf : GoodIn wsX6_at (wsV RX6 71 RX1 yX1_firstOf wsX1_firstOf) := goodIn_app (goodIn_of _ (by decide +kernel)) ggX6_at_X1_firstOf
set_option maxRecDepth 20000 in
theorem ggX6_at_X1_endOf : GoodIn wsX6_at wsX1_endOf := goodIn_r _ [34, 13, 14, 15, 16, 17, 18, 19, 20, 92, 93, 94, 95, 96, 97, 98] (by decide +kernel) (by decide +kernel)
set_option maxRecDepth 20000 in
theorem gX6_at_X1_endOf : GoodIn wsX6_at (wsV RX6 96 RX1 yX1_endOf wsX1_endOf) := goodIn_app (goodIn_of _ (by decide +kernel)) ggX6_at_X1_endOf
set_option maxRecDepth 20000 in
theorem ggX6_at_X4_columnOf : GoodIn wsX6_at wsX4_columnOf := goodIn_r _ [85, 48, 76, 16, 17, 18, 19, 20, 99, 100, 101, 102, 98] (by decide +kernel) (by decide +kernel)
set_option maxRecDepth 20000 in
theorem gX6_at_X4_columnOf : GoodIn wsX6_at (wsV RX6 136 RX4 yX4_columnOf wsX4_columnOf) := goodIn_app (goodIn_of _ (by decide +kernel)) ggX6_at_X4_columnOf
set_option maxRecDepth 20000 in
theorem ggX6_at_X1_lengthOf : GoodIn wsX6_at wsX1_lengthOf := goodIn_r _ [64, 56, 15, 16, 17, 18, 19, 20, 92, 93, 94, 95, 96, 97, 98] (by decide +kernel) (by decide +kernel)
set_option maxRecDepth 20000 in
theorem gX6_at_X1_lengthOf : GoodIn wsX6_at (wsV RX6 130 RX1 yX1_lengthOf wsX1_lengthOf) := goodIn_app (goodIn_of _ (by decide +kernel)) ggX6_at_X1_lengthOf
theorem dX6_at_0 : decode cX6_at 0 = .ok (.aload_n 0, 1) := by decide +kernel
theorem dX6_at_1 : decode cX6_at 1 = .ok (.getfield 10, 3) := by decide +kernel
theorem dX6_at_4 : decode cX6_at 4 = .ok (.iload_n 1, 1) := by decide +kernel
theorem dX6_at_5 : decode cX6_at 5 = .ok (.invokevirtual 93, 3) := by decide +kernel
theorem dX6_at_8 : decode cX6_at 8 = .ok (.ifCond .eq 20, 3) := by decide +kernel
theorem dX6_at_11 : decode cX6_at 11 = .ok (.iload_n 2, 1) := by decide +kernel
theorem dX6_at_12 : decode cX6_at 12 = .ok (.iconst 0, 1) := by decide +kernel
theorem dX6_at_13 : decode cX6_at 13 = .ok (.aload_n 0, 1) := by decide +kernel
theorem dX6_at_14 : decode cX6_at 14 = .ok (.getfield 10, 3) := by decide +kernel
theorem dX6_at_17 : decode cX6_at 17 = .ok (.getfield 55, 3) := by decide +kernel
theorem dX6_at_20 : decode cX6_at 20 = .ok (.iconst 1, 1) := by decide +kernel
theorem dX6_at_21 : decode cX6_at 21 = .ok (.isub, 1) := by decide +kernel
theorem dX6_at_22 : decode cX6_at 22 = .ok (.invokestatic 44, 3) := by decide +kernel
theorem dX6_at_25 : decode cX6_at 25 = .ok (.ifCond .ne 5, 3) := by decide +kernel
theorem dX6_at_28 : decode cX6_at 28 = .ok (.iconst (-1), 1) := by decide +kernel
theorem dX6_at_29 : decode cX6_at 29 = .ok (.ireturn, 1) := by decide +kernel
theorem dX6_at_30 : decode cX6_at 30 = .ok (.aload_n 0, 1) := by decide +kernel
theorem dX6_at_31 : decode cX6_at 31 = .ok (.getfield 26, 3) := by decide +kernel
theorem dX6_at_34 : decode cX6_at 34 = .ok (.aload_n 0, 1) := by decide +kernel
theorem dX6_at_35 : decode cX6_at 35 = .ok (.getfield 10, 3) := by decide +kernel
theorem dX6_at_38 : decode cX6_at 38 = .ok (.invokevirtual 106, 3) := by decide +kernel
theorem dX6_at_41 : decode cX6_at 41 = .ok (.aload_n 0, 1) := by decide +kernel
theorem dX6_at_42 : decode cX6_at 42 = .ok (.getfield 10, 3) := by decide +kernel
theorem dX6_at_45 : decode cX6_at 45 = .ok (.iload_n 1, 1) := by decide +kernel
theorem dX6_at_46 : decode cX6_at 46 = .ok (.invokevirtual 71, 3) := by decide +kernel
theorem dX6_at_49 : decode cX6_at 49 = .ok (.istore_n 3, 1) := by decide +kernel
theorem dX6_at_50 : decode cX6_at 50 = .ok (.aload_n 0, 1) := by decide +kernel
theorem dX6_at_51 : decode cX6_at 51 = .ok (.getfield 10, 3) := by decide +kernel
theorem dX6_at_54 : decode cX6_at 54 = .ok (.iload_n 3, 1) := by decide +kernel
theorem dX6_at_55 : decode cX6_at 55 = .ok (.invokevirtual 96, 3) := by decide +kernel
theorem dX6_at_58 : decode cX6_at 58 = .ok (.istore 4, 2) := by decide +kernel
theorem dX6_at_60 : decode cX6_at 60 = .ok (.iload_n 3, 1) := by decide +kernel
theorem dX6_at_61 : decode cX6_at 61 = .ok (.istore 5, 2) := by decide +kernel
theorem dX6_at_63 : decode cX6_at 63 = .ok (.iload 5, 2) := by decide +kernel
theorem dX6_at_65 : decode cX6_at 65 = .ok (.iload 4, 2) := by decide +kernel
theorem dX6_at_67 : decode cX6_at 67 = .ok (.if_icmp .ge 45, 3) := by decide +kernel
theorem dX6_at_70 : decode cX6_at 70 = .ok (.aload_n 0, 1) := by decide +kernel
theorem dX6_at_71 : decode cX6_at 71 = .ok (.getfield 26, 3) := by decide +kernel
theorem dX6_at_74 : decode cX6_at 74 = .ok (.iload 5, 2) := by decide +kernel
theorem dX6_at_76 : decode cX6_at 76 = .ok (.invokevirtual 136, 3) := by decide +kernel
theorem dX6_at_79 : decode cX6_at 79 = .ok (.istore 6, 2) := by decide +kernel
theorem dX6_at_81 : decode cX6_at 81 = .ok (.iload_n 2, 1) := by decide +kernel
theorem dX6_at_82 : decode cX6_at 82 = .ok (.iload 6, 2) := by decide +kernel
theorem dX6_at_84 : decode cX6_at 84 = .ok (.if_icmp .lt 22, 3) := by decide +kernel
theorem dX6_at_87 : decode cX6_at 87 = .ok (.iload_n 2, 1) := by decide +kernel
theorem dX6_at_88 : decode cX6_at 88 = .ok (.iload 6, 2) := by decide +kernel
theorem dX6_at_90 : decode cX6_at 90 = .ok (.aload_n 0, 1) := by decide +kernel
theorem dX6_at_91 : decode cX6_at 91 = .ok (.getfield 10, 3) := by decide +kernel
theorem dX6_at_94 : decode cX6_at 94 = .ok (.iload 5, 2) := by decide +kernel
theorem dX6_at_96 : decode cX6_at 96 = .ok (.invokevirtual 130, 3) := by decide +kernel
theorem dX6_at_99 : decode cX6_at 99 = .ok (.iadd, 1) := by decide +kernel
theorem dX6_at_100 : decode cX6_at 100 = .ok (.if_icmp .ge 6, 3) := by decide +kernel
theorem dX6_at_103 : decode cX6_at 103 = .ok (.iload 5, 2) := by decide +kernel
theorem dX6_at_105 : decode cX6_at 105 = .ok (.ireturn, 1) := by decide +kernel
theorem dX6_at_106 : decode cX6_at 106 = .ok (.iinc 5 1, 3) := by decide +kernel
theorem dX6_at_109 : decode cX6_at 109 = .ok (.goto (-46), 3) := by decide +kernel
theorem dX6_at_112 : decode cX6_at 112 = .ok (.bipush (-4), 2) := by decide +kernel
theorem dX6_at_114 : decode cX6_at 114 = .ok (.ireturn, 1) := by decide +kernel
set_option maxRecDepth 20000 in
theorem ggX6_plan_X6_isWithin : GoodIn wsX6_plan wsX6_isWithin := goodIn_r _ [8] (by decide +kernel) (by decide +kernel)
set_option maxRecDepth 20000 in
theorem gX6_plan_X6_isWithin : GoodIn wsX6_plan (va_wsS RX6 44 yX6_isWithin wsX6_isWithin) := goodIn_app (goodIn_of _ (by decide +kernel)) ggX6_plan_X6_isWithin
set_option maxRecDepth 20000 in
theorem ggX6_plan_X3_solve : GoodIn wsX6_plan wsX3_solve := goodIn_r _ [13, 14, 15, 16, 17, 18, 19, 20, 21, 22, 23, 24, 25, 26, 27, 28, 29, 30, 31, 32, 33, 34, 35, 36, 37, 38, 39, 40, 41, 42, 43, 12, 44, 45, 46, 47, 48, 49, 50, 51, 52, 53, 54, 55, 56, 57, 58, 59, 60, 61, 62, 63, 64, 65, 66, 67, 68, 69, 70, 71, 72, 73, 74, 75, 76, 77, 78, 79, 80, 81, 82, 83, 84, 85, 86, 87, 88, 89, 90, 91, 92, 93, 94, 95, 96, 97, 98, 99, 100, 101, 102, 103, 104, 105, 106, 107, 108, 109, 110, 111, 112, 113, 114, 115, 116, 117, 118, 119, 120, 121, 122, 123, 124, 125, 126, 127, 128, 129, 130, 131, 132, 133, 134, 135, 136, 137, 155, 156, 157, 158, 159, 160, 161, 162, 163, 164, 165, 166, 167, 168, 169, 170, 171, 172, 173, 174, 175] (by decide +kernel) (by decide +kernel)
set_option maxRecDepth 20000 in
theorem gX6_plan_X3_solve : GoodIn wsX6_plan (wsV RX6 170 RX3 yX3_solve wsX3_solve) := goodIn_app (goodIn_of _ (by decide +kernel)) ggX6_plan_X3_solve
set_option maxRecDepth 20000 in
theorem ggX6_plan_X3_hasFound : GoodIn wsX6_plan wsX3_hasFound := goodIn_r _ [141, 17, 16, 155, 156, 157, 158, 159, 160, 161, 162, 163, 164] (by decide +kernel) (by decide +kernel)
set_option maxRecDepth 20000 in
theorem gX6_plan_X3_hasFound : GoodIn wsX6_plan (wsV RX6 174 RX3 yX3_hasFound wsX3_hasFound) := goodIn_app (goodIn_of _ (by decide +kernel)) ggX6_plan_X3_hasFound
set_option maxRecDepth 20000 in
theorem ggX6_plan_X3_bestChanged : GoodIn wsX6_plan wsX3_bestChanged := goodIn_r _ [145, 17, 61, 155, 156, 157, 158, 159, 160, 161, 162, 163, 164] (by decide +kernel) (by decide +kernel)
set_option maxRecDepth 20000 in
theorem gX6_plan_X3_bestChanged : GoodIn wsX6_plan (wsV RX6 178 RX3 yX3_bestChanged wsX3_bestChanged) := goodIn_app (goodIn_of _ (by decide +kernel)) ggX6_plan_X3_bestChanged
set_option maxRecDepth 20000 in
theorem ggX6_plan_X3_bestBadness : GoodIn wsX6_plan wsX3_bestBadness := goodIn_r _ [149, 17, 61, 155, 156, 157, 158, 159, 160, 161, 162, 163, 164] (by decide +kernel) (by decide +kernel)
set_option maxRecDepth 20000 in
theorem gX6_plan_X3_bestBadness : GoodIn wsX6_plan (wsV RX6 184 RX3 yX3_bestBadness wsX3_bestBadness) := goodIn_app (goodIn_of _ (by decide +kernel)) ggX6_plan_X3_bestBadness
theorem dX6_plan_0 : decode cX6_plan 0 = .ok (.iload_n 1, 1) := by decide +kernel
theorem dX6_plan_1 : decode cX6_plan 1 = .ok (.iconst 1, 1) := by decide +kernel
theorem dX6_plan_2 : decode cX6_plan 2 = .ok (.bipush 24, 2) := by decide +kernel
theorem dX6_plan_4 : decode cX6_plan 4 = .ok (.invokestatic 44, 3) := by decide +kernel
theorem dX6_plan_7 : decode cX6_plan 7 = .ok (.ifCond .eq 12, 3) := by decide +kernel
theorem dX6_plan_10 : decode cX6_plan 10 = .ok (.iload_n 2, 1) := by decide +kernel
theorem dX6_plan_11 : decode cX6_plan 11 = .ok (.iconst 0, 1) := by decide +kernel
theorem dX6_plan_12 : decode cX6_plan 12 = .ok (.iconst 3, 1) := by decide +kernel
theorem dX6_plan_13 : decode cX6_plan 13 = .ok (.invokestatic 44, 3) := by decide +kernel
theorem dX6_plan_16 : decode cX6_plan 16 = .ok (.ifCond .ne 5, 3) := by decide +kernel
theorem dX6_plan_19 : decode cX6_plan 19 = .ok (.iconst (-1), 1) := by decide +kernel
theorem dX6_plan_20 : decode cX6_plan 20 = .ok (.ireturn, 1) := by decide +kernel
theorem dX6_plan_21 : decode cX6_plan 21 = .ok (.aload_n 0, 1) := by decide +kernel
theorem dX6_plan_22 : decode cX6_plan 22 = .ok (.getfield 33, 3) := by decide +kernel
theorem dX6_plan_25 : decode cX6_plan 25 = .ok (.aload_n 0, 1) := by decide +kernel
theorem dX6_plan_26 : decode cX6_plan 26 = .ok (.getfield 10, 3) := by decide +kernel
theorem dX6_plan_29 : decode cX6_plan 29 = .ok (.iload_n 1, 1) := by decide +kernel
theorem dX6_plan_30 : decode cX6_plan 30 = .ok (.invokevirtual 170, 3) := by decide +kernel
theorem dX6_plan_33 : decode cX6_plan 33 = .ok (.aload_n 0, 1) := by decide +kernel
theorem dX6_plan_34 : decode cX6_plan 34 = .ok (.getfield 33, 3) := by decide +kernel
theorem dX6_plan_37 : decode cX6_plan 37 = .ok (.invokevirtual 174, 3) := by decide +kernel
theorem dX6_plan_40 : decode cX6_plan 40 = .ok (.ifCond .ne 6, 3) := by decide +kernel
theorem dX6_plan_43 : decode cX6_plan 43 = .ok (.bipush (-4), 2) := by decide +kernel
theorem dX6_plan_45 : decode cX6_plan 45 = .ok (.ireturn, 1) := by decide +kernel
theorem dX6_plan_46 : decode cX6_plan 46 = .ok (.iload_n 2, 1) := by decide +kernel
theorem dX6_plan_47 : decode cX6_plan 47 = .ok (.tableswitch 49 0 2 #[25, 33, 41], 25) := by decide +kernel
theorem dX6_plan_72 : decode cX6_plan 72 = .ok (.aload_n 0, 1) := by decide +kernel
theorem dX6_plan_73 : decode cX6_plan 73 = .ok (.getfield 33, 3) := by decide +kernel
theorem dX6_plan_76 : decode cX6_plan 76 = .ok (.invokevirtual 178, 3) := by decide +kernel
theorem dX6_plan_79 : decode cX6_plan 79 = .ok (.ireturn, 1) := by decide +kernel
theorem dX6_plan_80 : decode cX6_plan 80 = .ok (.aload_n 0, 1) := by decide +kernel
theorem dX6_plan_81 : decode cX6_plan 81 = .ok (.getfield 33, 3) := by decide +kernel
theorem dX6_plan_84 : decode cX6_plan 84 = .ok (.getfield 181, 3) := by decide +kernel
theorem dX6_plan_87 : decode cX6_plan 87 = .ok (.ireturn, 1) := by decide +kernel
theorem dX6_plan_88 : decode cX6_plan 88 = .ok (.aload_n 0, 1) := by decide +kernel
theorem dX6_plan_89 : decode cX6_plan 89 = .ok (.getfield 33, 3) := by decide +kernel
theorem dX6_plan_92 : decode cX6_plan 92 = .ok (.invokevirtual 184, 3) := by decide +kernel
theorem dX6_plan_95 : decode cX6_plan 95 = .ok (.ireturn, 1) := by decide +kernel
theorem dX6_plan_96 : decode cX6_plan 96 = .ok (.aload_n 0, 1) := by decide +kernel
theorem dX6_plan_97 : decode cX6_plan 97 = .ok (.getfield 33, 3) := by decide +kernel
theorem dX6_plan_100 : decode cX6_plan 100 = .ok (.getfield 187, 3) := by decide +kernel
theorem dX6_plan_103 : decode cX6_plan 103 = .ok (.ireturn, 1) := by decide +kernel
set_option maxRecDepth 20000 in
theorem ggX6_planned_X6_isWithin : GoodIn wsX6_planned wsX6_isWithin := goodIn_r _ [7] (by decide +kernel) (by decide +kernel)
set_option maxRecDepth 20000 in
theorem gX6_planned_X6_isWithin : GoodIn wsX6_planned (va_wsS RX6 44 yX6_isWithin wsX6_isWithin) := goodIn_app (goodIn_of _ (by decide +kernel)) ggX6_planned_X6_isWithin
set_option maxRecDepth 20000 in
theorem ggX6_planned_X3_solve : GoodIn wsX6_planned wsX3_solve := goodIn_r _ [12, 13, 14, 15, 16, 17, 18, 19, 20, 21, 22, 23, 24, 25, 26, 27, 28, 29, 30, 31, 32, 33, 34, 35, 36, 37, 38, 39, 40, 41, 42, 11, 43, 44, 45, 46, 47, 48, 49, 50, 51, 52, 53, 54, 55, 56, 57, 58, 59, 60, 61, 62, 63, 64, 65, 66, 67, 68, 69, 70, 71, 72, 73, 74, 75, 76, 77, 78, 79, 80, 81, 82, 83, 84, 85, 86, 87, 88, 89, 90, 91, 92, 93, 94, 95, 96, 97, 98, 99, 100, 101, 102, 103, 104, 105, 106, 107, 108, 109, 110, 111, 112, 113, 114, 115, 116, 117, 118, 119, 120, 121, 122, 123, 124, 125, 126, 127, 128, 129, 130, 131, 132, 133, 134, 135, 136, 150, 151, 152, 153, 154, 155, 156, 157, 158, 159, 160, 161, 162, 163, 164, 165, 166, 167, 168, 169, 170] (by decide +kernel) (by decide +kernel)
set_option maxRecDepth 20000 in
theorem gX6_planned_X3_solve : GoodIn wsX6_planned (wsV RX6 170 RX3 yX3_solve wsX3_solve) := goodIn_app (goodIn_of _ (by decide +kernel)) ggX6_planned_X3_solve
set_option maxRecDepth 20000 in
theorem ggX6_planned_X3_hasFound : GoodIn wsX6_planned wsX3_hasFound := goodIn_r _ [140, 16, 15, 150, 151, 152, 153, 154, 155, 156, 157, 158, 159] (by decide +kernel) (by decide +kernel)
set_option maxRecDepth 20000 in
theorem gX6_planned_X3_hasFound : GoodIn wsX6_planned (wsV RX6 174 RX3 yX3_hasFound wsX3_hasFound) := goodIn_app (goodIn_of _ (by decide +kernel)) ggX6_planned_X3_hasFound
set_option maxRecDepth 20000 in
theorem ggX6_planned_X3_bestWords : GoodIn wsX6_planned wsX3_bestWords := goodIn_r _ [144, 104, 91, 37, 38, 33, 39, 35, 150, 151, 152, 153, 154, 155, 156, 157, 158, 159, 166] (by decide +kernel) (by decide +kernel)
set_option maxRecDepth 20000 in
theorem gX6_planned_X3_bestWords : GoodIn wsX6_planned (wsV RX6 190 RX3 yX3_bestWords wsX3_bestWords) := goodIn_app (goodIn_of _ (by decide +kernel)) ggX6_planned_X3_bestWords
theorem dX6_planned_0 : decode cX6_planned 0 = .ok (.iload_n 1, 1) := by decide +kernel
theorem dX6_planned_1 : decode cX6_planned 1 = .ok (.iconst 1, 1) := by decide +kernel
theorem dX6_planned_2 : decode cX6_planned 2 = .ok (.bipush 24, 2) := by decide +kernel
theorem dX6_planned_4 : decode cX6_planned 4 = .ok (.invokestatic 44, 3) := by decide +kernel
theorem dX6_planned_7 : decode cX6_planned 7 = .ok (.ifCond .eq 7, 3) := by decide +kernel
theorem dX6_planned_10 : decode cX6_planned 10 = .ok (.iload_n 2, 1) := by decide +kernel
theorem dX6_planned_11 : decode cX6_planned 11 = .ok (.ifCond .ge 5, 3) := by decide +kernel
theorem dX6_planned_14 : decode cX6_planned 14 = .ok (.iconst (-1), 1) := by decide +kernel
theorem dX6_planned_15 : decode cX6_planned 15 = .ok (.ireturn, 1) := by decide +kernel
theorem dX6_planned_16 : decode cX6_planned 16 = .ok (.aload_n 0, 1) := by decide +kernel
theorem dX6_planned_17 : decode cX6_planned 17 = .ok (.getfield 33, 3) := by decide +kernel
theorem dX6_planned_20 : decode cX6_planned 20 = .ok (.aload_n 0, 1) := by decide +kernel
theorem dX6_planned_21 : decode cX6_planned 21 = .ok (.getfield 10, 3) := by decide +kernel
theorem dX6_planned_24 : decode cX6_planned 24 = .ok (.iload_n 1, 1) := by decide +kernel
theorem dX6_planned_25 : decode cX6_planned 25 = .ok (.invokevirtual 170, 3) := by decide +kernel
theorem dX6_planned_28 : decode cX6_planned 28 = .ok (.aload_n 0, 1) := by decide +kernel
theorem dX6_planned_29 : decode cX6_planned 29 = .ok (.getfield 33, 3) := by decide +kernel
theorem dX6_planned_32 : decode cX6_planned 32 = .ok (.invokevirtual 174, 3) := by decide +kernel
theorem dX6_planned_35 : decode cX6_planned 35 = .ok (.ifCond .eq 14, 3) := by decide +kernel
theorem dX6_planned_38 : decode cX6_planned 38 = .ok (.iload_n 2, 1) := by decide +kernel
theorem dX6_planned_39 : decode cX6_planned 39 = .ok (.aload_n 0, 1) := by decide +kernel
theorem dX6_planned_40 : decode cX6_planned 40 = .ok (.getfield 33, 3) := by decide +kernel
theorem dX6_planned_43 : decode cX6_planned 43 = .ok (.getfield 181, 3) := by decide +kernel
theorem dX6_planned_46 : decode cX6_planned 46 = .ok (.if_icmp .lt 6, 3) := by decide +kernel
theorem dX6_planned_49 : decode cX6_planned 49 = .ok (.bipush (-4), 2) := by decide +kernel
theorem dX6_planned_51 : decode cX6_planned 51 = .ok (.ireturn, 1) := by decide +kernel
theorem dX6_planned_52 : decode cX6_planned 52 = .ok (.aload_n 0, 1) := by decide +kernel
theorem dX6_planned_53 : decode cX6_planned 53 = .ok (.getfield 33, 3) := by decide +kernel
theorem dX6_planned_56 : decode cX6_planned 56 = .ok (.iload_n 2, 1) := by decide +kernel
theorem dX6_planned_57 : decode cX6_planned 57 = .ok (.invokevirtual 190, 3) := by decide +kernel
theorem dX6_planned_60 : decode cX6_planned 60 = .ok (.ireturn, 1) := by decide +kernel
set_option maxRecDepth 20000 in
theorem ggX6_dam_X6_isWithin : GoodIn wsX6_dam wsX6_isWithin := goodIn_r _ [6] (by decide +kernel) (by decide +kernel)
set_option maxRecDepth 20000 in
theorem gX6_dam_X6_isWithin : GoodIn wsX6_dam (va_wsS RX6 44 yX6_isWithin wsX6_isWithin) := goodIn_app (goodIn_of _ (by decide +kernel)) ggX6_dam_X6_isWithin
set_option maxRecDepth 20000 in
theorem ggX6_dam_X3_solve : GoodIn wsX6_dam wsX3_solve := goodIn_r _ [11, 12, 13, 14, 15, 16, 17, 18, 19, 20, 21, 22, 23, 24, 25, 26, 27, 28, 29, 30, 31, 32, 33, 34, 35, 36, 37, 38, 39, 40, 41, 10, 42, 43, 44, 45, 46, 47, 48, 49, 50, 51, 52, 53, 54, 55, 56, 57, 58, 59, 60, 61, 62, 63, 64, 65, 66, 67, 68, 69, 70, 71, 72, 73, 74, 75, 76, 77, 78, 79, 80, 81, 82, 83, 84, 85, 86, 87, 88, 89, 90, 91, 92, 93, 94, 95, 96, 97, 98, 99, 100, 101, 102, 103, 104, 105, 106, 107, 108, 109, 110, 111, 112, 113, 114, 115, 116, 117, 118, 119, 120, 121, 122, 123, 124, 125, 126, 127, 128, 129, 130, 131, 132, 133, 134, 135, 191, 192, 193, 194, 195, 196, 197, 198, 199, 200, 201, 202, 203, 204, 205, 206, 207, 208, 209, 210, 211] (by decide +kernel) (by decide +kernel)
set_option maxRecDepth 20000 in
theorem gX6_dam_X3_solve : GoodIn wsX6_dam (wsV RX6 170 RX3 yX3_solve wsX3_solve) := goodIn_app (goodIn_of _ (by decide +kernel)) ggX6_dam_X3_solve
set_option maxRecDepth 20000 in
theorem ggX6_dam_X3_hasFound : GoodIn wsX6_dam wsX3_hasFound := goodIn_r _ [139, 15, 14, 191, 192, 193, 194, 195, 196, 197, 198, 199, 200] (by decide +kernel) (by decide +kernel)
set_option maxRecDepth 20000 in
theorem gX6_dam_X3_hasFound : GoodIn wsX6_dam (wsV RX6 174 RX3 yX3_hasFound wsX3_hasFound) := goodIn_app (goodIn_of _ (by decide +kernel)) ggX6_dam_X3_hasFound
set_option maxRecDepth 20000 in
theorem ggX6_dam_X3_bestChanged : GoodIn wsX6_dam wsX3_bestChanged := goodIn_r _ [143, 15, 59, 191, 192, 193, 194, 195, 196, 197, 198, 199, 200] (by decide +kernel) (by decide +kernel)
set_option maxRecDepth 20000 in
theorem gX6_dam_X3_bestChanged : GoodIn wsX6_dam (wsV RX6 178 RX3 yX3_bestChanged wsX3_bestChanged) := goodIn_app (goodIn_of _ (by decide +kernel)) ggX6_dam_X3_bestChanged
set_option maxRecDepth 20000 in
theorem ggX6_dam_X6_beginChange : GoodIn wsX6_dam wsX6_beginChange := goodIn_r _ [147, 148, 2, 1, 149, 150, 151, 152, 153, 154, 155, 156, 157, 158, 159, 160, 161, 162, 163, 164, 19, 20, 21, 22, 23, 24, 25, 26, 27, 28, 29, 30, 31, 32, 33, 34, 35, 36, 37, 38, 165, 166, 167, 10, 168, 12, 186, 187, 188, 189, 190, 212, 213, 201, 202, 203, 204, 205, 206, 207, 191, 192, 193, 194, 195, 196, 197, 198, 199, 200] (by decide +kernel) (by decide +kernel)
set_option maxRecDepth 20000 in
theorem gX6_dam_X6_beginChange : GoodIn wsX6_dam (wsV RX6 52 RX6 yX6_beginChange wsX6_beginChange) := goodIn_app (goodIn_of _ (by decide +kernel)) ggX6_dam_X6_beginChange
set_option maxRecDepth 20000 in
theorem ggX6_dam_X3_divide : GoodIn wsX6_dam wsX3_divide := goodIn_r _ [172, 16, 103, 173, 174, 175, 21, 176, 27, 177, 178, 179, 32, 180, 34, 181, 182, 183, 184, 25, 185, 51, 52, 53, 90, 36, 37, 38, 191, 192, 193, 194, 195, 196, 197, 198, 199, 200, 201, 202, 203, 204, 205, 206, 207] (by decide +kernel) (by decide +kernel)
set_option maxRecDepth 20000 in
theorem gX6_dam_X3_divide : GoodIn wsX6_dam (wsV RX6 193 RX3 yX3_divide wsX3_divide) := goodIn_app (goodIn_of _ (by decide +kernel)) ggX6_dam_X3_divide
theorem dX6_dam_0 : decode cX6_dam 0 = .ok (.iload_n 1, 1) := by decide +kernel
theorem dX6_dam_1 : decode cX6_dam 1 = .ok (.iconst 1, 1) := by decide +kernel
theorem dX6_dam_2 : decode cX6_dam 2 = .ok (.bipush 24, 2) := by decide +kernel
theorem dX6_dam_4 : decode cX6_dam 4 = .ok (.invokestatic 44, 3) := by decide +kernel
theorem dX6_dam_7 : decode cX6_dam 7 = .ok (.ifCond .ne 5, 3) := by decide +kernel
theorem dX6_dam_10 : decode cX6_dam 10 = .ok (.iconst (-1), 1) := by decide +kernel
theorem dX6_dam_11 : decode cX6_dam 11 = .ok (.ireturn, 1) := by decide +kernel
theorem dX6_dam_12 : decode cX6_dam 12 = .ok (.aload_n 0, 1) := by decide +kernel
theorem dX6_dam_13 : decode cX6_dam 13 = .ok (.getfield 33, 3) := by decide +kernel
theorem dX6_dam_16 : decode cX6_dam 16 = .ok (.aload_n 0, 1) := by decide +kernel
theorem dX6_dam_17 : decode cX6_dam 17 = .ok (.getfield 10, 3) := by decide +kernel
theorem dX6_dam_20 : decode cX6_dam 20 = .ok (.iload_n 1, 1) := by decide +kernel
theorem dX6_dam_21 : decode cX6_dam 21 = .ok (.invokevirtual 170, 3) := by decide +kernel
theorem dX6_dam_24 : decode cX6_dam 24 = .ok (.aload_n 0, 1) := by decide +kernel
theorem dX6_dam_25 : decode cX6_dam 25 = .ok (.getfield 33, 3) := by decide +kernel
theorem dX6_dam_28 : decode cX6_dam 28 = .ok (.invokevirtual 174, 3) := by decide +kernel
theorem dX6_dam_31 : decode cX6_dam 31 = .ok (.ifCond .ne 6, 3) := by decide +kernel
theorem dX6_dam_34 : decode cX6_dam 34 = .ok (.bipush (-2), 2) := by decide +kernel
theorem dX6_dam_36 : decode cX6_dam 36 = .ok (.ireturn, 1) := by decide +kernel
theorem dX6_dam_37 : decode cX6_dam 37 = .ok (.aload_n 0, 1) := by decide +kernel
theorem dX6_dam_38 : decode cX6_dam 38 = .ok (.getfield 33, 3) := by decide +kernel
theorem dX6_dam_41 : decode cX6_dam 41 = .ok (.invokevirtual 178, 3) := by decide +kernel
theorem dX6_dam_44 : decode cX6_dam 44 = .ok (.istore_n 2, 1) := by decide +kernel
theorem dX6_dam_45 : decode cX6_dam 45 = .ok (.aload_n 0, 1) := by decide +kernel
theorem dX6_dam_46 : decode cX6_dam 46 = .ok (.invokevirtual 52, 3) := by decide +kernel
theorem dX6_dam_49 : decode cX6_dam 49 = .ok (.aload_n 0, 1) := by decide +kernel
theorem dX6_dam_50 : decode cX6_dam 50 = .ok (.getfield 33, 3) := by decide +kernel
theorem dX6_dam_53 : decode cX6_dam 53 = .ok (.aload_n 0, 1) := by decide +kernel
theorem dX6_dam_54 : decode cX6_dam 54 = .ok (.getfield 10, 3) := by decide +kernel
theorem dX6_dam_57 : decode cX6_dam 57 = .ok (.invokevirtual 193, 3) := by decide +kernel
theorem dX6_dam_60 : decode cX6_dam 60 = .ok (.iload_n 2, 1) := by decide +kernel
theorem dX6_dam_61 : decode cX6_dam 61 = .ok (.ireturn, 1) := by decide +kernel
set_option maxRecDepth 20000 in
theorem ggX6_leastRiver_X3_solve : GoodIn wsX6_leastRiver wsX3_solve := goodIn_r _ [7, 8, 9, 10, 11, 12, 13, 14, 15, 16, 17, 18, 19, 20, 21, 22, 23, 24, 25, 26, 27, 28, 29, 30, 31, 32, 33, 34, 35, 36, 37, 6, 38, 39, 40, 41, 42, 43, 44, 45, 46, 47, 48, 49, 50, 51, 52, 53, 54, 55, 56, 57, 58, 59, 60, 61, 62, 63, 64, 65, 66, 67, 68, 69, 70, 71, 72, 73, 74, 75, 76, 77, 78, 79, 80, 81, 82, 83, 84, 85, 86, 87, 88, 89, 90, 91, 92, 93, 94, 95, 96, 97, 98, 99, 100, 101, 102, 103, 104, 105, 106, 107, 108, 109, 110, 111, 112, 113, 114, 115, 116, 117, 118, 119, 120, 121, 122, 123, 124, 125, 126, 127, 128, 129, 130, 131, 141, 142, 143, 144, 145, 146, 147, 148, 149, 150, 151, 152, 153, 154, 155, 156, 157, 158, 159, 160, 161] (by decide +kernel) (by decide +kernel)
set_option maxRecDepth 20000 in
theorem gX6_leastRiver_X3_solve : GoodIn wsX6_leastRiver (wsV RX6 170 RX3 yX3_solve wsX3_solve) := goodIn_app (goodIn_of _ (by decide +kernel)) ggX6_leastRiver_X3_solve
set_option maxRecDepth 20000 in
theorem ggX6_leastRiver_X3_hasFound : GoodIn wsX6_leastRiver wsX3_hasFound := goodIn_r _ [135, 11, 10, 141, 142, 143, 144, 145, 146, 147, 148, 149, 150] (by decide +kernel) (by decide +kernel)
set_option maxRecDepth 20000 in
theorem gX6_leastRiver_X3_hasFound : GoodIn wsX6_leastRiver (wsV RX6 174 RX3 yX3_hasFound wsX3_hasFound) := goodIn_app (goodIn_of _ (by decide +kernel)) ggX6_leastRiver_X3_hasFound
theorem dX6_leastRiver_0 : decode cX6_leastRiver 0 = .ok (.iconst 1, 1) := by decide +kernel
theorem dX6_leastRiver_1 : decode cX6_leastRiver 1 = .ok (.istore_n 1, 1) := by decide +kernel
theorem dX6_leastRiver_2 : decode cX6_leastRiver 2 = .ok (.iload_n 1, 1) := by decide +kernel
theorem dX6_leastRiver_3 : decode cX6_leastRiver 3 = .ok (.bipush 24, 2) := by decide +kernel
theorem dX6_leastRiver_5 : decode cX6_leastRiver 5 = .ok (.if_icmp .gt 33, 3) := by decide +kernel
theorem dX6_leastRiver_8 : decode cX6_leastRiver 8 = .ok (.aload_n 0, 1) := by decide +kernel
theorem dX6_leastRiver_9 : decode cX6_leastRiver 9 = .ok (.getfield 33, 3) := by decide +kernel
theorem dX6_leastRiver_12 : decode cX6_leastRiver 12 = .ok (.aload_n 0, 1) := by decide +kernel
theorem dX6_leastRiver_13 : decode cX6_leastRiver 13 = .ok (.getfield 10, 3) := by decide +kernel
theorem dX6_leastRiver_16 : decode cX6_leastRiver 16 = .ok (.iload_n 1, 1) := by decide +kernel
theorem dX6_leastRiver_17 : decode cX6_leastRiver 17 = .ok (.invokevirtual 170, 3) := by decide +kernel
theorem dX6_leastRiver_20 : decode cX6_leastRiver 20 = .ok (.aload_n 0, 1) := by decide +kernel
theorem dX6_leastRiver_21 : decode cX6_leastRiver 21 = .ok (.getfield 33, 3) := by decide +kernel
theorem dX6_leastRiver_24 : decode cX6_leastRiver 24 = .ok (.invokevirtual 174, 3) := by decide +kernel
theorem dX6_leastRiver_27 : decode cX6_leastRiver 27 = .ok (.ifCond .eq 5, 3) := by decide +kernel
theorem dX6_leastRiver_30 : decode cX6_leastRiver 30 = .ok (.iload_n 1, 1) := by decide +kernel
theorem dX6_leastRiver_31 : decode cX6_leastRiver 31 = .ok (.ireturn, 1) := by decide +kernel
theorem dX6_leastRiver_32 : decode cX6_leastRiver 32 = .ok (.iinc 1 1, 3) := by decide +kernel
theorem dX6_leastRiver_35 : decode cX6_leastRiver 35 = .ok (.goto (-33), 3) := by decide +kernel
theorem dX6_leastRiver_38 : decode cX6_leastRiver 38 = .ok (.bipush (-4), 2) := by decide +kernel
theorem dX6_leastRiver_40 : decode cX6_leastRiver 40 = .ok (.ireturn, 1) := by decide +kernel
set_option maxRecDepth 20000 in
theorem ggX6_type_X6_isWithin : GoodIn wsX6_type wsX6_isWithin := goodIn_r _ [6] (by decide +kernel) (by decide +kernel)
set_option maxRecDepth 20000 in
theorem gX6_type_X6_isWithin : GoodIn wsX6_type (va_wsS RX6 44 yX6_isWithin wsX6_isWithin) := goodIn_app (goodIn_of _ (by decide +kernel)) ggX6_type_X6_isWithin
set_option maxRecDepth 20000 in
theorem ggX6_type_X5_append : GoodIn wsX6_type wsX5_append := goodIn_r _ [11, 12, 13, 14, 15, 16, 17, 18, 19, 25, 26, 27] (by decide +kernel) (by decide +kernel)
set_option maxRecDepth 20000 in
theorem gX6_type_X5_append : GoodIn wsX6_type (wsV RX6 196 RX5 yX5_append wsX5_append) := goodIn_app (goodIn_of _ (by decide +kernel)) ggX6_type_X5_append
theorem dX6_type_0 : decode cX6_type 0 = .ok (.iload_n 1, 1) := by decide +kernel
theorem dX6_type_1 : decode cX6_type 1 = .ok (.bipush 32, 2) := by decide +kernel
theorem dX6_type_3 : decode cX6_type 3 = .ok (.bipush 126, 2) := by decide +kernel
theorem dX6_type_5 : decode cX6_type 5 = .ok (.invokestatic 44, 3) := by decide +kernel
theorem dX6_type_8 : decode cX6_type 8 = .ok (.ifCond .ne 5, 3) := by decide +kernel
theorem dX6_type_11 : decode cX6_type 11 = .ok (.iconst (-1), 1) := by decide +kernel
theorem dX6_type_12 : decode cX6_type 12 = .ok (.ireturn, 1) := by decide +kernel
theorem dX6_type_13 : decode cX6_type 13 = .ok (.aload_n 0, 1) := by decide +kernel
theorem dX6_type_14 : decode cX6_type 14 = .ok (.getfield 40, 3) := by decide +kernel
theorem dX6_type_17 : decode cX6_type 17 = .ok (.getfield 124, 3) := by decide +kernel
theorem dX6_type_20 : decode cX6_type 20 = .ok (.bipush 100, 2) := by decide +kernel
theorem dX6_type_22 : decode cX6_type 22 = .ok (.if_icmp .lt 6, 3) := by decide +kernel
theorem dX6_type_25 : decode cX6_type 25 = .ok (.bipush (-3), 2) := by decide +kernel
theorem dX6_type_27 : decode cX6_type 27 = .ok (.ireturn, 1) := by decide +kernel
theorem dX6_type_28 : decode cX6_type 28 = .ok (.aload_n 0, 1) := by decide +kernel
theorem dX6_type_29 : decode cX6_type 29 = .ok (.getfield 40, 3) := by decide +kernel
theorem dX6_type_32 : decode cX6_type 32 = .ok (.iload_n 1, 1) := by decide +kernel
theorem dX6_type_33 : decode cX6_type 33 = .ok (.invokevirtual 196, 3) := by decide +kernel
theorem dX6_type_36 : decode cX6_type 36 = .ok (.aload_n 0, 1) := by decide +kernel
theorem dX6_type_37 : decode cX6_type 37 = .ok (.getfield 40, 3) := by decide +kernel
theorem dX6_type_40 : decode cX6_type 40 = .ok (.getfield 124, 3) := by decide +kernel
theorem dX6_type_43 : decode cX6_type 43 = .ok (.ireturn, 1) := by decide +kernel
theorem dX6_clearText_0 : decode cX6_clearText 0 = .ok (.aload_n 0, 1) := by decide +kernel
theorem dX6_clearText_1 : decode cX6_clearText 1 = .ok (.getfield 40, 3) := by decide +kernel
theorem dX6_clearText_4 : decode cX6_clearText 4 = .ok (.getfield 124, 3) := by decide +kernel
theorem dX6_clearText_7 : decode cX6_clearText 7 = .ok (.istore_n 1, 1) := by decide +kernel
theorem dX6_clearText_8 : decode cX6_clearText 8 = .ok (.aload_n 0, 1) := by decide +kernel
theorem dX6_clearText_9 : decode cX6_clearText 9 = .ok (.getfield 40, 3) := by decide +kernel
theorem dX6_clearText_12 : decode cX6_clearText 12 = .ok (.iconst 0, 1) := by decide +kernel
theorem dX6_clearText_13 : decode cX6_clearText 13 = .ok (.putfield 124, 3) := by decide +kernel
theorem dX6_clearText_16 : decode cX6_clearText 16 = .ok (.iload_n 1, 1) := by decide +kernel
theorem dX6_clearText_17 : decode cX6_clearText 17 = .ok (.ireturn, 1) := by decide +kernel
set_option maxRecDepth 20000 in
theorem ggX6_fault_X5_firstFault : GoodIn wsX6_fault wsX5_firstFault := goodIn_r _ [6, 7, 8, 9, 10, 11, 12, 13, 14, 20, 21, 22] (by decide +kernel) (by decide +kernel)
set_option maxRecDepth 20000 in
theorem gX6_fault_X5_firstFault : GoodIn wsX6_fault (wsV RX6 197 RX5 yX5_firstFault wsX5_firstFault) := goodIn_app (goodIn_of _ (by decide +kernel)) ggX6_fault_X5_firstFault
theorem dX6_fault_0 : decode cX6_fault 0 = .ok (.aload_n 0, 1) := by decide +kernel
theorem dX6_fault_1 : decode cX6_fault 1 = .ok (.getfield 40, 3) := by decide +kernel
theorem dX6_fault_4 : decode cX6_fault 4 = .ok (.invokevirtual 197, 3) := by decide +kernel
theorem dX6_fault_7 : decode cX6_fault 7 = .ok (.ireturn, 1) := by decide +kernel
set_option maxRecDepth 20000 in
theorem ggX6_read_X5_firstFault : GoodIn wsX6_read wsX5_firstFault := goodIn_r _ [8, 9, 10, 11, 12, 13, 14, 15, 16, 113, 114, 115] (by decide +kernel) (by decide +kernel)
set_option maxRecDepth 20000 in
theorem gX6_read_X5_firstFault : GoodIn wsX6_read (wsV RX6 197 RX5 yX5_firstFault wsX5_firstFault) := goodIn_app (goodIn_of _ (by decide +kernel)) ggX6_read_X5_firstFault
set_option maxRecDepth 20000 in
theorem ggX6_read_X6_beginChange : GoodIn wsX6_read wsX6_beginChange := goodIn_r _ [21, 22, 2, 23, 24, 25, 26, 27, 28, 29, 30, 31, 32, 33, 34, 35, 36, 37, 38, 39, 40, 41, 42, 43, 44, 45, 46, 47, 48, 49, 50, 51, 52, 14, 53, 16, 54, 12, 13, 15, 55, 56, 57, 58, 59, 60, 102, 103, 104, 105, 106, 116, 117, 107, 108, 109, 110, 111, 112, 115, 118, 119, 120, 121, 122, 123, 124, 125, 126, 127] (by decide +kernel) (by decide +kernel)
set_option maxRecDepth 20000 in
theorem gX6_read_X6_beginChange : GoodIn wsX6_read (wsV RX6 52 RX6 yX6_beginChange wsX6_beginChange) := goodIn_app (goodIn_of _ (by decide +kernel)) ggX6_read_X6_beginChange
set_option maxRecDepth 20000 in
theorem ggX6_read_X5_giveWords : GoodIn wsX6_read wsX5_giveWords := goodIn_r _ [64, 9, 10, 65, 66, 67, 42, 68, 46, 48, 49, 69, 70, 71, 14, 72, 16, 11, 12, 13, 15, 73, 74, 75, 76, 47, 77, 78, 79, 80, 113, 114, 107, 108, 109, 110, 111, 112, 115] (by decide +kernel) (by decide +kernel)
set_option maxRecDepth 20000 in
theorem gX6_read_X5_giveWords : GoodIn wsX6_read (wsV RX6 200 RX5 yX5_giveWords wsX5_giveWords) := goodIn_app (goodIn_of _ (by decide +kernel)) ggX6_read_X5_giveWords
set_option maxRecDepth 20000 in
theorem ggX6_read_X1_fill : GoodIn wsX6_read wsX1_fill := goodIn_r _ [84, 46, 85, 86, 87, 42, 88, 48, 69, 70, 71, 14, 72, 16, 89, 90, 91, 92, 93, 94, 95, 96, 44, 47, 97, 12, 13, 15, 98, 99, 100, 101, 77, 78, 79, 80, 107, 108, 109, 110, 111, 112, 115] (by decide +kernel) (by decide +kernel)
set_option maxRecDepth 20000 in
theorem gX6_read_X1_fill : GoodIn wsX6_read (wsV RX6 59 RX1 yX1_fill wsX1_fill) := goodIn_app (goodIn_of _ (by decide +kernel)) ggX6_read_X1_fill
theorem dX6_read_0 : decode cX6_read 0 = .ok (.aload_n 0, 1) := by decide +kernel
theorem dX6_read_1 : decode cX6_read 1 = .ok (.getfield 40, 3) := by decide +kernel
theorem dX6_read_4 : decode cX6_read 4 = .ok (.invokevirtual 197, 3) := by decide +kernel
theorem dX6_read_7 : decode cX6_read 7 = .ok (.bipush (-4), 2) := by decide +kernel
theorem dX6_read_9 : decode cX6_read 9 = .ok (.if_icmp .eq 6, 3) := by decide +kernel
theorem dX6_read_12 : decode cX6_read 12 = .ok (.bipush (-2), 2) := by decide +kernel
theorem dX6_read_14 : decode cX6_read 14 = .ok (.ireturn, 1) := by decide +kernel
theorem dX6_read_15 : decode cX6_read 15 = .ok (.aload_n 0, 1) := by decide +kernel
theorem dX6_read_16 : decode cX6_read 16 = .ok (.invokevirtual 52, 3) := by decide +kernel
theorem dX6_read_19 : decode cX6_read 19 = .ok (.aload_n 0, 1) := by decide +kernel
theorem dX6_read_20 : decode cX6_read 20 = .ok (.getfield 40, 3) := by decide +kernel
theorem dX6_read_23 : decode cX6_read 23 = .ok (.aload_n 0, 1) := by decide +kernel
theorem dX6_read_24 : decode cX6_read 24 = .ok (.getfield 10, 3) := by decide +kernel
theorem dX6_read_27 : decode cX6_read 27 = .ok (.invokevirtual 200, 3) := by decide +kernel
theorem dX6_read_30 : decode cX6_read 30 = .ok (.aload_n 0, 1) := by decide +kernel
theorem dX6_read_31 : decode cX6_read 31 = .ok (.getfield 10, 3) := by decide +kernel
theorem dX6_read_34 : decode cX6_read 34 = .ok (.invokevirtual 59, 3) := by decide +kernel
theorem dX6_read_37 : decode cX6_read 37 = .ok (.aload_n 0, 1) := by decide +kernel
theorem dX6_read_38 : decode cX6_read 38 = .ok (.getfield 10, 3) := by decide +kernel
theorem dX6_read_41 : decode cX6_read 41 = .ok (.getfield 68, 3) := by decide +kernel
theorem dX6_read_44 : decode cX6_read 44 = .ok (.ireturn, 1) := by decide +kernel
set_option maxRecDepth 20000 in
theorem ggX6_beginChange_X0_keep : GoodIn wsX6_beginChange wsX0_keep := goodIn_r _ [8, 9, 10, 11, 12, 13, 7, 14, 15, 16, 17, 18, 19, 20, 21, 22, 23, 24, 25, 26, 27, 28, 29, 30, 31, 32, 33, 34, 35, 36, 37, 38, 39, 51, 52, 53, 54, 55, 56, 57, 58, 59] (by decide +kernel) (by decide +kernel)
set_option maxRecDepth 20000 in
theorem gX6_beginChange_X0_keep : GoodIn wsX6_beginChange (wsV RX6 203 RX0 yX0_keep wsX0_keep) := goodIn_app (goodIn_of _ (by decide +kernel)) ggX6_beginChange_X0_keep
set_option maxRecDepth 20000 in
theorem ggX6_beginChange_X3_forget : GoodIn wsX6_beginChange wsX3_forget := goodIn_r _ [44, 45, 60, 61, 62, 63, 64, 65, 66, 67, 68, 69] (by decide +kernel) (by decide +kernel)
set_option maxRecDepth 20000 in
theorem gX6_beginChange_X3_forget : GoodIn wsX6_beginChange (wsV RX6 148 RX3 yX3_forget wsX3_forget) := goodIn_app (goodIn_of _ (by decide +kernel)) ggX6_beginChange_X3_forget
theorem dX6_beginChange_0 : decode cX6_beginChange 0 = .ok (.aload_n 0, 1) := by decide +kernel
theorem dX6_beginChange_1 : decode cX6_beginChange 1 = .ok (.getfield 19, 3) := by decide +kernel
theorem dX6_beginChange_4 : decode cX6_beginChange 4 = .ok (.aload_n 0, 1) := by decide +kernel
theorem dX6_beginChange_5 : decode cX6_beginChange 5 = .ok (.getfield 10, 3) := by decide +kernel
theorem dX6_beginChange_8 : decode cX6_beginChange 8 = .ok (.invokevirtual 203, 3) := by decide +kernel
theorem dX6_beginChange_11 : decode cX6_beginChange 11 = .ok (.aload_n 0, 1) := by decide +kernel
theorem dX6_beginChange_12 : decode cX6_beginChange 12 = .ok (.getfield 33, 3) := by decide +kernel
theorem dX6_beginChange_15 : decode cX6_beginChange 15 = .ok (.invokevirtual 148, 3) := by decide +kernel
theorem dX6_beginChange_18 : decode cX6_beginChange 18 = .ok (.return_, 1) := by decide +kernel
set_option maxRecDepth 20000 in
theorem ggX6_gapAbove_X1_lineOf : GoodIn wsX6_gapAbove wsX1_lineOf := goodIn_r _ [7, 8, 9, 10, 11, 12, 13, 14, 15, 45, 46, 47, 48, 49, 50, 51] (by decide +kernel) (by decide +kernel)
set_option maxRecDepth 20000 in
theorem gX6_gapAbove_X1_lineOf : GoodIn wsX6_gapAbove (wsV RX6 133 RX1 yX1_lineOf wsX1_lineOf) := goodIn_app (goodIn_of _ (by decide +kernel)) ggX6_gapAbove_X1_lineOf
set_option maxRecDepth 20000 in
theorem ggX6_gapAbove_X1_firstOf : GoodIn wsX6_gapAbove wsX1_firstOf := goodIn_r _ [19, 8, 9, 10, 11, 12, 13, 14, 15, 45, 46, 47, 48, 49, 50, 51] (by decide +kernel) (by decide +kernel)
set_option maxRecDepth 20000 in
theorem gX6_gapAbove_X1_firstOf : GoodIn wsX6_gapAbove (wsV RX6 71 RX1 yX1_firstOf wsX1_firstOf) := goodIn_app (goodIn_of _ (by decide +kernel)) ggX6_gapAbove_X1_firstOf
set_option maxRecDepth 20000 in
theorem ggX6_gapAbove_X4_meet : GoodIn wsX6_gapAbove wsX4_meet := goodIn_r _ [24, 25, 26, 27, 28, 29, 30, 31, 32, 33, 34, 11, 12, 13, 14, 15, 52, 53, 54, 55, 51] (by decide +kernel) (by decide +kernel)
set_option maxRecDepth 20000 in
theorem gX6_gapAbove_X4_meet : GoodIn wsX6_gapAbove (wsV RX6 206 RX4 yX4_meet wsX4_meet) := goodIn_app (goodIn_of _ (by decide +kernel)) ggX6_gapAbove_X4_meet
set_option maxRecDepth 20000 in
theorem ggX6_gapAbove_X4_reachOf : GoodIn wsX6_gapAbove wsX4_reachOf := goodIn_r _ [38, 39, 34, 11, 12, 13, 14, 15, 52, 53, 54, 55, 51] (by decide +kernel) (by decide +kernel)
set_option maxRecDepth 20000 in
theorem gX6_gapAbove_X4_reachOf : GoodIn wsX6_gapAbove (wsV RX6 157 RX4 yX4_reachOf wsX4_reachOf) := goodIn_app (goodIn_of _ (by decide +kernel)) ggX6_gapAbove_X4_reachOf
theorem dX6_gapAbove_0 : decode cX6_gapAbove 0 = .ok (.aload_n 0, 1) := by decide +kernel
theorem dX6_gapAbove_1 : decode cX6_gapAbove 1 = .ok (.getfield 10, 3) := by decide +kernel
theorem dX6_gapAbove_4 : decode cX6_gapAbove 4 = .ok (.iload_n 1, 1) := by decide +kernel
theorem dX6_gapAbove_5 : decode cX6_gapAbove 5 = .ok (.invokevirtual 133, 3) := by decide +kernel
theorem dX6_gapAbove_8 : decode cX6_gapAbove 8 = .ok (.istore_n 2, 1) := by decide +kernel
theorem dX6_gapAbove_9 : decode cX6_gapAbove 9 = .ok (.aload_n 0, 1) := by decide +kernel
theorem dX6_gapAbove_10 : decode cX6_gapAbove 10 = .ok (.getfield 10, 3) := by decide +kernel
theorem dX6_gapAbove_13 : decode cX6_gapAbove 13 = .ok (.iload_n 2, 1) := by decide +kernel
theorem dX6_gapAbove_14 : decode cX6_gapAbove 14 = .ok (.iconst 1, 1) := by decide +kernel
theorem dX6_gapAbove_15 : decode cX6_gapAbove 15 = .ok (.isub, 1) := by decide +kernel
theorem dX6_gapAbove_16 : decode cX6_gapAbove 16 = .ok (.invokevirtual 71, 3) := by decide +kernel
theorem dX6_gapAbove_19 : decode cX6_gapAbove 19 = .ok (.istore_n 3, 1) := by decide +kernel
theorem dX6_gapAbove_20 : decode cX6_gapAbove 20 = .ok (.aload_n 0, 1) := by decide +kernel
theorem dX6_gapAbove_21 : decode cX6_gapAbove 21 = .ok (.getfield 10, 3) := by decide +kernel
theorem dX6_gapAbove_24 : decode cX6_gapAbove 24 = .ok (.iload_n 2, 1) := by decide +kernel
theorem dX6_gapAbove_25 : decode cX6_gapAbove 25 = .ok (.invokevirtual 71, 3) := by decide +kernel
theorem dX6_gapAbove_28 : decode cX6_gapAbove 28 = .ok (.istore 4, 2) := by decide +kernel
theorem dX6_gapAbove_30 : decode cX6_gapAbove 30 = .ok (.iload_n 3, 1) := by decide +kernel
theorem dX6_gapAbove_31 : decode cX6_gapAbove 31 = .ok (.istore 5, 2) := by decide +kernel
theorem dX6_gapAbove_33 : decode cX6_gapAbove 33 = .ok (.iload 5, 2) := by decide +kernel
theorem dX6_gapAbove_35 : decode cX6_gapAbove 35 = .ok (.iload 4, 2) := by decide +kernel
theorem dX6_gapAbove_37 : decode cX6_gapAbove 37 = .ok (.if_icmp .ge 47, 3) := by decide +kernel
theorem dX6_gapAbove_40 : decode cX6_gapAbove 40 = .ok (.aload_n 0, 1) := by decide +kernel
theorem dX6_gapAbove_41 : decode cX6_gapAbove 41 = .ok (.getfield 26, 3) := by decide +kernel
theorem dX6_gapAbove_44 : decode cX6_gapAbove 44 = .ok (.iload 5, 2) := by decide +kernel
theorem dX6_gapAbove_46 : decode cX6_gapAbove 46 = .ok (.iload_n 1, 1) := by decide +kernel
theorem dX6_gapAbove_47 : decode cX6_gapAbove 47 = .ok (.invokevirtual 206, 3) := by decide +kernel
theorem dX6_gapAbove_50 : decode cX6_gapAbove 50 = .ok (.ifCond .eq 28, 3) := by decide +kernel
theorem dX6_gapAbove_53 : decode cX6_gapAbove 53 = .ok (.aload_n 0, 1) := by decide +kernel
theorem dX6_gapAbove_54 : decode cX6_gapAbove 54 = .ok (.getfield 26, 3) := by decide +kernel
theorem dX6_gapAbove_57 : decode cX6_gapAbove 57 = .ok (.iload 5, 2) := by decide +kernel
theorem dX6_gapAbove_59 : decode cX6_gapAbove 59 = .ok (.invokevirtual 157, 3) := by decide +kernel
theorem dX6_gapAbove_62 : decode cX6_gapAbove 62 = .ok (.aload_n 0, 1) := by decide +kernel
theorem dX6_gapAbove_63 : decode cX6_gapAbove 63 = .ok (.getfield 26, 3) := by decide +kernel
theorem dX6_gapAbove_66 : decode cX6_gapAbove 66 = .ok (.iload_n 1, 1) := by decide +kernel
theorem dX6_gapAbove_67 : decode cX6_gapAbove 67 = .ok (.invokevirtual 157, 3) := by decide +kernel
theorem dX6_gapAbove_70 : decode cX6_gapAbove 70 = .ok (.iconst 1, 1) := by decide +kernel
theorem dX6_gapAbove_71 : decode cX6_gapAbove 71 = .ok (.isub, 1) := by decide +kernel
theorem dX6_gapAbove_72 : decode cX6_gapAbove 72 = .ok (.if_icmp .ne 6, 3) := by decide +kernel
theorem dX6_gapAbove_75 : decode cX6_gapAbove 75 = .ok (.iload 5, 2) := by decide +kernel
theorem dX6_gapAbove_77 : decode cX6_gapAbove 77 = .ok (.ireturn, 1) := by decide +kernel
theorem dX6_gapAbove_78 : decode cX6_gapAbove 78 = .ok (.iinc 5 1, 3) := by decide +kernel
theorem dX6_gapAbove_81 : decode cX6_gapAbove 81 = .ok (.goto (-48), 3) := by decide +kernel
theorem dX6_gapAbove_84 : decode cX6_gapAbove 84 = .ok (.iload_n 1, 1) := by decide +kernel
theorem dX6_gapAbove_85 : decode cX6_gapAbove 85 = .ok (.ireturn, 1) := by decide +kernel
theorem dX6_isWithin_0 : decode cX6_isWithin 0 = .ok (.iload_n 0, 1) := by decide +kernel
theorem dX6_isWithin_1 : decode cX6_isWithin 1 = .ok (.iload_n 1, 1) := by decide +kernel
theorem dX6_isWithin_2 : decode cX6_isWithin 2 = .ok (.if_icmp .lt 12, 3) := by decide +kernel
theorem dX6_isWithin_5 : decode cX6_isWithin 5 = .ok (.iload_n 0, 1) := by decide +kernel
theorem dX6_isWithin_6 : decode cX6_isWithin 6 = .ok (.iload_n 2, 1) := by decide +kernel
theorem dX6_isWithin_7 : decode cX6_isWithin 7 = .ok (.if_icmp .gt 7, 3) := by decide +kernel
theorem dX6_isWithin_10 : decode cX6_isWithin 10 = .ok (.iconst 1, 1) := by decide +kernel
theorem dX6_isWithin_11 : decode cX6_isWithin 11 = .ok (.goto 4, 3) := by decide +kernel
theorem dX6_isWithin_14 : decode cX6_isWithin 14 = .ok (.iconst 0, 1) := by decide +kernel
theorem dX6_isWithin_15 : decode cX6_isWithin 15 = .ok (.ireturn, 1) := by decide +kernel
theorem dX7_init_0 : decode cX7_init 0 = .ok (.aload_n 0, 1) := by decide +kernel
theorem dX7_init_1 : decode cX7_init 1 = .ok (.invokespecial 1, 3) := by decide +kernel
theorem dX7_init_4 : decode cX7_init 4 = .ok (.aload_n 0, 1) := by decide +kernel
theorem dX7_init_5 : decode cX7_init 5 = .ok (.bipush 77, 2) := by decide +kernel
theorem dX7_init_7 : decode cX7_init 7 = .ok (.newarray .int, 2) := by decide +kernel
theorem dX7_init_9 : decode cX7_init 9 = .ok (.putfield 7, 3) := by decide +kernel
theorem dX7_init_12 : decode cX7_init 12 = .ok (.aload_n 0, 1) := by decide +kernel
theorem dX7_init_13 : decode cX7_init 13 = .ok (.sipush 385, 3) := by decide +kernel
theorem dX7_init_16 : decode cX7_init 16 = .ok (.newarray .int, 2) := by decide +kernel
theorem dX7_init_18 : decode cX7_init 18 = .ok (.putfield 13, 3) := by decide +kernel
theorem dX7_init_21 : decode cX7_init 21 = .ok (.aload_n 0, 1) := by decide +kernel
theorem dX7_init_22 : decode cX7_init 22 = .ok (.bipush 100, 2) := by decide +kernel
theorem dX7_init_24 : decode cX7_init 24 = .ok (.newarray .char, 2) := by decide +kernel
theorem dX7_init_26 : decode cX7_init 26 = .ok (.putfield 16, 3) := by decide +kernel
theorem dX7_init_29 : decode cX7_init 29 = .ok (.aload_n 0, 1) := by decide +kernel
theorem dX7_init_30 : decode cX7_init 30 = .ok (.bipush 24, 2) := by decide +kernel
theorem dX7_init_32 : decode cX7_init 32 = .ok (.newarray .int, 2) := by decide +kernel
theorem dX7_init_34 : decode cX7_init 34 = .ok (.putfield 20, 3) := by decide +kernel
theorem dX7_init_37 : decode cX7_init 37 = .ok (.aload_n 0, 1) := by decide +kernel
theorem dX7_init_38 : decode cX7_init 38 = .ok (.bipush 24, 2) := by decide +kernel
theorem dX7_init_40 : decode cX7_init 40 = .ok (.newarray .int, 2) := by decide +kernel
theorem dX7_init_42 : decode cX7_init 42 = .ok (.putfield 23, 3) := by decide +kernel
theorem dX7_init_45 : decode cX7_init 45 = .ok (.aload_n 0, 1) := by decide +kernel
theorem dX7_init_46 : decode cX7_init 46 = .ok (.bipush 24, 2) := by decide +kernel
theorem dX7_init_48 : decode cX7_init 48 = .ok (.newarray .int, 2) := by decide +kernel
theorem dX7_init_50 : decode cX7_init 50 = .ok (.putfield 26, 3) := by decide +kernel
theorem dX7_init_53 : decode cX7_init 53 = .ok (.aload_n 0, 1) := by decide +kernel
theorem dX7_init_54 : decode cX7_init 54 = .ok (.bipush 24, 2) := by decide +kernel
theorem dX7_init_56 : decode cX7_init 56 = .ok (.newarray .int, 2) := by decide +kernel
theorem dX7_init_58 : decode cX7_init 58 = .ok (.putfield 29, 3) := by decide +kernel
theorem dX7_init_61 : decode cX7_init 61 = .ok (.aload_n 0, 1) := by decide +kernel
theorem dX7_init_62 : decode cX7_init 62 = .ok (.bipush 26, 2) := by decide +kernel
theorem dX7_init_64 : decode cX7_init 64 = .ok (.newarray .int, 2) := by decide +kernel
theorem dX7_init_66 : decode cX7_init 66 = .ok (.putfield 32, 3) := by decide +kernel
theorem dX7_init_69 : decode cX7_init 69 = .ok (.aload_n 0, 1) := by decide +kernel
theorem dX7_init_70 : decode cX7_init 70 = .ok (.bipush 26, 2) := by decide +kernel
theorem dX7_init_72 : decode cX7_init 72 = .ok (.newarray .int, 2) := by decide +kernel
theorem dX7_init_74 : decode cX7_init 74 = .ok (.putfield 35, 3) := by decide +kernel
theorem dX7_init_77 : decode cX7_init 77 = .ok (.aload_n 0, 1) := by decide +kernel
theorem dX7_init_78 : decode cX7_init 78 = .ok (.bipush 26, 2) := by decide +kernel
theorem dX7_init_80 : decode cX7_init 80 = .ok (.newarray .int, 2) := by decide +kernel
theorem dX7_init_82 : decode cX7_init 82 = .ok (.putfield 38, 3) := by decide +kernel
theorem dX7_init_85 : decode cX7_init 85 = .ok (.aload_n 0, 1) := by decide +kernel
theorem dX7_init_86 : decode cX7_init 86 = .ok (.bipush 26, 2) := by decide +kernel
theorem dX7_init_88 : decode cX7_init 88 = .ok (.newarray .int, 2) := by decide +kernel
theorem dX7_init_90 : decode cX7_init 90 = .ok (.putfield 41, 3) := by decide +kernel
theorem dX7_init_93 : decode cX7_init 93 = .ok (.aload_n 0, 1) := by decide +kernel
theorem dX7_init_94 : decode cX7_init 94 = .ok (.bipush 26, 2) := by decide +kernel
theorem dX7_init_96 : decode cX7_init 96 = .ok (.newarray .int, 2) := by decide +kernel
theorem dX7_init_98 : decode cX7_init 98 = .ok (.putfield 44, 3) := by decide +kernel
theorem dX7_init_101 : decode cX7_init 101 = .ok (.aload_n 0, 1) := by decide +kernel
theorem dX7_init_102 : decode cX7_init 102 = .ok (.bipush 26, 2) := by decide +kernel
theorem dX7_init_104 : decode cX7_init 104 = .ok (.newarray .int, 2) := by decide +kernel
theorem dX7_init_106 : decode cX7_init 106 = .ok (.putfield 47, 3) := by decide +kernel
theorem dX7_init_109 : decode cX7_init 109 = .ok (.aload_n 0, 1) := by decide +kernel
theorem dX7_init_110 : decode cX7_init 110 = .ok (.getfield 7, 3) := by decide +kernel
theorem dX7_init_113 : decode cX7_init 113 = .ok (.iconst 1, 1) := by decide +kernel
theorem dX7_init_114 : decode cX7_init 114 = .ok (.bipush 24, 2) := by decide +kernel
theorem dX7_init_116 : decode cX7_init 116 = .ok (.iastore, 1) := by decide +kernel
theorem dX7_init_117 : decode cX7_init 117 = .ok (.aload_n 0, 1) := by decide +kernel
theorem dX7_init_118 : decode cX7_init 118 = .ok (.getfield 7, 3) := by decide +kernel
theorem dX7_init_121 : decode cX7_init 121 = .ok (.iconst 2, 1) := by decide +kernel
theorem dX7_init_122 : decode cX7_init 122 = .ok (.bipush 6, 2) := by decide +kernel
theorem dX7_init_124 : decode cX7_init 124 = .ok (.iastore, 1) := by decide +kernel
theorem dX7_init_125 : decode cX7_init 125 = .ok (.return_, 1) := by decide +kernel
theorem dX7_in_0 : decode cX7_in 0 = .ok (.iload_n 0, 1) := by decide +kernel
theorem dX7_in_1 : decode cX7_in 1 = .ok (.iload_n 1, 1) := by decide +kernel
theorem dX7_in_2 : decode cX7_in 2 = .ok (.if_icmp .lt 12, 3) := by decide +kernel
theorem dX7_in_5 : decode cX7_in 5 = .ok (.iload_n 0, 1) := by decide +kernel
theorem dX7_in_6 : decode cX7_in 6 = .ok (.iload_n 2, 1) := by decide +kernel
theorem dX7_in_7 : decode cX7_in 7 = .ok (.if_icmp .gt 7, 3) := by decide +kernel
theorem dX7_in_10 : decode cX7_in 10 = .ok (.iconst 1, 1) := by decide +kernel
theorem dX7_in_11 : decode cX7_in 11 = .ok (.goto 4, 3) := by decide +kernel
theorem dX7_in_14 : decode cX7_in 14 = .ok (.iconst 0, 1) := by decide +kernel
theorem dX7_in_15 : decode cX7_in 15 = .ok (.ireturn, 1) := by decide +kernel
set_option maxRecDepth 20000 in
theorem ggX7_isLine_X7_in : GoodIn wsX7_isLine wsX7_in := goodIn_r _ [5] (by decide +kernel) (by decide +kernel)
set_option maxRecDepth 20000 in
theorem gX7_isLine_X7_in : GoodIn wsX7_isLine (va_wsS RX7 50 yX7_in wsX7_in) := goodIn_app (goodIn_of _ (by decide +kernel)) ggX7_isLine_X7_in
theorem dX7_isLine_0 : decode cX7_isLine 0 = .ok (.iload_n 1, 1) := by decide +kernel
theorem dX7_isLine_1 : decode cX7_isLine 1 = .ok (.iconst 0, 1) := by decide +kernel
theorem dX7_isLine_2 : decode cX7_isLine 2 = .ok (.aload_n 0, 1) := by decide +kernel
theorem dX7_isLine_3 : decode cX7_isLine 3 = .ok (.getfield 7, 3) := by decide +kernel
theorem dX7_isLine_6 : decode cX7_isLine 6 = .ok (.iconst 3, 1) := by decide +kernel
theorem dX7_isLine_7 : decode cX7_isLine 7 = .ok (.iaload, 1) := by decide +kernel
theorem dX7_isLine_8 : decode cX7_isLine 8 = .ok (.iconst 1, 1) := by decide +kernel
theorem dX7_isLine_9 : decode cX7_isLine 9 = .ok (.isub, 1) := by decide +kernel
theorem dX7_isLine_10 : decode cX7_isLine 10 = .ok (.invokestatic 50, 3) := by decide +kernel
theorem dX7_isLine_13 : decode cX7_isLine 13 = .ok (.ireturn, 1) := by decide +kernel
theorem dX7_records_0 : decode cX7_records 0 = .ok (.aload_n 0, 1) := by decide +kernel
theorem dX7_records_1 : decode cX7_records 1 = .ok (.getfield 54, 3) := by decide +kernel
theorem dX7_records_4 : decode cX7_records 4 = .ok (.iconst 5, 1) := by decide +kernel
theorem dX7_records_5 : decode cX7_records 5 = .ok (.if_icmp .ne 43, 3) := by decide +kernel
theorem dX7_records_8 : decode cX7_records 8 = .ok (.iconst 0, 1) := by decide +kernel
theorem dX7_records_9 : decode cX7_records 9 = .ok (.istore_n 1, 1) := by decide +kernel
theorem dX7_records_10 : decode cX7_records 10 = .ok (.iload_n 1, 1) := by decide +kernel
theorem dX7_records_11 : decode cX7_records 11 = .ok (.sipush 308, 3) := by decide +kernel
theorem dX7_records_14 : decode cX7_records 14 = .ok (.if_icmp .ge 24, 3) := by decide +kernel
theorem dX7_records_17 : decode cX7_records 17 = .ok (.aload_n 0, 1) := by decide +kernel
theorem dX7_records_18 : decode cX7_records 18 = .ok (.getfield 13, 3) := by decide +kernel
theorem dX7_records_21 : decode cX7_records 21 = .ok (.iload_n 1, 1) := by decide +kernel
theorem dX7_records_22 : decode cX7_records 22 = .ok (.aload_n 0, 1) := by decide +kernel
theorem dX7_records_23 : decode cX7_records 23 = .ok (.getfield 13, 3) := by decide +kernel
theorem dX7_records_26 : decode cX7_records 26 = .ok (.iload_n 1, 1) := by decide +kernel
theorem dX7_records_27 : decode cX7_records 27 = .ok (.bipush 77, 2) := by decide +kernel
theorem dX7_records_29 : decode cX7_records 29 = .ok (.iadd, 1) := by decide +kernel
theorem dX7_records_30 : decode cX7_records 30 = .ok (.iaload, 1) := by decide +kernel
theorem dX7_records_31 : decode cX7_records 31 = .ok (.iastore, 1) := by decide +kernel
theorem dX7_records_32 : decode cX7_records 32 = .ok (.iinc 1 1, 3) := by decide +kernel
theorem dX7_records_35 : decode cX7_records 35 = .ok (.goto (-25), 3) := by decide +kernel
theorem dX7_records_38 : decode cX7_records 38 = .ok (.aload_n 0, 1) := by decide +kernel
theorem dX7_records_39 : decode cX7_records 39 = .ok (.dup, 1) := by decide +kernel
theorem dX7_records_40 : decode cX7_records 40 = .ok (.getfield 54, 3) := by decide +kernel
theorem dX7_records_43 : decode cX7_records 43 = .ok (.iconst 1, 1) := by decide +kernel
theorem dX7_records_44 : decode cX7_records 44 = .ok (.isub, 1) := by decide +kernel
theorem dX7_records_45 : decode cX7_records 45 = .ok (.putfield 54, 3) := by decide +kernel
theorem dX7_records_48 : decode cX7_records 48 = .ok (.iconst 0, 1) := by decide +kernel
theorem dX7_records_49 : decode cX7_records 49 = .ok (.istore_n 1, 1) := by decide +kernel
theorem dX7_records_50 : decode cX7_records 50 = .ok (.iload_n 1, 1) := by decide +kernel
theorem dX7_records_51 : decode cX7_records 51 = .ok (.bipush 77, 2) := by decide +kernel
theorem dX7_records_53 : decode cX7_records 53 = .ok (.if_icmp .ge 29, 3) := by decide +kernel
theorem dX7_records_56 : decode cX7_records 56 = .ok (.aload_n 0, 1) := by decide +kernel
theorem dX7_records_57 : decode cX7_records 57 = .ok (.getfield 13, 3) := by decide +kernel
theorem dX7_records_60 : decode cX7_records 60 = .ok (.bipush 77, 2) := by decide +kernel
theorem dX7_records_62 : decode cX7_records 62 = .ok (.aload_n 0, 1) := by decide +kernel
theorem dX7_records_63 : decode cX7_records 63 = .ok (.getfield 54, 3) := by decide +kernel
theorem dX7_records_66 : decode cX7_records 66 = .ok (.imul, 1) := by decide +kernel
theorem dX7_records_67 : decode cX7_records 67 = .ok (.iload_n 1, 1) := by decide +kernel
theorem dX7_records_68 : decode cX7_records 68 = .ok (.iadd, 1) := by decide +kernel
theorem dX7_records_69 : decode cX7_records 69 = .ok (.aload_n 0, 1) := by decide +kernel
theorem dX7_records_70 : decode cX7_records 70 = .ok (.getfield 7, 3) := by decide +kernel
theorem dX7_records_73 : decode cX7_records 73 = .ok (.iload_n 1, 1) := by decide +kernel
theorem dX7_records_74 : decode cX7_records 74 = .ok (.iaload, 1) := by decide +kernel
theorem dX7_records_75 : decode cX7_records 75 = .ok (.iastore, 1) := by decide +kernel
theorem dX7_records_76 : decode cX7_records 76 = .ok (.iinc 1 1, 3) := by decide +kernel
theorem dX7_records_79 : decode cX7_records 79 = .ok (.goto (-29), 3) := by decide +kernel
theorem dX7_records_82 : decode cX7_records 82 = .ok (.aload_n 0, 1) := by decide +kernel
theorem dX7_records_83 : decode cX7_records 83 = .ok (.dup, 1) := by decide +kernel
theorem dX7_records_84 : decode cX7_records 84 = .ok (.getfield 54, 3) := by decide +kernel
theorem dX7_records_87 : decode cX7_records 87 = .ok (.iconst 1, 1) := by decide +kernel
theorem dX7_records_88 : decode cX7_records 88 = .ok (.iadd, 1) := by decide +kernel
theorem dX7_records_89 : decode cX7_records 89 = .ok (.putfield 54, 3) := by decide +kernel
theorem dX7_records_92 : decode cX7_records 92 = .ok (.return_, 1) := by decide +kernel
theorem dX7_first_0 : decode cX7_first 0 = .ok (.aload_n 0, 1) := by decide +kernel
theorem dX7_first_1 : decode cX7_first 1 = .ok (.getfield 7, 3) := by decide +kernel
theorem dX7_first_4 : decode cX7_first 4 = .ok (.bipush 28, 2) := by decide +kernel
theorem dX7_first_6 : decode cX7_first 6 = .ok (.iload_n 1, 1) := by decide +kernel
theorem dX7_first_7 : decode cX7_first 7 = .ok (.iadd, 1) := by decide +kernel
theorem dX7_first_8 : decode cX7_first 8 = .ok (.iaload, 1) := by decide +kernel
theorem dX7_first_9 : decode cX7_first 9 = .ok (.ireturn, 1) := by decide +kernel
theorem dX7_behind_0 : decode cX7_behind 0 = .ok (.iload_n 1, 1) := by decide +kernel
theorem dX7_behind_1 : decode cX7_behind 1 = .ok (.iconst 1, 1) := by decide +kernel
theorem dX7_behind_2 : decode cX7_behind 2 = .ok (.iadd, 1) := by decide +kernel
theorem dX7_behind_3 : decode cX7_behind 3 = .ok (.aload_n 0, 1) := by decide +kernel
theorem dX7_behind_4 : decode cX7_behind 4 = .ok (.getfield 7, 3) := by decide +kernel
theorem dX7_behind_7 : decode cX7_behind 7 = .ok (.iconst 3, 1) := by decide +kernel
theorem dX7_behind_8 : decode cX7_behind 8 = .ok (.iaload, 1) := by decide +kernel
theorem dX7_behind_9 : decode cX7_behind 9 = .ok (.if_icmp .ge 17, 3) := by decide +kernel
theorem dX7_behind_12 : decode cX7_behind 12 = .ok (.aload_n 0, 1) := by decide +kernel
theorem dX7_behind_13 : decode cX7_behind 13 = .ok (.getfield 7, 3) := by decide +kernel
theorem dX7_behind_16 : decode cX7_behind 16 = .ok (.bipush 28, 2) := by decide +kernel
theorem dX7_behind_18 : decode cX7_behind 18 = .ok (.iload_n 1, 1) := by decide +kernel
theorem dX7_behind_19 : decode cX7_behind 19 = .ok (.iadd, 1) := by decide +kernel
theorem dX7_behind_20 : decode cX7_behind 20 = .ok (.iconst 1, 1) := by decide +kernel
theorem dX7_behind_21 : decode cX7_behind 21 = .ok (.iadd, 1) := by decide +kernel
theorem dX7_behind_22 : decode cX7_behind 22 = .ok (.iaload, 1) := by decide +kernel
theorem dX7_behind_23 : decode cX7_behind 23 = .ok (.goto 9, 3) := by decide +kernel
theorem dX7_behind_26 : decode cX7_behind 26 = .ok (.aload_n 0, 1) := by decide +kernel
theorem dX7_behind_27 : decode cX7_behind 27 = .ok (.getfield 7, 3) := by decide +kernel
theorem dX7_behind_30 : decode cX7_behind 30 = .ok (.iconst 0, 1) := by decide +kernel
theorem dX7_behind_31 : decode cX7_behind 31 = .ok (.iaload, 1) := by decide +kernel
theorem dX7_behind_32 : decode cX7_behind 32 = .ok (.ireturn, 1) := by decide +kernel
theorem dX7_needs_0 : decode cX7_needs 0 = .ok (.iload_n 2, 1) := by decide +kernel
theorem dX7_needs_1 : decode cX7_needs 1 = .ok (.iload_n 1, 1) := by decide +kernel
theorem dX7_needs_2 : decode cX7_needs 2 = .ok (.isub, 1) := by decide +kernel
theorem dX7_needs_3 : decode cX7_needs 3 = .ok (.iconst 1, 1) := by decide +kernel
theorem dX7_needs_4 : decode cX7_needs 4 = .ok (.isub, 1) := by decide +kernel
theorem dX7_needs_5 : decode cX7_needs 5 = .ok (.istore_n 3, 1) := by decide +kernel
theorem dX7_needs_6 : decode cX7_needs 6 = .ok (.iload_n 1, 1) := by decide +kernel
theorem dX7_needs_7 : decode cX7_needs 7 = .ok (.istore 4, 2) := by decide +kernel
theorem dX7_needs_9 : decode cX7_needs 9 = .ok (.iload 4, 2) := by decide +kernel
theorem dX7_needs_11 : decode cX7_needs 11 = .ok (.iload_n 2, 1) := by decide +kernel
theorem dX7_needs_12 : decode cX7_needs 12 = .ok (.if_icmp .ge 21, 3) := by decide +kernel
theorem dX7_needs_15 : decode cX7_needs 15 = .ok (.iload_n 3, 1) := by decide +kernel
theorem dX7_needs_16 : decode cX7_needs 16 = .ok (.aload_n 0, 1) := by decide +kernel
theorem dX7_needs_17 : decode cX7_needs 17 = .ok (.getfield 7, 3) := by decide +kernel
theorem dX7_needs_20 : decode cX7_needs 20 = .ok (.iconst 4, 1) := by decide +kernel
theorem dX7_needs_21 : decode cX7_needs 21 = .ok (.iload 4, 2) := by decide +kernel
theorem dX7_needs_23 : decode cX7_needs 23 = .ok (.iadd, 1) := by decide +kernel
theorem dX7_needs_24 : decode cX7_needs 24 = .ok (.iaload, 1) := by decide +kernel
theorem dX7_needs_25 : decode cX7_needs 25 = .ok (.iadd, 1) := by decide +kernel
theorem dX7_needs_26 : decode cX7_needs 26 = .ok (.istore_n 3, 1) := by decide +kernel
theorem dX7_needs_27 : decode cX7_needs 27 = .ok (.iinc 4 1, 3) := by decide +kernel
theorem dX7_needs_30 : decode cX7_needs 30 = .ok (.goto (-21), 3) := by decide +kernel
theorem dX7_needs_33 : decode cX7_needs 33 = .ok (.iload_n 3, 1) := by decide +kernel
theorem dX7_needs_34 : decode cX7_needs 34 = .ok (.ireturn, 1) := by decide +kernel
set_option maxRecDepth 20000 in
theorem ggX7_fits_X7_needs : GoodIn wsX7_fits wsX7_needs := goodIn_r _ [6, 1, 7, 8, 9, 10, 11, 12, 13, 14, 15, 16, 17, 18, 19, 20, 21, 22, 23, 24, 25] (by decide +kernel) (by decide +kernel)
set_option maxRecDepth 20000 in
theorem gX7_fits_X7_needs : GoodIn wsX7_fits (wsV RX7 58 RX7 yX7_needs wsX7_needs) := goodIn_app (goodIn_of _ (by decide +kernel)) ggX7_fits_X7_needs
theorem dX7_fits_0 : decode cX7_fits 0 = .ok (.aload_n 0, 1) := by decide +kernel
theorem dX7_fits_1 : decode cX7_fits 1 = .ok (.iload_n 1, 1) := by decide +kernel
theorem dX7_fits_2 : decode cX7_fits 2 = .ok (.iload_n 2, 1) := by decide +kernel
theorem dX7_fits_3 : decode cX7_fits 3 = .ok (.invokevirtual 58, 3) := by decide +kernel
theorem dX7_fits_6 : decode cX7_fits 6 = .ok (.aload_n 0, 1) := by decide +kernel
theorem dX7_fits_7 : decode cX7_fits 7 = .ok (.getfield 7, 3) := by decide +kernel
theorem dX7_fits_10 : decode cX7_fits 10 = .ok (.iconst 1, 1) := by decide +kernel
theorem dX7_fits_11 : decode cX7_fits 11 = .ok (.iaload, 1) := by decide +kernel
theorem dX7_fits_12 : decode cX7_fits 12 = .ok (.if_icmp .gt 7, 3) := by decide +kernel
theorem dX7_fits_15 : decode cX7_fits 15 = .ok (.iconst 1, 1) := by decide +kernel
theorem dX7_fits_16 : decode cX7_fits 16 = .ok (.goto 4, 3) := by decide +kernel
theorem dX7_fits_19 : decode cX7_fits 19 = .ok (.iconst 0, 1) := by decide +kernel
theorem dX7_fits_20 : decode cX7_fits 20 = .ok (.ireturn, 1) := by decide +kernel
set_option maxRecDepth 20000 in
theorem ggX7_mostFrom_X7_fits : GoodIn wsX7_mostFrom wsX7_fits := goodIn_r _ [6, 1, 7, 8, 9, 5, 10, 11, 12, 13, 14, 15, 16, 17, 18, 19, 20, 21, 22, 23, 24, 25, 26, 27, 28, 29] (by decide +kernel) (by decide +kernel)
set_option maxRecDepth 20000 in
theorem gX7_mostFrom_X7_fits : GoodIn wsX7_mostFrom (wsV RX7 62 RX7 yX7_fits wsX7_fits) := goodIn_app (goodIn_of _ (by decide +kernel)) ggX7_mostFrom_X7_fits
theorem dX7_mostFrom_0 : decode cX7_mostFrom 0 = .ok (.iconst 0, 1) := by decide +kernel
theorem dX7_mostFrom_1 : decode cX7_mostFrom 1 = .ok (.istore_n 2, 1) := by decide +kernel
theorem dX7_mostFrom_2 : decode cX7_mostFrom 2 = .ok (.iload_n 1, 1) := by decide +kernel
theorem dX7_mostFrom_3 : decode cX7_mostFrom 3 = .ok (.iload_n 2, 1) := by decide +kernel
theorem dX7_mostFrom_4 : decode cX7_mostFrom 4 = .ok (.iadd, 1) := by decide +kernel
theorem dX7_mostFrom_5 : decode cX7_mostFrom 5 = .ok (.aload_n 0, 1) := by decide +kernel
theorem dX7_mostFrom_6 : decode cX7_mostFrom 6 = .ok (.getfield 7, 3) := by decide +kernel
theorem dX7_mostFrom_9 : decode cX7_mostFrom 9 = .ok (.iconst 0, 1) := by decide +kernel
theorem dX7_mostFrom_10 : decode cX7_mostFrom 10 = .ok (.iaload, 1) := by decide +kernel
theorem dX7_mostFrom_11 : decode cX7_mostFrom 11 = .ok (.if_icmp .ge 22, 3) := by decide +kernel
theorem dX7_mostFrom_14 : decode cX7_mostFrom 14 = .ok (.aload_n 0, 1) := by decide +kernel
theorem dX7_mostFrom_15 : decode cX7_mostFrom 15 = .ok (.iload_n 1, 1) := by decide +kernel
theorem dX7_mostFrom_16 : decode cX7_mostFrom 16 = .ok (.iload_n 1, 1) := by decide +kernel
theorem dX7_mostFrom_17 : decode cX7_mostFrom 17 = .ok (.iload_n 2, 1) := by decide +kernel
theorem dX7_mostFrom_18 : decode cX7_mostFrom 18 = .ok (.iadd, 1) := by decide +kernel
theorem dX7_mostFrom_19 : decode cX7_mostFrom 19 = .ok (.iconst 1, 1) := by decide +kernel
theorem dX7_mostFrom_20 : decode cX7_mostFrom 20 = .ok (.iadd, 1) := by decide +kernel
theorem dX7_mostFrom_21 : decode cX7_mostFrom 21 = .ok (.invokevirtual 62, 3) := by decide +kernel
theorem dX7_mostFrom_24 : decode cX7_mostFrom 24 = .ok (.ifCond .eq 9, 3) := by decide +kernel
theorem dX7_mostFrom_27 : decode cX7_mostFrom 27 = .ok (.iinc 2 1, 3) := by decide +kernel
theorem dX7_mostFrom_30 : decode cX7_mostFrom 30 = .ok (.goto (-28), 3) := by decide +kernel
theorem dX7_mostFrom_33 : decode cX7_mostFrom 33 = .ok (.iload_n 2, 1) := by decide +kernel
theorem dX7_mostFrom_34 : decode cX7_mostFrom 34 = .ok (.ireturn, 1) := by decide +kernel
set_option maxRecDepth 20000 in
theorem ggX7_fills_X7_mostFrom : GoodIn wsX7_fills wsX7_mostFrom := goodIn_r _ [6, 1, 7, 8, 9, 5, 10, 11, 12, 13, 14, 15, 16, 17, 18, 19, 20, 21, 22, 23, 24, 25, 26, 27, 28, 29, 30, 31, 32, 33] (by decide +kernel) (by decide +kernel)
set_option maxRecDepth 20000 in
theorem gX7_fills_X7_mostFrom : GoodIn wsX7_fills (wsV RX7 66 RX7 yX7_mostFrom wsX7_mostFrom) := goodIn_app (goodIn_of _ (by decide +kernel)) ggX7_fills_X7_mostFrom
theorem dX7_fills_0 : decode cX7_fills 0 = .ok (.iconst 0, 1) := by decide +kernel
theorem dX7_fills_1 : decode cX7_fills 1 = .ok (.istore_n 1, 1) := by decide +kernel
theorem dX7_fills_2 : decode cX7_fills 2 = .ok (.aload_n 0, 1) := by decide +kernel
theorem dX7_fills_3 : decode cX7_fills 3 = .ok (.getfield 7, 3) := by decide +kernel
theorem dX7_fills_6 : decode cX7_fills 6 = .ok (.iconst 3, 1) := by decide +kernel
theorem dX7_fills_7 : decode cX7_fills 7 = .ok (.iconst 0, 1) := by decide +kernel
theorem dX7_fills_8 : decode cX7_fills 8 = .ok (.iastore, 1) := by decide +kernel
theorem dX7_fills_9 : decode cX7_fills 9 = .ok (.iload_n 1, 1) := by decide +kernel
theorem dX7_fills_10 : decode cX7_fills 10 = .ok (.aload_n 0, 1) := by decide +kernel
theorem dX7_fills_11 : decode cX7_fills 11 = .ok (.getfield 7, 3) := by decide +kernel
theorem dX7_fills_14 : decode cX7_fills 14 = .ok (.iconst 0, 1) := by decide +kernel
theorem dX7_fills_15 : decode cX7_fills 15 = .ok (.iaload, 1) := by decide +kernel
theorem dX7_fills_16 : decode cX7_fills 16 = .ok (.if_icmp .ge 54, 3) := by decide +kernel
theorem dX7_fills_19 : decode cX7_fills 19 = .ok (.aload_n 0, 1) := by decide +kernel
theorem dX7_fills_20 : decode cX7_fills 20 = .ok (.getfield 7, 3) := by decide +kernel
theorem dX7_fills_23 : decode cX7_fills 23 = .ok (.bipush 28, 2) := by decide +kernel
theorem dX7_fills_25 : decode cX7_fills 25 = .ok (.aload_n 0, 1) := by decide +kernel
theorem dX7_fills_26 : decode cX7_fills 26 = .ok (.getfield 7, 3) := by decide +kernel
theorem dX7_fills_29 : decode cX7_fills 29 = .ok (.iconst 3, 1) := by decide +kernel
theorem dX7_fills_30 : decode cX7_fills 30 = .ok (.iaload, 1) := by decide +kernel
theorem dX7_fills_31 : decode cX7_fills 31 = .ok (.iadd, 1) := by decide +kernel
theorem dX7_fills_32 : decode cX7_fills 32 = .ok (.iload_n 1, 1) := by decide +kernel
theorem dX7_fills_33 : decode cX7_fills 33 = .ok (.iastore, 1) := by decide +kernel
theorem dX7_fills_34 : decode cX7_fills 34 = .ok (.aload_n 0, 1) := by decide +kernel
theorem dX7_fills_35 : decode cX7_fills 35 = .ok (.getfield 7, 3) := by decide +kernel
theorem dX7_fills_38 : decode cX7_fills 38 = .ok (.bipush 53, 2) := by decide +kernel
theorem dX7_fills_40 : decode cX7_fills 40 = .ok (.aload_n 0, 1) := by decide +kernel
theorem dX7_fills_41 : decode cX7_fills 41 = .ok (.getfield 7, 3) := by decide +kernel
theorem dX7_fills_44 : decode cX7_fills 44 = .ok (.iconst 3, 1) := by decide +kernel
theorem dX7_fills_45 : decode cX7_fills 45 = .ok (.iaload, 1) := by decide +kernel
theorem dX7_fills_46 : decode cX7_fills 46 = .ok (.iadd, 1) := by decide +kernel
theorem dX7_fills_47 : decode cX7_fills 47 = .ok (.iconst 0, 1) := by decide +kernel
theorem dX7_fills_48 : decode cX7_fills 48 = .ok (.iastore, 1) := by decide +kernel
theorem dX7_fills_49 : decode cX7_fills 49 = .ok (.aload_n 0, 1) := by decide +kernel
theorem dX7_fills_50 : decode cX7_fills 50 = .ok (.getfield 7, 3) := by decide +kernel
theorem dX7_fills_53 : decode cX7_fills 53 = .ok (.iconst 3, 1) := by decide +kernel
theorem dX7_fills_54 : decode cX7_fills 54 = .ok (.dup2, 1) := by decide +kernel
theorem dX7_fills_55 : decode cX7_fills 55 = .ok (.iaload, 1) := by decide +kernel
theorem dX7_fills_56 : decode cX7_fills 56 = .ok (.iconst 1, 1) := by decide +kernel
theorem dX7_fills_57 : decode cX7_fills 57 = .ok (.iadd, 1) := by decide +kernel
theorem dX7_fills_58 : decode cX7_fills 58 = .ok (.iastore, 1) := by decide +kernel
theorem dX7_fills_59 : decode cX7_fills 59 = .ok (.iload_n 1, 1) := by decide +kernel
theorem dX7_fills_60 : decode cX7_fills 60 = .ok (.aload_n 0, 1) := by decide +kernel
theorem dX7_fills_61 : decode cX7_fills 61 = .ok (.iload_n 1, 1) := by decide +kernel
theorem dX7_fills_62 : decode cX7_fills 62 = .ok (.invokevirtual 66, 3) := by decide +kernel
theorem dX7_fills_65 : decode cX7_fills 65 = .ok (.iadd, 1) := by decide +kernel
theorem dX7_fills_66 : decode cX7_fills 66 = .ok (.istore_n 1, 1) := by decide +kernel
theorem dX7_fills_67 : decode cX7_fills 67 = .ok (.goto (-58), 3) := by decide +kernel
theorem dX7_fills_70 : decode cX7_fills 70 = .ok (.return_, 1) := by decide +kernel
theorem dX7_frozen_0 : decode cX7_frozen 0 = .ok (.iconst 0, 1) := by decide +kernel
theorem dX7_frozen_1 : decode cX7_frozen 1 = .ok (.istore_n 1, 1) := by decide +kernel
theorem dX7_frozen_2 : decode cX7_frozen 2 = .ok (.iconst 0, 1) := by decide +kernel
theorem dX7_frozen_3 : decode cX7_frozen 3 = .ok (.istore_n 2, 1) := by decide +kernel
theorem dX7_frozen_4 : decode cX7_frozen 4 = .ok (.iload_n 2, 1) := by decide +kernel
theorem dX7_frozen_5 : decode cX7_frozen 5 = .ok (.aload_n 0, 1) := by decide +kernel
theorem dX7_frozen_6 : decode cX7_frozen 6 = .ok (.getfield 7, 3) := by decide +kernel
theorem dX7_frozen_9 : decode cX7_frozen 9 = .ok (.iconst 3, 1) := by decide +kernel
theorem dX7_frozen_10 : decode cX7_frozen 10 = .ok (.iaload, 1) := by decide +kernel
theorem dX7_frozen_11 : decode cX7_frozen 11 = .ok (.if_icmp .ge 21, 3) := by decide +kernel
theorem dX7_frozen_14 : decode cX7_frozen 14 = .ok (.iload_n 1, 1) := by decide +kernel
theorem dX7_frozen_15 : decode cX7_frozen 15 = .ok (.aload_n 0, 1) := by decide +kernel
theorem dX7_frozen_16 : decode cX7_frozen 16 = .ok (.getfield 7, 3) := by decide +kernel
theorem dX7_frozen_19 : decode cX7_frozen 19 = .ok (.bipush 53, 2) := by decide +kernel
theorem dX7_frozen_21 : decode cX7_frozen 21 = .ok (.iload_n 2, 1) := by decide +kernel
theorem dX7_frozen_22 : decode cX7_frozen 22 = .ok (.iadd, 1) := by decide +kernel
theorem dX7_frozen_23 : decode cX7_frozen 23 = .ok (.iaload, 1) := by decide +kernel
theorem dX7_frozen_24 : decode cX7_frozen 24 = .ok (.iadd, 1) := by decide +kernel
theorem dX7_frozen_25 : decode cX7_frozen 25 = .ok (.istore_n 1, 1) := by decide +kernel
theorem dX7_frozen_26 : decode cX7_frozen 26 = .ok (.iinc 2 1, 3) := by decide +kernel
theorem dX7_frozen_29 : decode cX7_frozen 29 = .ok (.goto (-25), 3) := by decide +kernel
theorem dX7_frozen_32 : decode cX7_frozen 32 = .ok (.iload_n 1, 1) := by decide +kernel
theorem dX7_frozen_33 : decode cX7_frozen 33 = .ok (.ireturn, 1) := by decide +kernel
theorem dX7_meets_0 : decode cX7_meets 0 = .ok (.aload_n 0, 1) := by decide +kernel
theorem dX7_meets_1 : decode cX7_meets 1 = .ok (.getfield 23, 3) := by decide +kernel
theorem dX7_meets_4 : decode cX7_meets 4 = .ok (.iload_n 1, 1) := by decide +kernel
theorem dX7_meets_5 : decode cX7_meets 5 = .ok (.iaload, 1) := by decide +kernel
theorem dX7_meets_6 : decode cX7_meets 6 = .ok (.aload_n 0, 1) := by decide +kernel
theorem dX7_meets_7 : decode cX7_meets 7 = .ok (.getfield 23, 3) := by decide +kernel
theorem dX7_meets_10 : decode cX7_meets 10 = .ok (.iload_n 2, 1) := by decide +kernel
theorem dX7_meets_11 : decode cX7_meets 11 = .ok (.iaload, 1) := by decide +kernel
theorem dX7_meets_12 : decode cX7_meets 12 = .ok (.aload_n 0, 1) := by decide +kernel
theorem dX7_meets_13 : decode cX7_meets 13 = .ok (.getfield 26, 3) := by decide +kernel
theorem dX7_meets_16 : decode cX7_meets 16 = .ok (.iload_n 2, 1) := by decide +kernel
theorem dX7_meets_17 : decode cX7_meets 17 = .ok (.iaload, 1) := by decide +kernel
theorem dX7_meets_18 : decode cX7_meets 18 = .ok (.iadd, 1) := by decide +kernel
theorem dX7_meets_19 : decode cX7_meets 19 = .ok (.if_icmp .ge 29, 3) := by decide +kernel
theorem dX7_meets_22 : decode cX7_meets 22 = .ok (.aload_n 0, 1) := by decide +kernel
theorem dX7_meets_23 : decode cX7_meets 23 = .ok (.getfield 23, 3) := by decide +kernel
theorem dX7_meets_26 : decode cX7_meets 26 = .ok (.iload_n 2, 1) := by decide +kernel
theorem dX7_meets_27 : decode cX7_meets 27 = .ok (.iaload, 1) := by decide +kernel
theorem dX7_meets_28 : decode cX7_meets 28 = .ok (.aload_n 0, 1) := by decide +kernel
theorem dX7_meets_29 : decode cX7_meets 29 = .ok (.getfield 23, 3) := by decide +kernel
theorem dX7_meets_32 : decode cX7_meets 32 = .ok (.iload_n 1, 1) := by decide +kernel
theorem dX7_meets_33 : decode cX7_meets 33 = .ok (.iaload, 1) := by decide +kernel
theorem dX7_meets_34 : decode cX7_meets 34 = .ok (.aload_n 0, 1) := by decide +kernel
theorem dX7_meets_35 : decode cX7_meets 35 = .ok (.getfield 26, 3) := by decide +kernel
theorem dX7_meets_38 : decode cX7_meets 38 = .ok (.iload_n 1, 1) := by decide +kernel
theorem dX7_meets_39 : decode cX7_meets 39 = .ok (.iaload, 1) := by decide +kernel
theorem dX7_meets_40 : decode cX7_meets 40 = .ok (.iadd, 1) := by decide +kernel
theorem dX7_meets_41 : decode cX7_meets 41 = .ok (.if_icmp .ge 7, 3) := by decide +kernel
theorem dX7_meets_44 : decode cX7_meets 44 = .ok (.iconst 1, 1) := by decide +kernel
theorem dX7_meets_45 : decode cX7_meets 45 = .ok (.goto 4, 3) := by decide +kernel
theorem dX7_meets_48 : decode cX7_meets 48 = .ok (.iconst 0, 1) := by decide +kernel
theorem dX7_meets_49 : decode cX7_meets 49 = .ok (.ireturn, 1) := by decide +kernel
set_option maxRecDepth 20000 in
theorem ggX7_lays_X7_needs : GoodIn wsX7_lays wsX7_needs := goodIn_r _ [10, 1, 15, 16, 17, 18, 19, 20, 21, 22, 23, 24, 25, 26, 27, 28, 29, 30, 31, 32, 33] (by decide +kernel) (by decide +kernel)
set_option maxRecDepth 20000 in
theorem gX7_lays_X7_needs : GoodIn wsX7_lays (wsV RX7 58 RX7 yX7_needs wsX7_needs) := goodIn_app (goodIn_of _ (by decide +kernel)) ggX7_lays_X7_needs
set_option maxRecDepth 20000 in
theorem ggX7_lays_X7_meets : GoodIn wsX7_lays wsX7_meets := goodIn_r _ [14, 3, 4, 15, 16, 17, 18, 19, 20, 21, 22, 23, 24, 25, 26, 27, 28, 29, 30, 31, 32, 33] (by decide +kernel) (by decide +kernel)
set_option maxRecDepth 20000 in
theorem gX7_lays_X7_meets : GoodIn wsX7_lays (wsV RX7 70 RX7 yX7_meets wsX7_meets) := goodIn_app (goodIn_of _ (by decide +kernel)) ggX7_lays_X7_meets
theorem dX7_lays_0 : decode cX7_lays 0 = .ok (.iload_n 3, 1) := by decide +kernel
theorem dX7_lays_1 : decode cX7_lays 1 = .ok (.aload_n 0, 1) := by decide +kernel
theorem dX7_lays_2 : decode cX7_lays 2 = .ok (.getfield 7, 3) := by decide +kernel
theorem dX7_lays_5 : decode cX7_lays 5 = .ok (.iconst 0, 1) := by decide +kernel
theorem dX7_lays_6 : decode cX7_lays 6 = .ok (.iaload, 1) := by decide +kernel
theorem dX7_lays_7 : decode cX7_lays 7 = .ok (.if_icmp .ne 7, 3) := by decide +kernel
theorem dX7_lays_10 : decode cX7_lays 10 = .ok (.iconst 0, 1) := by decide +kernel
theorem dX7_lays_11 : decode cX7_lays 11 = .ok (.goto 16, 3) := by decide +kernel
theorem dX7_lays_14 : decode cX7_lays 14 = .ok (.aload_n 0, 1) := by decide +kernel
theorem dX7_lays_15 : decode cX7_lays 15 = .ok (.getfield 7, 3) := by decide +kernel
theorem dX7_lays_18 : decode cX7_lays 18 = .ok (.iconst 1, 1) := by decide +kernel
theorem dX7_lays_19 : decode cX7_lays 19 = .ok (.iaload, 1) := by decide +kernel
theorem dX7_lays_20 : decode cX7_lays 20 = .ok (.aload_n 0, 1) := by decide +kernel
theorem dX7_lays_21 : decode cX7_lays 21 = .ok (.iload_n 2, 1) := by decide +kernel
theorem dX7_lays_22 : decode cX7_lays 22 = .ok (.iload_n 3, 1) := by decide +kernel
theorem dX7_lays_23 : decode cX7_lays 23 = .ok (.invokevirtual 58, 3) := by decide +kernel
theorem dX7_lays_26 : decode cX7_lays 26 = .ok (.isub, 1) := by decide +kernel
theorem dX7_lays_27 : decode cX7_lays 27 = .ok (.istore 4, 2) := by decide +kernel
theorem dX7_lays_29 : decode cX7_lays 29 = .ok (.iload_n 3, 1) := by decide +kernel
theorem dX7_lays_30 : decode cX7_lays 30 = .ok (.iload_n 2, 1) := by decide +kernel
theorem dX7_lays_31 : decode cX7_lays 31 = .ok (.isub, 1) := by decide +kernel
theorem dX7_lays_32 : decode cX7_lays 32 = .ok (.iconst 1, 1) := by decide +kernel
theorem dX7_lays_33 : decode cX7_lays 33 = .ok (.isub, 1) := by decide +kernel
theorem dX7_lays_34 : decode cX7_lays 34 = .ok (.istore 5, 2) := by decide +kernel
theorem dX7_lays_36 : decode cX7_lays 36 = .ok (.iconst 0, 1) := by decide +kernel
theorem dX7_lays_37 : decode cX7_lays 37 = .ok (.istore 6, 2) := by decide +kernel
theorem dX7_lays_39 : decode cX7_lays 39 = .ok (.iconst 0, 1) := by decide +kernel
theorem dX7_lays_40 : decode cX7_lays 40 = .ok (.istore 7, 2) := by decide +kernel
theorem dX7_lays_42 : decode cX7_lays 42 = .ok (.iload_n 2, 1) := by decide +kernel
theorem dX7_lays_43 : decode cX7_lays 43 = .ok (.istore 8, 2) := by decide +kernel
theorem dX7_lays_45 : decode cX7_lays 45 = .ok (.iload 8, 2) := by decide +kernel
theorem dX7_lays_47 : decode cX7_lays 47 = .ok (.iload_n 3, 1) := by decide +kernel
theorem dX7_lays_48 : decode cX7_lays 48 = .ok (.if_icmp .ge 198, 3) := by decide +kernel
theorem dX7_lays_51 : decode cX7_lays 51 = .ok (.aload_n 0, 1) := by decide +kernel
theorem dX7_lays_52 : decode cX7_lays 52 = .ok (.getfield 20, 3) := by decide +kernel
theorem dX7_lays_55 : decode cX7_lays 55 = .ok (.iload 8, 2) := by decide +kernel
theorem dX7_lays_57 : decode cX7_lays 57 = .ok (.iload 6, 2) := by decide +kernel
theorem dX7_lays_59 : decode cX7_lays 59 = .ok (.iastore, 1) := by decide +kernel
theorem dX7_lays_60 : decode cX7_lays 60 = .ok (.iload 6, 2) := by decide +kernel
theorem dX7_lays_62 : decode cX7_lays 62 = .ok (.aload_n 0, 1) := by decide +kernel
theorem dX7_lays_63 : decode cX7_lays 63 = .ok (.getfield 7, 3) := by decide +kernel
theorem dX7_lays_66 : decode cX7_lays 66 = .ok (.iconst 4, 1) := by decide +kernel
theorem dX7_lays_67 : decode cX7_lays 67 = .ok (.iload 8, 2) := by decide +kernel
theorem dX7_lays_69 : decode cX7_lays 69 = .ok (.iadd, 1) := by decide +kernel
theorem dX7_lays_70 : decode cX7_lays 70 = .ok (.iaload, 1) := by decide +kernel
theorem dX7_lays_71 : decode cX7_lays 71 = .ok (.iadd, 1) := by decide +kernel
theorem dX7_lays_72 : decode cX7_lays 72 = .ok (.istore 6, 2) := by decide +kernel
theorem dX7_lays_74 : decode cX7_lays 74 = .ok (.iload 8, 2) := by decide +kernel
theorem dX7_lays_76 : decode cX7_lays 76 = .ok (.iconst 1, 1) := by decide +kernel
theorem dX7_lays_77 : decode cX7_lays 77 = .ok (.iadd, 1) := by decide +kernel
theorem dX7_lays_78 : decode cX7_lays 78 = .ok (.iload_n 3, 1) := by decide +kernel
theorem dX7_lays_79 : decode cX7_lays 79 = .ok (.if_icmp .ge 161, 3) := by decide +kernel
theorem dX7_lays_82 : decode cX7_lays 82 = .ok (.aload_n 0, 1) := by decide +kernel
theorem dX7_lays_83 : decode cX7_lays 83 = .ok (.getfield 23, 3) := by decide +kernel
theorem dX7_lays_86 : decode cX7_lays 86 = .ok (.iload 8, 2) := by decide +kernel
theorem dX7_lays_88 : decode cX7_lays 88 = .ok (.iload 6, 2) := by decide +kernel
theorem dX7_lays_90 : decode cX7_lays 90 = .ok (.iastore, 1) := by decide +kernel
theorem dX7_lays_91 : decode cX7_lays 91 = .ok (.aload_n 0, 1) := by decide +kernel
theorem dX7_lays_92 : decode cX7_lays 92 = .ok (.getfield 26, 3) := by decide +kernel
theorem dX7_lays_95 : decode cX7_lays 95 = .ok (.iload 8, 2) := by decide +kernel
theorem dX7_lays_97 : decode cX7_lays 97 = .ok (.iconst 1, 1) := by decide +kernel
theorem dX7_lays_98 : decode cX7_lays 98 = .ok (.iload 4, 2) := by decide +kernel
theorem dX7_lays_100 : decode cX7_lays 100 = .ok (.iload 5, 2) := by decide +kernel
theorem dX7_lays_102 : decode cX7_lays 102 = .ok (.idiv, 1) := by decide +kernel
theorem dX7_lays_103 : decode cX7_lays 103 = .ok (.iadd, 1) := by decide +kernel
theorem dX7_lays_104 : decode cX7_lays 104 = .ok (.iload 8, 2) := by decide +kernel
theorem dX7_lays_106 : decode cX7_lays 106 = .ok (.iload_n 2, 1) := by decide +kernel
theorem dX7_lays_107 : decode cX7_lays 107 = .ok (.isub, 1) := by decide +kernel
theorem dX7_lays_108 : decode cX7_lays 108 = .ok (.iload 4, 2) := by decide +kernel
theorem dX7_lays_110 : decode cX7_lays 110 = .ok (.iload 5, 2) := by decide +kernel
theorem dX7_lays_112 : decode cX7_lays 112 = .ok (.irem, 1) := by decide +kernel
theorem dX7_lays_113 : decode cX7_lays 113 = .ok (.if_icmp .ge 7, 3) := by decide +kernel
theorem dX7_lays_116 : decode cX7_lays 116 = .ok (.iconst 1, 1) := by decide +kernel
theorem dX7_lays_117 : decode cX7_lays 117 = .ok (.goto 4, 3) := by decide +kernel
theorem dX7_lays_120 : decode cX7_lays 120 = .ok (.iconst 0, 1) := by decide +kernel
theorem dX7_lays_121 : decode cX7_lays 121 = .ok (.iadd, 1) := by decide +kernel
theorem dX7_lays_122 : decode cX7_lays 122 = .ok (.iastore, 1) := by decide +kernel
theorem dX7_lays_123 : decode cX7_lays 123 = .ok (.aload_n 0, 1) := by decide +kernel
theorem dX7_lays_124 : decode cX7_lays 124 = .ok (.getfield 29, 3) := by decide +kernel
theorem dX7_lays_127 : decode cX7_lays 127 = .ok (.iload 8, 2) := by decide +kernel
theorem dX7_lays_129 : decode cX7_lays 129 = .ok (.iconst 1, 1) := by decide +kernel
theorem dX7_lays_130 : decode cX7_lays 130 = .ok (.iastore, 1) := by decide +kernel
theorem dX7_lays_131 : decode cX7_lays 131 = .ok (.iload_n 1, 1) := by decide +kernel
theorem dX7_lays_132 : decode cX7_lays 132 = .ok (.istore 9, 2) := by decide +kernel
theorem dX7_lays_134 : decode cX7_lays 134 = .ok (.iload 9, 2) := by decide +kernel
theorem dX7_lays_136 : decode cX7_lays 136 = .ok (.iconst 1, 1) := by decide +kernel
theorem dX7_lays_137 : decode cX7_lays 137 = .ok (.iadd, 1) := by decide +kernel
theorem dX7_lays_138 : decode cX7_lays 138 = .ok (.iload_n 2, 1) := by decide +kernel
theorem dX7_lays_139 : decode cX7_lays 139 = .ok (.if_icmp .ge 63, 3) := by decide +kernel
theorem dX7_lays_142 : decode cX7_lays 142 = .ok (.aload_n 0, 1) := by decide +kernel
theorem dX7_lays_143 : decode cX7_lays 143 = .ok (.getfield 29, 3) := by decide +kernel
theorem dX7_lays_146 : decode cX7_lays 146 = .ok (.iload 8, 2) := by decide +kernel
theorem dX7_lays_148 : decode cX7_lays 148 = .ok (.aload_n 0, 1) := by decide +kernel
theorem dX7_lays_149 : decode cX7_lays 149 = .ok (.iload 8, 2) := by decide +kernel
theorem dX7_lays_151 : decode cX7_lays 151 = .ok (.iload 9, 2) := by decide +kernel
theorem dX7_lays_153 : decode cX7_lays 153 = .ok (.invokevirtual 70, 3) := by decide +kernel
theorem dX7_lays_156 : decode cX7_lays 156 = .ok (.ifCond .eq 32, 3) := by decide +kernel
theorem dX7_lays_159 : decode cX7_lays 159 = .ok (.aload_n 0, 1) := by decide +kernel
theorem dX7_lays_160 : decode cX7_lays 160 = .ok (.getfield 29, 3) := by decide +kernel
theorem dX7_lays_163 : decode cX7_lays 163 = .ok (.iload 9, 2) := by decide +kernel
theorem dX7_lays_165 : decode cX7_lays 165 = .ok (.iaload, 1) := by decide +kernel
theorem dX7_lays_166 : decode cX7_lays 166 = .ok (.aload_n 0, 1) := by decide +kernel
theorem dX7_lays_167 : decode cX7_lays 167 = .ok (.getfield 29, 3) := by decide +kernel
theorem dX7_lays_170 : decode cX7_lays 170 = .ok (.iload 8, 2) := by decide +kernel
theorem dX7_lays_172 : decode cX7_lays 172 = .ok (.iaload, 1) := by decide +kernel
theorem dX7_lays_173 : decode cX7_lays 173 = .ok (.if_icmp .lt 15, 3) := by decide +kernel
theorem dX7_lays_176 : decode cX7_lays 176 = .ok (.aload_n 0, 1) := by decide +kernel
theorem dX7_lays_177 : decode cX7_lays 177 = .ok (.getfield 29, 3) := by decide +kernel
theorem dX7_lays_180 : decode cX7_lays 180 = .ok (.iload 9, 2) := by decide +kernel
theorem dX7_lays_182 : decode cX7_lays 182 = .ok (.iaload, 1) := by decide +kernel
theorem dX7_lays_183 : decode cX7_lays 183 = .ok (.iconst 1, 1) := by decide +kernel
theorem dX7_lays_184 : decode cX7_lays 184 = .ok (.iadd, 1) := by decide +kernel
theorem dX7_lays_185 : decode cX7_lays 185 = .ok (.goto 10, 3) := by decide +kernel
theorem dX7_lays_188 : decode cX7_lays 188 = .ok (.aload_n 0, 1) := by decide +kernel
theorem dX7_lays_189 : decode cX7_lays 189 = .ok (.getfield 29, 3) := by decide +kernel
theorem dX7_lays_192 : decode cX7_lays 192 = .ok (.iload 8, 2) := by decide +kernel
theorem dX7_lays_194 : decode cX7_lays 194 = .ok (.iaload, 1) := by decide +kernel
theorem dX7_lays_195 : decode cX7_lays 195 = .ok (.iastore, 1) := by decide +kernel
theorem dX7_lays_196 : decode cX7_lays 196 = .ok (.iinc 9 1, 3) := by decide +kernel
theorem dX7_lays_199 : decode cX7_lays 199 = .ok (.goto (-65), 3) := by decide +kernel
theorem dX7_lays_202 : decode cX7_lays 202 = .ok (.aload_n 0, 1) := by decide +kernel
theorem dX7_lays_203 : decode cX7_lays 203 = .ok (.getfield 29, 3) := by decide +kernel
theorem dX7_lays_206 : decode cX7_lays 206 = .ok (.iload 8, 2) := by decide +kernel
theorem dX7_lays_208 : decode cX7_lays 208 = .ok (.iaload, 1) := by decide +kernel
theorem dX7_lays_209 : decode cX7_lays 209 = .ok (.iload 7, 2) := by decide +kernel
theorem dX7_lays_211 : decode cX7_lays 211 = .ok (.if_icmp .le 13, 3) := by decide +kernel
theorem dX7_lays_214 : decode cX7_lays 214 = .ok (.aload_n 0, 1) := by decide +kernel
theorem dX7_lays_215 : decode cX7_lays 215 = .ok (.getfield 29, 3) := by decide +kernel
theorem dX7_lays_218 : decode cX7_lays 218 = .ok (.iload 8, 2) := by decide +kernel
theorem dX7_lays_220 : decode cX7_lays 220 = .ok (.iaload, 1) := by decide +kernel
theorem dX7_lays_221 : decode cX7_lays 221 = .ok (.goto 5, 3) := by decide +kernel
theorem dX7_lays_224 : decode cX7_lays 224 = .ok (.iload 7, 2) := by decide +kernel
theorem dX7_lays_226 : decode cX7_lays 226 = .ok (.istore 7, 2) := by decide +kernel
theorem dX7_lays_228 : decode cX7_lays 228 = .ok (.iload 6, 2) := by decide +kernel
theorem dX7_lays_230 : decode cX7_lays 230 = .ok (.aload_n 0, 1) := by decide +kernel
theorem dX7_lays_231 : decode cX7_lays 231 = .ok (.getfield 26, 3) := by decide +kernel
theorem dX7_lays_234 : decode cX7_lays 234 = .ok (.iload 8, 2) := by decide +kernel
theorem dX7_lays_236 : decode cX7_lays 236 = .ok (.iaload, 1) := by decide +kernel
theorem dX7_lays_237 : decode cX7_lays 237 = .ok (.iadd, 1) := by decide +kernel
theorem dX7_lays_238 : decode cX7_lays 238 = .ok (.istore 6, 2) := by decide +kernel
theorem dX7_lays_240 : decode cX7_lays 240 = .ok (.iinc 8 1, 3) := by decide +kernel
theorem dX7_lays_243 : decode cX7_lays 243 = .ok (.goto (-198), 3) := by decide +kernel
theorem dX7_lays_246 : decode cX7_lays 246 = .ok (.iload 7, 2) := by decide +kernel
theorem dX7_lays_248 : decode cX7_lays 248 = .ok (.ireturn, 1) := by decide +kernel
set_option maxRecDepth 20000 in
theorem ggX7_laysAll_X7_first : GoodIn wsX7_laysAll wsX7_first := goodIn_r _ [6, 1, 27, 28, 29, 30, 31, 32, 33, 34, 35, 36, 37, 38, 39, 40, 41, 42, 43, 44, 45] (by decide +kernel) (by decide +kernel)
set_option maxRecDepth 20000 in
theorem gX7_laysAll_X7_first : GoodIn wsX7_laysAll (wsV RX7 73 RX7 yX7_first wsX7_first) := goodIn_app (goodIn_of _ (by decide +kernel)) ggX7_laysAll_X7_first
set_option maxRecDepth 20000 in
theorem ggX7_laysAll_X7_behind : GoodIn wsX7_laysAll wsX7_behind := goodIn_r _ [10, 1, 27, 28, 29, 30, 31, 32, 33, 34, 35, 36, 37, 38, 39, 40, 41, 42, 43, 44, 45] (by decide +kernel) (by decide +kernel)
set_option maxRecDepth 20000 in
theorem gX7_laysAll_X7_behind : GoodIn wsX7_laysAll (wsV RX7 76 RX7 yX7_behind wsX7_behind) := goodIn_app (goodIn_of _ (by decide +kernel)) ggX7_laysAll_X7_behind
set_option maxRecDepth 20000 in
theorem ggX7_laysAll_X7_lays : GoodIn wsX7_laysAll wsX7_lays := goodIn_r _ [14, 1, 15, 16, 17, 18, 19, 20, 21, 5, 22, 23, 24, 25, 26, 27, 28, 29, 30, 31, 32, 33, 34, 35, 36, 37, 38, 39, 40, 41, 42, 43, 44, 45] (by decide +kernel) (by decide +kernel)
set_option maxRecDepth 20000 in
theorem gX7_laysAll_X7_lays : GoodIn wsX7_laysAll (wsV RX7 79 RX7 yX7_lays wsX7_lays) := goodIn_app (goodIn_of _ (by decide +kernel)) ggX7_laysAll_X7_lays
theorem dX7_laysAll_0 : decode cX7_laysAll 0 = .ok (.iconst 0, 1) := by decide +kernel
theorem dX7_laysAll_1 : decode cX7_laysAll 1 = .ok (.istore_n 1, 1) := by decide +kernel
theorem dX7_laysAll_2 : decode cX7_laysAll 2 = .ok (.iconst 0, 1) := by decide +kernel
theorem dX7_laysAll_3 : decode cX7_laysAll 3 = .ok (.istore_n 2, 1) := by decide +kernel
theorem dX7_laysAll_4 : decode cX7_laysAll 4 = .ok (.iload_n 2, 1) := by decide +kernel
theorem dX7_laysAll_5 : decode cX7_laysAll 5 = .ok (.aload_n 0, 1) := by decide +kernel
theorem dX7_laysAll_6 : decode cX7_laysAll 6 = .ok (.getfield 7, 3) := by decide +kernel
theorem dX7_laysAll_9 : decode cX7_laysAll 9 = .ok (.iconst 3, 1) := by decide +kernel
theorem dX7_laysAll_10 : decode cX7_laysAll 10 = .ok (.iaload, 1) := by decide +kernel
theorem dX7_laysAll_11 : decode cX7_laysAll 11 = .ok (.if_icmp .ge 50, 3) := by decide +kernel
theorem dX7_laysAll_14 : decode cX7_laysAll 14 = .ok (.aload_n 0, 1) := by decide +kernel
theorem dX7_laysAll_15 : decode cX7_laysAll 15 = .ok (.iload_n 2, 1) := by decide +kernel
theorem dX7_laysAll_16 : decode cX7_laysAll 16 = .ok (.ifCond .ne 7, 3) := by decide +kernel
theorem dX7_laysAll_19 : decode cX7_laysAll 19 = .ok (.iconst 0, 1) := by decide +kernel
theorem dX7_laysAll_20 : decode cX7_laysAll 20 = .ok (.goto 10, 3) := by decide +kernel
theorem dX7_laysAll_23 : decode cX7_laysAll 23 = .ok (.aload_n 0, 1) := by decide +kernel
theorem dX7_laysAll_24 : decode cX7_laysAll 24 = .ok (.iload_n 2, 1) := by decide +kernel
theorem dX7_laysAll_25 : decode cX7_laysAll 25 = .ok (.iconst 1, 1) := by decide +kernel
theorem dX7_laysAll_26 : decode cX7_laysAll 26 = .ok (.isub, 1) := by decide +kernel
theorem dX7_laysAll_27 : decode cX7_laysAll 27 = .ok (.invokevirtual 73, 3) := by decide +kernel
theorem dX7_laysAll_30 : decode cX7_laysAll 30 = .ok (.aload_n 0, 1) := by decide +kernel
theorem dX7_laysAll_31 : decode cX7_laysAll 31 = .ok (.iload_n 2, 1) := by decide +kernel
theorem dX7_laysAll_32 : decode cX7_laysAll 32 = .ok (.invokevirtual 73, 3) := by decide +kernel
theorem dX7_laysAll_35 : decode cX7_laysAll 35 = .ok (.aload_n 0, 1) := by decide +kernel
theorem dX7_laysAll_36 : decode cX7_laysAll 36 = .ok (.iload_n 2, 1) := by decide +kernel
theorem dX7_laysAll_37 : decode cX7_laysAll 37 = .ok (.invokevirtual 76, 3) := by decide +kernel
theorem dX7_laysAll_40 : decode cX7_laysAll 40 = .ok (.invokevirtual 79, 3) := by decide +kernel
theorem dX7_laysAll_43 : decode cX7_laysAll 43 = .ok (.istore_n 3, 1) := by decide +kernel
theorem dX7_laysAll_44 : decode cX7_laysAll 44 = .ok (.iload_n 3, 1) := by decide +kernel
theorem dX7_laysAll_45 : decode cX7_laysAll 45 = .ok (.iload_n 1, 1) := by decide +kernel
theorem dX7_laysAll_46 : decode cX7_laysAll 46 = .ok (.if_icmp .le 7, 3) := by decide +kernel
theorem dX7_laysAll_49 : decode cX7_laysAll 49 = .ok (.iload_n 3, 1) := by decide +kernel
theorem dX7_laysAll_50 : decode cX7_laysAll 50 = .ok (.goto 4, 3) := by decide +kernel
theorem dX7_laysAll_53 : decode cX7_laysAll 53 = .ok (.iload_n 1, 1) := by decide +kernel
theorem dX7_laysAll_54 : decode cX7_laysAll 54 = .ok (.istore_n 1, 1) := by decide +kernel
theorem dX7_laysAll_55 : decode cX7_laysAll 55 = .ok (.iinc 2 1, 3) := by decide +kernel
theorem dX7_laysAll_58 : decode cX7_laysAll 58 = .ok (.goto (-54), 3) := by decide +kernel
theorem dX7_laysAll_61 : decode cX7_laysAll 61 = .ok (.iload_n 1, 1) := by decide +kernel
theorem dX7_laysAll_62 : decode cX7_laysAll 62 = .ok (.ireturn, 1) := by decide +kernel
set_option maxRecDepth 20000 in
theorem ggX7_lineOf_X7_behind : GoodIn wsX7_lineOf wsX7_behind := goodIn_r _ [5, 6, 7, 8, 9, 10, 11, 12, 13, 14, 15, 16, 17, 18, 19, 20, 21, 22, 23, 24, 25] (by decide +kernel) (by decide +kernel)
set_option maxRecDepth 20000 in
theorem gX7_lineOf_X7_behind : GoodIn wsX7_lineOf (wsV RX7 76 RX7 yX7_behind wsX7_behind) := goodIn_app (goodIn_of _ (by decide +kernel)) ggX7_lineOf_X7_behind
theorem dX7_lineOf_0 : decode cX7_lineOf 0 = .ok (.iconst 0, 1) := by decide +kernel
theorem dX7_lineOf_1 : decode cX7_lineOf 1 = .ok (.istore_n 2, 1) := by decide +kernel
theorem dX7_lineOf_2 : decode cX7_lineOf 2 = .ok (.aload_n 0, 1) := by decide +kernel
theorem dX7_lineOf_3 : decode cX7_lineOf 3 = .ok (.iload_n 2, 1) := by decide +kernel
theorem dX7_lineOf_4 : decode cX7_lineOf 4 = .ok (.invokevirtual 76, 3) := by decide +kernel
theorem dX7_lineOf_7 : decode cX7_lineOf 7 = .ok (.iload_n 1, 1) := by decide +kernel
theorem dX7_lineOf_8 : decode cX7_lineOf 8 = .ok (.if_icmp .gt 9, 3) := by decide +kernel
theorem dX7_lineOf_11 : decode cX7_lineOf 11 = .ok (.iinc 2 1, 3) := by decide +kernel
theorem dX7_lineOf_14 : decode cX7_lineOf 14 = .ok (.goto (-12), 3) := by decide +kernel
theorem dX7_lineOf_17 : decode cX7_lineOf 17 = .ok (.iload_n 2, 1) := by decide +kernel
theorem dX7_lineOf_18 : decode cX7_lineOf 18 = .ok (.ireturn, 1) := by decide +kernel
set_option maxRecDepth 20000 in
theorem ggX7_meetsOf_X7_first : GoodIn wsX7_meetsOf wsX7_first := goodIn_r _ [5, 6, 17, 18, 19, 20, 21, 22, 23, 24, 25, 26, 27, 28, 29, 30, 31, 32, 33, 34, 35] (by decide +kernel) (by decide +kernel)
set_option maxRecDepth 20000 in
theorem gX7_meetsOf_X7_first : GoodIn wsX7_meetsOf (wsV RX7 73 RX7 yX7_first wsX7_first) := goodIn_app (goodIn_of _ (by decide +kernel)) ggX7_meetsOf_X7_first
set_option maxRecDepth 20000 in
theorem ggX7_meetsOf_X7_behind : GoodIn wsX7_meetsOf wsX7_behind := goodIn_r _ [10, 6, 17, 18, 19, 20, 21, 22, 23, 24, 25, 26, 27, 28, 29, 30, 31, 32, 33, 34, 35] (by decide +kernel) (by decide +kernel)
set_option maxRecDepth 20000 in
theorem gX7_meetsOf_X7_behind : GoodIn wsX7_meetsOf (wsV RX7 76 RX7 yX7_behind wsX7_behind) := goodIn_app (goodIn_of _ (by decide +kernel)) ggX7_meetsOf_X7_behind
set_option maxRecDepth 20000 in
theorem ggX7_meetsOf_X7_meets : GoodIn wsX7_meetsOf wsX7_meets := goodIn_r _ [14, 15, 16, 17, 18, 19, 20, 21, 22, 23, 24, 25, 26, 27, 28, 29, 30, 31, 32, 33, 34, 35] (by decide +kernel) (by decide +kernel)
set_option maxRecDepth 20000 in
theorem gX7_meetsOf_X7_meets : GoodIn wsX7_meetsOf (wsV RX7 70 RX7 yX7_meets wsX7_meets) := goodIn_app (goodIn_of _ (by decide +kernel)) ggX7_meetsOf_X7_meets
theorem dX7_meetsOf_0 : decode cX7_meetsOf 0 = .ok (.iconst 0, 1) := by decide +kernel
theorem dX7_meetsOf_1 : decode cX7_meetsOf 1 = .ok (.istore_n 3, 1) := by decide +kernel
theorem dX7_meetsOf_2 : decode cX7_meetsOf 2 = .ok (.aload_n 0, 1) := by decide +kernel
theorem dX7_meetsOf_3 : decode cX7_meetsOf 3 = .ok (.iload_n 2, 1) := by decide +kernel
theorem dX7_meetsOf_4 : decode cX7_meetsOf 4 = .ok (.invokevirtual 73, 3) := by decide +kernel
theorem dX7_meetsOf_7 : decode cX7_meetsOf 7 = .ok (.istore 4, 2) := by decide +kernel
theorem dX7_meetsOf_9 : decode cX7_meetsOf 9 = .ok (.iload 4, 2) := by decide +kernel
theorem dX7_meetsOf_11 : decode cX7_meetsOf 11 = .ok (.iconst 1, 1) := by decide +kernel
theorem dX7_meetsOf_12 : decode cX7_meetsOf 12 = .ok (.iadd, 1) := by decide +kernel
theorem dX7_meetsOf_13 : decode cX7_meetsOf 13 = .ok (.aload_n 0, 1) := by decide +kernel
theorem dX7_meetsOf_14 : decode cX7_meetsOf 14 = .ok (.iload_n 2, 1) := by decide +kernel
theorem dX7_meetsOf_15 : decode cX7_meetsOf 15 = .ok (.invokevirtual 76, 3) := by decide +kernel
theorem dX7_meetsOf_18 : decode cX7_meetsOf 18 = .ok (.if_icmp .ge 27, 3) := by decide +kernel
theorem dX7_meetsOf_21 : decode cX7_meetsOf 21 = .ok (.iload_n 3, 1) := by decide +kernel
theorem dX7_meetsOf_22 : decode cX7_meetsOf 22 = .ok (.aload_n 0, 1) := by decide +kernel
theorem dX7_meetsOf_23 : decode cX7_meetsOf 23 = .ok (.iload_n 1, 1) := by decide +kernel
theorem dX7_meetsOf_24 : decode cX7_meetsOf 24 = .ok (.iload 4, 2) := by decide +kernel
theorem dX7_meetsOf_26 : decode cX7_meetsOf 26 = .ok (.invokevirtual 70, 3) := by decide +kernel
theorem dX7_meetsOf_29 : decode cX7_meetsOf 29 = .ok (.ifCond .eq 7, 3) := by decide +kernel
theorem dX7_meetsOf_32 : decode cX7_meetsOf 32 = .ok (.iconst 1, 1) := by decide +kernel
theorem dX7_meetsOf_33 : decode cX7_meetsOf 33 = .ok (.goto 4, 3) := by decide +kernel
theorem dX7_meetsOf_36 : decode cX7_meetsOf 36 = .ok (.iconst 0, 1) := by decide +kernel
theorem dX7_meetsOf_37 : decode cX7_meetsOf 37 = .ok (.iadd, 1) := by decide +kernel
theorem dX7_meetsOf_38 : decode cX7_meetsOf 38 = .ok (.istore_n 3, 1) := by decide +kernel
theorem dX7_meetsOf_39 : decode cX7_meetsOf 39 = .ok (.iinc 4 1, 3) := by decide +kernel
theorem dX7_meetsOf_42 : decode cX7_meetsOf 42 = .ok (.goto (-33), 3) := by decide +kernel
theorem dX7_meetsOf_45 : decode cX7_meetsOf 45 = .ok (.iload_n 3, 1) := by decide +kernel
theorem dX7_meetsOf_46 : decode cX7_meetsOf 46 = .ok (.ireturn, 1) := by decide +kernel
set_option maxRecDepth 20000 in
theorem ggX7_above_X7_meetsOf : GoodIn wsX7_above wsX7_meetsOf := goodIn_r _ [5, 6, 7, 8, 4, 9, 10, 11, 12, 13, 14, 15, 16, 17, 18, 19, 20, 21, 22, 23, 24, 25, 26, 27, 28, 29, 30, 31, 32, 33, 34, 35, 36, 37, 38, 39] (by decide +kernel) (by decide +kernel)
set_option maxRecDepth 20000 in
theorem gX7_above_X7_meetsOf : GoodIn wsX7_above (wsV RX7 83 RX7 yX7_meetsOf wsX7_meetsOf) := goodIn_app (goodIn_of _ (by decide +kernel)) ggX7_above_X7_meetsOf
theorem dX7_above_0 : decode cX7_above 0 = .ok (.iload_n 2, 1) := by decide +kernel
theorem dX7_above_1 : decode cX7_above 1 = .ok (.ifCond .ne 7, 3) := by decide +kernel
theorem dX7_above_4 : decode cX7_above 4 = .ok (.iconst 0, 1) := by decide +kernel
theorem dX7_above_5 : decode cX7_above 5 = .ok (.goto 11, 3) := by decide +kernel
theorem dX7_above_8 : decode cX7_above 8 = .ok (.aload_n 0, 1) := by decide +kernel
theorem dX7_above_9 : decode cX7_above 9 = .ok (.iload_n 1, 1) := by decide +kernel
theorem dX7_above_10 : decode cX7_above 10 = .ok (.iload_n 2, 1) := by decide +kernel
theorem dX7_above_11 : decode cX7_above 11 = .ok (.iconst 1, 1) := by decide +kernel
theorem dX7_above_12 : decode cX7_above 12 = .ok (.isub, 1) := by decide +kernel
theorem dX7_above_13 : decode cX7_above 13 = .ok (.invokevirtual 83, 3) := by decide +kernel
theorem dX7_above_16 : decode cX7_above 16 = .ok (.ireturn, 1) := by decide +kernel
set_option maxRecDepth 20000 in
theorem ggX7_below_X7_meetsOf : GoodIn wsX7_below wsX7_meetsOf := goodIn_r _ [6, 7, 8, 9, 5, 10, 1, 11, 12, 13, 14, 15, 16, 17, 18, 19, 20, 21, 22, 23, 24, 25, 26, 27, 28, 29, 30, 31, 32, 33, 34, 35, 36, 37, 38, 39] (by decide +kernel) (by decide +kernel)
set_option maxRecDepth 20000 in
theorem gX7_below_X7_meetsOf : GoodIn wsX7_below (wsV RX7 83 RX7 yX7_meetsOf wsX7_meetsOf) := goodIn_app (goodIn_of _ (by decide +kernel)) ggX7_below_X7_meetsOf
theorem dX7_below_0 : decode cX7_below 0 = .ok (.iload_n 2, 1) := by decide +kernel
theorem dX7_below_1 : decode cX7_below 1 = .ok (.iconst 1, 1) := by decide +kernel
theorem dX7_below_2 : decode cX7_below 2 = .ok (.iadd, 1) := by decide +kernel
theorem dX7_below_3 : decode cX7_below 3 = .ok (.aload_n 0, 1) := by decide +kernel
theorem dX7_below_4 : decode cX7_below 4 = .ok (.getfield 7, 3) := by decide +kernel
theorem dX7_below_7 : decode cX7_below 7 = .ok (.iconst 3, 1) := by decide +kernel
theorem dX7_below_8 : decode cX7_below 8 = .ok (.iaload, 1) := by decide +kernel
theorem dX7_below_9 : decode cX7_below 9 = .ok (.if_icmp .ne 7, 3) := by decide +kernel
theorem dX7_below_12 : decode cX7_below 12 = .ok (.iconst 0, 1) := by decide +kernel
theorem dX7_below_13 : decode cX7_below 13 = .ok (.goto 11, 3) := by decide +kernel
theorem dX7_below_16 : decode cX7_below 16 = .ok (.aload_n 0, 1) := by decide +kernel
theorem dX7_below_17 : decode cX7_below 17 = .ok (.iload_n 1, 1) := by decide +kernel
theorem dX7_below_18 : decode cX7_below 18 = .ok (.iload_n 2, 1) := by decide +kernel
theorem dX7_below_19 : decode cX7_below 19 = .ok (.iconst 1, 1) := by decide +kernel
theorem dX7_below_20 : decode cX7_below 20 = .ok (.iadd, 1) := by decide +kernel
theorem dX7_below_21 : decode cX7_below 21 = .ok (.invokevirtual 83, 3) := by decide +kernel
theorem dX7_below_24 : decode cX7_below 24 = .ok (.ireturn, 1) := by decide +kernel
set_option maxRecDepth 20000 in
theorem ggX7_setWidth_X7_in : GoodIn wsX7_setWidth wsX7_in := goodIn_r _ [5] (by decide +kernel) (by decide +kernel)
set_option maxRecDepth 20000 in
theorem gX7_setWidth_X7_in : GoodIn wsX7_setWidth (va_wsS RX7 50 yX7_in wsX7_in) := goodIn_app (goodIn_of _ (by decide +kernel)) ggX7_setWidth_X7_in
set_option maxRecDepth 20000 in
theorem ggX7_setWidth_X7_frozen : GoodIn wsX7_setWidth wsX7_frozen := goodIn_r _ [9, 1, 32, 33, 34, 35, 36, 37, 38, 39, 40, 41, 42, 43, 44, 45, 46, 47, 48, 49, 50] (by decide +kernel) (by decide +kernel)
set_option maxRecDepth 20000 in
theorem gX7_setWidth_X7_frozen : GoodIn wsX7_setWidth (wsV RX7 86 RX7 yX7_frozen wsX7_frozen) := goodIn_app (goodIn_of _ (by decide +kernel)) ggX7_setWidth_X7_frozen
set_option maxRecDepth 20000 in
theorem ggX7_setWidth_X7_records : GoodIn wsX7_setWidth wsX7_records := goodIn_r _ [13, 14, 15, 1, 32, 33, 34, 35, 36, 37, 38, 39, 40, 41, 42, 43, 44, 45, 46, 47, 48, 49, 50] (by decide +kernel) (by decide +kernel)
set_option maxRecDepth 20000 in
theorem gX7_setWidth_X7_records : GoodIn wsX7_setWidth (wsV RX7 90 RX7 yX7_records wsX7_records) := goodIn_app (goodIn_of _ (by decide +kernel)) ggX7_setWidth_X7_records
set_option maxRecDepth 20000 in
theorem ggX7_setWidth_X7_fills : GoodIn wsX7_setWidth wsX7_fills := goodIn_r _ [19, 1, 20, 21, 22, 4, 23, 24, 25, 26, 27, 28, 29, 30, 31, 32, 33, 34, 35, 36, 37, 38, 39, 40, 41, 42, 43, 44, 45, 46, 47, 48, 49, 50] (by decide +kernel) (by decide +kernel)
set_option maxRecDepth 20000 in
theorem gX7_setWidth_X7_fills : GoodIn wsX7_setWidth (wsV RX7 93 RX7 yX7_fills wsX7_fills) := goodIn_app (goodIn_of _ (by decide +kernel)) ggX7_setWidth_X7_fills
theorem dX7_setWidth_0 : decode cX7_setWidth 0 = .ok (.iload_n 1, 1) := by decide +kernel
theorem dX7_setWidth_1 : decode cX7_setWidth 1 = .ok (.bipush 16, 2) := by decide +kernel
theorem dX7_setWidth_3 : decode cX7_setWidth 3 = .ok (.bipush 40, 2) := by decide +kernel
theorem dX7_setWidth_5 : decode cX7_setWidth 5 = .ok (.invokestatic 50, 3) := by decide +kernel
theorem dX7_setWidth_8 : decode cX7_setWidth 8 = .ok (.ifCond .ne 5, 3) := by decide +kernel
theorem dX7_setWidth_11 : decode cX7_setWidth 11 = .ok (.iconst (-1), 1) := by decide +kernel
theorem dX7_setWidth_12 : decode cX7_setWidth 12 = .ok (.ireturn, 1) := by decide +kernel
theorem dX7_setWidth_13 : decode cX7_setWidth 13 = .ok (.aload_n 0, 1) := by decide +kernel
theorem dX7_setWidth_14 : decode cX7_setWidth 14 = .ok (.invokevirtual 86, 3) := by decide +kernel
theorem dX7_setWidth_17 : decode cX7_setWidth 17 = .ok (.ifCond .le 6, 3) := by decide +kernel
theorem dX7_setWidth_20 : decode cX7_setWidth 20 = .ok (.bipush (-2), 2) := by decide +kernel
theorem dX7_setWidth_22 : decode cX7_setWidth 22 = .ok (.ireturn, 1) := by decide +kernel
theorem dX7_setWidth_23 : decode cX7_setWidth 23 = .ok (.aload_n 0, 1) := by decide +kernel
theorem dX7_setWidth_24 : decode cX7_setWidth 24 = .ok (.invokevirtual 90, 3) := by decide +kernel
theorem dX7_setWidth_27 : decode cX7_setWidth 27 = .ok (.aload_n 0, 1) := by decide +kernel
theorem dX7_setWidth_28 : decode cX7_setWidth 28 = .ok (.getfield 7, 3) := by decide +kernel
theorem dX7_setWidth_31 : decode cX7_setWidth 31 = .ok (.iconst 1, 1) := by decide +kernel
theorem dX7_setWidth_32 : decode cX7_setWidth 32 = .ok (.iload_n 1, 1) := by decide +kernel
theorem dX7_setWidth_33 : decode cX7_setWidth 33 = .ok (.iastore, 1) := by decide +kernel
theorem dX7_setWidth_34 : decode cX7_setWidth 34 = .ok (.aload_n 0, 1) := by decide +kernel
theorem dX7_setWidth_35 : decode cX7_setWidth 35 = .ok (.invokevirtual 93, 3) := by decide +kernel
theorem dX7_setWidth_38 : decode cX7_setWidth 38 = .ok (.aload_n 0, 1) := by decide +kernel
theorem dX7_setWidth_39 : decode cX7_setWidth 39 = .ok (.getfield 7, 3) := by decide +kernel
theorem dX7_setWidth_42 : decode cX7_setWidth 42 = .ok (.iconst 3, 1) := by decide +kernel
theorem dX7_setWidth_43 : decode cX7_setWidth 43 = .ok (.iaload, 1) := by decide +kernel
theorem dX7_setWidth_44 : decode cX7_setWidth 44 = .ok (.ireturn, 1) := by decide +kernel
set_option maxRecDepth 20000 in
theorem ggX7_setSlack_X7_in : GoodIn wsX7_setSlack wsX7_in := goodIn_r _ [5] (by decide +kernel) (by decide +kernel)
set_option maxRecDepth 20000 in
theorem gX7_setSlack_X7_in : GoodIn wsX7_setSlack (va_wsS RX7 50 yX7_in wsX7_in) := goodIn_app (goodIn_of _ (by decide +kernel)) ggX7_setSlack_X7_in
set_option maxRecDepth 20000 in
theorem ggX7_setSlack_X7_records : GoodIn wsX7_setSlack wsX7_records := goodIn_r _ [9, 10, 11, 1, 12, 13, 14, 15, 16, 17, 18, 19, 20, 21, 22, 23, 24, 25, 26, 27, 28, 29, 30] (by decide +kernel) (by decide +kernel)
set_option maxRecDepth 20000 in
theorem gX7_setSlack_X7_records : GoodIn wsX7_setSlack (wsV RX7 90 RX7 yX7_records wsX7_records) := goodIn_app (goodIn_of _ (by decide +kernel)) ggX7_setSlack_X7_records
theorem dX7_setSlack_0 : decode cX7_setSlack 0 = .ok (.iload_n 1, 1) := by decide +kernel
theorem dX7_setSlack_1 : decode cX7_setSlack 1 = .ok (.iconst 0, 1) := by decide +kernel
theorem dX7_setSlack_2 : decode cX7_setSlack 2 = .ok (.bipush 8, 2) := by decide +kernel
theorem dX7_setSlack_4 : decode cX7_setSlack 4 = .ok (.invokestatic 50, 3) := by decide +kernel
theorem dX7_setSlack_7 : decode cX7_setSlack 7 = .ok (.ifCond .ne 5, 3) := by decide +kernel
theorem dX7_setSlack_10 : decode cX7_setSlack 10 = .ok (.iconst (-1), 1) := by decide +kernel
theorem dX7_setSlack_11 : decode cX7_setSlack 11 = .ok (.ireturn, 1) := by decide +kernel
theorem dX7_setSlack_12 : decode cX7_setSlack 12 = .ok (.aload_n 0, 1) := by decide +kernel
theorem dX7_setSlack_13 : decode cX7_setSlack 13 = .ok (.invokevirtual 90, 3) := by decide +kernel
theorem dX7_setSlack_16 : decode cX7_setSlack 16 = .ok (.aload_n 0, 1) := by decide +kernel
theorem dX7_setSlack_17 : decode cX7_setSlack 17 = .ok (.getfield 7, 3) := by decide +kernel
theorem dX7_setSlack_20 : decode cX7_setSlack 20 = .ok (.iconst 2, 1) := by decide +kernel
theorem dX7_setSlack_21 : decode cX7_setSlack 21 = .ok (.iaload, 1) := by decide +kernel
theorem dX7_setSlack_22 : decode cX7_setSlack 22 = .ok (.istore_n 2, 1) := by decide +kernel
theorem dX7_setSlack_23 : decode cX7_setSlack 23 = .ok (.aload_n 0, 1) := by decide +kernel
theorem dX7_setSlack_24 : decode cX7_setSlack 24 = .ok (.getfield 7, 3) := by decide +kernel
theorem dX7_setSlack_27 : decode cX7_setSlack 27 = .ok (.iconst 2, 1) := by decide +kernel
theorem dX7_setSlack_28 : decode cX7_setSlack 28 = .ok (.iload_n 1, 1) := by decide +kernel
theorem dX7_setSlack_29 : decode cX7_setSlack 29 = .ok (.iastore, 1) := by decide +kernel
theorem dX7_setSlack_30 : decode cX7_setSlack 30 = .ok (.iload_n 2, 1) := by decide +kernel
theorem dX7_setSlack_31 : decode cX7_setSlack 31 = .ok (.ireturn, 1) := by decide +kernel
set_option maxRecDepth 20000 in
theorem ggX7_add_X7_in : GoodIn wsX7_add wsX7_in := goodIn_r _ [5] (by decide +kernel) (by decide +kernel)
set_option maxRecDepth 20000 in
theorem gX7_add_X7_in : GoodIn wsX7_add (va_wsS RX7 50 yX7_in wsX7_in) := goodIn_app (goodIn_of _ (by decide +kernel)) ggX7_add_X7_in
set_option maxRecDepth 20000 in
theorem ggX7_add_X7_records : GoodIn wsX7_add wsX7_records := goodIn_r _ [9, 10, 11, 1, 24, 25, 26, 27, 28, 29, 30, 31, 32, 33, 34, 35, 36, 37, 38, 39, 40, 41, 42] (by decide +kernel) (by decide +kernel)
set_option maxRecDepth 20000 in
theorem gX7_add_X7_records : GoodIn wsX7_add (wsV RX7 90 RX7 yX7_records wsX7_records) := goodIn_app (goodIn_of _ (by decide +kernel)) ggX7_add_X7_records
set_option maxRecDepth 20000 in
theorem ggX7_add_X7_first : GoodIn wsX7_add wsX7_first := goodIn_r _ [15, 1, 24, 25, 26, 27, 28, 29, 30, 31, 32, 33, 34, 35, 36, 37, 38, 39, 40, 41, 42] (by decide +kernel) (by decide +kernel)
set_option maxRecDepth 20000 in
theorem gX7_add_X7_first : GoodIn wsX7_add (wsV RX7 73 RX7 yX7_first wsX7_first) := goodIn_app (goodIn_of _ (by decide +kernel)) ggX7_add_X7_first
set_option maxRecDepth 20000 in
theorem ggX7_add_X7_fits : GoodIn wsX7_add wsX7_fits := goodIn_r _ [19, 1, 20, 21, 22, 4, 23, 24, 25, 26, 27, 28, 29, 30, 31, 32, 33, 34, 35, 36, 37, 38, 39, 40, 41, 42] (by decide +kernel) (by decide +kernel)
set_option maxRecDepth 20000 in
theorem gX7_add_X7_fits : GoodIn wsX7_add (wsV RX7 62 RX7 yX7_fits wsX7_fits) := goodIn_app (goodIn_of _ (by decide +kernel)) ggX7_add_X7_fits
theorem dX7_add_0 : decode cX7_add 0 = .ok (.iload_n 1, 1) := by decide +kernel
theorem dX7_add_1 : decode cX7_add 1 = .ok (.iconst 1, 1) := by decide +kernel
theorem dX7_add_2 : decode cX7_add 2 = .ok (.bipush 8, 2) := by decide +kernel
theorem dX7_add_4 : decode cX7_add 4 = .ok (.invokestatic 50, 3) := by decide +kernel
theorem dX7_add_7 : decode cX7_add 7 = .ok (.ifCond .ne 5, 3) := by decide +kernel
theorem dX7_add_10 : decode cX7_add 10 = .ok (.iconst (-1), 1) := by decide +kernel
theorem dX7_add_11 : decode cX7_add 11 = .ok (.ireturn, 1) := by decide +kernel
theorem dX7_add_12 : decode cX7_add 12 = .ok (.aload_n 0, 1) := by decide +kernel
theorem dX7_add_13 : decode cX7_add 13 = .ok (.getfield 7, 3) := by decide +kernel
theorem dX7_add_16 : decode cX7_add 16 = .ok (.iconst 0, 1) := by decide +kernel
theorem dX7_add_17 : decode cX7_add 17 = .ok (.iaload, 1) := by decide +kernel
theorem dX7_add_18 : decode cX7_add 18 = .ok (.bipush 24, 2) := by decide +kernel
theorem dX7_add_20 : decode cX7_add 20 = .ok (.if_icmp .ne 6, 3) := by decide +kernel
theorem dX7_add_23 : decode cX7_add 23 = .ok (.bipush (-3), 2) := by decide +kernel
theorem dX7_add_25 : decode cX7_add 25 = .ok (.ireturn, 1) := by decide +kernel
theorem dX7_add_26 : decode cX7_add 26 = .ok (.aload_n 0, 1) := by decide +kernel
theorem dX7_add_27 : decode cX7_add 27 = .ok (.invokevirtual 90, 3) := by decide +kernel
theorem dX7_add_30 : decode cX7_add 30 = .ok (.aload_n 0, 1) := by decide +kernel
theorem dX7_add_31 : decode cX7_add 31 = .ok (.getfield 7, 3) := by decide +kernel
theorem dX7_add_34 : decode cX7_add 34 = .ok (.iconst 3, 1) := by decide +kernel
theorem dX7_add_35 : decode cX7_add 35 = .ok (.iaload, 1) := by decide +kernel
theorem dX7_add_36 : decode cX7_add 36 = .ok (.iconst 1, 1) := by decide +kernel
theorem dX7_add_37 : decode cX7_add 37 = .ok (.isub, 1) := by decide +kernel
theorem dX7_add_38 : decode cX7_add 38 = .ok (.istore_n 2, 1) := by decide +kernel
theorem dX7_add_39 : decode cX7_add 39 = .ok (.aload_n 0, 1) := by decide +kernel
theorem dX7_add_40 : decode cX7_add 40 = .ok (.getfield 7, 3) := by decide +kernel
theorem dX7_add_43 : decode cX7_add 43 = .ok (.iconst 4, 1) := by decide +kernel
theorem dX7_add_44 : decode cX7_add 44 = .ok (.aload_n 0, 1) := by decide +kernel
theorem dX7_add_45 : decode cX7_add 45 = .ok (.getfield 7, 3) := by decide +kernel
theorem dX7_add_48 : decode cX7_add 48 = .ok (.iconst 0, 1) := by decide +kernel
theorem dX7_add_49 : decode cX7_add 49 = .ok (.iaload, 1) := by decide +kernel
theorem dX7_add_50 : decode cX7_add 50 = .ok (.iadd, 1) := by decide +kernel
theorem dX7_add_51 : decode cX7_add 51 = .ok (.iload_n 1, 1) := by decide +kernel
theorem dX7_add_52 : decode cX7_add 52 = .ok (.iastore, 1) := by decide +kernel
theorem dX7_add_53 : decode cX7_add 53 = .ok (.aload_n 0, 1) := by decide +kernel
theorem dX7_add_54 : decode cX7_add 54 = .ok (.getfield 7, 3) := by decide +kernel
theorem dX7_add_57 : decode cX7_add 57 = .ok (.iconst 0, 1) := by decide +kernel
theorem dX7_add_58 : decode cX7_add 58 = .ok (.dup2, 1) := by decide +kernel
theorem dX7_add_59 : decode cX7_add 59 = .ok (.iaload, 1) := by decide +kernel
theorem dX7_add_60 : decode cX7_add 60 = .ok (.iconst 1, 1) := by decide +kernel
theorem dX7_add_61 : decode cX7_add 61 = .ok (.iadd, 1) := by decide +kernel
theorem dX7_add_62 : decode cX7_add 62 = .ok (.iastore, 1) := by decide +kernel
theorem dX7_add_63 : decode cX7_add 63 = .ok (.iload_n 2, 1) := by decide +kernel
theorem dX7_add_64 : decode cX7_add 64 = .ok (.ifCond .lt 34, 3) := by decide +kernel
theorem dX7_add_67 : decode cX7_add 67 = .ok (.aload_n 0, 1) := by decide +kernel
theorem dX7_add_68 : decode cX7_add 68 = .ok (.getfield 7, 3) := by decide +kernel
theorem dX7_add_71 : decode cX7_add 71 = .ok (.bipush 53, 2) := by decide +kernel
theorem dX7_add_73 : decode cX7_add 73 = .ok (.iload_n 2, 1) := by decide +kernel
theorem dX7_add_74 : decode cX7_add 74 = .ok (.iadd, 1) := by decide +kernel
theorem dX7_add_75 : decode cX7_add 75 = .ok (.iaload, 1) := by decide +kernel
theorem dX7_add_76 : decode cX7_add 76 = .ok (.iconst 1, 1) := by decide +kernel
theorem dX7_add_77 : decode cX7_add 77 = .ok (.if_icmp .eq 21, 3) := by decide +kernel
theorem dX7_add_80 : decode cX7_add 80 = .ok (.aload_n 0, 1) := by decide +kernel
theorem dX7_add_81 : decode cX7_add 81 = .ok (.aload_n 0, 1) := by decide +kernel
theorem dX7_add_82 : decode cX7_add 82 = .ok (.iload_n 2, 1) := by decide +kernel
theorem dX7_add_83 : decode cX7_add 83 = .ok (.invokevirtual 73, 3) := by decide +kernel
theorem dX7_add_86 : decode cX7_add 86 = .ok (.aload_n 0, 1) := by decide +kernel
theorem dX7_add_87 : decode cX7_add 87 = .ok (.getfield 7, 3) := by decide +kernel
theorem dX7_add_90 : decode cX7_add 90 = .ok (.iconst 0, 1) := by decide +kernel
theorem dX7_add_91 : decode cX7_add 91 = .ok (.iaload, 1) := by decide +kernel
theorem dX7_add_92 : decode cX7_add 92 = .ok (.invokevirtual 62, 3) := by decide +kernel
theorem dX7_add_95 : decode cX7_add 95 = .ok (.ifCond .ne 50, 3) := by decide +kernel
theorem dX7_add_98 : decode cX7_add 98 = .ok (.aload_n 0, 1) := by decide +kernel
theorem dX7_add_99 : decode cX7_add 99 = .ok (.getfield 7, 3) := by decide +kernel
theorem dX7_add_102 : decode cX7_add 102 = .ok (.bipush 28, 2) := by decide +kernel
theorem dX7_add_104 : decode cX7_add 104 = .ok (.aload_n 0, 1) := by decide +kernel
theorem dX7_add_105 : decode cX7_add 105 = .ok (.getfield 7, 3) := by decide +kernel
theorem dX7_add_108 : decode cX7_add 108 = .ok (.iconst 3, 1) := by decide +kernel
theorem dX7_add_109 : decode cX7_add 109 = .ok (.iaload, 1) := by decide +kernel
theorem dX7_add_110 : decode cX7_add 110 = .ok (.iadd, 1) := by decide +kernel
theorem dX7_add_111 : decode cX7_add 111 = .ok (.aload_n 0, 1) := by decide +kernel
theorem dX7_add_112 : decode cX7_add 112 = .ok (.getfield 7, 3) := by decide +kernel
theorem dX7_add_115 : decode cX7_add 115 = .ok (.iconst 0, 1) := by decide +kernel
theorem dX7_add_116 : decode cX7_add 116 = .ok (.iaload, 1) := by decide +kernel
theorem dX7_add_117 : decode cX7_add 117 = .ok (.iconst 1, 1) := by decide +kernel
theorem dX7_add_118 : decode cX7_add 118 = .ok (.isub, 1) := by decide +kernel
theorem dX7_add_119 : decode cX7_add 119 = .ok (.iastore, 1) := by decide +kernel
theorem dX7_add_120 : decode cX7_add 120 = .ok (.aload_n 0, 1) := by decide +kernel
theorem dX7_add_121 : decode cX7_add 121 = .ok (.getfield 7, 3) := by decide +kernel
theorem dX7_add_124 : decode cX7_add 124 = .ok (.bipush 53, 2) := by decide +kernel
theorem dX7_add_126 : decode cX7_add 126 = .ok (.aload_n 0, 1) := by decide +kernel
theorem dX7_add_127 : decode cX7_add 127 = .ok (.getfield 7, 3) := by decide +kernel
theorem dX7_add_130 : decode cX7_add 130 = .ok (.iconst 3, 1) := by decide +kernel
theorem dX7_add_131 : decode cX7_add 131 = .ok (.iaload, 1) := by decide +kernel
theorem dX7_add_132 : decode cX7_add 132 = .ok (.iadd, 1) := by decide +kernel
theorem dX7_add_133 : decode cX7_add 133 = .ok (.iconst 0, 1) := by decide +kernel
theorem dX7_add_134 : decode cX7_add 134 = .ok (.iastore, 1) := by decide +kernel
theorem dX7_add_135 : decode cX7_add 135 = .ok (.aload_n 0, 1) := by decide +kernel
theorem dX7_add_136 : decode cX7_add 136 = .ok (.getfield 7, 3) := by decide +kernel
theorem dX7_add_139 : decode cX7_add 139 = .ok (.iconst 3, 1) := by decide +kernel
theorem dX7_add_140 : decode cX7_add 140 = .ok (.dup2, 1) := by decide +kernel
theorem dX7_add_141 : decode cX7_add 141 = .ok (.iaload, 1) := by decide +kernel
theorem dX7_add_142 : decode cX7_add 142 = .ok (.iconst 1, 1) := by decide +kernel
theorem dX7_add_143 : decode cX7_add 143 = .ok (.iadd, 1) := by decide +kernel
theorem dX7_add_144 : decode cX7_add 144 = .ok (.iastore, 1) := by decide +kernel
theorem dX7_add_145 : decode cX7_add 145 = .ok (.aload_n 0, 1) := by decide +kernel
theorem dX7_add_146 : decode cX7_add 146 = .ok (.getfield 7, 3) := by decide +kernel
theorem dX7_add_149 : decode cX7_add 149 = .ok (.iconst 0, 1) := by decide +kernel
theorem dX7_add_150 : decode cX7_add 150 = .ok (.iaload, 1) := by decide +kernel
theorem dX7_add_151 : decode cX7_add 151 = .ok (.iconst 1, 1) := by decide +kernel
theorem dX7_add_152 : decode cX7_add 152 = .ok (.isub, 1) := by decide +kernel
theorem dX7_add_153 : decode cX7_add 153 = .ok (.ireturn, 1) := by decide +kernel
set_option maxRecDepth 20000 in
theorem ggX7_remove_X7_records : GoodIn wsX7_remove wsX7_records := goodIn_r _ [6, 7, 8, 1, 13, 14, 15, 16, 17, 18, 19, 20, 21, 22, 23, 24, 25, 26, 27, 28, 29, 30, 31] (by decide +kernel) (by decide +kernel)
set_option maxRecDepth 20000 in
theorem gX7_remove_X7_records : GoodIn wsX7_remove (wsV RX7 90 RX7 yX7_records wsX7_records) := goodIn_app (goodIn_of _ (by decide +kernel)) ggX7_remove_X7_records
set_option maxRecDepth 20000 in
theorem ggX7_remove_X7_first : GoodIn wsX7_remove wsX7_first := goodIn_r _ [12, 1, 13, 14, 15, 16, 17, 18, 19, 20, 21, 22, 23, 24, 25, 26, 27, 28, 29, 30, 31] (by decide +kernel) (by decide +kernel)
set_option maxRecDepth 20000 in
theorem gX7_remove_X7_first : GoodIn wsX7_remove (wsV RX7 73 RX7 yX7_first wsX7_first) := goodIn_app (goodIn_of _ (by decide +kernel)) ggX7_remove_X7_first
theorem dX7_remove_0 : decode cX7_remove 0 = .ok (.aload_n 0, 1) := by decide +kernel
theorem dX7_remove_1 : decode cX7_remove 1 = .ok (.getfield 7, 3) := by decide +kernel
theorem dX7_remove_4 : decode cX7_remove 4 = .ok (.iconst 3, 1) := by decide +kernel
theorem dX7_remove_5 : decode cX7_remove 5 = .ok (.iaload, 1) := by decide +kernel
theorem dX7_remove_6 : decode cX7_remove 6 = .ok (.iconst 1, 1) := by decide +kernel
theorem dX7_remove_7 : decode cX7_remove 7 = .ok (.isub, 1) := by decide +kernel
theorem dX7_remove_8 : decode cX7_remove 8 = .ok (.istore_n 1, 1) := by decide +kernel
theorem dX7_remove_9 : decode cX7_remove 9 = .ok (.iload_n 1, 1) := by decide +kernel
theorem dX7_remove_10 : decode cX7_remove 10 = .ok (.ifCond .lt 16, 3) := by decide +kernel
theorem dX7_remove_13 : decode cX7_remove 13 = .ok (.aload_n 0, 1) := by decide +kernel
theorem dX7_remove_14 : decode cX7_remove 14 = .ok (.getfield 7, 3) := by decide +kernel
theorem dX7_remove_17 : decode cX7_remove 17 = .ok (.bipush 53, 2) := by decide +kernel
theorem dX7_remove_19 : decode cX7_remove 19 = .ok (.iload_n 1, 1) := by decide +kernel
theorem dX7_remove_20 : decode cX7_remove 20 = .ok (.iadd, 1) := by decide +kernel
theorem dX7_remove_21 : decode cX7_remove 21 = .ok (.iaload, 1) := by decide +kernel
theorem dX7_remove_22 : decode cX7_remove 22 = .ok (.iconst 1, 1) := by decide +kernel
theorem dX7_remove_23 : decode cX7_remove 23 = .ok (.if_icmp .ne 6, 3) := by decide +kernel
theorem dX7_remove_26 : decode cX7_remove 26 = .ok (.bipush (-2), 2) := by decide +kernel
theorem dX7_remove_28 : decode cX7_remove 28 = .ok (.ireturn, 1) := by decide +kernel
theorem dX7_remove_29 : decode cX7_remove 29 = .ok (.aload_n 0, 1) := by decide +kernel
theorem dX7_remove_30 : decode cX7_remove 30 = .ok (.invokevirtual 90, 3) := by decide +kernel
theorem dX7_remove_33 : decode cX7_remove 33 = .ok (.aload_n 0, 1) := by decide +kernel
theorem dX7_remove_34 : decode cX7_remove 34 = .ok (.getfield 7, 3) := by decide +kernel
theorem dX7_remove_37 : decode cX7_remove 37 = .ok (.iconst 0, 1) := by decide +kernel
theorem dX7_remove_38 : decode cX7_remove 38 = .ok (.dup2, 1) := by decide +kernel
theorem dX7_remove_39 : decode cX7_remove 39 = .ok (.iaload, 1) := by decide +kernel
theorem dX7_remove_40 : decode cX7_remove 40 = .ok (.iconst 1, 1) := by decide +kernel
theorem dX7_remove_41 : decode cX7_remove 41 = .ok (.isub, 1) := by decide +kernel
theorem dX7_remove_42 : decode cX7_remove 42 = .ok (.iastore, 1) := by decide +kernel
theorem dX7_remove_43 : decode cX7_remove 43 = .ok (.aload_n 0, 1) := by decide +kernel
theorem dX7_remove_44 : decode cX7_remove 44 = .ok (.getfield 7, 3) := by decide +kernel
theorem dX7_remove_47 : decode cX7_remove 47 = .ok (.iconst 3, 1) := by decide +kernel
theorem dX7_remove_48 : decode cX7_remove 48 = .ok (.dup2, 1) := by decide +kernel
theorem dX7_remove_49 : decode cX7_remove 49 = .ok (.iaload, 1) := by decide +kernel
theorem dX7_remove_50 : decode cX7_remove 50 = .ok (.aload_n 0, 1) := by decide +kernel
theorem dX7_remove_51 : decode cX7_remove 51 = .ok (.iload_n 1, 1) := by decide +kernel
theorem dX7_remove_52 : decode cX7_remove 52 = .ok (.invokevirtual 73, 3) := by decide +kernel
theorem dX7_remove_55 : decode cX7_remove 55 = .ok (.aload_n 0, 1) := by decide +kernel
theorem dX7_remove_56 : decode cX7_remove 56 = .ok (.getfield 7, 3) := by decide +kernel
theorem dX7_remove_59 : decode cX7_remove 59 = .ok (.iconst 0, 1) := by decide +kernel
theorem dX7_remove_60 : decode cX7_remove 60 = .ok (.iaload, 1) := by decide +kernel
theorem dX7_remove_61 : decode cX7_remove 61 = .ok (.if_icmp .ne 7, 3) := by decide +kernel
theorem dX7_remove_64 : decode cX7_remove 64 = .ok (.iconst 1, 1) := by decide +kernel
theorem dX7_remove_65 : decode cX7_remove 65 = .ok (.goto 4, 3) := by decide +kernel
theorem dX7_remove_68 : decode cX7_remove 68 = .ok (.iconst 0, 1) := by decide +kernel
theorem dX7_remove_69 : decode cX7_remove 69 = .ok (.isub, 1) := by decide +kernel
theorem dX7_remove_70 : decode cX7_remove 70 = .ok (.iastore, 1) := by decide +kernel
theorem dX7_remove_71 : decode cX7_remove 71 = .ok (.aload_n 0, 1) := by decide +kernel
theorem dX7_remove_72 : decode cX7_remove 72 = .ok (.getfield 7, 3) := by decide +kernel
theorem dX7_remove_75 : decode cX7_remove 75 = .ok (.iconst 0, 1) := by decide +kernel
theorem dX7_remove_76 : decode cX7_remove 76 = .ok (.iaload, 1) := by decide +kernel
theorem dX7_remove_77 : decode cX7_remove 77 = .ok (.ireturn, 1) := by decide +kernel
set_option maxRecDepth 20000 in
theorem ggX7_pull_X7_isLine : GoodIn wsX7_pull wsX7_isLine := goodIn_r _ [6, 1, 7, 8, 5, 9, 32, 33, 34, 35, 36, 37, 38, 39, 40, 41, 42, 43, 44, 45, 46, 47, 48, 49, 50] (by decide +kernel) (by decide +kernel)
set_option maxRecDepth 20000 in
theorem gX7_pull_X7_isLine : GoodIn wsX7_pull (wsV RX7 96 RX7 yX7_isLine wsX7_isLine) := goodIn_app (goodIn_of _ (by decide +kernel)) ggX7_pull_X7_isLine
set_option maxRecDepth 20000 in
theorem ggX7_pull_X7_first : GoodIn wsX7_pull wsX7_first := goodIn_r _ [13, 1, 32, 33, 34, 35, 36, 37, 38, 39, 40, 41, 42, 43, 44, 45, 46, 47, 48, 49, 50] (by decide +kernel) (by decide +kernel)
set_option maxRecDepth 20000 in
theorem gX7_pull_X7_first : GoodIn wsX7_pull (wsV RX7 73 RX7 yX7_first wsX7_first) := goodIn_app (goodIn_of _ (by decide +kernel)) ggX7_pull_X7_first
set_option maxRecDepth 20000 in
theorem ggX7_pull_X7_behind : GoodIn wsX7_pull wsX7_behind := goodIn_r _ [17, 1, 32, 33, 34, 35, 36, 37, 38, 39, 40, 41, 42, 43, 44, 45, 46, 47, 48, 49, 50] (by decide +kernel) (by decide +kernel)
set_option maxRecDepth 20000 in
theorem gX7_pull_X7_behind : GoodIn wsX7_pull (wsV RX7 76 RX7 yX7_behind wsX7_behind) := goodIn_app (goodIn_of _ (by decide +kernel)) ggX7_pull_X7_behind
set_option maxRecDepth 20000 in
theorem ggX7_pull_X7_fits : GoodIn wsX7_pull wsX7_fits := goodIn_r _ [21, 1, 22, 23, 24, 5, 25, 32, 33, 34, 35, 36, 37, 38, 39, 40, 41, 42, 43, 44, 45, 46, 47, 48, 49, 50] (by decide +kernel) (by decide +kernel)
set_option maxRecDepth 20000 in
theorem gX7_pull_X7_fits : GoodIn wsX7_pull (wsV RX7 62 RX7 yX7_fits wsX7_fits) := goodIn_app (goodIn_of _ (by decide +kernel)) ggX7_pull_X7_fits
set_option maxRecDepth 20000 in
theorem ggX7_pull_X7_records : GoodIn wsX7_pull wsX7_records := goodIn_r _ [29, 30, 31, 1, 32, 33, 34, 35, 36, 37, 38, 39, 40, 41, 42, 43, 44, 45, 46, 47, 48, 49, 50] (by decide +kernel) (by decide +kernel)
set_option maxRecDepth 20000 in
theorem gX7_pull_X7_records : GoodIn wsX7_pull (wsV RX7 90 RX7 yX7_records wsX7_records) := goodIn_app (goodIn_of _ (by decide +kernel)) ggX7_pull_X7_records
theorem dX7_pull_0 : decode cX7_pull 0 = .ok (.aload_n 0, 1) := by decide +kernel
theorem dX7_pull_1 : decode cX7_pull 1 = .ok (.iload_n 1, 1) := by decide +kernel
theorem dX7_pull_2 : decode cX7_pull 2 = .ok (.invokevirtual 96, 3) := by decide +kernel
theorem dX7_pull_5 : decode cX7_pull 5 = .ok (.ifCond .ne 5, 3) := by decide +kernel
theorem dX7_pull_8 : decode cX7_pull 8 = .ok (.iconst (-1), 1) := by decide +kernel
theorem dX7_pull_9 : decode cX7_pull 9 = .ok (.ireturn, 1) := by decide +kernel
theorem dX7_pull_10 : decode cX7_pull 10 = .ok (.iload_n 1, 1) := by decide +kernel
theorem dX7_pull_11 : decode cX7_pull 11 = .ok (.iconst 1, 1) := by decide +kernel
theorem dX7_pull_12 : decode cX7_pull 12 = .ok (.iadd, 1) := by decide +kernel
theorem dX7_pull_13 : decode cX7_pull 13 = .ok (.aload_n 0, 1) := by decide +kernel
theorem dX7_pull_14 : decode cX7_pull 14 = .ok (.getfield 7, 3) := by decide +kernel
theorem dX7_pull_17 : decode cX7_pull 17 = .ok (.iconst 3, 1) := by decide +kernel
theorem dX7_pull_18 : decode cX7_pull 18 = .ok (.iaload, 1) := by decide +kernel
theorem dX7_pull_19 : decode cX7_pull 19 = .ok (.if_icmp .eq 46, 3) := by decide +kernel
theorem dX7_pull_22 : decode cX7_pull 22 = .ok (.aload_n 0, 1) := by decide +kernel
theorem dX7_pull_23 : decode cX7_pull 23 = .ok (.getfield 7, 3) := by decide +kernel
theorem dX7_pull_26 : decode cX7_pull 26 = .ok (.bipush 53, 2) := by decide +kernel
theorem dX7_pull_28 : decode cX7_pull 28 = .ok (.iload_n 1, 1) := by decide +kernel
theorem dX7_pull_29 : decode cX7_pull 29 = .ok (.iadd, 1) := by decide +kernel
theorem dX7_pull_30 : decode cX7_pull 30 = .ok (.iaload, 1) := by decide +kernel
theorem dX7_pull_31 : decode cX7_pull 31 = .ok (.aload_n 0, 1) := by decide +kernel
theorem dX7_pull_32 : decode cX7_pull 32 = .ok (.getfield 7, 3) := by decide +kernel
theorem dX7_pull_35 : decode cX7_pull 35 = .ok (.bipush 53, 2) := by decide +kernel
theorem dX7_pull_37 : decode cX7_pull 37 = .ok (.iload_n 1, 1) := by decide +kernel
theorem dX7_pull_38 : decode cX7_pull 38 = .ok (.iadd, 1) := by decide +kernel
theorem dX7_pull_39 : decode cX7_pull 39 = .ok (.iconst 1, 1) := by decide +kernel
theorem dX7_pull_40 : decode cX7_pull 40 = .ok (.iadd, 1) := by decide +kernel
theorem dX7_pull_41 : decode cX7_pull 41 = .ok (.iaload, 1) := by decide +kernel
theorem dX7_pull_42 : decode cX7_pull 42 = .ok (.iadd, 1) := by decide +kernel
theorem dX7_pull_43 : decode cX7_pull 43 = .ok (.ifCond .gt 22, 3) := by decide +kernel
theorem dX7_pull_46 : decode cX7_pull 46 = .ok (.aload_n 0, 1) := by decide +kernel
theorem dX7_pull_47 : decode cX7_pull 47 = .ok (.aload_n 0, 1) := by decide +kernel
theorem dX7_pull_48 : decode cX7_pull 48 = .ok (.iload_n 1, 1) := by decide +kernel
theorem dX7_pull_49 : decode cX7_pull 49 = .ok (.invokevirtual 73, 3) := by decide +kernel
theorem dX7_pull_52 : decode cX7_pull 52 = .ok (.aload_n 0, 1) := by decide +kernel
theorem dX7_pull_53 : decode cX7_pull 53 = .ok (.iload_n 1, 1) := by decide +kernel
theorem dX7_pull_54 : decode cX7_pull 54 = .ok (.invokevirtual 76, 3) := by decide +kernel
theorem dX7_pull_57 : decode cX7_pull 57 = .ok (.iconst 1, 1) := by decide +kernel
theorem dX7_pull_58 : decode cX7_pull 58 = .ok (.iadd, 1) := by decide +kernel
theorem dX7_pull_59 : decode cX7_pull 59 = .ok (.invokevirtual 62, 3) := by decide +kernel
theorem dX7_pull_62 : decode cX7_pull 62 = .ok (.ifCond .ne 6, 3) := by decide +kernel
theorem dX7_pull_65 : decode cX7_pull 65 = .ok (.bipush (-2), 2) := by decide +kernel
theorem dX7_pull_67 : decode cX7_pull 67 = .ok (.ireturn, 1) := by decide +kernel
theorem dX7_pull_68 : decode cX7_pull 68 = .ok (.aload_n 0, 1) := by decide +kernel
theorem dX7_pull_69 : decode cX7_pull 69 = .ok (.invokevirtual 90, 3) := by decide +kernel
theorem dX7_pull_72 : decode cX7_pull 72 = .ok (.aload_n 0, 1) := by decide +kernel
theorem dX7_pull_73 : decode cX7_pull 73 = .ok (.getfield 7, 3) := by decide +kernel
theorem dX7_pull_76 : decode cX7_pull 76 = .ok (.bipush 28, 2) := by decide +kernel
theorem dX7_pull_78 : decode cX7_pull 78 = .ok (.iload_n 1, 1) := by decide +kernel
theorem dX7_pull_79 : decode cX7_pull 79 = .ok (.iadd, 1) := by decide +kernel
theorem dX7_pull_80 : decode cX7_pull 80 = .ok (.iconst 1, 1) := by decide +kernel
theorem dX7_pull_81 : decode cX7_pull 81 = .ok (.iadd, 1) := by decide +kernel
theorem dX7_pull_82 : decode cX7_pull 82 = .ok (.dup2, 1) := by decide +kernel
theorem dX7_pull_83 : decode cX7_pull 83 = .ok (.iaload, 1) := by decide +kernel
theorem dX7_pull_84 : decode cX7_pull 84 = .ok (.iconst 1, 1) := by decide +kernel
theorem dX7_pull_85 : decode cX7_pull 85 = .ok (.iadd, 1) := by decide +kernel
theorem dX7_pull_86 : decode cX7_pull 86 = .ok (.iastore, 1) := by decide +kernel
theorem dX7_pull_87 : decode cX7_pull 87 = .ok (.aload_n 0, 1) := by decide +kernel
theorem dX7_pull_88 : decode cX7_pull 88 = .ok (.iload_n 1, 1) := by decide +kernel
theorem dX7_pull_89 : decode cX7_pull 89 = .ok (.iconst 1, 1) := by decide +kernel
theorem dX7_pull_90 : decode cX7_pull 90 = .ok (.iadd, 1) := by decide +kernel
theorem dX7_pull_91 : decode cX7_pull 91 = .ok (.invokevirtual 76, 3) := by decide +kernel
theorem dX7_pull_94 : decode cX7_pull 94 = .ok (.aload_n 0, 1) := by decide +kernel
theorem dX7_pull_95 : decode cX7_pull 95 = .ok (.getfield 7, 3) := by decide +kernel
theorem dX7_pull_98 : decode cX7_pull 98 = .ok (.bipush 28, 2) := by decide +kernel
theorem dX7_pull_100 : decode cX7_pull 100 = .ok (.iload_n 1, 1) := by decide +kernel
theorem dX7_pull_101 : decode cX7_pull 101 = .ok (.iadd, 1) := by decide +kernel
theorem dX7_pull_102 : decode cX7_pull 102 = .ok (.iconst 1, 1) := by decide +kernel
theorem dX7_pull_103 : decode cX7_pull 103 = .ok (.iadd, 1) := by decide +kernel
theorem dX7_pull_104 : decode cX7_pull 104 = .ok (.iaload, 1) := by decide +kernel
theorem dX7_pull_105 : decode cX7_pull 105 = .ok (.if_icmp .ne 73, 3) := by decide +kernel
theorem dX7_pull_108 : decode cX7_pull 108 = .ok (.aload_n 0, 1) := by decide +kernel
theorem dX7_pull_109 : decode cX7_pull 109 = .ok (.getfield 7, 3) := by decide +kernel
theorem dX7_pull_112 : decode cX7_pull 112 = .ok (.iconst 3, 1) := by decide +kernel
theorem dX7_pull_113 : decode cX7_pull 113 = .ok (.dup2, 1) := by decide +kernel
theorem dX7_pull_114 : decode cX7_pull 114 = .ok (.iaload, 1) := by decide +kernel
theorem dX7_pull_115 : decode cX7_pull 115 = .ok (.iconst 1, 1) := by decide +kernel
theorem dX7_pull_116 : decode cX7_pull 116 = .ok (.isub, 1) := by decide +kernel
theorem dX7_pull_117 : decode cX7_pull 117 = .ok (.iastore, 1) := by decide +kernel
theorem dX7_pull_118 : decode cX7_pull 118 = .ok (.iload_n 1, 1) := by decide +kernel
theorem dX7_pull_119 : decode cX7_pull 119 = .ok (.iconst 1, 1) := by decide +kernel
theorem dX7_pull_120 : decode cX7_pull 120 = .ok (.iadd, 1) := by decide +kernel
theorem dX7_pull_121 : decode cX7_pull 121 = .ok (.istore_n 2, 1) := by decide +kernel
theorem dX7_pull_122 : decode cX7_pull 122 = .ok (.iload_n 2, 1) := by decide +kernel
theorem dX7_pull_123 : decode cX7_pull 123 = .ok (.aload_n 0, 1) := by decide +kernel
theorem dX7_pull_124 : decode cX7_pull 124 = .ok (.getfield 7, 3) := by decide +kernel
theorem dX7_pull_127 : decode cX7_pull 127 = .ok (.iconst 3, 1) := by decide +kernel
theorem dX7_pull_128 : decode cX7_pull 128 = .ok (.iaload, 1) := by decide +kernel
theorem dX7_pull_129 : decode cX7_pull 129 = .ok (.if_icmp .ge 49, 3) := by decide +kernel
theorem dX7_pull_132 : decode cX7_pull 132 = .ok (.aload_n 0, 1) := by decide +kernel
theorem dX7_pull_133 : decode cX7_pull 133 = .ok (.getfield 7, 3) := by decide +kernel
theorem dX7_pull_136 : decode cX7_pull 136 = .ok (.bipush 28, 2) := by decide +kernel
theorem dX7_pull_138 : decode cX7_pull 138 = .ok (.iload_n 2, 1) := by decide +kernel
theorem dX7_pull_139 : decode cX7_pull 139 = .ok (.iadd, 1) := by decide +kernel
theorem dX7_pull_140 : decode cX7_pull 140 = .ok (.aload_n 0, 1) := by decide +kernel
theorem dX7_pull_141 : decode cX7_pull 141 = .ok (.getfield 7, 3) := by decide +kernel
theorem dX7_pull_144 : decode cX7_pull 144 = .ok (.bipush 28, 2) := by decide +kernel
theorem dX7_pull_146 : decode cX7_pull 146 = .ok (.iload_n 2, 1) := by decide +kernel
theorem dX7_pull_147 : decode cX7_pull 147 = .ok (.iadd, 1) := by decide +kernel
theorem dX7_pull_148 : decode cX7_pull 148 = .ok (.iconst 1, 1) := by decide +kernel
theorem dX7_pull_149 : decode cX7_pull 149 = .ok (.iadd, 1) := by decide +kernel
theorem dX7_pull_150 : decode cX7_pull 150 = .ok (.iaload, 1) := by decide +kernel
theorem dX7_pull_151 : decode cX7_pull 151 = .ok (.iastore, 1) := by decide +kernel
theorem dX7_pull_152 : decode cX7_pull 152 = .ok (.aload_n 0, 1) := by decide +kernel
theorem dX7_pull_153 : decode cX7_pull 153 = .ok (.getfield 7, 3) := by decide +kernel
theorem dX7_pull_156 : decode cX7_pull 156 = .ok (.bipush 53, 2) := by decide +kernel
theorem dX7_pull_158 : decode cX7_pull 158 = .ok (.iload_n 2, 1) := by decide +kernel
theorem dX7_pull_159 : decode cX7_pull 159 = .ok (.iadd, 1) := by decide +kernel
theorem dX7_pull_160 : decode cX7_pull 160 = .ok (.aload_n 0, 1) := by decide +kernel
theorem dX7_pull_161 : decode cX7_pull 161 = .ok (.getfield 7, 3) := by decide +kernel
theorem dX7_pull_164 : decode cX7_pull 164 = .ok (.bipush 53, 2) := by decide +kernel
theorem dX7_pull_166 : decode cX7_pull 166 = .ok (.iload_n 2, 1) := by decide +kernel
theorem dX7_pull_167 : decode cX7_pull 167 = .ok (.iadd, 1) := by decide +kernel
theorem dX7_pull_168 : decode cX7_pull 168 = .ok (.iconst 1, 1) := by decide +kernel
theorem dX7_pull_169 : decode cX7_pull 169 = .ok (.iadd, 1) := by decide +kernel
theorem dX7_pull_170 : decode cX7_pull 170 = .ok (.iaload, 1) := by decide +kernel
theorem dX7_pull_171 : decode cX7_pull 171 = .ok (.iastore, 1) := by decide +kernel
theorem dX7_pull_172 : decode cX7_pull 172 = .ok (.iinc 2 1, 3) := by decide +kernel
theorem dX7_pull_175 : decode cX7_pull 175 = .ok (.goto (-53), 3) := by decide +kernel
theorem dX7_pull_178 : decode cX7_pull 178 = .ok (.aload_n 0, 1) := by decide +kernel
theorem dX7_pull_179 : decode cX7_pull 179 = .ok (.getfield 7, 3) := by decide +kernel
theorem dX7_pull_182 : decode cX7_pull 182 = .ok (.iconst 3, 1) := by decide +kernel
theorem dX7_pull_183 : decode cX7_pull 183 = .ok (.iaload, 1) := by decide +kernel
theorem dX7_pull_184 : decode cX7_pull 184 = .ok (.ireturn, 1) := by decide +kernel
set_option maxRecDepth 20000 in
theorem ggX7_push_X7_isLine : GoodIn wsX7_push wsX7_isLine := goodIn_r _ [6, 1, 7, 8, 5, 9, 32, 33, 34, 35, 36, 37, 38, 39, 40, 41, 42, 43, 44, 45, 46, 47, 48, 49, 50] (by decide +kernel) (by decide +kernel)
set_option maxRecDepth 20000 in
theorem gX7_push_X7_isLine : GoodIn wsX7_push (wsV RX7 96 RX7 yX7_isLine wsX7_isLine) := goodIn_app (goodIn_of _ (by decide +kernel)) ggX7_push_X7_isLine
set_option maxRecDepth 20000 in
theorem ggX7_push_X7_behind : GoodIn wsX7_push wsX7_behind := goodIn_r _ [13, 1, 32, 33, 34, 35, 36, 37, 38, 39, 40, 41, 42, 43, 44, 45, 46, 47, 48, 49, 50] (by decide +kernel) (by decide +kernel)
set_option maxRecDepth 20000 in
theorem gX7_push_X7_behind : GoodIn wsX7_push (wsV RX7 76 RX7 yX7_behind wsX7_behind) := goodIn_app (goodIn_of _ (by decide +kernel)) ggX7_push_X7_behind
set_option maxRecDepth 20000 in
theorem ggX7_push_X7_first : GoodIn wsX7_push wsX7_first := goodIn_r _ [17, 1, 32, 33, 34, 35, 36, 37, 38, 39, 40, 41, 42, 43, 44, 45, 46, 47, 48, 49, 50] (by decide +kernel) (by decide +kernel)
set_option maxRecDepth 20000 in
theorem gX7_push_X7_first : GoodIn wsX7_push (wsV RX7 73 RX7 yX7_first wsX7_first) := goodIn_app (goodIn_of _ (by decide +kernel)) ggX7_push_X7_first
set_option maxRecDepth 20000 in
theorem ggX7_push_X7_fits : GoodIn wsX7_push wsX7_fits := goodIn_r _ [21, 1, 22, 23, 24, 5, 25, 32, 33, 34, 35, 36, 37, 38, 39, 40, 41, 42, 43, 44, 45, 46, 47, 48, 49, 50] (by decide +kernel) (by decide +kernel)
set_option maxRecDepth 20000 in
theorem gX7_push_X7_fits : GoodIn wsX7_push (wsV RX7 62 RX7 yX7_fits wsX7_fits) := goodIn_app (goodIn_of _ (by decide +kernel)) ggX7_push_X7_fits
set_option maxRecDepth 20000 in
theorem ggX7_push_X7_records : GoodIn wsX7_push wsX7_records := goodIn_r _ [29, 30, 31, 1, 32, 33, 34, 35, 36, 37, 38, 39, 40, 41, 42, 43, 44, 45, 46, 47, 48, 49, 50] (by decide +kernel) (by decide +kernel)
set_option maxRecDepth 20000 in
theorem gX7_push_X7_records : GoodIn wsX7_push (wsV RX7 90 RX7 yX7_records wsX7_records) := goodIn_app (goodIn_of _ (by decide +kernel)) ggX7_push_X7_records
theorem dX7_push_0 : decode cX7_push 0 = .ok (.aload_n 0, 1) := by decide +kernel
theorem dX7_push_1 : decode cX7_push 1 = .ok (.iload_n 1, 1) := by decide +kernel
theorem dX7_push_2 : decode cX7_push 2 = .ok (.invokevirtual 96, 3) := by decide +kernel
theorem dX7_push_5 : decode cX7_push 5 = .ok (.ifCond .ne 5, 3) := by decide +kernel
theorem dX7_push_8 : decode cX7_push 8 = .ok (.iconst (-1), 1) := by decide +kernel
theorem dX7_push_9 : decode cX7_push 9 = .ok (.ireturn, 1) := by decide +kernel
theorem dX7_push_10 : decode cX7_push 10 = .ok (.iload_n 1, 1) := by decide +kernel
theorem dX7_push_11 : decode cX7_push 11 = .ok (.iconst 1, 1) := by decide +kernel
theorem dX7_push_12 : decode cX7_push 12 = .ok (.iadd, 1) := by decide +kernel
theorem dX7_push_13 : decode cX7_push 13 = .ok (.aload_n 0, 1) := by decide +kernel
theorem dX7_push_14 : decode cX7_push 14 = .ok (.getfield 7, 3) := by decide +kernel
theorem dX7_push_17 : decode cX7_push 17 = .ok (.iconst 3, 1) := by decide +kernel
theorem dX7_push_18 : decode cX7_push 18 = .ok (.iaload, 1) := by decide +kernel
theorem dX7_push_19 : decode cX7_push 19 = .ok (.if_icmp .ne 7, 3) := by decide +kernel
theorem dX7_push_22 : decode cX7_push 22 = .ok (.iconst 1, 1) := by decide +kernel
theorem dX7_push_23 : decode cX7_push 23 = .ok (.goto 4, 3) := by decide +kernel
theorem dX7_push_26 : decode cX7_push 26 = .ok (.iconst 0, 1) := by decide +kernel
theorem dX7_push_27 : decode cX7_push 27 = .ok (.istore_n 2, 1) := by decide +kernel
theorem dX7_push_28 : decode cX7_push 28 = .ok (.aload_n 0, 1) := by decide +kernel
theorem dX7_push_29 : decode cX7_push 29 = .ok (.iload_n 1, 1) := by decide +kernel
theorem dX7_push_30 : decode cX7_push 30 = .ok (.invokevirtual 76, 3) := by decide +kernel
theorem dX7_push_33 : decode cX7_push 33 = .ok (.iconst 1, 1) := by decide +kernel
theorem dX7_push_34 : decode cX7_push 34 = .ok (.isub, 1) := by decide +kernel
theorem dX7_push_35 : decode cX7_push 35 = .ok (.istore_n 3, 1) := by decide +kernel
theorem dX7_push_36 : decode cX7_push 36 = .ok (.iload_n 3, 1) := by decide +kernel
theorem dX7_push_37 : decode cX7_push 37 = .ok (.aload_n 0, 1) := by decide +kernel
theorem dX7_push_38 : decode cX7_push 38 = .ok (.iload_n 1, 1) := by decide +kernel
theorem dX7_push_39 : decode cX7_push 39 = .ok (.invokevirtual 73, 3) := by decide +kernel
theorem dX7_push_42 : decode cX7_push 42 = .ok (.if_icmp .eq 50, 3) := by decide +kernel
theorem dX7_push_45 : decode cX7_push 45 = .ok (.aload_n 0, 1) := by decide +kernel
theorem dX7_push_46 : decode cX7_push 46 = .ok (.getfield 7, 3) := by decide +kernel
theorem dX7_push_49 : decode cX7_push 49 = .ok (.bipush 53, 2) := by decide +kernel
theorem dX7_push_51 : decode cX7_push 51 = .ok (.iload_n 1, 1) := by decide +kernel
theorem dX7_push_52 : decode cX7_push 52 = .ok (.iadd, 1) := by decide +kernel
theorem dX7_push_53 : decode cX7_push 53 = .ok (.iaload, 1) := by decide +kernel
theorem dX7_push_54 : decode cX7_push 54 = .ok (.iconst 1, 1) := by decide +kernel
theorem dX7_push_55 : decode cX7_push 55 = .ok (.if_icmp .eq 37, 3) := by decide +kernel
theorem dX7_push_58 : decode cX7_push 58 = .ok (.iload_n 2, 1) := by decide +kernel
theorem dX7_push_59 : decode cX7_push 59 = .ok (.ifCond .ne 36, 3) := by decide +kernel
theorem dX7_push_62 : decode cX7_push 62 = .ok (.aload_n 0, 1) := by decide +kernel
theorem dX7_push_63 : decode cX7_push 63 = .ok (.getfield 7, 3) := by decide +kernel
theorem dX7_push_66 : decode cX7_push 66 = .ok (.bipush 53, 2) := by decide +kernel
theorem dX7_push_68 : decode cX7_push 68 = .ok (.iload_n 1, 1) := by decide +kernel
theorem dX7_push_69 : decode cX7_push 69 = .ok (.iadd, 1) := by decide +kernel
theorem dX7_push_70 : decode cX7_push 70 = .ok (.iconst 1, 1) := by decide +kernel
theorem dX7_push_71 : decode cX7_push 71 = .ok (.iadd, 1) := by decide +kernel
theorem dX7_push_72 : decode cX7_push 72 = .ok (.iaload, 1) := by decide +kernel
theorem dX7_push_73 : decode cX7_push 73 = .ok (.iconst 1, 1) := by decide +kernel
theorem dX7_push_74 : decode cX7_push 74 = .ok (.if_icmp .eq 18, 3) := by decide +kernel
theorem dX7_push_77 : decode cX7_push 77 = .ok (.aload_n 0, 1) := by decide +kernel
theorem dX7_push_78 : decode cX7_push 78 = .ok (.iload_n 3, 1) := by decide +kernel
theorem dX7_push_79 : decode cX7_push 79 = .ok (.aload_n 0, 1) := by decide +kernel
theorem dX7_push_80 : decode cX7_push 80 = .ok (.iload_n 1, 1) := by decide +kernel
theorem dX7_push_81 : decode cX7_push 81 = .ok (.iconst 1, 1) := by decide +kernel
theorem dX7_push_82 : decode cX7_push 82 = .ok (.iadd, 1) := by decide +kernel
theorem dX7_push_83 : decode cX7_push 83 = .ok (.invokevirtual 76, 3) := by decide +kernel
theorem dX7_push_86 : decode cX7_push 86 = .ok (.invokevirtual 62, 3) := by decide +kernel
theorem dX7_push_89 : decode cX7_push 89 = .ok (.ifCond .ne 6, 3) := by decide +kernel
theorem dX7_push_92 : decode cX7_push 92 = .ok (.bipush (-2), 2) := by decide +kernel
theorem dX7_push_94 : decode cX7_push 94 = .ok (.ireturn, 1) := by decide +kernel
theorem dX7_push_95 : decode cX7_push 95 = .ok (.aload_n 0, 1) := by decide +kernel
theorem dX7_push_96 : decode cX7_push 96 = .ok (.invokevirtual 90, 3) := by decide +kernel
theorem dX7_push_99 : decode cX7_push 99 = .ok (.aload_n 0, 1) := by decide +kernel
theorem dX7_push_100 : decode cX7_push 100 = .ok (.getfield 7, 3) := by decide +kernel
theorem dX7_push_103 : decode cX7_push 103 = .ok (.bipush 28, 2) := by decide +kernel
theorem dX7_push_105 : decode cX7_push 105 = .ok (.iload_n 1, 1) := by decide +kernel
theorem dX7_push_106 : decode cX7_push 106 = .ok (.iadd, 1) := by decide +kernel
theorem dX7_push_107 : decode cX7_push 107 = .ok (.iconst 1, 1) := by decide +kernel
theorem dX7_push_108 : decode cX7_push 108 = .ok (.iadd, 1) := by decide +kernel
theorem dX7_push_109 : decode cX7_push 109 = .ok (.iload_n 3, 1) := by decide +kernel
theorem dX7_push_110 : decode cX7_push 110 = .ok (.iastore, 1) := by decide +kernel
theorem dX7_push_111 : decode cX7_push 111 = .ok (.iload_n 2, 1) := by decide +kernel
theorem dX7_push_112 : decode cX7_push 112 = .ok (.ifCond .eq 25, 3) := by decide +kernel
theorem dX7_push_115 : decode cX7_push 115 = .ok (.aload_n 0, 1) := by decide +kernel
theorem dX7_push_116 : decode cX7_push 116 = .ok (.getfield 7, 3) := by decide +kernel
theorem dX7_push_119 : decode cX7_push 119 = .ok (.bipush 53, 2) := by decide +kernel
theorem dX7_push_121 : decode cX7_push 121 = .ok (.iload_n 1, 1) := by decide +kernel
theorem dX7_push_122 : decode cX7_push 122 = .ok (.iadd, 1) := by decide +kernel
theorem dX7_push_123 : decode cX7_push 123 = .ok (.iconst 1, 1) := by decide +kernel
theorem dX7_push_124 : decode cX7_push 124 = .ok (.iadd, 1) := by decide +kernel
theorem dX7_push_125 : decode cX7_push 125 = .ok (.iconst 0, 1) := by decide +kernel
theorem dX7_push_126 : decode cX7_push 126 = .ok (.iastore, 1) := by decide +kernel
theorem dX7_push_127 : decode cX7_push 127 = .ok (.aload_n 0, 1) := by decide +kernel
theorem dX7_push_128 : decode cX7_push 128 = .ok (.getfield 7, 3) := by decide +kernel
theorem dX7_push_131 : decode cX7_push 131 = .ok (.iconst 3, 1) := by decide +kernel
theorem dX7_push_132 : decode cX7_push 132 = .ok (.dup2, 1) := by decide +kernel
theorem dX7_push_133 : decode cX7_push 133 = .ok (.iaload, 1) := by decide +kernel
theorem dX7_push_134 : decode cX7_push 134 = .ok (.iconst 1, 1) := by decide +kernel
theorem dX7_push_135 : decode cX7_push 135 = .ok (.iadd, 1) := by decide +kernel
theorem dX7_push_136 : decode cX7_push 136 = .ok (.iastore, 1) := by decide +kernel
theorem dX7_push_137 : decode cX7_push 137 = .ok (.aload_n 0, 1) := by decide +kernel
theorem dX7_push_138 : decode cX7_push 138 = .ok (.getfield 7, 3) := by decide +kernel
theorem dX7_push_141 : decode cX7_push 141 = .ok (.iconst 3, 1) := by decide +kernel
theorem dX7_push_142 : decode cX7_push 142 = .ok (.iaload, 1) := by decide +kernel
theorem dX7_push_143 : decode cX7_push 143 = .ok (.ireturn, 1) := by decide +kernel
set_option maxRecDepth 20000 in
theorem ggX7_freeze_X7_isLine : GoodIn wsX7_freeze wsX7_isLine := goodIn_r _ [6, 1, 7, 8, 5, 9, 16, 17, 18, 19, 20, 21, 22, 23, 24, 25, 26, 27, 28, 29, 30, 31, 32, 33, 34] (by decide +kernel) (by decide +kernel)
set_option maxRecDepth 20000 in
theorem gX7_freeze_X7_isLine : GoodIn wsX7_freeze (wsV RX7 96 RX7 yX7_isLine wsX7_isLine) := goodIn_app (goodIn_of _ (by decide +kernel)) ggX7_freeze_X7_isLine
set_option maxRecDepth 20000 in
theorem ggX7_freeze_X7_in : GoodIn wsX7_freeze wsX7_in := goodIn_r _ [9] (by decide +kernel) (by decide +kernel)
set_option maxRecDepth 20000 in
theorem gX7_freeze_X7_in : GoodIn wsX7_freeze (va_wsS RX7 50 yX7_in wsX7_in) := goodIn_app (goodIn_of _ (by decide +kernel)) ggX7_freeze_X7_in
set_option maxRecDepth 20000 in
theorem ggX7_freeze_X7_records : GoodIn wsX7_freeze wsX7_records := goodIn_r _ [13, 14, 15, 1, 16, 17, 18, 19, 20, 21, 22, 23, 24, 25, 26, 27, 28, 29, 30, 31, 32, 33, 34] (by decide +kernel) (by decide +kernel)
set_option maxRecDepth 20000 in
theorem gX7_freeze_X7_records : GoodIn wsX7_freeze (wsV RX7 90 RX7 yX7_records wsX7_records) := goodIn_app (goodIn_of _ (by decide +kernel)) ggX7_freeze_X7_records
theorem dX7_freeze_0 : decode cX7_freeze 0 = .ok (.aload_n 0, 1) := by decide +kernel
theorem dX7_freeze_1 : decode cX7_freeze 1 = .ok (.iload_n 1, 1) := by decide +kernel
theorem dX7_freeze_2 : decode cX7_freeze 2 = .ok (.invokevirtual 96, 3) := by decide +kernel
theorem dX7_freeze_5 : decode cX7_freeze 5 = .ok (.ifCond .eq 12, 3) := by decide +kernel
theorem dX7_freeze_8 : decode cX7_freeze 8 = .ok (.iload_n 2, 1) := by decide +kernel
theorem dX7_freeze_9 : decode cX7_freeze 9 = .ok (.iconst 0, 1) := by decide +kernel
theorem dX7_freeze_10 : decode cX7_freeze 10 = .ok (.iconst 1, 1) := by decide +kernel
theorem dX7_freeze_11 : decode cX7_freeze 11 = .ok (.invokestatic 50, 3) := by decide +kernel
theorem dX7_freeze_14 : decode cX7_freeze 14 = .ok (.ifCond .ne 5, 3) := by decide +kernel
theorem dX7_freeze_17 : decode cX7_freeze 17 = .ok (.iconst (-1), 1) := by decide +kernel
theorem dX7_freeze_18 : decode cX7_freeze 18 = .ok (.ireturn, 1) := by decide +kernel
theorem dX7_freeze_19 : decode cX7_freeze 19 = .ok (.aload_n 0, 1) := by decide +kernel
theorem dX7_freeze_20 : decode cX7_freeze 20 = .ok (.invokevirtual 90, 3) := by decide +kernel
theorem dX7_freeze_23 : decode cX7_freeze 23 = .ok (.aload_n 0, 1) := by decide +kernel
theorem dX7_freeze_24 : decode cX7_freeze 24 = .ok (.getfield 7, 3) := by decide +kernel
theorem dX7_freeze_27 : decode cX7_freeze 27 = .ok (.bipush 53, 2) := by decide +kernel
theorem dX7_freeze_29 : decode cX7_freeze 29 = .ok (.iload_n 1, 1) := by decide +kernel
theorem dX7_freeze_30 : decode cX7_freeze 30 = .ok (.iadd, 1) := by decide +kernel
theorem dX7_freeze_31 : decode cX7_freeze 31 = .ok (.iaload, 1) := by decide +kernel
theorem dX7_freeze_32 : decode cX7_freeze 32 = .ok (.istore_n 3, 1) := by decide +kernel
theorem dX7_freeze_33 : decode cX7_freeze 33 = .ok (.aload_n 0, 1) := by decide +kernel
theorem dX7_freeze_34 : decode cX7_freeze 34 = .ok (.getfield 7, 3) := by decide +kernel
theorem dX7_freeze_37 : decode cX7_freeze 37 = .ok (.bipush 53, 2) := by decide +kernel
theorem dX7_freeze_39 : decode cX7_freeze 39 = .ok (.iload_n 1, 1) := by decide +kernel
theorem dX7_freeze_40 : decode cX7_freeze 40 = .ok (.iadd, 1) := by decide +kernel
theorem dX7_freeze_41 : decode cX7_freeze 41 = .ok (.iload_n 2, 1) := by decide +kernel
theorem dX7_freeze_42 : decode cX7_freeze 42 = .ok (.iastore, 1) := by decide +kernel
theorem dX7_freeze_43 : decode cX7_freeze 43 = .ok (.iload_n 3, 1) := by decide +kernel
theorem dX7_freeze_44 : decode cX7_freeze 44 = .ok (.ireturn, 1) := by decide +kernel
set_option maxRecDepth 20000 in
theorem ggX7_reflow_X7_frozen : GoodIn wsX7_reflow wsX7_frozen := goodIn_r _ [6, 1, 29, 30, 31, 32, 33, 34, 35, 36, 37, 38, 39, 40, 41, 42, 43, 44, 45, 46, 47] (by decide +kernel) (by decide +kernel)
set_option maxRecDepth 20000 in
theorem gX7_reflow_X7_frozen : GoodIn wsX7_reflow (wsV RX7 86 RX7 yX7_frozen wsX7_frozen) := goodIn_app (goodIn_of _ (by decide +kernel)) ggX7_reflow_X7_frozen
set_option maxRecDepth 20000 in
theorem ggX7_reflow_X7_records : GoodIn wsX7_reflow wsX7_records := goodIn_r _ [10, 11, 12, 1, 29, 30, 31, 32, 33, 34, 35, 36, 37, 38, 39, 40, 41, 42, 43, 44, 45, 46, 47] (by decide +kernel) (by decide +kernel)
set_option maxRecDepth 20000 in
theorem gX7_reflow_X7_records : GoodIn wsX7_reflow (wsV RX7 90 RX7 yX7_records wsX7_records) := goodIn_app (goodIn_of _ (by decide +kernel)) ggX7_reflow_X7_records
set_option maxRecDepth 20000 in
theorem ggX7_reflow_X7_fills : GoodIn wsX7_reflow wsX7_fills := goodIn_r _ [16, 1, 17, 18, 19, 5, 20, 21, 22, 23, 24, 25, 26, 27, 28, 29, 30, 31, 32, 33, 34, 35, 36, 37, 38, 39, 40, 41, 42, 43, 44, 45, 46, 47] (by decide +kernel) (by decide +kernel)
set_option maxRecDepth 20000 in
theorem gX7_reflow_X7_fills : GoodIn wsX7_reflow (wsV RX7 93 RX7 yX7_fills wsX7_fills) := goodIn_app (goodIn_of _ (by decide +kernel)) ggX7_reflow_X7_fills
theorem dX7_reflow_0 : decode cX7_reflow 0 = .ok (.aload_n 0, 1) := by decide +kernel
theorem dX7_reflow_1 : decode cX7_reflow 1 = .ok (.invokevirtual 86, 3) := by decide +kernel
theorem dX7_reflow_4 : decode cX7_reflow 4 = .ok (.ifCond .le 6, 3) := by decide +kernel
theorem dX7_reflow_7 : decode cX7_reflow 7 = .ok (.bipush (-2), 2) := by decide +kernel
theorem dX7_reflow_9 : decode cX7_reflow 9 = .ok (.ireturn, 1) := by decide +kernel
theorem dX7_reflow_10 : decode cX7_reflow 10 = .ok (.aload_n 0, 1) := by decide +kernel
theorem dX7_reflow_11 : decode cX7_reflow 11 = .ok (.invokevirtual 90, 3) := by decide +kernel
theorem dX7_reflow_14 : decode cX7_reflow 14 = .ok (.aload_n 0, 1) := by decide +kernel
theorem dX7_reflow_15 : decode cX7_reflow 15 = .ok (.invokevirtual 93, 3) := by decide +kernel
theorem dX7_reflow_18 : decode cX7_reflow 18 = .ok (.aload_n 0, 1) := by decide +kernel
theorem dX7_reflow_19 : decode cX7_reflow 19 = .ok (.getfield 7, 3) := by decide +kernel
theorem dX7_reflow_22 : decode cX7_reflow 22 = .ok (.iconst 3, 1) := by decide +kernel
theorem dX7_reflow_23 : decode cX7_reflow 23 = .ok (.iaload, 1) := by decide +kernel
theorem dX7_reflow_24 : decode cX7_reflow 24 = .ok (.ireturn, 1) := by decide +kernel
set_option maxRecDepth 20000 in
theorem ggX7_extraOf_X7_first : GoodIn wsX7_extraOf wsX7_first := goodIn_r _ [6, 1, 15, 16, 17, 18, 19, 20, 21, 22, 23, 24, 25, 26, 27, 28, 29, 30, 31, 32, 33] (by decide +kernel) (by decide +kernel)
set_option maxRecDepth 20000 in
theorem gX7_extraOf_X7_first : GoodIn wsX7_extraOf (wsV RX7 73 RX7 yX7_first wsX7_first) := goodIn_app (goodIn_of _ (by decide +kernel)) ggX7_extraOf_X7_first
set_option maxRecDepth 20000 in
theorem ggX7_extraOf_X7_behind : GoodIn wsX7_extraOf wsX7_behind := goodIn_r _ [10, 1, 15, 16, 17, 18, 19, 20, 21, 22, 23, 24, 25, 26, 27, 28, 29, 30, 31, 32, 33] (by decide +kernel) (by decide +kernel)
set_option maxRecDepth 20000 in
theorem gX7_extraOf_X7_behind : GoodIn wsX7_extraOf (wsV RX7 76 RX7 yX7_behind wsX7_behind) := goodIn_app (goodIn_of _ (by decide +kernel)) ggX7_extraOf_X7_behind
set_option maxRecDepth 20000 in
theorem ggX7_extraOf_X7_needs : GoodIn wsX7_extraOf wsX7_needs := goodIn_r _ [14, 1, 15, 16, 17, 18, 19, 20, 21, 22, 23, 24, 25, 26, 27, 28, 29, 30, 31, 32, 33] (by decide +kernel) (by decide +kernel)
set_option maxRecDepth 20000 in
theorem gX7_extraOf_X7_needs : GoodIn wsX7_extraOf (wsV RX7 58 RX7 yX7_needs wsX7_needs) := goodIn_app (goodIn_of _ (by decide +kernel)) ggX7_extraOf_X7_needs
theorem dX7_extraOf_0 : decode cX7_extraOf 0 = .ok (.aload_n 0, 1) := by decide +kernel
theorem dX7_extraOf_1 : decode cX7_extraOf 1 = .ok (.getfield 7, 3) := by decide +kernel
theorem dX7_extraOf_4 : decode cX7_extraOf 4 = .ok (.iconst 1, 1) := by decide +kernel
theorem dX7_extraOf_5 : decode cX7_extraOf 5 = .ok (.iaload, 1) := by decide +kernel
theorem dX7_extraOf_6 : decode cX7_extraOf 6 = .ok (.aload_n 0, 1) := by decide +kernel
theorem dX7_extraOf_7 : decode cX7_extraOf 7 = .ok (.aload_n 0, 1) := by decide +kernel
theorem dX7_extraOf_8 : decode cX7_extraOf 8 = .ok (.iload_n 1, 1) := by decide +kernel
theorem dX7_extraOf_9 : decode cX7_extraOf 9 = .ok (.invokevirtual 73, 3) := by decide +kernel
theorem dX7_extraOf_12 : decode cX7_extraOf 12 = .ok (.aload_n 0, 1) := by decide +kernel
theorem dX7_extraOf_13 : decode cX7_extraOf 13 = .ok (.iload_n 1, 1) := by decide +kernel
theorem dX7_extraOf_14 : decode cX7_extraOf 14 = .ok (.invokevirtual 76, 3) := by decide +kernel
theorem dX7_extraOf_17 : decode cX7_extraOf 17 = .ok (.invokevirtual 58, 3) := by decide +kernel
theorem dX7_extraOf_20 : decode cX7_extraOf 20 = .ok (.isub, 1) := by decide +kernel
theorem dX7_extraOf_21 : decode cX7_extraOf 21 = .ok (.ireturn, 1) := by decide +kernel
set_option maxRecDepth 20000 in
theorem ggX7_badOf_X7_extraOf : GoodIn wsX7_badOf wsX7_extraOf := goodIn_r _ [6, 1, 7, 8, 9, 5, 10, 11, 12, 13, 14, 15, 16, 17, 18, 19, 20, 21, 22, 23, 24, 25, 26, 27, 28, 29, 30, 31, 32, 33, 34, 35, 36, 37] (by decide +kernel) (by decide +kernel)
set_option maxRecDepth 20000 in
theorem gX7_badOf_X7_extraOf : GoodIn wsX7_badOf (wsV RX7 100 RX7 yX7_extraOf wsX7_extraOf) := goodIn_app (goodIn_of _ (by decide +kernel)) ggX7_badOf_X7_extraOf
theorem dX7_badOf_0 : decode cX7_badOf 0 = .ok (.iload_n 1, 1) := by decide +kernel
theorem dX7_badOf_1 : decode cX7_badOf 1 = .ok (.iconst 1, 1) := by decide +kernel
theorem dX7_badOf_2 : decode cX7_badOf 2 = .ok (.iadd, 1) := by decide +kernel
theorem dX7_badOf_3 : decode cX7_badOf 3 = .ok (.aload_n 0, 1) := by decide +kernel
theorem dX7_badOf_4 : decode cX7_badOf 4 = .ok (.getfield 7, 3) := by decide +kernel
theorem dX7_badOf_7 : decode cX7_badOf 7 = .ok (.iconst 3, 1) := by decide +kernel
theorem dX7_badOf_8 : decode cX7_badOf 8 = .ok (.iaload, 1) := by decide +kernel
theorem dX7_badOf_9 : decode cX7_badOf 9 = .ok (.if_icmp .ne 7, 3) := by decide +kernel
theorem dX7_badOf_12 : decode cX7_badOf 12 = .ok (.iconst 0, 1) := by decide +kernel
theorem dX7_badOf_13 : decode cX7_badOf 13 = .ok (.goto 14, 3) := by decide +kernel
theorem dX7_badOf_16 : decode cX7_badOf 16 = .ok (.aload_n 0, 1) := by decide +kernel
theorem dX7_badOf_17 : decode cX7_badOf 17 = .ok (.iload_n 1, 1) := by decide +kernel
theorem dX7_badOf_18 : decode cX7_badOf 18 = .ok (.invokevirtual 100, 3) := by decide +kernel
theorem dX7_badOf_21 : decode cX7_badOf 21 = .ok (.aload_n 0, 1) := by decide +kernel
theorem dX7_badOf_22 : decode cX7_badOf 22 = .ok (.iload_n 1, 1) := by decide +kernel
theorem dX7_badOf_23 : decode cX7_badOf 23 = .ok (.invokevirtual 100, 3) := by decide +kernel
theorem dX7_badOf_26 : decode cX7_badOf 26 = .ok (.imul, 1) := by decide +kernel
theorem dX7_badOf_27 : decode cX7_badOf 27 = .ok (.ireturn, 1) := by decide +kernel
set_option maxRecDepth 20000 in
theorem ggX7_badness_X7_badOf : GoodIn wsX7_badness wsX7_badOf := goodIn_r _ [6, 1, 7, 8, 9, 5, 10, 11, 12, 13, 14, 15, 16, 17, 18, 19, 20, 21, 22, 23, 24, 25, 26, 27, 28, 29, 30, 31, 32, 33, 34, 35, 36, 37, 38, 39, 40, 41] (by decide +kernel) (by decide +kernel)
set_option maxRecDepth 20000 in
theorem gX7_badness_X7_badOf : GoodIn wsX7_badness (wsV RX7 103 RX7 yX7_badOf wsX7_badOf) := goodIn_app (goodIn_of _ (by decide +kernel)) ggX7_badness_X7_badOf
theorem dX7_badness_0 : decode cX7_badness 0 = .ok (.iconst 0, 1) := by decide +kernel
theorem dX7_badness_1 : decode cX7_badness 1 = .ok (.istore_n 1, 1) := by decide +kernel
theorem dX7_badness_2 : decode cX7_badness 2 = .ok (.iconst 0, 1) := by decide +kernel
theorem dX7_badness_3 : decode cX7_badness 3 = .ok (.istore_n 2, 1) := by decide +kernel
theorem dX7_badness_4 : decode cX7_badness 4 = .ok (.iload_n 2, 1) := by decide +kernel
theorem dX7_badness_5 : decode cX7_badness 5 = .ok (.aload_n 0, 1) := by decide +kernel
theorem dX7_badness_6 : decode cX7_badness 6 = .ok (.getfield 7, 3) := by decide +kernel
theorem dX7_badness_9 : decode cX7_badness 9 = .ok (.iconst 3, 1) := by decide +kernel
theorem dX7_badness_10 : decode cX7_badness 10 = .ok (.iaload, 1) := by decide +kernel
theorem dX7_badness_11 : decode cX7_badness 11 = .ok (.if_icmp .ge 17, 3) := by decide +kernel
theorem dX7_badness_14 : decode cX7_badness 14 = .ok (.iload_n 1, 1) := by decide +kernel
theorem dX7_badness_15 : decode cX7_badness 15 = .ok (.aload_n 0, 1) := by decide +kernel
theorem dX7_badness_16 : decode cX7_badness 16 = .ok (.iload_n 2, 1) := by decide +kernel
theorem dX7_badness_17 : decode cX7_badness 17 = .ok (.invokevirtual 103, 3) := by decide +kernel
theorem dX7_badness_20 : decode cX7_badness 20 = .ok (.iadd, 1) := by decide +kernel
theorem dX7_badness_21 : decode cX7_badness 21 = .ok (.istore_n 1, 1) := by decide +kernel
theorem dX7_badness_22 : decode cX7_badness 22 = .ok (.iinc 2 1, 3) := by decide +kernel
theorem dX7_badness_25 : decode cX7_badness 25 = .ok (.goto (-21), 3) := by decide +kernel
theorem dX7_badness_28 : decode cX7_badness 28 = .ok (.iload_n 1, 1) := by decide +kernel
theorem dX7_badness_29 : decode cX7_badness 29 = .ok (.ireturn, 1) := by decide +kernel
set_option maxRecDepth 20000 in
theorem ggX7_gapsWith_X7_laysAll : GoodIn wsX7_gapsWith wsX7_laysAll := goodIn_r _ [7, 1, 8, 9, 10, 6, 11, 12, 13, 14, 15, 16, 17, 18, 19, 20, 21, 22, 2, 23, 24, 25, 26, 27, 28, 29, 30, 39, 40, 41, 42, 43, 44, 45, 46, 47, 48, 49, 50, 51, 52, 53, 54, 55, 56, 57] (by decide +kernel) (by decide +kernel)
set_option maxRecDepth 20000 in
theorem gX7_gapsWith_X7_laysAll : GoodIn wsX7_gapsWith (wsV RX7 106 RX7 yX7_laysAll wsX7_laysAll) := goodIn_app (goodIn_of _ (by decide +kernel)) ggX7_gapsWith_X7_laysAll
set_option maxRecDepth 20000 in
theorem ggX7_gapsWith_X7_first : GoodIn wsX7_gapsWith wsX7_first := goodIn_r _ [11, 1, 39, 40, 41, 42, 43, 44, 45, 46, 47, 48, 49, 50, 51, 52, 53, 54, 55, 56, 57] (by decide +kernel) (by decide +kernel)
set_option maxRecDepth 20000 in
theorem gX7_gapsWith_X7_first : GoodIn wsX7_gapsWith (wsV RX7 73 RX7 yX7_first wsX7_first) := goodIn_app (goodIn_of _ (by decide +kernel)) ggX7_gapsWith_X7_first
set_option maxRecDepth 20000 in
theorem ggX7_gapsWith_X7_behind : GoodIn wsX7_gapsWith wsX7_behind := goodIn_r _ [15, 1, 39, 40, 41, 42, 43, 44, 45, 46, 47, 48, 49, 50, 51, 52, 53, 54, 55, 56, 57] (by decide +kernel) (by decide +kernel)
set_option maxRecDepth 20000 in
theorem gX7_gapsWith_X7_behind : GoodIn wsX7_gapsWith (wsV RX7 76 RX7 yX7_behind wsX7_behind) := goodIn_app (goodIn_of _ (by decide +kernel)) ggX7_gapsWith_X7_behind
set_option maxRecDepth 20000 in
theorem ggX7_gapsWith_X7_above : GoodIn wsX7_gapsWith wsX7_above := goodIn_r _ [34, 35, 36, 37, 6, 38, 8, 9, 10, 11, 1, 12, 13, 14, 15, 27, 28, 29, 30, 21, 22, 39, 40, 41, 42, 43, 44, 45, 46, 47, 48, 49, 50, 51, 52, 53, 54, 55, 56, 57] (by decide +kernel) (by decide +kernel)
set_option maxRecDepth 20000 in
theorem gX7_gapsWith_X7_above : GoodIn wsX7_gapsWith (wsV RX7 109 RX7 yX7_above wsX7_above) := goodIn_app (goodIn_of _ (by decide +kernel)) ggX7_gapsWith_X7_above
theorem dX7_gapsWith_0 : decode cX7_gapsWith 0 = .ok (.aload_n 0, 1) := by decide +kernel
theorem dX7_gapsWith_1 : decode cX7_gapsWith 1 = .ok (.invokevirtual 106, 3) := by decide +kernel
theorem dX7_gapsWith_4 : decode cX7_gapsWith 4 = .ok (.pop, 1) := by decide +kernel
theorem dX7_gapsWith_5 : decode cX7_gapsWith 5 = .ok (.iconst 0, 1) := by decide +kernel
theorem dX7_gapsWith_6 : decode cX7_gapsWith 6 = .ok (.istore_n 2, 1) := by decide +kernel
theorem dX7_gapsWith_7 : decode cX7_gapsWith 7 = .ok (.iconst 0, 1) := by decide +kernel
theorem dX7_gapsWith_8 : decode cX7_gapsWith 8 = .ok (.istore_n 3, 1) := by decide +kernel
theorem dX7_gapsWith_9 : decode cX7_gapsWith 9 = .ok (.iload_n 3, 1) := by decide +kernel
theorem dX7_gapsWith_10 : decode cX7_gapsWith 10 = .ok (.aload_n 0, 1) := by decide +kernel
theorem dX7_gapsWith_11 : decode cX7_gapsWith 11 = .ok (.getfield 7, 3) := by decide +kernel
theorem dX7_gapsWith_14 : decode cX7_gapsWith 14 = .ok (.iconst 3, 1) := by decide +kernel
theorem dX7_gapsWith_15 : decode cX7_gapsWith 15 = .ok (.iaload, 1) := by decide +kernel
theorem dX7_gapsWith_16 : decode cX7_gapsWith 16 = .ok (.if_icmp .ge 76, 3) := by decide +kernel
theorem dX7_gapsWith_19 : decode cX7_gapsWith 19 = .ok (.aload_n 0, 1) := by decide +kernel
theorem dX7_gapsWith_20 : decode cX7_gapsWith 20 = .ok (.iload_n 3, 1) := by decide +kernel
theorem dX7_gapsWith_21 : decode cX7_gapsWith 21 = .ok (.invokevirtual 73, 3) := by decide +kernel
theorem dX7_gapsWith_24 : decode cX7_gapsWith 24 = .ok (.istore 4, 2) := by decide +kernel
theorem dX7_gapsWith_26 : decode cX7_gapsWith 26 = .ok (.iload 4, 2) := by decide +kernel
theorem dX7_gapsWith_28 : decode cX7_gapsWith 28 = .ok (.iconst 1, 1) := by decide +kernel
theorem dX7_gapsWith_29 : decode cX7_gapsWith 29 = .ok (.iadd, 1) := by decide +kernel
theorem dX7_gapsWith_30 : decode cX7_gapsWith 30 = .ok (.aload_n 0, 1) := by decide +kernel
theorem dX7_gapsWith_31 : decode cX7_gapsWith 31 = .ok (.iload_n 3, 1) := by decide +kernel
theorem dX7_gapsWith_32 : decode cX7_gapsWith 32 = .ok (.invokevirtual 76, 3) := by decide +kernel
theorem dX7_gapsWith_35 : decode cX7_gapsWith 35 = .ok (.if_icmp .ge 51, 3) := by decide +kernel
theorem dX7_gapsWith_38 : decode cX7_gapsWith 38 = .ok (.iload_n 2, 1) := by decide +kernel
theorem dX7_gapsWith_39 : decode cX7_gapsWith 39 = .ok (.iload_n 1, 1) := by decide +kernel
theorem dX7_gapsWith_40 : decode cX7_gapsWith 40 = .ok (.ifCond .ne 22, 3) := by decide +kernel
theorem dX7_gapsWith_43 : decode cX7_gapsWith 43 = .ok (.aload_n 0, 1) := by decide +kernel
theorem dX7_gapsWith_44 : decode cX7_gapsWith 44 = .ok (.iload 4, 2) := by decide +kernel
theorem dX7_gapsWith_46 : decode cX7_gapsWith 46 = .ok (.iload_n 3, 1) := by decide +kernel
theorem dX7_gapsWith_47 : decode cX7_gapsWith 47 = .ok (.invokevirtual 109, 3) := by decide +kernel
theorem dX7_gapsWith_50 : decode cX7_gapsWith 50 = .ok (.iconst 1, 1) := by decide +kernel
theorem dX7_gapsWith_51 : decode cX7_gapsWith 51 = .ok (.if_icmp .le 7, 3) := by decide +kernel
theorem dX7_gapsWith_54 : decode cX7_gapsWith 54 = .ok (.iconst 1, 1) := by decide +kernel
theorem dX7_gapsWith_55 : decode cX7_gapsWith 55 = .ok (.goto 23, 3) := by decide +kernel
theorem dX7_gapsWith_58 : decode cX7_gapsWith 58 = .ok (.iconst 0, 1) := by decide +kernel
theorem dX7_gapsWith_59 : decode cX7_gapsWith 59 = .ok (.goto 19, 3) := by decide +kernel
theorem dX7_gapsWith_62 : decode cX7_gapsWith 62 = .ok (.aload_n 0, 1) := by decide +kernel
theorem dX7_gapsWith_63 : decode cX7_gapsWith 63 = .ok (.getfield 29, 3) := by decide +kernel
theorem dX7_gapsWith_66 : decode cX7_gapsWith 66 = .ok (.iload 4, 2) := by decide +kernel
theorem dX7_gapsWith_68 : decode cX7_gapsWith 68 = .ok (.iaload, 1) := by decide +kernel
theorem dX7_gapsWith_69 : decode cX7_gapsWith 69 = .ok (.iload_n 1, 1) := by decide +kernel
theorem dX7_gapsWith_70 : decode cX7_gapsWith 70 = .ok (.if_icmp .ne 7, 3) := by decide +kernel
theorem dX7_gapsWith_73 : decode cX7_gapsWith 73 = .ok (.iconst 1, 1) := by decide +kernel
theorem dX7_gapsWith_74 : decode cX7_gapsWith 74 = .ok (.goto 4, 3) := by decide +kernel
theorem dX7_gapsWith_77 : decode cX7_gapsWith 77 = .ok (.iconst 0, 1) := by decide +kernel
theorem dX7_gapsWith_78 : decode cX7_gapsWith 78 = .ok (.iadd, 1) := by decide +kernel
theorem dX7_gapsWith_79 : decode cX7_gapsWith 79 = .ok (.istore_n 2, 1) := by decide +kernel
theorem dX7_gapsWith_80 : decode cX7_gapsWith 80 = .ok (.iinc 4 1, 3) := by decide +kernel
theorem dX7_gapsWith_83 : decode cX7_gapsWith 83 = .ok (.goto (-57), 3) := by decide +kernel
theorem dX7_gapsWith_86 : decode cX7_gapsWith 86 = .ok (.iinc 3 1, 3) := by decide +kernel
theorem dX7_gapsWith_89 : decode cX7_gapsWith 89 = .ok (.goto (-80), 3) := by decide +kernel
theorem dX7_gapsWith_92 : decode cX7_gapsWith 92 = .ok (.iload_n 2, 1) := by decide +kernel
theorem dX7_gapsWith_93 : decode cX7_gapsWith 93 = .ok (.ireturn, 1) := by decide +kernel
set_option maxRecDepth 20000 in
theorem ggX7_count_X7_badness : GoodIn wsX7_count wsX7_badness := goodIn_r _ [8, 1, 9, 10, 11, 7, 12, 13, 14, 15, 16, 17, 18, 19, 20, 21, 22, 23, 24, 25, 26, 27, 28, 61, 62, 63, 64, 65, 66, 67, 68, 69, 70, 71, 72, 73, 74, 75, 76, 77, 78, 79] (by decide +kernel) (by decide +kernel)
set_option maxRecDepth 20000 in
theorem gX7_count_X7_badness : GoodIn wsX7_count (wsV RX7 112 RX7 yX7_badness wsX7_badness) := goodIn_app (goodIn_of _ (by decide +kernel)) ggX7_count_X7_badness
set_option maxRecDepth 20000 in
theorem ggX7_count_X7_laysAll : GoodIn wsX7_count wsX7_laysAll := goodIn_r _ [32, 1, 17, 18, 19, 7, 20, 21, 22, 23, 24, 33, 34, 35, 36, 37, 38, 39, 40, 25, 26, 27, 28, 41, 42, 43, 44, 61, 62, 63, 64, 65, 66, 67, 68, 69, 70, 71, 72, 73, 74, 75, 76, 77, 78, 79] (by decide +kernel) (by decide +kernel)
set_option maxRecDepth 20000 in
theorem gX7_count_X7_laysAll : GoodIn wsX7_count (wsV RX7 106 RX7 yX7_laysAll wsX7_laysAll) := goodIn_app (goodIn_of _ (by decide +kernel)) ggX7_count_X7_laysAll
set_option maxRecDepth 20000 in
theorem ggX7_count_X7_gapsWith : GoodIn wsX7_count wsX7_gapsWith := goodIn_r _ [48, 1, 40, 29, 30, 31, 7, 32, 17, 18, 19, 20, 21, 22, 23, 24, 33, 34, 35, 36, 37, 38, 39, 25, 26, 27, 28, 41, 42, 43, 44, 49, 50, 51, 52, 53, 54, 55, 56, 61, 62, 63, 64, 65, 66, 67, 68, 69, 70, 71, 72, 73, 74, 75, 76, 77, 78, 79] (by decide +kernel) (by decide +kernel)
set_option maxRecDepth 20000 in
theorem gX7_count_X7_gapsWith : GoodIn wsX7_count (wsV RX7 115 RX7 yX7_gapsWith wsX7_gapsWith) := goodIn_app (goodIn_of _ (by decide +kernel)) ggX7_count_X7_gapsWith
set_option maxRecDepth 20000 in
theorem ggX7_count_X7_frozen : GoodIn wsX7_count wsX7_frozen := goodIn_r _ [60, 1, 61, 62, 63, 64, 65, 66, 67, 68, 69, 70, 71, 72, 73, 74, 75, 76, 77, 78, 79] (by decide +kernel) (by decide +kernel)
set_option maxRecDepth 20000 in
theorem gX7_count_X7_frozen : GoodIn wsX7_count (wsV RX7 86 RX7 yX7_frozen wsX7_frozen) := goodIn_app (goodIn_of _ (by decide +kernel)) ggX7_count_X7_frozen
theorem dX7_count_0 : decode cX7_count 0 = .ok (.iload_n 1, 1) := by decide +kernel
theorem dX7_count_1 : decode cX7_count 1 = .ok (.tableswitch 156 0 11 #[63, 70, 77, 84, 91, 96, 101, 115, 121, 126, 131, 136], 63) := by decide +kernel
theorem dX7_count_64 : decode cX7_count 64 = .ok (.aload_n 0, 1) := by decide +kernel
theorem dX7_count_65 : decode cX7_count 65 = .ok (.getfield 7, 3) := by decide +kernel
theorem dX7_count_68 : decode cX7_count 68 = .ok (.iconst 0, 1) := by decide +kernel
theorem dX7_count_69 : decode cX7_count 69 = .ok (.iaload, 1) := by decide +kernel
theorem dX7_count_70 : decode cX7_count 70 = .ok (.ireturn, 1) := by decide +kernel
theorem dX7_count_71 : decode cX7_count 71 = .ok (.aload_n 0, 1) := by decide +kernel
theorem dX7_count_72 : decode cX7_count 72 = .ok (.getfield 7, 3) := by decide +kernel
theorem dX7_count_75 : decode cX7_count 75 = .ok (.iconst 3, 1) := by decide +kernel
theorem dX7_count_76 : decode cX7_count 76 = .ok (.iaload, 1) := by decide +kernel
theorem dX7_count_77 : decode cX7_count 77 = .ok (.ireturn, 1) := by decide +kernel
theorem dX7_count_78 : decode cX7_count 78 = .ok (.aload_n 0, 1) := by decide +kernel
theorem dX7_count_79 : decode cX7_count 79 = .ok (.getfield 7, 3) := by decide +kernel
theorem dX7_count_82 : decode cX7_count 82 = .ok (.iconst 1, 1) := by decide +kernel
theorem dX7_count_83 : decode cX7_count 83 = .ok (.iaload, 1) := by decide +kernel
theorem dX7_count_84 : decode cX7_count 84 = .ok (.ireturn, 1) := by decide +kernel
theorem dX7_count_85 : decode cX7_count 85 = .ok (.aload_n 0, 1) := by decide +kernel
theorem dX7_count_86 : decode cX7_count 86 = .ok (.getfield 7, 3) := by decide +kernel
theorem dX7_count_89 : decode cX7_count 89 = .ok (.iconst 2, 1) := by decide +kernel
theorem dX7_count_90 : decode cX7_count 90 = .ok (.iaload, 1) := by decide +kernel
theorem dX7_count_91 : decode cX7_count 91 = .ok (.ireturn, 1) := by decide +kernel
theorem dX7_count_92 : decode cX7_count 92 = .ok (.aload_n 0, 1) := by decide +kernel
theorem dX7_count_93 : decode cX7_count 93 = .ok (.invokevirtual 112, 3) := by decide +kernel
theorem dX7_count_96 : decode cX7_count 96 = .ok (.ireturn, 1) := by decide +kernel
theorem dX7_count_97 : decode cX7_count 97 = .ok (.aload_n 0, 1) := by decide +kernel
theorem dX7_count_98 : decode cX7_count 98 = .ok (.invokevirtual 106, 3) := by decide +kernel
theorem dX7_count_101 : decode cX7_count 101 = .ok (.ireturn, 1) := by decide +kernel
theorem dX7_count_102 : decode cX7_count 102 = .ok (.aload_n 0, 1) := by decide +kernel
theorem dX7_count_103 : decode cX7_count 103 = .ok (.getfield 7, 3) := by decide +kernel
theorem dX7_count_106 : decode cX7_count 106 = .ok (.iconst 0, 1) := by decide +kernel
theorem dX7_count_107 : decode cX7_count 107 = .ok (.iaload, 1) := by decide +kernel
theorem dX7_count_108 : decode cX7_count 108 = .ok (.aload_n 0, 1) := by decide +kernel
theorem dX7_count_109 : decode cX7_count 109 = .ok (.getfield 7, 3) := by decide +kernel
theorem dX7_count_112 : decode cX7_count 112 = .ok (.iconst 3, 1) := by decide +kernel
theorem dX7_count_113 : decode cX7_count 113 = .ok (.iaload, 1) := by decide +kernel
theorem dX7_count_114 : decode cX7_count 114 = .ok (.isub, 1) := by decide +kernel
theorem dX7_count_115 : decode cX7_count 115 = .ok (.ireturn, 1) := by decide +kernel
theorem dX7_count_116 : decode cX7_count 116 = .ok (.aload_n 0, 1) := by decide +kernel
theorem dX7_count_117 : decode cX7_count 117 = .ok (.iconst 0, 1) := by decide +kernel
theorem dX7_count_118 : decode cX7_count 118 = .ok (.invokevirtual 115, 3) := by decide +kernel
theorem dX7_count_121 : decode cX7_count 121 = .ok (.ireturn, 1) := by decide +kernel
theorem dX7_count_122 : decode cX7_count 122 = .ok (.aload_n 0, 1) := by decide +kernel
theorem dX7_count_123 : decode cX7_count 123 = .ok (.invokevirtual 86, 3) := by decide +kernel
theorem dX7_count_126 : decode cX7_count 126 = .ok (.ireturn, 1) := by decide +kernel
theorem dX7_count_127 : decode cX7_count 127 = .ok (.aload_n 0, 1) := by decide +kernel
theorem dX7_count_128 : decode cX7_count 128 = .ok (.getfield 54, 3) := by decide +kernel
theorem dX7_count_131 : decode cX7_count 131 = .ok (.ireturn, 1) := by decide +kernel
theorem dX7_count_132 : decode cX7_count 132 = .ok (.aload_n 0, 1) := by decide +kernel
theorem dX7_count_133 : decode cX7_count 133 = .ok (.getfield 118, 3) := by decide +kernel
theorem dX7_count_136 : decode cX7_count 136 = .ok (.ireturn, 1) := by decide +kernel
theorem dX7_count_137 : decode cX7_count 137 = .ok (.aload_n 0, 1) := by decide +kernel
theorem dX7_count_138 : decode cX7_count 138 = .ok (.invokevirtual 106, 3) := by decide +kernel
theorem dX7_count_141 : decode cX7_count 141 = .ok (.ifCond .ne 7, 3) := by decide +kernel
theorem dX7_count_144 : decode cX7_count 144 = .ok (.iconst 0, 1) := by decide +kernel
theorem dX7_count_145 : decode cX7_count 145 = .ok (.goto 11, 3) := by decide +kernel
theorem dX7_count_148 : decode cX7_count 148 = .ok (.aload_n 0, 1) := by decide +kernel
theorem dX7_count_149 : decode cX7_count 149 = .ok (.aload_n 0, 1) := by decide +kernel
theorem dX7_count_150 : decode cX7_count 150 = .ok (.invokevirtual 106, 3) := by decide +kernel
theorem dX7_count_153 : decode cX7_count 153 = .ok (.invokevirtual 115, 3) := by decide +kernel
theorem dX7_count_156 : decode cX7_count 156 = .ok (.ireturn, 1) := by decide +kernel
theorem dX7_count_157 : decode cX7_count 157 = .ok (.iconst (-1), 1) := by decide +kernel
theorem dX7_count_158 : decode cX7_count 158 = .ok (.ireturn, 1) := by decide +kernel
set_option maxRecDepth 20000 in
theorem ggX7_word_X7_in : GoodIn wsX7_word wsX7_in := goodIn_r _ [6] (by decide +kernel) (by decide +kernel)
set_option maxRecDepth 20000 in
theorem gX7_word_X7_in : GoodIn wsX7_word (va_wsS RX7 50 yX7_in wsX7_in) := goodIn_app (goodIn_of _ (by decide +kernel)) ggX7_word_X7_in
set_option maxRecDepth 20000 in
theorem ggX7_word_X7_laysAll : GoodIn wsX7_word wsX7_laysAll := goodIn_r _ [10, 1, 11, 12, 13, 5, 14, 15, 16, 17, 18, 19, 20, 21, 22, 2, 23, 24, 25, 26, 27, 28, 29, 30, 31, 32, 33, 38, 39, 40, 41, 42, 43, 44, 45, 46, 47, 48, 49, 50, 51, 52, 53, 54, 55, 56] (by decide +kernel) (by decide +kernel)
set_option maxRecDepth 20000 in
theorem gX7_word_X7_laysAll : GoodIn wsX7_word (wsV RX7 106 RX7 yX7_laysAll wsX7_laysAll) := goodIn_app (goodIn_of _ (by decide +kernel)) ggX7_word_X7_laysAll
set_option maxRecDepth 20000 in
theorem ggX7_word_X7_lineOf : GoodIn wsX7_word wsX7_lineOf := goodIn_r _ [37, 15, 16, 17, 5, 18, 1, 38, 39, 40, 41, 42, 43, 44, 45, 46, 47, 48, 49, 50, 51, 52, 53, 54, 55, 56] (by decide +kernel) (by decide +kernel)
set_option maxRecDepth 20000 in
theorem gX7_word_X7_lineOf : GoodIn wsX7_word (wsV RX7 121 RX7 yX7_lineOf wsX7_lineOf) := goodIn_app (goodIn_of _ (by decide +kernel)) ggX7_word_X7_lineOf
theorem dX7_word_0 : decode cX7_word 0 = .ok (.iload_n 1, 1) := by decide +kernel
theorem dX7_word_1 : decode cX7_word 1 = .ok (.iconst 0, 1) := by decide +kernel
theorem dX7_word_2 : decode cX7_word 2 = .ok (.aload_n 0, 1) := by decide +kernel
theorem dX7_word_3 : decode cX7_word 3 = .ok (.getfield 7, 3) := by decide +kernel
theorem dX7_word_6 : decode cX7_word 6 = .ok (.iconst 0, 1) := by decide +kernel
theorem dX7_word_7 : decode cX7_word 7 = .ok (.iaload, 1) := by decide +kernel
theorem dX7_word_8 : decode cX7_word 8 = .ok (.iconst 1, 1) := by decide +kernel
theorem dX7_word_9 : decode cX7_word 9 = .ok (.isub, 1) := by decide +kernel
theorem dX7_word_10 : decode cX7_word 10 = .ok (.invokestatic 50, 3) := by decide +kernel
theorem dX7_word_13 : decode cX7_word 13 = .ok (.ifCond .eq 12, 3) := by decide +kernel
theorem dX7_word_16 : decode cX7_word 16 = .ok (.iload_n 2, 1) := by decide +kernel
theorem dX7_word_17 : decode cX7_word 17 = .ok (.iconst 0, 1) := by decide +kernel
theorem dX7_word_18 : decode cX7_word 18 = .ok (.iconst 2, 1) := by decide +kernel
theorem dX7_word_19 : decode cX7_word 19 = .ok (.invokestatic 50, 3) := by decide +kernel
theorem dX7_word_22 : decode cX7_word 22 = .ok (.ifCond .ne 5, 3) := by decide +kernel
theorem dX7_word_25 : decode cX7_word 25 = .ok (.iconst (-1), 1) := by decide +kernel
theorem dX7_word_26 : decode cX7_word 26 = .ok (.ireturn, 1) := by decide +kernel
theorem dX7_word_27 : decode cX7_word 27 = .ok (.iload_n 2, 1) := by decide +kernel
theorem dX7_word_28 : decode cX7_word 28 = .ok (.iconst 2, 1) := by decide +kernel
theorem dX7_word_29 : decode cX7_word 29 = .ok (.if_icmp .ne 8, 3) := by decide +kernel
theorem dX7_word_32 : decode cX7_word 32 = .ok (.aload_n 0, 1) := by decide +kernel
theorem dX7_word_33 : decode cX7_word 33 = .ok (.invokevirtual 106, 3) := by decide +kernel
theorem dX7_word_36 : decode cX7_word 36 = .ok (.pop, 1) := by decide +kernel
theorem dX7_word_37 : decode cX7_word 37 = .ok (.iload_n 2, 1) := by decide +kernel
theorem dX7_word_38 : decode cX7_word 38 = .ok (.ifCond .ne 14, 3) := by decide +kernel
theorem dX7_word_41 : decode cX7_word 41 = .ok (.aload_n 0, 1) := by decide +kernel
theorem dX7_word_42 : decode cX7_word 42 = .ok (.getfield 7, 3) := by decide +kernel
theorem dX7_word_45 : decode cX7_word 45 = .ok (.iconst 4, 1) := by decide +kernel
theorem dX7_word_46 : decode cX7_word 46 = .ok (.iload_n 1, 1) := by decide +kernel
theorem dX7_word_47 : decode cX7_word 47 = .ok (.iadd, 1) := by decide +kernel
theorem dX7_word_48 : decode cX7_word 48 = .ok (.iaload, 1) := by decide +kernel
theorem dX7_word_49 : decode cX7_word 49 = .ok (.goto 22, 3) := by decide +kernel
theorem dX7_word_52 : decode cX7_word 52 = .ok (.iload_n 2, 1) := by decide +kernel
theorem dX7_word_53 : decode cX7_word 53 = .ok (.iconst 1, 1) := by decide +kernel
theorem dX7_word_54 : decode cX7_word 54 = .ok (.if_icmp .ne 11, 3) := by decide +kernel
theorem dX7_word_57 : decode cX7_word 57 = .ok (.aload_n 0, 1) := by decide +kernel
theorem dX7_word_58 : decode cX7_word 58 = .ok (.iload_n 1, 1) := by decide +kernel
theorem dX7_word_59 : decode cX7_word 59 = .ok (.invokevirtual 121, 3) := by decide +kernel
theorem dX7_word_62 : decode cX7_word 62 = .ok (.goto 9, 3) := by decide +kernel
theorem dX7_word_65 : decode cX7_word 65 = .ok (.aload_n 0, 1) := by decide +kernel
theorem dX7_word_66 : decode cX7_word 66 = .ok (.getfield 20, 3) := by decide +kernel
theorem dX7_word_69 : decode cX7_word 69 = .ok (.iload_n 1, 1) := by decide +kernel
theorem dX7_word_70 : decode cX7_word 70 = .ok (.iaload, 1) := by decide +kernel
theorem dX7_word_71 : decode cX7_word 71 = .ok (.ireturn, 1) := by decide +kernel
set_option maxRecDepth 20000 in
theorem ggX7_line_X7_isLine : GoodIn wsX7_line wsX7_isLine := goodIn_r _ [7, 1, 8, 9, 6, 10, 46, 47, 48, 49, 50, 51, 52, 53, 54, 55, 56, 57, 58, 59, 60, 61, 62, 63, 64] (by decide +kernel) (by decide +kernel)
set_option maxRecDepth 20000 in
theorem gX7_line_X7_isLine : GoodIn wsX7_line (wsV RX7 96 RX7 yX7_isLine wsX7_isLine) := goodIn_app (goodIn_of _ (by decide +kernel)) ggX7_line_X7_isLine
set_option maxRecDepth 20000 in
theorem ggX7_line_X7_in : GoodIn wsX7_line wsX7_in := goodIn_r _ [10] (by decide +kernel) (by decide +kernel)
set_option maxRecDepth 20000 in
theorem gX7_line_X7_in : GoodIn wsX7_line (va_wsS RX7 50 yX7_in wsX7_in) := goodIn_app (goodIn_of _ (by decide +kernel)) ggX7_line_X7_in
set_option maxRecDepth 20000 in
theorem ggX7_line_X7_first : GoodIn wsX7_line wsX7_first := goodIn_r _ [14, 1, 46, 47, 48, 49, 50, 51, 52, 53, 54, 55, 56, 57, 58, 59, 60, 61, 62, 63, 64] (by decide +kernel) (by decide +kernel)
set_option maxRecDepth 20000 in
theorem gX7_line_X7_first : GoodIn wsX7_line (wsV RX7 73 RX7 yX7_first wsX7_first) := goodIn_app (goodIn_of _ (by decide +kernel)) ggX7_line_X7_first
set_option maxRecDepth 20000 in
theorem ggX7_line_X7_behind : GoodIn wsX7_line wsX7_behind := goodIn_r _ [18, 1, 46, 47, 48, 49, 50, 51, 52, 53, 54, 55, 56, 57, 58, 59, 60, 61, 62, 63, 64] (by decide +kernel) (by decide +kernel)
set_option maxRecDepth 20000 in
theorem gX7_line_X7_behind : GoodIn wsX7_line (wsV RX7 76 RX7 yX7_behind wsX7_behind) := goodIn_app (goodIn_of _ (by decide +kernel)) ggX7_line_X7_behind
set_option maxRecDepth 20000 in
theorem ggX7_line_X7_extraOf : GoodIn wsX7_line wsX7_extraOf := goodIn_r _ [22, 1, 11, 12, 13, 6, 14, 15, 16, 17, 18, 23, 24, 25, 26, 46, 47, 48, 49, 50, 51, 52, 53, 54, 55, 56, 57, 58, 59, 60, 61, 62, 63, 64] (by decide +kernel) (by decide +kernel)
set_option maxRecDepth 20000 in
theorem gX7_line_X7_extraOf : GoodIn wsX7_line (wsV RX7 100 RX7 yX7_extraOf wsX7_extraOf) := goodIn_app (goodIn_of _ (by decide +kernel)) ggX7_line_X7_extraOf
set_option maxRecDepth 20000 in
theorem ggX7_line_X7_badOf : GoodIn wsX7_line wsX7_badOf := goodIn_r _ [30, 1, 19, 20, 21, 6, 22, 11, 12, 13, 14, 15, 16, 17, 18, 23, 24, 25, 26, 46, 47, 48, 49, 50, 51, 52, 53, 54, 55, 56, 57, 58, 59, 60, 61, 62, 63, 64] (by decide +kernel) (by decide +kernel)
set_option maxRecDepth 20000 in
theorem gX7_line_X7_badOf : GoodIn wsX7_line (wsV RX7 103 RX7 yX7_badOf wsX7_badOf) := goodIn_app (goodIn_of _ (by decide +kernel)) ggX7_line_X7_badOf
set_option maxRecDepth 20000 in
theorem ggX7_line_X7_laysAll : GoodIn wsX7_line wsX7_laysAll := goodIn_r _ [34, 1, 11, 12, 13, 6, 14, 15, 16, 17, 18, 35, 36, 37, 38, 39, 40, 41, 2, 23, 24, 25, 26, 42, 43, 44, 45, 46, 47, 48, 49, 50, 51, 52, 53, 54, 55, 56, 57, 58, 59, 60, 61, 62, 63, 64] (by decide +kernel) (by decide +kernel)
set_option maxRecDepth 20000 in
theorem gX7_line_X7_laysAll : GoodIn wsX7_line (wsV RX7 106 RX7 yX7_laysAll wsX7_laysAll) := goodIn_app (goodIn_of _ (by decide +kernel)) ggX7_line_X7_laysAll
theorem dX7_line_0 : decode cX7_line 0 = .ok (.aload_n 0, 1) := by decide +kernel
theorem dX7_line_1 : decode cX7_line 1 = .ok (.iload_n 1, 1) := by decide +kernel
theorem dX7_line_2 : decode cX7_line 2 = .ok (.invokevirtual 96, 3) := by decide +kernel
theorem dX7_line_5 : decode cX7_line 5 = .ok (.ifCond .eq 13, 3) := by decide +kernel
theorem dX7_line_8 : decode cX7_line 8 = .ok (.iload_n 2, 1) := by decide +kernel
theorem dX7_line_9 : decode cX7_line 9 = .ok (.iconst 0, 1) := by decide +kernel
theorem dX7_line_10 : decode cX7_line 10 = .ok (.bipush 6, 2) := by decide +kernel
theorem dX7_line_12 : decode cX7_line 12 = .ok (.invokestatic 50, 3) := by decide +kernel
theorem dX7_line_15 : decode cX7_line 15 = .ok (.ifCond .ne 5, 3) := by decide +kernel
theorem dX7_line_18 : decode cX7_line 18 = .ok (.iconst (-1), 1) := by decide +kernel
theorem dX7_line_19 : decode cX7_line 19 = .ok (.ireturn, 1) := by decide +kernel
theorem dX7_line_20 : decode cX7_line 20 = .ok (.iload_n 2, 1) := by decide +kernel
theorem dX7_line_21 : decode cX7_line 21 = .ok (.tableswitch 93 0 5 #[39, 45, 57, 63, 69, 83], 39) := by decide +kernel
theorem dX7_line_60 : decode cX7_line 60 = .ok (.aload_n 0, 1) := by decide +kernel
theorem dX7_line_61 : decode cX7_line 61 = .ok (.iload_n 1, 1) := by decide +kernel
theorem dX7_line_62 : decode cX7_line 62 = .ok (.invokevirtual 73, 3) := by decide +kernel
theorem dX7_line_65 : decode cX7_line 65 = .ok (.ireturn, 1) := by decide +kernel
theorem dX7_line_66 : decode cX7_line 66 = .ok (.aload_n 0, 1) := by decide +kernel
theorem dX7_line_67 : decode cX7_line 67 = .ok (.iload_n 1, 1) := by decide +kernel
theorem dX7_line_68 : decode cX7_line 68 = .ok (.invokevirtual 76, 3) := by decide +kernel
theorem dX7_line_71 : decode cX7_line 71 = .ok (.aload_n 0, 1) := by decide +kernel
theorem dX7_line_72 : decode cX7_line 72 = .ok (.iload_n 1, 1) := by decide +kernel
theorem dX7_line_73 : decode cX7_line 73 = .ok (.invokevirtual 73, 3) := by decide +kernel
theorem dX7_line_76 : decode cX7_line 76 = .ok (.isub, 1) := by decide +kernel
theorem dX7_line_77 : decode cX7_line 77 = .ok (.ireturn, 1) := by decide +kernel
theorem dX7_line_78 : decode cX7_line 78 = .ok (.aload_n 0, 1) := by decide +kernel
theorem dX7_line_79 : decode cX7_line 79 = .ok (.iload_n 1, 1) := by decide +kernel
theorem dX7_line_80 : decode cX7_line 80 = .ok (.invokevirtual 100, 3) := by decide +kernel
theorem dX7_line_83 : decode cX7_line 83 = .ok (.ireturn, 1) := by decide +kernel
theorem dX7_line_84 : decode cX7_line 84 = .ok (.aload_n 0, 1) := by decide +kernel
theorem dX7_line_85 : decode cX7_line 85 = .ok (.iload_n 1, 1) := by decide +kernel
theorem dX7_line_86 : decode cX7_line 86 = .ok (.invokevirtual 103, 3) := by decide +kernel
theorem dX7_line_89 : decode cX7_line 89 = .ok (.ireturn, 1) := by decide +kernel
theorem dX7_line_90 : decode cX7_line 90 = .ok (.aload_n 0, 1) := by decide +kernel
theorem dX7_line_91 : decode cX7_line 91 = .ok (.iload_n 1, 1) := by decide +kernel
theorem dX7_line_92 : decode cX7_line 92 = .ok (.invokevirtual 76, 3) := by decide +kernel
theorem dX7_line_95 : decode cX7_line 95 = .ok (.aload_n 0, 1) := by decide +kernel
theorem dX7_line_96 : decode cX7_line 96 = .ok (.iload_n 1, 1) := by decide +kernel
theorem dX7_line_97 : decode cX7_line 97 = .ok (.invokevirtual 73, 3) := by decide +kernel
theorem dX7_line_100 : decode cX7_line 100 = .ok (.isub, 1) := by decide +kernel
theorem dX7_line_101 : decode cX7_line 101 = .ok (.iconst 1, 1) := by decide +kernel
theorem dX7_line_102 : decode cX7_line 102 = .ok (.isub, 1) := by decide +kernel
theorem dX7_line_103 : decode cX7_line 103 = .ok (.ireturn, 1) := by decide +kernel
theorem dX7_line_104 : decode cX7_line 104 = .ok (.aload_n 0, 1) := by decide +kernel
theorem dX7_line_105 : decode cX7_line 105 = .ok (.getfield 7, 3) := by decide +kernel
theorem dX7_line_108 : decode cX7_line 108 = .ok (.bipush 53, 2) := by decide +kernel
theorem dX7_line_110 : decode cX7_line 110 = .ok (.iload_n 1, 1) := by decide +kernel
theorem dX7_line_111 : decode cX7_line 111 = .ok (.iadd, 1) := by decide +kernel
theorem dX7_line_112 : decode cX7_line 112 = .ok (.iaload, 1) := by decide +kernel
theorem dX7_line_113 : decode cX7_line 113 = .ok (.ireturn, 1) := by decide +kernel
theorem dX7_line_114 : decode cX7_line 114 = .ok (.aload_n 0, 1) := by decide +kernel
theorem dX7_line_115 : decode cX7_line 115 = .ok (.invokevirtual 106, 3) := by decide +kernel
theorem dX7_line_118 : decode cX7_line 118 = .ok (.pop, 1) := by decide +kernel
theorem dX7_line_119 : decode cX7_line 119 = .ok (.iconst 0, 1) := by decide +kernel
theorem dX7_line_120 : decode cX7_line 120 = .ok (.istore_n 3, 1) := by decide +kernel
theorem dX7_line_121 : decode cX7_line 121 = .ok (.aload_n 0, 1) := by decide +kernel
theorem dX7_line_122 : decode cX7_line 122 = .ok (.iload_n 1, 1) := by decide +kernel
theorem dX7_line_123 : decode cX7_line 123 = .ok (.invokevirtual 73, 3) := by decide +kernel
theorem dX7_line_126 : decode cX7_line 126 = .ok (.istore 4, 2) := by decide +kernel
theorem dX7_line_128 : decode cX7_line 128 = .ok (.iload 4, 2) := by decide +kernel
theorem dX7_line_130 : decode cX7_line 130 = .ok (.iconst 1, 1) := by decide +kernel
theorem dX7_line_131 : decode cX7_line 131 = .ok (.iadd, 1) := by decide +kernel
theorem dX7_line_132 : decode cX7_line 132 = .ok (.aload_n 0, 1) := by decide +kernel
theorem dX7_line_133 : decode cX7_line 133 = .ok (.iload_n 1, 1) := by decide +kernel
theorem dX7_line_134 : decode cX7_line 134 = .ok (.invokevirtual 76, 3) := by decide +kernel
theorem dX7_line_137 : decode cX7_line 137 = .ok (.if_icmp .ge 32, 3) := by decide +kernel
theorem dX7_line_140 : decode cX7_line 140 = .ok (.aload_n 0, 1) := by decide +kernel
theorem dX7_line_141 : decode cX7_line 141 = .ok (.getfield 29, 3) := by decide +kernel
theorem dX7_line_144 : decode cX7_line 144 = .ok (.iload 4, 2) := by decide +kernel
theorem dX7_line_146 : decode cX7_line 146 = .ok (.iaload, 1) := by decide +kernel
theorem dX7_line_147 : decode cX7_line 147 = .ok (.iload_n 3, 1) := by decide +kernel
theorem dX7_line_148 : decode cX7_line 148 = .ok (.if_icmp .le 13, 3) := by decide +kernel
theorem dX7_line_151 : decode cX7_line 151 = .ok (.aload_n 0, 1) := by decide +kernel
theorem dX7_line_152 : decode cX7_line 152 = .ok (.getfield 29, 3) := by decide +kernel
theorem dX7_line_155 : decode cX7_line 155 = .ok (.iload 4, 2) := by decide +kernel
theorem dX7_line_157 : decode cX7_line 157 = .ok (.iaload, 1) := by decide +kernel
theorem dX7_line_158 : decode cX7_line 158 = .ok (.goto 4, 3) := by decide +kernel
theorem dX7_line_161 : decode cX7_line 161 = .ok (.iload_n 3, 1) := by decide +kernel
theorem dX7_line_162 : decode cX7_line 162 = .ok (.istore_n 3, 1) := by decide +kernel
theorem dX7_line_163 : decode cX7_line 163 = .ok (.iinc 4 1, 3) := by decide +kernel
theorem dX7_line_166 : decode cX7_line 166 = .ok (.goto (-38), 3) := by decide +kernel
theorem dX7_line_169 : decode cX7_line 169 = .ok (.iload_n 3, 1) := by decide +kernel
theorem dX7_line_170 : decode cX7_line 170 = .ok (.ireturn, 1) := by decide +kernel
theorem dX7_undo_0 : decode cX7_undo 0 = .ok (.aload_n 0, 1) := by decide +kernel
theorem dX7_undo_1 : decode cX7_undo 1 = .ok (.getfield 54, 3) := by decide +kernel
theorem dX7_undo_4 : decode cX7_undo 4 = .ok (.ifCond .ne 6, 3) := by decide +kernel
theorem dX7_undo_7 : decode cX7_undo 7 = .ok (.bipush (-2), 2) := by decide +kernel
theorem dX7_undo_9 : decode cX7_undo 9 = .ok (.ireturn, 1) := by decide +kernel
theorem dX7_undo_10 : decode cX7_undo 10 = .ok (.aload_n 0, 1) := by decide +kernel
theorem dX7_undo_11 : decode cX7_undo 11 = .ok (.dup, 1) := by decide +kernel
theorem dX7_undo_12 : decode cX7_undo 12 = .ok (.getfield 54, 3) := by decide +kernel
theorem dX7_undo_15 : decode cX7_undo 15 = .ok (.iconst 1, 1) := by decide +kernel
theorem dX7_undo_16 : decode cX7_undo 16 = .ok (.isub, 1) := by decide +kernel
theorem dX7_undo_17 : decode cX7_undo 17 = .ok (.putfield 54, 3) := by decide +kernel
theorem dX7_undo_20 : decode cX7_undo 20 = .ok (.iconst 0, 1) := by decide +kernel
theorem dX7_undo_21 : decode cX7_undo 21 = .ok (.istore_n 1, 1) := by decide +kernel
theorem dX7_undo_22 : decode cX7_undo 22 = .ok (.iload_n 1, 1) := by decide +kernel
theorem dX7_undo_23 : decode cX7_undo 23 = .ok (.bipush 77, 2) := by decide +kernel
theorem dX7_undo_25 : decode cX7_undo 25 = .ok (.if_icmp .ge 29, 3) := by decide +kernel
theorem dX7_undo_28 : decode cX7_undo 28 = .ok (.aload_n 0, 1) := by decide +kernel
theorem dX7_undo_29 : decode cX7_undo 29 = .ok (.getfield 7, 3) := by decide +kernel
theorem dX7_undo_32 : decode cX7_undo 32 = .ok (.iload_n 1, 1) := by decide +kernel
theorem dX7_undo_33 : decode cX7_undo 33 = .ok (.aload_n 0, 1) := by decide +kernel
theorem dX7_undo_34 : decode cX7_undo 34 = .ok (.getfield 13, 3) := by decide +kernel
theorem dX7_undo_37 : decode cX7_undo 37 = .ok (.bipush 77, 2) := by decide +kernel
theorem dX7_undo_39 : decode cX7_undo 39 = .ok (.aload_n 0, 1) := by decide +kernel
theorem dX7_undo_40 : decode cX7_undo 40 = .ok (.getfield 54, 3) := by decide +kernel
theorem dX7_undo_43 : decode cX7_undo 43 = .ok (.imul, 1) := by decide +kernel
theorem dX7_undo_44 : decode cX7_undo 44 = .ok (.iload_n 1, 1) := by decide +kernel
theorem dX7_undo_45 : decode cX7_undo 45 = .ok (.iadd, 1) := by decide +kernel
theorem dX7_undo_46 : decode cX7_undo 46 = .ok (.iaload, 1) := by decide +kernel
theorem dX7_undo_47 : decode cX7_undo 47 = .ok (.iastore, 1) := by decide +kernel
theorem dX7_undo_48 : decode cX7_undo 48 = .ok (.iinc 1 1, 3) := by decide +kernel
theorem dX7_undo_51 : decode cX7_undo 51 = .ok (.goto (-29), 3) := by decide +kernel
theorem dX7_undo_54 : decode cX7_undo 54 = .ok (.aload_n 0, 1) := by decide +kernel
theorem dX7_undo_55 : decode cX7_undo 55 = .ok (.getfield 54, 3) := by decide +kernel
theorem dX7_undo_58 : decode cX7_undo 58 = .ok (.ireturn, 1) := by decide +kernel
set_option maxRecDepth 20000 in
theorem ggX7_gap_X7_isLine : GoodIn wsX7_gap wsX7_isLine := goodIn_r _ [8, 9, 10, 11, 7, 12, 50, 51, 52, 53, 54, 55, 56, 57, 58, 59, 60, 61, 62, 63, 64, 65, 66, 67, 68] (by decide +kernel) (by decide +kernel)
set_option maxRecDepth 20000 in
theorem gX7_gap_X7_isLine : GoodIn wsX7_gap (wsV RX7 96 RX7 yX7_isLine wsX7_isLine) := goodIn_app (goodIn_of _ (by decide +kernel)) ggX7_gap_X7_isLine
set_option maxRecDepth 20000 in
theorem ggX7_gap_X7_behind : GoodIn wsX7_gap wsX7_behind := goodIn_r _ [16, 9, 50, 51, 52, 53, 54, 55, 56, 57, 58, 59, 60, 61, 62, 63, 64, 65, 66, 67, 68] (by decide +kernel) (by decide +kernel)
set_option maxRecDepth 20000 in
theorem gX7_gap_X7_behind : GoodIn wsX7_gap (wsV RX7 76 RX7 yX7_behind wsX7_behind) := goodIn_app (goodIn_of _ (by decide +kernel)) ggX7_gap_X7_behind
set_option maxRecDepth 20000 in
theorem ggX7_gap_X7_first : GoodIn wsX7_gap wsX7_first := goodIn_r _ [20, 9, 50, 51, 52, 53, 54, 55, 56, 57, 58, 59, 60, 61, 62, 63, 64, 65, 66, 67, 68] (by decide +kernel) (by decide +kernel)
set_option maxRecDepth 20000 in
theorem gX7_gap_X7_first : GoodIn wsX7_gap (wsV RX7 73 RX7 yX7_first wsX7_first) := goodIn_app (goodIn_of _ (by decide +kernel)) ggX7_gap_X7_first
set_option maxRecDepth 20000 in
theorem ggX7_gap_X7_in : GoodIn wsX7_gap wsX7_in := goodIn_r _ [12] (by decide +kernel) (by decide +kernel)
set_option maxRecDepth 20000 in
theorem gX7_gap_X7_in : GoodIn wsX7_gap (va_wsS RX7 50 yX7_in wsX7_in) := goodIn_app (goodIn_of _ (by decide +kernel)) ggX7_gap_X7_in
set_option maxRecDepth 20000 in
theorem ggX7_gap_X7_laysAll : GoodIn wsX7_gap wsX7_laysAll := goodIn_r _ [24, 9, 17, 18, 19, 7, 20, 13, 14, 15, 16, 25, 26, 27, 28, 29, 1, 2, 3, 30, 31, 32, 33, 34, 35, 36, 37, 50, 51, 52, 53, 54, 55, 56, 57, 58, 59, 60, 61, 62, 63, 64, 65, 66, 67, 68] (by decide +kernel) (by decide +kernel)
set_option maxRecDepth 20000 in
theorem gX7_gap_X7_laysAll : GoodIn wsX7_gap (wsV RX7 106 RX7 yX7_laysAll wsX7_laysAll) := goodIn_app (goodIn_of _ (by decide +kernel)) ggX7_gap_X7_laysAll
set_option maxRecDepth 20000 in
theorem ggX7_gap_X7_above : GoodIn wsX7_gap wsX7_above := goodIn_r _ [41, 42, 43, 44, 7, 45, 17, 18, 19, 20, 9, 13, 14, 15, 16, 34, 35, 36, 37, 1, 2, 50, 51, 52, 53, 54, 55, 56, 57, 58, 59, 60, 61, 62, 63, 64, 65, 66, 67, 68] (by decide +kernel) (by decide +kernel)
set_option maxRecDepth 20000 in
theorem gX7_gap_X7_above : GoodIn wsX7_gap (wsV RX7 109 RX7 yX7_above wsX7_above) := goodIn_app (goodIn_of _ (by decide +kernel)) ggX7_gap_X7_above
set_option maxRecDepth 20000 in
theorem ggX7_gap_X7_below : GoodIn wsX7_gap wsX7_below := goodIn_r _ [49, 9, 42, 43, 44, 7, 45, 17, 18, 19, 20, 13, 14, 15, 16, 34, 35, 36, 37, 1, 2, 50, 51, 52, 53, 54, 55, 56, 57, 58, 59, 60, 61, 62, 63, 64, 65, 66, 67, 68] (by decide +kernel) (by decide +kernel)
set_option maxRecDepth 20000 in
theorem gX7_gap_X7_below : GoodIn wsX7_gap (wsV RX7 124 RX7 yX7_below wsX7_below) := goodIn_app (goodIn_of _ (by decide +kernel)) ggX7_gap_X7_below
theorem dX7_gap_0 : decode cX7_gap 0 = .ok (.aload_n 0, 1) := by decide +kernel
theorem dX7_gap_1 : decode cX7_gap 1 = .ok (.iload_n 1, 1) := by decide +kernel
theorem dX7_gap_2 : decode cX7_gap 2 = .ok (.invokevirtual 96, 3) := by decide +kernel
theorem dX7_gap_5 : decode cX7_gap 5 = .ok (.ifCond .eq 33, 3) := by decide +kernel
theorem dX7_gap_8 : decode cX7_gap 8 = .ok (.iload_n 2, 1) := by decide +kernel
theorem dX7_gap_9 : decode cX7_gap 9 = .ok (.iconst 0, 1) := by decide +kernel
theorem dX7_gap_10 : decode cX7_gap 10 = .ok (.aload_n 0, 1) := by decide +kernel
theorem dX7_gap_11 : decode cX7_gap 11 = .ok (.iload_n 1, 1) := by decide +kernel
theorem dX7_gap_12 : decode cX7_gap 12 = .ok (.invokevirtual 76, 3) := by decide +kernel
theorem dX7_gap_15 : decode cX7_gap 15 = .ok (.aload_n 0, 1) := by decide +kernel
theorem dX7_gap_16 : decode cX7_gap 16 = .ok (.iload_n 1, 1) := by decide +kernel
theorem dX7_gap_17 : decode cX7_gap 17 = .ok (.invokevirtual 73, 3) := by decide +kernel
theorem dX7_gap_20 : decode cX7_gap 20 = .ok (.isub, 1) := by decide +kernel
theorem dX7_gap_21 : decode cX7_gap 21 = .ok (.iconst 2, 1) := by decide +kernel
theorem dX7_gap_22 : decode cX7_gap 22 = .ok (.isub, 1) := by decide +kernel
theorem dX7_gap_23 : decode cX7_gap 23 = .ok (.invokestatic 50, 3) := by decide +kernel
theorem dX7_gap_26 : decode cX7_gap 26 = .ok (.ifCond .eq 12, 3) := by decide +kernel
theorem dX7_gap_29 : decode cX7_gap 29 = .ok (.iload_n 3, 1) := by decide +kernel
theorem dX7_gap_30 : decode cX7_gap 30 = .ok (.iconst 0, 1) := by decide +kernel
theorem dX7_gap_31 : decode cX7_gap 31 = .ok (.iconst 4, 1) := by decide +kernel
theorem dX7_gap_32 : decode cX7_gap 32 = .ok (.invokestatic 50, 3) := by decide +kernel
theorem dX7_gap_35 : decode cX7_gap 35 = .ok (.ifCond .ne 5, 3) := by decide +kernel
theorem dX7_gap_38 : decode cX7_gap 38 = .ok (.iconst (-1), 1) := by decide +kernel
theorem dX7_gap_39 : decode cX7_gap 39 = .ok (.ireturn, 1) := by decide +kernel
theorem dX7_gap_40 : decode cX7_gap 40 = .ok (.aload_n 0, 1) := by decide +kernel
theorem dX7_gap_41 : decode cX7_gap 41 = .ok (.invokevirtual 106, 3) := by decide +kernel
theorem dX7_gap_44 : decode cX7_gap 44 = .ok (.pop, 1) := by decide +kernel
theorem dX7_gap_45 : decode cX7_gap 45 = .ok (.aload_n 0, 1) := by decide +kernel
theorem dX7_gap_46 : decode cX7_gap 46 = .ok (.iload_n 1, 1) := by decide +kernel
theorem dX7_gap_47 : decode cX7_gap 47 = .ok (.invokevirtual 73, 3) := by decide +kernel
theorem dX7_gap_50 : decode cX7_gap 50 = .ok (.iload_n 2, 1) := by decide +kernel
theorem dX7_gap_51 : decode cX7_gap 51 = .ok (.iadd, 1) := by decide +kernel
theorem dX7_gap_52 : decode cX7_gap 52 = .ok (.istore 4, 2) := by decide +kernel
theorem dX7_gap_54 : decode cX7_gap 54 = .ok (.iload_n 3, 1) := by decide +kernel
theorem dX7_gap_55 : decode cX7_gap 55 = .ok (.tableswitch 61 0 3 #[29, 37, 45, 53], 29) := by decide +kernel
theorem dX7_gap_84 : decode cX7_gap 84 = .ok (.aload_n 0, 1) := by decide +kernel
theorem dX7_gap_85 : decode cX7_gap 85 = .ok (.getfield 23, 3) := by decide +kernel
theorem dX7_gap_88 : decode cX7_gap 88 = .ok (.iload 4, 2) := by decide +kernel
theorem dX7_gap_90 : decode cX7_gap 90 = .ok (.iaload, 1) := by decide +kernel
theorem dX7_gap_91 : decode cX7_gap 91 = .ok (.ireturn, 1) := by decide +kernel
theorem dX7_gap_92 : decode cX7_gap 92 = .ok (.aload_n 0, 1) := by decide +kernel
theorem dX7_gap_93 : decode cX7_gap 93 = .ok (.getfield 26, 3) := by decide +kernel
theorem dX7_gap_96 : decode cX7_gap 96 = .ok (.iload 4, 2) := by decide +kernel
theorem dX7_gap_98 : decode cX7_gap 98 = .ok (.iaload, 1) := by decide +kernel
theorem dX7_gap_99 : decode cX7_gap 99 = .ok (.ireturn, 1) := by decide +kernel
theorem dX7_gap_100 : decode cX7_gap 100 = .ok (.aload_n 0, 1) := by decide +kernel
theorem dX7_gap_101 : decode cX7_gap 101 = .ok (.getfield 29, 3) := by decide +kernel
theorem dX7_gap_104 : decode cX7_gap 104 = .ok (.iload 4, 2) := by decide +kernel
theorem dX7_gap_106 : decode cX7_gap 106 = .ok (.iaload, 1) := by decide +kernel
theorem dX7_gap_107 : decode cX7_gap 107 = .ok (.ireturn, 1) := by decide +kernel
theorem dX7_gap_108 : decode cX7_gap 108 = .ok (.aload_n 0, 1) := by decide +kernel
theorem dX7_gap_109 : decode cX7_gap 109 = .ok (.iload 4, 2) := by decide +kernel
theorem dX7_gap_111 : decode cX7_gap 111 = .ok (.iload_n 1, 1) := by decide +kernel
theorem dX7_gap_112 : decode cX7_gap 112 = .ok (.invokevirtual 109, 3) := by decide +kernel
theorem dX7_gap_115 : decode cX7_gap 115 = .ok (.ireturn, 1) := by decide +kernel
theorem dX7_gap_116 : decode cX7_gap 116 = .ok (.aload_n 0, 1) := by decide +kernel
theorem dX7_gap_117 : decode cX7_gap 117 = .ok (.iload 4, 2) := by decide +kernel
theorem dX7_gap_119 : decode cX7_gap 119 = .ok (.iload_n 1, 1) := by decide +kernel
theorem dX7_gap_120 : decode cX7_gap 120 = .ok (.invokevirtual 124, 3) := by decide +kernel
theorem dX7_gap_123 : decode cX7_gap 123 = .ok (.ireturn, 1) := by decide +kernel
set_option maxRecDepth 20000 in
theorem ggX7_river_X7_in : GoodIn wsX7_river wsX7_in := goodIn_r _ [5] (by decide +kernel) (by decide +kernel)
set_option maxRecDepth 20000 in
theorem gX7_river_X7_in : GoodIn wsX7_river (va_wsS RX7 50 yX7_in wsX7_in) := goodIn_app (goodIn_of _ (by decide +kernel)) ggX7_river_X7_in
set_option maxRecDepth 20000 in
theorem ggX7_river_X7_laysAll : GoodIn wsX7_river wsX7_laysAll := goodIn_r _ [9, 10, 11, 12, 13, 4, 14, 15, 16, 17, 18, 19, 20, 21, 22, 23, 24, 25, 1, 26, 27, 28, 29, 30, 31, 32, 33, 38, 39, 40, 41, 42, 43, 44, 45, 46, 47, 48, 49, 50, 51, 52, 53, 54, 55, 56] (by decide +kernel) (by decide +kernel)
set_option maxRecDepth 20000 in
theorem gX7_river_X7_laysAll : GoodIn wsX7_river (wsV RX7 106 RX7 yX7_laysAll wsX7_laysAll) := goodIn_app (goodIn_of _ (by decide +kernel)) ggX7_river_X7_laysAll
set_option maxRecDepth 20000 in
theorem ggX7_river_X7_lineOf : GoodIn wsX7_river wsX7_lineOf := goodIn_r _ [37, 15, 16, 17, 4, 18, 10, 38, 39, 40, 41, 42, 43, 44, 45, 46, 47, 48, 49, 50, 51, 52, 53, 54, 55, 56] (by decide +kernel) (by decide +kernel)
set_option maxRecDepth 20000 in
theorem gX7_river_X7_lineOf : GoodIn wsX7_river (wsV RX7 121 RX7 yX7_lineOf wsX7_lineOf) := goodIn_app (goodIn_of _ (by decide +kernel)) ggX7_river_X7_lineOf
set_option maxRecDepth 20000 in
theorem ggX7_river_X7_behind : GoodIn wsX7_river wsX7_behind := goodIn_r _ [18, 10, 38, 39, 40, 41, 42, 43, 44, 45, 46, 47, 48, 49, 50, 51, 52, 53, 54, 55, 56] (by decide +kernel) (by decide +kernel)
set_option maxRecDepth 20000 in
theorem gX7_river_X7_behind : GoodIn wsX7_river (wsV RX7 76 RX7 yX7_behind wsX7_behind) := goodIn_app (goodIn_of _ (by decide +kernel)) ggX7_river_X7_behind
set_option maxRecDepth 20000 in
theorem ggX7_river_X7_first : GoodIn wsX7_river wsX7_first := goodIn_r _ [14, 10, 38, 39, 40, 41, 42, 43, 44, 45, 46, 47, 48, 49, 50, 51, 52, 53, 54, 55, 56] (by decide +kernel) (by decide +kernel)
set_option maxRecDepth 20000 in
theorem gX7_river_X7_first : GoodIn wsX7_river (wsV RX7 73 RX7 yX7_first wsX7_first) := goodIn_app (goodIn_of _ (by decide +kernel)) ggX7_river_X7_first
set_option maxRecDepth 20000 in
theorem ggX7_river_X7_meets : GoodIn wsX7_river wsX7_meets := goodIn_r _ [33, 24, 25, 38, 39, 40, 41, 42, 43, 44, 45, 46, 47, 48, 49, 50, 51, 52, 53, 54, 55, 56] (by decide +kernel) (by decide +kernel)
set_option maxRecDepth 20000 in
theorem gX7_river_X7_meets : GoodIn wsX7_river (wsV RX7 70 RX7 yX7_meets wsX7_meets) := goodIn_app (goodIn_of _ (by decide +kernel)) ggX7_river_X7_meets
theorem dX7_river_0 : decode cX7_river 0 = .ok (.iload_n 1, 1) := by decide +kernel
theorem dX7_river_1 : decode cX7_river 1 = .ok (.ifCond .lt 12, 3) := by decide +kernel
theorem dX7_river_4 : decode cX7_river 4 = .ok (.iload_n 2, 1) := by decide +kernel
theorem dX7_river_5 : decode cX7_river 5 = .ok (.iconst 0, 1) := by decide +kernel
theorem dX7_river_6 : decode cX7_river 6 = .ok (.iconst 1, 1) := by decide +kernel
theorem dX7_river_7 : decode cX7_river 7 = .ok (.invokestatic 50, 3) := by decide +kernel
theorem dX7_river_10 : decode cX7_river 10 = .ok (.ifCond .ne 5, 3) := by decide +kernel
theorem dX7_river_13 : decode cX7_river 13 = .ok (.iconst (-1), 1) := by decide +kernel
theorem dX7_river_14 : decode cX7_river 14 = .ok (.ireturn, 1) := by decide +kernel
theorem dX7_river_15 : decode cX7_river 15 = .ok (.aload_n 0, 1) := by decide +kernel
theorem dX7_river_16 : decode cX7_river 16 = .ok (.invokevirtual 106, 3) := by decide +kernel
theorem dX7_river_19 : decode cX7_river 19 = .ok (.istore_n 3, 1) := by decide +kernel
theorem dX7_river_20 : decode cX7_river 20 = .ok (.iload_n 1, 1) := by decide +kernel
theorem dX7_river_21 : decode cX7_river 21 = .ok (.iload_n 3, 1) := by decide +kernel
theorem dX7_river_22 : decode cX7_river 22 = .ok (.if_icmp .lt 6, 3) := by decide +kernel
theorem dX7_river_25 : decode cX7_river 25 = .ok (.bipush (-4), 2) := by decide +kernel
theorem dX7_river_27 : decode cX7_river 27 = .ok (.ireturn, 1) := by decide +kernel
theorem dX7_river_28 : decode cX7_river 28 = .ok (.iconst 0, 1) := by decide +kernel
theorem dX7_river_29 : decode cX7_river 29 = .ok (.istore 4, 2) := by decide +kernel
theorem dX7_river_31 : decode cX7_river 31 = .ok (.iload 4, 2) := by decide +kernel
theorem dX7_river_33 : decode cX7_river 33 = .ok (.iconst 1, 1) := by decide +kernel
theorem dX7_river_34 : decode cX7_river 34 = .ok (.iadd, 1) := by decide +kernel
theorem dX7_river_35 : decode cX7_river 35 = .ok (.aload_n 0, 1) := by decide +kernel
theorem dX7_river_36 : decode cX7_river 36 = .ok (.aload_n 0, 1) := by decide +kernel
theorem dX7_river_37 : decode cX7_river 37 = .ok (.iload 4, 2) := by decide +kernel
theorem dX7_river_39 : decode cX7_river 39 = .ok (.invokevirtual 121, 3) := by decide +kernel
theorem dX7_river_42 : decode cX7_river 42 = .ok (.invokevirtual 76, 3) := by decide +kernel
theorem dX7_river_45 : decode cX7_river 45 = .ok (.if_icmp .ge 14, 3) := by decide +kernel
theorem dX7_river_48 : decode cX7_river 48 = .ok (.aload_n 0, 1) := by decide +kernel
theorem dX7_river_49 : decode cX7_river 49 = .ok (.getfield 29, 3) := by decide +kernel
theorem dX7_river_52 : decode cX7_river 52 = .ok (.iload 4, 2) := by decide +kernel
theorem dX7_river_54 : decode cX7_river 54 = .ok (.iaload, 1) := by decide +kernel
theorem dX7_river_55 : decode cX7_river 55 = .ok (.iload_n 3, 1) := by decide +kernel
theorem dX7_river_56 : decode cX7_river 56 = .ok (.if_icmp .eq 9, 3) := by decide +kernel
theorem dX7_river_59 : decode cX7_river 59 = .ok (.iinc 4 1, 3) := by decide +kernel
theorem dX7_river_62 : decode cX7_river 62 = .ok (.goto (-31), 3) := by decide +kernel
theorem dX7_river_65 : decode cX7_river 65 = .ok (.iconst 0, 1) := by decide +kernel
theorem dX7_river_66 : decode cX7_river 66 = .ok (.istore 5, 2) := by decide +kernel
theorem dX7_river_68 : decode cX7_river 68 = .ok (.iload 5, 2) := by decide +kernel
theorem dX7_river_70 : decode cX7_river 70 = .ok (.iload_n 1, 1) := by decide +kernel
theorem dX7_river_71 : decode cX7_river 71 = .ok (.if_icmp .ge 80, 3) := by decide +kernel
theorem dX7_river_74 : decode cX7_river 74 = .ok (.aload_n 0, 1) := by decide +kernel
theorem dX7_river_75 : decode cX7_river 75 = .ok (.iload 4, 2) := by decide +kernel
theorem dX7_river_77 : decode cX7_river 77 = .ok (.invokevirtual 121, 3) := by decide +kernel
theorem dX7_river_80 : decode cX7_river 80 = .ok (.istore 6, 2) := by decide +kernel
theorem dX7_river_82 : decode cX7_river 82 = .ok (.aload_n 0, 1) := by decide +kernel
theorem dX7_river_83 : decode cX7_river 83 = .ok (.iload 6, 2) := by decide +kernel
theorem dX7_river_85 : decode cX7_river 85 = .ok (.iconst 1, 1) := by decide +kernel
theorem dX7_river_86 : decode cX7_river 86 = .ok (.isub, 1) := by decide +kernel
theorem dX7_river_87 : decode cX7_river 87 = .ok (.invokevirtual 73, 3) := by decide +kernel
theorem dX7_river_90 : decode cX7_river 90 = .ok (.istore 7, 2) := by decide +kernel
theorem dX7_river_92 : decode cX7_river 92 = .ok (.iload 7, 2) := by decide +kernel
theorem dX7_river_94 : decode cX7_river 94 = .ok (.iconst 1, 1) := by decide +kernel
theorem dX7_river_95 : decode cX7_river 95 = .ok (.iadd, 1) := by decide +kernel
theorem dX7_river_96 : decode cX7_river 96 = .ok (.aload_n 0, 1) := by decide +kernel
theorem dX7_river_97 : decode cX7_river 97 = .ok (.iload 6, 2) := by decide +kernel
theorem dX7_river_99 : decode cX7_river 99 = .ok (.invokevirtual 73, 3) := by decide +kernel
theorem dX7_river_102 : decode cX7_river 102 = .ok (.if_icmp .ge 33, 3) := by decide +kernel
theorem dX7_river_105 : decode cX7_river 105 = .ok (.aload_n 0, 1) := by decide +kernel
theorem dX7_river_106 : decode cX7_river 106 = .ok (.iload 4, 2) := by decide +kernel
theorem dX7_river_108 : decode cX7_river 108 = .ok (.iload 7, 2) := by decide +kernel
theorem dX7_river_110 : decode cX7_river 110 = .ok (.invokevirtual 70, 3) := by decide +kernel
theorem dX7_river_113 : decode cX7_river 113 = .ok (.ifCond .eq 22, 3) := by decide +kernel
theorem dX7_river_116 : decode cX7_river 116 = .ok (.aload_n 0, 1) := by decide +kernel
theorem dX7_river_117 : decode cX7_river 117 = .ok (.getfield 29, 3) := by decide +kernel
theorem dX7_river_120 : decode cX7_river 120 = .ok (.iload 7, 2) := by decide +kernel
theorem dX7_river_122 : decode cX7_river 122 = .ok (.iaload, 1) := by decide +kernel
theorem dX7_river_123 : decode cX7_river 123 = .ok (.aload_n 0, 1) := by decide +kernel
theorem dX7_river_124 : decode cX7_river 124 = .ok (.getfield 29, 3) := by decide +kernel
theorem dX7_river_127 : decode cX7_river 127 = .ok (.iload 4, 2) := by decide +kernel
theorem dX7_river_129 : decode cX7_river 129 = .ok (.iaload, 1) := by decide +kernel
theorem dX7_river_130 : decode cX7_river 130 = .ok (.iconst 1, 1) := by decide +kernel
theorem dX7_river_131 : decode cX7_river 131 = .ok (.isub, 1) := by decide +kernel
theorem dX7_river_132 : decode cX7_river 132 = .ok (.if_icmp .eq 9, 3) := by decide +kernel
theorem dX7_river_135 : decode cX7_river 135 = .ok (.iinc 7 1, 3) := by decide +kernel
theorem dX7_river_138 : decode cX7_river 138 = .ok (.goto (-46), 3) := by decide +kernel
theorem dX7_river_141 : decode cX7_river 141 = .ok (.iload 7, 2) := by decide +kernel
theorem dX7_river_143 : decode cX7_river 143 = .ok (.istore 4, 2) := by decide +kernel
theorem dX7_river_145 : decode cX7_river 145 = .ok (.iinc 5 1, 3) := by decide +kernel
theorem dX7_river_148 : decode cX7_river 148 = .ok (.goto (-80), 3) := by decide +kernel
theorem dX7_river_151 : decode cX7_river 151 = .ok (.iload_n 2, 1) := by decide +kernel
theorem dX7_river_152 : decode cX7_river 152 = .ok (.ifCond .ne 12, 3) := by decide +kernel
theorem dX7_river_155 : decode cX7_river 155 = .ok (.aload_n 0, 1) := by decide +kernel
theorem dX7_river_156 : decode cX7_river 156 = .ok (.iload 4, 2) := by decide +kernel
theorem dX7_river_158 : decode cX7_river 158 = .ok (.invokevirtual 121, 3) := by decide +kernel
theorem dX7_river_161 : decode cX7_river 161 = .ok (.goto 16, 3) := by decide +kernel
theorem dX7_river_164 : decode cX7_river 164 = .ok (.iload 4, 2) := by decide +kernel
theorem dX7_river_166 : decode cX7_river 166 = .ok (.aload_n 0, 1) := by decide +kernel
theorem dX7_river_167 : decode cX7_river 167 = .ok (.aload_n 0, 1) := by decide +kernel
theorem dX7_river_168 : decode cX7_river 168 = .ok (.iload 4, 2) := by decide +kernel
theorem dX7_river_170 : decode cX7_river 170 = .ok (.invokevirtual 121, 3) := by decide +kernel
theorem dX7_river_173 : decode cX7_river 173 = .ok (.invokevirtual 73, 3) := by decide +kernel
theorem dX7_river_176 : decode cX7_river 176 = .ok (.isub, 1) := by decide +kernel
theorem dX7_river_177 : decode cX7_river 177 = .ok (.ireturn, 1) := by decide +kernel
set_option maxRecDepth 20000 in
theorem ggX7_at_X7_isLine : GoodIn wsX7_at wsX7_isLine := goodIn_r _ [6, 1, 7, 8, 5, 9, 42, 43, 44, 45, 46, 47, 48, 49, 50, 51, 52, 53, 54, 55, 56, 57, 58, 59, 60] (by decide +kernel) (by decide +kernel)
set_option maxRecDepth 20000 in
theorem gX7_at_X7_isLine : GoodIn wsX7_at (wsV RX7 96 RX7 yX7_isLine wsX7_isLine) := goodIn_app (goodIn_of _ (by decide +kernel)) ggX7_at_X7_isLine
set_option maxRecDepth 20000 in
theorem ggX7_at_X7_in : GoodIn wsX7_at wsX7_in := goodIn_r _ [9] (by decide +kernel) (by decide +kernel)
set_option maxRecDepth 20000 in
theorem gX7_at_X7_in : GoodIn wsX7_at (va_wsS RX7 50 yX7_in wsX7_in) := goodIn_app (goodIn_of _ (by decide +kernel)) ggX7_at_X7_in
set_option maxRecDepth 20000 in
theorem ggX7_at_X7_laysAll : GoodIn wsX7_at wsX7_laysAll := goodIn_r _ [13, 1, 14, 15, 16, 5, 17, 18, 19, 20, 21, 22, 23, 24, 25, 26, 27, 28, 29, 30, 31, 32, 33, 34, 35, 36, 37, 42, 43, 44, 45, 46, 47, 48, 49, 50, 51, 52, 53, 54, 55, 56, 57, 58, 59, 60] (by decide +kernel) (by decide +kernel)
set_option maxRecDepth 20000 in
theorem gX7_at_X7_laysAll : GoodIn wsX7_at (wsV RX7 106 RX7 yX7_laysAll wsX7_laysAll) := goodIn_app (goodIn_of _ (by decide +kernel)) ggX7_at_X7_laysAll
set_option maxRecDepth 20000 in
theorem ggX7_at_X7_first : GoodIn wsX7_at wsX7_first := goodIn_r _ [17, 1, 42, 43, 44, 45, 46, 47, 48, 49, 50, 51, 52, 53, 54, 55, 56, 57, 58, 59, 60] (by decide +kernel) (by decide +kernel)
set_option maxRecDepth 20000 in
theorem gX7_at_X7_first : GoodIn wsX7_at (wsV RX7 73 RX7 yX7_first wsX7_first) := goodIn_app (goodIn_of _ (by decide +kernel)) ggX7_at_X7_first
set_option maxRecDepth 20000 in
theorem ggX7_at_X7_behind : GoodIn wsX7_at wsX7_behind := goodIn_r _ [21, 1, 42, 43, 44, 45, 46, 47, 48, 49, 50, 51, 52, 53, 54, 55, 56, 57, 58, 59, 60] (by decide +kernel) (by decide +kernel)
set_option maxRecDepth 20000 in
theorem gX7_at_X7_behind : GoodIn wsX7_at (wsV RX7 76 RX7 yX7_behind wsX7_behind) := goodIn_app (goodIn_of _ (by decide +kernel)) ggX7_at_X7_behind
set_option maxRecDepth 20000 in
theorem ggX7_at_X7_columnIn : GoodIn wsX7_at wsX7_columnIn := goodIn_r _ [41, 26, 1, 42, 43, 44, 45, 46, 47, 48, 49, 50, 51, 52, 53, 54, 55, 56, 57, 58, 59, 60] (by decide +kernel) (by decide +kernel)
set_option maxRecDepth 20000 in
theorem gX7_at_X7_columnIn : GoodIn wsX7_at (wsV RX7 127 RX7 yX7_columnIn wsX7_columnIn) := goodIn_app (goodIn_of _ (by decide +kernel)) ggX7_at_X7_columnIn
theorem dX7_at_0 : decode cX7_at 0 = .ok (.aload_n 0, 1) := by decide +kernel
theorem dX7_at_1 : decode cX7_at 1 = .ok (.iload_n 1, 1) := by decide +kernel
theorem dX7_at_2 : decode cX7_at 2 = .ok (.invokevirtual 96, 3) := by decide +kernel
theorem dX7_at_5 : decode cX7_at 5 = .ok (.ifCond .eq 19, 3) := by decide +kernel
theorem dX7_at_8 : decode cX7_at 8 = .ok (.iload_n 2, 1) := by decide +kernel
theorem dX7_at_9 : decode cX7_at 9 = .ok (.iconst 0, 1) := by decide +kernel
theorem dX7_at_10 : decode cX7_at 10 = .ok (.aload_n 0, 1) := by decide +kernel
theorem dX7_at_11 : decode cX7_at 11 = .ok (.getfield 7, 3) := by decide +kernel
theorem dX7_at_14 : decode cX7_at 14 = .ok (.iconst 1, 1) := by decide +kernel
theorem dX7_at_15 : decode cX7_at 15 = .ok (.iaload, 1) := by decide +kernel
theorem dX7_at_16 : decode cX7_at 16 = .ok (.iconst 1, 1) := by decide +kernel
theorem dX7_at_17 : decode cX7_at 17 = .ok (.isub, 1) := by decide +kernel
theorem dX7_at_18 : decode cX7_at 18 = .ok (.invokestatic 50, 3) := by decide +kernel
theorem dX7_at_21 : decode cX7_at 21 = .ok (.ifCond .ne 5, 3) := by decide +kernel
theorem dX7_at_24 : decode cX7_at 24 = .ok (.iconst (-1), 1) := by decide +kernel
theorem dX7_at_25 : decode cX7_at 25 = .ok (.ireturn, 1) := by decide +kernel
theorem dX7_at_26 : decode cX7_at 26 = .ok (.aload_n 0, 1) := by decide +kernel
theorem dX7_at_27 : decode cX7_at 27 = .ok (.invokevirtual 106, 3) := by decide +kernel
theorem dX7_at_30 : decode cX7_at 30 = .ok (.pop, 1) := by decide +kernel
theorem dX7_at_31 : decode cX7_at 31 = .ok (.aload_n 0, 1) := by decide +kernel
theorem dX7_at_32 : decode cX7_at 32 = .ok (.iload_n 1, 1) := by decide +kernel
theorem dX7_at_33 : decode cX7_at 33 = .ok (.invokevirtual 73, 3) := by decide +kernel
theorem dX7_at_36 : decode cX7_at 36 = .ok (.istore_n 3, 1) := by decide +kernel
theorem dX7_at_37 : decode cX7_at 37 = .ok (.iload_n 3, 1) := by decide +kernel
theorem dX7_at_38 : decode cX7_at 38 = .ok (.aload_n 0, 1) := by decide +kernel
theorem dX7_at_39 : decode cX7_at 39 = .ok (.iload_n 1, 1) := by decide +kernel
theorem dX7_at_40 : decode cX7_at 40 = .ok (.invokevirtual 76, 3) := by decide +kernel
theorem dX7_at_43 : decode cX7_at 43 = .ok (.if_icmp .ge 20, 3) := by decide +kernel
theorem dX7_at_46 : decode cX7_at 46 = .ok (.aload_n 0, 1) := by decide +kernel
theorem dX7_at_47 : decode cX7_at 47 = .ok (.iload_n 3, 1) := by decide +kernel
theorem dX7_at_48 : decode cX7_at 48 = .ok (.iload_n 2, 1) := by decide +kernel
theorem dX7_at_49 : decode cX7_at 49 = .ok (.invokevirtual 127, 3) := by decide +kernel
theorem dX7_at_52 : decode cX7_at 52 = .ok (.ifCond .eq 5, 3) := by decide +kernel
theorem dX7_at_55 : decode cX7_at 55 = .ok (.iload_n 3, 1) := by decide +kernel
theorem dX7_at_56 : decode cX7_at 56 = .ok (.ireturn, 1) := by decide +kernel
theorem dX7_at_57 : decode cX7_at 57 = .ok (.iinc 3 1, 3) := by decide +kernel
theorem dX7_at_60 : decode cX7_at 60 = .ok (.goto (-23), 3) := by decide +kernel
theorem dX7_at_63 : decode cX7_at 63 = .ok (.bipush (-4), 2) := by decide +kernel
theorem dX7_at_65 : decode cX7_at 65 = .ok (.ireturn, 1) := by decide +kernel
theorem dX7_columnIn_0 : decode cX7_columnIn 0 = .ok (.iload_n 2, 1) := by decide +kernel
theorem dX7_columnIn_1 : decode cX7_columnIn 1 = .ok (.aload_n 0, 1) := by decide +kernel
theorem dX7_columnIn_2 : decode cX7_columnIn 2 = .ok (.getfield 20, 3) := by decide +kernel
theorem dX7_columnIn_5 : decode cX7_columnIn 5 = .ok (.iload_n 1, 1) := by decide +kernel
theorem dX7_columnIn_6 : decode cX7_columnIn 6 = .ok (.iaload, 1) := by decide +kernel
theorem dX7_columnIn_7 : decode cX7_columnIn 7 = .ok (.if_icmp .lt 26, 3) := by decide +kernel
theorem dX7_columnIn_10 : decode cX7_columnIn 10 = .ok (.iload_n 2, 1) := by decide +kernel
theorem dX7_columnIn_11 : decode cX7_columnIn 11 = .ok (.aload_n 0, 1) := by decide +kernel
theorem dX7_columnIn_12 : decode cX7_columnIn 12 = .ok (.getfield 20, 3) := by decide +kernel
theorem dX7_columnIn_15 : decode cX7_columnIn 15 = .ok (.iload_n 1, 1) := by decide +kernel
theorem dX7_columnIn_16 : decode cX7_columnIn 16 = .ok (.iaload, 1) := by decide +kernel
theorem dX7_columnIn_17 : decode cX7_columnIn 17 = .ok (.aload_n 0, 1) := by decide +kernel
theorem dX7_columnIn_18 : decode cX7_columnIn 18 = .ok (.getfield 7, 3) := by decide +kernel
theorem dX7_columnIn_21 : decode cX7_columnIn 21 = .ok (.iconst 4, 1) := by decide +kernel
theorem dX7_columnIn_22 : decode cX7_columnIn 22 = .ok (.iload_n 1, 1) := by decide +kernel
theorem dX7_columnIn_23 : decode cX7_columnIn 23 = .ok (.iadd, 1) := by decide +kernel
theorem dX7_columnIn_24 : decode cX7_columnIn 24 = .ok (.iaload, 1) := by decide +kernel
theorem dX7_columnIn_25 : decode cX7_columnIn 25 = .ok (.iadd, 1) := by decide +kernel
theorem dX7_columnIn_26 : decode cX7_columnIn 26 = .ok (.if_icmp .ge 7, 3) := by decide +kernel
theorem dX7_columnIn_29 : decode cX7_columnIn 29 = .ok (.iconst 1, 1) := by decide +kernel
theorem dX7_columnIn_30 : decode cX7_columnIn 30 = .ok (.goto 4, 3) := by decide +kernel
theorem dX7_columnIn_33 : decode cX7_columnIn 33 = .ok (.iconst 0, 1) := by decide +kernel
theorem dX7_columnIn_34 : decode cX7_columnIn 34 = .ok (.ireturn, 1) := by decide +kernel
set_option maxRecDepth 20000 in
theorem ggX7_nowLine_X7_first : GoodIn wsX7_nowLine wsX7_first := goodIn_r _ [6, 1, 11, 12, 13, 14, 15, 16, 17, 18, 19, 20, 21, 22, 23, 24, 25, 26, 27, 28, 29] (by decide +kernel) (by decide +kernel)
set_option maxRecDepth 20000 in
theorem gX7_nowLine_X7_first : GoodIn wsX7_nowLine (wsV RX7 73 RX7 yX7_first wsX7_first) := goodIn_app (goodIn_of _ (by decide +kernel)) ggX7_nowLine_X7_first
set_option maxRecDepth 20000 in
theorem ggX7_nowLine_X7_behind : GoodIn wsX7_nowLine wsX7_behind := goodIn_r _ [10, 1, 11, 12, 13, 14, 15, 16, 17, 18, 19, 20, 21, 22, 23, 24, 25, 26, 27, 28, 29] (by decide +kernel) (by decide +kernel)
set_option maxRecDepth 20000 in
theorem gX7_nowLine_X7_behind : GoodIn wsX7_nowLine (wsV RX7 76 RX7 yX7_behind wsX7_behind) := goodIn_app (goodIn_of _ (by decide +kernel)) ggX7_nowLine_X7_behind
theorem dX7_nowLine_0 : decode cX7_nowLine 0 = .ok (.iconst 0, 1) := by decide +kernel
theorem dX7_nowLine_1 : decode cX7_nowLine 1 = .ok (.istore_n 3, 1) := by decide +kernel
theorem dX7_nowLine_2 : decode cX7_nowLine 2 = .ok (.iload_n 3, 1) := by decide +kernel
theorem dX7_nowLine_3 : decode cX7_nowLine 3 = .ok (.aload_n 0, 1) := by decide +kernel
theorem dX7_nowLine_4 : decode cX7_nowLine 4 = .ok (.getfield 7, 3) := by decide +kernel
theorem dX7_nowLine_7 : decode cX7_nowLine 7 = .ok (.iconst 3, 1) := by decide +kernel
theorem dX7_nowLine_8 : decode cX7_nowLine 8 = .ok (.iaload, 1) := by decide +kernel
theorem dX7_nowLine_9 : decode cX7_nowLine 9 = .ok (.if_icmp .ge 29, 3) := by decide +kernel
theorem dX7_nowLine_12 : decode cX7_nowLine 12 = .ok (.aload_n 0, 1) := by decide +kernel
theorem dX7_nowLine_13 : decode cX7_nowLine 13 = .ok (.iload_n 3, 1) := by decide +kernel
theorem dX7_nowLine_14 : decode cX7_nowLine 14 = .ok (.invokevirtual 73, 3) := by decide +kernel
theorem dX7_nowLine_17 : decode cX7_nowLine 17 = .ok (.iload_n 1, 1) := by decide +kernel
theorem dX7_nowLine_18 : decode cX7_nowLine 18 = .ok (.if_icmp .ne 14, 3) := by decide +kernel
theorem dX7_nowLine_21 : decode cX7_nowLine 21 = .ok (.aload_n 0, 1) := by decide +kernel
theorem dX7_nowLine_22 : decode cX7_nowLine 22 = .ok (.iload_n 3, 1) := by decide +kernel
theorem dX7_nowLine_23 : decode cX7_nowLine 23 = .ok (.invokevirtual 76, 3) := by decide +kernel
theorem dX7_nowLine_26 : decode cX7_nowLine 26 = .ok (.iload_n 2, 1) := by decide +kernel
theorem dX7_nowLine_27 : decode cX7_nowLine 27 = .ok (.if_icmp .ne 5, 3) := by decide +kernel
theorem dX7_nowLine_30 : decode cX7_nowLine 30 = .ok (.iload_n 3, 1) := by decide +kernel
theorem dX7_nowLine_31 : decode cX7_nowLine 31 = .ok (.ireturn, 1) := by decide +kernel
theorem dX7_nowLine_32 : decode cX7_nowLine 32 = .ok (.iinc 3 1, 3) := by decide +kernel
theorem dX7_nowLine_35 : decode cX7_nowLine 35 = .ok (.goto (-33), 3) := by decide +kernel
theorem dX7_nowLine_38 : decode cX7_nowLine 38 = .ok (.iconst (-1), 1) := by decide +kernel
theorem dX7_nowLine_39 : decode cX7_nowLine 39 = .ok (.ireturn, 1) := by decide +kernel
set_option maxRecDepth 20000 in
theorem ggX7_may_X7_nowLine : GoodIn wsX7_may wsX7_nowLine := goodIn_r _ [6, 1, 7, 8, 9, 5, 10, 11, 12, 13, 14, 19, 20, 21, 22, 23, 24, 25, 26, 27, 28, 29, 30, 31, 32, 33, 34, 35, 36, 37] (by decide +kernel) (by decide +kernel)
set_option maxRecDepth 20000 in
theorem gX7_may_X7_nowLine : GoodIn wsX7_may (wsV RX7 130 RX7 yX7_nowLine wsX7_nowLine) := goodIn_app (goodIn_of _ (by decide +kernel)) ggX7_may_X7_nowLine
set_option maxRecDepth 20000 in
theorem ggX7_may_X7_first : GoodIn wsX7_may wsX7_first := goodIn_r _ [10, 1, 19, 20, 21, 22, 23, 24, 25, 26, 27, 28, 29, 30, 31, 32, 33, 34, 35, 36, 37] (by decide +kernel) (by decide +kernel)
set_option maxRecDepth 20000 in
theorem gX7_may_X7_first : GoodIn wsX7_may (wsV RX7 73 RX7 yX7_first wsX7_first) := goodIn_app (goodIn_of _ (by decide +kernel)) ggX7_may_X7_first
set_option maxRecDepth 20000 in
theorem ggX7_may_X7_behind : GoodIn wsX7_may wsX7_behind := goodIn_r _ [14, 1, 19, 20, 21, 22, 23, 24, 25, 26, 27, 28, 29, 30, 31, 32, 33, 34, 35, 36, 37] (by decide +kernel) (by decide +kernel)
set_option maxRecDepth 20000 in
theorem gX7_may_X7_behind : GoodIn wsX7_may (wsV RX7 76 RX7 yX7_behind wsX7_behind) := goodIn_app (goodIn_of _ (by decide +kernel)) ggX7_may_X7_behind
set_option maxRecDepth 20000 in
theorem ggX7_may_X7_needs : GoodIn wsX7_may wsX7_needs := goodIn_r _ [18, 1, 19, 20, 21, 22, 23, 24, 25, 26, 27, 28, 29, 30, 31, 32, 33, 34, 35, 36, 37] (by decide +kernel) (by decide +kernel)
set_option maxRecDepth 20000 in
theorem gX7_may_X7_needs : GoodIn wsX7_may (wsV RX7 58 RX7 yX7_needs wsX7_needs) := goodIn_app (goodIn_of _ (by decide +kernel)) ggX7_may_X7_needs
theorem dX7_may_0 : decode cX7_may 0 = .ok (.aload_n 0, 1) := by decide +kernel
theorem dX7_may_1 : decode cX7_may 1 = .ok (.iload_n 1, 1) := by decide +kernel
theorem dX7_may_2 : decode cX7_may 2 = .ok (.iload_n 2, 1) := by decide +kernel
theorem dX7_may_3 : decode cX7_may 3 = .ok (.invokevirtual 130, 3) := by decide +kernel
theorem dX7_may_6 : decode cX7_may 6 = .ok (.istore_n 3, 1) := by decide +kernel
theorem dX7_may_7 : decode cX7_may 7 = .ok (.iload_n 3, 1) := by decide +kernel
theorem dX7_may_8 : decode cX7_may 8 = .ok (.iconst (-1), 1) := by decide +kernel
theorem dX7_may_9 : decode cX7_may 9 = .ok (.if_icmp .eq 18, 3) := by decide +kernel
theorem dX7_may_12 : decode cX7_may 12 = .ok (.aload_n 0, 1) := by decide +kernel
theorem dX7_may_13 : decode cX7_may 13 = .ok (.getfield 7, 3) := by decide +kernel
theorem dX7_may_16 : decode cX7_may 16 = .ok (.bipush 53, 2) := by decide +kernel
theorem dX7_may_18 : decode cX7_may 18 = .ok (.iload_n 3, 1) := by decide +kernel
theorem dX7_may_19 : decode cX7_may 19 = .ok (.iadd, 1) := by decide +kernel
theorem dX7_may_20 : decode cX7_may 20 = .ok (.iaload, 1) := by decide +kernel
theorem dX7_may_21 : decode cX7_may 21 = .ok (.iconst 1, 1) := by decide +kernel
theorem dX7_may_22 : decode cX7_may 22 = .ok (.if_icmp .ne 5, 3) := by decide +kernel
theorem dX7_may_25 : decode cX7_may 25 = .ok (.iconst 1, 1) := by decide +kernel
theorem dX7_may_26 : decode cX7_may 26 = .ok (.ireturn, 1) := by decide +kernel
theorem dX7_may_27 : decode cX7_may 27 = .ok (.iconst 0, 1) := by decide +kernel
theorem dX7_may_28 : decode cX7_may 28 = .ok (.istore 4, 2) := by decide +kernel
theorem dX7_may_30 : decode cX7_may 30 = .ok (.iload 4, 2) := by decide +kernel
theorem dX7_may_32 : decode cX7_may 32 = .ok (.aload_n 0, 1) := by decide +kernel
theorem dX7_may_33 : decode cX7_may 33 = .ok (.getfield 7, 3) := by decide +kernel
theorem dX7_may_36 : decode cX7_may 36 = .ok (.iconst 3, 1) := by decide +kernel
theorem dX7_may_37 : decode cX7_may 37 = .ok (.iaload, 1) := by decide +kernel
theorem dX7_may_38 : decode cX7_may 38 = .ok (.if_icmp .ge 45, 3) := by decide +kernel
theorem dX7_may_41 : decode cX7_may 41 = .ok (.aload_n 0, 1) := by decide +kernel
theorem dX7_may_42 : decode cX7_may 42 = .ok (.getfield 7, 3) := by decide +kernel
theorem dX7_may_45 : decode cX7_may 45 = .ok (.bipush 53, 2) := by decide +kernel
theorem dX7_may_47 : decode cX7_may 47 = .ok (.iload 4, 2) := by decide +kernel
theorem dX7_may_49 : decode cX7_may 49 = .ok (.iadd, 1) := by decide +kernel
theorem dX7_may_50 : decode cX7_may 50 = .ok (.iaload, 1) := by decide +kernel
theorem dX7_may_51 : decode cX7_may 51 = .ok (.iconst 1, 1) := by decide +kernel
theorem dX7_may_52 : decode cX7_may 52 = .ok (.if_icmp .ne 25, 3) := by decide +kernel
theorem dX7_may_55 : decode cX7_may 55 = .ok (.aload_n 0, 1) := by decide +kernel
theorem dX7_may_56 : decode cX7_may 56 = .ok (.iload 4, 2) := by decide +kernel
theorem dX7_may_58 : decode cX7_may 58 = .ok (.invokevirtual 73, 3) := by decide +kernel
theorem dX7_may_61 : decode cX7_may 61 = .ok (.iload_n 2, 1) := by decide +kernel
theorem dX7_may_62 : decode cX7_may 62 = .ok (.if_icmp .ge 15, 3) := by decide +kernel
theorem dX7_may_65 : decode cX7_may 65 = .ok (.aload_n 0, 1) := by decide +kernel
theorem dX7_may_66 : decode cX7_may 66 = .ok (.iload 4, 2) := by decide +kernel
theorem dX7_may_68 : decode cX7_may 68 = .ok (.invokevirtual 76, 3) := by decide +kernel
theorem dX7_may_71 : decode cX7_may 71 = .ok (.iload_n 1, 1) := by decide +kernel
theorem dX7_may_72 : decode cX7_may 72 = .ok (.if_icmp .le 5, 3) := by decide +kernel
theorem dX7_may_75 : decode cX7_may 75 = .ok (.iconst 0, 1) := by decide +kernel
theorem dX7_may_76 : decode cX7_may 76 = .ok (.ireturn, 1) := by decide +kernel
theorem dX7_may_77 : decode cX7_may 77 = .ok (.iinc 4 1, 3) := by decide +kernel
theorem dX7_may_80 : decode cX7_may 80 = .ok (.goto (-50), 3) := by decide +kernel
theorem dX7_may_83 : decode cX7_may 83 = .ok (.iload_n 2, 1) := by decide +kernel
theorem dX7_may_84 : decode cX7_may 84 = .ok (.aload_n 0, 1) := by decide +kernel
theorem dX7_may_85 : decode cX7_may 85 = .ok (.getfield 7, 3) := by decide +kernel
theorem dX7_may_88 : decode cX7_may 88 = .ok (.iconst 0, 1) := by decide +kernel
theorem dX7_may_89 : decode cX7_may 89 = .ok (.iaload, 1) := by decide +kernel
theorem dX7_may_90 : decode cX7_may 90 = .ok (.if_icmp .eq 25, 3) := by decide +kernel
theorem dX7_may_93 : decode cX7_may 93 = .ok (.aload_n 0, 1) := by decide +kernel
theorem dX7_may_94 : decode cX7_may 94 = .ok (.getfield 7, 3) := by decide +kernel
theorem dX7_may_97 : decode cX7_may 97 = .ok (.iconst 1, 1) := by decide +kernel
theorem dX7_may_98 : decode cX7_may 98 = .ok (.iaload, 1) := by decide +kernel
theorem dX7_may_99 : decode cX7_may 99 = .ok (.aload_n 0, 1) := by decide +kernel
theorem dX7_may_100 : decode cX7_may 100 = .ok (.iload_n 1, 1) := by decide +kernel
theorem dX7_may_101 : decode cX7_may 101 = .ok (.iload_n 2, 1) := by decide +kernel
theorem dX7_may_102 : decode cX7_may 102 = .ok (.invokevirtual 58, 3) := by decide +kernel
theorem dX7_may_105 : decode cX7_may 105 = .ok (.isub, 1) := by decide +kernel
theorem dX7_may_106 : decode cX7_may 106 = .ok (.aload_n 0, 1) := by decide +kernel
theorem dX7_may_107 : decode cX7_may 107 = .ok (.getfield 7, 3) := by decide +kernel
theorem dX7_may_110 : decode cX7_may 110 = .ok (.iconst 2, 1) := by decide +kernel
theorem dX7_may_111 : decode cX7_may 111 = .ok (.iaload, 1) := by decide +kernel
theorem dX7_may_112 : decode cX7_may 112 = .ok (.if_icmp .gt 7, 3) := by decide +kernel
theorem dX7_may_115 : decode cX7_may 115 = .ok (.iconst 1, 1) := by decide +kernel
theorem dX7_may_116 : decode cX7_may 116 = .ok (.goto 4, 3) := by decide +kernel
theorem dX7_may_119 : decode cX7_may 119 = .ok (.iconst 0, 1) := by decide +kernel
theorem dX7_may_120 : decode cX7_may 120 = .ok (.ireturn, 1) := by decide +kernel
theorem dX7_takes_0 : decode cX7_takes 0 = .ok (.aload_n 0, 1) := by decide +kernel
theorem dX7_takes_1 : decode cX7_takes 1 = .ok (.iload_n 1, 1) := by decide +kernel
theorem dX7_takes_2 : decode cX7_takes 2 = .ok (.putfield 133, 3) := by decide +kernel
theorem dX7_takes_5 : decode cX7_takes 5 = .ok (.aload_n 0, 1) := by decide +kernel
theorem dX7_takes_6 : decode cX7_takes 6 = .ok (.aload_n 0, 1) := by decide +kernel
theorem dX7_takes_7 : decode cX7_takes 7 = .ok (.getfield 38, 3) := by decide +kernel
theorem dX7_takes_10 : decode cX7_takes 10 = .ok (.iload_n 1, 1) := by decide +kernel
theorem dX7_takes_11 : decode cX7_takes 11 = .ok (.iaload, 1) := by decide +kernel
theorem dX7_takes_12 : decode cX7_takes 12 = .ok (.putfield 136, 3) := by decide +kernel
theorem dX7_takes_15 : decode cX7_takes 15 = .ok (.aload_n 0, 1) := by decide +kernel
theorem dX7_takes_16 : decode cX7_takes 16 = .ok (.aload_n 0, 1) := by decide +kernel
theorem dX7_takes_17 : decode cX7_takes 17 = .ok (.getfield 41, 3) := by decide +kernel
theorem dX7_takes_20 : decode cX7_takes 20 = .ok (.iload_n 1, 1) := by decide +kernel
theorem dX7_takes_21 : decode cX7_takes 21 = .ok (.iaload, 1) := by decide +kernel
theorem dX7_takes_22 : decode cX7_takes 22 = .ok (.putfield 139, 3) := by decide +kernel
theorem dX7_takes_25 : decode cX7_takes 25 = .ok (.aload_n 0, 1) := by decide +kernel
theorem dX7_takes_26 : decode cX7_takes 26 = .ok (.aload_n 0, 1) := by decide +kernel
theorem dX7_takes_27 : decode cX7_takes 27 = .ok (.getfield 44, 3) := by decide +kernel
theorem dX7_takes_30 : decode cX7_takes 30 = .ok (.iload_n 1, 1) := by decide +kernel
theorem dX7_takes_31 : decode cX7_takes 31 = .ok (.iaload, 1) := by decide +kernel
theorem dX7_takes_32 : decode cX7_takes 32 = .ok (.putfield 142, 3) := by decide +kernel
theorem dX7_takes_35 : decode cX7_takes 35 = .ok (.iconst 0, 1) := by decide +kernel
theorem dX7_takes_36 : decode cX7_takes 36 = .ok (.istore_n 2, 1) := by decide +kernel
theorem dX7_takes_37 : decode cX7_takes 37 = .ok (.iload_n 2, 1) := by decide +kernel
theorem dX7_takes_38 : decode cX7_takes 38 = .ok (.iload_n 1, 1) := by decide +kernel
theorem dX7_takes_39 : decode cX7_takes 39 = .ok (.if_icmp .gt 21, 3) := by decide +kernel
theorem dX7_takes_42 : decode cX7_takes 42 = .ok (.aload_n 0, 1) := by decide +kernel
theorem dX7_takes_43 : decode cX7_takes 43 = .ok (.getfield 47, 3) := by decide +kernel
theorem dX7_takes_46 : decode cX7_takes 46 = .ok (.iload_n 2, 1) := by decide +kernel
theorem dX7_takes_47 : decode cX7_takes 47 = .ok (.aload_n 0, 1) := by decide +kernel
theorem dX7_takes_48 : decode cX7_takes 48 = .ok (.getfield 32, 3) := by decide +kernel
theorem dX7_takes_51 : decode cX7_takes 51 = .ok (.iload_n 2, 1) := by decide +kernel
theorem dX7_takes_52 : decode cX7_takes 52 = .ok (.iaload, 1) := by decide +kernel
theorem dX7_takes_53 : decode cX7_takes 53 = .ok (.iastore, 1) := by decide +kernel
theorem dX7_takes_54 : decode cX7_takes 54 = .ok (.iinc 2 1, 3) := by decide +kernel
theorem dX7_takes_57 : decode cX7_takes 57 = .ok (.goto (-20), 3) := by decide +kernel
theorem dX7_takes_60 : decode cX7_takes 60 = .ok (.return_, 1) := by decide +kernel
set_option maxRecDepth 20000 in
theorem ggX7_plans_X7_mostFrom : GoodIn wsX7_plans wsX7_mostFrom := goodIn_r _ [13, 4, 14, 15, 16, 12, 17, 18, 19, 20, 21, 57, 58, 59, 60, 61, 62, 63, 64, 65, 66, 67, 68, 69, 70, 71, 72, 73, 74, 75] (by decide +kernel) (by decide +kernel)
set_option maxRecDepth 20000 in
theorem gX7_plans_X7_mostFrom : GoodIn wsX7_plans (wsV RX7 66 RX7 yX7_mostFrom wsX7_mostFrom) := goodIn_app (goodIn_of _ (by decide +kernel)) ggX7_plans_X7_mostFrom
set_option maxRecDepth 20000 in
theorem ggX7_plans_X7_takes : GoodIn wsX7_plans wsX7_takes := goodIn_r _ [25, 26, 5, 1, 6, 7, 8, 27, 28, 3, 57, 58, 59, 60, 61, 62, 63, 64, 65, 66, 67, 68, 69, 70, 71, 72, 73, 74, 75] (by decide +kernel) (by decide +kernel)
set_option maxRecDepth 20000 in
theorem gX7_plans_X7_takes : GoodIn wsX7_plans (wsV RX7 145 RX7 yX7_takes wsX7_takes) := goodIn_app (goodIn_of _ (by decide +kernel)) ggX7_plans_X7_takes
set_option maxRecDepth 20000 in
theorem ggX7_plans_X7_may : GoodIn wsX7_plans wsX7_may := goodIn_r _ [32, 4, 33, 34, 35, 12, 36, 37, 38, 39, 40, 41, 42, 43, 44, 18, 19, 20, 21, 57, 58, 59, 60, 61, 62, 63, 64, 65, 66, 67, 68, 69, 70, 71, 72, 73, 74, 75] (by decide +kernel) (by decide +kernel)
set_option maxRecDepth 20000 in
theorem gX7_plans_X7_may : GoodIn wsX7_plans (wsV RX7 149 RX7 yX7_may wsX7_may) := goodIn_app (goodIn_of _ (by decide +kernel)) ggX7_plans_X7_may
set_option maxRecDepth 20000 in
theorem ggX7_plans_X7_lays : GoodIn wsX7_plans wsX7_lays := goodIn_r _ [48, 4, 49, 50, 51, 52, 18, 19, 20, 12, 21, 53, 54, 55, 56, 57, 58, 59, 60, 61, 62, 63, 64, 65, 66, 67, 68, 69, 70, 71, 72, 73, 74, 75] (by decide +kernel) (by decide +kernel)
set_option maxRecDepth 20000 in
theorem gX7_plans_X7_lays : GoodIn wsX7_plans (wsV RX7 79 RX7 yX7_lays wsX7_lays) := goodIn_app (goodIn_of _ (by decide +kernel)) ggX7_plans_X7_lays
set_option maxRecDepth 20000 in
theorem ggX7_plans_X7_needs : GoodIn wsX7_plans wsX7_needs := goodIn_r _ [21, 4, 57, 58, 59, 60, 61, 62, 63, 64, 65, 66, 67, 68, 69, 70, 71, 72, 73, 74, 75] (by decide +kernel) (by decide +kernel)
set_option maxRecDepth 20000 in
theorem gX7_plans_X7_needs : GoodIn wsX7_plans (wsV RX7 58 RX7 yX7_needs wsX7_needs) := goodIn_app (goodIn_of _ (by decide +kernel)) ggX7_plans_X7_needs
set_option maxRecDepth 20000 in
theorem ggX7_plans_X7_nowLine : GoodIn wsX7_plans wsX7_nowLine := goodIn_r _ [36, 4, 37, 38, 39, 12, 40, 41, 42, 43, 44, 57, 58, 59, 60, 61, 62, 63, 64, 65, 66, 67, 68, 69, 70, 71, 72, 73, 74, 75] (by decide +kernel) (by decide +kernel)
set_option maxRecDepth 20000 in
theorem gX7_plans_X7_nowLine : GoodIn wsX7_plans (wsV RX7 130 RX7 yX7_nowLine wsX7_nowLine) := goodIn_app (goodIn_of _ (by decide +kernel)) ggX7_plans_X7_nowLine
theorem dX7_plans_0 : decode cX7_plans 0 = .ok (.aload_n 0, 1) := by decide +kernel
theorem dX7_plans_1 : decode cX7_plans 1 = .ok (.iconst (-1), 1) := by decide +kernel
theorem dX7_plans_2 : decode cX7_plans 2 = .ok (.putfield 136, 3) := by decide +kernel
theorem dX7_plans_5 : decode cX7_plans 5 = .ok (.iconst 0, 1) := by decide +kernel
theorem dX7_plans_6 : decode cX7_plans 6 = .ok (.istore_n 2, 1) := by decide +kernel
theorem dX7_plans_7 : decode cX7_plans 7 = .ok (.aload_n 0, 1) := by decide +kernel
theorem dX7_plans_8 : decode cX7_plans 8 = .ok (.getfield 35, 3) := by decide +kernel
theorem dX7_plans_11 : decode cX7_plans 11 = .ok (.iconst 0, 1) := by decide +kernel
theorem dX7_plans_12 : decode cX7_plans 12 = .ok (.aload_n 0, 1) := by decide +kernel
theorem dX7_plans_13 : decode cX7_plans 13 = .ok (.iconst 0, 1) := by decide +kernel
theorem dX7_plans_14 : decode cX7_plans 14 = .ok (.invokevirtual 66, 3) := by decide +kernel
theorem dX7_plans_17 : decode cX7_plans 17 = .ok (.iastore, 1) := by decide +kernel
theorem dX7_plans_18 : decode cX7_plans 18 = .ok (.iload_n 2, 1) := by decide +kernel
theorem dX7_plans_19 : decode cX7_plans 19 = .ok (.ifCond .lt 310, 3) := by decide +kernel
theorem dX7_plans_22 : decode cX7_plans 22 = .ok (.aload_n 0, 1) := by decide +kernel
theorem dX7_plans_23 : decode cX7_plans 23 = .ok (.getfield 32, 3) := by decide +kernel
theorem dX7_plans_26 : decode cX7_plans 26 = .ok (.iload_n 2, 1) := by decide +kernel
theorem dX7_plans_27 : decode cX7_plans 27 = .ok (.iaload, 1) := by decide +kernel
theorem dX7_plans_28 : decode cX7_plans 28 = .ok (.istore_n 3, 1) := by decide +kernel
theorem dX7_plans_29 : decode cX7_plans 29 = .ok (.iload_n 3, 1) := by decide +kernel
theorem dX7_plans_30 : decode cX7_plans 30 = .ok (.aload_n 0, 1) := by decide +kernel
theorem dX7_plans_31 : decode cX7_plans 31 = .ok (.getfield 7, 3) := by decide +kernel
theorem dX7_plans_34 : decode cX7_plans 34 = .ok (.iconst 0, 1) := by decide +kernel
theorem dX7_plans_35 : decode cX7_plans 35 = .ok (.iaload, 1) := by decide +kernel
theorem dX7_plans_36 : decode cX7_plans 36 = .ok (.if_icmp .ne 55, 3) := by decide +kernel
theorem dX7_plans_39 : decode cX7_plans 39 = .ok (.aload_n 0, 1) := by decide +kernel
theorem dX7_plans_40 : decode cX7_plans 40 = .ok (.getfield 136, 3) := by decide +kernel
theorem dX7_plans_43 : decode cX7_plans 43 = .ok (.iconst (-1), 1) := by decide +kernel
theorem dX7_plans_44 : decode cX7_plans 44 = .ok (.if_icmp .eq 42, 3) := by decide +kernel
theorem dX7_plans_47 : decode cX7_plans 47 = .ok (.aload_n 0, 1) := by decide +kernel
theorem dX7_plans_48 : decode cX7_plans 48 = .ok (.getfield 38, 3) := by decide +kernel
theorem dX7_plans_51 : decode cX7_plans 51 = .ok (.iload_n 2, 1) := by decide +kernel
theorem dX7_plans_52 : decode cX7_plans 52 = .ok (.iaload, 1) := by decide +kernel
theorem dX7_plans_53 : decode cX7_plans 53 = .ok (.aload_n 0, 1) := by decide +kernel
theorem dX7_plans_54 : decode cX7_plans 54 = .ok (.getfield 136, 3) := by decide +kernel
theorem dX7_plans_57 : decode cX7_plans 57 = .ok (.if_icmp .lt 29, 3) := by decide +kernel
theorem dX7_plans_60 : decode cX7_plans 60 = .ok (.aload_n 0, 1) := by decide +kernel
theorem dX7_plans_61 : decode cX7_plans 61 = .ok (.getfield 38, 3) := by decide +kernel
theorem dX7_plans_64 : decode cX7_plans 64 = .ok (.iload_n 2, 1) := by decide +kernel
theorem dX7_plans_65 : decode cX7_plans 65 = .ok (.iaload, 1) := by decide +kernel
theorem dX7_plans_66 : decode cX7_plans 66 = .ok (.aload_n 0, 1) := by decide +kernel
theorem dX7_plans_67 : decode cX7_plans 67 = .ok (.getfield 136, 3) := by decide +kernel
theorem dX7_plans_70 : decode cX7_plans 70 = .ok (.if_icmp .ne 21, 3) := by decide +kernel
theorem dX7_plans_73 : decode cX7_plans 73 = .ok (.aload_n 0, 1) := by decide +kernel
theorem dX7_plans_74 : decode cX7_plans 74 = .ok (.getfield 41, 3) := by decide +kernel
theorem dX7_plans_77 : decode cX7_plans 77 = .ok (.iload_n 2, 1) := by decide +kernel
theorem dX7_plans_78 : decode cX7_plans 78 = .ok (.iaload, 1) := by decide +kernel
theorem dX7_plans_79 : decode cX7_plans 79 = .ok (.aload_n 0, 1) := by decide +kernel
theorem dX7_plans_80 : decode cX7_plans 80 = .ok (.getfield 139, 3) := by decide +kernel
theorem dX7_plans_83 : decode cX7_plans 83 = .ok (.if_icmp .ge 8, 3) := by decide +kernel
theorem dX7_plans_86 : decode cX7_plans 86 = .ok (.aload_n 0, 1) := by decide +kernel
theorem dX7_plans_87 : decode cX7_plans 87 = .ok (.iload_n 2, 1) := by decide +kernel
theorem dX7_plans_88 : decode cX7_plans 88 = .ok (.invokevirtual 145, 3) := by decide +kernel
theorem dX7_plans_91 : decode cX7_plans 91 = .ok (.iload_n 3, 1) := by decide +kernel
theorem dX7_plans_92 : decode cX7_plans 92 = .ok (.aload_n 0, 1) := by decide +kernel
theorem dX7_plans_93 : decode cX7_plans 93 = .ok (.getfield 7, 3) := by decide +kernel
theorem dX7_plans_96 : decode cX7_plans 96 = .ok (.iconst 0, 1) := by decide +kernel
theorem dX7_plans_97 : decode cX7_plans 97 = .ok (.iaload, 1) := by decide +kernel
theorem dX7_plans_98 : decode cX7_plans 98 = .ok (.if_icmp .ne 7, 3) := by decide +kernel
theorem dX7_plans_101 : decode cX7_plans 101 = .ok (.iconst 0, 1) := by decide +kernel
theorem dX7_plans_102 : decode cX7_plans 102 = .ok (.goto 9, 3) := by decide +kernel
theorem dX7_plans_105 : decode cX7_plans 105 = .ok (.aload_n 0, 1) := by decide +kernel
theorem dX7_plans_106 : decode cX7_plans 106 = .ok (.getfield 35, 3) := by decide +kernel
theorem dX7_plans_109 : decode cX7_plans 109 = .ok (.iload_n 2, 1) := by decide +kernel
theorem dX7_plans_110 : decode cX7_plans 110 = .ok (.iaload, 1) := by decide +kernel
theorem dX7_plans_111 : decode cX7_plans 111 = .ok (.istore 4, 2) := by decide +kernel
theorem dX7_plans_113 : decode cX7_plans 113 = .ok (.iload 4, 2) := by decide +kernel
theorem dX7_plans_115 : decode cX7_plans 115 = .ok (.ifCond .ne 9, 3) := by decide +kernel
theorem dX7_plans_118 : decode cX7_plans 118 = .ok (.iinc 2 (-1), 3) := by decide +kernel
theorem dX7_plans_121 : decode cX7_plans 121 = .ok (.goto 205, 3) := by decide +kernel
theorem dX7_plans_124 : decode cX7_plans 124 = .ok (.aload_n 0, 1) := by decide +kernel
theorem dX7_plans_125 : decode cX7_plans 125 = .ok (.getfield 35, 3) := by decide +kernel
theorem dX7_plans_128 : decode cX7_plans 128 = .ok (.iload_n 2, 1) := by decide +kernel
theorem dX7_plans_129 : decode cX7_plans 129 = .ok (.dup2, 1) := by decide +kernel
theorem dX7_plans_130 : decode cX7_plans 130 = .ok (.iaload, 1) := by decide +kernel
theorem dX7_plans_131 : decode cX7_plans 131 = .ok (.iconst 1, 1) := by decide +kernel
theorem dX7_plans_132 : decode cX7_plans 132 = .ok (.isub, 1) := by decide +kernel
theorem dX7_plans_133 : decode cX7_plans 133 = .ok (.iastore, 1) := by decide +kernel
theorem dX7_plans_134 : decode cX7_plans 134 = .ok (.iload_n 3, 1) := by decide +kernel
theorem dX7_plans_135 : decode cX7_plans 135 = .ok (.iload 4, 2) := by decide +kernel
theorem dX7_plans_137 : decode cX7_plans 137 = .ok (.iadd, 1) := by decide +kernel
theorem dX7_plans_138 : decode cX7_plans 138 = .ok (.istore 5, 2) := by decide +kernel
theorem dX7_plans_140 : decode cX7_plans 140 = .ok (.aload_n 0, 1) := by decide +kernel
theorem dX7_plans_141 : decode cX7_plans 141 = .ok (.iload_n 3, 1) := by decide +kernel
theorem dX7_plans_142 : decode cX7_plans 142 = .ok (.iload 5, 2) := by decide +kernel
theorem dX7_plans_144 : decode cX7_plans 144 = .ok (.invokevirtual 149, 3) := by decide +kernel
theorem dX7_plans_147 : decode cX7_plans 147 = .ok (.ifCond .eq 29, 3) := by decide +kernel
theorem dX7_plans_150 : decode cX7_plans 150 = .ok (.aload_n 0, 1) := by decide +kernel
theorem dX7_plans_151 : decode cX7_plans 151 = .ok (.iload_n 2, 1) := by decide +kernel
theorem dX7_plans_152 : decode cX7_plans 152 = .ok (.ifCond .ne 7, 3) := by decide +kernel
theorem dX7_plans_155 : decode cX7_plans 155 = .ok (.iconst 0, 1) := by decide +kernel
theorem dX7_plans_156 : decode cX7_plans 156 = .ok (.goto 11, 3) := by decide +kernel
theorem dX7_plans_159 : decode cX7_plans 159 = .ok (.aload_n 0, 1) := by decide +kernel
theorem dX7_plans_160 : decode cX7_plans 160 = .ok (.getfield 32, 3) := by decide +kernel
theorem dX7_plans_163 : decode cX7_plans 163 = .ok (.iload_n 2, 1) := by decide +kernel
theorem dX7_plans_164 : decode cX7_plans 164 = .ok (.iconst 1, 1) := by decide +kernel
theorem dX7_plans_165 : decode cX7_plans 165 = .ok (.isub, 1) := by decide +kernel
theorem dX7_plans_166 : decode cX7_plans 166 = .ok (.iaload, 1) := by decide +kernel
theorem dX7_plans_167 : decode cX7_plans 167 = .ok (.iload_n 3, 1) := by decide +kernel
theorem dX7_plans_168 : decode cX7_plans 168 = .ok (.iload 5, 2) := by decide +kernel
theorem dX7_plans_170 : decode cX7_plans 170 = .ok (.invokevirtual 79, 3) := by decide +kernel
theorem dX7_plans_173 : decode cX7_plans 173 = .ok (.goto 6, 3) := by decide +kernel
theorem dX7_plans_176 : decode cX7_plans 176 = .ok (.iload_n 1, 1) := by decide +kernel
theorem dX7_plans_177 : decode cX7_plans 177 = .ok (.iconst 1, 1) := by decide +kernel
theorem dX7_plans_178 : decode cX7_plans 178 = .ok (.iadd, 1) := by decide +kernel
theorem dX7_plans_179 : decode cX7_plans 179 = .ok (.istore 6, 2) := by decide +kernel
theorem dX7_plans_181 : decode cX7_plans 181 = .ok (.iload 6, 2) := by decide +kernel
theorem dX7_plans_183 : decode cX7_plans 183 = .ok (.iload_n 1, 1) := by decide +kernel
theorem dX7_plans_184 : decode cX7_plans 184 = .ok (.if_icmp .gt 142, 3) := by decide +kernel
theorem dX7_plans_187 : decode cX7_plans 187 = .ok (.iload 5, 2) := by decide +kernel
theorem dX7_plans_189 : decode cX7_plans 189 = .ok (.aload_n 0, 1) := by decide +kernel
theorem dX7_plans_190 : decode cX7_plans 190 = .ok (.getfield 7, 3) := by decide +kernel
theorem dX7_plans_193 : decode cX7_plans 193 = .ok (.iconst 0, 1) := by decide +kernel
theorem dX7_plans_194 : decode cX7_plans 194 = .ok (.iaload, 1) := by decide +kernel
theorem dX7_plans_195 : decode cX7_plans 195 = .ok (.if_icmp .ne 7, 3) := by decide +kernel
theorem dX7_plans_198 : decode cX7_plans 198 = .ok (.iconst 0, 1) := by decide +kernel
theorem dX7_plans_199 : decode cX7_plans 199 = .ok (.goto 17, 3) := by decide +kernel
theorem dX7_plans_202 : decode cX7_plans 202 = .ok (.aload_n 0, 1) := by decide +kernel
theorem dX7_plans_203 : decode cX7_plans 203 = .ok (.getfield 7, 3) := by decide +kernel
theorem dX7_plans_206 : decode cX7_plans 206 = .ok (.iconst 1, 1) := by decide +kernel
theorem dX7_plans_207 : decode cX7_plans 207 = .ok (.iaload, 1) := by decide +kernel
theorem dX7_plans_208 : decode cX7_plans 208 = .ok (.aload_n 0, 1) := by decide +kernel
theorem dX7_plans_209 : decode cX7_plans 209 = .ok (.iload_n 3, 1) := by decide +kernel
theorem dX7_plans_210 : decode cX7_plans 210 = .ok (.iload 5, 2) := by decide +kernel
theorem dX7_plans_212 : decode cX7_plans 212 = .ok (.invokevirtual 58, 3) := by decide +kernel
theorem dX7_plans_215 : decode cX7_plans 215 = .ok (.isub, 1) := by decide +kernel
theorem dX7_plans_216 : decode cX7_plans 216 = .ok (.istore 7, 2) := by decide +kernel
theorem dX7_plans_218 : decode cX7_plans 218 = .ok (.aload_n 0, 1) := by decide +kernel
theorem dX7_plans_219 : decode cX7_plans 219 = .ok (.getfield 32, 3) := by decide +kernel
theorem dX7_plans_222 : decode cX7_plans 222 = .ok (.iload_n 2, 1) := by decide +kernel
theorem dX7_plans_223 : decode cX7_plans 223 = .ok (.iconst 1, 1) := by decide +kernel
theorem dX7_plans_224 : decode cX7_plans 224 = .ok (.iadd, 1) := by decide +kernel
theorem dX7_plans_225 : decode cX7_plans 225 = .ok (.iload 5, 2) := by decide +kernel
theorem dX7_plans_227 : decode cX7_plans 227 = .ok (.iastore, 1) := by decide +kernel
theorem dX7_plans_228 : decode cX7_plans 228 = .ok (.aload_n 0, 1) := by decide +kernel
theorem dX7_plans_229 : decode cX7_plans 229 = .ok (.getfield 35, 3) := by decide +kernel
theorem dX7_plans_232 : decode cX7_plans 232 = .ok (.iload_n 2, 1) := by decide +kernel
theorem dX7_plans_233 : decode cX7_plans 233 = .ok (.iconst 1, 1) := by decide +kernel
theorem dX7_plans_234 : decode cX7_plans 234 = .ok (.iadd, 1) := by decide +kernel
theorem dX7_plans_235 : decode cX7_plans 235 = .ok (.aload_n 0, 1) := by decide +kernel
theorem dX7_plans_236 : decode cX7_plans 236 = .ok (.iload 5, 2) := by decide +kernel
theorem dX7_plans_238 : decode cX7_plans 238 = .ok (.invokevirtual 66, 3) := by decide +kernel
theorem dX7_plans_241 : decode cX7_plans 241 = .ok (.iastore, 1) := by decide +kernel
theorem dX7_plans_242 : decode cX7_plans 242 = .ok (.aload_n 0, 1) := by decide +kernel
theorem dX7_plans_243 : decode cX7_plans 243 = .ok (.getfield 38, 3) := by decide +kernel
theorem dX7_plans_246 : decode cX7_plans 246 = .ok (.iload_n 2, 1) := by decide +kernel
theorem dX7_plans_247 : decode cX7_plans 247 = .ok (.iconst 1, 1) := by decide +kernel
theorem dX7_plans_248 : decode cX7_plans 248 = .ok (.iadd, 1) := by decide +kernel
theorem dX7_plans_249 : decode cX7_plans 249 = .ok (.aload_n 0, 1) := by decide +kernel
theorem dX7_plans_250 : decode cX7_plans 250 = .ok (.getfield 38, 3) := by decide +kernel
theorem dX7_plans_253 : decode cX7_plans 253 = .ok (.iload_n 2, 1) := by decide +kernel
theorem dX7_plans_254 : decode cX7_plans 254 = .ok (.iaload, 1) := by decide +kernel
theorem dX7_plans_255 : decode cX7_plans 255 = .ok (.aload_n 0, 1) := by decide +kernel
theorem dX7_plans_256 : decode cX7_plans 256 = .ok (.iload_n 3, 1) := by decide +kernel
theorem dX7_plans_257 : decode cX7_plans 257 = .ok (.iload 5, 2) := by decide +kernel
theorem dX7_plans_259 : decode cX7_plans 259 = .ok (.invokevirtual 130, 3) := by decide +kernel
theorem dX7_plans_262 : decode cX7_plans 262 = .ok (.iconst (-1), 1) := by decide +kernel
theorem dX7_plans_263 : decode cX7_plans 263 = .ok (.if_icmp .ne 7, 3) := by decide +kernel
theorem dX7_plans_266 : decode cX7_plans 266 = .ok (.iconst 1, 1) := by decide +kernel
theorem dX7_plans_267 : decode cX7_plans 267 = .ok (.goto 4, 3) := by decide +kernel
theorem dX7_plans_270 : decode cX7_plans 270 = .ok (.iconst 0, 1) := by decide +kernel
theorem dX7_plans_271 : decode cX7_plans 271 = .ok (.iadd, 1) := by decide +kernel
theorem dX7_plans_272 : decode cX7_plans 272 = .ok (.iastore, 1) := by decide +kernel
theorem dX7_plans_273 : decode cX7_plans 273 = .ok (.aload_n 0, 1) := by decide +kernel
theorem dX7_plans_274 : decode cX7_plans 274 = .ok (.getfield 41, 3) := by decide +kernel
theorem dX7_plans_277 : decode cX7_plans 277 = .ok (.iload_n 2, 1) := by decide +kernel
theorem dX7_plans_278 : decode cX7_plans 278 = .ok (.iconst 1, 1) := by decide +kernel
theorem dX7_plans_279 : decode cX7_plans 279 = .ok (.iadd, 1) := by decide +kernel
theorem dX7_plans_280 : decode cX7_plans 280 = .ok (.aload_n 0, 1) := by decide +kernel
theorem dX7_plans_281 : decode cX7_plans 281 = .ok (.getfield 41, 3) := by decide +kernel
theorem dX7_plans_284 : decode cX7_plans 284 = .ok (.iload_n 2, 1) := by decide +kernel
theorem dX7_plans_285 : decode cX7_plans 285 = .ok (.iaload, 1) := by decide +kernel
theorem dX7_plans_286 : decode cX7_plans 286 = .ok (.iload 7, 2) := by decide +kernel
theorem dX7_plans_288 : decode cX7_plans 288 = .ok (.iload 7, 2) := by decide +kernel
theorem dX7_plans_290 : decode cX7_plans 290 = .ok (.imul, 1) := by decide +kernel
theorem dX7_plans_291 : decode cX7_plans 291 = .ok (.iadd, 1) := by decide +kernel
theorem dX7_plans_292 : decode cX7_plans 292 = .ok (.iastore, 1) := by decide +kernel
theorem dX7_plans_293 : decode cX7_plans 293 = .ok (.aload_n 0, 1) := by decide +kernel
theorem dX7_plans_294 : decode cX7_plans 294 = .ok (.getfield 44, 3) := by decide +kernel
theorem dX7_plans_297 : decode cX7_plans 297 = .ok (.iload_n 2, 1) := by decide +kernel
theorem dX7_plans_298 : decode cX7_plans 298 = .ok (.iconst 1, 1) := by decide +kernel
theorem dX7_plans_299 : decode cX7_plans 299 = .ok (.iadd, 1) := by decide +kernel
theorem dX7_plans_300 : decode cX7_plans 300 = .ok (.iload 6, 2) := by decide +kernel
theorem dX7_plans_302 : decode cX7_plans 302 = .ok (.aload_n 0, 1) := by decide +kernel
theorem dX7_plans_303 : decode cX7_plans 303 = .ok (.getfield 44, 3) := by decide +kernel
theorem dX7_plans_306 : decode cX7_plans 306 = .ok (.iload_n 2, 1) := by decide +kernel
theorem dX7_plans_307 : decode cX7_plans 307 = .ok (.iaload, 1) := by decide +kernel
theorem dX7_plans_308 : decode cX7_plans 308 = .ok (.if_icmp .le 8, 3) := by decide +kernel
theorem dX7_plans_311 : decode cX7_plans 311 = .ok (.iload 6, 2) := by decide +kernel
theorem dX7_plans_313 : decode cX7_plans 313 = .ok (.goto 9, 3) := by decide +kernel
theorem dX7_plans_316 : decode cX7_plans 316 = .ok (.aload_n 0, 1) := by decide +kernel
theorem dX7_plans_317 : decode cX7_plans 317 = .ok (.getfield 44, 3) := by decide +kernel
theorem dX7_plans_320 : decode cX7_plans 320 = .ok (.iload_n 2, 1) := by decide +kernel
theorem dX7_plans_321 : decode cX7_plans 321 = .ok (.iaload, 1) := by decide +kernel
theorem dX7_plans_322 : decode cX7_plans 322 = .ok (.iastore, 1) := by decide +kernel
theorem dX7_plans_323 : decode cX7_plans 323 = .ok (.iinc 2 1, 3) := by decide +kernel
theorem dX7_plans_326 : decode cX7_plans 326 = .ok (.goto (-308), 3) := by decide +kernel
theorem dX7_plans_329 : decode cX7_plans 329 = .ok (.aload_n 0, 1) := by decide +kernel
theorem dX7_plans_330 : decode cX7_plans 330 = .ok (.getfield 136, 3) := by decide +kernel
theorem dX7_plans_333 : decode cX7_plans 333 = .ok (.iconst (-1), 1) := by decide +kernel
theorem dX7_plans_334 : decode cX7_plans 334 = .ok (.if_icmp .eq 7, 3) := by decide +kernel
theorem dX7_plans_337 : decode cX7_plans 337 = .ok (.iconst 1, 1) := by decide +kernel
theorem dX7_plans_338 : decode cX7_plans 338 = .ok (.goto 4, 3) := by decide +kernel
theorem dX7_plans_341 : decode cX7_plans 341 = .ok (.iconst 0, 1) := by decide +kernel
theorem dX7_plans_342 : decode cX7_plans 342 = .ok (.ireturn, 1) := by decide +kernel
set_option maxRecDepth 20000 in
theorem ggX7_isLength_X7_in : GoodIn wsX7_isLength wsX7_in := goodIn_r _ [4] (by decide +kernel) (by decide +kernel)
set_option maxRecDepth 20000 in
theorem gX7_isLength_X7_in : GoodIn wsX7_isLength (va_wsS RX7 50 yX7_in wsX7_in) := goodIn_app (goodIn_of _ (by decide +kernel)) ggX7_isLength_X7_in
theorem dX7_isLength_0 : decode cX7_isLength 0 = .ok (.iload_n 0, 1) := by decide +kernel
theorem dX7_isLength_1 : decode cX7_isLength 1 = .ok (.iconst 1, 1) := by decide +kernel
theorem dX7_isLength_2 : decode cX7_isLength 2 = .ok (.bipush 24, 2) := by decide +kernel
theorem dX7_isLength_4 : decode cX7_isLength 4 = .ok (.invokestatic 50, 3) := by decide +kernel
theorem dX7_isLength_7 : decode cX7_isLength 7 = .ok (.ireturn, 1) := by decide +kernel
set_option maxRecDepth 20000 in
theorem ggX7_plan_X7_isLength : GoodIn wsX7_plan wsX7_isLength := goodIn_r _ [8, 9, 10, 7, 11] (by decide +kernel) (by decide +kernel)
set_option maxRecDepth 20000 in
theorem gX7_plan_X7_isLength : GoodIn wsX7_plan (va_wsS RX7 152 yX7_isLength wsX7_isLength) := goodIn_app (goodIn_of _ (by decide +kernel)) ggX7_plan_X7_isLength
set_option maxRecDepth 20000 in
theorem ggX7_plan_X7_in : GoodIn wsX7_plan wsX7_in := goodIn_r _ [11] (by decide +kernel) (by decide +kernel)
set_option maxRecDepth 20000 in
theorem gX7_plan_X7_in : GoodIn wsX7_plan (va_wsS RX7 50 yX7_in wsX7_in) := goodIn_app (goodIn_of _ (by decide +kernel)) ggX7_plan_X7_in
set_option maxRecDepth 20000 in
theorem ggX7_plan_X7_plans : GoodIn wsX7_plan wsX7_plans := goodIn_r _ [15, 1, 16, 17, 18, 19, 20, 3, 21, 22, 23, 24, 7, 25, 26, 27, 28, 29, 30, 31, 32, 33, 34, 35, 36, 37, 2, 4, 38, 39, 40, 41, 42, 43, 44, 45, 46, 47, 48, 49, 50, 51, 52, 53, 54, 55, 56, 57, 58, 59, 60, 61, 62, 63, 64, 65, 66, 67, 68, 69, 70, 71, 72, 73, 74, 75, 76, 77, 78, 79, 80, 81, 82, 83, 84, 85] (by decide +kernel) (by decide +kernel)
set_option maxRecDepth 20000 in
theorem gX7_plan_X7_plans : GoodIn wsX7_plan (wsV RX7 155 RX7 yX7_plans wsX7_plans) := goodIn_app (goodIn_of _ (by decide +kernel)) ggX7_plan_X7_plans
theorem dX7_plan_0 : decode cX7_plan 0 = .ok (.iload_n 1, 1) := by decide +kernel
theorem dX7_plan_1 : decode cX7_plan 1 = .ok (.invokestatic 152, 3) := by decide +kernel
theorem dX7_plan_4 : decode cX7_plan 4 = .ok (.ifCond .eq 12, 3) := by decide +kernel
theorem dX7_plan_7 : decode cX7_plan 7 = .ok (.iload_n 2, 1) := by decide +kernel
theorem dX7_plan_8 : decode cX7_plan 8 = .ok (.iconst 0, 1) := by decide +kernel
theorem dX7_plan_9 : decode cX7_plan 9 = .ok (.iconst 3, 1) := by decide +kernel
theorem dX7_plan_10 : decode cX7_plan 10 = .ok (.invokestatic 50, 3) := by decide +kernel
theorem dX7_plan_13 : decode cX7_plan 13 = .ok (.ifCond .ne 5, 3) := by decide +kernel
theorem dX7_plan_16 : decode cX7_plan 16 = .ok (.iconst (-1), 1) := by decide +kernel
theorem dX7_plan_17 : decode cX7_plan 17 = .ok (.ireturn, 1) := by decide +kernel
theorem dX7_plan_18 : decode cX7_plan 18 = .ok (.aload_n 0, 1) := by decide +kernel
theorem dX7_plan_19 : decode cX7_plan 19 = .ok (.iload_n 1, 1) := by decide +kernel
theorem dX7_plan_20 : decode cX7_plan 20 = .ok (.invokevirtual 155, 3) := by decide +kernel
theorem dX7_plan_23 : decode cX7_plan 23 = .ok (.ifCond .ne 6, 3) := by decide +kernel
theorem dX7_plan_26 : decode cX7_plan 26 = .ok (.bipush (-4), 2) := by decide +kernel
theorem dX7_plan_28 : decode cX7_plan 28 = .ok (.ireturn, 1) := by decide +kernel
theorem dX7_plan_29 : decode cX7_plan 29 = .ok (.iload_n 2, 1) := by decide +kernel
theorem dX7_plan_30 : decode cX7_plan 30 = .ok (.ifCond .ne 10, 3) := by decide +kernel
theorem dX7_plan_33 : decode cX7_plan 33 = .ok (.aload_n 0, 1) := by decide +kernel
theorem dX7_plan_34 : decode cX7_plan 34 = .ok (.getfield 136, 3) := by decide +kernel
theorem dX7_plan_37 : decode cX7_plan 37 = .ok (.goto 31, 3) := by decide +kernel
theorem dX7_plan_40 : decode cX7_plan 40 = .ok (.iload_n 2, 1) := by decide +kernel
theorem dX7_plan_41 : decode cX7_plan 41 = .ok (.iconst 1, 1) := by decide +kernel
theorem dX7_plan_42 : decode cX7_plan 42 = .ok (.if_icmp .ne 10, 3) := by decide +kernel
theorem dX7_plan_45 : decode cX7_plan 45 = .ok (.aload_n 0, 1) := by decide +kernel
theorem dX7_plan_46 : decode cX7_plan 46 = .ok (.getfield 133, 3) := by decide +kernel
theorem dX7_plan_49 : decode cX7_plan 49 = .ok (.goto 19, 3) := by decide +kernel
theorem dX7_plan_52 : decode cX7_plan 52 = .ok (.iload_n 2, 1) := by decide +kernel
theorem dX7_plan_53 : decode cX7_plan 53 = .ok (.iconst 2, 1) := by decide +kernel
theorem dX7_plan_54 : decode cX7_plan 54 = .ok (.if_icmp .ne 10, 3) := by decide +kernel
theorem dX7_plan_57 : decode cX7_plan 57 = .ok (.aload_n 0, 1) := by decide +kernel
theorem dX7_plan_58 : decode cX7_plan 58 = .ok (.getfield 139, 3) := by decide +kernel
theorem dX7_plan_61 : decode cX7_plan 61 = .ok (.goto 7, 3) := by decide +kernel
theorem dX7_plan_64 : decode cX7_plan 64 = .ok (.aload_n 0, 1) := by decide +kernel
theorem dX7_plan_65 : decode cX7_plan 65 = .ok (.getfield 142, 3) := by decide +kernel
theorem dX7_plan_68 : decode cX7_plan 68 = .ok (.ireturn, 1) := by decide +kernel
set_option maxRecDepth 20000 in
theorem ggX7_planned_X7_isLength : GoodIn wsX7_planned wsX7_isLength := goodIn_r _ [6, 7, 8, 5, 9] (by decide +kernel) (by decide +kernel)
set_option maxRecDepth 20000 in
theorem gX7_planned_X7_isLength : GoodIn wsX7_planned (va_wsS RX7 152 yX7_isLength wsX7_isLength) := goodIn_app (goodIn_of _ (by decide +kernel)) ggX7_planned_X7_isLength
set_option maxRecDepth 20000 in
theorem ggX7_planned_X7_plans : GoodIn wsX7_planned wsX7_plans := goodIn_r _ [13, 14, 15, 16, 17, 18, 19, 20, 21, 22, 23, 24, 5, 25, 26, 27, 28, 29, 30, 31, 32, 33, 34, 35, 36, 37, 1, 38, 2, 39, 40, 41, 42, 43, 44, 45, 46, 47, 48, 49, 50, 51, 52, 53, 54, 55, 56, 57, 58, 59, 60, 61, 62, 63, 64, 65, 66, 67, 68, 69, 70, 71, 72, 73, 74, 75, 76, 77, 78, 79, 80, 81, 82, 83, 84, 85] (by decide +kernel) (by decide +kernel)
set_option maxRecDepth 20000 in
theorem gX7_planned_X7_plans : GoodIn wsX7_planned (wsV RX7 155 RX7 yX7_plans wsX7_plans) := goodIn_app (goodIn_of _ (by decide +kernel)) ggX7_planned_X7_plans
theorem dX7_planned_0 : decode cX7_planned 0 = .ok (.iload_n 1, 1) := by decide +kernel
theorem dX7_planned_1 : decode cX7_planned 1 = .ok (.invokestatic 152, 3) := by decide +kernel
theorem dX7_planned_4 : decode cX7_planned 4 = .ok (.ifCond .eq 7, 3) := by decide +kernel
theorem dX7_planned_7 : decode cX7_planned 7 = .ok (.iload_n 2, 1) := by decide +kernel
theorem dX7_planned_8 : decode cX7_planned 8 = .ok (.ifCond .ge 5, 3) := by decide +kernel
theorem dX7_planned_11 : decode cX7_planned 11 = .ok (.iconst (-1), 1) := by decide +kernel
theorem dX7_planned_12 : decode cX7_planned 12 = .ok (.ireturn, 1) := by decide +kernel
theorem dX7_planned_13 : decode cX7_planned 13 = .ok (.aload_n 0, 1) := by decide +kernel
theorem dX7_planned_14 : decode cX7_planned 14 = .ok (.iload_n 1, 1) := by decide +kernel
theorem dX7_planned_15 : decode cX7_planned 15 = .ok (.invokevirtual 155, 3) := by decide +kernel
theorem dX7_planned_18 : decode cX7_planned 18 = .ok (.ifCond .eq 29, 3) := by decide +kernel
theorem dX7_planned_21 : decode cX7_planned 21 = .ok (.iload_n 2, 1) := by decide +kernel
theorem dX7_planned_22 : decode cX7_planned 22 = .ok (.aload_n 0, 1) := by decide +kernel
theorem dX7_planned_23 : decode cX7_planned 23 = .ok (.getfield 133, 3) := by decide +kernel
theorem dX7_planned_26 : decode cX7_planned 26 = .ok (.if_icmp .ge 21, 3) := by decide +kernel
theorem dX7_planned_29 : decode cX7_planned 29 = .ok (.aload_n 0, 1) := by decide +kernel
theorem dX7_planned_30 : decode cX7_planned 30 = .ok (.getfield 47, 3) := by decide +kernel
theorem dX7_planned_33 : decode cX7_planned 33 = .ok (.iload_n 2, 1) := by decide +kernel
theorem dX7_planned_34 : decode cX7_planned 34 = .ok (.iconst 1, 1) := by decide +kernel
theorem dX7_planned_35 : decode cX7_planned 35 = .ok (.iadd, 1) := by decide +kernel
theorem dX7_planned_36 : decode cX7_planned 36 = .ok (.iaload, 1) := by decide +kernel
theorem dX7_planned_37 : decode cX7_planned 37 = .ok (.aload_n 0, 1) := by decide +kernel
theorem dX7_planned_38 : decode cX7_planned 38 = .ok (.getfield 47, 3) := by decide +kernel
theorem dX7_planned_41 : decode cX7_planned 41 = .ok (.iload_n 2, 1) := by decide +kernel
theorem dX7_planned_42 : decode cX7_planned 42 = .ok (.iaload, 1) := by decide +kernel
theorem dX7_planned_43 : decode cX7_planned 43 = .ok (.isub, 1) := by decide +kernel
theorem dX7_planned_44 : decode cX7_planned 44 = .ok (.goto 5, 3) := by decide +kernel
theorem dX7_planned_47 : decode cX7_planned 47 = .ok (.bipush (-4), 2) := by decide +kernel
theorem dX7_planned_49 : decode cX7_planned 49 = .ok (.ireturn, 1) := by decide +kernel
set_option maxRecDepth 20000 in
theorem ggX7_dam_X7_isLength : GoodIn wsX7_dam wsX7_isLength := goodIn_r _ [9, 10, 11, 8, 12] (by decide +kernel) (by decide +kernel)
set_option maxRecDepth 20000 in
theorem gX7_dam_X7_isLength : GoodIn wsX7_dam (va_wsS RX7 152 yX7_isLength wsX7_isLength) := goodIn_app (goodIn_of _ (by decide +kernel)) ggX7_dam_X7_isLength
set_option maxRecDepth 20000 in
theorem ggX7_dam_X7_plans : GoodIn wsX7_dam wsX7_plans := goodIn_r _ [16, 5, 3, 17, 4, 18, 19, 20, 21, 22, 23, 24, 8, 25, 26, 27, 28, 29, 30, 31, 32, 33, 34, 35, 36, 37, 1, 38, 2, 39, 40, 41, 42, 43, 44, 45, 46, 47, 48, 49, 50, 51, 52, 53, 54, 55, 56, 57, 58, 59, 60, 61, 62, 63, 64, 65, 66, 73, 74, 75, 76, 77, 78, 79, 80, 81, 82, 83, 84, 85, 86, 87, 88, 89, 90, 91] (by decide +kernel) (by decide +kernel)
set_option maxRecDepth 20000 in
theorem gX7_dam_X7_plans : GoodIn wsX7_dam (wsV RX7 155 RX7 yX7_plans wsX7_plans) := goodIn_app (goodIn_of _ (by decide +kernel)) ggX7_dam_X7_plans
set_option maxRecDepth 20000 in
theorem ggX7_dam_X7_records : GoodIn wsX7_dam wsX7_records := goodIn_r _ [70, 71, 72, 4, 73, 74, 75, 76, 77, 78, 79, 80, 81, 82, 83, 84, 85, 86, 87, 88, 89, 90, 91] (by decide +kernel) (by decide +kernel)
set_option maxRecDepth 20000 in
theorem gX7_dam_X7_records : GoodIn wsX7_dam (wsV RX7 90 RX7 yX7_records wsX7_records) := goodIn_app (goodIn_of _ (by decide +kernel)) ggX7_dam_X7_records
set_option maxRecDepth 20000 in
theorem ggX7_dam_X7_nowLine : GoodIn wsX7_dam wsX7_nowLine := goodIn_r _ [46, 4, 47, 48, 49, 8, 50, 51, 52, 53, 54, 73, 74, 75, 76, 77, 78, 79, 80, 81, 82, 83, 84, 85, 86, 87, 88, 89, 90, 91] (by decide +kernel) (by decide +kernel)
set_option maxRecDepth 20000 in
theorem gX7_dam_X7_nowLine : GoodIn wsX7_dam (wsV RX7 130 RX7 yX7_nowLine wsX7_nowLine) := goodIn_app (goodIn_of _ (by decide +kernel)) ggX7_dam_X7_nowLine
theorem dX7_dam_0 : decode cX7_dam 0 = .ok (.iload_n 1, 1) := by decide +kernel
theorem dX7_dam_1 : decode cX7_dam 1 = .ok (.invokestatic 152, 3) := by decide +kernel
theorem dX7_dam_4 : decode cX7_dam 4 = .ok (.ifCond .ne 5, 3) := by decide +kernel
theorem dX7_dam_7 : decode cX7_dam 7 = .ok (.iconst (-1), 1) := by decide +kernel
theorem dX7_dam_8 : decode cX7_dam 8 = .ok (.ireturn, 1) := by decide +kernel
theorem dX7_dam_9 : decode cX7_dam 9 = .ok (.aload_n 0, 1) := by decide +kernel
theorem dX7_dam_10 : decode cX7_dam 10 = .ok (.iload_n 1, 1) := by decide +kernel
theorem dX7_dam_11 : decode cX7_dam 11 = .ok (.invokevirtual 155, 3) := by decide +kernel
theorem dX7_dam_14 : decode cX7_dam 14 = .ok (.ifCond .ne 6, 3) := by decide +kernel
theorem dX7_dam_17 : decode cX7_dam 17 = .ok (.bipush (-2), 2) := by decide +kernel
theorem dX7_dam_19 : decode cX7_dam 19 = .ok (.ireturn, 1) := by decide +kernel
theorem dX7_dam_20 : decode cX7_dam 20 = .ok (.aload_n 0, 1) := by decide +kernel
theorem dX7_dam_21 : decode cX7_dam 21 = .ok (.invokevirtual 90, 3) := by decide +kernel
theorem dX7_dam_24 : decode cX7_dam 24 = .ok (.iconst 0, 1) := by decide +kernel
theorem dX7_dam_25 : decode cX7_dam 25 = .ok (.istore_n 2, 1) := by decide +kernel
theorem dX7_dam_26 : decode cX7_dam 26 = .ok (.iload_n 2, 1) := by decide +kernel
theorem dX7_dam_27 : decode cX7_dam 27 = .ok (.aload_n 0, 1) := by decide +kernel
theorem dX7_dam_28 : decode cX7_dam 28 = .ok (.getfield 133, 3) := by decide +kernel
theorem dX7_dam_31 : decode cX7_dam 31 = .ok (.if_icmp .ge 52, 3) := by decide +kernel
theorem dX7_dam_34 : decode cX7_dam 34 = .ok (.aload_n 0, 1) := by decide +kernel
theorem dX7_dam_35 : decode cX7_dam 35 = .ok (.aload_n 0, 1) := by decide +kernel
theorem dX7_dam_36 : decode cX7_dam 36 = .ok (.getfield 47, 3) := by decide +kernel
theorem dX7_dam_39 : decode cX7_dam 39 = .ok (.iload_n 2, 1) := by decide +kernel
theorem dX7_dam_40 : decode cX7_dam 40 = .ok (.iaload, 1) := by decide +kernel
theorem dX7_dam_41 : decode cX7_dam 41 = .ok (.aload_n 0, 1) := by decide +kernel
theorem dX7_dam_42 : decode cX7_dam 42 = .ok (.getfield 47, 3) := by decide +kernel
theorem dX7_dam_45 : decode cX7_dam 45 = .ok (.iload_n 2, 1) := by decide +kernel
theorem dX7_dam_46 : decode cX7_dam 46 = .ok (.iconst 1, 1) := by decide +kernel
theorem dX7_dam_47 : decode cX7_dam 47 = .ok (.iadd, 1) := by decide +kernel
theorem dX7_dam_48 : decode cX7_dam 48 = .ok (.iaload, 1) := by decide +kernel
theorem dX7_dam_49 : decode cX7_dam 49 = .ok (.invokevirtual 130, 3) := by decide +kernel
theorem dX7_dam_52 : decode cX7_dam 52 = .ok (.istore_n 3, 1) := by decide +kernel
theorem dX7_dam_53 : decode cX7_dam 53 = .ok (.aload_n 0, 1) := by decide +kernel
theorem dX7_dam_54 : decode cX7_dam 54 = .ok (.getfield 35, 3) := by decide +kernel
theorem dX7_dam_57 : decode cX7_dam 57 = .ok (.iload_n 2, 1) := by decide +kernel
theorem dX7_dam_58 : decode cX7_dam 58 = .ok (.iload_n 3, 1) := by decide +kernel
theorem dX7_dam_59 : decode cX7_dam 59 = .ok (.iconst (-1), 1) := by decide +kernel
theorem dX7_dam_60 : decode cX7_dam 60 = .ok (.if_icmp .ne 7, 3) := by decide +kernel
theorem dX7_dam_63 : decode cX7_dam 63 = .ok (.iconst 0, 1) := by decide +kernel
theorem dX7_dam_64 : decode cX7_dam 64 = .ok (.goto 12, 3) := by decide +kernel
theorem dX7_dam_67 : decode cX7_dam 67 = .ok (.aload_n 0, 1) := by decide +kernel
theorem dX7_dam_68 : decode cX7_dam 68 = .ok (.getfield 7, 3) := by decide +kernel
theorem dX7_dam_71 : decode cX7_dam 71 = .ok (.bipush 53, 2) := by decide +kernel
theorem dX7_dam_73 : decode cX7_dam 73 = .ok (.iload_n 3, 1) := by decide +kernel
theorem dX7_dam_74 : decode cX7_dam 74 = .ok (.iadd, 1) := by decide +kernel
theorem dX7_dam_75 : decode cX7_dam 75 = .ok (.iaload, 1) := by decide +kernel
theorem dX7_dam_76 : decode cX7_dam 76 = .ok (.iastore, 1) := by decide +kernel
theorem dX7_dam_77 : decode cX7_dam 77 = .ok (.iinc 2 1, 3) := by decide +kernel
theorem dX7_dam_80 : decode cX7_dam 80 = .ok (.goto (-54), 3) := by decide +kernel
theorem dX7_dam_83 : decode cX7_dam 83 = .ok (.aload_n 0, 1) := by decide +kernel
theorem dX7_dam_84 : decode cX7_dam 84 = .ok (.getfield 7, 3) := by decide +kernel
theorem dX7_dam_87 : decode cX7_dam 87 = .ok (.iconst 3, 1) := by decide +kernel
theorem dX7_dam_88 : decode cX7_dam 88 = .ok (.aload_n 0, 1) := by decide +kernel
theorem dX7_dam_89 : decode cX7_dam 89 = .ok (.getfield 133, 3) := by decide +kernel
theorem dX7_dam_92 : decode cX7_dam 92 = .ok (.iastore, 1) := by decide +kernel
theorem dX7_dam_93 : decode cX7_dam 93 = .ok (.iconst 0, 1) := by decide +kernel
theorem dX7_dam_94 : decode cX7_dam 94 = .ok (.istore_n 2, 1) := by decide +kernel
theorem dX7_dam_95 : decode cX7_dam 95 = .ok (.iload_n 2, 1) := by decide +kernel
theorem dX7_dam_96 : decode cX7_dam 96 = .ok (.aload_n 0, 1) := by decide +kernel
theorem dX7_dam_97 : decode cX7_dam 97 = .ok (.getfield 133, 3) := by decide +kernel
theorem dX7_dam_100 : decode cX7_dam 100 = .ok (.if_icmp .ge 39, 3) := by decide +kernel
theorem dX7_dam_103 : decode cX7_dam 103 = .ok (.aload_n 0, 1) := by decide +kernel
theorem dX7_dam_104 : decode cX7_dam 104 = .ok (.getfield 7, 3) := by decide +kernel
theorem dX7_dam_107 : decode cX7_dam 107 = .ok (.bipush 28, 2) := by decide +kernel
theorem dX7_dam_109 : decode cX7_dam 109 = .ok (.iload_n 2, 1) := by decide +kernel
theorem dX7_dam_110 : decode cX7_dam 110 = .ok (.iadd, 1) := by decide +kernel
theorem dX7_dam_111 : decode cX7_dam 111 = .ok (.aload_n 0, 1) := by decide +kernel
theorem dX7_dam_112 : decode cX7_dam 112 = .ok (.getfield 47, 3) := by decide +kernel
theorem dX7_dam_115 : decode cX7_dam 115 = .ok (.iload_n 2, 1) := by decide +kernel
theorem dX7_dam_116 : decode cX7_dam 116 = .ok (.iaload, 1) := by decide +kernel
theorem dX7_dam_117 : decode cX7_dam 117 = .ok (.iastore, 1) := by decide +kernel
theorem dX7_dam_118 : decode cX7_dam 118 = .ok (.aload_n 0, 1) := by decide +kernel
theorem dX7_dam_119 : decode cX7_dam 119 = .ok (.getfield 7, 3) := by decide +kernel
theorem dX7_dam_122 : decode cX7_dam 122 = .ok (.bipush 53, 2) := by decide +kernel
theorem dX7_dam_124 : decode cX7_dam 124 = .ok (.iload_n 2, 1) := by decide +kernel
theorem dX7_dam_125 : decode cX7_dam 125 = .ok (.iadd, 1) := by decide +kernel
theorem dX7_dam_126 : decode cX7_dam 126 = .ok (.aload_n 0, 1) := by decide +kernel
theorem dX7_dam_127 : decode cX7_dam 127 = .ok (.getfield 35, 3) := by decide +kernel
theorem dX7_dam_130 : decode cX7_dam 130 = .ok (.iload_n 2, 1) := by decide +kernel
theorem dX7_dam_131 : decode cX7_dam 131 = .ok (.iaload, 1) := by decide +kernel
theorem dX7_dam_132 : decode cX7_dam 132 = .ok (.iastore, 1) := by decide +kernel
theorem dX7_dam_133 : decode cX7_dam 133 = .ok (.iinc 2 1, 3) := by decide +kernel
theorem dX7_dam_136 : decode cX7_dam 136 = .ok (.goto (-41), 3) := by decide +kernel
theorem dX7_dam_139 : decode cX7_dam 139 = .ok (.aload_n 0, 1) := by decide +kernel
theorem dX7_dam_140 : decode cX7_dam 140 = .ok (.getfield 136, 3) := by decide +kernel
theorem dX7_dam_143 : decode cX7_dam 143 = .ok (.ireturn, 1) := by decide +kernel
set_option maxRecDepth 20000 in
theorem ggX7_leastRiver_X7_plans : GoodIn wsX7_leastRiver wsX7_plans := goodIn_r _ [5, 6, 7, 8, 9, 10, 11, 12, 13, 14, 15, 16, 4, 17, 18, 19, 20, 21, 22, 23, 24, 25, 26, 27, 28, 29, 30, 31, 32, 33, 34, 35, 36, 37, 38, 39, 40, 41, 42, 43, 44, 45, 46, 47, 48, 49, 50, 51, 52, 53, 54, 55, 56, 57, 58, 59, 60, 61, 62, 63, 64, 65, 66, 67, 68, 69, 70, 71, 72, 73, 74, 75, 76, 77, 78, 79] (by decide +kernel) (by decide +kernel)
set_option maxRecDepth 20000 in
theorem gX7_leastRiver_X7_plans : GoodIn wsX7_leastRiver (wsV RX7 155 RX7 yX7_plans wsX7_plans) := goodIn_app (goodIn_of _ (by decide +kernel)) ggX7_leastRiver_X7_plans
theorem dX7_leastRiver_0 : decode cX7_leastRiver 0 = .ok (.iconst 1, 1) := by decide +kernel
theorem dX7_leastRiver_1 : decode cX7_leastRiver 1 = .ok (.istore_n 1, 1) := by decide +kernel
theorem dX7_leastRiver_2 : decode cX7_leastRiver 2 = .ok (.iload_n 1, 1) := by decide +kernel
theorem dX7_leastRiver_3 : decode cX7_leastRiver 3 = .ok (.bipush 24, 2) := by decide +kernel
theorem dX7_leastRiver_5 : decode cX7_leastRiver 5 = .ok (.if_icmp .gt 19, 3) := by decide +kernel
theorem dX7_leastRiver_8 : decode cX7_leastRiver 8 = .ok (.aload_n 0, 1) := by decide +kernel
theorem dX7_leastRiver_9 : decode cX7_leastRiver 9 = .ok (.iload_n 1, 1) := by decide +kernel
theorem dX7_leastRiver_10 : decode cX7_leastRiver 10 = .ok (.invokevirtual 155, 3) := by decide +kernel
theorem dX7_leastRiver_13 : decode cX7_leastRiver 13 = .ok (.ifCond .eq 5, 3) := by decide +kernel
theorem dX7_leastRiver_16 : decode cX7_leastRiver 16 = .ok (.iload_n 1, 1) := by decide +kernel
theorem dX7_leastRiver_17 : decode cX7_leastRiver 17 = .ok (.ireturn, 1) := by decide +kernel
theorem dX7_leastRiver_18 : decode cX7_leastRiver 18 = .ok (.iinc 1 1, 3) := by decide +kernel
theorem dX7_leastRiver_21 : decode cX7_leastRiver 21 = .ok (.goto (-19), 3) := by decide +kernel
theorem dX7_leastRiver_24 : decode cX7_leastRiver 24 = .ok (.bipush (-4), 2) := by decide +kernel
theorem dX7_leastRiver_26 : decode cX7_leastRiver 26 = .ok (.ireturn, 1) := by decide +kernel
set_option maxRecDepth 20000 in
theorem ggX7_type_X7_in : GoodIn wsX7_type wsX7_in := goodIn_r _ [6] (by decide +kernel) (by decide +kernel)
set_option maxRecDepth 20000 in
theorem gX7_type_X7_in : GoodIn wsX7_type (va_wsS RX7 50 yX7_in wsX7_in) := goodIn_app (goodIn_of _ (by decide +kernel)) ggX7_type_X7_in
theorem dX7_type_0 : decode cX7_type 0 = .ok (.iload_n 1, 1) := by decide +kernel
theorem dX7_type_1 : decode cX7_type 1 = .ok (.bipush 32, 2) := by decide +kernel
theorem dX7_type_3 : decode cX7_type 3 = .ok (.bipush 126, 2) := by decide +kernel
theorem dX7_type_5 : decode cX7_type 5 = .ok (.invokestatic 50, 3) := by decide +kernel
theorem dX7_type_8 : decode cX7_type 8 = .ok (.ifCond .ne 5, 3) := by decide +kernel
theorem dX7_type_11 : decode cX7_type 11 = .ok (.iconst (-1), 1) := by decide +kernel
theorem dX7_type_12 : decode cX7_type 12 = .ok (.ireturn, 1) := by decide +kernel
theorem dX7_type_13 : decode cX7_type 13 = .ok (.aload_n 0, 1) := by decide +kernel
theorem dX7_type_14 : decode cX7_type 14 = .ok (.getfield 118, 3) := by decide +kernel
theorem dX7_type_17 : decode cX7_type 17 = .ok (.bipush 100, 2) := by decide +kernel
theorem dX7_type_19 : decode cX7_type 19 = .ok (.if_icmp .ne 6, 3) := by decide +kernel
theorem dX7_type_22 : decode cX7_type 22 = .ok (.bipush (-3), 2) := by decide +kernel
theorem dX7_type_24 : decode cX7_type 24 = .ok (.ireturn, 1) := by decide +kernel
theorem dX7_type_25 : decode cX7_type 25 = .ok (.aload_n 0, 1) := by decide +kernel
theorem dX7_type_26 : decode cX7_type 26 = .ok (.getfield 16, 3) := by decide +kernel
theorem dX7_type_29 : decode cX7_type 29 = .ok (.aload_n 0, 1) := by decide +kernel
theorem dX7_type_30 : decode cX7_type 30 = .ok (.getfield 118, 3) := by decide +kernel
theorem dX7_type_33 : decode cX7_type 33 = .ok (.iload_n 1, 1) := by decide +kernel
theorem dX7_type_34 : decode cX7_type 34 = .ok (.i2c, 1) := by decide +kernel
theorem dX7_type_35 : decode cX7_type 35 = .ok (.castore, 1) := by decide +kernel
theorem dX7_type_36 : decode cX7_type 36 = .ok (.aload_n 0, 1) := by decide +kernel
theorem dX7_type_37 : decode cX7_type 37 = .ok (.dup, 1) := by decide +kernel
theorem dX7_type_38 : decode cX7_type 38 = .ok (.getfield 118, 3) := by decide +kernel
theorem dX7_type_41 : decode cX7_type 41 = .ok (.iconst 1, 1) := by decide +kernel
theorem dX7_type_42 : decode cX7_type 42 = .ok (.iadd, 1) := by decide +kernel
theorem dX7_type_43 : decode cX7_type 43 = .ok (.putfield 118, 3) := by decide +kernel
theorem dX7_type_46 : decode cX7_type 46 = .ok (.aload_n 0, 1) := by decide +kernel
theorem dX7_type_47 : decode cX7_type 47 = .ok (.getfield 118, 3) := by decide +kernel
theorem dX7_type_50 : decode cX7_type 50 = .ok (.ireturn, 1) := by decide +kernel
theorem dX7_clearText_0 : decode cX7_clearText 0 = .ok (.aload_n 0, 1) := by decide +kernel
theorem dX7_clearText_1 : decode cX7_clearText 1 = .ok (.getfield 118, 3) := by decide +kernel
theorem dX7_clearText_4 : decode cX7_clearText 4 = .ok (.istore_n 1, 1) := by decide +kernel
theorem dX7_clearText_5 : decode cX7_clearText 5 = .ok (.aload_n 0, 1) := by decide +kernel
theorem dX7_clearText_6 : decode cX7_clearText 6 = .ok (.iconst 0, 1) := by decide +kernel
theorem dX7_clearText_7 : decode cX7_clearText 7 = .ok (.putfield 118, 3) := by decide +kernel
theorem dX7_clearText_10 : decode cX7_clearText 10 = .ok (.iload_n 1, 1) := by decide +kernel
theorem dX7_clearText_11 : decode cX7_clearText 11 = .ok (.ireturn, 1) := by decide +kernel
theorem dX7_fault_0 : decode cX7_fault 0 = .ok (.iconst 0, 1) := by decide +kernel
theorem dX7_fault_1 : decode cX7_fault 1 = .ok (.istore_n 1, 1) := by decide +kernel
theorem dX7_fault_2 : decode cX7_fault 2 = .ok (.iconst 0, 1) := by decide +kernel
theorem dX7_fault_3 : decode cX7_fault 3 = .ok (.istore_n 2, 1) := by decide +kernel
theorem dX7_fault_4 : decode cX7_fault 4 = .ok (.iconst 0, 1) := by decide +kernel
theorem dX7_fault_5 : decode cX7_fault 5 = .ok (.istore_n 3, 1) := by decide +kernel
theorem dX7_fault_6 : decode cX7_fault 6 = .ok (.iload_n 3, 1) := by decide +kernel
theorem dX7_fault_7 : decode cX7_fault 7 = .ok (.aload_n 0, 1) := by decide +kernel
theorem dX7_fault_8 : decode cX7_fault 8 = .ok (.getfield 118, 3) := by decide +kernel
theorem dX7_fault_11 : decode cX7_fault 11 = .ok (.if_icmp .ge 92, 3) := by decide +kernel
theorem dX7_fault_14 : decode cX7_fault 14 = .ok (.aload_n 0, 1) := by decide +kernel
theorem dX7_fault_15 : decode cX7_fault 15 = .ok (.getfield 16, 3) := by decide +kernel
theorem dX7_fault_18 : decode cX7_fault 18 = .ok (.iload_n 3, 1) := by decide +kernel
theorem dX7_fault_19 : decode cX7_fault 19 = .ok (.caload, 1) := by decide +kernel
theorem dX7_fault_20 : decode cX7_fault 20 = .ok (.bipush 32, 2) := by decide +kernel
theorem dX7_fault_22 : decode cX7_fault 22 = .ok (.if_icmp .ne 7, 3) := by decide +kernel
theorem dX7_fault_25 : decode cX7_fault 25 = .ok (.iconst 1, 1) := by decide +kernel
theorem dX7_fault_26 : decode cX7_fault 26 = .ok (.goto 4, 3) := by decide +kernel
theorem dX7_fault_29 : decode cX7_fault 29 = .ok (.iconst 0, 1) := by decide +kernel
theorem dX7_fault_30 : decode cX7_fault 30 = .ok (.istore 4, 2) := by decide +kernel
theorem dX7_fault_32 : decode cX7_fault 32 = .ok (.iload 4, 2) := by decide +kernel
theorem dX7_fault_34 : decode cX7_fault 34 = .ok (.ifCond .eq 19, 3) := by decide +kernel
theorem dX7_fault_37 : decode cX7_fault 37 = .ok (.iload_n 2, 1) := by decide +kernel
theorem dX7_fault_38 : decode cX7_fault 38 = .ok (.ifCond .eq 13, 3) := by decide +kernel
theorem dX7_fault_41 : decode cX7_fault 41 = .ok (.iload_n 3, 1) := by decide +kernel
theorem dX7_fault_42 : decode cX7_fault 42 = .ok (.iconst 1, 1) := by decide +kernel
theorem dX7_fault_43 : decode cX7_fault 43 = .ok (.iadd, 1) := by decide +kernel
theorem dX7_fault_44 : decode cX7_fault 44 = .ok (.aload_n 0, 1) := by decide +kernel
theorem dX7_fault_45 : decode cX7_fault 45 = .ok (.getfield 118, 3) := by decide +kernel
theorem dX7_fault_48 : decode cX7_fault 48 = .ok (.if_icmp .ne 5, 3) := by decide +kernel
theorem dX7_fault_51 : decode cX7_fault 51 = .ok (.iload_n 3, 1) := by decide +kernel
theorem dX7_fault_52 : decode cX7_fault 52 = .ok (.ireturn, 1) := by decide +kernel
theorem dX7_fault_53 : decode cX7_fault 53 = .ok (.iload_n 1, 1) := by decide +kernel
theorem dX7_fault_54 : decode cX7_fault 54 = .ok (.iload 4, 2) := by decide +kernel
theorem dX7_fault_56 : decode cX7_fault 56 = .ok (.ifCond .ne 11, 3) := by decide +kernel
theorem dX7_fault_59 : decode cX7_fault 59 = .ok (.iload_n 2, 1) := by decide +kernel
theorem dX7_fault_60 : decode cX7_fault 60 = .ok (.ifCond .ne 7, 3) := by decide +kernel
theorem dX7_fault_63 : decode cX7_fault 63 = .ok (.iconst 1, 1) := by decide +kernel
theorem dX7_fault_64 : decode cX7_fault 64 = .ok (.goto 4, 3) := by decide +kernel
theorem dX7_fault_67 : decode cX7_fault 67 = .ok (.iconst 0, 1) := by decide +kernel
theorem dX7_fault_68 : decode cX7_fault 68 = .ok (.iadd, 1) := by decide +kernel
theorem dX7_fault_69 : decode cX7_fault 69 = .ok (.istore_n 1, 1) := by decide +kernel
theorem dX7_fault_70 : decode cX7_fault 70 = .ok (.iload 4, 2) := by decide +kernel
theorem dX7_fault_72 : decode cX7_fault 72 = .ok (.ifCond .eq 7, 3) := by decide +kernel
theorem dX7_fault_75 : decode cX7_fault 75 = .ok (.iconst 0, 1) := by decide +kernel
theorem dX7_fault_76 : decode cX7_fault 76 = .ok (.goto 6, 3) := by decide +kernel
theorem dX7_fault_79 : decode cX7_fault 79 = .ok (.iload_n 2, 1) := by decide +kernel
theorem dX7_fault_80 : decode cX7_fault 80 = .ok (.iconst 1, 1) := by decide +kernel
theorem dX7_fault_81 : decode cX7_fault 81 = .ok (.iadd, 1) := by decide +kernel
theorem dX7_fault_82 : decode cX7_fault 82 = .ok (.istore_n 2, 1) := by decide +kernel
theorem dX7_fault_83 : decode cX7_fault 83 = .ok (.iload_n 2, 1) := by decide +kernel
theorem dX7_fault_84 : decode cX7_fault 84 = .ok (.bipush 8, 2) := by decide +kernel
theorem dX7_fault_86 : decode cX7_fault 86 = .ok (.if_icmp .gt 9, 3) := by decide +kernel
theorem dX7_fault_89 : decode cX7_fault 89 = .ok (.iload_n 1, 1) := by decide +kernel
theorem dX7_fault_90 : decode cX7_fault 90 = .ok (.bipush 24, 2) := by decide +kernel
theorem dX7_fault_92 : decode cX7_fault 92 = .ok (.if_icmp .le 5, 3) := by decide +kernel
theorem dX7_fault_95 : decode cX7_fault 95 = .ok (.iload_n 3, 1) := by decide +kernel
theorem dX7_fault_96 : decode cX7_fault 96 = .ok (.ireturn, 1) := by decide +kernel
theorem dX7_fault_97 : decode cX7_fault 97 = .ok (.iinc 3 1, 3) := by decide +kernel
theorem dX7_fault_100 : decode cX7_fault 100 = .ok (.goto (-94), 3) := by decide +kernel
theorem dX7_fault_103 : decode cX7_fault 103 = .ok (.bipush (-4), 2) := by decide +kernel
theorem dX7_fault_105 : decode cX7_fault 105 = .ok (.ireturn, 1) := by decide +kernel
set_option maxRecDepth 20000 in
theorem ggX7_read_X7_fault : GoodIn wsX7_read wsX7_fault := goodIn_r _ [8, 2, 3, 31, 32, 33, 34, 35, 36, 37, 38, 39, 40, 41, 42, 43, 44, 45, 46, 47, 48, 49] (by decide +kernel) (by decide +kernel)
set_option maxRecDepth 20000 in
theorem gX7_read_X7_fault : GoodIn wsX7_read (wsV RX7 158 RX7 yX7_fault wsX7_fault) := goodIn_app (goodIn_of _ (by decide +kernel)) ggX7_read_X7_fault
set_option maxRecDepth 20000 in
theorem ggX7_read_X7_records : GoodIn wsX7_read wsX7_records := goodIn_r _ [12, 13, 14, 1, 31, 32, 33, 34, 35, 36, 37, 38, 39, 40, 41, 42, 43, 44, 45, 46, 47, 48, 49] (by decide +kernel) (by decide +kernel)
set_option maxRecDepth 20000 in
theorem gX7_read_X7_records : GoodIn wsX7_read (wsV RX7 90 RX7 yX7_records wsX7_records) := goodIn_app (goodIn_of _ (by decide +kernel)) ggX7_read_X7_records
set_option maxRecDepth 20000 in
theorem ggX7_read_X7_fills : GoodIn wsX7_read wsX7_fills := goodIn_r _ [18, 1, 19, 20, 21, 7, 22, 23, 24, 25, 26, 27, 28, 29, 30, 31, 32, 33, 34, 35, 36, 37, 38, 39, 40, 41, 42, 43, 44, 45, 46, 47, 48, 49] (by decide +kernel) (by decide +kernel)
set_option maxRecDepth 20000 in
theorem gX7_read_X7_fills : GoodIn wsX7_read (wsV RX7 93 RX7 yX7_fills wsX7_fills) := goodIn_app (goodIn_of _ (by decide +kernel)) ggX7_read_X7_fills
theorem dX7_read_0 : decode cX7_read 0 = .ok (.aload_n 0, 1) := by decide +kernel
theorem dX7_read_1 : decode cX7_read 1 = .ok (.invokevirtual 158, 3) := by decide +kernel
theorem dX7_read_4 : decode cX7_read 4 = .ok (.bipush (-4), 2) := by decide +kernel
theorem dX7_read_6 : decode cX7_read 6 = .ok (.if_icmp .eq 6, 3) := by decide +kernel
theorem dX7_read_9 : decode cX7_read 9 = .ok (.bipush (-2), 2) := by decide +kernel
theorem dX7_read_11 : decode cX7_read 11 = .ok (.ireturn, 1) := by decide +kernel
theorem dX7_read_12 : decode cX7_read 12 = .ok (.aload_n 0, 1) := by decide +kernel
theorem dX7_read_13 : decode cX7_read 13 = .ok (.invokevirtual 90, 3) := by decide +kernel
theorem dX7_read_16 : decode cX7_read 16 = .ok (.aload_n 0, 1) := by decide +kernel
theorem dX7_read_17 : decode cX7_read 17 = .ok (.getfield 7, 3) := by decide +kernel
theorem dX7_read_20 : decode cX7_read 20 = .ok (.iconst 0, 1) := by decide +kernel
theorem dX7_read_21 : decode cX7_read 21 = .ok (.iconst 0, 1) := by decide +kernel
theorem dX7_read_22 : decode cX7_read 22 = .ok (.iastore, 1) := by decide +kernel
theorem dX7_read_23 : decode cX7_read 23 = .ok (.iconst 0, 1) := by decide +kernel
theorem dX7_read_24 : decode cX7_read 24 = .ok (.istore_n 1, 1) := by decide +kernel
theorem dX7_read_25 : decode cX7_read 25 = .ok (.iconst 0, 1) := by decide +kernel
theorem dX7_read_26 : decode cX7_read 26 = .ok (.istore_n 2, 1) := by decide +kernel
theorem dX7_read_27 : decode cX7_read 27 = .ok (.iload_n 2, 1) := by decide +kernel
theorem dX7_read_28 : decode cX7_read 28 = .ok (.aload_n 0, 1) := by decide +kernel
theorem dX7_read_29 : decode cX7_read 29 = .ok (.getfield 118, 3) := by decide +kernel
theorem dX7_read_32 : decode cX7_read 32 = .ok (.if_icmp .ge 67, 3) := by decide +kernel
theorem dX7_read_35 : decode cX7_read 35 = .ok (.aload_n 0, 1) := by decide +kernel
theorem dX7_read_36 : decode cX7_read 36 = .ok (.getfield 16, 3) := by decide +kernel
theorem dX7_read_39 : decode cX7_read 39 = .ok (.iload_n 2, 1) := by decide +kernel
theorem dX7_read_40 : decode cX7_read 40 = .ok (.caload, 1) := by decide +kernel
theorem dX7_read_41 : decode cX7_read 41 = .ok (.bipush 32, 2) := by decide +kernel
theorem dX7_read_43 : decode cX7_read 43 = .ok (.if_icmp .ne 7, 3) := by decide +kernel
theorem dX7_read_46 : decode cX7_read 46 = .ok (.iconst 0, 1) := by decide +kernel
theorem dX7_read_47 : decode cX7_read 47 = .ok (.goto 6, 3) := by decide +kernel
theorem dX7_read_50 : decode cX7_read 50 = .ok (.iload_n 1, 1) := by decide +kernel
theorem dX7_read_51 : decode cX7_read 51 = .ok (.iconst 1, 1) := by decide +kernel
theorem dX7_read_52 : decode cX7_read 52 = .ok (.iadd, 1) := by decide +kernel
theorem dX7_read_53 : decode cX7_read 53 = .ok (.istore_n 1, 1) := by decide +kernel
theorem dX7_read_54 : decode cX7_read 54 = .ok (.aload_n 0, 1) := by decide +kernel
theorem dX7_read_55 : decode cX7_read 55 = .ok (.getfield 7, 3) := by decide +kernel
theorem dX7_read_58 : decode cX7_read 58 = .ok (.iconst 0, 1) := by decide +kernel
theorem dX7_read_59 : decode cX7_read 59 = .ok (.dup2, 1) := by decide +kernel
theorem dX7_read_60 : decode cX7_read 60 = .ok (.iaload, 1) := by decide +kernel
theorem dX7_read_61 : decode cX7_read 61 = .ok (.iload_n 1, 1) := by decide +kernel
theorem dX7_read_62 : decode cX7_read 62 = .ok (.iconst 1, 1) := by decide +kernel
theorem dX7_read_63 : decode cX7_read 63 = .ok (.if_icmp .ne 7, 3) := by decide +kernel
theorem dX7_read_66 : decode cX7_read 66 = .ok (.iconst 1, 1) := by decide +kernel
theorem dX7_read_67 : decode cX7_read 67 = .ok (.goto 4, 3) := by decide +kernel
theorem dX7_read_70 : decode cX7_read 70 = .ok (.iconst 0, 1) := by decide +kernel
theorem dX7_read_71 : decode cX7_read 71 = .ok (.iadd, 1) := by decide +kernel
theorem dX7_read_72 : decode cX7_read 72 = .ok (.iastore, 1) := by decide +kernel
theorem dX7_read_73 : decode cX7_read 73 = .ok (.iload_n 1, 1) := by decide +kernel
theorem dX7_read_74 : decode cX7_read 74 = .ok (.ifCond .le 19, 3) := by decide +kernel
theorem dX7_read_77 : decode cX7_read 77 = .ok (.aload_n 0, 1) := by decide +kernel
theorem dX7_read_78 : decode cX7_read 78 = .ok (.getfield 7, 3) := by decide +kernel
theorem dX7_read_81 : decode cX7_read 81 = .ok (.iconst 4, 1) := by decide +kernel
theorem dX7_read_82 : decode cX7_read 82 = .ok (.aload_n 0, 1) := by decide +kernel
theorem dX7_read_83 : decode cX7_read 83 = .ok (.getfield 7, 3) := by decide +kernel
theorem dX7_read_86 : decode cX7_read 86 = .ok (.iconst 0, 1) := by decide +kernel
theorem dX7_read_87 : decode cX7_read 87 = .ok (.iaload, 1) := by decide +kernel
theorem dX7_read_88 : decode cX7_read 88 = .ok (.iadd, 1) := by decide +kernel
theorem dX7_read_89 : decode cX7_read 89 = .ok (.iconst 1, 1) := by decide +kernel
theorem dX7_read_90 : decode cX7_read 90 = .ok (.isub, 1) := by decide +kernel
theorem dX7_read_91 : decode cX7_read 91 = .ok (.iload_n 1, 1) := by decide +kernel
theorem dX7_read_92 : decode cX7_read 92 = .ok (.iastore, 1) := by decide +kernel
theorem dX7_read_93 : decode cX7_read 93 = .ok (.iinc 2 1, 3) := by decide +kernel
theorem dX7_read_96 : decode cX7_read 96 = .ok (.goto (-69), 3) := by decide +kernel
theorem dX7_read_99 : decode cX7_read 99 = .ok (.aload_n 0, 1) := by decide +kernel
theorem dX7_read_100 : decode cX7_read 100 = .ok (.invokevirtual 93, 3) := by decide +kernel
theorem dX7_read_103 : decode cX7_read 103 = .ok (.aload_n 0, 1) := by decide +kernel
theorem dX7_read_104 : decode cX7_read 104 = .ok (.getfield 7, 3) := by decide +kernel
theorem dX7_read_107 : decode cX7_read 107 = .ok (.iconst 0, 1) := by decide +kernel
theorem dX7_read_108 : decode cX7_read 108 = .ok (.iaload, 1) := by decide +kernel
theorem dX7_read_109 : decode cX7_read 109 = .ok (.ireturn, 1) := by decide +kernel
