theorem dX6_add_12 : decode cX6_add 12 = .ok (.aload_n 0, 1) := by decide +kernel
theorem dX6_add_13 : decode cX6_add 13 = .ok (.getfield 10, 3) := by decide +kernel
theorem dX6_add_16 : decode cX6_add 16 = .ok (.getfield 68, 3) := by decide +kernel
theorem dX6_add_19 : decode cX6_add 19 = .ok (.bipush 24, 2) := by decide +kernel
theorem dX6_add_21 : decode cX6_add 21 = .ok (.if_icmp .lt 6, 3) := by decide +kernel
theorem dX6_add_24 : decode cX6_add 24 = .ok (.bipush (-3), 2) := by decide +kernel
theorem dX6_add_26 : decode cX6_add 26 = .ok (.ireturn, 1) := by decide +kernel
theorem dX6_add_27 : decode cX6_add 27 = .ok (.aload_n 0, 1) := by decide +kernel
theorem dX6_add_28 : decode cX6_add 28 = .ok (.invokevirtual 52, 3) := by decide +kernel
theorem dX6_add_31 : decode cX6_add 31 = .ok (.aload_n 0, 1) := by decide +kernel
theorem dX6_add_32 : decode cX6_add 32 = .ok (.getfield 10, 3) := by decide +kernel
theorem dX6_add_35 : decode cX6_add 35 = .ok (.getfield 68, 3) := by decide +kernel
theorem dX6_add_38 : decode cX6_add 38 = .ok (.istore_n 2, 1) := by decide +kernel
theorem dX6_add_39 : decode cX6_add 39 = .ok (.aload_n 0, 1) := by decide +kernel
theorem dX6_add_40 : decode cX6_add 40 = .ok (.getfield 10, 3) := by decide +kernel
theorem dX6_add_43 : decode cX6_add 43 = .ok (.aload_n 0, 1) := by decide +kernel
theorem dX6_add_44 : decode cX6_add 44 = .ok (.getfield 10, 3) := by decide +kernel
theorem dX6_add_47 : decode cX6_add 47 = .ok (.invokevirtual 62, 3) := by decide +kernel
theorem dX6_add_50 : decode cX6_add 50 = .ok (.iconst 1, 1) := by decide +kernel
theorem dX6_add_51 : decode cX6_add 51 = .ok (.isub, 1) := by decide +kernel
theorem dX6_add_52 : decode cX6_add 52 = .ok (.invokevirtual 71, 3) := by decide +kernel
theorem dX6_add_55 : decode cX6_add 55 = .ok (.istore_n 3, 1) := by decide +kernel
theorem dX6_add_56 : decode cX6_add 56 = .ok (.aload_n 0, 1) := by decide +kernel
theorem dX6_add_57 : decode cX6_add 57 = .ok (.getfield 10, 3) := by decide +kernel
theorem dX6_add_60 : decode cX6_add 60 = .ok (.iload_n 1, 1) := by decide +kernel
theorem dX6_add_61 : decode cX6_add 61 = .ok (.invokevirtual 75, 3) := by decide +kernel
theorem dX6_add_64 : decode cX6_add 64 = .ok (.iload_n 2, 1) := by decide +kernel
theorem dX6_add_65 : decode cX6_add 65 = .ok (.ifCond .eq 32, 3) := by decide +kernel
theorem dX6_add_68 : decode cX6_add 68 = .ok (.aload_n 0, 1) := by decide +kernel
theorem dX6_add_69 : decode cX6_add 69 = .ok (.getfield 10, 3) := by decide +kernel
theorem dX6_add_72 : decode cX6_add 72 = .ok (.iload_n 3, 1) := by decide +kernel
theorem dX6_add_73 : decode cX6_add 73 = .ok (.invokevirtual 79, 3) := by decide +kernel
theorem dX6_add_76 : decode cX6_add 76 = .ok (.ifCond .ne 21, 3) := by decide +kernel
theorem dX6_add_79 : decode cX6_add 79 = .ok (.aload_n 0, 1) := by decide +kernel
theorem dX6_add_80 : decode cX6_add 80 = .ok (.getfield 10, 3) := by decide +kernel
theorem dX6_add_83 : decode cX6_add 83 = .ok (.iload_n 3, 1) := by decide +kernel
theorem dX6_add_84 : decode cX6_add 84 = .ok (.aload_n 0, 1) := by decide +kernel
theorem dX6_add_85 : decode cX6_add 85 = .ok (.getfield 10, 3) := by decide +kernel
theorem dX6_add_88 : decode cX6_add 88 = .ok (.getfield 68, 3) := by decide +kernel
theorem dX6_add_91 : decode cX6_add 91 = .ok (.invokevirtual 83, 3) := by decide +kernel
theorem dX6_add_94 : decode cX6_add 94 = .ok (.ifCond .ne 11, 3) := by decide +kernel
theorem dX6_add_97 : decode cX6_add 97 = .ok (.aload_n 0, 1) := by decide +kernel
theorem dX6_add_98 : decode cX6_add 98 = .ok (.getfield 10, 3) := by decide +kernel
theorem dX6_add_101 : decode cX6_add 101 = .ok (.iload_n 2, 1) := by decide +kernel
theorem dX6_add_102 : decode cX6_add 102 = .ok (.invokevirtual 87, 3) := by decide +kernel
theorem dX6_add_105 : decode cX6_add 105 = .ok (.iload_n 2, 1) := by decide +kernel
theorem dX6_add_106 : decode cX6_add 106 = .ok (.ireturn, 1) := by decide +kernel
set_option maxRecDepth 20000 in
theorem ggX6_pull_X1_hasLine : GoodIn wsX6_pull wsX1_hasLine := goodIn_r _ [7, 8, 9, 10, 6, 11, 12, 13, 14, 15, 16, 17, 18, 19, 99, 100, 101, 102, 103, 104, 105] (by decide +kernel) (by decide +kernel)
set_option maxRecDepth 20000 in
theorem gX6_pull_X1_hasLine : GoodIn wsX6_pull (wsV RX6 93 RX1 yX1_hasLine wsX1_hasLine) := goodIn_app (goodIn_of _ (by decide +kernel)) ggX6_pull_X1_hasLine
set_option maxRecDepth 20000 in
theorem ggX6_pull_X1_firstOf : GoodIn wsX6_pull wsX1_firstOf := goodIn_r _ [23, 12, 13, 14, 15, 16, 17, 18, 19, 99, 100, 101, 102, 103, 104, 105] (by decide +kernel) (by decide +kernel)
set_option maxRecDepth 20000 in
theorem gX6_pull_X1_firstOf : GoodIn wsX6_pull (wsV RX6 71 RX1 yX1_firstOf wsX1_firstOf) := goodIn_app (goodIn_of _ (by decide +kernel)) ggX6_pull_X1_firstOf
set_option maxRecDepth 20000 in
theorem ggX6_pull_X1_endOf : GoodIn wsX6_pull wsX1_endOf := goodIn_r _ [27, 12, 13, 14, 15, 16, 17, 18, 19, 99, 100, 101, 102, 103, 104, 105] (by decide +kernel) (by decide +kernel)
set_option maxRecDepth 20000 in
theorem gX6_pull_X1_endOf : GoodIn wsX6_pull (wsV RX6 96 RX1 yX1_endOf wsX1_endOf) := goodIn_app (goodIn_of _ (by decide +kernel)) ggX6_pull_X1_endOf
set_option maxRecDepth 20000 in
theorem ggX6_pull_X1_isFrozen : GoodIn wsX6_pull wsX1_isFrozen := goodIn_r _ [31, 32, 14, 15, 16, 17, 18, 19, 99, 100, 101, 102, 103, 104, 105] (by decide +kernel) (by decide +kernel)
set_option maxRecDepth 20000 in
theorem gX6_pull_X1_isFrozen : GoodIn wsX6_pull (wsV RX6 79 RX1 yX1_isFrozen wsX1_isFrozen) := goodIn_app (goodIn_of _ (by decide +kernel)) ggX6_pull_X1_isFrozen
set_option maxRecDepth 20000 in
theorem ggX6_pull_X1_fits : GoodIn wsX6_pull wsX1_fits := goodIn_r _ [36, 37, 38, 39, 6, 40, 41, 42, 14, 15, 16, 17, 18, 19, 99, 100, 101, 102, 103, 104, 105] (by decide +kernel) (by decide +kernel)
set_option maxRecDepth 20000 in
theorem gX6_pull_X1_fits : GoodIn wsX6_pull (wsV RX6 83 RX1 yX1_fits wsX1_fits) := goodIn_app (goodIn_of _ (by decide +kernel)) ggX6_pull_X1_fits
set_option maxRecDepth 20000 in
theorem ggX6_pull_X6_beginChange : GoodIn wsX6_pull wsX6_beginChange := goodIn_r _ [47, 48, 1, 49, 50, 51, 52, 53, 54, 55, 56, 57, 58, 59, 60, 61, 62, 63, 64, 65, 66, 67, 6, 68, 41, 69, 12, 42, 13, 32, 70, 71, 72, 17, 73, 19, 74, 15, 16, 18, 75, 76, 77, 78, 79, 80, 94, 95, 96, 97, 98, 106, 107, 99, 100, 101, 102, 103, 104, 105, 108, 109, 110, 111, 112, 113, 114, 115, 116, 117] (by decide +kernel) (by decide +kernel)
set_option maxRecDepth 20000 in
theorem gX6_pull_X6_beginChange : GoodIn wsX6_pull (wsV RX6 52 RX6 yX6_beginChange wsX6_beginChange) := goodIn_app (goodIn_of _ (by decide +kernel)) ggX6_pull_X6_beginChange
set_option maxRecDepth 20000 in
theorem ggX6_pull_X1_join : GoodIn wsX6_pull wsX1_join := goodIn_r _ [84, 13, 85, 86, 87, 17, 88, 19, 99, 100, 101, 102, 103, 104, 105] (by decide +kernel) (by decide +kernel)
set_option maxRecDepth 20000 in
theorem gX6_pull_X1_join : GoodIn wsX6_pull (wsV RX6 99 RX1 yX1_join wsX1_join) := goodIn_app (goodIn_of _ (by decide +kernel)) ggX6_pull_X1_join
set_option maxRecDepth 20000 in
theorem ggX6_pull_X1_begin : GoodIn wsX6_pull wsX1_begin := goodIn_r _ [92, 12, 13, 85, 86, 87, 17, 88, 19, 99, 100, 101, 102, 103, 104, 105] (by decide +kernel) (by decide +kernel)
set_option maxRecDepth 20000 in
theorem gX6_pull_X1_begin : GoodIn wsX6_pull (wsV RX6 87 RX1 yX1_begin wsX1_begin) := goodIn_app (goodIn_of _ (by decide +kernel)) ggX6_pull_X1_begin
set_option maxRecDepth 20000 in
theorem ggX6_pull_X1_lines : GoodIn wsX6_pull wsX1_lines := goodIn_r _ [11, 12, 13, 14, 15, 16, 17, 18, 19, 99, 100, 101, 102, 103, 104, 105] (by decide +kernel) (by decide +kernel)
set_option maxRecDepth 20000 in
theorem gX6_pull_X1_lines : GoodIn wsX6_pull (wsV RX6 62 RX1 yX1_lines wsX1_lines) := goodIn_app (goodIn_of _ (by decide +kernel)) ggX6_pull_X1_lines
theorem dX6_pull_0 : decode cX6_pull 0 = .ok (.aload_n 0, 1) := by decide +kernel
theorem dX6_pull_1 : decode cX6_pull 1 = .ok (.getfield 10, 3) := by decide +kernel
theorem dX6_pull_4 : decode cX6_pull 4 = .ok (.iload_n 1, 1) := by decide +kernel
theorem dX6_pull_5 : decode cX6_pull 5 = .ok (.invokevirtual 93, 3) := by decide +kernel
theorem dX6_pull_8 : decode cX6_pull 8 = .ok (.ifCond .ne 5, 3) := by decide +kernel
theorem dX6_pull_11 : decode cX6_pull 11 = .ok (.iconst (-1), 1) := by decide +kernel
theorem dX6_pull_12 : decode cX6_pull 12 = .ok (.ireturn, 1) := by decide +kernel
theorem dX6_pull_13 : decode cX6_pull 13 = .ok (.aload_n 0, 1) := by decide +kernel
theorem dX6_pull_14 : decode cX6_pull 14 = .ok (.getfield 10, 3) := by decide +kernel
theorem dX6_pull_17 : decode cX6_pull 17 = .ok (.iload_n 1, 1) := by decide +kernel
theorem dX6_pull_18 : decode cX6_pull 18 = .ok (.invokevirtual 71, 3) := by decide +kernel
theorem dX6_pull_21 : decode cX6_pull 21 = .ok (.istore_n 2, 1) := by decide +kernel
theorem dX6_pull_22 : decode cX6_pull 22 = .ok (.aload_n 0, 1) := by decide +kernel
theorem dX6_pull_23 : decode cX6_pull 23 = .ok (.getfield 10, 3) := by decide +kernel
theorem dX6_pull_26 : decode cX6_pull 26 = .ok (.iload_n 2, 1) := by decide +kernel
theorem dX6_pull_27 : decode cX6_pull 27 = .ok (.invokevirtual 96, 3) := by decide +kernel
theorem dX6_pull_30 : decode cX6_pull 30 = .ok (.istore_n 3, 1) := by decide +kernel
theorem dX6_pull_31 : decode cX6_pull 31 = .ok (.iload_n 3, 1) := by decide +kernel
theorem dX6_pull_32 : decode cX6_pull 32 = .ok (.aload_n 0, 1) := by decide +kernel
theorem dX6_pull_33 : decode cX6_pull 33 = .ok (.getfield 10, 3) := by decide +kernel
theorem dX6_pull_36 : decode cX6_pull 36 = .ok (.getfield 68, 3) := by decide +kernel
theorem dX6_pull_39 : decode cX6_pull 39 = .ok (.if_icmp .ge 39, 3) := by decide +kernel
theorem dX6_pull_42 : decode cX6_pull 42 = .ok (.aload_n 0, 1) := by decide +kernel
theorem dX6_pull_43 : decode cX6_pull 43 = .ok (.getfield 10, 3) := by decide +kernel
theorem dX6_pull_46 : decode cX6_pull 46 = .ok (.iload_n 2, 1) := by decide +kernel
theorem dX6_pull_47 : decode cX6_pull 47 = .ok (.invokevirtual 79, 3) := by decide +kernel
theorem dX6_pull_50 : decode cX6_pull 50 = .ok (.ifCond .ne 28, 3) := by decide +kernel
theorem dX6_pull_53 : decode cX6_pull 53 = .ok (.aload_n 0, 1) := by decide +kernel
theorem dX6_pull_54 : decode cX6_pull 54 = .ok (.getfield 10, 3) := by decide +kernel
theorem dX6_pull_57 : decode cX6_pull 57 = .ok (.iload_n 3, 1) := by decide +kernel
theorem dX6_pull_58 : decode cX6_pull 58 = .ok (.invokevirtual 79, 3) := by decide +kernel
theorem dX6_pull_61 : decode cX6_pull 61 = .ok (.ifCond .ne 17, 3) := by decide +kernel
theorem dX6_pull_64 : decode cX6_pull 64 = .ok (.aload_n 0, 1) := by decide +kernel
theorem dX6_pull_65 : decode cX6_pull 65 = .ok (.getfield 10, 3) := by decide +kernel
theorem dX6_pull_68 : decode cX6_pull 68 = .ok (.iload_n 2, 1) := by decide +kernel
theorem dX6_pull_69 : decode cX6_pull 69 = .ok (.iload_n 3, 1) := by decide +kernel
theorem dX6_pull_70 : decode cX6_pull 70 = .ok (.iconst 1, 1) := by decide +kernel
theorem dX6_pull_71 : decode cX6_pull 71 = .ok (.iadd, 1) := by decide +kernel
theorem dX6_pull_72 : decode cX6_pull 72 = .ok (.invokevirtual 83, 3) := by decide +kernel
theorem dX6_pull_75 : decode cX6_pull 75 = .ok (.ifCond .ne 6, 3) := by decide +kernel
theorem dX6_pull_78 : decode cX6_pull 78 = .ok (.bipush (-2), 2) := by decide +kernel
theorem dX6_pull_80 : decode cX6_pull 80 = .ok (.ireturn, 1) := by decide +kernel
theorem dX6_pull_81 : decode cX6_pull 81 = .ok (.aload_n 0, 1) := by decide +kernel
theorem dX6_pull_82 : decode cX6_pull 82 = .ok (.invokevirtual 52, 3) := by decide +kernel
theorem dX6_pull_85 : decode cX6_pull 85 = .ok (.aload_n 0, 1) := by decide +kernel
theorem dX6_pull_86 : decode cX6_pull 86 = .ok (.getfield 10, 3) := by decide +kernel
theorem dX6_pull_89 : decode cX6_pull 89 = .ok (.iload_n 3, 1) := by decide +kernel
theorem dX6_pull_90 : decode cX6_pull 90 = .ok (.invokevirtual 99, 3) := by decide +kernel
theorem dX6_pull_93 : decode cX6_pull 93 = .ok (.aload_n 0, 1) := by decide +kernel
theorem dX6_pull_94 : decode cX6_pull 94 = .ok (.getfield 10, 3) := by decide +kernel
theorem dX6_pull_97 : decode cX6_pull 97 = .ok (.iload_n 3, 1) := by decide +kernel
theorem dX6_pull_98 : decode cX6_pull 98 = .ok (.iconst 1, 1) := by decide +kernel
theorem dX6_pull_99 : decode cX6_pull 99 = .ok (.iadd, 1) := by decide +kernel
theorem dX6_pull_100 : decode cX6_pull 100 = .ok (.invokevirtual 87, 3) := by decide +kernel
theorem dX6_pull_103 : decode cX6_pull 103 = .ok (.aload_n 0, 1) := by decide +kernel
theorem dX6_pull_104 : decode cX6_pull 104 = .ok (.getfield 10, 3) := by decide +kernel
theorem dX6_pull_107 : decode cX6_pull 107 = .ok (.invokevirtual 62, 3) := by decide +kernel
theorem dX6_pull_110 : decode cX6_pull 110 = .ok (.ireturn, 1) := by decide +kernel
set_option maxRecDepth 20000 in
theorem ggX6_push_X1_hasLine : GoodIn wsX6_push wsX1_hasLine := goodIn_r _ [7, 8, 9, 10, 6, 11, 12, 13, 14, 15, 16, 17, 18, 19, 99, 100, 101, 102, 103, 104, 105] (by decide +kernel) (by decide +kernel)
set_option maxRecDepth 20000 in
theorem gX6_push_X1_hasLine : GoodIn wsX6_push (wsV RX6 93 RX1 yX1_hasLine wsX1_hasLine) := goodIn_app (goodIn_of _ (by decide +kernel)) ggX6_push_X1_hasLine
set_option maxRecDepth 20000 in
theorem ggX6_push_X1_firstOf : GoodIn wsX6_push wsX1_firstOf := goodIn_r _ [23, 12, 13, 14, 15, 16, 17, 18, 19, 99, 100, 101, 102, 103, 104, 105] (by decide +kernel) (by decide +kernel)
set_option maxRecDepth 20000 in
theorem gX6_push_X1_firstOf : GoodIn wsX6_push (wsV RX6 71 RX1 yX1_firstOf wsX1_firstOf) := goodIn_app (goodIn_of _ (by decide +kernel)) ggX6_push_X1_firstOf
set_option maxRecDepth 20000 in
theorem ggX6_push_X1_endOf : GoodIn wsX6_push wsX1_endOf := goodIn_r _ [27, 12, 13, 14, 15, 16, 17, 18, 19, 99, 100, 101, 102, 103, 104, 105] (by decide +kernel) (by decide +kernel)
set_option maxRecDepth 20000 in
theorem gX6_push_X1_endOf : GoodIn wsX6_push (wsV RX6 96 RX1 yX1_endOf wsX1_endOf) := goodIn_app (goodIn_of _ (by decide +kernel)) ggX6_push_X1_endOf
set_option maxRecDepth 20000 in
theorem ggX6_push_X1_isFrozen : GoodIn wsX6_push wsX1_isFrozen := goodIn_r _ [31, 32, 14, 15, 16, 17, 18, 19, 99, 100, 101, 102, 103, 104, 105] (by decide +kernel) (by decide +kernel)
set_option maxRecDepth 20000 in
theorem gX6_push_X1_isFrozen : GoodIn wsX6_push (wsV RX6 79 RX1 yX1_isFrozen wsX1_isFrozen) := goodIn_app (goodIn_of _ (by decide +kernel)) ggX6_push_X1_isFrozen
set_option maxRecDepth 20000 in
theorem ggX6_push_X1_fits : GoodIn wsX6_push wsX1_fits := goodIn_r _ [36, 37, 38, 39, 6, 40, 41, 42, 14, 15, 16, 17, 18, 19, 99, 100, 101, 102, 103, 104, 105] (by decide +kernel) (by decide +kernel)
set_option maxRecDepth 20000 in
theorem gX6_push_X1_fits : GoodIn wsX6_push (wsV RX6 83 RX1 yX1_fits wsX1_fits) := goodIn_app (goodIn_of _ (by decide +kernel)) ggX6_push_X1_fits
set_option maxRecDepth 20000 in
theorem ggX6_push_X6_beginChange : GoodIn wsX6_push wsX6_beginChange := goodIn_r _ [47, 48, 1, 49, 50, 51, 52, 53, 54, 55, 56, 57, 58, 59, 60, 61, 62, 63, 64, 65, 66, 67, 6, 68, 41, 69, 12, 42, 13, 32, 70, 71, 72, 17, 73, 19, 74, 15, 16, 18, 75, 76, 77, 78, 79, 80, 94, 95, 96, 97, 98, 106, 107, 99, 100, 101, 102, 103, 104, 105, 108, 109, 110, 111, 112, 113, 114, 115, 116, 117] (by decide +kernel) (by decide +kernel)
set_option maxRecDepth 20000 in
theorem gX6_push_X6_beginChange : GoodIn wsX6_push (wsV RX6 52 RX6 yX6_beginChange wsX6_beginChange) := goodIn_app (goodIn_of _ (by decide +kernel)) ggX6_push_X6_beginChange
set_option maxRecDepth 20000 in
theorem ggX6_push_X1_begin : GoodIn wsX6_push wsX1_begin := goodIn_r _ [84, 12, 13, 85, 86, 87, 17, 88, 19, 99, 100, 101, 102, 103, 104, 105] (by decide +kernel) (by decide +kernel)
set_option maxRecDepth 20000 in
theorem gX6_push_X1_begin : GoodIn wsX6_push (wsV RX6 87 RX1 yX1_begin wsX1_begin) := goodIn_app (goodIn_of _ (by decide +kernel)) ggX6_push_X1_begin
set_option maxRecDepth 20000 in
theorem ggX6_push_X1_join : GoodIn wsX6_push wsX1_join := goodIn_r _ [92, 13, 85, 86, 87, 17, 88, 19, 99, 100, 101, 102, 103, 104, 105] (by decide +kernel) (by decide +kernel)
set_option maxRecDepth 20000 in
theorem gX6_push_X1_join : GoodIn wsX6_push (wsV RX6 99 RX1 yX1_join wsX1_join) := goodIn_app (goodIn_of _ (by decide +kernel)) ggX6_push_X1_join
set_option maxRecDepth 20000 in
theorem ggX6_push_X1_lines : GoodIn wsX6_push wsX1_lines := goodIn_r _ [11, 12, 13, 14, 15, 16, 17, 18, 19, 99, 100, 101, 102, 103, 104, 105] (by decide +kernel) (by decide +kernel)
set_option maxRecDepth 20000 in
theorem gX6_push_X1_lines : GoodIn wsX6_push (wsV RX6 62 RX1 yX1_lines wsX1_lines) := goodIn_app (goodIn_of _ (by decide +kernel)) ggX6_push_X1_lines
theorem dX6_push_0 : decode cX6_push 0 = .ok (.aload_n 0, 1) := by decide +kernel
theorem dX6_push_1 : decode cX6_push 1 = .ok (.getfield 10, 3) := by decide +kernel
theorem dX6_push_4 : decode cX6_push 4 = .ok (.iload_n 1, 1) := by decide +kernel
theorem dX6_push_5 : decode cX6_push 5 = .ok (.invokevirtual 93, 3) := by decide +kernel
theorem dX6_push_8 : decode cX6_push 8 = .ok (.ifCond .ne 5, 3) := by decide +kernel
theorem dX6_push_11 : decode cX6_push 11 = .ok (.iconst (-1), 1) := by decide +kernel
theorem dX6_push_12 : decode cX6_push 12 = .ok (.ireturn, 1) := by decide +kernel
theorem dX6_push_13 : decode cX6_push 13 = .ok (.aload_n 0, 1) := by decide +kernel
theorem dX6_push_14 : decode cX6_push 14 = .ok (.getfield 10, 3) := by decide +kernel
theorem dX6_push_17 : decode cX6_push 17 = .ok (.iload_n 1, 1) := by decide +kernel
theorem dX6_push_18 : decode cX6_push 18 = .ok (.invokevirtual 71, 3) := by decide +kernel
theorem dX6_push_21 : decode cX6_push 21 = .ok (.istore_n 2, 1) := by decide +kernel
theorem dX6_push_22 : decode cX6_push 22 = .ok (.aload_n 0, 1) := by decide +kernel
theorem dX6_push_23 : decode cX6_push 23 = .ok (.getfield 10, 3) := by decide +kernel
theorem dX6_push_26 : decode cX6_push 26 = .ok (.iload_n 2, 1) := by decide +kernel
theorem dX6_push_27 : decode cX6_push 27 = .ok (.invokevirtual 96, 3) := by decide +kernel
theorem dX6_push_30 : decode cX6_push 30 = .ok (.istore_n 3, 1) := by decide +kernel
theorem dX6_push_31 : decode cX6_push 31 = .ok (.iload_n 3, 1) := by decide +kernel
theorem dX6_push_32 : decode cX6_push 32 = .ok (.iconst 1, 1) := by decide +kernel
theorem dX6_push_33 : decode cX6_push 33 = .ok (.isub, 1) := by decide +kernel
theorem dX6_push_34 : decode cX6_push 34 = .ok (.istore 4, 2) := by decide +kernel
theorem dX6_push_36 : decode cX6_push 36 = .ok (.iload_n 3, 1) := by decide +kernel
theorem dX6_push_37 : decode cX6_push 37 = .ok (.aload_n 0, 1) := by decide +kernel
theorem dX6_push_38 : decode cX6_push 38 = .ok (.getfield 10, 3) := by decide +kernel
theorem dX6_push_41 : decode cX6_push 41 = .ok (.getfield 68, 3) := by decide +kernel
theorem dX6_push_44 : decode cX6_push 44 = .ok (.if_icmp .lt 7, 3) := by decide +kernel
theorem dX6_push_47 : decode cX6_push 47 = .ok (.iconst 1, 1) := by decide +kernel
theorem dX6_push_48 : decode cX6_push 48 = .ok (.goto 4, 3) := by decide +kernel
theorem dX6_push_51 : decode cX6_push 51 = .ok (.iconst 0, 1) := by decide +kernel
theorem dX6_push_52 : decode cX6_push 52 = .ok (.istore 5, 2) := by decide +kernel
theorem dX6_push_54 : decode cX6_push 54 = .ok (.iload 4, 2) := by decide +kernel
theorem dX6_push_56 : decode cX6_push 56 = .ok (.iload_n 2, 1) := by decide +kernel
theorem dX6_push_57 : decode cX6_push 57 = .ok (.if_icmp .eq 50, 3) := by decide +kernel
theorem dX6_push_60 : decode cX6_push 60 = .ok (.aload_n 0, 1) := by decide +kernel
theorem dX6_push_61 : decode cX6_push 61 = .ok (.getfield 10, 3) := by decide +kernel
theorem dX6_push_64 : decode cX6_push 64 = .ok (.iload_n 2, 1) := by decide +kernel
theorem dX6_push_65 : decode cX6_push 65 = .ok (.invokevirtual 79, 3) := by decide +kernel
theorem dX6_push_68 : decode cX6_push 68 = .ok (.ifCond .ne 39, 3) := by decide +kernel
theorem dX6_push_71 : decode cX6_push 71 = .ok (.iload 5, 2) := by decide +kernel
theorem dX6_push_73 : decode cX6_push 73 = .ok (.ifCond .ne 37, 3) := by decide +kernel
theorem dX6_push_76 : decode cX6_push 76 = .ok (.aload_n 0, 1) := by decide +kernel
theorem dX6_push_77 : decode cX6_push 77 = .ok (.getfield 10, 3) := by decide +kernel
theorem dX6_push_80 : decode cX6_push 80 = .ok (.iload_n 3, 1) := by decide +kernel
theorem dX6_push_81 : decode cX6_push 81 = .ok (.invokevirtual 79, 3) := by decide +kernel
theorem dX6_push_84 : decode cX6_push 84 = .ok (.ifCond .ne 23, 3) := by decide +kernel
theorem dX6_push_87 : decode cX6_push 87 = .ok (.aload_n 0, 1) := by decide +kernel
theorem dX6_push_88 : decode cX6_push 88 = .ok (.getfield 10, 3) := by decide +kernel
theorem dX6_push_91 : decode cX6_push 91 = .ok (.iload 4, 2) := by decide +kernel
theorem dX6_push_93 : decode cX6_push 93 = .ok (.aload_n 0, 1) := by decide +kernel
theorem dX6_push_94 : decode cX6_push 94 = .ok (.getfield 10, 3) := by decide +kernel
theorem dX6_push_97 : decode cX6_push 97 = .ok (.iload_n 3, 1) := by decide +kernel
theorem dX6_push_98 : decode cX6_push 98 = .ok (.invokevirtual 96, 3) := by decide +kernel
theorem dX6_push_101 : decode cX6_push 101 = .ok (.invokevirtual 83, 3) := by decide +kernel
theorem dX6_push_104 : decode cX6_push 104 = .ok (.ifCond .ne 6, 3) := by decide +kernel
theorem dX6_push_107 : decode cX6_push 107 = .ok (.bipush (-2), 2) := by decide +kernel
theorem dX6_push_109 : decode cX6_push 109 = .ok (.ireturn, 1) := by decide +kernel
theorem dX6_push_110 : decode cX6_push 110 = .ok (.aload_n 0, 1) := by decide +kernel
theorem dX6_push_111 : decode cX6_push 111 = .ok (.invokevirtual 52, 3) := by decide +kernel
theorem dX6_push_114 : decode cX6_push 114 = .ok (.aload_n 0, 1) := by decide +kernel
theorem dX6_push_115 : decode cX6_push 115 = .ok (.getfield 10, 3) := by decide +kernel
theorem dX6_push_118 : decode cX6_push 118 = .ok (.iload 4, 2) := by decide +kernel
theorem dX6_push_120 : decode cX6_push 120 = .ok (.invokevirtual 87, 3) := by decide +kernel
theorem dX6_push_123 : decode cX6_push 123 = .ok (.aload_n 0, 1) := by decide +kernel
theorem dX6_push_124 : decode cX6_push 124 = .ok (.getfield 10, 3) := by decide +kernel
theorem dX6_push_127 : decode cX6_push 127 = .ok (.iload_n 3, 1) := by decide +kernel
theorem dX6_push_128 : decode cX6_push 128 = .ok (.invokevirtual 99, 3) := by decide +kernel
theorem dX6_push_131 : decode cX6_push 131 = .ok (.aload_n 0, 1) := by decide +kernel
theorem dX6_push_132 : decode cX6_push 132 = .ok (.getfield 10, 3) := by decide +kernel
theorem dX6_push_135 : decode cX6_push 135 = .ok (.invokevirtual 62, 3) := by decide +kernel
theorem dX6_push_138 : decode cX6_push 138 = .ok (.ireturn, 1) := by decide +kernel
set_option maxRecDepth 20000 in
theorem ggX6_freeze_X1_hasLine : GoodIn wsX6_freeze wsX1_hasLine := goodIn_r _ [6, 7, 8, 9, 5, 10, 11, 12, 13, 14, 15, 16, 17, 18, 84, 85, 86, 87, 88, 89, 90] (by decide +kernel) (by decide +kernel)
set_option maxRecDepth 20000 in
theorem gX6_freeze_X1_hasLine : GoodIn wsX6_freeze (wsV RX6 93 RX1 yX1_hasLine wsX1_hasLine) := goodIn_app (goodIn_of _ (by decide +kernel)) ggX6_freeze_X1_hasLine
set_option maxRecDepth 20000 in
theorem ggX6_freeze_X6_isWithin : GoodIn wsX6_freeze wsX6_isWithin := goodIn_r _ [22] (by decide +kernel) (by decide +kernel)
set_option maxRecDepth 20000 in
theorem gX6_freeze_X6_isWithin : GoodIn wsX6_freeze (va_wsS RX6 44 yX6_isWithin wsX6_isWithin) := goodIn_app (goodIn_of _ (by decide +kernel)) ggX6_freeze_X6_isWithin
set_option maxRecDepth 20000 in
theorem ggX6_freeze_X6_beginChange : GoodIn wsX6_freeze wsX6_beginChange := goodIn_r _ [26, 27, 1, 28, 29, 30, 31, 32, 33, 34, 35, 36, 37, 38, 39, 40, 41, 42, 43, 44, 45, 46, 5, 47, 48, 49, 11, 50, 12, 51, 52, 53, 54, 16, 55, 18, 56, 14, 15, 17, 57, 58, 59, 60, 61, 62, 79, 80, 81, 82, 83, 91, 92, 84, 85, 86, 87, 88, 89, 90, 93, 94, 95, 96, 97, 98, 99, 100, 101, 102] (by decide +kernel) (by decide +kernel)
set_option maxRecDepth 20000 in
theorem gX6_freeze_X6_beginChange : GoodIn wsX6_freeze (wsV RX6 52 RX6 yX6_beginChange wsX6_beginChange) := goodIn_app (goodIn_of _ (by decide +kernel)) ggX6_freeze_X6_beginChange
set_option maxRecDepth 20000 in
theorem ggX6_freeze_X1_firstOf : GoodIn wsX6_freeze wsX1_firstOf := goodIn_r _ [66, 11, 12, 13, 14, 15, 16, 17, 18, 84, 85, 86, 87, 88, 89, 90] (by decide +kernel) (by decide +kernel)
set_option maxRecDepth 20000 in
theorem gX6_freeze_X1_firstOf : GoodIn wsX6_freeze (wsV RX6 71 RX1 yX1_firstOf wsX1_firstOf) := goodIn_app (goodIn_of _ (by decide +kernel)) ggX6_freeze_X1_firstOf
set_option maxRecDepth 20000 in
theorem ggX6_freeze_X1_isFrozen : GoodIn wsX6_freeze wsX1_isFrozen := goodIn_r _ [70, 51, 13, 14, 15, 16, 17, 18, 84, 85, 86, 87, 88, 89, 90] (by decide +kernel) (by decide +kernel)
set_option maxRecDepth 20000 in
theorem gX6_freeze_X1_isFrozen : GoodIn wsX6_freeze (wsV RX6 79 RX1 yX1_isFrozen wsX1_isFrozen) := goodIn_app (goodIn_of _ (by decide +kernel)) ggX6_freeze_X1_isFrozen
set_option maxRecDepth 20000 in
theorem ggX6_freeze_X1_setFrozen : GoodIn wsX6_freeze wsX1_setFrozen := goodIn_r _ [74, 51, 75, 76, 77, 16, 78, 18, 84, 85, 86, 87, 88, 89, 90] (by decide +kernel) (by decide +kernel)
set_option maxRecDepth 20000 in
theorem gX6_freeze_X1_setFrozen : GoodIn wsX6_freeze (wsV RX6 102 RX1 yX1_setFrozen wsX1_setFrozen) := goodIn_app (goodIn_of _ (by decide +kernel)) ggX6_freeze_X1_setFrozen
theorem dX6_freeze_0 : decode cX6_freeze 0 = .ok (.aload_n 0, 1) := by decide +kernel
theorem dX6_freeze_1 : decode cX6_freeze 1 = .ok (.getfield 10, 3) := by decide +kernel
theorem dX6_freeze_4 : decode cX6_freeze 4 = .ok (.iload_n 1, 1) := by decide +kernel
theorem dX6_freeze_5 : decode cX6_freeze 5 = .ok (.invokevirtual 93, 3) := by decide +kernel
theorem dX6_freeze_8 : decode cX6_freeze 8 = .ok (.ifCond .eq 12, 3) := by decide +kernel
theorem dX6_freeze_11 : decode cX6_freeze 11 = .ok (.iload_n 2, 1) := by decide +kernel
theorem dX6_freeze_12 : decode cX6_freeze 12 = .ok (.iconst 0, 1) := by decide +kernel
theorem dX6_freeze_13 : decode cX6_freeze 13 = .ok (.iconst 1, 1) := by decide +kernel
theorem dX6_freeze_14 : decode cX6_freeze 14 = .ok (.invokestatic 44, 3) := by decide +kernel
theorem dX6_freeze_17 : decode cX6_freeze 17 = .ok (.ifCond .ne 5, 3) := by decide +kernel
theorem dX6_freeze_20 : decode cX6_freeze 20 = .ok (.iconst (-1), 1) := by decide +kernel
theorem dX6_freeze_21 : decode cX6_freeze 21 = .ok (.ireturn, 1) := by decide +kernel
theorem dX6_freeze_22 : decode cX6_freeze 22 = .ok (.aload_n 0, 1) := by decide +kernel
theorem dX6_freeze_23 : decode cX6_freeze 23 = .ok (.invokevirtual 52, 3) := by decide +kernel
theorem dX6_freeze_26 : decode cX6_freeze 26 = .ok (.aload_n 0, 1) := by decide +kernel
theorem dX6_freeze_27 : decode cX6_freeze 27 = .ok (.getfield 10, 3) := by decide +kernel
theorem dX6_freeze_30 : decode cX6_freeze 30 = .ok (.iload_n 1, 1) := by decide +kernel
theorem dX6_freeze_31 : decode cX6_freeze 31 = .ok (.invokevirtual 71, 3) := by decide +kernel
theorem dX6_freeze_34 : decode cX6_freeze 34 = .ok (.istore_n 3, 1) := by decide +kernel
theorem dX6_freeze_35 : decode cX6_freeze 35 = .ok (.aload_n 0, 1) := by decide +kernel
theorem dX6_freeze_36 : decode cX6_freeze 36 = .ok (.getfield 10, 3) := by decide +kernel
theorem dX6_freeze_39 : decode cX6_freeze 39 = .ok (.iload_n 3, 1) := by decide +kernel
theorem dX6_freeze_40 : decode cX6_freeze 40 = .ok (.invokevirtual 79, 3) := by decide +kernel
theorem dX6_freeze_43 : decode cX6_freeze 43 = .ok (.ifCond .eq 7, 3) := by decide +kernel
theorem dX6_freeze_46 : decode cX6_freeze 46 = .ok (.iconst 1, 1) := by decide +kernel
theorem dX6_freeze_47 : decode cX6_freeze 47 = .ok (.goto 4, 3) := by decide +kernel
theorem dX6_freeze_50 : decode cX6_freeze 50 = .ok (.iconst 0, 1) := by decide +kernel
theorem dX6_freeze_51 : decode cX6_freeze 51 = .ok (.istore 4, 2) := by decide +kernel
theorem dX6_freeze_53 : decode cX6_freeze 53 = .ok (.aload_n 0, 1) := by decide +kernel
theorem dX6_freeze_54 : decode cX6_freeze 54 = .ok (.getfield 10, 3) := by decide +kernel
theorem dX6_freeze_57 : decode cX6_freeze 57 = .ok (.iload_n 3, 1) := by decide +kernel
theorem dX6_freeze_58 : decode cX6_freeze 58 = .ok (.iload_n 2, 1) := by decide +kernel
theorem dX6_freeze_59 : decode cX6_freeze 59 = .ok (.invokevirtual 102, 3) := by decide +kernel
theorem dX6_freeze_62 : decode cX6_freeze 62 = .ok (.iload 4, 2) := by decide +kernel
theorem dX6_freeze_64 : decode cX6_freeze 64 = .ok (.ireturn, 1) := by decide +kernel
set_option maxRecDepth 20000 in
theorem ggX6_count_X4_layAll : GoodIn wsX6_count wsX4_layAll := goodIn_r _ [14, 15, 16, 17, 18, 19, 20, 21, 22, 23, 24, 25, 26, 27, 28, 29, 30, 31, 13, 32, 33, 34, 35, 36, 37, 38, 39, 40, 41, 42, 43, 44, 45, 46, 47, 48, 49, 50, 51, 52, 53, 54, 55, 56, 57, 58, 59, 60, 61, 62, 63, 64, 65, 66, 67, 68, 69, 70, 120, 121, 122, 123, 124, 125, 130, 131, 132, 133, 134] (by decide +kernel) (by decide +kernel)
set_option maxRecDepth 20000 in
theorem gX6_count_X4_layAll : GoodIn wsX6_count (wsV RX6 106 RX4 yX4_layAll wsX4_layAll) := goodIn_app (goodIn_of _ (by decide +kernel)) ggX6_count_X4_layAll
set_option maxRecDepth 20000 in
theorem ggX6_count_X1_lines : GoodIn wsX6_count wsX1_lines := goodIn_r _ [74, 21, 22, 23, 24, 25, 26, 27, 28, 120, 121, 122, 123, 124, 125, 130] (by decide +kernel) (by decide +kernel)
set_option maxRecDepth 20000 in
theorem gX6_count_X1_lines : GoodIn wsX6_count (wsV RX6 62 RX1 yX1_lines wsX1_lines) := goodIn_app (goodIn_of _ (by decide +kernel)) ggX6_count_X1_lines
set_option maxRecDepth 20000 in
theorem ggX6_count_X1_badnessOfAll : GoodIn wsX6_count wsX1_badnessOfAll := goodIn_r _ [78, 21, 22, 23, 24, 25, 26, 27, 28, 79, 17, 18, 19, 20, 80, 81, 82, 83, 84, 46, 47, 48, 49, 50, 120, 121, 122, 123, 124, 125, 130] (by decide +kernel) (by decide +kernel)
set_option maxRecDepth 20000 in
theorem gX6_count_X1_badnessOfAll : GoodIn wsX6_count (wsV RX6 110 RX1 yX1_badnessOfAll wsX1_badnessOfAll) := goodIn_app (goodIn_of _ (by decide +kernel)) ggX6_count_X1_badnessOfAll
set_option maxRecDepth 20000 in
theorem ggX6_count_X4_greatestReach : GoodIn wsX6_count wsX4_greatestReach := goodIn_r _ [88, 33, 34, 35, 36, 37, 70, 24, 25, 26, 27, 28, 131, 132, 133, 134, 130] (by decide +kernel) (by decide +kernel)
set_option maxRecDepth 20000 in
theorem gX6_count_X4_greatestReach : GoodIn wsX6_count (wsV RX6 113 RX4 yX4_greatestReach wsX4_greatestReach) := goodIn_app (goodIn_of _ (by decide +kernel)) ggX6_count_X4_greatestReach
set_option maxRecDepth 20000 in
theorem ggX6_count_X4_joints : GoodIn wsX6_count wsX4_joints := goodIn_r _ [92, 15, 93, 94, 95, 19, 96, 21, 22, 23, 24, 25, 26, 27, 28, 97, 98, 99, 100, 101, 102, 103, 13, 104, 63, 64, 65, 66, 43, 44, 34, 35, 36, 37, 67, 68, 69, 70, 120, 121, 122, 123, 124, 125, 130, 131, 132, 133, 134] (by decide +kernel) (by decide +kernel)
set_option maxRecDepth 20000 in
theorem gX6_count_X4_joints : GoodIn wsX6_count (wsV RX6 117 RX4 yX4_joints wsX4_joints) := goodIn_app (goodIn_of _ (by decide +kernel)) ggX6_count_X4_joints
set_option maxRecDepth 20000 in
theorem ggX6_count_X1_frozenLines : GoodIn wsX6_count wsX1_frozenLines := goodIn_r _ [108, 21, 109, 23, 24, 25, 26, 27, 28, 120, 121, 122, 123, 124, 125, 130] (by decide +kernel) (by decide +kernel)
set_option maxRecDepth 20000 in
theorem gX6_count_X1_frozenLines : GoodIn wsX6_count (wsV RX6 48 RX1 yX1_frozenLines wsX1_frozenLines) := goodIn_app (goodIn_of _ (by decide +kernel)) ggX6_count_X1_frozenLines
set_option maxRecDepth 20000 in
theorem ggX6_count_X4_gapsOfGreatestReach : GoodIn wsX6_count wsX4_gapsOfGreatestReach := goodIn_r _ [113, 33, 114, 86, 87, 13, 88, 34, 35, 36, 37, 70, 24, 25, 26, 27, 28, 131, 132, 133, 134, 130] (by decide +kernel) (by decide +kernel)
set_option maxRecDepth 20000 in
theorem gX6_count_X4_gapsOfGreatestReach : GoodIn wsX6_count (wsV RX6 127 RX4 yX4_gapsOfGreatestReach wsX4_gapsOfGreatestReach) := goodIn_app (goodIn_of _ (by decide +kernel)) ggX6_count_X4_gapsOfGreatestReach
theorem dX6_count_0 : decode cX6_count 0 = .ok (.aload_n 0, 1) := by decide +kernel
theorem dX6_count_1 : decode cX6_count 1 = .ok (.getfield 26, 3) := by decide +kernel
theorem dX6_count_4 : decode cX6_count 4 = .ok (.aload_n 0, 1) := by decide +kernel
theorem dX6_count_5 : decode cX6_count 5 = .ok (.getfield 10, 3) := by decide +kernel
theorem dX6_count_8 : decode cX6_count 8 = .ok (.invokevirtual 106, 3) := by decide +kernel
theorem dX6_count_11 : decode cX6_count 11 = .ok (.iload_n 1, 1) := by decide +kernel
theorem dX6_count_12 : decode cX6_count 12 = .ok (.tableswitch 187 0 11 #[64, 72, 80, 88, 96, 104, 120, 136, 148, 156, 164, 172], 64) := by decide +kernel
theorem dX6_count_76 : decode cX6_count 76 = .ok (.aload_n 0, 1) := by decide +kernel
theorem dX6_count_77 : decode cX6_count 77 = .ok (.getfield 10, 3) := by decide +kernel
theorem dX6_count_80 : decode cX6_count 80 = .ok (.getfield 68, 3) := by decide +kernel
theorem dX6_count_83 : decode cX6_count 83 = .ok (.ireturn, 1) := by decide +kernel
theorem dX6_count_84 : decode cX6_count 84 = .ok (.aload_n 0, 1) := by decide +kernel
theorem dX6_count_85 : decode cX6_count 85 = .ok (.getfield 10, 3) := by decide +kernel
theorem dX6_count_88 : decode cX6_count 88 = .ok (.invokevirtual 62, 3) := by decide +kernel
theorem dX6_count_91 : decode cX6_count 91 = .ok (.ireturn, 1) := by decide +kernel
theorem dX6_count_92 : decode cX6_count 92 = .ok (.aload_n 0, 1) := by decide +kernel
theorem dX6_count_93 : decode cX6_count 93 = .ok (.getfield 10, 3) := by decide +kernel
theorem dX6_count_96 : decode cX6_count 96 = .ok (.getfield 55, 3) := by decide +kernel
theorem dX6_count_99 : decode cX6_count 99 = .ok (.ireturn, 1) := by decide +kernel
theorem dX6_count_100 : decode cX6_count 100 = .ok (.aload_n 0, 1) := by decide +kernel
theorem dX6_count_101 : decode cX6_count 101 = .ok (.getfield 10, 3) := by decide +kernel
theorem dX6_count_104 : decode cX6_count 104 = .ok (.getfield 65, 3) := by decide +kernel
theorem dX6_count_107 : decode cX6_count 107 = .ok (.ireturn, 1) := by decide +kernel
theorem dX6_count_108 : decode cX6_count 108 = .ok (.aload_n 0, 1) := by decide +kernel
theorem dX6_count_109 : decode cX6_count 109 = .ok (.getfield 10, 3) := by decide +kernel
theorem dX6_count_112 : decode cX6_count 112 = .ok (.invokevirtual 110, 3) := by decide +kernel
theorem dX6_count_115 : decode cX6_count 115 = .ok (.ireturn, 1) := by decide +kernel
theorem dX6_count_116 : decode cX6_count 116 = .ok (.aload_n 0, 1) := by decide +kernel
theorem dX6_count_117 : decode cX6_count 117 = .ok (.getfield 26, 3) := by decide +kernel
theorem dX6_count_120 : decode cX6_count 120 = .ok (.iconst 0, 1) := by decide +kernel
theorem dX6_count_121 : decode cX6_count 121 = .ok (.aload_n 0, 1) := by decide +kernel
theorem dX6_count_122 : decode cX6_count 122 = .ok (.getfield 10, 3) := by decide +kernel
theorem dX6_count_125 : decode cX6_count 125 = .ok (.getfield 68, 3) := by decide +kernel
theorem dX6_count_128 : decode cX6_count 128 = .ok (.invokevirtual 113, 3) := by decide +kernel
theorem dX6_count_131 : decode cX6_count 131 = .ok (.ireturn, 1) := by decide +kernel
theorem dX6_count_132 : decode cX6_count 132 = .ok (.aload_n 0, 1) := by decide +kernel
theorem dX6_count_133 : decode cX6_count 133 = .ok (.getfield 10, 3) := by decide +kernel
theorem dX6_count_136 : decode cX6_count 136 = .ok (.getfield 68, 3) := by decide +kernel
theorem dX6_count_139 : decode cX6_count 139 = .ok (.aload_n 0, 1) := by decide +kernel
theorem dX6_count_140 : decode cX6_count 140 = .ok (.getfield 10, 3) := by decide +kernel
theorem dX6_count_143 : decode cX6_count 143 = .ok (.invokevirtual 62, 3) := by decide +kernel
theorem dX6_count_146 : decode cX6_count 146 = .ok (.isub, 1) := by decide +kernel
theorem dX6_count_147 : decode cX6_count 147 = .ok (.ireturn, 1) := by decide +kernel
theorem dX6_count_148 : decode cX6_count 148 = .ok (.aload_n 0, 1) := by decide +kernel
theorem dX6_count_149 : decode cX6_count 149 = .ok (.getfield 26, 3) := by decide +kernel
theorem dX6_count_152 : decode cX6_count 152 = .ok (.aload_n 0, 1) := by decide +kernel
theorem dX6_count_153 : decode cX6_count 153 = .ok (.getfield 10, 3) := by decide +kernel
theorem dX6_count_156 : decode cX6_count 156 = .ok (.invokevirtual 117, 3) := by decide +kernel
theorem dX6_count_159 : decode cX6_count 159 = .ok (.ireturn, 1) := by decide +kernel
theorem dX6_count_160 : decode cX6_count 160 = .ok (.aload_n 0, 1) := by decide +kernel
theorem dX6_count_161 : decode cX6_count 161 = .ok (.getfield 10, 3) := by decide +kernel
theorem dX6_count_164 : decode cX6_count 164 = .ok (.invokevirtual 48, 3) := by decide +kernel
theorem dX6_count_167 : decode cX6_count 167 = .ok (.ireturn, 1) := by decide +kernel
theorem dX6_count_168 : decode cX6_count 168 = .ok (.aload_n 0, 1) := by decide +kernel
theorem dX6_count_169 : decode cX6_count 169 = .ok (.getfield 19, 3) := by decide +kernel
theorem dX6_count_172 : decode cX6_count 172 = .ok (.getfield 121, 3) := by decide +kernel
theorem dX6_count_175 : decode cX6_count 175 = .ok (.ireturn, 1) := by decide +kernel
theorem dX6_count_176 : decode cX6_count 176 = .ok (.aload_n 0, 1) := by decide +kernel
theorem dX6_count_177 : decode cX6_count 177 = .ok (.getfield 40, 3) := by decide +kernel
theorem dX6_count_180 : decode cX6_count 180 = .ok (.getfield 124, 3) := by decide +kernel
theorem dX6_count_183 : decode cX6_count 183 = .ok (.ireturn, 1) := by decide +kernel
theorem dX6_count_184 : decode cX6_count 184 = .ok (.aload_n 0, 1) := by decide +kernel
theorem dX6_count_185 : decode cX6_count 185 = .ok (.getfield 26, 3) := by decide +kernel
theorem dX6_count_188 : decode cX6_count 188 = .ok (.aload_n 0, 1) := by decide +kernel
theorem dX6_count_189 : decode cX6_count 189 = .ok (.getfield 10, 3) := by decide +kernel
theorem dX6_count_192 : decode cX6_count 192 = .ok (.getfield 68, 3) := by decide +kernel
theorem dX6_count_195 : decode cX6_count 195 = .ok (.invokevirtual 127, 3) := by decide +kernel
theorem dX6_count_198 : decode cX6_count 198 = .ok (.ireturn, 1) := by decide +kernel
theorem dX6_count_199 : decode cX6_count 199 = .ok (.iconst (-1), 1) := by decide +kernel
theorem dX6_count_200 : decode cX6_count 200 = .ok (.ireturn, 1) := by decide +kernel
set_option maxRecDepth 20000 in
theorem ggX6_word_X6_isWithin : GoodIn wsX6_word wsX6_isWithin := goodIn_r _ [7] (by decide +kernel) (by decide +kernel)
set_option maxRecDepth 20000 in
theorem gX6_word_X6_isWithin : GoodIn wsX6_word (va_wsS RX6 44 yX6_isWithin wsX6_isWithin) := goodIn_app (goodIn_of _ (by decide +kernel)) ggX6_word_X6_isWithin
set_option maxRecDepth 20000 in
theorem ggX6_word_X4_layAll : GoodIn wsX6_word wsX4_layAll := goodIn_r _ [12, 13, 14, 15, 16, 17, 18, 19, 20, 21, 22, 23, 24, 25, 26, 27, 28, 29, 11, 30, 31, 32, 33, 34, 35, 36, 37, 38, 39, 40, 41, 42, 43, 44, 45, 46, 47, 48, 49, 50, 51, 52, 53, 54, 55, 56, 57, 58, 59, 60, 61, 62, 63, 64, 65, 66, 67, 68, 83, 84, 85, 86, 87, 88, 89, 90, 91, 92, 93] (by decide +kernel) (by decide +kernel)
set_option maxRecDepth 20000 in
theorem gX6_word_X4_layAll : GoodIn wsX6_word (wsV RX6 106 RX4 yX4_layAll wsX4_layAll) := goodIn_app (goodIn_of _ (by decide +kernel)) ggX6_word_X4_layAll
set_option maxRecDepth 20000 in
theorem ggX6_word_X1_lengthOf : GoodIn wsX6_word wsX1_lengthOf := goodIn_r _ [56, 48, 21, 22, 23, 24, 25, 26, 83, 84, 85, 86, 87, 88, 89] (by decide +kernel) (by decide +kernel)
set_option maxRecDepth 20000 in
theorem gX6_word_X1_lengthOf : GoodIn wsX6_word (wsV RX6 130 RX1 yX1_lengthOf wsX1_lengthOf) := goodIn_app (goodIn_of _ (by decide +kernel)) ggX6_word_X1_lengthOf
set_option maxRecDepth 20000 in
theorem ggX6_word_X1_lineOf : GoodIn wsX6_word wsX1_lineOf := goodIn_r _ [73, 19, 20, 21, 22, 23, 24, 25, 26, 83, 84, 85, 86, 87, 88, 89] (by decide +kernel) (by decide +kernel)
set_option maxRecDepth 20000 in
theorem gX6_word_X1_lineOf : GoodIn wsX6_word (wsV RX6 133 RX1 yX1_lineOf wsX1_lineOf) := goodIn_app (goodIn_of _ (by decide +kernel)) ggX6_word_X1_lineOf
set_option maxRecDepth 20000 in
theorem ggX6_word_X4_columnOf : GoodIn wsX6_word wsX4_columnOf := goodIn_r _ [77, 40, 68, 22, 23, 24, 25, 26, 90, 91, 92, 93, 89] (by decide +kernel) (by decide +kernel)
set_option maxRecDepth 20000 in
theorem gX6_word_X4_columnOf : GoodIn wsX6_word (wsV RX6 136 RX4 yX4_columnOf wsX4_columnOf) := goodIn_app (goodIn_of _ (by decide +kernel)) ggX6_word_X4_columnOf
theorem dX6_word_0 : decode cX6_word 0 = .ok (.iload_n 1, 1) := by decide +kernel
theorem dX6_word_1 : decode cX6_word 1 = .ok (.iconst 0, 1) := by decide +kernel
theorem dX6_word_2 : decode cX6_word 2 = .ok (.aload_n 0, 1) := by decide +kernel
theorem dX6_word_3 : decode cX6_word 3 = .ok (.getfield 10, 3) := by decide +kernel
theorem dX6_word_6 : decode cX6_word 6 = .ok (.getfield 68, 3) := by decide +kernel
theorem dX6_word_9 : decode cX6_word 9 = .ok (.iconst 1, 1) := by decide +kernel
theorem dX6_word_10 : decode cX6_word 10 = .ok (.isub, 1) := by decide +kernel
theorem dX6_word_11 : decode cX6_word 11 = .ok (.invokestatic 44, 3) := by decide +kernel
theorem dX6_word_14 : decode cX6_word 14 = .ok (.ifCond .ne 5, 3) := by decide +kernel
theorem dX6_word_17 : decode cX6_word 17 = .ok (.iconst (-1), 1) := by decide +kernel
theorem dX6_word_18 : decode cX6_word 18 = .ok (.ireturn, 1) := by decide +kernel
theorem dX6_word_19 : decode cX6_word 19 = .ok (.aload_n 0, 1) := by decide +kernel
theorem dX6_word_20 : decode cX6_word 20 = .ok (.getfield 26, 3) := by decide +kernel
theorem dX6_word_23 : decode cX6_word 23 = .ok (.aload_n 0, 1) := by decide +kernel
theorem dX6_word_24 : decode cX6_word 24 = .ok (.getfield 10, 3) := by decide +kernel
theorem dX6_word_27 : decode cX6_word 27 = .ok (.invokevirtual 106, 3) := by decide +kernel
theorem dX6_word_30 : decode cX6_word 30 = .ok (.iload_n 2, 1) := by decide +kernel
theorem dX6_word_31 : decode cX6_word 31 = .ok (.tableswitch 52 0 2 #[25, 34, 43], 25) := by decide +kernel
theorem dX6_word_56 : decode cX6_word 56 = .ok (.aload_n 0, 1) := by decide +kernel
theorem dX6_word_57 : decode cX6_word 57 = .ok (.getfield 10, 3) := by decide +kernel
theorem dX6_word_60 : decode cX6_word 60 = .ok (.iload_n 1, 1) := by decide +kernel
theorem dX6_word_61 : decode cX6_word 61 = .ok (.invokevirtual 130, 3) := by decide +kernel
theorem dX6_word_64 : decode cX6_word 64 = .ok (.ireturn, 1) := by decide +kernel
theorem dX6_word_65 : decode cX6_word 65 = .ok (.aload_n 0, 1) := by decide +kernel
theorem dX6_word_66 : decode cX6_word 66 = .ok (.getfield 10, 3) := by decide +kernel
theorem dX6_word_69 : decode cX6_word 69 = .ok (.iload_n 1, 1) := by decide +kernel
theorem dX6_word_70 : decode cX6_word 70 = .ok (.invokevirtual 133, 3) := by decide +kernel
theorem dX6_word_73 : decode cX6_word 73 = .ok (.ireturn, 1) := by decide +kernel
theorem dX6_word_74 : decode cX6_word 74 = .ok (.aload_n 0, 1) := by decide +kernel
theorem dX6_word_75 : decode cX6_word 75 = .ok (.getfield 26, 3) := by decide +kernel
theorem dX6_word_78 : decode cX6_word 78 = .ok (.iload_n 1, 1) := by decide +kernel
theorem dX6_word_79 : decode cX6_word 79 = .ok (.invokevirtual 136, 3) := by decide +kernel
theorem dX6_word_82 : decode cX6_word 82 = .ok (.ireturn, 1) := by decide +kernel
theorem dX6_word_83 : decode cX6_word 83 = .ok (.iconst (-1), 1) := by decide +kernel
theorem dX6_word_84 : decode cX6_word 84 = .ok (.ireturn, 1) := by decide +kernel
set_option maxRecDepth 20000 in
theorem ggX6_line_X1_hasLine : GoodIn wsX6_line wsX1_hasLine := goodIn_r _ [7, 8, 9, 10, 6, 11, 12, 13, 14, 15, 16, 17, 18, 19, 97, 98, 99, 100, 101, 102, 103] (by decide +kernel) (by decide +kernel)
set_option maxRecDepth 20000 in
theorem gX6_line_X1_hasLine : GoodIn wsX6_line (wsV RX6 93 RX1 yX1_hasLine wsX1_hasLine) := goodIn_app (goodIn_of _ (by decide +kernel)) ggX6_line_X1_hasLine
set_option maxRecDepth 20000 in
theorem ggX6_line_X1_firstOf : GoodIn wsX6_line wsX1_firstOf := goodIn_r _ [23, 12, 13, 14, 15, 16, 17, 18, 19, 97, 98, 99, 100, 101, 102, 103] (by decide +kernel) (by decide +kernel)
set_option maxRecDepth 20000 in
theorem gX6_line_X1_firstOf : GoodIn wsX6_line (wsV RX6 71 RX1 yX1_firstOf wsX1_firstOf) := goodIn_app (goodIn_of _ (by decide +kernel)) ggX6_line_X1_firstOf
set_option maxRecDepth 20000 in
theorem ggX6_line_X1_endOf : GoodIn wsX6_line wsX1_endOf := goodIn_r _ [27, 12, 13, 14, 15, 16, 17, 18, 19, 97, 98, 99, 100, 101, 102, 103] (by decide +kernel) (by decide +kernel)
set_option maxRecDepth 20000 in
theorem gX6_line_X1_endOf : GoodIn wsX6_line (wsV RX6 96 RX1 yX1_endOf wsX1_endOf) := goodIn_app (goodIn_of _ (by decide +kernel)) ggX6_line_X1_endOf
set_option maxRecDepth 20000 in
theorem ggX6_line_X4_layAll : GoodIn wsX6_line wsX4_layAll := goodIn_r _ [32, 33, 34, 25, 26, 6, 27, 12, 13, 14, 15, 16, 17, 18, 19, 35, 36, 37, 31, 38, 39, 40, 41, 42, 43, 44, 45, 46, 47, 48, 49, 50, 51, 52, 53, 54, 55, 56, 57, 58, 59, 60, 61, 62, 63, 64, 65, 66, 67, 68, 69, 70, 71, 72, 73, 74, 75, 76, 97, 98, 99, 100, 101, 102, 103, 104, 105, 106, 107] (by decide +kernel) (by decide +kernel)
set_option maxRecDepth 20000 in
theorem gX6_line_X4_layAll : GoodIn wsX6_line (wsV RX6 106 RX4 yX4_layAll wsX4_layAll) := goodIn_app (goodIn_of _ (by decide +kernel)) ggX6_line_X4_layAll
set_option maxRecDepth 20000 in
theorem ggX6_line_X1_extra : GoodIn wsX6_line wsX1_extra := goodIn_r _ [54, 55, 56, 14, 15, 16, 17, 18, 19, 97, 98, 99, 100, 101, 102, 103] (by decide +kernel) (by decide +kernel)
set_option maxRecDepth 20000 in
theorem gX6_line_X1_extra : GoodIn wsX6_line (wsV RX6 139 RX1 yX1_extra wsX1_extra) := goodIn_app (goodIn_of _ (by decide +kernel)) ggX6_line_X1_extra
set_option maxRecDepth 20000 in
theorem ggX6_line_X1_badness : GoodIn wsX6_line wsX1_badness := goodIn_r _ [81, 12, 82, 52, 53, 6, 54, 55, 56, 14, 15, 16, 17, 18, 19, 97, 98, 99, 100, 101, 102, 103] (by decide +kernel) (by decide +kernel)
set_option maxRecDepth 20000 in
theorem gX6_line_X1_badness : GoodIn wsX6_line (wsV RX6 142 RX1 yX1_badness wsX1_badness) := goodIn_app (goodIn_of _ (by decide +kernel)) ggX6_line_X1_badness
set_option maxRecDepth 20000 in
theorem ggX6_line_X1_isFrozen : GoodIn wsX6_line wsX1_isFrozen := goodIn_r _ [86, 87, 14, 15, 16, 17, 18, 19, 97, 98, 99, 100, 101, 102, 103] (by decide +kernel) (by decide +kernel)
set_option maxRecDepth 20000 in
theorem gX6_line_X1_isFrozen : GoodIn wsX6_line (wsV RX6 79 RX1 yX1_isFrozen wsX1_isFrozen) := goodIn_app (goodIn_of _ (by decide +kernel)) ggX6_line_X1_isFrozen
set_option maxRecDepth 20000 in
theorem ggX6_line_X4_greatestReach : GoodIn wsX6_line wsX4_greatestReach := goodIn_r _ [91, 39, 40, 41, 42, 43, 76, 15, 16, 17, 18, 19, 104, 105, 106, 107, 103] (by decide +kernel) (by decide +kernel)
set_option maxRecDepth 20000 in
theorem gX6_line_X4_greatestReach : GoodIn wsX6_line (wsV RX6 113 RX4 yX4_greatestReach wsX4_greatestReach) := goodIn_app (goodIn_of _ (by decide +kernel)) ggX6_line_X4_greatestReach
theorem dX6_line_0 : decode cX6_line 0 = .ok (.aload_n 0, 1) := by decide +kernel
theorem dX6_line_1 : decode cX6_line 1 = .ok (.getfield 10, 3) := by decide +kernel
theorem dX6_line_4 : decode cX6_line 4 = .ok (.iload_n 1, 1) := by decide +kernel
theorem dX6_line_5 : decode cX6_line 5 = .ok (.invokevirtual 93, 3) := by decide +kernel
theorem dX6_line_8 : decode cX6_line 8 = .ok (.ifCond .ne 5, 3) := by decide +kernel
theorem dX6_line_11 : decode cX6_line 11 = .ok (.iconst (-1), 1) := by decide +kernel
theorem dX6_line_12 : decode cX6_line 12 = .ok (.ireturn, 1) := by decide +kernel
theorem dX6_line_13 : decode cX6_line 13 = .ok (.aload_n 0, 1) := by decide +kernel
theorem dX6_line_14 : decode cX6_line 14 = .ok (.getfield 10, 3) := by decide +kernel
theorem dX6_line_17 : decode cX6_line 17 = .ok (.iload_n 1, 1) := by decide +kernel
theorem dX6_line_18 : decode cX6_line 18 = .ok (.invokevirtual 71, 3) := by decide +kernel
theorem dX6_line_21 : decode cX6_line 21 = .ok (.istore_n 3, 1) := by decide +kernel
theorem dX6_line_22 : decode cX6_line 22 = .ok (.aload_n 0, 1) := by decide +kernel
theorem dX6_line_23 : decode cX6_line 23 = .ok (.getfield 10, 3) := by decide +kernel
theorem dX6_line_26 : decode cX6_line 26 = .ok (.iload_n 3, 1) := by decide +kernel
theorem dX6_line_27 : decode cX6_line 27 = .ok (.invokevirtual 96, 3) := by decide +kernel
theorem dX6_line_30 : decode cX6_line 30 = .ok (.istore 4, 2) := by decide +kernel
theorem dX6_line_32 : decode cX6_line 32 = .ok (.aload_n 0, 1) := by decide +kernel
theorem dX6_line_33 : decode cX6_line 33 = .ok (.getfield 26, 3) := by decide +kernel
theorem dX6_line_36 : decode cX6_line 36 = .ok (.aload_n 0, 1) := by decide +kernel
theorem dX6_line_37 : decode cX6_line 37 = .ok (.getfield 10, 3) := by decide +kernel
theorem dX6_line_40 : decode cX6_line 40 = .ok (.invokevirtual 106, 3) := by decide +kernel
theorem dX6_line_43 : decode cX6_line 43 = .ok (.iload_n 2, 1) := by decide +kernel
theorem dX6_line_44 : decode cX6_line 44 = .ok (.tableswitch 108 0 6 #[44, 46, 51, 62, 73, 80, 97], 44) := by decide +kernel
theorem dX6_line_88 : decode cX6_line 88 = .ok (.iload_n 3, 1) := by decide +kernel
theorem dX6_line_89 : decode cX6_line 89 = .ok (.ireturn, 1) := by decide +kernel
theorem dX6_line_90 : decode cX6_line 90 = .ok (.iload 4, 2) := by decide +kernel
theorem dX6_line_92 : decode cX6_line 92 = .ok (.iload_n 3, 1) := by decide +kernel
theorem dX6_line_93 : decode cX6_line 93 = .ok (.isub, 1) := by decide +kernel
theorem dX6_line_94 : decode cX6_line 94 = .ok (.ireturn, 1) := by decide +kernel
theorem dX6_line_95 : decode cX6_line 95 = .ok (.aload_n 0, 1) := by decide +kernel
theorem dX6_line_96 : decode cX6_line 96 = .ok (.getfield 10, 3) := by decide +kernel
theorem dX6_line_99 : decode cX6_line 99 = .ok (.iload_n 3, 1) := by decide +kernel
theorem dX6_line_100 : decode cX6_line 100 = .ok (.iload 4, 2) := by decide +kernel
theorem dX6_line_102 : decode cX6_line 102 = .ok (.invokevirtual 139, 3) := by decide +kernel
theorem dX6_line_105 : decode cX6_line 105 = .ok (.ireturn, 1) := by decide +kernel
theorem dX6_line_106 : decode cX6_line 106 = .ok (.aload_n 0, 1) := by decide +kernel
theorem dX6_line_107 : decode cX6_line 107 = .ok (.getfield 10, 3) := by decide +kernel
theorem dX6_line_110 : decode cX6_line 110 = .ok (.iload_n 3, 1) := by decide +kernel
theorem dX6_line_111 : decode cX6_line 111 = .ok (.iload 4, 2) := by decide +kernel
theorem dX6_line_113 : decode cX6_line 113 = .ok (.invokevirtual 142, 3) := by decide +kernel
theorem dX6_line_116 : decode cX6_line 116 = .ok (.ireturn, 1) := by decide +kernel
theorem dX6_line_117 : decode cX6_line 117 = .ok (.iload 4, 2) := by decide +kernel
theorem dX6_line_119 : decode cX6_line 119 = .ok (.iload_n 3, 1) := by decide +kernel
theorem dX6_line_120 : decode cX6_line 120 = .ok (.isub, 1) := by decide +kernel
theorem dX6_line_121 : decode cX6_line 121 = .ok (.iconst 1, 1) := by decide +kernel
theorem dX6_line_122 : decode cX6_line 122 = .ok (.isub, 1) := by decide +kernel
theorem dX6_line_123 : decode cX6_line 123 = .ok (.ireturn, 1) := by decide +kernel
theorem dX6_line_124 : decode cX6_line 124 = .ok (.aload_n 0, 1) := by decide +kernel
theorem dX6_line_125 : decode cX6_line 125 = .ok (.getfield 10, 3) := by decide +kernel
theorem dX6_line_128 : decode cX6_line 128 = .ok (.iload_n 3, 1) := by decide +kernel
theorem dX6_line_129 : decode cX6_line 129 = .ok (.invokevirtual 79, 3) := by decide +kernel
theorem dX6_line_132 : decode cX6_line 132 = .ok (.ifCond .eq 7, 3) := by decide +kernel
theorem dX6_line_135 : decode cX6_line 135 = .ok (.iconst 1, 1) := by decide +kernel
theorem dX6_line_136 : decode cX6_line 136 = .ok (.goto 4, 3) := by decide +kernel
theorem dX6_line_139 : decode cX6_line 139 = .ok (.iconst 0, 1) := by decide +kernel
theorem dX6_line_140 : decode cX6_line 140 = .ok (.ireturn, 1) := by decide +kernel
theorem dX6_line_141 : decode cX6_line 141 = .ok (.aload_n 0, 1) := by decide +kernel
theorem dX6_line_142 : decode cX6_line 142 = .ok (.getfield 26, 3) := by decide +kernel
theorem dX6_line_145 : decode cX6_line 145 = .ok (.iload_n 3, 1) := by decide +kernel
theorem dX6_line_146 : decode cX6_line 146 = .ok (.iload 4, 2) := by decide +kernel
theorem dX6_line_148 : decode cX6_line 148 = .ok (.invokevirtual 113, 3) := by decide +kernel
theorem dX6_line_151 : decode cX6_line 151 = .ok (.ireturn, 1) := by decide +kernel
theorem dX6_line_152 : decode cX6_line 152 = .ok (.iconst (-1), 1) := by decide +kernel
theorem dX6_line_153 : decode cX6_line 153 = .ok (.ireturn, 1) := by decide +kernel
set_option maxRecDepth 20000 in
theorem ggX6_undo_X0_restoreLatest : GoodIn wsX6_undo wsX0_restoreLatest := goodIn_r _ [9, 10, 11, 12, 13, 8, 14, 15, 16, 17, 18, 19, 20, 21, 22, 23, 24, 25, 26, 27, 28, 29, 30, 31, 32, 33, 34, 35, 36, 48, 49, 50, 51, 52, 53, 54, 55, 56] (by decide +kernel) (by decide +kernel)
set_option maxRecDepth 20000 in
theorem gX6_undo_X0_restoreLatest : GoodIn wsX6_undo (wsV RX6 145 RX0 yX0_restoreLatest wsX0_restoreLatest) := goodIn_app (goodIn_of _ (by decide +kernel)) ggX6_undo_X0_restoreLatest
set_option maxRecDepth 20000 in
theorem ggX6_undo_X3_forget : GoodIn wsX6_undo wsX3_forget := goodIn_r _ [41, 42, 57, 58, 59, 60, 61, 62, 63, 64, 65, 66] (by decide +kernel) (by decide +kernel)
set_option maxRecDepth 20000 in
theorem gX6_undo_X3_forget : GoodIn wsX6_undo (wsV RX6 148 RX3 yX3_forget wsX3_forget) := goodIn_app (goodIn_of _ (by decide +kernel)) ggX6_undo_X3_forget
theorem dX6_undo_0 : decode cX6_undo 0 = .ok (.aload_n 0, 1) := by decide +kernel
theorem dX6_undo_1 : decode cX6_undo 1 = .ok (.getfield 19, 3) := by decide +kernel
theorem dX6_undo_4 : decode cX6_undo 4 = .ok (.getfield 121, 3) := by decide +kernel
theorem dX6_undo_7 : decode cX6_undo 7 = .ok (.ifCond .ne 6, 3) := by decide +kernel
theorem dX6_undo_10 : decode cX6_undo 10 = .ok (.bipush (-2), 2) := by decide +kernel
theorem dX6_undo_12 : decode cX6_undo 12 = .ok (.ireturn, 1) := by decide +kernel
theorem dX6_undo_13 : decode cX6_undo 13 = .ok (.aload_n 0, 1) := by decide +kernel
theorem dX6_undo_14 : decode cX6_undo 14 = .ok (.getfield 19, 3) := by decide +kernel
theorem dX6_undo_17 : decode cX6_undo 17 = .ok (.aload_n 0, 1) := by decide +kernel
theorem dX6_undo_18 : decode cX6_undo 18 = .ok (.getfield 10, 3) := by decide +kernel
theorem dX6_undo_21 : decode cX6_undo 21 = .ok (.invokevirtual 145, 3) := by decide +kernel
theorem dX6_undo_24 : decode cX6_undo 24 = .ok (.aload_n 0, 1) := by decide +kernel
theorem dX6_undo_25 : decode cX6_undo 25 = .ok (.getfield 33, 3) := by decide +kernel
theorem dX6_undo_28 : decode cX6_undo 28 = .ok (.invokevirtual 148, 3) := by decide +kernel
theorem dX6_undo_31 : decode cX6_undo 31 = .ok (.aload_n 0, 1) := by decide +kernel
theorem dX6_undo_32 : decode cX6_undo 32 = .ok (.getfield 19, 3) := by decide +kernel
theorem dX6_undo_35 : decode cX6_undo 35 = .ok (.getfield 121, 3) := by decide +kernel
theorem dX6_undo_38 : decode cX6_undo 38 = .ok (.ireturn, 1) := by decide +kernel
set_option maxRecDepth 20000 in
theorem ggX6_gap_X1_hasLine : GoodIn wsX6_gap wsX1_hasLine := goodIn_r _ [7, 8, 9, 10, 6, 11, 12, 13, 14, 15, 16, 17, 18, 19, 102, 103, 104, 105, 106, 107, 108] (by decide +kernel) (by decide +kernel)
set_option maxRecDepth 20000 in
theorem gX6_gap_X1_hasLine : GoodIn wsX6_gap (wsV RX6 93 RX1 yX1_hasLine wsX1_hasLine) := goodIn_app (goodIn_of _ (by decide +kernel)) ggX6_gap_X1_hasLine
set_option maxRecDepth 20000 in
theorem ggX6_gap_X1_firstOf : GoodIn wsX6_gap wsX1_firstOf := goodIn_r _ [23, 12, 13, 14, 15, 16, 17, 18, 19, 102, 103, 104, 105, 106, 107, 108] (by decide +kernel) (by decide +kernel)
set_option maxRecDepth 20000 in
theorem gX6_gap_X1_firstOf : GoodIn wsX6_gap (wsV RX6 71 RX1 yX1_firstOf wsX1_firstOf) := goodIn_app (goodIn_of _ (by decide +kernel)) ggX6_gap_X1_firstOf
set_option maxRecDepth 20000 in
theorem ggX6_gap_X1_endOf : GoodIn wsX6_gap wsX1_endOf := goodIn_r _ [27, 12, 13, 14, 15, 16, 17, 18, 19, 102, 103, 104, 105, 106, 107, 108] (by decide +kernel) (by decide +kernel)
set_option maxRecDepth 20000 in
theorem gX6_gap_X1_endOf : GoodIn wsX6_gap (wsV RX6 96 RX1 yX1_endOf wsX1_endOf) := goodIn_app (goodIn_of _ (by decide +kernel)) ggX6_gap_X1_endOf
set_option maxRecDepth 20000 in
theorem ggX6_gap_X6_isWithin : GoodIn wsX6_gap wsX6_isWithin := goodIn_r _ [31] (by decide +kernel) (by decide +kernel)
set_option maxRecDepth 20000 in
theorem gX6_gap_X6_isWithin : GoodIn wsX6_gap (va_wsS RX6 44 yX6_isWithin wsX6_isWithin) := goodIn_app (goodIn_of _ (by decide +kernel)) ggX6_gap_X6_isWithin
set_option maxRecDepth 20000 in
theorem ggX6_gap_X4_layAll : GoodIn wsX6_gap wsX4_layAll := goodIn_r _ [36, 37, 38, 25, 26, 6, 27, 12, 13, 14, 15, 16, 17, 18, 19, 39, 40, 41, 35, 42, 43, 44, 45, 46, 47, 48, 49, 50, 51, 52, 53, 54, 55, 56, 57, 58, 59, 60, 61, 62, 63, 64, 65, 66, 67, 68, 69, 70, 71, 72, 73, 74, 75, 76, 77, 78, 79, 80, 102, 103, 104, 105, 106, 107, 108, 109, 110, 111, 112] (by decide +kernel) (by decide +kernel)
set_option maxRecDepth 20000 in
theorem gX6_gap_X4_layAll : GoodIn wsX6_gap (wsV RX6 106 RX4 yX4_layAll wsX4_layAll) := goodIn_app (goodIn_of _ (by decide +kernel)) ggX6_gap_X4_layAll
set_option maxRecDepth 20000 in
theorem ggX6_gap_X4_gapColumn : GoodIn wsX6_gap wsX4_gapColumn := goodIn_r _ [84, 53, 80, 15, 16, 17, 18, 19, 109, 110, 111, 112, 108] (by decide +kernel) (by decide +kernel)
set_option maxRecDepth 20000 in
theorem gX6_gap_X4_gapColumn : GoodIn wsX6_gap (wsV RX6 151 RX4 yX4_gapColumn wsX4_gapColumn) := goodIn_app (goodIn_of _ (by decide +kernel)) ggX6_gap_X4_gapColumn
set_option maxRecDepth 20000 in
theorem ggX6_gap_X4_gapWidth : GoodIn wsX6_gap wsX4_gapWidth := goodIn_r _ [88, 54, 80, 15, 16, 17, 18, 19, 109, 110, 111, 112, 108] (by decide +kernel) (by decide +kernel)
set_option maxRecDepth 20000 in
theorem gX6_gap_X4_gapWidth : GoodIn wsX6_gap (wsV RX6 154 RX4 yX4_gapWidth wsX4_gapWidth) := goodIn_app (goodIn_of _ (by decide +kernel)) ggX6_gap_X4_gapWidth
set_option maxRecDepth 20000 in
theorem ggX6_gap_X4_reachOf : GoodIn wsX6_gap wsX4_reachOf := goodIn_r _ [92, 43, 80, 15, 16, 17, 18, 19, 109, 110, 111, 112, 108] (by decide +kernel) (by decide +kernel)
set_option maxRecDepth 20000 in
theorem gX6_gap_X4_reachOf : GoodIn wsX6_gap (wsV RX6 157 RX4 yX4_reachOf wsX4_reachOf) := goodIn_app (goodIn_of _ (by decide +kernel)) ggX6_gap_X4_reachOf
set_option maxRecDepth 20000 in
theorem ggX6_gap_X4_gapsThatMeet : GoodIn wsX6_gap wsX4_gapsThatMeet := goodIn_r _ [96, 73, 74, 75, 35, 76, 53, 54, 44, 45, 46, 47, 77, 78, 79, 80, 15, 16, 17, 18, 19, 109, 110, 111, 112, 108] (by decide +kernel) (by decide +kernel)
set_option maxRecDepth 20000 in
theorem gX6_gap_X4_gapsThatMeet : GoodIn wsX6_gap (wsV RX6 160 RX4 yX4_gapsThatMeet wsX4_gapsThatMeet) := goodIn_app (goodIn_of _ (by decide +kernel)) ggX6_gap_X4_gapsThatMeet
theorem dX6_gap_0 : decode cX6_gap 0 = .ok (.aload_n 0, 1) := by decide +kernel
theorem dX6_gap_1 : decode cX6_gap 1 = .ok (.getfield 10, 3) := by decide +kernel
theorem dX6_gap_4 : decode cX6_gap 4 = .ok (.iload_n 1, 1) := by decide +kernel
theorem dX6_gap_5 : decode cX6_gap 5 = .ok (.invokevirtual 93, 3) := by decide +kernel
theorem dX6_gap_8 : decode cX6_gap 8 = .ok (.ifCond .ne 5, 3) := by decide +kernel
theorem dX6_gap_11 : decode cX6_gap 11 = .ok (.iconst (-1), 1) := by decide +kernel
theorem dX6_gap_12 : decode cX6_gap 12 = .ok (.ireturn, 1) := by decide +kernel
theorem dX6_gap_13 : decode cX6_gap 13 = .ok (.aload_n 0, 1) := by decide +kernel
theorem dX6_gap_14 : decode cX6_gap 14 = .ok (.getfield 10, 3) := by decide +kernel
theorem dX6_gap_17 : decode cX6_gap 17 = .ok (.iload_n 1, 1) := by decide +kernel
theorem dX6_gap_18 : decode cX6_gap 18 = .ok (.invokevirtual 71, 3) := by decide +kernel
theorem dX6_gap_21 : decode cX6_gap 21 = .ok (.istore 4, 2) := by decide +kernel
theorem dX6_gap_23 : decode cX6_gap 23 = .ok (.aload_n 0, 1) := by decide +kernel
theorem dX6_gap_24 : decode cX6_gap 24 = .ok (.getfield 10, 3) := by decide +kernel
theorem dX6_gap_27 : decode cX6_gap 27 = .ok (.iload 4, 2) := by decide +kernel
theorem dX6_gap_29 : decode cX6_gap 29 = .ok (.invokevirtual 96, 3) := by decide +kernel
theorem dX6_gap_32 : decode cX6_gap 32 = .ok (.istore 5, 2) := by decide +kernel
theorem dX6_gap_34 : decode cX6_gap 34 = .ok (.iload_n 2, 1) := by decide +kernel
theorem dX6_gap_35 : decode cX6_gap 35 = .ok (.iconst 0, 1) := by decide +kernel
theorem dX6_gap_36 : decode cX6_gap 36 = .ok (.iload 5, 2) := by decide +kernel
theorem dX6_gap_38 : decode cX6_gap 38 = .ok (.iload 4, 2) := by decide +kernel
theorem dX6_gap_40 : decode cX6_gap 40 = .ok (.isub, 1) := by decide +kernel
theorem dX6_gap_41 : decode cX6_gap 41 = .ok (.iconst 2, 1) := by decide +kernel
theorem dX6_gap_42 : decode cX6_gap 42 = .ok (.isub, 1) := by decide +kernel
theorem dX6_gap_43 : decode cX6_gap 43 = .ok (.invokestatic 44, 3) := by decide +kernel
theorem dX6_gap_46 : decode cX6_gap 46 = .ok (.ifCond .ne 5, 3) := by decide +kernel
theorem dX6_gap_49 : decode cX6_gap 49 = .ok (.iconst (-1), 1) := by decide +kernel
theorem dX6_gap_50 : decode cX6_gap 50 = .ok (.ireturn, 1) := by decide +kernel
theorem dX6_gap_51 : decode cX6_gap 51 = .ok (.iload 4, 2) := by decide +kernel
theorem dX6_gap_53 : decode cX6_gap 53 = .ok (.iload_n 2, 1) := by decide +kernel
theorem dX6_gap_54 : decode cX6_gap 54 = .ok (.iadd, 1) := by decide +kernel
theorem dX6_gap_55 : decode cX6_gap 55 = .ok (.istore 6, 2) := by decide +kernel
theorem dX6_gap_57 : decode cX6_gap 57 = .ok (.aload_n 0, 1) := by decide +kernel
theorem dX6_gap_58 : decode cX6_gap 58 = .ok (.getfield 26, 3) := by decide +kernel
theorem dX6_gap_61 : decode cX6_gap 61 = .ok (.aload_n 0, 1) := by decide +kernel
theorem dX6_gap_62 : decode cX6_gap 62 = .ok (.getfield 10, 3) := by decide +kernel
theorem dX6_gap_65 : decode cX6_gap 65 = .ok (.invokevirtual 106, 3) := by decide +kernel
theorem dX6_gap_68 : decode cX6_gap 68 = .ok (.iload_n 3, 1) := by decide +kernel
theorem dX6_gap_69 : decode cX6_gap 69 = .ok (.tableswitch 108 0 4 #[35, 45, 55, 65, 87], 35) := by decide +kernel
theorem dX6_gap_104 : decode cX6_gap 104 = .ok (.aload_n 0, 1) := by decide +kernel
theorem dX6_gap_105 : decode cX6_gap 105 = .ok (.getfield 26, 3) := by decide +kernel
theorem dX6_gap_108 : decode cX6_gap 108 = .ok (.iload 6, 2) := by decide +kernel
theorem dX6_gap_110 : decode cX6_gap 110 = .ok (.invokevirtual 151, 3) := by decide +kernel
theorem dX6_gap_113 : decode cX6_gap 113 = .ok (.ireturn, 1) := by decide +kernel
theorem dX6_gap_114 : decode cX6_gap 114 = .ok (.aload_n 0, 1) := by decide +kernel
theorem dX6_gap_115 : decode cX6_gap 115 = .ok (.getfield 26, 3) := by decide +kernel
theorem dX6_gap_118 : decode cX6_gap 118 = .ok (.iload 6, 2) := by decide +kernel
theorem dX6_gap_120 : decode cX6_gap 120 = .ok (.invokevirtual 154, 3) := by decide +kernel
theorem dX6_gap_123 : decode cX6_gap 123 = .ok (.ireturn, 1) := by decide +kernel
theorem dX6_gap_124 : decode cX6_gap 124 = .ok (.aload_n 0, 1) := by decide +kernel
theorem dX6_gap_125 : decode cX6_gap 125 = .ok (.getfield 26, 3) := by decide +kernel
theorem dX6_gap_128 : decode cX6_gap 128 = .ok (.iload 6, 2) := by decide +kernel
theorem dX6_gap_130 : decode cX6_gap 130 = .ok (.invokevirtual 157, 3) := by decide +kernel
theorem dX6_gap_133 : decode cX6_gap 133 = .ok (.ireturn, 1) := by decide +kernel
theorem dX6_gap_134 : decode cX6_gap 134 = .ok (.aload_n 0, 1) := by decide +kernel
theorem dX6_gap_135 : decode cX6_gap 135 = .ok (.getfield 26, 3) := by decide +kernel
theorem dX6_gap_138 : decode cX6_gap 138 = .ok (.iload 6, 2) := by decide +kernel
theorem dX6_gap_140 : decode cX6_gap 140 = .ok (.aload_n 0, 1) := by decide +kernel
theorem dX6_gap_141 : decode cX6_gap 141 = .ok (.getfield 10, 3) := by decide +kernel
theorem dX6_gap_144 : decode cX6_gap 144 = .ok (.iload_n 1, 1) := by decide +kernel
theorem dX6_gap_145 : decode cX6_gap 145 = .ok (.iconst 1, 1) := by decide +kernel
theorem dX6_gap_146 : decode cX6_gap 146 = .ok (.isub, 1) := by decide +kernel
theorem dX6_gap_147 : decode cX6_gap 147 = .ok (.invokevirtual 71, 3) := by decide +kernel
theorem dX6_gap_150 : decode cX6_gap 150 = .ok (.iload 4, 2) := by decide +kernel
theorem dX6_gap_152 : decode cX6_gap 152 = .ok (.invokevirtual 160, 3) := by decide +kernel
theorem dX6_gap_155 : decode cX6_gap 155 = .ok (.ireturn, 1) := by decide +kernel
theorem dX6_gap_156 : decode cX6_gap 156 = .ok (.aload_n 0, 1) := by decide +kernel
theorem dX6_gap_157 : decode cX6_gap 157 = .ok (.getfield 26, 3) := by decide +kernel
theorem dX6_gap_160 : decode cX6_gap 160 = .ok (.iload 6, 2) := by decide +kernel
theorem dX6_gap_162 : decode cX6_gap 162 = .ok (.iload 5, 2) := by decide +kernel
theorem dX6_gap_164 : decode cX6_gap 164 = .ok (.aload_n 0, 1) := by decide +kernel
theorem dX6_gap_165 : decode cX6_gap 165 = .ok (.getfield 10, 3) := by decide +kernel
theorem dX6_gap_168 : decode cX6_gap 168 = .ok (.iload 5, 2) := by decide +kernel
theorem dX6_gap_170 : decode cX6_gap 170 = .ok (.invokevirtual 96, 3) := by decide +kernel
theorem dX6_gap_173 : decode cX6_gap 173 = .ok (.invokevirtual 160, 3) := by decide +kernel
theorem dX6_gap_176 : decode cX6_gap 176 = .ok (.ireturn, 1) := by decide +kernel
theorem dX6_gap_177 : decode cX6_gap 177 = .ok (.iconst (-1), 1) := by decide +kernel
theorem dX6_gap_178 : decode cX6_gap 178 = .ok (.ireturn, 1) := by decide +kernel
set_option maxRecDepth 20000 in
theorem ggX6_plan_X6_isWithin : GoodIn wsX6_plan wsX6_isWithin := goodIn_r _ [8] (by decide +kernel) (by decide +kernel)
set_option maxRecDepth 20000 in
theorem gX6_plan_X6_isWithin : GoodIn wsX6_plan (va_wsS RX6 44 yX6_isWithin wsX6_isWithin) := goodIn_app (goodIn_of _ (by decide +kernel)) ggX6_plan_X6_isWithin
set_option maxRecDepth 20000 in
theorem ggX6_plan_X3_solve : GoodIn wsX6_plan wsX3_solve := goodIn_r _ [13, 14, 15, 16, 17, 18, 19, 20, 21, 22, 23, 24, 25, 26, 27, 28, 29, 30, 31, 32, 33, 34, 35, 36, 37, 38, 39, 40, 41, 42, 43, 12, 44, 45, 46, 47, 48, 49, 50, 51, 52, 53, 54, 55, 56, 57, 58, 59, 60, 61, 62, 63, 64, 65, 66, 67, 68, 69, 70, 71, 72, 73, 74, 75, 76, 77, 78, 79, 80, 81, 82, 83, 84, 85, 86, 87, 88, 89, 90, 91, 92, 93, 94, 95, 96, 97, 98, 99, 100, 101, 102, 103, 104, 105, 106, 107, 108, 109, 110, 111, 112, 113, 114, 115, 116, 117, 118, 119, 120, 121, 122, 123, 124, 125, 126, 127, 128, 129, 130, 131, 132, 133, 134, 135, 136, 137, 155, 156, 157, 158, 159, 160, 161, 162, 163, 164, 165, 166, 167, 168, 169, 170, 171, 172, 173, 174, 175] (by decide +kernel) (by decide +kernel)
set_option maxRecDepth 20000 in
theorem gX6_plan_X3_solve : GoodIn wsX6_plan (wsV RX6 170 RX3 yX3_solve wsX3_solve) := goodIn_app (goodIn_of _ (by decide +kernel)) ggX6_plan_X3_solve
set_option maxRecDepth 20000 in
theorem ggX6_plan_X3_hasFound : GoodIn wsX6_plan wsX3_hasFound := goodIn_r _ [141, 17, 16, 155, 156, 157, 158, 159, 160, 161, 162, 163, 164] (by decide +kernel) (by decide +kernel)
set_option maxRecDepth 20000 in
theorem gX6_plan_X3_hasFound : GoodIn wsX6_plan (wsV RX6 174 RX3 yX3_hasFound wsX3_hasFound) := goodIn_app (goodIn_of _ (by decide +kernel)) ggX6_plan_X3_hasFound
set_option maxRecDepth 20000 in
theorem ggX6_plan_X3_bestChanged : GoodIn wsX6_plan wsX3_bestChanged := goodIn_r _ [145, 17, 61, 155, 156, 157, 158, 159, 160, 161, 162, 163, 164] (by decide +kernel) (by decide +kernel)
set_option maxRecDepth 20000 in
theorem gX6_plan_X3_bestChanged : GoodIn wsX6_plan (wsV RX6 178 RX3 yX3_bestChanged wsX3_bestChanged) := goodIn_app (goodIn_of _ (by decide +kernel)) ggX6_plan_X3_bestChanged
set_option maxRecDepth 20000 in
theorem ggX6_plan_X3_bestBadness : GoodIn wsX6_plan wsX3_bestBadness := goodIn_r _ [149, 17, 61, 155, 156, 157, 158, 159, 160, 161, 162, 163, 164] (by decide +kernel) (by decide +kernel)
set_option maxRecDepth 20000 in
theorem gX6_plan_X3_bestBadness : GoodIn wsX6_plan (wsV RX6 184 RX3 yX3_bestBadness wsX3_bestBadness) := goodIn_app (goodIn_of _ (by decide +kernel)) ggX6_plan_X3_bestBadness
theorem dX6_plan_0 : decode cX6_plan 0 = .ok (.iload_n 1, 1) := by decide +kernel
theorem dX6_plan_1 : decode cX6_plan 1 = .ok (.iconst 1, 1) := by decide +kernel
theorem dX6_plan_2 : decode cX6_plan 2 = .ok (.bipush 24, 2) := by decide +kernel
theorem dX6_plan_4 : decode cX6_plan 4 = .ok (.invokestatic 44, 3) := by decide +kernel
theorem dX6_plan_7 : decode cX6_plan 7 = .ok (.ifCond .eq 12, 3) := by decide +kernel
theorem dX6_plan_10 : decode cX6_plan 10 = .ok (.iload_n 2, 1) := by decide +kernel
theorem dX6_plan_11 : decode cX6_plan 11 = .ok (.iconst 0, 1) := by decide +kernel
theorem dX6_plan_12 : decode cX6_plan 12 = .ok (.iconst 3, 1) := by decide +kernel
theorem dX6_plan_13 : decode cX6_plan 13 = .ok (.invokestatic 44, 3) := by decide +kernel
theorem dX6_plan_16 : decode cX6_plan 16 = .ok (.ifCond .ne 5, 3) := by decide +kernel
theorem dX6_plan_19 : decode cX6_plan 19 = .ok (.iconst (-1), 1) := by decide +kernel
theorem dX6_plan_20 : decode cX6_plan 20 = .ok (.ireturn, 1) := by decide +kernel
theorem dX6_plan_21 : decode cX6_plan 21 = .ok (.aload_n 0, 1) := by decide +kernel
theorem dX6_plan_22 : decode cX6_plan 22 = .ok (.getfield 33, 3) := by decide +kernel
theorem dX6_plan_25 : decode cX6_plan 25 = .ok (.aload_n 0, 1) := by decide +kernel
theorem dX6_plan_26 : decode cX6_plan 26 = .ok (.getfield 10, 3) := by decide +kernel
theorem dX6_plan_29 : decode cX6_plan 29 = .ok (.iload_n 1, 1) := by decide +kernel
theorem dX6_plan_30 : decode cX6_plan 30 = .ok (.invokevirtual 170, 3) := by decide +kernel
theorem dX6_plan_33 : decode cX6_plan 33 = .ok (.aload_n 0, 1) := by decide +kernel
theorem dX6_plan_34 : decode cX6_plan 34 = .ok (.getfield 33, 3) := by decide +kernel
theorem dX6_plan_37 : decode cX6_plan 37 = .ok (.invokevirtual 174, 3) := by decide +kernel
theorem dX6_plan_40 : decode cX6_plan 40 = .ok (.ifCond .ne 6, 3) := by decide +kernel
theorem dX6_plan_43 : decode cX6_plan 43 = .ok (.bipush (-4), 2) := by decide +kernel
theorem dX6_plan_45 : decode cX6_plan 45 = .ok (.ireturn, 1) := by decide +kernel
theorem dX6_plan_46 : decode cX6_plan 46 = .ok (.iload_n 2, 1) := by decide +kernel
theorem dX6_plan_47 : decode cX6_plan 47 = .ok (.tableswitch 49 0 2 #[25, 33, 41], 25) := by decide +kernel
theorem dX6_plan_72 : decode cX6_plan 72 = .ok (.aload_n 0, 1) := by decide +kernel
theorem dX6_plan_73 : decode cX6_plan 73 = .ok (.getfield 33, 3) := by decide +kernel
theorem dX6_plan_76 : decode cX6_plan 76 = .ok (.invokevirtual 178, 3) := by decide +kernel
theorem dX6_plan_79 : decode cX6_plan 79 = .ok (.ireturn, 1) := by decide +kernel
theorem dX6_plan_80 : decode cX6_plan 80 = .ok (.aload_n 0, 1) := by decide +kernel
theorem dX6_plan_81 : decode cX6_plan 81 = .ok (.getfield 33, 3) := by decide +kernel
theorem dX6_plan_84 : decode cX6_plan 84 = .ok (.getfield 181, 3) := by decide +kernel
theorem dX6_plan_87 : decode cX6_plan 87 = .ok (.ireturn, 1) := by decide +kernel
theorem dX6_plan_88 : decode cX6_plan 88 = .ok (.aload_n 0, 1) := by decide +kernel
theorem dX6_plan_89 : decode cX6_plan 89 = .ok (.getfield 33, 3) := by decide +kernel
theorem dX6_plan_92 : decode cX6_plan 92 = .ok (.invokevirtual 184, 3) := by decide +kernel
theorem dX6_plan_95 : decode cX6_plan 95 = .ok (.ireturn, 1) := by decide +kernel
theorem dX6_plan_96 : decode cX6_plan 96 = .ok (.aload_n 0, 1) := by decide +kernel
theorem dX6_plan_97 : decode cX6_plan 97 = .ok (.getfield 33, 3) := by decide +kernel
theorem dX6_plan_100 : decode cX6_plan 100 = .ok (.getfield 187, 3) := by decide +kernel
theorem dX6_plan_103 : decode cX6_plan 103 = .ok (.ireturn, 1) := by decide +kernel
set_option maxRecDepth 20000 in
theorem ggX6_planned_X6_isWithin : GoodIn wsX6_planned wsX6_isWithin := goodIn_r _ [7] (by decide +kernel) (by decide +kernel)
set_option maxRecDepth 20000 in
theorem gX6_planned_X6_isWithin : GoodIn wsX6_planned (va_wsS RX6 44 yX6_isWithin wsX6_isWithin) := goodIn_app (goodIn_of _ (by decide +kernel)) ggX6_planned_X6_isWithin
set_option maxRecDepth 20000 in
theorem ggX6_planned_X3_solve : GoodIn wsX6_planned wsX3_solve := goodIn_r _ [12, 13, 14, 15, 16, 17, 18, 19, 20, 21, 22, 23, 24, 25, 26, 27, 28, 29, 30, 31, 32, 33, 34, 35, 36, 37, 38, 39, 40, 41, 42, 11, 43, 44, 45, 46, 47, 48, 49, 50, 51, 52, 53, 54, 55, 56, 57, 58, 59, 60, 61, 62, 63, 64, 65, 66, 67, 68, 69, 70, 71, 72, 73, 74, 75, 76, 77, 78, 79, 80, 81, 82, 83, 84, 85, 86, 87, 88, 89, 90, 91, 92, 93, 94, 95, 96, 97, 98, 99, 100, 101, 102, 103, 104, 105, 106, 107, 108, 109, 110, 111, 112, 113, 114, 115, 116, 117, 118, 119, 120, 121, 122, 123, 124, 125, 126, 127, 128, 129, 130, 131, 132, 133, 134, 135, 136, 150, 151, 152, 153, 154, 155, 156, 157, 158, 159, 160, 161, 162, 163, 164, 165, 166, 167, 168, 169, 170] (by decide +kernel) (by decide +kernel)
set_option maxRecDepth 20000 in
theorem gX6_planned_X3_solve : GoodIn wsX6_planned (wsV RX6 170 RX3 yX3_solve wsX3_solve) := goodIn_app (goodIn_of _ (by decide +kernel)) ggX6_planned_X3_solve
set_option maxRecDepth 20000 in
theorem ggX6_planned_X3_hasFound : GoodIn wsX6_planned wsX3_hasFound := goodIn_r _ [140, 16, 15, 150, 151, 152, 153, 154, 155, 156, 157, 158, 159] (by decide +kernel) (by decide +kernel)
set_option maxRecDepth 20000 in
theorem gX6_planned_X3_hasFound : GoodIn wsX6_planned (wsV RX6 174 RX3 yX3_hasFound wsX3_hasFound) := goodIn_app (goodIn_of _ (by decide +kernel)) ggX6_planned_X3_hasFound
set_option maxRecDepth 20000 in
theorem ggX6_planned_X3_bestWords : GoodIn wsX6_planned wsX3_bestWords := goodIn_r _ [144, 104, 91, 37, 38, 33, 39, 35, 150, 151, 152, 153, 154, 155, 156, 157, 158, 159, 166] (by decide +kernel) (by decide +kernel)
set_option maxRecDepth 20000 in
theorem gX6_planned_X3_bestWords : GoodIn wsX6_planned (wsV RX6 190 RX3 yX3_bestWords wsX3_bestWords) := goodIn_app (goodIn_of _ (by decide +kernel)) ggX6_planned_X3_bestWords
theorem dX6_planned_0 : decode cX6_planned 0 = .ok (.iload_n 1, 1) := by decide +kernel
theorem dX6_planned_1 : decode cX6_planned 1 = .ok (.iconst 1, 1) := by decide +kernel
theorem dX6_planned_2 : decode cX6_planned 2 = .ok (.bipush 24, 2) := by decide +kernel
theorem dX6_planned_4 : decode cX6_planned 4 = .ok (.invokestatic 44, 3) := by decide +kernel
theorem dX6_planned_7 : decode cX6_planned 7 = .ok (.ifCond .eq 7, 3) := by decide +kernel
theorem dX6_planned_10 : decode cX6_planned 10 = .ok (.iload_n 2, 1) := by decide +kernel
theorem dX6_planned_11 : decode cX6_planned 11 = .ok (.ifCond .ge 5, 3) := by decide +kernel
theorem dX6_planned_14 : decode cX6_planned 14 = .ok (.iconst (-1), 1) := by decide +kernel
theorem dX6_planned_15 : decode cX6_planned 15 = .ok (.ireturn, 1) := by decide +kernel
theorem dX6_planned_16 : decode cX6_planned 16 = .ok (.aload_n 0, 1) := by decide +kernel
theorem dX6_planned_17 : decode cX6_planned 17 = .ok (.getfield 33, 3) := by decide +kernel
theorem dX6_planned_20 : decode cX6_planned 20 = .ok (.aload_n 0, 1) := by decide +kernel
theorem dX6_planned_21 : decode cX6_planned 21 = .ok (.getfield 10, 3) := by decide +kernel
theorem dX6_planned_24 : decode cX6_planned 24 = .ok (.iload_n 1, 1) := by decide +kernel
theorem dX6_planned_25 : decode cX6_planned 25 = .ok (.invokevirtual 170, 3) := by decide +kernel
theorem dX6_planned_28 : decode cX6_planned 28 = .ok (.aload_n 0, 1) := by decide +kernel
theorem dX6_planned_29 : decode cX6_planned 29 = .ok (.getfield 33, 3) := by decide +kernel
theorem dX6_planned_32 : decode cX6_planned 32 = .ok (.invokevirtual 174, 3) := by decide +kernel
theorem dX6_planned_35 : decode cX6_planned 35 = .ok (.ifCond .eq 14, 3) := by decide +kernel
theorem dX6_planned_38 : decode cX6_planned 38 = .ok (.iload_n 2, 1) := by decide +kernel
theorem dX6_planned_39 : decode cX6_planned 39 = .ok (.aload_n 0, 1) := by decide +kernel
theorem dX6_planned_40 : decode cX6_planned 40 = .ok (.getfield 33, 3) := by decide +kernel
theorem dX6_planned_43 : decode cX6_planned 43 = .ok (.getfield 181, 3) := by decide +kernel
theorem dX6_planned_46 : decode cX6_planned 46 = .ok (.if_icmp .lt 6, 3) := by decide +kernel
theorem dX6_planned_49 : decode cX6_planned 49 = .ok (.bipush (-4), 2) := by decide +kernel
theorem dX6_planned_51 : decode cX6_planned 51 = .ok (.ireturn, 1) := by decide +kernel
theorem dX6_planned_52 : decode cX6_planned 52 = .ok (.aload_n 0, 1) := by decide +kernel
theorem dX6_planned_53 : decode cX6_planned 53 = .ok (.getfield 33, 3) := by decide +kernel
theorem dX6_planned_56 : decode cX6_planned 56 = .ok (.iload_n 2, 1) := by decide +kernel
theorem dX6_planned_57 : decode cX6_planned 57 = .ok (.invokevirtual 190, 3) := by decide +kernel
theorem dX6_planned_60 : decode cX6_planned 60 = .ok (.ireturn, 1) := by decide +kernel
set_option maxRecDepth 20000 in
theorem ggX6_dam_X6_isWithin : GoodIn wsX6_dam wsX6_isWithin := goodIn_r _ [6] (by decide +kernel) (by decide +kernel)
set_option maxRecDepth 20000 in
theorem gX6_dam_X6_isWithin : GoodIn wsX6_dam (va_wsS RX6 44 yX6_isWithin wsX6_isWithin) := goodIn_app (goodIn_of _ (by decide +kernel)) ggX6_dam_X6_isWithin
set_option maxRecDepth 20000 in
theorem ggX6_dam_X3_solve : GoodIn wsX6_dam wsX3_solve := goodIn_r _ [11, 12, 13, 14, 15, 16, 17, 18, 19, 20, 21, 22, 23, 24, 25, 26, 27, 28, 29, 30, 31, 32, 33, 34, 35, 36, 37, 38, 39, 40, 41, 10, 42, 43, 44, 45, 46, 47, 48, 49, 50, 51, 52, 53, 54, 55, 56, 57, 58, 59, 60, 61, 62, 63, 64, 65, 66, 67, 68, 69, 70, 71, 72, 73, 74, 75, 76, 77, 78, 79, 80, 81, 82, 83, 84, 85, 86, 87, 88, 89, 90, 91, 92, 93, 94, 95, 96, 97, 98, 99, 100, 101, 102, 103, 104, 105, 106, 107, 108, 109, 110, 111, 112, 113, 114, 115, 116, 117, 118, 119, 120, 121, 122, 123, 124, 125, 126, 127, 128, 129, 130, 131, 132, 133, 134, 135, 191, 192, 193, 194, 195, 196, 197, 198, 199, 200, 201, 202, 203, 204, 205, 206, 207, 208, 209, 210, 211] (by decide +kernel) (by decide +kernel)
set_option maxRecDepth 20000 in
theorem gX6_dam_X3_solve : GoodIn wsX6_dam (wsV RX6 170 RX3 yX3_solve wsX3_solve) := goodIn_app (goodIn_of _ (by decide +kernel)) ggX6_dam_X3_solve
set_option maxRecDepth 20000 in
theorem ggX6_dam_X3_hasFound : GoodIn wsX6_dam wsX3_hasFound := goodIn_r _ [139, 15, 14, 191, 192, 193, 194, 195, 196, 197, 198, 199, 200] (by decide +kernel) (by decide +kernel)
set_option maxRecDepth 20000 in
theorem gX6_dam_X3_hasFound : GoodIn wsX6_dam (wsV RX6 174 RX3 yX3_hasFound wsX3_hasFound) := goodIn_app (goodIn_of _ (by decide +kernel)) ggX6_dam_X3_hasFound
set_option maxRecDepth 20000 in
theorem ggX6_dam_X3_bestChanged : GoodIn wsX6_dam wsX3_bestChanged := goodIn_r _ [143, 15, 59, 191, 192, 193, 194, 195, 196, 197, 198, 199, 200] (by decide +kernel) (by decide +kernel)
set_option maxRecDepth 20000 in
theorem gX6_dam_X3_bestChanged : GoodIn wsX6_dam (wsV RX6 178 RX3 yX3_bestChanged wsX3_bestChanged) := goodIn_app (goodIn_of _ (by decide +kernel)) ggX6_dam_X3_bestChanged
set_option maxRecDepth 20000 in
theorem ggX6_dam_X6_beginChange : GoodIn wsX6_dam wsX6_beginChange := goodIn_r _ [147, 148, 2, 1, 149, 150, 151, 152, 153, 154, 155, 156, 157, 158, 159, 160, 161, 162, 163, 164, 19, 20, 21, 22, 23, 24, 25, 26, 27, 28, 29, 30, 31, 32, 33, 34, 35, 36, 37, 38, 165, 166, 167, 10, 168, 12, 186, 187, 188, 189, 190, 212, 213, 201, 202, 203, 204, 205, 206, 207, 191, 192, 193, 194, 195, 196, 197, 198, 199, 200] (by decide +kernel) (by decide +kernel)
set_option maxRecDepth 20000 in
theorem gX6_dam_X6_beginChange : GoodIn wsX6_dam (wsV RX6 52 RX6 yX6_beginChange wsX6_beginChange) := goodIn_app (goodIn_of _ (by decide +kernel)) ggX6_dam_X6_beginChange
set_option maxRecDepth 20000 in
theorem ggX6_dam_X3_divide : GoodIn wsX6_dam wsX3_divide := goodIn_r _ [172, 16, 103, 173, 174, 175, 21, 176, 27, 177, 178, 179, 32, 180, 34, 181, 182, 183, 184, 25, 185, 51, 52, 53, 90, 36, 37, 38, 191, 192, 193, 194, 195, 196, 197, 198, 199, 200, 201, 202, 203, 204, 205, 206, 207] (by decide +kernel) (by decide +kernel)
set_option maxRecDepth 20000 in
theorem gX6_dam_X3_divide : GoodIn wsX6_dam (wsV RX6 193 RX3 yX3_divide wsX3_divide) := goodIn_app (goodIn_of _ (by decide +kernel)) ggX6_dam_X3_divide
theorem dX6_dam_0 : decode cX6_dam 0 = .ok (.iload_n 1, 1) := by decide +kernel
theorem dX6_dam_1 : decode cX6_dam 1 = .ok (.iconst 1, 1) := by decide +kernel
theorem dX6_dam_2 : decode cX6_dam 2 = .ok (.bipush 24, 2) := by decide +kernel
theorem dX6_dam_4 : decode cX6_dam 4 = .ok (.invokestatic 44, 3) := by decide +kernel
theorem dX6_dam_7 : decode cX6_dam 7 = .ok (.ifCond .ne 5, 3) := by decide +kernel
theorem dX6_dam_10 : decode cX6_dam 10 = .ok (.iconst (-1), 1) := by decide +kernel
theorem dX6_dam_11 : decode cX6_dam 11 = .ok (.ireturn, 1) := by decide +kernel
theorem dX6_dam_12 : decode cX6_dam 12 = .ok (.aload_n 0, 1) := by decide +kernel
theorem dX6_dam_13 : decode cX6_dam 13 = .ok (.getfield 33, 3) := by decide +kernel
theorem dX6_dam_16 : decode cX6_dam 16 = .ok (.aload_n 0, 1) := by decide +kernel
theorem dX6_dam_17 : decode cX6_dam 17 = .ok (.getfield 10, 3) := by decide +kernel
theorem dX6_dam_20 : decode cX6_dam 20 = .ok (.iload_n 1, 1) := by decide +kernel
theorem dX6_dam_21 : decode cX6_dam 21 = .ok (.invokevirtual 170, 3) := by decide +kernel
theorem dX6_dam_24 : decode cX6_dam 24 = .ok (.aload_n 0, 1) := by decide +kernel
theorem dX6_dam_25 : decode cX6_dam 25 = .ok (.getfield 33, 3) := by decide +kernel
theorem dX6_dam_28 : decode cX6_dam 28 = .ok (.invokevirtual 174, 3) := by decide +kernel
theorem dX6_dam_31 : decode cX6_dam 31 = .ok (.ifCond .ne 6, 3) := by decide +kernel
theorem dX6_dam_34 : decode cX6_dam 34 = .ok (.bipush (-2), 2) := by decide +kernel
theorem dX6_dam_36 : decode cX6_dam 36 = .ok (.ireturn, 1) := by decide +kernel
theorem dX6_dam_37 : decode cX6_dam 37 = .ok (.aload_n 0, 1) := by decide +kernel
theorem dX6_dam_38 : decode cX6_dam 38 = .ok (.getfield 33, 3) := by decide +kernel
theorem dX6_dam_41 : decode cX6_dam 41 = .ok (.invokevirtual 178, 3) := by decide +kernel
theorem dX6_dam_44 : decode cX6_dam 44 = .ok (.istore_n 2, 1) := by decide +kernel
theorem dX6_dam_45 : decode cX6_dam 45 = .ok (.aload_n 0, 1) := by decide +kernel
theorem dX6_dam_46 : decode cX6_dam 46 = .ok (.invokevirtual 52, 3) := by decide +kernel
theorem dX6_dam_49 : decode cX6_dam 49 = .ok (.aload_n 0, 1) := by decide +kernel
theorem dX6_dam_50 : decode cX6_dam 50 = .ok (.getfield 33, 3) := by decide +kernel
theorem dX6_dam_53 : decode cX6_dam 53 = .ok (.aload_n 0, 1) := by decide +kernel
theorem dX6_dam_54 : decode cX6_dam 54 = .ok (.getfield 10, 3) := by decide +kernel
theorem dX6_dam_57 : decode cX6_dam 57 = .ok (.invokevirtual 193, 3) := by decide +kernel
theorem dX6_dam_60 : decode cX6_dam 60 = .ok (.iload_n 2, 1) := by decide +kernel
theorem dX6_dam_61 : decode cX6_dam 61 = .ok (.ireturn, 1) := by decide +kernel
set_option maxRecDepth 20000 in
theorem ggX6_leastRiver_X3_solve : GoodIn wsX6_leastRiver wsX3_solve := goodIn_r _ [7, 8, 9, 10, 11, 12, 13, 14, 15, 16, 17, 18, 19, 20, 21, 22, 23, 24, 25, 26, 27, 28, 29, 30, 31, 32, 33, 34, 35, 36, 37, 6, 38, 39, 40, 41, 42, 43, 44, 45, 46, 47, 48, 49, 50, 51, 52, 53, 54, 55, 56, 57, 58, 59, 60, 61, 62, 63, 64, 65, 66, 67, 68, 69, 70, 71, 72, 73, 74, 75, 76, 77, 78, 79, 80, 81, 82, 83, 84, 85, 86, 87, 88, 89, 90, 91, 92, 93, 94, 95, 96, 97, 98, 99, 100, 101, 102, 103, 104, 105, 106, 107, 108, 109, 110, 111, 112, 113, 114, 115, 116, 117, 118, 119, 120, 121, 122, 123, 124, 125, 126, 127, 128, 129, 130, 131, 141, 142, 143, 144, 145, 146, 147, 148, 149, 150, 151, 152, 153, 154, 155, 156, 157, 158, 159, 160, 161] (by decide +kernel) (by decide +kernel)
set_option maxRecDepth 20000 in
theorem gX6_leastRiver_X3_solve : GoodIn wsX6_leastRiver (wsV RX6 170 RX3 yX3_solve wsX3_solve) := goodIn_app (goodIn_of _ (by decide +kernel)) ggX6_leastRiver_X3_solve
set_option maxRecDepth 20000 in
theorem ggX6_leastRiver_X3_hasFound : GoodIn wsX6_leastRiver wsX3_hasFound := goodIn_r _ [135, 11, 10, 141, 142, 143, 144, 145, 146, 147, 148, 149, 150] (by decide +kernel) (by decide +kernel)
set_option maxRecDepth 20000 in
theorem gX6_leastRiver_X3_hasFound : GoodIn wsX6_leastRiver (wsV RX6 174 RX3 yX3_hasFound wsX3_hasFound) := goodIn_app (goodIn_of _ (by decide +kernel)) ggX6_leastRiver_X3_hasFound
theorem dX6_leastRiver_0 : decode cX6_leastRiver 0 = .ok (.iconst 1, 1) := by decide +kernel
theorem dX6_leastRiver_1 : decode cX6_leastRiver 1 = .ok (.istore_n 1, 1) := by decide +kernel
theorem dX6_leastRiver_2 : decode cX6_leastRiver 2 = .ok (.iload_n 1, 1) := by decide +kernel
theorem dX6_leastRiver_3 : decode cX6_leastRiver 3 = .ok (.bipush 24, 2) := by decide +kernel
theorem dX6_leastRiver_5 : decode cX6_leastRiver 5 = .ok (.if_icmp .gt 33, 3) := by decide +kernel
theorem dX6_leastRiver_8 : decode cX6_leastRiver 8 = .ok (.aload_n 0, 1) := by decide +kernel
theorem dX6_leastRiver_9 : decode cX6_leastRiver 9 = .ok (.getfield 33, 3) := by decide +kernel
theorem dX6_leastRiver_12 : decode cX6_leastRiver 12 = .ok (.aload_n 0, 1) := by decide +kernel
theorem dX6_leastRiver_13 : decode cX6_leastRiver 13 = .ok (.getfield 10, 3) := by decide +kernel
theorem dX6_leastRiver_16 : decode cX6_leastRiver 16 = .ok (.iload_n 1, 1) := by decide +kernel
theorem dX6_leastRiver_17 : decode cX6_leastRiver 17 = .ok (.invokevirtual 170, 3) := by decide +kernel
theorem dX6_leastRiver_20 : decode cX6_leastRiver 20 = .ok (.aload_n 0, 1) := by decide +kernel
theorem dX6_leastRiver_21 : decode cX6_leastRiver 21 = .ok (.getfield 33, 3) := by decide +kernel
theorem dX6_leastRiver_24 : decode cX6_leastRiver 24 = .ok (.invokevirtual 174, 3) := by decide +kernel
theorem dX6_leastRiver_27 : decode cX6_leastRiver 27 = .ok (.ifCond .eq 5, 3) := by decide +kernel
theorem dX6_leastRiver_30 : decode cX6_leastRiver 30 = .ok (.iload_n 1, 1) := by decide +kernel
theorem dX6_leastRiver_31 : decode cX6_leastRiver 31 = .ok (.ireturn, 1) := by decide +kernel
theorem dX6_leastRiver_32 : decode cX6_leastRiver 32 = .ok (.iinc 1 1, 3) := by decide +kernel
theorem dX6_leastRiver_35 : decode cX6_leastRiver 35 = .ok (.goto (-33), 3) := by decide +kernel
theorem dX6_leastRiver_38 : decode cX6_leastRiver 38 = .ok (.bipush (-4), 2) := by decide +kernel
theorem dX6_leastRiver_40 : decode cX6_leastRiver 40 = .ok (.ireturn, 1) := by decide +kernel
set_option maxRecDepth 20000 in
theorem ggX6_beginChange_X0_keep : GoodIn wsX6_beginChange wsX0_keep := goodIn_r _ [8, 9, 10, 11, 12, 13, 7, 14, 15, 16, 17, 18, 19, 20, 21, 22, 23, 24, 25, 26, 27, 28, 29, 30, 31, 32, 33, 34, 35, 36, 37, 38, 39, 51, 52, 53, 54, 55, 56, 57, 58, 59] (by decide +kernel) (by decide +kernel)
set_option maxRecDepth 20000 in
theorem gX6_beginChange_X0_keep : GoodIn wsX6_beginChange (wsV RX6 203 RX0 yX0_keep wsX0_keep) := goodIn_app (goodIn_of _ (by decide +kernel)) ggX6_beginChange_X0_keep
set_option maxRecDepth 20000 in
theorem ggX6_beginChange_X3_forget : GoodIn wsX6_beginChange wsX3_forget := goodIn_r _ [44, 45, 60, 61, 62, 63, 64, 65, 66, 67, 68, 69] (by decide +kernel) (by decide +kernel)
set_option maxRecDepth 20000 in
theorem gX6_beginChange_X3_forget : GoodIn wsX6_beginChange (wsV RX6 148 RX3 yX3_forget wsX3_forget) := goodIn_app (goodIn_of _ (by decide +kernel)) ggX6_beginChange_X3_forget
theorem dX6_beginChange_0 : decode cX6_beginChange 0 = .ok (.aload_n 0, 1) := by decide +kernel
theorem dX6_beginChange_1 : decode cX6_beginChange 1 = .ok (.getfield 19, 3) := by decide +kernel
theorem dX6_beginChange_4 : decode cX6_beginChange 4 = .ok (.aload_n 0, 1) := by decide +kernel
theorem dX6_beginChange_5 : decode cX6_beginChange 5 = .ok (.getfield 10, 3) := by decide +kernel
theorem dX6_beginChange_8 : decode cX6_beginChange 8 = .ok (.invokevirtual 203, 3) := by decide +kernel
theorem dX6_beginChange_11 : decode cX6_beginChange 11 = .ok (.aload_n 0, 1) := by decide +kernel
theorem dX6_beginChange_12 : decode cX6_beginChange 12 = .ok (.getfield 33, 3) := by decide +kernel
theorem dX6_beginChange_15 : decode cX6_beginChange 15 = .ok (.invokevirtual 148, 3) := by decide +kernel
theorem dX6_beginChange_18 : decode cX6_beginChange 18 = .ok (.return_, 1) := by decide +kernel
theorem dX6_isWithin_0 : decode cX6_isWithin 0 = .ok (.iload_n 0, 1) := by decide +kernel
theorem dX6_isWithin_1 : decode cX6_isWithin 1 = .ok (.iload_n 1, 1) := by decide +kernel
theorem dX6_isWithin_2 : decode cX6_isWithin 2 = .ok (.if_icmp .lt 12, 3) := by decide +kernel
theorem dX6_isWithin_5 : decode cX6_isWithin 5 = .ok (.iload_n 0, 1) := by decide +kernel
theorem dX6_isWithin_6 : decode cX6_isWithin 6 = .ok (.iload_n 2, 1) := by decide +kernel
theorem dX6_isWithin_7 : decode cX6_isWithin 7 = .ok (.if_icmp .gt 7, 3) := by decide +kernel
theorem dX6_isWithin_10 : decode cX6_isWithin 10 = .ok (.iconst 1, 1) := by decide +kernel
theorem dX6_isWithin_11 : decode cX6_isWithin 11 = .ok (.goto 4, 3) := by decide +kernel
theorem dX6_isWithin_14 : decode cX6_isWithin 14 = .ok (.iconst 0, 1) := by decide +kernel
theorem dX6_isWithin_15 : decode cX6_isWithin 15 = .ok (.ireturn, 1) := by decide +kernel
theorem dJ9_max_7cf53_0 : decode cJ9_max_7cf53 0 = .ok (.iload_n 0, 1) := by decide +kernel
theorem dJ9_max_7cf53_1 : decode cJ9_max_7cf53 1 = .ok (.iload_n 1, 1) := by decide +kernel
theorem dJ9_max_7cf53_2 : decode cJ9_max_7cf53 2 = .ok (.if_icmp .lt 7, 3) := by decide +kernel
theorem dJ9_max_7cf53_5 : decode cJ9_max_7cf53 5 = .ok (.iload_n 0, 1) := by decide +kernel
theorem dJ9_max_7cf53_6 : decode cJ9_max_7cf53 6 = .ok (.goto 4, 3) := by decide +kernel
theorem dJ9_max_7cf53_9 : decode cJ9_max_7cf53 9 = .ok (.iload_n 1, 1) := by decide +kernel
theorem dJ9_max_7cf53_10 : decode cJ9_max_7cf53 10 = .ok (.ireturn, 1) := by decide +kernel
theorem dJ9_min_7cf53_0 : decode cJ9_min_7cf53 0 = .ok (.iload_n 0, 1) := by decide +kernel
theorem dJ9_min_7cf53_1 : decode cJ9_min_7cf53 1 = .ok (.iload_n 1, 1) := by decide +kernel
theorem dJ9_min_7cf53_2 : decode cJ9_min_7cf53 2 = .ok (.if_icmp .gt 7, 3) := by decide +kernel
theorem dJ9_min_7cf53_5 : decode cJ9_min_7cf53 5 = .ok (.iload_n 0, 1) := by decide +kernel
theorem dJ9_min_7cf53_6 : decode cJ9_min_7cf53 6 = .ok (.goto 4, 3) := by decide +kernel
theorem dJ9_min_7cf53_9 : decode cJ9_min_7cf53 9 = .ok (.iload_n 1, 1) := by decide +kernel
theorem dJ9_min_7cf53_10 : decode cJ9_min_7cf53 10 = .ok (.ireturn, 1) := by decide +kernel
