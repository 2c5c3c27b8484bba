set_option maxRecDepth 20000 in
theorem gX3_setPrices_X2_get : GoodIn wsX3_setPrices (wsV RX3 69 RX2 yX2_get wsX2_get) := goodIn_app (goodIn_of _ (by decide +kernel)) ggX3_setPrices_X2_get
theorem dX3_setPrices_0 : decode cX3_setPrices 0 = .ok (.aload_n 0, 1) := by decide +kernel
theorem dX3_setPrices_1 : decode cX3_setPrices 1 = .ok (.getfield 48, 3) := by decide +kernel
theorem dX3_setPrices_4 : decode cX3_setPrices 4 = .ok (.aload_n 0, 1) := by decide +kernel
theorem dX3_setPrices_5 : decode cX3_setPrices 5 = .ok (.getfield 28, 3) := by decide +kernel
theorem dX3_setPrices_8 : decode cX3_setPrices 8 = .ok (.getfield 79, 3) := by decide +kernel
theorem dX3_setPrices_11 : decode cX3_setPrices 11 = .ok (.iconst 0, 1) := by decide +kernel
theorem dX3_setPrices_12 : decode cX3_setPrices 12 = .ok (.invokevirtual 82, 3) := by decide +kernel
theorem dX3_setPrices_15 : decode cX3_setPrices 15 = .ok (.aload_n 0, 1) := by decide +kernel
theorem dX3_setPrices_16 : decode cX3_setPrices 16 = .ok (.getfield 28, 3) := by decide +kernel
theorem dX3_setPrices_19 : decode cX3_setPrices 19 = .ok (.getfield 79, 3) := by decide +kernel
theorem dX3_setPrices_22 : decode cX3_setPrices 22 = .ok (.iconst 1, 1) := by decide +kernel
theorem dX3_setPrices_23 : decode cX3_setPrices 23 = .ok (.isub, 1) := by decide +kernel
theorem dX3_setPrices_24 : decode cX3_setPrices 24 = .ok (.istore_n 1, 1) := by decide +kernel
theorem dX3_setPrices_25 : decode cX3_setPrices 25 = .ok (.iload_n 1, 1) := by decide +kernel
theorem dX3_setPrices_26 : decode cX3_setPrices 26 = .ok (.ifCond .lt 80, 3) := by decide +kernel
theorem dX3_setPrices_29 : decode cX3_setPrices 29 = .ok (.ldc 18, 2) := by decide +kernel
theorem dX3_setPrices_31 : decode cX3_setPrices 31 = .ok (.istore_n 2, 1) := by decide +kernel
theorem dX3_setPrices_32 : decode cX3_setPrices 32 = .ok (.iload_n 1, 1) := by decide +kernel
theorem dX3_setPrices_33 : decode cX3_setPrices 33 = .ok (.iconst 1, 1) := by decide +kernel
theorem dX3_setPrices_34 : decode cX3_setPrices 34 = .ok (.iadd, 1) := by decide +kernel
theorem dX3_setPrices_35 : decode cX3_setPrices 35 = .ok (.istore_n 3, 1) := by decide +kernel
theorem dX3_setPrices_36 : decode cX3_setPrices 36 = .ok (.iload_n 3, 1) := by decide +kernel
theorem dX3_setPrices_37 : decode cX3_setPrices 37 = .ok (.aload_n 0, 1) := by decide +kernel
theorem dX3_setPrices_38 : decode cX3_setPrices 38 = .ok (.getfield 28, 3) := by decide +kernel
theorem dX3_setPrices_41 : decode cX3_setPrices 41 = .ok (.getfield 79, 3) := by decide +kernel
theorem dX3_setPrices_44 : decode cX3_setPrices 44 = .ok (.if_icmp .gt 47, 3) := by decide +kernel
theorem dX3_setPrices_47 : decode cX3_setPrices 47 = .ok (.aload_n 0, 1) := by decide +kernel
theorem dX3_setPrices_48 : decode cX3_setPrices 48 = .ok (.iload_n 1, 1) := by decide +kernel
theorem dX3_setPrices_49 : decode cX3_setPrices 49 = .ok (.iload_n 3, 1) := by decide +kernel
theorem dX3_setPrices_50 : decode cX3_setPrices 50 = .ok (.invokevirtual 86, 3) := by decide +kernel
theorem dX3_setPrices_53 : decode cX3_setPrices 53 = .ok (.istore 4, 2) := by decide +kernel
theorem dX3_setPrices_55 : decode cX3_setPrices 55 = .ok (.aload_n 0, 1) := by decide +kernel
theorem dX3_setPrices_56 : decode cX3_setPrices 56 = .ok (.getfield 44, 3) := by decide +kernel
theorem dX3_setPrices_59 : decode cX3_setPrices 59 = .ok (.iload_n 1, 1) := by decide +kernel
theorem dX3_setPrices_60 : decode cX3_setPrices 60 = .ok (.iload_n 3, 1) := by decide +kernel
theorem dX3_setPrices_61 : decode cX3_setPrices 61 = .ok (.invokestatic 90, 3) := by decide +kernel
theorem dX3_setPrices_64 : decode cX3_setPrices 64 = .ok (.iload 4, 2) := by decide +kernel
theorem dX3_setPrices_66 : decode cX3_setPrices 66 = .ok (.invokevirtual 82, 3) := by decide +kernel
theorem dX3_setPrices_69 : decode cX3_setPrices 69 = .ok (.iload_n 2, 1) := by decide +kernel
theorem dX3_setPrices_70 : decode cX3_setPrices 70 = .ok (.iload 4, 2) := by decide +kernel
theorem dX3_setPrices_72 : decode cX3_setPrices 72 = .ok (.aload_n 0, 1) := by decide +kernel
theorem dX3_setPrices_73 : decode cX3_setPrices 73 = .ok (.getfield 48, 3) := by decide +kernel
theorem dX3_setPrices_76 : decode cX3_setPrices 76 = .ok (.iload_n 3, 1) := by decide +kernel
theorem dX3_setPrices_77 : decode cX3_setPrices 77 = .ok (.invokevirtual 69, 3) := by decide +kernel
theorem dX3_setPrices_80 : decode cX3_setPrices 80 = .ok (.iadd, 1) := by decide +kernel
theorem dX3_setPrices_81 : decode cX3_setPrices 81 = .ok (.invokestatic 93, 3) := by decide +kernel
theorem dX3_setPrices_84 : decode cX3_setPrices 84 = .ok (.istore_n 2, 1) := by decide +kernel
theorem dX3_setPrices_85 : decode cX3_setPrices 85 = .ok (.iinc 3 1, 3) := by decide +kernel
theorem dX3_setPrices_88 : decode cX3_setPrices 88 = .ok (.goto (-52), 3) := by decide +kernel
theorem dX3_setPrices_91 : decode cX3_setPrices 91 = .ok (.aload_n 0, 1) := by decide +kernel
theorem dX3_setPrices_92 : decode cX3_setPrices 92 = .ok (.getfield 48, 3) := by decide +kernel
theorem dX3_setPrices_95 : decode cX3_setPrices 95 = .ok (.iload_n 1, 1) := by decide +kernel
theorem dX3_setPrices_96 : decode cX3_setPrices 96 = .ok (.iload_n 2, 1) := by decide +kernel
theorem dX3_setPrices_97 : decode cX3_setPrices 97 = .ok (.invokevirtual 82, 3) := by decide +kernel
theorem dX3_setPrices_100 : decode cX3_setPrices 100 = .ok (.iinc 1 (-1), 3) := by decide +kernel
theorem dX3_setPrices_103 : decode cX3_setPrices 103 = .ok (.goto (-78), 3) := by decide +kernel
theorem dX3_setPrices_106 : decode cX3_setPrices 106 = .ok (.return_, 1) := by decide +kernel
set_option maxRecDepth 20000 in
theorem ggX3_priceOf_X1_isLine : GoodIn wsX3_priceOf wsX1_isLine := goodIn_r _ [10, 11, 12, 13, 14, 15, 16, 17, 18, 19, 20, 9, 21, 22, 54, 55, 56, 57, 58, 59, 60] (by decide +kernel) (by decide +kernel)
set_option maxRecDepth 20000 in
theorem gX3_priceOf_X1_isLine : GoodIn wsX3_priceOf (wsV RX3 98 RX1 yX1_isLine wsX1_isLine) := goodIn_app (goodIn_of _ (by decide +kernel)) ggX3_priceOf_X1_isLine
set_option maxRecDepth 20000 in
theorem ggX3_priceOf_X1_extra : GoodIn wsX3_priceOf wsX1_extra := goodIn_r _ [26, 27, 28, 12, 13, 14, 15, 16, 17, 54, 55, 56, 57, 58, 59, 60] (by decide +kernel) (by decide +kernel)
set_option maxRecDepth 20000 in
theorem gX3_priceOf_X1_extra : GoodIn wsX3_priceOf (wsV RX3 102 RX1 yX1_extra wsX1_extra) := goodIn_app (goodIn_of _ (by decide +kernel)) ggX3_priceOf_X1_extra
set_option maxRecDepth 20000 in
theorem ggX3_priceOf_X1_hasFrozen : GoodIn wsX3_priceOf wsX1_hasFrozen := goodIn_r _ [32, 33, 34, 35, 9, 36, 37, 12, 13, 14, 15, 16, 17, 54, 55, 56, 57, 58, 59, 60] (by decide +kernel) (by decide +kernel)
set_option maxRecDepth 20000 in
theorem gX3_priceOf_X1_hasFrozen : GoodIn wsX3_priceOf (wsV RX3 105 RX1 yX1_hasFrozen wsX1_hasFrozen) := goodIn_app (goodIn_of _ (by decide +kernel)) ggX3_priceOf_X1_hasFrozen
set_option maxRecDepth 20000 in
theorem ggX3_priceOf_X1_isFrozen : GoodIn wsX3_priceOf wsX1_isFrozen := goodIn_r _ [36, 37, 12, 13, 14, 15, 16, 17, 54, 55, 56, 57, 58, 59, 60] (by decide +kernel) (by decide +kernel)
set_option maxRecDepth 20000 in
theorem gX3_priceOf_X1_isFrozen : GoodIn wsX3_priceOf (wsV RX3 108 RX1 yX1_isFrozen wsX1_isFrozen) := goodIn_app (goodIn_of _ (by decide +kernel)) ggX3_priceOf_X1_isFrozen
set_option maxRecDepth 20000 in
theorem ggX3_priceOf_X1_badness : GoodIn wsX3_priceOf wsX1_badness := goodIn_r _ [42, 22, 43, 24, 25, 9, 26, 27, 28, 12, 13, 14, 15, 16, 17, 54, 55, 56, 57, 58, 59, 60] (by decide +kernel) (by decide +kernel)
set_option maxRecDepth 20000 in
theorem gX3_priceOf_X1_badness : GoodIn wsX3_priceOf (wsV RX3 115 RX1 yX1_badness wsX1_badness) := goodIn_app (goodIn_of _ (by decide +kernel)) ggX3_priceOf_X1_badness
theorem dX3_priceOf_0 : decode cX3_priceOf 0 = .ok (.aload_n 0, 1) := by decide +kernel
theorem dX3_priceOf_1 : decode cX3_priceOf 1 = .ok (.getfield 28, 3) := by decide +kernel
theorem dX3_priceOf_4 : decode cX3_priceOf 4 = .ok (.iload_n 1, 1) := by decide +kernel
theorem dX3_priceOf_5 : decode cX3_priceOf 5 = .ok (.iload_n 2, 1) := by decide +kernel
theorem dX3_priceOf_6 : decode cX3_priceOf 6 = .ok (.invokevirtual 98, 3) := by decide +kernel
theorem dX3_priceOf_9 : decode cX3_priceOf 9 = .ok (.istore_n 3, 1) := by decide +kernel
theorem dX3_priceOf_10 : decode cX3_priceOf 10 = .ok (.aload_n 0, 1) := by decide +kernel
theorem dX3_priceOf_11 : decode cX3_priceOf 11 = .ok (.getfield 28, 3) := by decide +kernel
theorem dX3_priceOf_14 : decode cX3_priceOf 14 = .ok (.iload_n 1, 1) := by decide +kernel
theorem dX3_priceOf_15 : decode cX3_priceOf 15 = .ok (.iload_n 2, 1) := by decide +kernel
theorem dX3_priceOf_16 : decode cX3_priceOf 16 = .ok (.invokevirtual 102, 3) := by decide +kernel
theorem dX3_priceOf_19 : decode cX3_priceOf 19 = .ok (.istore 4, 2) := by decide +kernel
theorem dX3_priceOf_21 : decode cX3_priceOf 21 = .ok (.iload 4, 2) := by decide +kernel
theorem dX3_priceOf_23 : decode cX3_priceOf 23 = .ok (.ifCond .lt 17, 3) := by decide +kernel
theorem dX3_priceOf_26 : decode cX3_priceOf 26 = .ok (.aload_n 0, 1) := by decide +kernel
theorem dX3_priceOf_27 : decode cX3_priceOf 27 = .ok (.getfield 28, 3) := by decide +kernel
theorem dX3_priceOf_30 : decode cX3_priceOf 30 = .ok (.iload_n 1, 1) := by decide +kernel
theorem dX3_priceOf_31 : decode cX3_priceOf 31 = .ok (.iconst 1, 1) := by decide +kernel
theorem dX3_priceOf_32 : decode cX3_priceOf 32 = .ok (.iadd, 1) := by decide +kernel
theorem dX3_priceOf_33 : decode cX3_priceOf 33 = .ok (.iload_n 2, 1) := by decide +kernel
theorem dX3_priceOf_34 : decode cX3_priceOf 34 = .ok (.invokevirtual 105, 3) := by decide +kernel
theorem dX3_priceOf_37 : decode cX3_priceOf 37 = .ok (.ifCond .eq 6, 3) := by decide +kernel
theorem dX3_priceOf_40 : decode cX3_priceOf 40 = .ok (.ldc 18, 2) := by decide +kernel
theorem dX3_priceOf_42 : decode cX3_priceOf 42 = .ok (.ireturn, 1) := by decide +kernel
theorem dX3_priceOf_43 : decode cX3_priceOf 43 = .ok (.aload_n 0, 1) := by decide +kernel
theorem dX3_priceOf_44 : decode cX3_priceOf 44 = .ok (.getfield 28, 3) := by decide +kernel
theorem dX3_priceOf_47 : decode cX3_priceOf 47 = .ok (.iload_n 1, 1) := by decide +kernel
theorem dX3_priceOf_48 : decode cX3_priceOf 48 = .ok (.invokevirtual 108, 3) := by decide +kernel
theorem dX3_priceOf_51 : decode cX3_priceOf 51 = .ok (.ifCond .eq 10, 3) := by decide +kernel
theorem dX3_priceOf_54 : decode cX3_priceOf 54 = .ok (.iload_n 3, 1) := by decide +kernel
theorem dX3_priceOf_55 : decode cX3_priceOf 55 = .ok (.ifCond .ne 6, 3) := by decide +kernel
theorem dX3_priceOf_58 : decode cX3_priceOf 58 = .ok (.ldc 18, 2) := by decide +kernel
theorem dX3_priceOf_60 : decode cX3_priceOf 60 = .ok (.ireturn, 1) := by decide +kernel
theorem dX3_priceOf_61 : decode cX3_priceOf 61 = .ok (.aload_n 0, 1) := by decide +kernel
theorem dX3_priceOf_62 : decode cX3_priceOf 62 = .ok (.getfield 28, 3) := by decide +kernel
theorem dX3_priceOf_65 : decode cX3_priceOf 65 = .ok (.iload_n 1, 1) := by decide +kernel
theorem dX3_priceOf_66 : decode cX3_priceOf 66 = .ok (.invokevirtual 108, 3) := by decide +kernel
theorem dX3_priceOf_69 : decode cX3_priceOf 69 = .ok (.ifCond .ne 29, 3) := by decide +kernel
theorem dX3_priceOf_72 : decode cX3_priceOf 72 = .ok (.iload_n 2, 1) := by decide +kernel
theorem dX3_priceOf_73 : decode cX3_priceOf 73 = .ok (.aload_n 0, 1) := by decide +kernel
theorem dX3_priceOf_74 : decode cX3_priceOf 74 = .ok (.getfield 28, 3) := by decide +kernel
theorem dX3_priceOf_77 : decode cX3_priceOf 77 = .ok (.getfield 79, 3) := by decide +kernel
theorem dX3_priceOf_80 : decode cX3_priceOf 80 = .ok (.if_icmp .ge 18, 3) := by decide +kernel
theorem dX3_priceOf_83 : decode cX3_priceOf 83 = .ok (.iload 4, 2) := by decide +kernel
theorem dX3_priceOf_85 : decode cX3_priceOf 85 = .ok (.aload_n 0, 1) := by decide +kernel
theorem dX3_priceOf_86 : decode cX3_priceOf 86 = .ok (.getfield 28, 3) := by decide +kernel
theorem dX3_priceOf_89 : decode cX3_priceOf 89 = .ok (.getfield 112, 3) := by decide +kernel
theorem dX3_priceOf_92 : decode cX3_priceOf 92 = .ok (.if_icmp .le 6, 3) := by decide +kernel
theorem dX3_priceOf_95 : decode cX3_priceOf 95 = .ok (.ldc 18, 2) := by decide +kernel
theorem dX3_priceOf_97 : decode cX3_priceOf 97 = .ok (.ireturn, 1) := by decide +kernel
theorem dX3_priceOf_98 : decode cX3_priceOf 98 = .ok (.aload_n 0, 1) := by decide +kernel
theorem dX3_priceOf_99 : decode cX3_priceOf 99 = .ok (.getfield 28, 3) := by decide +kernel
theorem dX3_priceOf_102 : decode cX3_priceOf 102 = .ok (.iload_n 1, 1) := by decide +kernel
theorem dX3_priceOf_103 : decode cX3_priceOf 103 = .ok (.iload_n 2, 1) := by decide +kernel
theorem dX3_priceOf_104 : decode cX3_priceOf 104 = .ok (.invokevirtual 115, 3) := by decide +kernel
theorem dX3_priceOf_107 : decode cX3_priceOf 107 = .ok (.iload_n 3, 1) := by decide +kernel
theorem dX3_priceOf_108 : decode cX3_priceOf 108 = .ok (.ifCond .eq 7, 3) := by decide +kernel
theorem dX3_priceOf_111 : decode cX3_priceOf 111 = .ok (.iconst 0, 1) := by decide +kernel
theorem dX3_priceOf_112 : decode cX3_priceOf 112 = .ok (.goto 5, 3) := by decide +kernel
theorem dX3_priceOf_115 : decode cX3_priceOf 115 = .ok (.ldc 68, 2) := by decide +kernel
theorem dX3_priceOf_117 : decode cX3_priceOf 117 = .ok (.iadd, 1) := by decide +kernel
theorem dX3_priceOf_118 : decode cX3_priceOf 118 = .ok (.ireturn, 1) := by decide +kernel
theorem dX3_cellOf_0 : decode cX3_cellOf 0 = .ok (.iload_n 0, 1) := by decide +kernel
theorem dX3_cellOf_1 : decode cX3_cellOf 1 = .ok (.bipush 24, 2) := by decide +kernel
theorem dX3_cellOf_3 : decode cX3_cellOf 3 = .ok (.imul, 1) := by decide +kernel
theorem dX3_cellOf_4 : decode cX3_cellOf 4 = .ok (.iload_n 1, 1) := by decide +kernel
theorem dX3_cellOf_5 : decode cX3_cellOf 5 = .ok (.iadd, 1) := by decide +kernel
theorem dX3_cellOf_6 : decode cX3_cellOf 6 = .ok (.iload_n 0, 1) := by decide +kernel
theorem dX3_cellOf_7 : decode cX3_cellOf 7 = .ok (.isub, 1) := by decide +kernel
theorem dX3_cellOf_8 : decode cX3_cellOf 8 = .ok (.iconst 1, 1) := by decide +kernel
theorem dX3_cellOf_9 : decode cX3_cellOf 9 = .ok (.isub, 1) := by decide +kernel
theorem dX3_cellOf_10 : decode cX3_cellOf 10 = .ok (.ireturn, 1) := by decide +kernel
set_option maxRecDepth 20000 in
theorem ggX3_keepTried_X2_copyFrom : GoodIn wsX3_keepTried wsX2_copyFrom := goodIn_r _ [10, 11, 12, 13, 14, 9, 15, 26] (by decide +kernel) (by decide +kernel)
set_option maxRecDepth 20000 in
theorem gX3_keepTried_X2_copyFrom : GoodIn wsX3_keepTried (wsV RX3 118 RX2 yX2_copyFrom wsX2_copyFrom) := goodIn_app (goodIn_of _ (by decide +kernel)) ggX3_keepTried_X2_copyFrom
theorem dX3_keepTried_0 : decode cX3_keepTried 0 = .ok (.aload_n 0, 1) := by decide +kernel
theorem dX3_keepTried_1 : decode cX3_keepTried 1 = .ok (.iload_n 2, 1) := by decide +kernel
theorem dX3_keepTried_2 : decode cX3_keepTried 2 = .ok (.putfield 19, 3) := by decide +kernel
theorem dX3_keepTried_5 : decode cX3_keepTried 5 = .ok (.aload_n 0, 1) := by decide +kernel
theorem dX3_keepTried_6 : decode cX3_keepTried 6 = .ok (.iload_n 1, 1) := by decide +kernel
theorem dX3_keepTried_7 : decode cX3_keepTried 7 = .ok (.putfield 9, 3) := by decide +kernel
theorem dX3_keepTried_10 : decode cX3_keepTried 10 = .ok (.aload_n 0, 1) := by decide +kernel
theorem dX3_keepTried_11 : decode cX3_keepTried 11 = .ok (.iload_n 3, 1) := by decide +kernel
theorem dX3_keepTried_12 : decode cX3_keepTried 12 = .ok (.putfield 15, 3) := by decide +kernel
theorem dX3_keepTried_15 : decode cX3_keepTried 15 = .ok (.aload_n 0, 1) := by decide +kernel
theorem dX3_keepTried_16 : decode cX3_keepTried 16 = .ok (.getfield 54, 3) := by decide +kernel
theorem dX3_keepTried_19 : decode cX3_keepTried 19 = .ok (.aload_n 0, 1) := by decide +kernel
theorem dX3_keepTried_20 : decode cX3_keepTried 20 = .ok (.getfield 51, 3) := by decide +kernel
theorem dX3_keepTried_23 : decode cX3_keepTried 23 = .ok (.invokevirtual 118, 3) := by decide +kernel
theorem dX3_keepTried_26 : decode cX3_keepTried 26 = .ok (.return_, 1) := by decide +kernel
set_option maxRecDepth 20000 in
theorem ggX3_tryLines_X3_keepTried : GoodIn wsX3_tryLines wsX3_keepTried := goodIn_r _ [17, 4, 18, 19, 20, 8, 21, 22, 23, 24, 25, 26, 27, 28, 29, 30, 81, 82, 83, 84, 85, 86, 87, 88, 89, 90, 97] (by decide +kernel) (by decide +kernel)
set_option maxRecDepth 20000 in
theorem gX3_tryLines_X3_keepTried : GoodIn wsX3_tryLines (wsV RX3 121 RX3 yX3_keepTried wsX3_keepTried) := goodIn_app (goodIn_of _ (by decide +kernel)) ggX3_tryLines_X3_keepTried
set_option maxRecDepth 20000 in
theorem ggX3_tryLines_X3_cellOf : GoodIn wsX3_tryLines wsX3_cellOf := goodIn_r _ [33] (by decide +kernel) (by decide +kernel)
set_option maxRecDepth 20000 in
theorem gX3_tryLines_X3_cellOf : GoodIn wsX3_tryLines (va_wsS RX3 90 yX3_cellOf wsX3_cellOf) := goodIn_app (goodIn_of _ (by decide +kernel)) ggX3_tryLines_X3_cellOf
set_option maxRecDepth 20000 in
theorem ggX3_tryLines_X2_get : GoodIn wsX3_tryLines wsX2_get := goodIn_r _ [30, 26, 97] (by decide +kernel) (by decide +kernel)
set_option maxRecDepth 20000 in
theorem gX3_tryLines_X2_get : GoodIn wsX3_tryLines (wsV RX3 69 RX2 yX2_get wsX2_get) := goodIn_app (goodIn_of _ (by decide +kernel)) ggX3_tryLines_X2_get
set_option maxRecDepth 20000 in
theorem ggX3_tryLines_X4_layLine : GoodIn wsX3_tryLines wsX4_layLine := goodIn_r _ [39, 40, 41, 10, 11, 12, 42, 43, 44, 38, 45, 46, 47, 48, 49, 50, 51, 52, 53, 54, 55, 56, 57, 28, 29, 24, 30, 26, 58, 59, 60, 61, 62, 63, 64, 65, 66, 67, 68, 69, 70, 71, 72, 73, 74, 75, 76, 77, 98, 99, 100, 101, 91, 92, 93, 94, 95, 96, 97] (by decide +kernel) (by decide +kernel)
set_option maxRecDepth 20000 in
theorem gX3_tryLines_X4_layLine : GoodIn wsX3_tryLines (wsV RX3 125 RX4 yX4_layLine wsX4_layLine) := goodIn_app (goodIn_of _ (by decide +kernel)) ggX3_tryLines_X4_layLine
set_option maxRecDepth 20000 in
theorem ggX3_tryLines_X2_set : GoodIn wsX3_tryLines wsX2_set := goodIn_r _ [61, 26, 97] (by decide +kernel) (by decide +kernel)
set_option maxRecDepth 20000 in
theorem gX3_tryLines_X2_set : GoodIn wsX3_tryLines (wsV RX3 82 RX2 yX2_set wsX2_set) := goodIn_app (goodIn_of _ (by decide +kernel)) ggX3_tryLines_X2_set
set_option maxRecDepth 20000 in
theorem ggX3_tryLines_X3_tryLines : GoodIn wsX3_tryLines wsX3_tryLines := goodIn_r _ [0, 1, 2, 3, 4, 5, 6, 7, 8, 9, 10, 11, 12, 13, 14, 15, 16, 17, 18, 19, 20, 21, 22, 23, 24, 25, 26, 27, 28, 29, 30, 31, 32, 33, 34, 35, 36, 37, 38, 39, 40, 41, 42, 43, 44, 45, 46, 47, 48, 49, 50, 51, 52, 53, 54, 55, 56, 57, 58, 59, 60, 61, 62, 63, 64, 65, 66, 67, 68, 69, 70, 71, 72, 73, 74, 75, 76, 77, 78, 79, 80, 81, 82, 83, 84, 85, 86, 87, 88, 89, 90, 91, 92, 93, 94, 95, 96, 97, 98, 99, 100, 101] (by decide +kernel) (by decide +kernel)
set_option maxRecDepth 20000 in
theorem gX3_tryLines_X3_tryLines : GoodIn wsX3_tryLines (va_wsS RX3 64 yX3_tryLines wsX3_tryLines) := goodIn_app (goodIn_of _ (by decide +kernel)) ggX3_tryLines_X3_tryLines
theorem dX3_tryLines_0 : decode cX3_tryLines 0 = .ok (.iload_n 3, 1) := by decide +kernel
theorem dX3_tryLines_1 : decode cX3_tryLines 1 = .ok (.aload_n 0, 1) := by decide +kernel
theorem dX3_tryLines_2 : decode cX3_tryLines 2 = .ok (.getfield 28, 3) := by decide +kernel
theorem dX3_tryLines_5 : decode cX3_tryLines 5 = .ok (.getfield 79, 3) := by decide +kernel
theorem dX3_tryLines_8 : decode cX3_tryLines 8 = .ok (.if_icmp .lt 13, 3) := by decide +kernel
theorem dX3_tryLines_11 : decode cX3_tryLines 11 = .ok (.aload_n 0, 1) := by decide +kernel
theorem dX3_tryLines_12 : decode cX3_tryLines 12 = .ok (.iload_n 1, 1) := by decide +kernel
theorem dX3_tryLines_13 : decode cX3_tryLines 13 = .ok (.iload 4, 2) := by decide +kernel
theorem dX3_tryLines_15 : decode cX3_tryLines 15 = .ok (.iload 5, 2) := by decide +kernel
theorem dX3_tryLines_17 : decode cX3_tryLines 17 = .ok (.invokevirtual 121, 3) := by decide +kernel
theorem dX3_tryLines_20 : decode cX3_tryLines 20 = .ok (.return_, 1) := by decide +kernel
theorem dX3_tryLines_21 : decode cX3_tryLines 21 = .ok (.iload_n 1, 1) := by decide +kernel
theorem dX3_tryLines_22 : decode cX3_tryLines 22 = .ok (.bipush 24, 2) := by decide +kernel
theorem dX3_tryLines_24 : decode cX3_tryLines 24 = .ok (.if_icmp .lt 4, 3) := by decide +kernel
theorem dX3_tryLines_27 : decode cX3_tryLines 27 = .ok (.return_, 1) := by decide +kernel
theorem dX3_tryLines_28 : decode cX3_tryLines 28 = .ok (.aload_n 0, 1) := by decide +kernel
theorem dX3_tryLines_29 : decode cX3_tryLines 29 = .ok (.getfield 28, 3) := by decide +kernel
theorem dX3_tryLines_32 : decode cX3_tryLines 32 = .ok (.getfield 79, 3) := by decide +kernel
theorem dX3_tryLines_35 : decode cX3_tryLines 35 = .ok (.istore 6, 2) := by decide +kernel
theorem dX3_tryLines_37 : decode cX3_tryLines 37 = .ok (.iload 6, 2) := by decide +kernel
theorem dX3_tryLines_39 : decode cX3_tryLines 39 = .ok (.iload_n 3, 1) := by decide +kernel
theorem dX3_tryLines_40 : decode cX3_tryLines 40 = .ok (.if_icmp .le 115, 3) := by decide +kernel
theorem dX3_tryLines_43 : decode cX3_tryLines 43 = .ok (.iload 4, 2) := by decide +kernel
theorem dX3_tryLines_45 : decode cX3_tryLines 45 = .ok (.aload_n 0, 1) := by decide +kernel
theorem dX3_tryLines_46 : decode cX3_tryLines 46 = .ok (.getfield 44, 3) := by decide +kernel
theorem dX3_tryLines_49 : decode cX3_tryLines 49 = .ok (.iload_n 3, 1) := by decide +kernel
theorem dX3_tryLines_50 : decode cX3_tryLines 50 = .ok (.iload 6, 2) := by decide +kernel
theorem dX3_tryLines_52 : decode cX3_tryLines 52 = .ok (.invokestatic 90, 3) := by decide +kernel
theorem dX3_tryLines_55 : decode cX3_tryLines 55 = .ok (.invokevirtual 69, 3) := by decide +kernel
theorem dX3_tryLines_58 : decode cX3_tryLines 58 = .ok (.iadd, 1) := by decide +kernel
theorem dX3_tryLines_59 : decode cX3_tryLines 59 = .ok (.istore 7, 2) := by decide +kernel
theorem dX3_tryLines_61 : decode cX3_tryLines 61 = .ok (.iload 7, 2) := by decide +kernel
theorem dX3_tryLines_63 : decode cX3_tryLines 63 = .ok (.aload_n 0, 1) := by decide +kernel
theorem dX3_tryLines_64 : decode cX3_tryLines 64 = .ok (.getfield 19, 3) := by decide +kernel
theorem dX3_tryLines_67 : decode cX3_tryLines 67 = .ok (.if_icmp .ge 82, 3) := by decide +kernel
theorem dX3_tryLines_70 : decode cX3_tryLines 70 = .ok (.iload 7, 2) := by decide +kernel
theorem dX3_tryLines_72 : decode cX3_tryLines 72 = .ok (.aload_n 0, 1) := by decide +kernel
theorem dX3_tryLines_73 : decode cX3_tryLines 73 = .ok (.getfield 48, 3) := by decide +kernel
theorem dX3_tryLines_76 : decode cX3_tryLines 76 = .ok (.iload 6, 2) := by decide +kernel
theorem dX3_tryLines_78 : decode cX3_tryLines 78 = .ok (.invokevirtual 69, 3) := by decide +kernel
theorem dX3_tryLines_81 : decode cX3_tryLines 81 = .ok (.iadd, 1) := by decide +kernel
theorem dX3_tryLines_82 : decode cX3_tryLines 82 = .ok (.aload_n 0, 1) := by decide +kernel
theorem dX3_tryLines_83 : decode cX3_tryLines 83 = .ok (.getfield 19, 3) := by decide +kernel
theorem dX3_tryLines_86 : decode cX3_tryLines 86 = .ok (.if_icmp .lt 6, 3) := by decide +kernel
theorem dX3_tryLines_89 : decode cX3_tryLines 89 = .ok (.goto 60, 3) := by decide +kernel
theorem dX3_tryLines_92 : decode cX3_tryLines 92 = .ok (.aload_n 0, 1) := by decide +kernel
theorem dX3_tryLines_93 : decode cX3_tryLines 93 = .ok (.getfield 35, 3) := by decide +kernel
theorem dX3_tryLines_96 : decode cX3_tryLines 96 = .ok (.aload_n 0, 1) := by decide +kernel
theorem dX3_tryLines_97 : decode cX3_tryLines 97 = .ok (.getfield 28, 3) := by decide +kernel
theorem dX3_tryLines_100 : decode cX3_tryLines 100 = .ok (.iload_n 2, 1) := by decide +kernel
theorem dX3_tryLines_101 : decode cX3_tryLines 101 = .ok (.iload_n 3, 1) := by decide +kernel
theorem dX3_tryLines_102 : decode cX3_tryLines 102 = .ok (.iload 6, 2) := by decide +kernel
theorem dX3_tryLines_104 : decode cX3_tryLines 104 = .ok (.invokevirtual 125, 3) := by decide +kernel
theorem dX3_tryLines_107 : decode cX3_tryLines 107 = .ok (.istore 8, 2) := by decide +kernel
theorem dX3_tryLines_109 : decode cX3_tryLines 109 = .ok (.iload 8, 2) := by decide +kernel
theorem dX3_tryLines_111 : decode cX3_tryLines 111 = .ok (.aload_n 0, 1) := by decide +kernel
theorem dX3_tryLines_112 : decode cX3_tryLines 112 = .ok (.getfield 22, 3) := by decide +kernel
theorem dX3_tryLines_115 : decode cX3_tryLines 115 = .ok (.if_icmp .gt 34, 3) := by decide +kernel
theorem dX3_tryLines_118 : decode cX3_tryLines 118 = .ok (.aload_n 0, 1) := by decide +kernel
theorem dX3_tryLines_119 : decode cX3_tryLines 119 = .ok (.getfield 51, 3) := by decide +kernel
theorem dX3_tryLines_122 : decode cX3_tryLines 122 = .ok (.iload_n 1, 1) := by decide +kernel
theorem dX3_tryLines_123 : decode cX3_tryLines 123 = .ok (.iload 6, 2) := by decide +kernel
theorem dX3_tryLines_125 : decode cX3_tryLines 125 = .ok (.iload_n 3, 1) := by decide +kernel
theorem dX3_tryLines_126 : decode cX3_tryLines 126 = .ok (.isub, 1) := by decide +kernel
theorem dX3_tryLines_127 : decode cX3_tryLines 127 = .ok (.invokevirtual 82, 3) := by decide +kernel
theorem dX3_tryLines_130 : decode cX3_tryLines 130 = .ok (.aload_n 0, 1) := by decide +kernel
theorem dX3_tryLines_131 : decode cX3_tryLines 131 = .ok (.iload_n 1, 1) := by decide +kernel
theorem dX3_tryLines_132 : decode cX3_tryLines 132 = .ok (.iconst 1, 1) := by decide +kernel
theorem dX3_tryLines_133 : decode cX3_tryLines 133 = .ok (.iadd, 1) := by decide +kernel
theorem dX3_tryLines_134 : decode cX3_tryLines 134 = .ok (.iload_n 3, 1) := by decide +kernel
theorem dX3_tryLines_135 : decode cX3_tryLines 135 = .ok (.iload 6, 2) := by decide +kernel
theorem dX3_tryLines_137 : decode cX3_tryLines 137 = .ok (.iload 7, 2) := by decide +kernel
theorem dX3_tryLines_139 : decode cX3_tryLines 139 = .ok (.iload 5, 2) := by decide +kernel
theorem dX3_tryLines_141 : decode cX3_tryLines 141 = .ok (.iload 8, 2) := by decide +kernel
theorem dX3_tryLines_143 : decode cX3_tryLines 143 = .ok (.invokestatic 129, 3) := by decide +kernel
theorem dX3_tryLines_146 : decode cX3_tryLines 146 = .ok (.invokestatic 64, 3) := by decide +kernel
theorem dX3_tryLines_149 : decode cX3_tryLines 149 = .ok (.iinc 6 (-1), 3) := by decide +kernel
theorem dX3_tryLines_152 : decode cX3_tryLines 152 = .ok (.goto (-115), 3) := by decide +kernel
theorem dX3_tryLines_155 : decode cX3_tryLines 155 = .ok (.return_, 1) := by decide +kernel
set_option maxRecDepth 20000 in
theorem ggX4_init_X2_init : GoodIn wsX4_init wsX2_init := goodIn_r _ [13, 14, 2, 3, 15, 16, 17, 18, 19, 20, 21] (by decide +kernel) (by decide +kernel)
set_option maxRecDepth 20000 in
theorem gX4_init_X2_init : GoodIn wsX4_init (wsX2_init) := ggX4_init_X2_init
theorem dX4_init_0 : decode cX4_init 0 = .ok (.aload_n 0, 1) := by decide +kernel
theorem dX4_init_1 : decode cX4_init 1 = .ok (.invokespecial 3, 3) := by decide +kernel
theorem dX4_init_4 : decode cX4_init 4 = .ok (.aload_n 0, 1) := by decide +kernel
theorem dX4_init_5 : decode cX4_init 5 = .ok (.new 9, 3) := by decide +kernel
theorem dX4_init_8 : decode cX4_init 8 = .ok (.dup, 1) := by decide +kernel
theorem dX4_init_9 : decode cX4_init 9 = .ok (.bipush 24, 2) := by decide +kernel
theorem dX4_init_11 : decode cX4_init 11 = .ok (.invokespecial 11, 3) := by decide +kernel
theorem dX4_init_14 : decode cX4_init 14 = .ok (.putfield 14, 3) := by decide +kernel
theorem dX4_init_17 : decode cX4_init 17 = .ok (.aload_n 0, 1) := by decide +kernel
theorem dX4_init_18 : decode cX4_init 18 = .ok (.new 9, 3) := by decide +kernel
theorem dX4_init_21 : decode cX4_init 21 = .ok (.dup, 1) := by decide +kernel
theorem dX4_init_22 : decode cX4_init 22 = .ok (.bipush 24, 2) := by decide +kernel
theorem dX4_init_24 : decode cX4_init 24 = .ok (.invokespecial 11, 3) := by decide +kernel
theorem dX4_init_27 : decode cX4_init 27 = .ok (.putfield 20, 3) := by decide +kernel
theorem dX4_init_30 : decode cX4_init 30 = .ok (.aload_n 0, 1) := by decide +kernel
theorem dX4_init_31 : decode cX4_init 31 = .ok (.new 9, 3) := by decide +kernel
theorem dX4_init_34 : decode cX4_init 34 = .ok (.dup, 1) := by decide +kernel
theorem dX4_init_35 : decode cX4_init 35 = .ok (.bipush 24, 2) := by decide +kernel
theorem dX4_init_37 : decode cX4_init 37 = .ok (.invokespecial 11, 3) := by decide +kernel
theorem dX4_init_40 : decode cX4_init 40 = .ok (.putfield 23, 3) := by decide +kernel
theorem dX4_init_43 : decode cX4_init 43 = .ok (.aload_n 0, 1) := by decide +kernel
theorem dX4_init_44 : decode cX4_init 44 = .ok (.new 9, 3) := by decide +kernel
theorem dX4_init_47 : decode cX4_init 47 = .ok (.dup, 1) := by decide +kernel
theorem dX4_init_48 : decode cX4_init 48 = .ok (.bipush 24, 2) := by decide +kernel
theorem dX4_init_50 : decode cX4_init 50 = .ok (.invokespecial 11, 3) := by decide +kernel
theorem dX4_init_53 : decode cX4_init 53 = .ok (.putfield 26, 3) := by decide +kernel
theorem dX4_init_56 : decode cX4_init 56 = .ok (.return_, 1) := by decide +kernel
set_option maxRecDepth 20000 in
theorem ggX4_columnOf_X2_get : GoodIn wsX4_columnOf wsX2_get := goodIn_r _ [6, 7, 12] (by decide +kernel) (by decide +kernel)
set_option maxRecDepth 20000 in
theorem gX4_columnOf_X2_get : GoodIn wsX4_columnOf (wsV RX4 29 RX2 yX2_get wsX2_get) := goodIn_app (goodIn_of _ (by decide +kernel)) ggX4_columnOf_X2_get
theorem dX4_columnOf_0 : decode cX4_columnOf 0 = .ok (.aload_n 0, 1) := by decide +kernel
theorem dX4_columnOf_1 : decode cX4_columnOf 1 = .ok (.getfield 14, 3) := by decide +kernel
theorem dX4_columnOf_4 : decode cX4_columnOf 4 = .ok (.iload_n 1, 1) := by decide +kernel
theorem dX4_columnOf_5 : decode cX4_columnOf 5 = .ok (.invokevirtual 29, 3) := by decide +kernel
theorem dX4_columnOf_8 : decode cX4_columnOf 8 = .ok (.ireturn, 1) := by decide +kernel
set_option maxRecDepth 20000 in
theorem ggX4_gapColumn_X2_get : GoodIn wsX4_gapColumn wsX2_get := goodIn_r _ [6, 7, 12] (by decide +kernel) (by decide +kernel)
set_option maxRecDepth 20000 in
theorem gX4_gapColumn_X2_get : GoodIn wsX4_gapColumn (wsV RX4 29 RX2 yX2_get wsX2_get) := goodIn_app (goodIn_of _ (by decide +kernel)) ggX4_gapColumn_X2_get
theorem dX4_gapColumn_0 : decode cX4_gapColumn 0 = .ok (.aload_n 0, 1) := by decide +kernel
theorem dX4_gapColumn_1 : decode cX4_gapColumn 1 = .ok (.getfield 20, 3) := by decide +kernel
theorem dX4_gapColumn_4 : decode cX4_gapColumn 4 = .ok (.iload_n 1, 1) := by decide +kernel
theorem dX4_gapColumn_5 : decode cX4_gapColumn 5 = .ok (.invokevirtual 29, 3) := by decide +kernel
theorem dX4_gapColumn_8 : decode cX4_gapColumn 8 = .ok (.ireturn, 1) := by decide +kernel
set_option maxRecDepth 20000 in
theorem ggX4_gapWidth_X2_get : GoodIn wsX4_gapWidth wsX2_get := goodIn_r _ [6, 7, 12] (by decide +kernel) (by decide +kernel)
set_option maxRecDepth 20000 in
theorem gX4_gapWidth_X2_get : GoodIn wsX4_gapWidth (wsV RX4 29 RX2 yX2_get wsX2_get) := goodIn_app (goodIn_of _ (by decide +kernel)) ggX4_gapWidth_X2_get
theorem dX4_gapWidth_0 : decode cX4_gapWidth 0 = .ok (.aload_n 0, 1) := by decide +kernel
theorem dX4_gapWidth_1 : decode cX4_gapWidth 1 = .ok (.getfield 23, 3) := by decide +kernel
theorem dX4_gapWidth_4 : decode cX4_gapWidth 4 = .ok (.iload_n 1, 1) := by decide +kernel
theorem dX4_gapWidth_5 : decode cX4_gapWidth 5 = .ok (.invokevirtual 29, 3) := by decide +kernel
theorem dX4_gapWidth_8 : decode cX4_gapWidth 8 = .ok (.ireturn, 1) := by decide +kernel
set_option maxRecDepth 20000 in
theorem ggX4_reachOf_X2_get : GoodIn wsX4_reachOf wsX2_get := goodIn_r _ [6, 7, 12] (by decide +kernel) (by decide +kernel)
set_option maxRecDepth 20000 in
theorem gX4_reachOf_X2_get : GoodIn wsX4_reachOf (wsV RX4 29 RX2 yX2_get wsX2_get) := goodIn_app (goodIn_of _ (by decide +kernel)) ggX4_reachOf_X2_get
theorem dX4_reachOf_0 : decode cX4_reachOf 0 = .ok (.aload_n 0, 1) := by decide +kernel
theorem dX4_reachOf_1 : decode cX4_reachOf 1 = .ok (.getfield 26, 3) := by decide +kernel
theorem dX4_reachOf_4 : decode cX4_reachOf 4 = .ok (.iload_n 1, 1) := by decide +kernel
theorem dX4_reachOf_5 : decode cX4_reachOf 5 = .ok (.invokevirtual 29, 3) := by decide +kernel
theorem dX4_reachOf_8 : decode cX4_reachOf 8 = .ok (.ireturn, 1) := by decide +kernel
set_option maxRecDepth 20000 in
theorem ggX4_layAll_X1_endOf : GoodIn wsX4_layAll wsX1_endOf := goodIn_r _ [6, 7, 8, 9, 10, 11, 12, 13, 14, 58, 59, 60, 61, 62, 63, 64] (by decide +kernel) (by decide +kernel)
set_option maxRecDepth 20000 in
theorem gX4_layAll_X1_endOf : GoodIn wsX4_layAll (wsV RX4 39 RX1 yX1_endOf wsX1_endOf) := goodIn_app (goodIn_of _ (by decide +kernel)) ggX4_layAll_X1_endOf
set_option maxRecDepth 20000 in
theorem ggX4_layAll_X4_layLine : GoodIn wsX4_layAll wsX4_layLine := goodIn_r _ [19, 20, 21, 22, 23, 24, 25, 26, 27, 18, 28, 1, 29, 30, 31, 32, 33, 34, 5, 35, 36, 37, 9, 10, 11, 12, 13, 14, 38, 39, 40, 41, 42, 43, 44, 45, 46, 47, 48, 49, 50, 51, 52, 53, 54, 55, 56, 57, 65, 66, 67, 68, 58, 59, 60, 61, 62, 63, 64] (by decide +kernel) (by decide +kernel)
set_option maxRecDepth 20000 in
theorem gX4_layAll_X4_layLine : GoodIn wsX4_layAll (wsV RX4 42 RX4 yX4_layLine wsX4_layLine) := goodIn_app (goodIn_of _ (by decide +kernel)) ggX4_layAll_X4_layLine
theorem dX4_layAll_0 : decode cX4_layAll 0 = .ok (.iconst 0, 1) := by decide +kernel
theorem dX4_layAll_1 : decode cX4_layAll 1 = .ok (.istore_n 2, 1) := by decide +kernel
theorem dX4_layAll_2 : decode cX4_layAll 2 = .ok (.iconst 0, 1) := by decide +kernel
theorem dX4_layAll_3 : decode cX4_layAll 3 = .ok (.istore_n 3, 1) := by decide +kernel
theorem dX4_layAll_4 : decode cX4_layAll 4 = .ok (.iconst 0, 1) := by decide +kernel
theorem dX4_layAll_5 : decode cX4_layAll 5 = .ok (.istore 4, 2) := by decide +kernel
theorem dX4_layAll_7 : decode cX4_layAll 7 = .ok (.iload 4, 2) := by decide +kernel
theorem dX4_layAll_9 : decode cX4_layAll 9 = .ok (.bipush 24, 2) := by decide +kernel
theorem dX4_layAll_11 : decode cX4_layAll 11 = .ok (.if_icmp .ge 39, 3) := by decide +kernel
theorem dX4_layAll_14 : decode cX4_layAll 14 = .ok (.iload_n 3, 1) := by decide +kernel
theorem dX4_layAll_15 : decode cX4_layAll 15 = .ok (.aload_n 1, 1) := by decide +kernel
theorem dX4_layAll_16 : decode cX4_layAll 16 = .ok (.getfield 33, 3) := by decide +kernel
theorem dX4_layAll_19 : decode cX4_layAll 19 = .ok (.if_icmp .ge 31, 3) := by decide +kernel
theorem dX4_layAll_22 : decode cX4_layAll 22 = .ok (.aload_n 1, 1) := by decide +kernel
theorem dX4_layAll_23 : decode cX4_layAll 23 = .ok (.iload_n 3, 1) := by decide +kernel
theorem dX4_layAll_24 : decode cX4_layAll 24 = .ok (.invokevirtual 39, 3) := by decide +kernel
theorem dX4_layAll_27 : decode cX4_layAll 27 = .ok (.istore 5, 2) := by decide +kernel
theorem dX4_layAll_29 : decode cX4_layAll 29 = .ok (.aload_n 0, 1) := by decide +kernel
theorem dX4_layAll_30 : decode cX4_layAll 30 = .ok (.aload_n 1, 1) := by decide +kernel
theorem dX4_layAll_31 : decode cX4_layAll 31 = .ok (.iload_n 2, 1) := by decide +kernel
theorem dX4_layAll_32 : decode cX4_layAll 32 = .ok (.iload_n 3, 1) := by decide +kernel
theorem dX4_layAll_33 : decode cX4_layAll 33 = .ok (.iload 5, 2) := by decide +kernel
theorem dX4_layAll_35 : decode cX4_layAll 35 = .ok (.invokevirtual 42, 3) := by decide +kernel
theorem dX4_layAll_38 : decode cX4_layAll 38 = .ok (.pop, 1) := by decide +kernel
theorem dX4_layAll_39 : decode cX4_layAll 39 = .ok (.iload_n 3, 1) := by decide +kernel
theorem dX4_layAll_40 : decode cX4_layAll 40 = .ok (.istore_n 2, 1) := by decide +kernel
theorem dX4_layAll_41 : decode cX4_layAll 41 = .ok (.iload 5, 2) := by decide +kernel
theorem dX4_layAll_43 : decode cX4_layAll 43 = .ok (.istore_n 3, 1) := by decide +kernel
theorem dX4_layAll_44 : decode cX4_layAll 44 = .ok (.iinc 4 1, 3) := by decide +kernel
theorem dX4_layAll_47 : decode cX4_layAll 47 = .ok (.goto (-40), 3) := by decide +kernel
theorem dX4_layAll_50 : decode cX4_layAll 50 = .ok (.return_, 1) := by decide +kernel
set_option maxRecDepth 20000 in
theorem ggX4_layLine_X4_placeWords : GoodIn wsX4_layLine wsX4_placeWords := goodIn_r _ [10, 11, 12, 13, 14, 15, 16, 17, 18, 19, 20, 21, 22, 23, 24, 25, 26, 27, 28, 29, 30, 31, 32, 33, 34, 35, 52, 53, 54, 55, 56, 57, 48, 49, 50, 51, 58] (by decide +kernel) (by decide +kernel)
set_option maxRecDepth 20000 in
theorem gX4_layLine_X4_placeWords : GoodIn wsX4_layLine (wsV RX4 46 RX4 yX4_placeWords wsX4_placeWords) := goodIn_app (goodIn_of _ (by decide +kernel)) ggX4_layLine_X4_placeWords
set_option maxRecDepth 20000 in
theorem ggX4_layLine_X4_reachAbove : GoodIn wsX4_layLine wsX4_reachAbove := goodIn_r _ [39, 1, 2, 3, 4, 5, 40, 41, 42, 9, 43, 13, 14, 44, 45, 46, 47, 23, 24, 25, 26, 27, 48, 49, 50, 51, 58] (by decide +kernel) (by decide +kernel)
set_option maxRecDepth 20000 in
theorem gX4_layLine_X4_reachAbove : GoodIn wsX4_layLine (wsV RX4 50 RX4 yX4_reachAbove wsX4_reachAbove) := goodIn_app (goodIn_of _ (by decide +kernel)) ggX4_layLine_X4_reachAbove
set_option maxRecDepth 20000 in
theorem ggX4_layLine_X2_set : GoodIn wsX4_layLine wsX2_set := goodIn_r _ [31, 27, 58] (by decide +kernel) (by decide +kernel)
set_option maxRecDepth 20000 in
theorem gX4_layLine_X2_set : GoodIn wsX4_layLine (wsV RX4 54 RX2 yX2_set wsX2_set) := goodIn_app (goodIn_of _ (by decide +kernel)) ggX4_layLine_X2_set
theorem dX4_layLine_0 : decode cX4_layLine 0 = .ok (.aload_n 0, 1) := by decide +kernel
theorem dX4_layLine_1 : decode cX4_layLine 1 = .ok (.aload_n 1, 1) := by decide +kernel
theorem dX4_layLine_2 : decode cX4_layLine 2 = .ok (.iload_n 3, 1) := by decide +kernel
theorem dX4_layLine_3 : decode cX4_layLine 3 = .ok (.iload 4, 2) := by decide +kernel
theorem dX4_layLine_5 : decode cX4_layLine 5 = .ok (.invokevirtual 46, 3) := by decide +kernel
theorem dX4_layLine_8 : decode cX4_layLine 8 = .ok (.iconst 0, 1) := by decide +kernel
theorem dX4_layLine_9 : decode cX4_layLine 9 = .ok (.istore 5, 2) := by decide +kernel
theorem dX4_layLine_11 : decode cX4_layLine 11 = .ok (.iload_n 3, 1) := by decide +kernel
theorem dX4_layLine_12 : decode cX4_layLine 12 = .ok (.istore 6, 2) := by decide +kernel
theorem dX4_layLine_14 : decode cX4_layLine 14 = .ok (.iload 6, 2) := by decide +kernel
theorem dX4_layLine_16 : decode cX4_layLine 16 = .ok (.iload 4, 2) := by decide +kernel
theorem dX4_layLine_18 : decode cX4_layLine 18 = .ok (.if_icmp .ge 53, 3) := by decide +kernel
theorem dX4_layLine_21 : decode cX4_layLine 21 = .ok (.iconst 0, 1) := by decide +kernel
theorem dX4_layLine_22 : decode cX4_layLine 22 = .ok (.istore 7, 2) := by decide +kernel
theorem dX4_layLine_24 : decode cX4_layLine 24 = .ok (.iload 6, 2) := by decide +kernel
theorem dX4_layLine_26 : decode cX4_layLine 26 = .ok (.iload 4, 2) := by decide +kernel
theorem dX4_layLine_28 : decode cX4_layLine 28 = .ok (.iconst 1, 1) := by decide +kernel
theorem dX4_layLine_29 : decode cX4_layLine 29 = .ok (.isub, 1) := by decide +kernel
theorem dX4_layLine_30 : decode cX4_layLine 30 = .ok (.if_icmp .ge 15, 3) := by decide +kernel
theorem dX4_layLine_33 : decode cX4_layLine 33 = .ok (.iconst 1, 1) := by decide +kernel
theorem dX4_layLine_34 : decode cX4_layLine 34 = .ok (.aload_n 0, 1) := by decide +kernel
theorem dX4_layLine_35 : decode cX4_layLine 35 = .ok (.iload 6, 2) := by decide +kernel
theorem dX4_layLine_37 : decode cX4_layLine 37 = .ok (.iload_n 2, 1) := by decide +kernel
theorem dX4_layLine_38 : decode cX4_layLine 38 = .ok (.iload_n 3, 1) := by decide +kernel
theorem dX4_layLine_39 : decode cX4_layLine 39 = .ok (.invokevirtual 50, 3) := by decide +kernel
theorem dX4_layLine_42 : decode cX4_layLine 42 = .ok (.iadd, 1) := by decide +kernel
theorem dX4_layLine_43 : decode cX4_layLine 43 = .ok (.istore 7, 2) := by decide +kernel
theorem dX4_layLine_45 : decode cX4_layLine 45 = .ok (.aload_n 0, 1) := by decide +kernel
theorem dX4_layLine_46 : decode cX4_layLine 46 = .ok (.getfield 26, 3) := by decide +kernel
theorem dX4_layLine_49 : decode cX4_layLine 49 = .ok (.iload 6, 2) := by decide +kernel
theorem dX4_layLine_51 : decode cX4_layLine 51 = .ok (.iload 7, 2) := by decide +kernel
theorem dX4_layLine_53 : decode cX4_layLine 53 = .ok (.invokevirtual 54, 3) := by decide +kernel
theorem dX4_layLine_56 : decode cX4_layLine 56 = .ok (.iload 5, 2) := by decide +kernel
theorem dX4_layLine_58 : decode cX4_layLine 58 = .ok (.iload 7, 2) := by decide +kernel
theorem dX4_layLine_60 : decode cX4_layLine 60 = .ok (.invokestatic 58, 3) := by decide +kernel
theorem dX4_layLine_63 : decode cX4_layLine 63 = .ok (.istore 5, 2) := by decide +kernel
theorem dX4_layLine_65 : decode cX4_layLine 65 = .ok (.iinc 6 1, 3) := by decide +kernel
theorem dX4_layLine_68 : decode cX4_layLine 68 = .ok (.goto (-54), 3) := by decide +kernel
theorem dX4_layLine_71 : decode cX4_layLine 71 = .ok (.iload 5, 2) := by decide +kernel
theorem dX4_layLine_73 : decode cX4_layLine 73 = .ok (.ireturn, 1) := by decide +kernel
set_option maxRecDepth 20000 in
theorem ggX4_placeWords_X1_extra : GoodIn wsX4_placeWords wsX1_extra := goodIn_r _ [9, 10, 11, 12, 13, 14, 15, 16, 17, 26, 27, 28, 29, 30, 31, 36] (by decide +kernel) (by decide +kernel)
set_option maxRecDepth 20000 in
theorem gX4_placeWords_X1_extra : GoodIn wsX4_placeWords (wsV RX4 64 RX1 yX1_extra wsX1_extra) := goodIn_app (goodIn_of _ (by decide +kernel)) ggX4_placeWords_X1_extra
set_option maxRecDepth 20000 in
theorem ggX4_placeWords_X2_set : GoodIn wsX4_placeWords wsX2_set := goodIn_r _ [21, 17, 36] (by decide +kernel) (by decide +kernel)
set_option maxRecDepth 20000 in
theorem gX4_placeWords_X2_set : GoodIn wsX4_placeWords (wsV RX4 54 RX2 yX2_set wsX2_set) := goodIn_app (goodIn_of _ (by decide +kernel)) ggX4_placeWords_X2_set
set_option maxRecDepth 20000 in
theorem ggX4_placeWords_X1_lengthOf : GoodIn wsX4_placeWords wsX1_lengthOf := goodIn_r _ [25, 11, 12, 13, 14, 15, 16, 17, 26, 27, 28, 29, 30, 31, 36] (by decide +kernel) (by decide +kernel)
set_option maxRecDepth 20000 in
theorem gX4_placeWords_X1_lengthOf : GoodIn wsX4_placeWords (wsV RX4 67 RX1 yX1_lengthOf wsX1_lengthOf) := goodIn_app (goodIn_of _ (by decide +kernel)) ggX4_placeWords_X1_lengthOf
theorem dX4_placeWords_0 : decode cX4_placeWords 0 = .ok (.iload_n 3, 1) := by decide +kernel
theorem dX4_placeWords_1 : decode cX4_placeWords 1 = .ok (.iload_n 2, 1) := by decide +kernel
theorem dX4_placeWords_2 : decode cX4_placeWords 2 = .ok (.isub, 1) := by decide +kernel
theorem dX4_placeWords_3 : decode cX4_placeWords 3 = .ok (.iconst 1, 1) := by decide +kernel
theorem dX4_placeWords_4 : decode cX4_placeWords 4 = .ok (.isub, 1) := by decide +kernel
theorem dX4_placeWords_5 : decode cX4_placeWords 5 = .ok (.istore 4, 2) := by decide +kernel
theorem dX4_placeWords_7 : decode cX4_placeWords 7 = .ok (.iload_n 3, 1) := by decide +kernel
theorem dX4_placeWords_8 : decode cX4_placeWords 8 = .ok (.aload_n 1, 1) := by decide +kernel
theorem dX4_placeWords_9 : decode cX4_placeWords 9 = .ok (.getfield 33, 3) := by decide +kernel
theorem dX4_placeWords_12 : decode cX4_placeWords 12 = .ok (.if_icmp .lt 7, 3) := by decide +kernel
theorem dX4_placeWords_15 : decode cX4_placeWords 15 = .ok (.iconst 0, 1) := by decide +kernel
theorem dX4_placeWords_16 : decode cX4_placeWords 16 = .ok (.goto 9, 3) := by decide +kernel
theorem dX4_placeWords_19 : decode cX4_placeWords 19 = .ok (.aload_n 1, 1) := by decide +kernel
theorem dX4_placeWords_20 : decode cX4_placeWords 20 = .ok (.iload_n 2, 1) := by decide +kernel
theorem dX4_placeWords_21 : decode cX4_placeWords 21 = .ok (.iload_n 3, 1) := by decide +kernel
theorem dX4_placeWords_22 : decode cX4_placeWords 22 = .ok (.invokevirtual 64, 3) := by decide +kernel
theorem dX4_placeWords_25 : decode cX4_placeWords 25 = .ok (.istore 5, 2) := by decide +kernel
theorem dX4_placeWords_27 : decode cX4_placeWords 27 = .ok (.iload 4, 2) := by decide +kernel
theorem dX4_placeWords_29 : decode cX4_placeWords 29 = .ok (.ifCond .le 11, 3) := by decide +kernel
theorem dX4_placeWords_32 : decode cX4_placeWords 32 = .ok (.iload 5, 2) := by decide +kernel
theorem dX4_placeWords_34 : decode cX4_placeWords 34 = .ok (.iload 4, 2) := by decide +kernel
theorem dX4_placeWords_36 : decode cX4_placeWords 36 = .ok (.idiv, 1) := by decide +kernel
theorem dX4_placeWords_37 : decode cX4_placeWords 37 = .ok (.goto 4, 3) := by decide +kernel
theorem dX4_placeWords_40 : decode cX4_placeWords 40 = .ok (.iconst 0, 1) := by decide +kernel
theorem dX4_placeWords_41 : decode cX4_placeWords 41 = .ok (.istore 6, 2) := by decide +kernel
theorem dX4_placeWords_43 : decode cX4_placeWords 43 = .ok (.iload 4, 2) := by decide +kernel
theorem dX4_placeWords_45 : decode cX4_placeWords 45 = .ok (.ifCond .le 11, 3) := by decide +kernel
theorem dX4_placeWords_48 : decode cX4_placeWords 48 = .ok (.iload 5, 2) := by decide +kernel
theorem dX4_placeWords_50 : decode cX4_placeWords 50 = .ok (.iload 4, 2) := by decide +kernel
theorem dX4_placeWords_52 : decode cX4_placeWords 52 = .ok (.irem, 1) := by decide +kernel
theorem dX4_placeWords_53 : decode cX4_placeWords 53 = .ok (.goto 4, 3) := by decide +kernel
theorem dX4_placeWords_56 : decode cX4_placeWords 56 = .ok (.iconst 0, 1) := by decide +kernel
theorem dX4_placeWords_57 : decode cX4_placeWords 57 = .ok (.istore 7, 2) := by decide +kernel
theorem dX4_placeWords_59 : decode cX4_placeWords 59 = .ok (.iconst 0, 1) := by decide +kernel
theorem dX4_placeWords_60 : decode cX4_placeWords 60 = .ok (.istore 8, 2) := by decide +kernel
theorem dX4_placeWords_62 : decode cX4_placeWords 62 = .ok (.iload_n 2, 1) := by decide +kernel
theorem dX4_placeWords_63 : decode cX4_placeWords 63 = .ok (.istore 9, 2) := by decide +kernel
theorem dX4_placeWords_65 : decode cX4_placeWords 65 = .ok (.iload 9, 2) := by decide +kernel
theorem dX4_placeWords_67 : decode cX4_placeWords 67 = .ok (.iload_n 3, 1) := by decide +kernel
theorem dX4_placeWords_68 : decode cX4_placeWords 68 = .ok (.if_icmp .ge 92, 3) := by decide +kernel
theorem dX4_placeWords_71 : decode cX4_placeWords 71 = .ok (.iconst 0, 1) := by decide +kernel
theorem dX4_placeWords_72 : decode cX4_placeWords 72 = .ok (.istore 10, 2) := by decide +kernel
theorem dX4_placeWords_74 : decode cX4_placeWords 74 = .ok (.iload 9, 2) := by decide +kernel
theorem dX4_placeWords_76 : decode cX4_placeWords 76 = .ok (.iload_n 3, 1) := by decide +kernel
theorem dX4_placeWords_77 : decode cX4_placeWords 77 = .ok (.iconst 1, 1) := by decide +kernel
theorem dX4_placeWords_78 : decode cX4_placeWords 78 = .ok (.isub, 1) := by decide +kernel
theorem dX4_placeWords_79 : decode cX4_placeWords 79 = .ok (.if_icmp .ge 24, 3) := by decide +kernel
theorem dX4_placeWords_82 : decode cX4_placeWords 82 = .ok (.iconst 1, 1) := by decide +kernel
theorem dX4_placeWords_83 : decode cX4_placeWords 83 = .ok (.iload 6, 2) := by decide +kernel
theorem dX4_placeWords_85 : decode cX4_placeWords 85 = .ok (.iadd, 1) := by decide +kernel
theorem dX4_placeWords_86 : decode cX4_placeWords 86 = .ok (.iload 9, 2) := by decide +kernel
theorem dX4_placeWords_88 : decode cX4_placeWords 88 = .ok (.iload_n 2, 1) := by decide +kernel
theorem dX4_placeWords_89 : decode cX4_placeWords 89 = .ok (.isub, 1) := by decide +kernel
theorem dX4_placeWords_90 : decode cX4_placeWords 90 = .ok (.iload 7, 2) := by decide +kernel
theorem dX4_placeWords_92 : decode cX4_placeWords 92 = .ok (.if_icmp .ge 7, 3) := by decide +kernel
theorem dX4_placeWords_95 : decode cX4_placeWords 95 = .ok (.iconst 1, 1) := by decide +kernel
theorem dX4_placeWords_96 : decode cX4_placeWords 96 = .ok (.goto 4, 3) := by decide +kernel
theorem dX4_placeWords_99 : decode cX4_placeWords 99 = .ok (.iconst 0, 1) := by decide +kernel
theorem dX4_placeWords_100 : decode cX4_placeWords 100 = .ok (.iadd, 1) := by decide +kernel
theorem dX4_placeWords_101 : decode cX4_placeWords 101 = .ok (.istore 10, 2) := by decide +kernel
theorem dX4_placeWords_103 : decode cX4_placeWords 103 = .ok (.aload_n 0, 1) := by decide +kernel
theorem dX4_placeWords_104 : decode cX4_placeWords 104 = .ok (.getfield 14, 3) := by decide +kernel
theorem dX4_placeWords_107 : decode cX4_placeWords 107 = .ok (.iload 9, 2) := by decide +kernel
theorem dX4_placeWords_109 : decode cX4_placeWords 109 = .ok (.iload 8, 2) := by decide +kernel
theorem dX4_placeWords_111 : decode cX4_placeWords 111 = .ok (.invokevirtual 54, 3) := by decide +kernel
theorem dX4_placeWords_114 : decode cX4_placeWords 114 = .ok (.iload 8, 2) := by decide +kernel
theorem dX4_placeWords_116 : decode cX4_placeWords 116 = .ok (.aload_n 1, 1) := by decide +kernel
theorem dX4_placeWords_117 : decode cX4_placeWords 117 = .ok (.iload 9, 2) := by decide +kernel
theorem dX4_placeWords_119 : decode cX4_placeWords 119 = .ok (.invokevirtual 67, 3) := by decide +kernel
theorem dX4_placeWords_122 : decode cX4_placeWords 122 = .ok (.iadd, 1) := by decide +kernel
theorem dX4_placeWords_123 : decode cX4_placeWords 123 = .ok (.istore 8, 2) := by decide +kernel
theorem dX4_placeWords_125 : decode cX4_placeWords 125 = .ok (.aload_n 0, 1) := by decide +kernel
theorem dX4_placeWords_126 : decode cX4_placeWords 126 = .ok (.getfield 20, 3) := by decide +kernel
theorem dX4_placeWords_129 : decode cX4_placeWords 129 = .ok (.iload 9, 2) := by decide +kernel
theorem dX4_placeWords_131 : decode cX4_placeWords 131 = .ok (.iload 8, 2) := by decide +kernel
theorem dX4_placeWords_133 : decode cX4_placeWords 133 = .ok (.invokevirtual 54, 3) := by decide +kernel
theorem dX4_placeWords_136 : decode cX4_placeWords 136 = .ok (.aload_n 0, 1) := by decide +kernel
theorem dX4_placeWords_137 : decode cX4_placeWords 137 = .ok (.getfield 23, 3) := by decide +kernel
theorem dX4_placeWords_140 : decode cX4_placeWords 140 = .ok (.iload 9, 2) := by decide +kernel
theorem dX4_placeWords_142 : decode cX4_placeWords 142 = .ok (.iload 10, 2) := by decide +kernel
theorem dX4_placeWords_144 : decode cX4_placeWords 144 = .ok (.invokevirtual 54, 3) := by decide +kernel
theorem dX4_placeWords_147 : decode cX4_placeWords 147 = .ok (.iload 8, 2) := by decide +kernel
theorem dX4_placeWords_149 : decode cX4_placeWords 149 = .ok (.iload 10, 2) := by decide +kernel
theorem dX4_placeWords_151 : decode cX4_placeWords 151 = .ok (.iadd, 1) := by decide +kernel
theorem dX4_placeWords_152 : decode cX4_placeWords 152 = .ok (.istore 8, 2) := by decide +kernel
theorem dX4_placeWords_154 : decode cX4_placeWords 154 = .ok (.iinc 9 1, 3) := by decide +kernel
theorem dX4_placeWords_157 : decode cX4_placeWords 157 = .ok (.goto (-92), 3) := by decide +kernel
theorem dX4_placeWords_160 : decode cX4_placeWords 160 = .ok (.return_, 1) := by decide +kernel
set_option maxRecDepth 20000 in
theorem ggX4_reachAbove_X4_meet : GoodIn wsX4_reachAbove wsX4_meet := goodIn_r _ [10, 11, 12, 2, 3, 4, 5, 13, 14, 15, 16, 17, 18, 19, 20, 21, 22, 23, 24, 25, 26] (by decide +kernel) (by decide +kernel)
set_option maxRecDepth 20000 in
theorem gX4_reachAbove_X4_meet : GoodIn wsX4_reachAbove (wsV RX4 70 RX4 yX4_meet wsX4_meet) := goodIn_app (goodIn_of _ (by decide +kernel)) ggX4_reachAbove_X4_meet
set_option maxRecDepth 20000 in
theorem ggX4_reachAbove_X2_get : GoodIn wsX4_reachAbove wsX2_get := goodIn_r _ [20, 21, 26] (by decide +kernel) (by decide +kernel)
set_option maxRecDepth 20000 in
theorem gX4_reachAbove_X2_get : GoodIn wsX4_reachAbove (wsV RX4 29 RX2 yX2_get wsX2_get) := goodIn_app (goodIn_of _ (by decide +kernel)) ggX4_reachAbove_X2_get
theorem dX4_reachAbove_0 : decode cX4_reachAbove 0 = .ok (.iconst 0, 1) := by decide +kernel
theorem dX4_reachAbove_1 : decode cX4_reachAbove 1 = .ok (.istore 4, 2) := by decide +kernel
theorem dX4_reachAbove_3 : decode cX4_reachAbove 3 = .ok (.iload_n 2, 1) := by decide +kernel
theorem dX4_reachAbove_4 : decode cX4_reachAbove 4 = .ok (.istore 5, 2) := by decide +kernel
theorem dX4_reachAbove_6 : decode cX4_reachAbove 6 = .ok (.iload 5, 2) := by decide +kernel
theorem dX4_reachAbove_8 : decode cX4_reachAbove 8 = .ok (.iload_n 3, 1) := by decide +kernel
theorem dX4_reachAbove_9 : decode cX4_reachAbove 9 = .ok (.if_icmp .ge 35, 3) := by decide +kernel
theorem dX4_reachAbove_12 : decode cX4_reachAbove 12 = .ok (.aload_n 0, 1) := by decide +kernel
theorem dX4_reachAbove_13 : decode cX4_reachAbove 13 = .ok (.iload 5, 2) := by decide +kernel
theorem dX4_reachAbove_15 : decode cX4_reachAbove 15 = .ok (.iload_n 1, 1) := by decide +kernel
theorem dX4_reachAbove_16 : decode cX4_reachAbove 16 = .ok (.invokevirtual 70, 3) := by decide +kernel
theorem dX4_reachAbove_19 : decode cX4_reachAbove 19 = .ok (.ifCond .eq 19, 3) := by decide +kernel
theorem dX4_reachAbove_22 : decode cX4_reachAbove 22 = .ok (.iload 4, 2) := by decide +kernel
theorem dX4_reachAbove_24 : decode cX4_reachAbove 24 = .ok (.aload_n 0, 1) := by decide +kernel
theorem dX4_reachAbove_25 : decode cX4_reachAbove 25 = .ok (.getfield 26, 3) := by decide +kernel
theorem dX4_reachAbove_28 : decode cX4_reachAbove 28 = .ok (.iload 5, 2) := by decide +kernel
theorem dX4_reachAbove_30 : decode cX4_reachAbove 30 = .ok (.invokevirtual 29, 3) := by decide +kernel
theorem dX4_reachAbove_33 : decode cX4_reachAbove 33 = .ok (.invokestatic 58, 3) := by decide +kernel
theorem dX4_reachAbove_36 : decode cX4_reachAbove 36 = .ok (.istore 4, 2) := by decide +kernel
theorem dX4_reachAbove_38 : decode cX4_reachAbove 38 = .ok (.iinc 5 1, 3) := by decide +kernel
theorem dX4_reachAbove_41 : decode cX4_reachAbove 41 = .ok (.goto (-35), 3) := by decide +kernel
theorem dX4_reachAbove_44 : decode cX4_reachAbove 44 = .ok (.iload 4, 2) := by decide +kernel
theorem dX4_reachAbove_46 : decode cX4_reachAbove 46 = .ok (.ireturn, 1) := by decide +kernel
set_option maxRecDepth 20000 in
theorem ggX4_meet_X2_get : GoodIn wsX4_meet wsX2_get := goodIn_r _ [14, 15, 20] (by decide +kernel) (by decide +kernel)
set_option maxRecDepth 20000 in
theorem gX4_meet_X2_get : GoodIn wsX4_meet (wsV RX4 29 RX2 yX2_get wsX2_get) := goodIn_app (goodIn_of _ (by decide +kernel)) ggX4_meet_X2_get
theorem dX4_meet_0 : decode cX4_meet 0 = .ok (.aload_n 0, 1) := by decide +kernel
theorem dX4_meet_1 : decode cX4_meet 1 = .ok (.getfield 20, 3) := by decide +kernel
theorem dX4_meet_4 : decode cX4_meet 4 = .ok (.iload_n 1, 1) := by decide +kernel
theorem dX4_meet_5 : decode cX4_meet 5 = .ok (.invokevirtual 29, 3) := by decide +kernel
theorem dX4_meet_8 : decode cX4_meet 8 = .ok (.istore_n 3, 1) := by decide +kernel
theorem dX4_meet_9 : decode cX4_meet 9 = .ok (.aload_n 0, 1) := by decide +kernel
theorem dX4_meet_10 : decode cX4_meet 10 = .ok (.getfield 20, 3) := by decide +kernel
theorem dX4_meet_13 : decode cX4_meet 13 = .ok (.iload_n 2, 1) := by decide +kernel
theorem dX4_meet_14 : decode cX4_meet 14 = .ok (.invokevirtual 29, 3) := by decide +kernel
theorem dX4_meet_17 : decode cX4_meet 17 = .ok (.istore 4, 2) := by decide +kernel
theorem dX4_meet_19 : decode cX4_meet 19 = .ok (.iload_n 3, 1) := by decide +kernel
theorem dX4_meet_20 : decode cX4_meet 20 = .ok (.aload_n 0, 1) := by decide +kernel
theorem dX4_meet_21 : decode cX4_meet 21 = .ok (.getfield 23, 3) := by decide +kernel
theorem dX4_meet_24 : decode cX4_meet 24 = .ok (.iload_n 1, 1) := by decide +kernel
theorem dX4_meet_25 : decode cX4_meet 25 = .ok (.invokevirtual 29, 3) := by decide +kernel
theorem dX4_meet_28 : decode cX4_meet 28 = .ok (.iadd, 1) := by decide +kernel
theorem dX4_meet_29 : decode cX4_meet 29 = .ok (.istore 5, 2) := by decide +kernel
theorem dX4_meet_31 : decode cX4_meet 31 = .ok (.iload 4, 2) := by decide +kernel
theorem dX4_meet_33 : decode cX4_meet 33 = .ok (.aload_n 0, 1) := by decide +kernel
theorem dX4_meet_34 : decode cX4_meet 34 = .ok (.getfield 23, 3) := by decide +kernel
theorem dX4_meet_37 : decode cX4_meet 37 = .ok (.iload_n 2, 1) := by decide +kernel
theorem dX4_meet_38 : decode cX4_meet 38 = .ok (.invokevirtual 29, 3) := by decide +kernel
theorem dX4_meet_41 : decode cX4_meet 41 = .ok (.iadd, 1) := by decide +kernel
theorem dX4_meet_42 : decode cX4_meet 42 = .ok (.istore 6, 2) := by decide +kernel
theorem dX4_meet_44 : decode cX4_meet 44 = .ok (.iload_n 3, 1) := by decide +kernel
theorem dX4_meet_45 : decode cX4_meet 45 = .ok (.iload 4, 2) := by decide +kernel
theorem dX4_meet_47 : decode cX4_meet 47 = .ok (.invokestatic 58, 3) := by decide +kernel
theorem dX4_meet_50 : decode cX4_meet 50 = .ok (.iload 5, 2) := by decide +kernel
theorem dX4_meet_52 : decode cX4_meet 52 = .ok (.iload 6, 2) := by decide +kernel
theorem dX4_meet_54 : decode cX4_meet 54 = .ok (.invokestatic 74, 3) := by decide +kernel
theorem dX4_meet_57 : decode cX4_meet 57 = .ok (.if_icmp .ge 7, 3) := by decide +kernel
theorem dX4_meet_60 : decode cX4_meet 60 = .ok (.iconst 1, 1) := by decide +kernel
theorem dX4_meet_61 : decode cX4_meet 61 = .ok (.goto 4, 3) := by decide +kernel
theorem dX4_meet_64 : decode cX4_meet 64 = .ok (.iconst 0, 1) := by decide +kernel
theorem dX4_meet_65 : decode cX4_meet 65 = .ok (.ireturn, 1) := by decide +kernel
set_option maxRecDepth 20000 in
theorem ggX4_gapsThatMeet_X4_meet : GoodIn wsX4_gapsThatMeet wsX4_meet := goodIn_r _ [5, 6, 7, 8, 9, 10, 11, 12, 13, 14, 15, 16, 17, 18, 19, 20, 21, 22, 23, 24, 25] (by decide +kernel) (by decide +kernel)
set_option maxRecDepth 20000 in
theorem gX4_gapsThatMeet_X4_meet : GoodIn wsX4_gapsThatMeet (wsV RX4 70 RX4 yX4_meet wsX4_meet) := goodIn_app (goodIn_of _ (by decide +kernel)) ggX4_gapsThatMeet_X4_meet
theorem dX4_gapsThatMeet_0 : decode cX4_gapsThatMeet 0 = .ok (.iconst 0, 1) := by decide +kernel
theorem dX4_gapsThatMeet_1 : decode cX4_gapsThatMeet 1 = .ok (.istore 4, 2) := by decide +kernel
theorem dX4_gapsThatMeet_3 : decode cX4_gapsThatMeet 3 = .ok (.iload_n 2, 1) := by decide +kernel
theorem dX4_gapsThatMeet_4 : decode cX4_gapsThatMeet 4 = .ok (.istore 5, 2) := by decide +kernel
theorem dX4_gapsThatMeet_6 : decode cX4_gapsThatMeet 6 = .ok (.iload 5, 2) := by decide +kernel
theorem dX4_gapsThatMeet_8 : decode cX4_gapsThatMeet 8 = .ok (.iload_n 3, 1) := by decide +kernel
theorem dX4_gapsThatMeet_9 : decode cX4_gapsThatMeet 9 = .ok (.if_icmp .ge 22, 3) := by decide +kernel
theorem dX4_gapsThatMeet_12 : decode cX4_gapsThatMeet 12 = .ok (.aload_n 0, 1) := by decide +kernel
theorem dX4_gapsThatMeet_13 : decode cX4_gapsThatMeet 13 = .ok (.iload 5, 2) := by decide +kernel
theorem dX4_gapsThatMeet_15 : decode cX4_gapsThatMeet 15 = .ok (.iload_n 1, 1) := by decide +kernel
theorem dX4_gapsThatMeet_16 : decode cX4_gapsThatMeet 16 = .ok (.invokevirtual 70, 3) := by decide +kernel
theorem dX4_gapsThatMeet_19 : decode cX4_gapsThatMeet 19 = .ok (.ifCond .eq 6, 3) := by decide +kernel
theorem dX4_gapsThatMeet_22 : decode cX4_gapsThatMeet 22 = .ok (.iinc 4 1, 3) := by decide +kernel
theorem dX4_gapsThatMeet_25 : decode cX4_gapsThatMeet 25 = .ok (.iinc 5 1, 3) := by decide +kernel
theorem dX4_gapsThatMeet_28 : decode cX4_gapsThatMeet 28 = .ok (.goto (-22), 3) := by decide +kernel
theorem dX4_gapsThatMeet_31 : decode cX4_gapsThatMeet 31 = .ok (.iload 4, 2) := by decide +kernel
theorem dX4_gapsThatMeet_33 : decode cX4_gapsThatMeet 33 = .ok (.ireturn, 1) := by decide +kernel
set_option maxRecDepth 20000 in
theorem ggX4_greatestReach_X2_get : GoodIn wsX4_greatestReach wsX2_get := goodIn_r _ [10, 11, 16] (by decide +kernel) (by decide +kernel)
set_option maxRecDepth 20000 in
theorem gX4_greatestReach_X2_get : GoodIn wsX4_greatestReach (wsV RX4 29 RX2 yX2_get wsX2_get) := goodIn_app (goodIn_of _ (by decide +kernel)) ggX4_greatestReach_X2_get
theorem dX4_greatestReach_0 : decode cX4_greatestReach 0 = .ok (.iconst 0, 1) := by decide +kernel
theorem dX4_greatestReach_1 : decode cX4_greatestReach 1 = .ok (.istore_n 3, 1) := by decide +kernel
theorem dX4_greatestReach_2 : decode cX4_greatestReach 2 = .ok (.iload_n 1, 1) := by decide +kernel
theorem dX4_greatestReach_3 : decode cX4_greatestReach 3 = .ok (.istore 4, 2) := by decide +kernel
theorem dX4_greatestReach_5 : decode cX4_greatestReach 5 = .ok (.iload 4, 2) := by decide +kernel
theorem dX4_greatestReach_7 : decode cX4_greatestReach 7 = .ok (.iload_n 2, 1) := by decide +kernel
theorem dX4_greatestReach_8 : decode cX4_greatestReach 8 = .ok (.if_icmp .ge 23, 3) := by decide +kernel
theorem dX4_greatestReach_11 : decode cX4_greatestReach 11 = .ok (.iload_n 3, 1) := by decide +kernel
theorem dX4_greatestReach_12 : decode cX4_greatestReach 12 = .ok (.aload_n 0, 1) := by decide +kernel
theorem dX4_greatestReach_13 : decode cX4_greatestReach 13 = .ok (.getfield 26, 3) := by decide +kernel
theorem dX4_greatestReach_16 : decode cX4_greatestReach 16 = .ok (.iload 4, 2) := by decide +kernel
theorem dX4_greatestReach_18 : decode cX4_greatestReach 18 = .ok (.invokevirtual 29, 3) := by decide +kernel
theorem dX4_greatestReach_21 : decode cX4_greatestReach 21 = .ok (.invokestatic 58, 3) := by decide +kernel
theorem dX4_greatestReach_24 : decode cX4_greatestReach 24 = .ok (.istore_n 3, 1) := by decide +kernel
theorem dX4_greatestReach_25 : decode cX4_greatestReach 25 = .ok (.iinc 4 1, 3) := by decide +kernel
theorem dX4_greatestReach_28 : decode cX4_greatestReach 28 = .ok (.goto (-23), 3) := by decide +kernel
theorem dX4_greatestReach_31 : decode cX4_greatestReach 31 = .ok (.iload_n 3, 1) := by decide +kernel
theorem dX4_greatestReach_32 : decode cX4_greatestReach 32 = .ok (.ireturn, 1) := by decide +kernel
set_option maxRecDepth 20000 in
theorem ggX4_gapsOfGreatestReach_X4_greatestReach : GoodIn wsX4_gapsOfGreatestReach wsX4_greatestReach := goodIn_r _ [6, 1, 7, 8, 9, 10, 11, 12, 13, 14, 15, 16, 17, 18, 19, 20, 21] (by decide +kernel) (by decide +kernel)
set_option maxRecDepth 20000 in
theorem gX4_gapsOfGreatestReach_X4_greatestReach : GoodIn wsX4_gapsOfGreatestReach (wsV RX4 77 RX4 yX4_greatestReach wsX4_greatestReach) := goodIn_app (goodIn_of _ (by decide +kernel)) ggX4_gapsOfGreatestReach_X4_greatestReach
set_option maxRecDepth 20000 in
theorem ggX4_gapsOfGreatestReach_X2_get : GoodIn wsX4_gapsOfGreatestReach wsX2_get := goodIn_r _ [15, 16, 21] (by decide +kernel) (by decide +kernel)
set_option maxRecDepth 20000 in
theorem gX4_gapsOfGreatestReach_X2_get : GoodIn wsX4_gapsOfGreatestReach (wsV RX4 29 RX2 yX2_get wsX2_get) := goodIn_app (goodIn_of _ (by decide +kernel)) ggX4_gapsOfGreatestReach_X2_get
theorem dX4_gapsOfGreatestReach_0 : decode cX4_gapsOfGreatestReach 0 = .ok (.aload_n 0, 1) := by decide +kernel
theorem dX4_gapsOfGreatestReach_1 : decode cX4_gapsOfGreatestReach 1 = .ok (.iconst 0, 1) := by decide +kernel
theorem dX4_gapsOfGreatestReach_2 : decode cX4_gapsOfGreatestReach 2 = .ok (.iload_n 1, 1) := by decide +kernel
theorem dX4_gapsOfGreatestReach_3 : decode cX4_gapsOfGreatestReach 3 = .ok (.invokevirtual 77, 3) := by decide +kernel
theorem dX4_gapsOfGreatestReach_6 : decode cX4_gapsOfGreatestReach 6 = .ok (.istore_n 2, 1) := by decide +kernel
theorem dX4_gapsOfGreatestReach_7 : decode cX4_gapsOfGreatestReach 7 = .ok (.iconst 0, 1) := by decide +kernel
theorem dX4_gapsOfGreatestReach_8 : decode cX4_gapsOfGreatestReach 8 = .ok (.istore_n 3, 1) := by decide +kernel
theorem dX4_gapsOfGreatestReach_9 : decode cX4_gapsOfGreatestReach 9 = .ok (.iconst 0, 1) := by decide +kernel
theorem dX4_gapsOfGreatestReach_10 : decode cX4_gapsOfGreatestReach 10 = .ok (.istore 4, 2) := by decide +kernel
theorem dX4_gapsOfGreatestReach_12 : decode cX4_gapsOfGreatestReach 12 = .ok (.iload 4, 2) := by decide +kernel
theorem dX4_gapsOfGreatestReach_14 : decode cX4_gapsOfGreatestReach 14 = .ok (.iload_n 1, 1) := by decide +kernel
theorem dX4_gapsOfGreatestReach_15 : decode cX4_gapsOfGreatestReach 15 = .ok (.if_icmp .ge 29, 3) := by decide +kernel
theorem dX4_gapsOfGreatestReach_18 : decode cX4_gapsOfGreatestReach 18 = .ok (.iload_n 2, 1) := by decide +kernel
theorem dX4_gapsOfGreatestReach_19 : decode cX4_gapsOfGreatestReach 19 = .ok (.ifCond .le 19, 3) := by decide +kernel
theorem dX4_gapsOfGreatestReach_22 : decode cX4_gapsOfGreatestReach 22 = .ok (.aload_n 0, 1) := by decide +kernel
theorem dX4_gapsOfGreatestReach_23 : decode cX4_gapsOfGreatestReach 23 = .ok (.getfield 26, 3) := by decide +kernel
theorem dX4_gapsOfGreatestReach_26 : decode cX4_gapsOfGreatestReach 26 = .ok (.iload 4, 2) := by decide +kernel
theorem dX4_gapsOfGreatestReach_28 : decode cX4_gapsOfGreatestReach 28 = .ok (.invokevirtual 29, 3) := by decide +kernel
theorem dX4_gapsOfGreatestReach_31 : decode cX4_gapsOfGreatestReach 31 = .ok (.iload_n 2, 1) := by decide +kernel
theorem dX4_gapsOfGreatestReach_32 : decode cX4_gapsOfGreatestReach 32 = .ok (.if_icmp .ne 6, 3) := by decide +kernel
theorem dX4_gapsOfGreatestReach_35 : decode cX4_gapsOfGreatestReach 35 = .ok (.iinc 3 1, 3) := by decide +kernel
theorem dX4_gapsOfGreatestReach_38 : decode cX4_gapsOfGreatestReach 38 = .ok (.iinc 4 1, 3) := by decide +kernel
theorem dX4_gapsOfGreatestReach_41 : decode cX4_gapsOfGreatestReach 41 = .ok (.goto (-29), 3) := by decide +kernel
theorem dX4_gapsOfGreatestReach_44 : decode cX4_gapsOfGreatestReach 44 = .ok (.iload_n 3, 1) := by decide +kernel
theorem dX4_gapsOfGreatestReach_45 : decode cX4_gapsOfGreatestReach 45 = .ok (.ireturn, 1) := by decide +kernel
set_option maxRecDepth 20000 in
theorem ggX4_joints_X1_lineOf : GoodIn wsX4_joints wsX1_lineOf := goodIn_r _ [6, 7, 8, 9, 10, 11, 12, 13, 14, 38, 39, 40, 41, 42, 43, 44] (by decide +kernel) (by decide +kernel)
set_option maxRecDepth 20000 in
theorem gX4_joints_X1_lineOf : GoodIn wsX4_joints (wsV RX4 80 RX1 yX1_lineOf wsX1_lineOf) := goodIn_app (goodIn_of _ (by decide +kernel)) ggX4_joints_X1_lineOf
set_option maxRecDepth 20000 in
theorem ggX4_joints_X1_firstOf : GoodIn wsX4_joints wsX1_firstOf := goodIn_r _ [18, 7, 8, 9, 10, 11, 12, 13, 14, 38, 39, 40, 41, 42, 43, 44] (by decide +kernel) (by decide +kernel)
set_option maxRecDepth 20000 in
theorem gX4_joints_X1_firstOf : GoodIn wsX4_joints (wsV RX4 83 RX1 yX1_firstOf wsX1_firstOf) := goodIn_app (goodIn_of _ (by decide +kernel)) ggX4_joints_X1_firstOf
set_option maxRecDepth 20000 in
theorem ggX4_joints_X4_gapsThatMeet : GoodIn wsX4_joints wsX4_gapsThatMeet := goodIn_r _ [23, 24, 25, 26, 22, 27, 28, 29, 30, 31, 32, 33, 34, 35, 36, 37, 10, 11, 12, 13, 14, 45, 46, 47, 48, 44] (by decide +kernel) (by decide +kernel)
set_option maxRecDepth 20000 in
theorem gX4_joints_X4_gapsThatMeet : GoodIn wsX4_joints (wsV RX4 86 RX4 yX4_gapsThatMeet wsX4_gapsThatMeet) := goodIn_app (goodIn_of _ (by decide +kernel)) ggX4_joints_X4_gapsThatMeet
theorem dX4_joints_0 : decode cX4_joints 0 = .ok (.iconst 0, 1) := by decide +kernel
theorem dX4_joints_1 : decode cX4_joints 1 = .ok (.istore_n 2, 1) := by decide +kernel
theorem dX4_joints_2 : decode cX4_joints 2 = .ok (.iconst 0, 1) := by decide +kernel
theorem dX4_joints_3 : decode cX4_joints 3 = .ok (.istore_n 3, 1) := by decide +kernel
theorem dX4_joints_4 : decode cX4_joints 4 = .ok (.iload_n 3, 1) := by decide +kernel
theorem dX4_joints_5 : decode cX4_joints 5 = .ok (.aload_n 1, 1) := by decide +kernel
theorem dX4_joints_6 : decode cX4_joints 6 = .ok (.getfield 33, 3) := by decide +kernel
theorem dX4_joints_9 : decode cX4_joints 9 = .ok (.if_icmp .ge 42, 3) := by decide +kernel
theorem dX4_joints_12 : decode cX4_joints 12 = .ok (.aload_n 1, 1) := by decide +kernel
theorem dX4_joints_13 : decode cX4_joints 13 = .ok (.iload_n 3, 1) := by decide +kernel
theorem dX4_joints_14 : decode cX4_joints 14 = .ok (.invokevirtual 80, 3) := by decide +kernel
theorem dX4_joints_17 : decode cX4_joints 17 = .ok (.istore 4, 2) := by decide +kernel
theorem dX4_joints_19 : decode cX4_joints 19 = .ok (.aload_n 0, 1) := by decide +kernel
theorem dX4_joints_20 : decode cX4_joints 20 = .ok (.iload_n 3, 1) := by decide +kernel
theorem dX4_joints_21 : decode cX4_joints 21 = .ok (.aload_n 1, 1) := by decide +kernel
theorem dX4_joints_22 : decode cX4_joints 22 = .ok (.iload 4, 2) := by decide +kernel
theorem dX4_joints_24 : decode cX4_joints 24 = .ok (.iconst 1, 1) := by decide +kernel
theorem dX4_joints_25 : decode cX4_joints 25 = .ok (.isub, 1) := by decide +kernel
theorem dX4_joints_26 : decode cX4_joints 26 = .ok (.invokevirtual 83, 3) := by decide +kernel
theorem dX4_joints_29 : decode cX4_joints 29 = .ok (.aload_n 1, 1) := by decide +kernel
theorem dX4_joints_30 : decode cX4_joints 30 = .ok (.iload 4, 2) := by decide +kernel
theorem dX4_joints_32 : decode cX4_joints 32 = .ok (.invokevirtual 83, 3) := by decide +kernel
theorem dX4_joints_35 : decode cX4_joints 35 = .ok (.invokevirtual 86, 3) := by decide +kernel
theorem dX4_joints_38 : decode cX4_joints 38 = .ok (.iconst 2, 1) := by decide +kernel
theorem dX4_joints_39 : decode cX4_joints 39 = .ok (.if_icmp .lt 6, 3) := by decide +kernel
theorem dX4_joints_42 : decode cX4_joints 42 = .ok (.iinc 2 1, 3) := by decide +kernel
theorem dX4_joints_45 : decode cX4_joints 45 = .ok (.iinc 3 1, 3) := by decide +kernel
theorem dX4_joints_48 : decode cX4_joints 48 = .ok (.goto (-44), 3) := by decide +kernel
theorem dX4_joints_51 : decode cX4_joints 51 = .ok (.iload_n 2, 1) := by decide +kernel
theorem dX4_joints_52 : decode cX4_joints 52 = .ok (.ireturn, 1) := by decide +kernel
set_option maxRecDepth 20000 in
theorem ggX5_init_X2_init : GoodIn wsX5_init wsX2_init := goodIn_r _ [11, 12, 2, 3, 13, 14, 15, 16, 17, 18, 21] (by decide +kernel) (by decide +kernel)
set_option maxRecDepth 20000 in
theorem gX5_init_X2_init : GoodIn wsX5_init (wsX2_init) := ggX5_init_X2_init
theorem dX5_init_0 : decode cX5_init 0 = .ok (.aload_n 0, 1) := by decide +kernel
theorem dX5_init_1 : decode cX5_init 1 = .ok (.invokespecial 3, 3) := by decide +kernel
theorem dX5_init_4 : decode cX5_init 4 = .ok (.aload_n 0, 1) := by decide +kernel
theorem dX5_init_5 : decode cX5_init 5 = .ok (.iconst 0, 1) := by decide +kernel
theorem dX5_init_6 : decode cX5_init 6 = .ok (.putfield 9, 3) := by decide +kernel
theorem dX5_init_9 : decode cX5_init 9 = .ok (.aload_n 0, 1) := by decide +kernel
theorem dX5_init_10 : decode cX5_init 10 = .ok (.new 15, 3) := by decide +kernel
theorem dX5_init_13 : decode cX5_init 13 = .ok (.dup, 1) := by decide +kernel
theorem dX5_init_14 : decode cX5_init 14 = .ok (.bipush 100, 2) := by decide +kernel
theorem dX5_init_16 : decode cX5_init 16 = .ok (.invokespecial 17, 3) := by decide +kernel
theorem dX5_init_19 : decode cX5_init 19 = .ok (.putfield 20, 3) := by decide +kernel
theorem dX5_init_22 : decode cX5_init 22 = .ok (.return_, 1) := by decide +kernel
set_option maxRecDepth 20000 in
theorem ggX6_init_X1_init : GoodIn wsX6_init wsX1_init := goodIn_r _ [25, 26, 2, 3, 27, 28, 29, 30, 31, 32, 33, 34, 35, 36, 37, 38, 39, 40, 41, 42, 43, 44, 45, 87, 88, 89, 90, 91, 92, 116] (by decide +kernel) (by decide +kernel)
set_option maxRecDepth 20000 in
theorem gX6_init_X1_init_n9 : GoodIn wsX6_init (wsX1_init) := ggX6_init_X1_init
set_option maxRecDepth 20000 in
theorem ggX6_init_X0_init : GoodIn wsX6_init wsX0_init := goodIn_r _ [48, 49, 2, 3, 50, 51, 52, 5, 6, 24, 25, 26, 27, 28, 29, 30, 31, 32, 33, 34, 35, 36, 37, 38, 39, 40, 41, 42, 43, 44, 45, 98, 99, 87, 88, 89, 90, 91, 92, 116] (by decide +kernel) (by decide +kernel)
set_option maxRecDepth 20000 in
theorem gX6_init_X0_init : GoodIn wsX6_init (wsX0_init) := ggX6_init_X0_init
set_option maxRecDepth 20000 in
theorem ggX6_init_X4_init : GoodIn wsX6_init wsX4_init := goodIn_r _ [54, 55, 2, 3, 56, 31, 32, 57, 58, 59, 60, 61, 37, 38, 39, 40, 41, 42, 43, 44, 45, 116, 100, 101, 102, 103] (by decide +kernel) (by decide +kernel)
set_option maxRecDepth 20000 in
theorem gX6_init_X4_init_n25 : GoodIn wsX6_init (wsX4_init) := ggX6_init_X4_init
set_option maxRecDepth 20000 in
theorem ggX6_init_X3_init : GoodIn wsX6_init wsX3_init := goodIn_r _ [63, 64, 2, 3, 65, 66, 67, 68, 69, 70, 5, 6, 71, 72, 13, 14, 73, 74, 31, 32, 75, 76, 77, 78, 24, 25, 26, 27, 28, 29, 30, 33, 34, 35, 36, 37, 38, 39, 40, 41, 42, 43, 44, 45, 53, 54, 55, 56, 57, 58, 59, 60, 61, 79, 104, 105, 106, 107, 108, 109, 110, 111, 112, 113, 87, 88, 89, 90, 91, 92, 100, 101, 102, 103, 116] (by decide +kernel) (by decide +kernel)
set_option maxRecDepth 20000 in
theorem gX6_init_X3_init_n32 : GoodIn wsX6_init (wsX3_init) := ggX6_init_X3_init
set_option maxRecDepth 20000 in
theorem ggX6_init_X5_init : GoodIn wsX6_init wsX5_init := goodIn_r _ [81, 82, 2, 3, 83, 84, 31, 32, 85, 86, 37, 38, 39, 40, 41, 42, 43, 44, 45, 114, 115, 116] (by decide +kernel) (by decide +kernel)
set_option maxRecDepth 20000 in
theorem gX6_init_X5_init_n39 : GoodIn wsX6_init (wsX5_init) := ggX6_init_X5_init
theorem dX6_init_0 : decode cX6_init 0 = .ok (.aload_n 0, 1) := by decide +kernel
theorem dX6_init_1 : decode cX6_init 1 = .ok (.invokespecial 1, 3) := by decide +kernel
theorem dX6_init_4 : decode cX6_init 4 = .ok (.aload_n 0, 1) := by decide +kernel
theorem dX6_init_5 : decode cX6_init 5 = .ok (.new 7, 3) := by decide +kernel
theorem dX6_init_8 : decode cX6_init 8 = .ok (.dup, 1) := by decide +kernel
theorem dX6_init_9 : decode cX6_init 9 = .ok (.invokespecial 9, 3) := by decide +kernel
theorem dX6_init_12 : decode cX6_init 12 = .ok (.putfield 10, 3) := by decide +kernel
theorem dX6_init_15 : decode cX6_init 15 = .ok (.aload_n 0, 1) := by decide +kernel
theorem dX6_init_16 : decode cX6_init 16 = .ok (.new 16, 3) := by decide +kernel
theorem dX6_init_19 : decode cX6_init 19 = .ok (.dup, 1) := by decide +kernel
theorem dX6_init_20 : decode cX6_init 20 = .ok (.invokespecial 18, 3) := by decide +kernel
theorem dX6_init_23 : decode cX6_init 23 = .ok (.putfield 19, 3) := by decide +kernel
theorem dX6_init_26 : decode cX6_init 26 = .ok (.aload_n 0, 1) := by decide +kernel
theorem dX6_init_27 : decode cX6_init 27 = .ok (.new 23, 3) := by decide +kernel
theorem dX6_init_30 : decode cX6_init 30 = .ok (.dup, 1) := by decide +kernel
theorem dX6_init_31 : decode cX6_init 31 = .ok (.invokespecial 25, 3) := by decide +kernel
theorem dX6_init_34 : decode cX6_init 34 = .ok (.putfield 26, 3) := by decide +kernel
theorem dX6_init_37 : decode cX6_init 37 = .ok (.aload_n 0, 1) := by decide +kernel
theorem dX6_init_38 : decode cX6_init 38 = .ok (.new 30, 3) := by decide +kernel
theorem dX6_init_41 : decode cX6_init 41 = .ok (.dup, 1) := by decide +kernel
theorem dX6_init_42 : decode cX6_init 42 = .ok (.invokespecial 32, 3) := by decide +kernel
theorem dX6_init_45 : decode cX6_init 45 = .ok (.putfield 33, 3) := by decide +kernel
theorem dX6_init_48 : decode cX6_init 48 = .ok (.aload_n 0, 1) := by decide +kernel
theorem dX6_init_49 : decode cX6_init 49 = .ok (.new 37, 3) := by decide +kernel
theorem dX6_init_52 : decode cX6_init 52 = .ok (.dup, 1) := by decide +kernel
theorem dX6_init_53 : decode cX6_init 53 = .ok (.invokespecial 39, 3) := by decide +kernel
theorem dX6_init_56 : decode cX6_init 56 = .ok (.putfield 40, 3) := by decide +kernel
theorem dX6_init_59 : decode cX6_init 59 = .ok (.return_, 1) := by decide +kernel
set_option maxRecDepth 20000 in
theorem ggX6_setWidth_X6_isWithin : GoodIn wsX6_setWidth wsX6_isWithin := goodIn_r _ [6] (by decide +kernel) (by decide +kernel)
set_option maxRecDepth 20000 in
theorem gX6_setWidth_X6_isWithin : GoodIn wsX6_setWidth (va_wsS RX6 44 yX6_isWithin wsX6_isWithin) := goodIn_app (goodIn_of _ (by decide +kernel)) ggX6_setWidth_X6_isWithin
set_option maxRecDepth 20000 in
theorem ggX6_setWidth_X1_frozenLines : GoodIn wsX6_setWidth wsX1_frozenLines := goodIn_r _ [11, 12, 13, 14, 15, 16, 17, 18, 19, 97, 98, 99, 100, 101, 102, 103] (by decide +kernel) (by decide +kernel)
set_option maxRecDepth 20000 in
theorem gX6_setWidth_X1_frozenLines : GoodIn wsX6_setWidth (wsV RX6 48 RX1 yX1_frozenLines wsX1_frozenLines) := goodIn_app (goodIn_of _ (by decide +kernel)) ggX6_setWidth_X1_frozenLines
set_option maxRecDepth 20000 in
theorem ggX6_setWidth_X6_beginChange : GoodIn wsX6_setWidth wsX6_beginChange := goodIn_r _ [23, 24, 1, 25, 26, 27, 28, 29, 30, 31, 32, 33, 34, 35, 36, 37, 38, 39, 40, 41, 42, 43, 10, 44, 45, 46, 12, 47, 48, 13, 49, 50, 51, 17, 52, 19, 53, 15, 16, 18, 54, 55, 56, 57, 58, 59, 92, 93, 94, 95, 96, 104, 105, 97, 98, 99, 100, 101, 102, 103, 106, 107, 108, 109, 110, 111, 112, 113, 114, 115] (by decide +kernel) (by decide +kernel)
set_option maxRecDepth 20000 in
theorem gX6_setWidth_X6_beginChange : GoodIn wsX6_setWidth (wsV RX6 52 RX6 yX6_beginChange wsX6_beginChange) := goodIn_app (goodIn_of _ (by decide +kernel)) ggX6_setWidth_X6_beginChange
set_option maxRecDepth 20000 in
theorem ggX6_setWidth_X1_fill : GoodIn wsX6_setWidth wsX1_fill := goodIn_r _ [63, 12, 64, 65, 66, 10, 67, 48, 68, 69, 70, 17, 71, 19, 72, 73, 74, 75, 76, 77, 78, 79, 45, 47, 14, 15, 16, 18, 80, 81, 82, 83, 84, 85, 86, 87, 97, 98, 99, 100, 101, 102, 103] (by decide +kernel) (by decide +kernel)
set_option maxRecDepth 20000 in
theorem gX6_setWidth_X1_fill : GoodIn wsX6_setWidth (wsV RX6 59 RX1 yX1_fill wsX1_fill) := goodIn_app (goodIn_of _ (by decide +kernel)) ggX6_setWidth_X1_fill
set_option maxRecDepth 20000 in
theorem ggX6_setWidth_X1_lines : GoodIn wsX6_setWidth wsX1_lines := goodIn_r _ [91, 12, 48, 14, 15, 16, 17, 18, 19, 97, 98, 99, 100, 101, 102, 103] (by decide +kernel) (by decide +kernel)
set_option maxRecDepth 20000 in
theorem gX6_setWidth_X1_lines : GoodIn wsX6_setWidth (wsV RX6 62 RX1 yX1_lines wsX1_lines) := goodIn_app (goodIn_of _ (by decide +kernel)) ggX6_setWidth_X1_lines
theorem dX6_setWidth_0 : decode cX6_setWidth 0 = .ok (.iload_n 1, 1) := by decide +kernel
theorem dX6_setWidth_1 : decode cX6_setWidth 1 = .ok (.bipush 16, 2) := by decide +kernel
theorem dX6_setWidth_3 : decode cX6_setWidth 3 = .ok (.bipush 40, 2) := by decide +kernel
theorem dX6_setWidth_5 : decode cX6_setWidth 5 = .ok (.invokestatic 44, 3) := by decide +kernel
theorem dX6_setWidth_8 : decode cX6_setWidth 8 = .ok (.ifCond .ne 5, 3) := by decide +kernel
theorem dX6_setWidth_11 : decode cX6_setWidth 11 = .ok (.iconst (-1), 1) := by decide +kernel
theorem dX6_setWidth_12 : decode cX6_setWidth 12 = .ok (.ireturn, 1) := by decide +kernel
theorem dX6_setWidth_13 : decode cX6_setWidth 13 = .ok (.aload_n 0, 1) := by decide +kernel
theorem dX6_setWidth_14 : decode cX6_setWidth 14 = .ok (.getfield 10, 3) := by decide +kernel
theorem dX6_setWidth_17 : decode cX6_setWidth 17 = .ok (.invokevirtual 48, 3) := by decide +kernel
theorem dX6_setWidth_20 : decode cX6_setWidth 20 = .ok (.ifCond .le 6, 3) := by decide +kernel
theorem dX6_setWidth_23 : decode cX6_setWidth 23 = .ok (.bipush (-2), 2) := by decide +kernel
theorem dX6_setWidth_25 : decode cX6_setWidth 25 = .ok (.ireturn, 1) := by decide +kernel
theorem dX6_setWidth_26 : decode cX6_setWidth 26 = .ok (.aload_n 0, 1) := by decide +kernel
theorem dX6_setWidth_27 : decode cX6_setWidth 27 = .ok (.invokevirtual 52, 3) := by decide +kernel
theorem dX6_setWidth_30 : decode cX6_setWidth 30 = .ok (.aload_n 0, 1) := by decide +kernel
theorem dX6_setWidth_31 : decode cX6_setWidth 31 = .ok (.getfield 10, 3) := by decide +kernel
theorem dX6_setWidth_34 : decode cX6_setWidth 34 = .ok (.iload_n 1, 1) := by decide +kernel
theorem dX6_setWidth_35 : decode cX6_setWidth 35 = .ok (.putfield 55, 3) := by decide +kernel
theorem dX6_setWidth_38 : decode cX6_setWidth 38 = .ok (.aload_n 0, 1) := by decide +kernel
theorem dX6_setWidth_39 : decode cX6_setWidth 39 = .ok (.getfield 10, 3) := by decide +kernel
theorem dX6_setWidth_42 : decode cX6_setWidth 42 = .ok (.invokevirtual 59, 3) := by decide +kernel
theorem dX6_setWidth_45 : decode cX6_setWidth 45 = .ok (.aload_n 0, 1) := by decide +kernel
theorem dX6_setWidth_46 : decode cX6_setWidth 46 = .ok (.getfield 10, 3) := by decide +kernel
theorem dX6_setWidth_49 : decode cX6_setWidth 49 = .ok (.invokevirtual 62, 3) := by decide +kernel
theorem dX6_setWidth_52 : decode cX6_setWidth 52 = .ok (.ireturn, 1) := by decide +kernel
set_option maxRecDepth 20000 in
theorem ggX6_setSlack_X6_isWithin : GoodIn wsX6_setSlack wsX6_isWithin := goodIn_r _ [6] (by decide +kernel) (by decide +kernel)
set_option maxRecDepth 20000 in
theorem gX6_setSlack_X6_isWithin : GoodIn wsX6_setSlack (va_wsS RX6 44 yX6_isWithin wsX6_isWithin) := goodIn_app (goodIn_of _ (by decide +kernel)) ggX6_setSlack_X6_isWithin
set_option maxRecDepth 20000 in
theorem ggX6_setSlack_X6_beginChange : GoodIn wsX6_setSlack wsX6_beginChange := goodIn_r _ [10, 11, 1, 12, 13, 14, 15, 16, 17, 18, 19, 20, 21, 22, 23, 24, 25, 26, 27, 28, 29, 30, 31, 32, 33, 34, 35, 36, 37, 38, 39, 40, 41, 42, 43, 44, 45, 46, 47, 48, 49, 50, 51, 52, 53, 54, 55, 56, 57, 58, 59, 66, 67, 60, 61, 62, 63, 64, 65, 68, 69, 70, 71, 72, 73, 74, 75, 76, 77, 78] (by decide +kernel) (by decide +kernel)
set_option maxRecDepth 20000 in
theorem gX6_setSlack_X6_beginChange : GoodIn wsX6_setSlack (wsV RX6 52 RX6 yX6_beginChange wsX6_beginChange) := goodIn_app (goodIn_of _ (by decide +kernel)) ggX6_setSlack_X6_beginChange
theorem dX6_setSlack_0 : decode cX6_setSlack 0 = .ok (.iload_n 1, 1) := by decide +kernel
theorem dX6_setSlack_1 : decode cX6_setSlack 1 = .ok (.iconst 0, 1) := by decide +kernel
theorem dX6_setSlack_2 : decode cX6_setSlack 2 = .ok (.bipush 8, 2) := by decide +kernel
theorem dX6_setSlack_4 : decode cX6_setSlack 4 = .ok (.invokestatic 44, 3) := by decide +kernel
theorem dX6_setSlack_7 : decode cX6_setSlack 7 = .ok (.ifCond .ne 5, 3) := by decide +kernel
theorem dX6_setSlack_10 : decode cX6_setSlack 10 = .ok (.iconst (-1), 1) := by decide +kernel
theorem dX6_setSlack_11 : decode cX6_setSlack 11 = .ok (.ireturn, 1) := by decide +kernel
theorem dX6_setSlack_12 : decode cX6_setSlack 12 = .ok (.aload_n 0, 1) := by decide +kernel
theorem dX6_setSlack_13 : decode cX6_setSlack 13 = .ok (.invokevirtual 52, 3) := by decide +kernel
theorem dX6_setSlack_16 : decode cX6_setSlack 16 = .ok (.aload_n 0, 1) := by decide +kernel
theorem dX6_setSlack_17 : decode cX6_setSlack 17 = .ok (.getfield 10, 3) := by decide +kernel
theorem dX6_setSlack_20 : decode cX6_setSlack 20 = .ok (.getfield 65, 3) := by decide +kernel
theorem dX6_setSlack_23 : decode cX6_setSlack 23 = .ok (.istore_n 2, 1) := by decide +kernel
theorem dX6_setSlack_24 : decode cX6_setSlack 24 = .ok (.aload_n 0, 1) := by decide +kernel
theorem dX6_setSlack_25 : decode cX6_setSlack 25 = .ok (.getfield 10, 3) := by decide +kernel
theorem dX6_setSlack_28 : decode cX6_setSlack 28 = .ok (.iload_n 1, 1) := by decide +kernel
theorem dX6_setSlack_29 : decode cX6_setSlack 29 = .ok (.putfield 65, 3) := by decide +kernel
theorem dX6_setSlack_32 : decode cX6_setSlack 32 = .ok (.iload_n 2, 1) := by decide +kernel
theorem dX6_setSlack_33 : decode cX6_setSlack 33 = .ok (.ireturn, 1) := by decide +kernel
set_option maxRecDepth 20000 in
theorem ggX6_add_X6_isWithin : GoodIn wsX6_add wsX6_isWithin := goodIn_r _ [6] (by decide +kernel) (by decide +kernel)
set_option maxRecDepth 20000 in
theorem gX6_add_X6_isWithin : GoodIn wsX6_add (va_wsS RX6 44 yX6_isWithin wsX6_isWithin) := goodIn_app (goodIn_of _ (by decide +kernel)) ggX6_add_X6_isWithin
set_option maxRecDepth 20000 in
theorem ggX6_add_X6_beginChange : GoodIn wsX6_add wsX6_beginChange := goodIn_r _ [10, 11, 1, 12, 13, 14, 15, 16, 17, 18, 19, 20, 21, 22, 23, 24, 25, 26, 27, 28, 29, 30, 31, 32, 33, 34, 35, 36, 37, 38, 39, 40, 41, 42, 43, 44, 45, 46, 47, 48, 49, 50, 51, 52, 53, 54, 88, 89, 90, 91, 92, 99, 100, 93, 94, 95, 96, 97, 98, 101, 102, 103, 104, 105, 106, 107, 108, 109, 110, 111] (by decide +kernel) (by decide +kernel)
set_option maxRecDepth 20000 in
theorem gX6_add_X6_beginChange : GoodIn wsX6_add (wsV RX6 52 RX6 yX6_beginChange wsX6_beginChange) := goodIn_app (goodIn_of _ (by decide +kernel)) ggX6_add_X6_beginChange
set_option maxRecDepth 20000 in
theorem ggX6_add_X1_lines : GoodIn wsX6_add wsX1_lines := goodIn_r _ [58, 35, 37, 59, 46, 47, 42, 48, 44, 93, 94, 95, 96, 97, 98, 101] (by decide +kernel) (by decide +kernel)
set_option maxRecDepth 20000 in
theorem gX6_add_X1_lines : GoodIn wsX6_add (wsV RX6 62 RX1 yX1_lines wsX1_lines) := goodIn_app (goodIn_of _ (by decide +kernel)) ggX6_add_X1_lines
set_option maxRecDepth 20000 in
theorem ggX6_add_X1_firstOf : GoodIn wsX6_add wsX1_firstOf := goodIn_r _ [63, 35, 37, 59, 46, 47, 42, 48, 44, 93, 94, 95, 96, 97, 98, 101] (by decide +kernel) (by decide +kernel)
set_option maxRecDepth 20000 in
theorem gX6_add_X1_firstOf : GoodIn wsX6_add (wsV RX6 71 RX1 yX1_firstOf wsX1_firstOf) := goodIn_app (goodIn_of _ (by decide +kernel)) ggX6_add_X1_firstOf
set_option maxRecDepth 20000 in
theorem ggX6_add_X1_append : GoodIn wsX6_add wsX1_append := goodIn_r _ [67, 36, 35, 68, 69, 70, 42, 71, 44, 93, 94, 95, 96, 97, 98, 101] (by decide +kernel) (by decide +kernel)
set_option maxRecDepth 20000 in
theorem gX6_add_X1_append : GoodIn wsX6_add (wsV RX6 75 RX1 yX1_append wsX1_append) := goodIn_app (goodIn_of _ (by decide +kernel)) ggX6_add_X1_append
set_option maxRecDepth 20000 in
theorem ggX6_add_X1_isFrozen : GoodIn wsX6_add wsX1_isFrozen := goodIn_r _ [75, 38, 59, 46, 47, 42, 48, 44, 93, 94, 95, 96, 97, 98, 101] (by decide +kernel) (by decide +kernel)
set_option maxRecDepth 20000 in
theorem gX6_add_X1_isFrozen : GoodIn wsX6_add (wsV RX6 79 RX1 yX1_isFrozen wsX1_isFrozen) := goodIn_app (goodIn_of _ (by decide +kernel)) ggX6_add_X1_isFrozen
set_option maxRecDepth 20000 in
theorem ggX6_add_X1_fits : GoodIn wsX6_add wsX1_fits := goodIn_r _ [79, 80, 81, 82, 31, 83, 33, 36, 59, 46, 47, 42, 48, 44, 93, 94, 95, 96, 97, 98, 101] (by decide +kernel) (by decide +kernel)
set_option maxRecDepth 20000 in
theorem gX6_add_X1_fits : GoodIn wsX6_add (wsV RX6 83 RX1 yX1_fits wsX1_fits) := goodIn_app (goodIn_of _ (by decide +kernel)) ggX6_add_X1_fits
set_option maxRecDepth 20000 in
theorem ggX6_add_X1_begin : GoodIn wsX6_add wsX1_begin := goodIn_r _ [87, 35, 37, 68, 69, 70, 42, 71, 44, 93, 94, 95, 96, 97, 98, 101] (by decide +kernel) (by decide +kernel)
set_option maxRecDepth 20000 in
theorem gX6_add_X1_begin : GoodIn wsX6_add (wsV RX6 87 RX1 yX1_begin wsX1_begin) := goodIn_app (goodIn_of _ (by decide +kernel)) ggX6_add_X1_begin
theorem dX6_add_0 : decode cX6_add 0 = .ok (.iload_n 1, 1) := by decide +kernel
theorem dX6_add_1 : decode cX6_add 1 = .ok (.iconst 1, 1) := by decide +kernel
theorem dX6_add_2 : decode cX6_add 2 = .ok (.bipush 8, 2) := by decide +kernel
theorem dX6_add_4 : decode cX6_add 4 = .ok (.invokestatic 44, 3) := by decide +kernel
theorem dX6_add_7 : decode cX6_add 7 = .ok (.ifCond .ne 5, 3) := by decide +kernel
theorem dX6_add_10 : decode cX6_add 10 = .ok (.iconst (-1), 1) := by decide +kernel
theorem dX6_add_11 : decode cX6_add 11 = .ok (.ireturn, 1) := by decide +kernel
