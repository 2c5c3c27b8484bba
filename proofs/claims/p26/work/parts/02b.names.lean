set_option maxRecDepth 20000 in
theorem ggX0_init_X1_init : GoodIn wsX0_init wsX1_init := goodIn_r _ [10, 11, 2, 3, 12, 13, 14, 15, 16, 17, 18, 19, 20, 21, 22, 23, 24, 25, 26, 27, 28, 29, 30, 33, 34, 35, 36, 37, 38, 39] (by decide +kernel) (by decide +kernel)
set_option maxRecDepth 20000 in
theorem gX0_init_X1_init_n21 : GoodIn wsX0_init (wsX1_init) := ggX0_init_X1_init
theorem dX0_init_0 : decode cX0_init 0 = .ok (.aload_n 0, 1) := by decide +kernel
theorem dX0_init_1 : decode cX0_init 1 = .ok (.invokespecial 3, 3) := by decide +kernel
theorem dX0_init_4 : decode cX0_init 4 = .ok (.aload_n 0, 1) := by decide +kernel
theorem dX0_init_5 : decode cX0_init 5 = .ok (.iconst 0, 1) := by decide +kernel
theorem dX0_init_6 : decode cX0_init 6 = .ok (.putfield 9, 3) := by decide +kernel
theorem dX0_init_9 : decode cX0_init 9 = .ok (.aload_n 0, 1) := by decide +kernel
theorem dX0_init_10 : decode cX0_init 10 = .ok (.iconst 5, 1) := by decide +kernel
theorem dX0_init_11 : decode cX0_init 11 = .ok (.anewarray 15, 3) := by decide +kernel
theorem dX0_init_14 : decode cX0_init 14 = .ok (.putfield 17, 3) := by decide +kernel
theorem dX0_init_17 : decode cX0_init 17 = .ok (.iconst 0, 1) := by decide +kernel
theorem dX0_init_18 : decode cX0_init 18 = .ok (.istore_n 1, 1) := by decide +kernel
theorem dX0_init_19 : decode cX0_init 19 = .ok (.iload_n 1, 1) := by decide +kernel
theorem dX0_init_20 : decode cX0_init 20 = .ok (.aload_n 0, 1) := by decide +kernel
theorem dX0_init_21 : decode cX0_init 21 = .ok (.getfield 17, 3) := by decide +kernel
theorem dX0_init_24 : decode cX0_init 24 = .ok (.arraylength, 1) := by decide +kernel
theorem dX0_init_25 : decode cX0_init 25 = .ok (.if_icmp .ge 22, 3) := by decide +kernel
theorem dX0_init_28 : decode cX0_init 28 = .ok (.aload_n 0, 1) := by decide +kernel
theorem dX0_init_29 : decode cX0_init 29 = .ok (.getfield 17, 3) := by decide +kernel
theorem dX0_init_32 : decode cX0_init 32 = .ok (.iload_n 1, 1) := by decide +kernel
theorem dX0_init_33 : decode cX0_init 33 = .ok (.new 15, 3) := by decide +kernel
theorem dX0_init_36 : decode cX0_init 36 = .ok (.dup, 1) := by decide +kernel
theorem dX0_init_37 : decode cX0_init 37 = .ok (.invokespecial 21, 3) := by decide +kernel
theorem dX0_init_40 : decode cX0_init 40 = .ok (.aastore, 1) := by decide +kernel
theorem dX0_init_41 : decode cX0_init 41 = .ok (.iinc 1 1, 3) := by decide +kernel
theorem dX0_init_44 : decode cX0_init 44 = .ok (.goto (-25), 3) := by decide +kernel
theorem dX0_init_47 : decode cX0_init 47 = .ok (.return_, 1) := by decide +kernel
set_option maxRecDepth 20000 in
theorem ggX0_keep_X0_dropOldest : GoodIn wsX0_keep wsX0_dropOldest := goodIn_r _ [7, 2, 1, 8, 9, 10, 6, 11, 33, 34] (by decide +kernel) (by decide +kernel)
set_option maxRecDepth 20000 in
theorem gX0_keep_X0_dropOldest : GoodIn wsX0_keep (wsV RX0 22 RX0 yX0_dropOldest wsX0_dropOldest) := goodIn_app (goodIn_of _ (by decide +kernel)) ggX0_keep_X0_dropOldest
set_option maxRecDepth 20000 in
theorem ggX0_keep_X0_pageAt : GoodIn wsX0_keep wsX0_pageAt := goodIn_r _ [11, 2, 33, 34] (by decide +kernel) (by decide +kernel)
set_option maxRecDepth 20000 in
theorem gX0_keep_X0_pageAt : GoodIn wsX0_keep (wsV RX0 25 RX0 yX0_pageAt wsX0_pageAt) := goodIn_app (goodIn_of _ (by decide +kernel)) ggX0_keep_X0_pageAt
set_option maxRecDepth 20000 in
theorem ggX0_keep_X1_copyFrom : GoodIn wsX0_keep wsX1_copyFrom := goodIn_r _ [16, 17, 18, 19, 20, 21, 22, 23, 24, 25, 26, 27, 28, 29, 30, 31, 32, 35, 36, 37, 38, 39, 40, 41] (by decide +kernel) (by decide +kernel)
set_option maxRecDepth 20000 in
theorem gX0_keep_X1_copyFrom : GoodIn wsX0_keep (wsV RX0 29 RX1 yX1_copyFrom wsX1_copyFrom) := goodIn_app (goodIn_of _ (by decide +kernel)) ggX0_keep_X1_copyFrom
theorem dX0_keep_0 : decode cX0_keep 0 = .ok (.aload_n 0, 1) := by decide +kernel
theorem dX0_keep_1 : decode cX0_keep 1 = .ok (.getfield 9, 3) := by decide +kernel
theorem dX0_keep_4 : decode cX0_keep 4 = .ok (.aload_n 0, 1) := by decide +kernel
theorem dX0_keep_5 : decode cX0_keep 5 = .ok (.getfield 17, 3) := by decide +kernel
theorem dX0_keep_8 : decode cX0_keep 8 = .ok (.arraylength, 1) := by decide +kernel
theorem dX0_keep_9 : decode cX0_keep 9 = .ok (.if_icmp .lt 7, 3) := by decide +kernel
theorem dX0_keep_12 : decode cX0_keep 12 = .ok (.aload_n 0, 1) := by decide +kernel
theorem dX0_keep_13 : decode cX0_keep 13 = .ok (.invokevirtual 22, 3) := by decide +kernel
theorem dX0_keep_16 : decode cX0_keep 16 = .ok (.aload_n 0, 1) := by decide +kernel
theorem dX0_keep_17 : decode cX0_keep 17 = .ok (.aload_n 0, 1) := by decide +kernel
theorem dX0_keep_18 : decode cX0_keep 18 = .ok (.getfield 9, 3) := by decide +kernel
theorem dX0_keep_21 : decode cX0_keep 21 = .ok (.invokevirtual 25, 3) := by decide +kernel
theorem dX0_keep_24 : decode cX0_keep 24 = .ok (.astore_n 2, 1) := by decide +kernel
theorem dX0_keep_25 : decode cX0_keep 25 = .ok (.aload_n 2, 1) := by decide +kernel
theorem dX0_keep_26 : decode cX0_keep 26 = .ok (.ifnull 18, 3) := by decide +kernel
theorem dX0_keep_29 : decode cX0_keep 29 = .ok (.aload_n 2, 1) := by decide +kernel
theorem dX0_keep_30 : decode cX0_keep 30 = .ok (.aload_n 1, 1) := by decide +kernel
theorem dX0_keep_31 : decode cX0_keep 31 = .ok (.invokevirtual 29, 3) := by decide +kernel
theorem dX0_keep_34 : decode cX0_keep 34 = .ok (.aload_n 0, 1) := by decide +kernel
theorem dX0_keep_35 : decode cX0_keep 35 = .ok (.dup, 1) := by decide +kernel
theorem dX0_keep_36 : decode cX0_keep 36 = .ok (.getfield 9, 3) := by decide +kernel
theorem dX0_keep_39 : decode cX0_keep 39 = .ok (.iconst 1, 1) := by decide +kernel
theorem dX0_keep_40 : decode cX0_keep 40 = .ok (.iadd, 1) := by decide +kernel
theorem dX0_keep_41 : decode cX0_keep 41 = .ok (.putfield 9, 3) := by decide +kernel
theorem dX0_keep_44 : decode cX0_keep 44 = .ok (.return_, 1) := by decide +kernel
set_option maxRecDepth 20000 in
theorem ggX0_restoreLatest_X0_pageAt : GoodIn wsX0_restoreLatest wsX0_pageAt := goodIn_r _ [6, 7, 29, 30] (by decide +kernel) (by decide +kernel)
set_option maxRecDepth 20000 in
theorem gX0_restoreLatest_X0_pageAt : GoodIn wsX0_restoreLatest (wsV RX0 25 RX0 yX0_pageAt wsX0_pageAt) := goodIn_app (goodIn_of _ (by decide +kernel)) ggX0_restoreLatest_X0_pageAt
set_option maxRecDepth 20000 in
theorem ggX0_restoreLatest_X1_copyFrom : GoodIn wsX0_restoreLatest wsX1_copyFrom := goodIn_r _ [12, 13, 14, 15, 16, 17, 18, 19, 20, 21, 22, 23, 24, 25, 26, 27, 28, 31, 32, 33, 34, 35, 36, 37] (by decide +kernel) (by decide +kernel)
set_option maxRecDepth 20000 in
theorem gX0_restoreLatest_X1_copyFrom : GoodIn wsX0_restoreLatest (wsV RX0 29 RX1 yX1_copyFrom wsX1_copyFrom) := goodIn_app (goodIn_of _ (by decide +kernel)) ggX0_restoreLatest_X1_copyFrom
theorem dX0_restoreLatest_0 : decode cX0_restoreLatest 0 = .ok (.aload_n 0, 1) := by decide +kernel
theorem dX0_restoreLatest_1 : decode cX0_restoreLatest 1 = .ok (.aload_n 0, 1) := by decide +kernel
theorem dX0_restoreLatest_2 : decode cX0_restoreLatest 2 = .ok (.getfield 9, 3) := by decide +kernel
theorem dX0_restoreLatest_5 : decode cX0_restoreLatest 5 = .ok (.iconst 1, 1) := by decide +kernel
theorem dX0_restoreLatest_6 : decode cX0_restoreLatest 6 = .ok (.isub, 1) := by decide +kernel
theorem dX0_restoreLatest_7 : decode cX0_restoreLatest 7 = .ok (.invokevirtual 25, 3) := by decide +kernel
theorem dX0_restoreLatest_10 : decode cX0_restoreLatest 10 = .ok (.astore_n 2, 1) := by decide +kernel
theorem dX0_restoreLatest_11 : decode cX0_restoreLatest 11 = .ok (.aload_n 2, 1) := by decide +kernel
theorem dX0_restoreLatest_12 : decode cX0_restoreLatest 12 = .ok (.ifnull 18, 3) := by decide +kernel
theorem dX0_restoreLatest_15 : decode cX0_restoreLatest 15 = .ok (.aload_n 1, 1) := by decide +kernel
theorem dX0_restoreLatest_16 : decode cX0_restoreLatest 16 = .ok (.aload_n 2, 1) := by decide +kernel
theorem dX0_restoreLatest_17 : decode cX0_restoreLatest 17 = .ok (.invokevirtual 29, 3) := by decide +kernel
theorem dX0_restoreLatest_20 : decode cX0_restoreLatest 20 = .ok (.aload_n 0, 1) := by decide +kernel
theorem dX0_restoreLatest_21 : decode cX0_restoreLatest 21 = .ok (.dup, 1) := by decide +kernel
theorem dX0_restoreLatest_22 : decode cX0_restoreLatest 22 = .ok (.getfield 9, 3) := by decide +kernel
theorem dX0_restoreLatest_25 : decode cX0_restoreLatest 25 = .ok (.iconst 1, 1) := by decide +kernel
theorem dX0_restoreLatest_26 : decode cX0_restoreLatest 26 = .ok (.isub, 1) := by decide +kernel
theorem dX0_restoreLatest_27 : decode cX0_restoreLatest 27 = .ok (.putfield 9, 3) := by decide +kernel
theorem dX0_restoreLatest_30 : decode cX0_restoreLatest 30 = .ok (.return_, 1) := by decide +kernel
set_option maxRecDepth 20000 in
theorem ggX0_dropOldest_X0_pageAt : GoodIn wsX0_dropOldest wsX0_pageAt := goodIn_r _ [7, 1, 8, 9] (by decide +kernel) (by decide +kernel)
set_option maxRecDepth 20000 in
theorem gX0_dropOldest_X0_pageAt : GoodIn wsX0_dropOldest (wsV RX0 25 RX0 yX0_pageAt wsX0_pageAt) := goodIn_app (goodIn_of _ (by decide +kernel)) ggX0_dropOldest_X0_pageAt
theorem dX0_dropOldest_0 : decode cX0_dropOldest 0 = .ok (.aload_n 0, 1) := by decide +kernel
theorem dX0_dropOldest_1 : decode cX0_dropOldest 1 = .ok (.iconst 0, 1) := by decide +kernel
theorem dX0_dropOldest_2 : decode cX0_dropOldest 2 = .ok (.invokevirtual 25, 3) := by decide +kernel
theorem dX0_dropOldest_5 : decode cX0_dropOldest 5 = .ok (.astore_n 1, 1) := by decide +kernel
theorem dX0_dropOldest_6 : decode cX0_dropOldest 6 = .ok (.iconst 1, 1) := by decide +kernel
theorem dX0_dropOldest_7 : decode cX0_dropOldest 7 = .ok (.istore_n 2, 1) := by decide +kernel
theorem dX0_dropOldest_8 : decode cX0_dropOldest 8 = .ok (.iload_n 2, 1) := by decide +kernel
theorem dX0_dropOldest_9 : decode cX0_dropOldest 9 = .ok (.aload_n 0, 1) := by decide +kernel
theorem dX0_dropOldest_10 : decode cX0_dropOldest 10 = .ok (.getfield 17, 3) := by decide +kernel
theorem dX0_dropOldest_13 : decode cX0_dropOldest 13 = .ok (.arraylength, 1) := by decide +kernel
theorem dX0_dropOldest_14 : decode cX0_dropOldest 14 = .ok (.if_icmp .ge 23, 3) := by decide +kernel
theorem dX0_dropOldest_17 : decode cX0_dropOldest 17 = .ok (.aload_n 0, 1) := by decide +kernel
theorem dX0_dropOldest_18 : decode cX0_dropOldest 18 = .ok (.getfield 17, 3) := by decide +kernel
theorem dX0_dropOldest_21 : decode cX0_dropOldest 21 = .ok (.iload_n 2, 1) := by decide +kernel
theorem dX0_dropOldest_22 : decode cX0_dropOldest 22 = .ok (.iconst 1, 1) := by decide +kernel
theorem dX0_dropOldest_23 : decode cX0_dropOldest 23 = .ok (.isub, 1) := by decide +kernel
theorem dX0_dropOldest_24 : decode cX0_dropOldest 24 = .ok (.aload_n 0, 1) := by decide +kernel
theorem dX0_dropOldest_25 : decode cX0_dropOldest 25 = .ok (.getfield 17, 3) := by decide +kernel
theorem dX0_dropOldest_28 : decode cX0_dropOldest 28 = .ok (.iload_n 2, 1) := by decide +kernel
theorem dX0_dropOldest_29 : decode cX0_dropOldest 29 = .ok (.aaload, 1) := by decide +kernel
theorem dX0_dropOldest_30 : decode cX0_dropOldest 30 = .ok (.aastore, 1) := by decide +kernel
theorem dX0_dropOldest_31 : decode cX0_dropOldest 31 = .ok (.iinc 2 1, 3) := by decide +kernel
theorem dX0_dropOldest_34 : decode cX0_dropOldest 34 = .ok (.goto (-26), 3) := by decide +kernel
theorem dX0_dropOldest_37 : decode cX0_dropOldest 37 = .ok (.aload_n 0, 1) := by decide +kernel
theorem dX0_dropOldest_38 : decode cX0_dropOldest 38 = .ok (.getfield 17, 3) := by decide +kernel
theorem dX0_dropOldest_41 : decode cX0_dropOldest 41 = .ok (.arraylength, 1) := by decide +kernel
theorem dX0_dropOldest_42 : decode cX0_dropOldest 42 = .ok (.ifCond .le 16, 3) := by decide +kernel
theorem dX0_dropOldest_45 : decode cX0_dropOldest 45 = .ok (.aload_n 0, 1) := by decide +kernel
theorem dX0_dropOldest_46 : decode cX0_dropOldest 46 = .ok (.getfield 17, 3) := by decide +kernel
theorem dX0_dropOldest_49 : decode cX0_dropOldest 49 = .ok (.aload_n 0, 1) := by decide +kernel
theorem dX0_dropOldest_50 : decode cX0_dropOldest 50 = .ok (.getfield 17, 3) := by decide +kernel
theorem dX0_dropOldest_53 : decode cX0_dropOldest 53 = .ok (.arraylength, 1) := by decide +kernel
theorem dX0_dropOldest_54 : decode cX0_dropOldest 54 = .ok (.iconst 1, 1) := by decide +kernel
theorem dX0_dropOldest_55 : decode cX0_dropOldest 55 = .ok (.isub, 1) := by decide +kernel
theorem dX0_dropOldest_56 : decode cX0_dropOldest 56 = .ok (.aload_n 1, 1) := by decide +kernel
theorem dX0_dropOldest_57 : decode cX0_dropOldest 57 = .ok (.aastore, 1) := by decide +kernel
theorem dX0_dropOldest_58 : decode cX0_dropOldest 58 = .ok (.aload_n 0, 1) := by decide +kernel
theorem dX0_dropOldest_59 : decode cX0_dropOldest 59 = .ok (.aload_n 0, 1) := by decide +kernel
theorem dX0_dropOldest_60 : decode cX0_dropOldest 60 = .ok (.getfield 17, 3) := by decide +kernel
theorem dX0_dropOldest_63 : decode cX0_dropOldest 63 = .ok (.arraylength, 1) := by decide +kernel
theorem dX0_dropOldest_64 : decode cX0_dropOldest 64 = .ok (.iconst 1, 1) := by decide +kernel
theorem dX0_dropOldest_65 : decode cX0_dropOldest 65 = .ok (.isub, 1) := by decide +kernel
theorem dX0_dropOldest_66 : decode cX0_dropOldest 66 = .ok (.putfield 9, 3) := by decide +kernel
theorem dX0_dropOldest_69 : decode cX0_dropOldest 69 = .ok (.return_, 1) := by decide +kernel
theorem dX0_pageAt_0 : decode cX0_pageAt 0 = .ok (.iload_n 1, 1) := by decide +kernel
theorem dX0_pageAt_1 : decode cX0_pageAt 1 = .ok (.ifCond .lt 21, 3) := by decide +kernel
theorem dX0_pageAt_4 : decode cX0_pageAt 4 = .ok (.iload_n 1, 1) := by decide +kernel
theorem dX0_pageAt_5 : decode cX0_pageAt 5 = .ok (.aload_n 0, 1) := by decide +kernel
theorem dX0_pageAt_6 : decode cX0_pageAt 6 = .ok (.getfield 17, 3) := by decide +kernel
theorem dX0_pageAt_9 : decode cX0_pageAt 9 = .ok (.arraylength, 1) := by decide +kernel
theorem dX0_pageAt_10 : decode cX0_pageAt 10 = .ok (.if_icmp .ge 12, 3) := by decide +kernel
theorem dX0_pageAt_13 : decode cX0_pageAt 13 = .ok (.aload_n 0, 1) := by decide +kernel
theorem dX0_pageAt_14 : decode cX0_pageAt 14 = .ok (.getfield 17, 3) := by decide +kernel
theorem dX0_pageAt_17 : decode cX0_pageAt 17 = .ok (.iload_n 1, 1) := by decide +kernel
theorem dX0_pageAt_18 : decode cX0_pageAt 18 = .ok (.aaload, 1) := by decide +kernel
theorem dX0_pageAt_19 : decode cX0_pageAt 19 = .ok (.goto 4, 3) := by decide +kernel
theorem dX0_pageAt_22 : decode cX0_pageAt 22 = .ok (.aconst_null, 1) := by decide +kernel
theorem dX0_pageAt_23 : decode cX0_pageAt 23 = .ok (.areturn, 1) := by decide +kernel
set_option maxRecDepth 20000 in
theorem ggX1_init_X2_init : GoodIn wsX1_init wsX2_init := goodIn_r _ [15, 16, 2, 3, 17, 18, 19, 20, 21, 22, 29] (by decide +kernel) (by decide +kernel)
set_option maxRecDepth 20000 in
theorem gX1_init_X2_init : GoodIn wsX1_init (wsX2_init) := ggX1_init_X2_init
theorem dX1_init_0 : decode cX1_init 0 = .ok (.aload_n 0, 1) := by decide +kernel
theorem dX1_init_1 : decode cX1_init 1 = .ok (.invokespecial 3, 3) := by decide +kernel
theorem dX1_init_4 : decode cX1_init 4 = .ok (.aload_n 0, 1) := by decide +kernel
theorem dX1_init_5 : decode cX1_init 5 = .ok (.bipush 24, 2) := by decide +kernel
theorem dX1_init_7 : decode cX1_init 7 = .ok (.putfield 9, 3) := by decide +kernel
theorem dX1_init_10 : decode cX1_init 10 = .ok (.aload_n 0, 1) := by decide +kernel
theorem dX1_init_11 : decode cX1_init 11 = .ok (.bipush 6, 2) := by decide +kernel
theorem dX1_init_13 : decode cX1_init 13 = .ok (.putfield 15, 3) := by decide +kernel
theorem dX1_init_16 : decode cX1_init 16 = .ok (.aload_n 0, 1) := by decide +kernel
theorem dX1_init_17 : decode cX1_init 17 = .ok (.iconst 0, 1) := by decide +kernel
theorem dX1_init_18 : decode cX1_init 18 = .ok (.putfield 18, 3) := by decide +kernel
theorem dX1_init_21 : decode cX1_init 21 = .ok (.aload_n 0, 1) := by decide +kernel
theorem dX1_init_22 : decode cX1_init 22 = .ok (.new 21, 3) := by decide +kernel
theorem dX1_init_25 : decode cX1_init 25 = .ok (.dup, 1) := by decide +kernel
theorem dX1_init_26 : decode cX1_init 26 = .ok (.bipush 24, 2) := by decide +kernel
theorem dX1_init_28 : decode cX1_init 28 = .ok (.invokespecial 23, 3) := by decide +kernel
theorem dX1_init_31 : decode cX1_init 31 = .ok (.putfield 26, 3) := by decide +kernel
theorem dX1_init_34 : decode cX1_init 34 = .ok (.aload_n 0, 1) := by decide +kernel
theorem dX1_init_35 : decode cX1_init 35 = .ok (.new 21, 3) := by decide +kernel
theorem dX1_init_38 : decode cX1_init 38 = .ok (.dup, 1) := by decide +kernel
theorem dX1_init_39 : decode cX1_init 39 = .ok (.bipush 24, 2) := by decide +kernel
theorem dX1_init_41 : decode cX1_init 41 = .ok (.invokespecial 23, 3) := by decide +kernel
theorem dX1_init_44 : decode cX1_init 44 = .ok (.putfield 30, 3) := by decide +kernel
theorem dX1_init_47 : decode cX1_init 47 = .ok (.aload_n 0, 1) := by decide +kernel
theorem dX1_init_48 : decode cX1_init 48 = .ok (.new 21, 3) := by decide +kernel
theorem dX1_init_51 : decode cX1_init 51 = .ok (.dup, 1) := by decide +kernel
theorem dX1_init_52 : decode cX1_init 52 = .ok (.bipush 24, 2) := by decide +kernel
theorem dX1_init_54 : decode cX1_init 54 = .ok (.invokespecial 23, 3) := by decide +kernel
theorem dX1_init_57 : decode cX1_init 57 = .ok (.putfield 33, 3) := by decide +kernel
theorem dX1_init_60 : decode cX1_init 60 = .ok (.return_, 1) := by decide +kernel
set_option maxRecDepth 20000 in
theorem ggX1_copyFrom_X2_copyFrom : GoodIn wsX1_copyFrom wsX2_copyFrom := goodIn_r _ [11, 12, 13, 14, 15, 10, 16, 23] (by decide +kernel) (by decide +kernel)
set_option maxRecDepth 20000 in
theorem gX1_copyFrom_X2_copyFrom : GoodIn wsX1_copyFrom (wsV RX1 36 RX2 yX2_copyFrom wsX2_copyFrom) := goodIn_app (goodIn_of _ (by decide +kernel)) ggX1_copyFrom_X2_copyFrom
theorem dX1_copyFrom_0 : decode cX1_copyFrom 0 = .ok (.aload_n 0, 1) := by decide +kernel
theorem dX1_copyFrom_1 : decode cX1_copyFrom 1 = .ok (.aload_n 1, 1) := by decide +kernel
theorem dX1_copyFrom_2 : decode cX1_copyFrom 2 = .ok (.getfield 9, 3) := by decide +kernel
theorem dX1_copyFrom_5 : decode cX1_copyFrom 5 = .ok (.putfield 9, 3) := by decide +kernel
theorem dX1_copyFrom_8 : decode cX1_copyFrom 8 = .ok (.aload_n 0, 1) := by decide +kernel
theorem dX1_copyFrom_9 : decode cX1_copyFrom 9 = .ok (.aload_n 1, 1) := by decide +kernel
theorem dX1_copyFrom_10 : decode cX1_copyFrom 10 = .ok (.getfield 15, 3) := by decide +kernel
theorem dX1_copyFrom_13 : decode cX1_copyFrom 13 = .ok (.putfield 15, 3) := by decide +kernel
theorem dX1_copyFrom_16 : decode cX1_copyFrom 16 = .ok (.aload_n 0, 1) := by decide +kernel
theorem dX1_copyFrom_17 : decode cX1_copyFrom 17 = .ok (.aload_n 1, 1) := by decide +kernel
theorem dX1_copyFrom_18 : decode cX1_copyFrom 18 = .ok (.getfield 18, 3) := by decide +kernel
theorem dX1_copyFrom_21 : decode cX1_copyFrom 21 = .ok (.putfield 18, 3) := by decide +kernel
theorem dX1_copyFrom_24 : decode cX1_copyFrom 24 = .ok (.aload_n 0, 1) := by decide +kernel
theorem dX1_copyFrom_25 : decode cX1_copyFrom 25 = .ok (.getfield 26, 3) := by decide +kernel
theorem dX1_copyFrom_28 : decode cX1_copyFrom 28 = .ok (.aload_n 1, 1) := by decide +kernel
theorem dX1_copyFrom_29 : decode cX1_copyFrom 29 = .ok (.getfield 26, 3) := by decide +kernel
theorem dX1_copyFrom_32 : decode cX1_copyFrom 32 = .ok (.invokevirtual 36, 3) := by decide +kernel
theorem dX1_copyFrom_35 : decode cX1_copyFrom 35 = .ok (.aload_n 0, 1) := by decide +kernel
theorem dX1_copyFrom_36 : decode cX1_copyFrom 36 = .ok (.getfield 30, 3) := by decide +kernel
theorem dX1_copyFrom_39 : decode cX1_copyFrom 39 = .ok (.aload_n 1, 1) := by decide +kernel
theorem dX1_copyFrom_40 : decode cX1_copyFrom 40 = .ok (.getfield 30, 3) := by decide +kernel
theorem dX1_copyFrom_43 : decode cX1_copyFrom 43 = .ok (.invokevirtual 36, 3) := by decide +kernel
theorem dX1_copyFrom_46 : decode cX1_copyFrom 46 = .ok (.aload_n 0, 1) := by decide +kernel
theorem dX1_copyFrom_47 : decode cX1_copyFrom 47 = .ok (.getfield 33, 3) := by decide +kernel
theorem dX1_copyFrom_50 : decode cX1_copyFrom 50 = .ok (.aload_n 1, 1) := by decide +kernel
theorem dX1_copyFrom_51 : decode cX1_copyFrom 51 = .ok (.getfield 33, 3) := by decide +kernel
theorem dX1_copyFrom_54 : decode cX1_copyFrom 54 = .ok (.invokevirtual 36, 3) := by decide +kernel
theorem dX1_copyFrom_57 : decode cX1_copyFrom 57 = .ok (.return_, 1) := by decide +kernel
set_option maxRecDepth 20000 in
theorem ggX1_append_X2_set : GoodIn wsX1_append wsX2_set := goodIn_r _ [7, 8, 15] (by decide +kernel) (by decide +kernel)
set_option maxRecDepth 20000 in
theorem gX1_append_X2_set : GoodIn wsX1_append (wsV RX1 43 RX2 yX2_set wsX2_set) := goodIn_app (goodIn_of _ (by decide +kernel)) ggX1_append_X2_set
theorem dX1_append_0 : decode cX1_append 0 = .ok (.aload_n 0, 1) := by decide +kernel
theorem dX1_append_1 : decode cX1_append 1 = .ok (.getfield 26, 3) := by decide +kernel
theorem dX1_append_4 : decode cX1_append 4 = .ok (.aload_n 0, 1) := by decide +kernel
theorem dX1_append_5 : decode cX1_append 5 = .ok (.getfield 18, 3) := by decide +kernel
theorem dX1_append_8 : decode cX1_append 8 = .ok (.iload_n 1, 1) := by decide +kernel
theorem dX1_append_9 : decode cX1_append 9 = .ok (.invokevirtual 43, 3) := by decide +kernel
theorem dX1_append_12 : decode cX1_append 12 = .ok (.aload_n 0, 1) := by decide +kernel
theorem dX1_append_13 : decode cX1_append 13 = .ok (.dup, 1) := by decide +kernel
theorem dX1_append_14 : decode cX1_append 14 = .ok (.getfield 18, 3) := by decide +kernel
theorem dX1_append_17 : decode cX1_append 17 = .ok (.iconst 1, 1) := by decide +kernel
theorem dX1_append_18 : decode cX1_append 18 = .ok (.iadd, 1) := by decide +kernel
theorem dX1_append_19 : decode cX1_append 19 = .ok (.putfield 18, 3) := by decide +kernel
theorem dX1_append_22 : decode cX1_append 22 = .ok (.return_, 1) := by decide +kernel
set_option maxRecDepth 20000 in
theorem ggX1_begin_X2_set : GoodIn wsX1_begin wsX2_set := goodIn_r _ [7, 8, 15] (by decide +kernel) (by decide +kernel)
set_option maxRecDepth 20000 in
theorem gX1_begin_X2_set : GoodIn wsX1_begin (wsV RX1 43 RX2 yX2_set wsX2_set) := goodIn_app (goodIn_of _ (by decide +kernel)) ggX1_begin_X2_set
theorem dX1_begin_0 : decode cX1_begin 0 = .ok (.iload_n 1, 1) := by decide +kernel
theorem dX1_begin_1 : decode cX1_begin 1 = .ok (.aload_n 0, 1) := by decide +kernel
theorem dX1_begin_2 : decode cX1_begin 2 = .ok (.getfield 18, 3) := by decide +kernel
theorem dX1_begin_5 : decode cX1_begin 5 = .ok (.if_icmp .ge 12, 3) := by decide +kernel
theorem dX1_begin_8 : decode cX1_begin 8 = .ok (.aload_n 0, 1) := by decide +kernel
theorem dX1_begin_9 : decode cX1_begin 9 = .ok (.getfield 30, 3) := by decide +kernel
theorem dX1_begin_12 : decode cX1_begin 12 = .ok (.iload_n 1, 1) := by decide +kernel
theorem dX1_begin_13 : decode cX1_begin 13 = .ok (.iconst 1, 1) := by decide +kernel
theorem dX1_begin_14 : decode cX1_begin 14 = .ok (.invokevirtual 43, 3) := by decide +kernel
theorem dX1_begin_17 : decode cX1_begin 17 = .ok (.return_, 1) := by decide +kernel
set_option maxRecDepth 20000 in
theorem ggX1_join_X2_set : GoodIn wsX1_join wsX2_set := goodIn_r _ [6, 7, 14] (by decide +kernel) (by decide +kernel)
set_option maxRecDepth 20000 in
theorem gX1_join_X2_set : GoodIn wsX1_join (wsV RX1 43 RX2 yX2_set wsX2_set) := goodIn_app (goodIn_of _ (by decide +kernel)) ggX1_join_X2_set
theorem dX1_join_0 : decode cX1_join 0 = .ok (.aload_n 0, 1) := by decide +kernel
theorem dX1_join_1 : decode cX1_join 1 = .ok (.getfield 30, 3) := by decide +kernel
theorem dX1_join_4 : decode cX1_join 4 = .ok (.iload_n 1, 1) := by decide +kernel
theorem dX1_join_5 : decode cX1_join 5 = .ok (.iconst 0, 1) := by decide +kernel
theorem dX1_join_6 : decode cX1_join 6 = .ok (.invokevirtual 43, 3) := by decide +kernel
theorem dX1_join_9 : decode cX1_join 9 = .ok (.return_, 1) := by decide +kernel
set_option maxRecDepth 20000 in
theorem ggX1_joinAll_X2_clear : GoodIn wsX1_joinAll wsX2_clear := goodIn_r _ [6, 7, 14] (by decide +kernel) (by decide +kernel)
set_option maxRecDepth 20000 in
theorem gX1_joinAll_X2_clear : GoodIn wsX1_joinAll (wsV RX1 40 RX2 yX2_clear wsX2_clear) := goodIn_app (goodIn_of _ (by decide +kernel)) ggX1_joinAll_X2_clear
theorem dX1_joinAll_0 : decode cX1_joinAll 0 = .ok (.aload_n 0, 1) := by decide +kernel
theorem dX1_joinAll_1 : decode cX1_joinAll 1 = .ok (.getfield 30, 3) := by decide +kernel
theorem dX1_joinAll_4 : decode cX1_joinAll 4 = .ok (.invokevirtual 40, 3) := by decide +kernel
theorem dX1_joinAll_7 : decode cX1_joinAll 7 = .ok (.return_, 1) := by decide +kernel
set_option maxRecDepth 20000 in
theorem ggX1_setFrozen_X2_set : GoodIn wsX1_setFrozen wsX2_set := goodIn_r _ [6, 7, 14] (by decide +kernel) (by decide +kernel)
set_option maxRecDepth 20000 in
theorem gX1_setFrozen_X2_set : GoodIn wsX1_setFrozen (wsV RX1 43 RX2 yX2_set wsX2_set) := goodIn_app (goodIn_of _ (by decide +kernel)) ggX1_setFrozen_X2_set
theorem dX1_setFrozen_0 : decode cX1_setFrozen 0 = .ok (.aload_n 0, 1) := by decide +kernel
theorem dX1_setFrozen_1 : decode cX1_setFrozen 1 = .ok (.getfield 33, 3) := by decide +kernel
theorem dX1_setFrozen_4 : decode cX1_setFrozen 4 = .ok (.iload_n 1, 1) := by decide +kernel
theorem dX1_setFrozen_5 : decode cX1_setFrozen 5 = .ok (.iload_n 2, 1) := by decide +kernel
theorem dX1_setFrozen_6 : decode cX1_setFrozen 6 = .ok (.invokevirtual 43, 3) := by decide +kernel
theorem dX1_setFrozen_9 : decode cX1_setFrozen 9 = .ok (.return_, 1) := by decide +kernel
set_option maxRecDepth 20000 in
theorem ggX1_isFrozen_X2_get : GoodIn wsX1_isFrozen wsX2_get := goodIn_r _ [6, 7, 14] (by decide +kernel) (by decide +kernel)
set_option maxRecDepth 20000 in
theorem gX1_isFrozen_X2_get : GoodIn wsX1_isFrozen (wsV RX1 47 RX2 yX2_get wsX2_get) := goodIn_app (goodIn_of _ (by decide +kernel)) ggX1_isFrozen_X2_get
theorem dX1_isFrozen_0 : decode cX1_isFrozen 0 = .ok (.aload_n 0, 1) := by decide +kernel
theorem dX1_isFrozen_1 : decode cX1_isFrozen 1 = .ok (.getfield 33, 3) := by decide +kernel
theorem dX1_isFrozen_4 : decode cX1_isFrozen 4 = .ok (.iload_n 1, 1) := by decide +kernel
theorem dX1_isFrozen_5 : decode cX1_isFrozen 5 = .ok (.invokevirtual 47, 3) := by decide +kernel
theorem dX1_isFrozen_8 : decode cX1_isFrozen 8 = .ok (.iconst 1, 1) := by decide +kernel
theorem dX1_isFrozen_9 : decode cX1_isFrozen 9 = .ok (.if_icmp .ne 7, 3) := by decide +kernel
theorem dX1_isFrozen_12 : decode cX1_isFrozen 12 = .ok (.iconst 1, 1) := by decide +kernel
theorem dX1_isFrozen_13 : decode cX1_isFrozen 13 = .ok (.goto 4, 3) := by decide +kernel
theorem dX1_isFrozen_16 : decode cX1_isFrozen 16 = .ok (.iconst 0, 1) := by decide +kernel
theorem dX1_isFrozen_17 : decode cX1_isFrozen 17 = .ok (.ireturn, 1) := by decide +kernel
set_option maxRecDepth 20000 in
theorem ggX1_lengthOf_X2_get : GoodIn wsX1_lengthOf wsX2_get := goodIn_r _ [6, 7, 14] (by decide +kernel) (by decide +kernel)
set_option maxRecDepth 20000 in
theorem gX1_lengthOf_X2_get : GoodIn wsX1_lengthOf (wsV RX1 47 RX2 yX2_get wsX2_get) := goodIn_app (goodIn_of _ (by decide +kernel)) ggX1_lengthOf_X2_get
theorem dX1_lengthOf_0 : decode cX1_lengthOf 0 = .ok (.aload_n 0, 1) := by decide +kernel
theorem dX1_lengthOf_1 : decode cX1_lengthOf 1 = .ok (.getfield 26, 3) := by decide +kernel
theorem dX1_lengthOf_4 : decode cX1_lengthOf 4 = .ok (.iload_n 1, 1) := by decide +kernel
theorem dX1_lengthOf_5 : decode cX1_lengthOf 5 = .ok (.invokevirtual 47, 3) := by decide +kernel
theorem dX1_lengthOf_8 : decode cX1_lengthOf 8 = .ok (.ireturn, 1) := by decide +kernel
set_option maxRecDepth 20000 in
theorem ggX1_lines_X2_get : GoodIn wsX1_lines wsX2_get := goodIn_r _ [7, 8, 15] (by decide +kernel) (by decide +kernel)
set_option maxRecDepth 20000 in
theorem gX1_lines_X2_get : GoodIn wsX1_lines (wsV RX1 47 RX2 yX2_get wsX2_get) := goodIn_app (goodIn_of _ (by decide +kernel)) ggX1_lines_X2_get
theorem dX1_lines_0 : decode cX1_lines 0 = .ok (.iconst 0, 1) := by decide +kernel
theorem dX1_lines_1 : decode cX1_lines 1 = .ok (.istore_n 1, 1) := by decide +kernel
theorem dX1_lines_2 : decode cX1_lines 2 = .ok (.iconst 0, 1) := by decide +kernel
theorem dX1_lines_3 : decode cX1_lines 3 = .ok (.istore_n 2, 1) := by decide +kernel
theorem dX1_lines_4 : decode cX1_lines 4 = .ok (.iload_n 2, 1) := by decide +kernel
theorem dX1_lines_5 : decode cX1_lines 5 = .ok (.aload_n 0, 1) := by decide +kernel
theorem dX1_lines_6 : decode cX1_lines 6 = .ok (.getfield 18, 3) := by decide +kernel
theorem dX1_lines_9 : decode cX1_lines 9 = .ok (.if_icmp .ge 20, 3) := by decide +kernel
theorem dX1_lines_12 : decode cX1_lines 12 = .ok (.iload_n 1, 1) := by decide +kernel
theorem dX1_lines_13 : decode cX1_lines 13 = .ok (.aload_n 0, 1) := by decide +kernel
theorem dX1_lines_14 : decode cX1_lines 14 = .ok (.getfield 30, 3) := by decide +kernel
theorem dX1_lines_17 : decode cX1_lines 17 = .ok (.iload_n 2, 1) := by decide +kernel
theorem dX1_lines_18 : decode cX1_lines 18 = .ok (.invokevirtual 47, 3) := by decide +kernel
theorem dX1_lines_21 : decode cX1_lines 21 = .ok (.iadd, 1) := by decide +kernel
theorem dX1_lines_22 : decode cX1_lines 22 = .ok (.istore_n 1, 1) := by decide +kernel
theorem dX1_lines_23 : decode cX1_lines 23 = .ok (.iinc 2 1, 3) := by decide +kernel
theorem dX1_lines_26 : decode cX1_lines 26 = .ok (.goto (-22), 3) := by decide +kernel
theorem dX1_lines_29 : decode cX1_lines 29 = .ok (.iload_n 1, 1) := by decide +kernel
theorem dX1_lines_30 : decode cX1_lines 30 = .ok (.ireturn, 1) := by decide +kernel
set_option maxRecDepth 20000 in
theorem ggX1_frozenLines_X2_get : GoodIn wsX1_frozenLines wsX2_get := goodIn_r _ [7, 8, 15] (by decide +kernel) (by decide +kernel)
set_option maxRecDepth 20000 in
theorem gX1_frozenLines_X2_get : GoodIn wsX1_frozenLines (wsV RX1 47 RX2 yX2_get wsX2_get) := goodIn_app (goodIn_of _ (by decide +kernel)) ggX1_frozenLines_X2_get
theorem dX1_frozenLines_0 : decode cX1_frozenLines 0 = .ok (.iconst 0, 1) := by decide +kernel
theorem dX1_frozenLines_1 : decode cX1_frozenLines 1 = .ok (.istore_n 1, 1) := by decide +kernel
theorem dX1_frozenLines_2 : decode cX1_frozenLines 2 = .ok (.iconst 0, 1) := by decide +kernel
theorem dX1_frozenLines_3 : decode cX1_frozenLines 3 = .ok (.istore_n 2, 1) := by decide +kernel
theorem dX1_frozenLines_4 : decode cX1_frozenLines 4 = .ok (.iload_n 2, 1) := by decide +kernel
theorem dX1_frozenLines_5 : decode cX1_frozenLines 5 = .ok (.aload_n 0, 1) := by decide +kernel
theorem dX1_frozenLines_6 : decode cX1_frozenLines 6 = .ok (.getfield 18, 3) := by decide +kernel
theorem dX1_frozenLines_9 : decode cX1_frozenLines 9 = .ok (.if_icmp .ge 20, 3) := by decide +kernel
theorem dX1_frozenLines_12 : decode cX1_frozenLines 12 = .ok (.iload_n 1, 1) := by decide +kernel
theorem dX1_frozenLines_13 : decode cX1_frozenLines 13 = .ok (.aload_n 0, 1) := by decide +kernel
theorem dX1_frozenLines_14 : decode cX1_frozenLines 14 = .ok (.getfield 33, 3) := by decide +kernel
theorem dX1_frozenLines_17 : decode cX1_frozenLines 17 = .ok (.iload_n 2, 1) := by decide +kernel
theorem dX1_frozenLines_18 : decode cX1_frozenLines 18 = .ok (.invokevirtual 47, 3) := by decide +kernel
theorem dX1_frozenLines_21 : decode cX1_frozenLines 21 = .ok (.iadd, 1) := by decide +kernel
theorem dX1_frozenLines_22 : decode cX1_frozenLines 22 = .ok (.istore_n 1, 1) := by decide +kernel
theorem dX1_frozenLines_23 : decode cX1_frozenLines 23 = .ok (.iinc 2 1, 3) := by decide +kernel
theorem dX1_frozenLines_26 : decode cX1_frozenLines 26 = .ok (.goto (-22), 3) := by decide +kernel
theorem dX1_frozenLines_29 : decode cX1_frozenLines 29 = .ok (.iload_n 1, 1) := by decide +kernel
theorem dX1_frozenLines_30 : decode cX1_frozenLines 30 = .ok (.ireturn, 1) := by decide +kernel
set_option maxRecDepth 20000 in
theorem ggX1_hasLine_X1_lines : GoodIn wsX1_hasLine wsX1_lines := goodIn_r _ [5, 6, 7, 8, 9, 10, 11, 12, 13, 14, 15, 16, 17, 18, 19, 20] (by decide +kernel) (by decide +kernel)
set_option maxRecDepth 20000 in
theorem gX1_hasLine_X1_lines : GoodIn wsX1_hasLine (wsV RX1 51 RX1 yX1_lines wsX1_lines) := goodIn_app (goodIn_of _ (by decide +kernel)) ggX1_hasLine_X1_lines
theorem dX1_hasLine_0 : decode cX1_hasLine 0 = .ok (.iload_n 1, 1) := by decide +kernel
theorem dX1_hasLine_1 : decode cX1_hasLine 1 = .ok (.ifCond .lt 15, 3) := by decide +kernel
theorem dX1_hasLine_4 : decode cX1_hasLine 4 = .ok (.iload_n 1, 1) := by decide +kernel
theorem dX1_hasLine_5 : decode cX1_hasLine 5 = .ok (.aload_n 0, 1) := by decide +kernel
theorem dX1_hasLine_6 : decode cX1_hasLine 6 = .ok (.invokevirtual 51, 3) := by decide +kernel
theorem dX1_hasLine_9 : decode cX1_hasLine 9 = .ok (.if_icmp .ge 7, 3) := by decide +kernel
theorem dX1_hasLine_12 : decode cX1_hasLine 12 = .ok (.iconst 1, 1) := by decide +kernel
theorem dX1_hasLine_13 : decode cX1_hasLine 13 = .ok (.goto 4, 3) := by decide +kernel
theorem dX1_hasLine_16 : decode cX1_hasLine 16 = .ok (.iconst 0, 1) := by decide +kernel
theorem dX1_hasLine_17 : decode cX1_hasLine 17 = .ok (.ireturn, 1) := by decide +kernel
set_option maxRecDepth 20000 in
theorem ggX1_firstOf_X2_get : GoodIn wsX1_firstOf wsX2_get := goodIn_r _ [7, 8, 15] (by decide +kernel) (by decide +kernel)
set_option maxRecDepth 20000 in
theorem gX1_firstOf_X2_get : GoodIn wsX1_firstOf (wsV RX1 47 RX2 yX2_get wsX2_get) := goodIn_app (goodIn_of _ (by decide +kernel)) ggX1_firstOf_X2_get
theorem dX1_firstOf_0 : decode cX1_firstOf 0 = .ok (.iconst 0, 1) := by decide +kernel
theorem dX1_firstOf_1 : decode cX1_firstOf 1 = .ok (.istore_n 2, 1) := by decide +kernel
theorem dX1_firstOf_2 : decode cX1_firstOf 2 = .ok (.iconst 0, 1) := by decide +kernel
theorem dX1_firstOf_3 : decode cX1_firstOf 3 = .ok (.istore_n 3, 1) := by decide +kernel
theorem dX1_firstOf_4 : decode cX1_firstOf 4 = .ok (.iload_n 3, 1) := by decide +kernel
theorem dX1_firstOf_5 : decode cX1_firstOf 5 = .ok (.aload_n 0, 1) := by decide +kernel
theorem dX1_firstOf_6 : decode cX1_firstOf 6 = .ok (.getfield 18, 3) := by decide +kernel
theorem dX1_firstOf_9 : decode cX1_firstOf 9 = .ok (.if_icmp .ge 27, 3) := by decide +kernel
theorem dX1_firstOf_12 : decode cX1_firstOf 12 = .ok (.iload_n 2, 1) := by decide +kernel
theorem dX1_firstOf_13 : decode cX1_firstOf 13 = .ok (.aload_n 0, 1) := by decide +kernel
theorem dX1_firstOf_14 : decode cX1_firstOf 14 = .ok (.getfield 30, 3) := by decide +kernel
theorem dX1_firstOf_17 : decode cX1_firstOf 17 = .ok (.iload_n 3, 1) := by decide +kernel
theorem dX1_firstOf_18 : decode cX1_firstOf 18 = .ok (.invokevirtual 47, 3) := by decide +kernel
theorem dX1_firstOf_21 : decode cX1_firstOf 21 = .ok (.iadd, 1) := by decide +kernel
theorem dX1_firstOf_22 : decode cX1_firstOf 22 = .ok (.istore_n 2, 1) := by decide +kernel
theorem dX1_firstOf_23 : decode cX1_firstOf 23 = .ok (.iload_n 2, 1) := by decide +kernel
theorem dX1_firstOf_24 : decode cX1_firstOf 24 = .ok (.iload_n 1, 1) := by decide +kernel
theorem dX1_firstOf_25 : decode cX1_firstOf 25 = .ok (.if_icmp .le 5, 3) := by decide +kernel
theorem dX1_firstOf_28 : decode cX1_firstOf 28 = .ok (.iload_n 3, 1) := by decide +kernel
theorem dX1_firstOf_29 : decode cX1_firstOf 29 = .ok (.ireturn, 1) := by decide +kernel
theorem dX1_firstOf_30 : decode cX1_firstOf 30 = .ok (.iinc 3 1, 3) := by decide +kernel
theorem dX1_firstOf_33 : decode cX1_firstOf 33 = .ok (.goto (-29), 3) := by decide +kernel
theorem dX1_firstOf_36 : decode cX1_firstOf 36 = .ok (.aload_n 0, 1) := by decide +kernel
theorem dX1_firstOf_37 : decode cX1_firstOf 37 = .ok (.getfield 18, 3) := by decide +kernel
theorem dX1_firstOf_40 : decode cX1_firstOf 40 = .ok (.ireturn, 1) := by decide +kernel
set_option maxRecDepth 20000 in
theorem ggX1_endOf_X2_get : GoodIn wsX1_endOf wsX2_get := goodIn_r _ [7, 8, 15] (by decide +kernel) (by decide +kernel)
set_option maxRecDepth 20000 in
theorem gX1_endOf_X2_get : GoodIn wsX1_endOf (wsV RX1 47 RX2 yX2_get wsX2_get) := goodIn_app (goodIn_of _ (by decide +kernel)) ggX1_endOf_X2_get
theorem dX1_endOf_0 : decode cX1_endOf 0 = .ok (.iload_n 1, 1) := by decide +kernel
theorem dX1_endOf_1 : decode cX1_endOf 1 = .ok (.iconst 1, 1) := by decide +kernel
theorem dX1_endOf_2 : decode cX1_endOf 2 = .ok (.iadd, 1) := by decide +kernel
theorem dX1_endOf_3 : decode cX1_endOf 3 = .ok (.istore_n 2, 1) := by decide +kernel
theorem dX1_endOf_4 : decode cX1_endOf 4 = .ok (.iload_n 2, 1) := by decide +kernel
theorem dX1_endOf_5 : decode cX1_endOf 5 = .ok (.aload_n 0, 1) := by decide +kernel
theorem dX1_endOf_6 : decode cX1_endOf 6 = .ok (.getfield 18, 3) := by decide +kernel
theorem dX1_endOf_9 : decode cX1_endOf 9 = .ok (.if_icmp .ge 23, 3) := by decide +kernel
theorem dX1_endOf_12 : decode cX1_endOf 12 = .ok (.aload_n 0, 1) := by decide +kernel
theorem dX1_endOf_13 : decode cX1_endOf 13 = .ok (.getfield 30, 3) := by decide +kernel
theorem dX1_endOf_16 : decode cX1_endOf 16 = .ok (.iload_n 2, 1) := by decide +kernel
theorem dX1_endOf_17 : decode cX1_endOf 17 = .ok (.invokevirtual 47, 3) := by decide +kernel
theorem dX1_endOf_20 : decode cX1_endOf 20 = .ok (.iconst 1, 1) := by decide +kernel
theorem dX1_endOf_21 : decode cX1_endOf 21 = .ok (.if_icmp .ne 5, 3) := by decide +kernel
theorem dX1_endOf_24 : decode cX1_endOf 24 = .ok (.iload_n 2, 1) := by decide +kernel
theorem dX1_endOf_25 : decode cX1_endOf 25 = .ok (.ireturn, 1) := by decide +kernel
theorem dX1_endOf_26 : decode cX1_endOf 26 = .ok (.iinc 2 1, 3) := by decide +kernel
theorem dX1_endOf_29 : decode cX1_endOf 29 = .ok (.goto (-25), 3) := by decide +kernel
theorem dX1_endOf_32 : decode cX1_endOf 32 = .ok (.aload_n 0, 1) := by decide +kernel
theorem dX1_endOf_33 : decode cX1_endOf 33 = .ok (.getfield 18, 3) := by decide +kernel
theorem dX1_endOf_36 : decode cX1_endOf 36 = .ok (.ireturn, 1) := by decide +kernel
set_option maxRecDepth 20000 in
theorem ggX1_lineOf_X2_get : GoodIn wsX1_lineOf wsX2_get := goodIn_r _ [7, 8, 15] (by decide +kernel) (by decide +kernel)
set_option maxRecDepth 20000 in
theorem gX1_lineOf_X2_get : GoodIn wsX1_lineOf (wsV RX1 47 RX2 yX2_get wsX2_get) := goodIn_app (goodIn_of _ (by decide +kernel)) ggX1_lineOf_X2_get
theorem dX1_lineOf_0 : decode cX1_lineOf 0 = .ok (.iconst (-1), 1) := by decide +kernel
theorem dX1_lineOf_1 : decode cX1_lineOf 1 = .ok (.istore_n 2, 1) := by decide +kernel
theorem dX1_lineOf_2 : decode cX1_lineOf 2 = .ok (.iconst 0, 1) := by decide +kernel
theorem dX1_lineOf_3 : decode cX1_lineOf 3 = .ok (.istore_n 3, 1) := by decide +kernel
theorem dX1_lineOf_4 : decode cX1_lineOf 4 = .ok (.iload_n 3, 1) := by decide +kernel
theorem dX1_lineOf_5 : decode cX1_lineOf 5 = .ok (.iload_n 1, 1) := by decide +kernel
theorem dX1_lineOf_6 : decode cX1_lineOf 6 = .ok (.if_icmp .gt 28, 3) := by decide +kernel
theorem dX1_lineOf_9 : decode cX1_lineOf 9 = .ok (.iload_n 3, 1) := by decide +kernel
theorem dX1_lineOf_10 : decode cX1_lineOf 10 = .ok (.aload_n 0, 1) := by decide +kernel
theorem dX1_lineOf_11 : decode cX1_lineOf 11 = .ok (.getfield 18, 3) := by decide +kernel
theorem dX1_lineOf_14 : decode cX1_lineOf 14 = .ok (.if_icmp .ge 20, 3) := by decide +kernel
theorem dX1_lineOf_17 : decode cX1_lineOf 17 = .ok (.iload_n 2, 1) := by decide +kernel
theorem dX1_lineOf_18 : decode cX1_lineOf 18 = .ok (.aload_n 0, 1) := by decide +kernel
theorem dX1_lineOf_19 : decode cX1_lineOf 19 = .ok (.getfield 30, 3) := by decide +kernel
theorem dX1_lineOf_22 : decode cX1_lineOf 22 = .ok (.iload_n 3, 1) := by decide +kernel
theorem dX1_lineOf_23 : decode cX1_lineOf 23 = .ok (.invokevirtual 47, 3) := by decide +kernel
theorem dX1_lineOf_26 : decode cX1_lineOf 26 = .ok (.iadd, 1) := by decide +kernel
theorem dX1_lineOf_27 : decode cX1_lineOf 27 = .ok (.istore_n 2, 1) := by decide +kernel
theorem dX1_lineOf_28 : decode cX1_lineOf 28 = .ok (.iinc 3 1, 3) := by decide +kernel
theorem dX1_lineOf_31 : decode cX1_lineOf 31 = .ok (.goto (-27), 3) := by decide +kernel
theorem dX1_lineOf_34 : decode cX1_lineOf 34 = .ok (.iload_n 2, 1) := by decide +kernel
theorem dX1_lineOf_35 : decode cX1_lineOf 35 = .ok (.ireturn, 1) := by decide +kernel
set_option maxRecDepth 20000 in
theorem ggX1_isLine_X2_get : GoodIn wsX1_isLine wsX2_get := goodIn_r _ [6, 7, 20] (by decide +kernel) (by decide +kernel)
set_option maxRecDepth 20000 in
theorem gX1_isLine_X2_get : GoodIn wsX1_isLine (wsV RX1 47 RX2 yX2_get wsX2_get) := goodIn_app (goodIn_of _ (by decide +kernel)) ggX1_isLine_X2_get
set_option maxRecDepth 20000 in
theorem ggX1_isLine_X1_endOf : GoodIn wsX1_isLine wsX1_endOf := goodIn_r _ [12, 13, 1, 2, 3, 4, 5, 6, 7, 14, 15, 16, 17, 18, 19, 20] (by decide +kernel) (by decide +kernel)
set_option maxRecDepth 20000 in
theorem gX1_isLine_X1_endOf : GoodIn wsX1_isLine (wsV RX1 55 RX1 yX1_endOf wsX1_endOf) := goodIn_app (goodIn_of _ (by decide +kernel)) ggX1_isLine_X1_endOf
theorem dX1_isLine_0 : decode cX1_isLine 0 = .ok (.aload_n 0, 1) := by decide +kernel
theorem dX1_isLine_1 : decode cX1_isLine 1 = .ok (.getfield 30, 3) := by decide +kernel
theorem dX1_isLine_4 : decode cX1_isLine 4 = .ok (.iload_n 1, 1) := by decide +kernel
theorem dX1_isLine_5 : decode cX1_isLine 5 = .ok (.invokevirtual 47, 3) := by decide +kernel
theorem dX1_isLine_8 : decode cX1_isLine 8 = .ok (.iconst 1, 1) := by decide +kernel
theorem dX1_isLine_9 : decode cX1_isLine 9 = .ok (.if_icmp .ne 16, 3) := by decide +kernel
theorem dX1_isLine_12 : decode cX1_isLine 12 = .ok (.aload_n 0, 1) := by decide +kernel
theorem dX1_isLine_13 : decode cX1_isLine 13 = .ok (.iload_n 1, 1) := by decide +kernel
theorem dX1_isLine_14 : decode cX1_isLine 14 = .ok (.invokevirtual 55, 3) := by decide +kernel
theorem dX1_isLine_17 : decode cX1_isLine 17 = .ok (.iload_n 2, 1) := by decide +kernel
theorem dX1_isLine_18 : decode cX1_isLine 18 = .ok (.if_icmp .ne 7, 3) := by decide +kernel
theorem dX1_isLine_21 : decode cX1_isLine 21 = .ok (.iconst 1, 1) := by decide +kernel
theorem dX1_isLine_22 : decode cX1_isLine 22 = .ok (.goto 4, 3) := by decide +kernel
theorem dX1_isLine_25 : decode cX1_isLine 25 = .ok (.iconst 0, 1) := by decide +kernel
theorem dX1_isLine_26 : decode cX1_isLine 26 = .ok (.ireturn, 1) := by decide +kernel
set_option maxRecDepth 20000 in
theorem ggX1_hasFrozen_X1_isFrozen : GoodIn wsX1_hasFrozen wsX1_isFrozen := goodIn_r _ [5, 6, 7, 8, 9, 10, 11, 12, 13, 14, 15, 16, 17, 18, 19] (by decide +kernel) (by decide +kernel)
set_option maxRecDepth 20000 in
theorem gX1_hasFrozen_X1_isFrozen : GoodIn wsX1_hasFrozen (wsV RX1 58 RX1 yX1_isFrozen wsX1_isFrozen) := goodIn_app (goodIn_of _ (by decide +kernel)) ggX1_hasFrozen_X1_isFrozen
theorem dX1_hasFrozen_0 : decode cX1_hasFrozen 0 = .ok (.iload_n 1, 1) := by decide +kernel
theorem dX1_hasFrozen_1 : decode cX1_hasFrozen 1 = .ok (.istore_n 3, 1) := by decide +kernel
theorem dX1_hasFrozen_2 : decode cX1_hasFrozen 2 = .ok (.iload_n 3, 1) := by decide +kernel
theorem dX1_hasFrozen_3 : decode cX1_hasFrozen 3 = .ok (.iload_n 2, 1) := by decide +kernel
theorem dX1_hasFrozen_4 : decode cX1_hasFrozen 4 = .ok (.if_icmp .ge 19, 3) := by decide +kernel
theorem dX1_hasFrozen_7 : decode cX1_hasFrozen 7 = .ok (.aload_n 0, 1) := by decide +kernel
theorem dX1_hasFrozen_8 : decode cX1_hasFrozen 8 = .ok (.iload_n 3, 1) := by decide +kernel
theorem dX1_hasFrozen_9 : decode cX1_hasFrozen 9 = .ok (.invokevirtual 58, 3) := by decide +kernel
theorem dX1_hasFrozen_12 : decode cX1_hasFrozen 12 = .ok (.ifCond .eq 5, 3) := by decide +kernel
theorem dX1_hasFrozen_15 : decode cX1_hasFrozen 15 = .ok (.iconst 1, 1) := by decide +kernel
theorem dX1_hasFrozen_16 : decode cX1_hasFrozen 16 = .ok (.ireturn, 1) := by decide +kernel
theorem dX1_hasFrozen_17 : decode cX1_hasFrozen 17 = .ok (.iinc 3 1, 3) := by decide +kernel
theorem dX1_hasFrozen_20 : decode cX1_hasFrozen 20 = .ok (.goto (-18), 3) := by decide +kernel
theorem dX1_hasFrozen_23 : decode cX1_hasFrozen 23 = .ok (.iconst 0, 1) := by decide +kernel
theorem dX1_hasFrozen_24 : decode cX1_hasFrozen 24 = .ok (.ireturn, 1) := by decide +kernel
set_option maxRecDepth 20000 in
theorem ggX1_extra_X2_get : GoodIn wsX1_extra wsX2_get := goodIn_r _ [7, 8, 15] (by decide +kernel) (by decide +kernel)
set_option maxRecDepth 20000 in
theorem gX1_extra_X2_get : GoodIn wsX1_extra (wsV RX1 47 RX2 yX2_get wsX2_get) := goodIn_app (goodIn_of _ (by decide +kernel)) ggX1_extra_X2_get
theorem dX1_extra_0 : decode cX1_extra 0 = .ok (.aload_n 0, 1) := by decide +kernel
theorem dX1_extra_1 : decode cX1_extra 1 = .ok (.getfield 9, 3) := by decide +kernel
theorem dX1_extra_4 : decode cX1_extra 4 = .ok (.iload_n 2, 1) := by decide +kernel
theorem dX1_extra_5 : decode cX1_extra 5 = .ok (.iload_n 1, 1) := by decide +kernel
theorem dX1_extra_6 : decode cX1_extra 6 = .ok (.isub, 1) := by decide +kernel
theorem dX1_extra_7 : decode cX1_extra 7 = .ok (.iconst 1, 1) := by decide +kernel
theorem dX1_extra_8 : decode cX1_extra 8 = .ok (.isub, 1) := by decide +kernel
theorem dX1_extra_9 : decode cX1_extra 9 = .ok (.isub, 1) := by decide +kernel
theorem dX1_extra_10 : decode cX1_extra 10 = .ok (.istore_n 3, 1) := by decide +kernel
theorem dX1_extra_11 : decode cX1_extra 11 = .ok (.iload_n 1, 1) := by decide +kernel
theorem dX1_extra_12 : decode cX1_extra 12 = .ok (.istore 4, 2) := by decide +kernel
theorem dX1_extra_14 : decode cX1_extra 14 = .ok (.iload 4, 2) := by decide +kernel
theorem dX1_extra_16 : decode cX1_extra 16 = .ok (.iload_n 2, 1) := by decide +kernel
theorem dX1_extra_17 : decode cX1_extra 17 = .ok (.if_icmp .ge 21, 3) := by decide +kernel
theorem dX1_extra_20 : decode cX1_extra 20 = .ok (.iload_n 3, 1) := by decide +kernel
theorem dX1_extra_21 : decode cX1_extra 21 = .ok (.aload_n 0, 1) := by decide +kernel
theorem dX1_extra_22 : decode cX1_extra 22 = .ok (.getfield 26, 3) := by decide +kernel
theorem dX1_extra_25 : decode cX1_extra 25 = .ok (.iload 4, 2) := by decide +kernel
theorem dX1_extra_27 : decode cX1_extra 27 = .ok (.invokevirtual 47, 3) := by decide +kernel
theorem dX1_extra_30 : decode cX1_extra 30 = .ok (.isub, 1) := by decide +kernel
theorem dX1_extra_31 : decode cX1_extra 31 = .ok (.istore_n 3, 1) := by decide +kernel
theorem dX1_extra_32 : decode cX1_extra 32 = .ok (.iinc 4 1, 3) := by decide +kernel
theorem dX1_extra_35 : decode cX1_extra 35 = .ok (.goto (-21), 3) := by decide +kernel
theorem dX1_extra_38 : decode cX1_extra 38 = .ok (.iload_n 3, 1) := by decide +kernel
theorem dX1_extra_39 : decode cX1_extra 39 = .ok (.ireturn, 1) := by decide +kernel
set_option maxRecDepth 20000 in
theorem ggX1_fits_X1_extra : GoodIn wsX1_fits wsX1_extra := goodIn_r _ [5, 6, 7, 8, 9, 10, 11, 12, 13, 14, 15, 16, 17, 18, 19, 20] (by decide +kernel) (by decide +kernel)
set_option maxRecDepth 20000 in
theorem gX1_fits_X1_extra : GoodIn wsX1_fits (wsV RX1 62 RX1 yX1_extra wsX1_extra) := goodIn_app (goodIn_of _ (by decide +kernel)) ggX1_fits_X1_extra
theorem dX1_fits_0 : decode cX1_fits 0 = .ok (.aload_n 0, 1) := by decide +kernel
theorem dX1_fits_1 : decode cX1_fits 1 = .ok (.iload_n 1, 1) := by decide +kernel
theorem dX1_fits_2 : decode cX1_fits 2 = .ok (.iload_n 2, 1) := by decide +kernel
theorem dX1_fits_3 : decode cX1_fits 3 = .ok (.invokevirtual 62, 3) := by decide +kernel
theorem dX1_fits_6 : decode cX1_fits 6 = .ok (.ifCond .lt 7, 3) := by decide +kernel
theorem dX1_fits_9 : decode cX1_fits 9 = .ok (.iconst 1, 1) := by decide +kernel
theorem dX1_fits_10 : decode cX1_fits 10 = .ok (.goto 4, 3) := by decide +kernel
theorem dX1_fits_13 : decode cX1_fits 13 = .ok (.iconst 0, 1) := by decide +kernel
theorem dX1_fits_14 : decode cX1_fits 14 = .ok (.ireturn, 1) := by decide +kernel
set_option maxRecDepth 20000 in
theorem ggX1_badness_X1_extra : GoodIn wsX1_badness wsX1_extra := goodIn_r _ [6, 7, 8, 9, 10, 11, 12, 13, 14, 15, 16, 17, 18, 19, 20, 21] (by decide +kernel) (by decide +kernel)
set_option maxRecDepth 20000 in
theorem gX1_badness_X1_extra : GoodIn wsX1_badness (wsV RX1 62 RX1 yX1_extra wsX1_extra) := goodIn_app (goodIn_of _ (by decide +kernel)) ggX1_badness_X1_extra
theorem dX1_badness_0 : decode cX1_badness 0 = .ok (.aload_n 0, 1) := by decide +kernel
theorem dX1_badness_1 : decode cX1_badness 1 = .ok (.iload_n 1, 1) := by decide +kernel
theorem dX1_badness_2 : decode cX1_badness 2 = .ok (.iload_n 2, 1) := by decide +kernel
theorem dX1_badness_3 : decode cX1_badness 3 = .ok (.invokevirtual 62, 3) := by decide +kernel
theorem dX1_badness_6 : decode cX1_badness 6 = .ok (.istore_n 3, 1) := by decide +kernel
theorem dX1_badness_7 : decode cX1_badness 7 = .ok (.iload_n 2, 1) := by decide +kernel
theorem dX1_badness_8 : decode cX1_badness 8 = .ok (.aload_n 0, 1) := by decide +kernel
theorem dX1_badness_9 : decode cX1_badness 9 = .ok (.getfield 18, 3) := by decide +kernel
theorem dX1_badness_12 : decode cX1_badness 12 = .ok (.if_icmp .lt 7, 3) := by decide +kernel
theorem dX1_badness_15 : decode cX1_badness 15 = .ok (.iconst 0, 1) := by decide +kernel
theorem dX1_badness_16 : decode cX1_badness 16 = .ok (.goto 6, 3) := by decide +kernel
theorem dX1_badness_19 : decode cX1_badness 19 = .ok (.iload_n 3, 1) := by decide +kernel
theorem dX1_badness_20 : decode cX1_badness 20 = .ok (.iload_n 3, 1) := by decide +kernel
theorem dX1_badness_21 : decode cX1_badness 21 = .ok (.imul, 1) := by decide +kernel
theorem dX1_badness_22 : decode cX1_badness 22 = .ok (.ireturn, 1) := by decide +kernel
set_option maxRecDepth 20000 in
theorem ggX1_badnessOfAll_X2_get : GoodIn wsX1_badnessOfAll wsX2_get := goodIn_r _ [7, 8, 30] (by decide +kernel) (by decide +kernel)
set_option maxRecDepth 20000 in
theorem gX1_badnessOfAll_X2_get : GoodIn wsX1_badnessOfAll (wsV RX1 47 RX2 yX2_get wsX2_get) := goodIn_app (goodIn_of _ (by decide +kernel)) ggX1_badnessOfAll_X2_get
set_option maxRecDepth 20000 in
theorem ggX1_badnessOfAll_X1_endOf : GoodIn wsX1_badnessOfAll wsX1_endOf := goodIn_r _ [13, 1, 2, 3, 4, 5, 6, 7, 8, 24, 25, 26, 27, 28, 29, 30] (by decide +kernel) (by decide +kernel)
set_option maxRecDepth 20000 in
theorem gX1_badnessOfAll_X1_endOf : GoodIn wsX1_badnessOfAll (wsV RX1 55 RX1 yX1_endOf wsX1_endOf) := goodIn_app (goodIn_of _ (by decide +kernel)) ggX1_badnessOfAll_X1_endOf
set_option maxRecDepth 20000 in
theorem ggX1_badnessOfAll_X1_badness : GoodIn wsX1_badnessOfAll wsX1_badness := goodIn_r _ [17, 1, 18, 19, 20, 12, 21, 22, 23, 3, 4, 5, 6, 7, 8, 24, 25, 26, 27, 28, 29, 30] (by decide +kernel) (by decide +kernel)
set_option maxRecDepth 20000 in
theorem gX1_badnessOfAll_X1_badness : GoodIn wsX1_badnessOfAll (wsV RX1 66 RX1 yX1_badness wsX1_badness) := goodIn_app (goodIn_of _ (by decide +kernel)) ggX1_badnessOfAll_X1_badness
theorem dX1_badnessOfAll_0 : decode cX1_badnessOfAll 0 = .ok (.iconst 0, 1) := by decide +kernel
theorem dX1_badnessOfAll_1 : decode cX1_badnessOfAll 1 = .ok (.istore_n 1, 1) := by decide +kernel
theorem dX1_badnessOfAll_2 : decode cX1_badnessOfAll 2 = .ok (.iconst 0, 1) := by decide +kernel
theorem dX1_badnessOfAll_3 : decode cX1_badnessOfAll 3 = .ok (.istore_n 2, 1) := by decide +kernel
theorem dX1_badnessOfAll_4 : decode cX1_badnessOfAll 4 = .ok (.iload_n 2, 1) := by decide +kernel
theorem dX1_badnessOfAll_5 : decode cX1_badnessOfAll 5 = .ok (.aload_n 0, 1) := by decide +kernel
theorem dX1_badnessOfAll_6 : decode cX1_badnessOfAll 6 = .ok (.getfield 18, 3) := by decide +kernel
theorem dX1_badnessOfAll_9 : decode cX1_badnessOfAll 9 = .ok (.if_icmp .ge 34, 3) := by decide +kernel
theorem dX1_badnessOfAll_12 : decode cX1_badnessOfAll 12 = .ok (.aload_n 0, 1) := by decide +kernel
theorem dX1_badnessOfAll_13 : decode cX1_badnessOfAll 13 = .ok (.getfield 30, 3) := by decide +kernel
theorem dX1_badnessOfAll_16 : decode cX1_badnessOfAll 16 = .ok (.iload_n 2, 1) := by decide +kernel
theorem dX1_badnessOfAll_17 : decode cX1_badnessOfAll 17 = .ok (.invokevirtual 47, 3) := by decide +kernel
theorem dX1_badnessOfAll_20 : decode cX1_badnessOfAll 20 = .ok (.iconst 1, 1) := by decide +kernel
theorem dX1_badnessOfAll_21 : decode cX1_badnessOfAll 21 = .ok (.if_icmp .ne 16, 3) := by decide +kernel
theorem dX1_badnessOfAll_24 : decode cX1_badnessOfAll 24 = .ok (.iload_n 1, 1) := by decide +kernel
theorem dX1_badnessOfAll_25 : decode cX1_badnessOfAll 25 = .ok (.aload_n 0, 1) := by decide +kernel
theorem dX1_badnessOfAll_26 : decode cX1_badnessOfAll 26 = .ok (.iload_n 2, 1) := by decide +kernel
theorem dX1_badnessOfAll_27 : decode cX1_badnessOfAll 27 = .ok (.aload_n 0, 1) := by decide +kernel
theorem dX1_badnessOfAll_28 : decode cX1_badnessOfAll 28 = .ok (.iload_n 2, 1) := by decide +kernel
theorem dX1_badnessOfAll_29 : decode cX1_badnessOfAll 29 = .ok (.invokevirtual 55, 3) := by decide +kernel
theorem dX1_badnessOfAll_32 : decode cX1_badnessOfAll 32 = .ok (.invokevirtual 66, 3) := by decide +kernel
theorem dX1_badnessOfAll_35 : decode cX1_badnessOfAll 35 = .ok (.iadd, 1) := by decide +kernel
theorem dX1_badnessOfAll_36 : decode cX1_badnessOfAll 36 = .ok (.istore_n 1, 1) := by decide +kernel
theorem dX1_badnessOfAll_37 : decode cX1_badnessOfAll 37 = .ok (.iinc 2 1, 3) := by decide +kernel
theorem dX1_badnessOfAll_40 : decode cX1_badnessOfAll 40 = .ok (.goto (-36), 3) := by decide +kernel
theorem dX1_badnessOfAll_43 : decode cX1_badnessOfAll 43 = .ok (.iload_n 1, 1) := by decide +kernel
theorem dX1_badnessOfAll_44 : decode cX1_badnessOfAll 44 = .ok (.ireturn, 1) := by decide +kernel
set_option maxRecDepth 20000 in
theorem ggX1_fill_X1_joinAll : GoodIn wsX1_fill wsX1_joinAll := goodIn_r _ [6, 7, 8, 9, 10, 11, 12, 13, 36, 37, 38, 39, 40, 41, 42] (by decide +kernel) (by decide +kernel)
set_option maxRecDepth 20000 in
theorem gX1_fill_X1_joinAll : GoodIn wsX1_fill (wsV RX1 69 RX1 yX1_joinAll wsX1_joinAll) := goodIn_app (goodIn_of _ (by decide +kernel)) ggX1_fill_X1_joinAll
set_option maxRecDepth 20000 in
theorem ggX1_fill_X1_fits : GoodIn wsX1_fill wsX1_fits := goodIn_r _ [17, 18, 19, 20, 5, 21, 22, 23, 24, 25, 26, 11, 27, 13, 36, 37, 38, 39, 40, 41, 42] (by decide +kernel) (by decide +kernel)
set_option maxRecDepth 20000 in
theorem gX1_fill_X1_fits : GoodIn wsX1_fill (wsV RX1 72 RX1 yX1_fits wsX1_fits) := goodIn_app (goodIn_of _ (by decide +kernel)) ggX1_fill_X1_fits
set_option maxRecDepth 20000 in
theorem ggX1_fill_X1_begin : GoodIn wsX1_fill wsX1_begin := goodIn_r _ [31, 1, 7, 32, 33, 34, 11, 35, 13, 36, 37, 38, 39, 40, 41, 42] (by decide +kernel) (by decide +kernel)
set_option maxRecDepth 20000 in
theorem gX1_fill_X1_begin : GoodIn wsX1_fill (wsV RX1 76 RX1 yX1_begin wsX1_begin) := goodIn_app (goodIn_of _ (by decide +kernel)) ggX1_fill_X1_begin
theorem dX1_fill_0 : decode cX1_fill 0 = .ok (.aload_n 0, 1) := by decide +kernel
theorem dX1_fill_1 : decode cX1_fill 1 = .ok (.invokevirtual 69, 3) := by decide +kernel
theorem dX1_fill_4 : decode cX1_fill 4 = .ok (.iconst 0, 1) := by decide +kernel
theorem dX1_fill_5 : decode cX1_fill 5 = .ok (.istore_n 1, 1) := by decide +kernel
theorem dX1_fill_6 : decode cX1_fill 6 = .ok (.iconst 0, 1) := by decide +kernel
theorem dX1_fill_7 : decode cX1_fill 7 = .ok (.istore_n 2, 1) := by decide +kernel
theorem dX1_fill_8 : decode cX1_fill 8 = .ok (.iload_n 2, 1) := by decide +kernel
theorem dX1_fill_9 : decode cX1_fill 9 = .ok (.aload_n 0, 1) := by decide +kernel
theorem dX1_fill_10 : decode cX1_fill 10 = .ok (.getfield 18, 3) := by decide +kernel
theorem dX1_fill_13 : decode cX1_fill 13 = .ok (.if_icmp .ge 27, 3) := by decide +kernel
theorem dX1_fill_16 : decode cX1_fill 16 = .ok (.aload_n 0, 1) := by decide +kernel
theorem dX1_fill_17 : decode cX1_fill 17 = .ok (.iload_n 1, 1) := by decide +kernel
theorem dX1_fill_18 : decode cX1_fill 18 = .ok (.iload_n 2, 1) := by decide +kernel
theorem dX1_fill_19 : decode cX1_fill 19 = .ok (.iconst 1, 1) := by decide +kernel
theorem dX1_fill_20 : decode cX1_fill 20 = .ok (.iadd, 1) := by decide +kernel
theorem dX1_fill_21 : decode cX1_fill 21 = .ok (.invokevirtual 72, 3) := by decide +kernel
theorem dX1_fill_24 : decode cX1_fill 24 = .ok (.ifCond .ne 5, 3) := by decide +kernel
theorem dX1_fill_27 : decode cX1_fill 27 = .ok (.iload_n 2, 1) := by decide +kernel
theorem dX1_fill_28 : decode cX1_fill 28 = .ok (.istore_n 1, 1) := by decide +kernel
theorem dX1_fill_29 : decode cX1_fill 29 = .ok (.aload_n 0, 1) := by decide +kernel
theorem dX1_fill_30 : decode cX1_fill 30 = .ok (.iload_n 1, 1) := by decide +kernel
theorem dX1_fill_31 : decode cX1_fill 31 = .ok (.invokevirtual 76, 3) := by decide +kernel
theorem dX1_fill_34 : decode cX1_fill 34 = .ok (.iinc 2 1, 3) := by decide +kernel
theorem dX1_fill_37 : decode cX1_fill 37 = .ok (.goto (-29), 3) := by decide +kernel
theorem dX1_fill_40 : decode cX1_fill 40 = .ok (.return_, 1) := by decide +kernel
theorem dX2_init_0 : decode cX2_init 0 = .ok (.aload_n 0, 1) := by decide +kernel
theorem dX2_init_1 : decode cX2_init 1 = .ok (.invokespecial 1, 3) := by decide +kernel
theorem dX2_init_4 : decode cX2_init 4 = .ok (.aload_n 0, 1) := by decide +kernel
theorem dX2_init_5 : decode cX2_init 5 = .ok (.iload_n 1, 1) := by decide +kernel
theorem dX2_init_6 : decode cX2_init 6 = .ok (.iconst 0, 1) := by decide +kernel
theorem dX2_init_7 : decode cX2_init 7 = .ok (.invokestatic 7, 3) := by decide +kernel
theorem dX2_init_10 : decode cX2_init 10 = .ok (.newarray .int, 2) := by decide +kernel
theorem dX2_init_12 : decode cX2_init 12 = .ok (.putfield 13, 3) := by decide +kernel
theorem dX2_init_15 : decode cX2_init 15 = .ok (.return_, 1) := by decide +kernel
theorem dX2_get_0 : decode cX2_get 0 = .ok (.iload_n 1, 1) := by decide +kernel
theorem dX2_get_1 : decode cX2_get 1 = .ok (.ifCond .lt 21, 3) := by decide +kernel
theorem dX2_get_4 : decode cX2_get 4 = .ok (.iload_n 1, 1) := by decide +kernel
theorem dX2_get_5 : decode cX2_get 5 = .ok (.aload_n 0, 1) := by decide +kernel
theorem dX2_get_6 : decode cX2_get 6 = .ok (.getfield 13, 3) := by decide +kernel
theorem dX2_get_9 : decode cX2_get 9 = .ok (.arraylength, 1) := by decide +kernel
theorem dX2_get_10 : decode cX2_get 10 = .ok (.if_icmp .ge 12, 3) := by decide +kernel
theorem dX2_get_13 : decode cX2_get 13 = .ok (.aload_n 0, 1) := by decide +kernel
theorem dX2_get_14 : decode cX2_get 14 = .ok (.getfield 13, 3) := by decide +kernel
theorem dX2_get_17 : decode cX2_get 17 = .ok (.iload_n 1, 1) := by decide +kernel
theorem dX2_get_18 : decode cX2_get 18 = .ok (.iaload, 1) := by decide +kernel
theorem dX2_get_19 : decode cX2_get 19 = .ok (.goto 4, 3) := by decide +kernel
theorem dX2_get_22 : decode cX2_get 22 = .ok (.iconst 0, 1) := by decide +kernel
theorem dX2_get_23 : decode cX2_get 23 = .ok (.ireturn, 1) := by decide +kernel
theorem dX2_set_0 : decode cX2_set 0 = .ok (.iload_n 1, 1) := by decide +kernel
theorem dX2_set_1 : decode cX2_set 1 = .ok (.ifCond .lt 19, 3) := by decide +kernel
theorem dX2_set_4 : decode cX2_set 4 = .ok (.iload_n 1, 1) := by decide +kernel
theorem dX2_set_5 : decode cX2_set 5 = .ok (.aload_n 0, 1) := by decide +kernel
theorem dX2_set_6 : decode cX2_set 6 = .ok (.getfield 13, 3) := by decide +kernel
theorem dX2_set_9 : decode cX2_set 9 = .ok (.arraylength, 1) := by decide +kernel
theorem dX2_set_10 : decode cX2_set 10 = .ok (.if_icmp .ge 10, 3) := by decide +kernel
theorem dX2_set_13 : decode cX2_set 13 = .ok (.aload_n 0, 1) := by decide +kernel
theorem dX2_set_14 : decode cX2_set 14 = .ok (.getfield 13, 3) := by decide +kernel
theorem dX2_set_17 : decode cX2_set 17 = .ok (.iload_n 1, 1) := by decide +kernel
theorem dX2_set_18 : decode cX2_set 18 = .ok (.iload_n 2, 1) := by decide +kernel
theorem dX2_set_19 : decode cX2_set 19 = .ok (.iastore, 1) := by decide +kernel
theorem dX2_set_20 : decode cX2_set 20 = .ok (.return_, 1) := by decide +kernel
theorem dX2_clear_0 : decode cX2_clear 0 = .ok (.iconst 0, 1) := by decide +kernel
theorem dX2_clear_1 : decode cX2_clear 1 = .ok (.istore_n 1, 1) := by decide +kernel
theorem dX2_clear_2 : decode cX2_clear 2 = .ok (.iload_n 1, 1) := by decide +kernel
theorem dX2_clear_3 : decode cX2_clear 3 = .ok (.aload_n 0, 1) := by decide +kernel
theorem dX2_clear_4 : decode cX2_clear 4 = .ok (.getfield 13, 3) := by decide +kernel
theorem dX2_clear_7 : decode cX2_clear 7 = .ok (.arraylength, 1) := by decide +kernel
theorem dX2_clear_8 : decode cX2_clear 8 = .ok (.if_icmp .ge 16, 3) := by decide +kernel
theorem dX2_clear_11 : decode cX2_clear 11 = .ok (.aload_n 0, 1) := by decide +kernel
theorem dX2_clear_12 : decode cX2_clear 12 = .ok (.getfield 13, 3) := by decide +kernel
theorem dX2_clear_15 : decode cX2_clear 15 = .ok (.iload_n 1, 1) := by decide +kernel
theorem dX2_clear_16 : decode cX2_clear 16 = .ok (.iconst 0, 1) := by decide +kernel
theorem dX2_clear_17 : decode cX2_clear 17 = .ok (.iastore, 1) := by decide +kernel
theorem dX2_clear_18 : decode cX2_clear 18 = .ok (.iinc 1 1, 3) := by decide +kernel
theorem dX2_clear_21 : decode cX2_clear 21 = .ok (.goto (-19), 3) := by decide +kernel
theorem dX2_clear_24 : decode cX2_clear 24 = .ok (.return_, 1) := by decide +kernel
set_option maxRecDepth 20000 in
theorem ggX2_copyFrom_X2_get : GoodIn wsX2_copyFrom wsX2_get := goodIn_r _ [6, 1, 7] (by decide +kernel) (by decide +kernel)
set_option maxRecDepth 20000 in
theorem gX2_copyFrom_X2_get : GoodIn wsX2_copyFrom (wsV RX2 19 RX2 yX2_get wsX2_get) := goodIn_app (goodIn_of _ (by decide +kernel)) ggX2_copyFrom_X2_get
theorem dX2_copyFrom_0 : decode cX2_copyFrom 0 = .ok (.iconst 0, 1) := by decide +kernel
theorem dX2_copyFrom_1 : decode cX2_copyFrom 1 = .ok (.istore_n 2, 1) := by decide +kernel
theorem dX2_copyFrom_2 : decode cX2_copyFrom 2 = .ok (.iload_n 2, 1) := by decide +kernel
theorem dX2_copyFrom_3 : decode cX2_copyFrom 3 = .ok (.aload_n 0, 1) := by decide +kernel
theorem dX2_copyFrom_4 : decode cX2_copyFrom 4 = .ok (.getfield 13, 3) := by decide +kernel
theorem dX2_copyFrom_7 : decode cX2_copyFrom 7 = .ok (.arraylength, 1) := by decide +kernel
theorem dX2_copyFrom_8 : decode cX2_copyFrom 8 = .ok (.if_icmp .ge 20, 3) := by decide +kernel
theorem dX2_copyFrom_11 : decode cX2_copyFrom 11 = .ok (.aload_n 0, 1) := by decide +kernel
theorem dX2_copyFrom_12 : decode cX2_copyFrom 12 = .ok (.getfield 13, 3) := by decide +kernel
theorem dX2_copyFrom_15 : decode cX2_copyFrom 15 = .ok (.iload_n 2, 1) := by decide +kernel
theorem dX2_copyFrom_16 : decode cX2_copyFrom 16 = .ok (.aload_n 1, 1) := by decide +kernel
theorem dX2_copyFrom_17 : decode cX2_copyFrom 17 = .ok (.iload_n 2, 1) := by decide +kernel
theorem dX2_copyFrom_18 : decode cX2_copyFrom 18 = .ok (.invokevirtual 19, 3) := by decide +kernel
theorem dX2_copyFrom_21 : decode cX2_copyFrom 21 = .ok (.iastore, 1) := by decide +kernel
theorem dX2_copyFrom_22 : decode cX2_copyFrom 22 = .ok (.iinc 2 1, 3) := by decide +kernel
theorem dX2_copyFrom_25 : decode cX2_copyFrom 25 = .ok (.goto (-23), 3) := by decide +kernel
theorem dX2_copyFrom_28 : decode cX2_copyFrom 28 = .ok (.return_, 1) := by decide +kernel
set_option maxRecDepth 20000 in
theorem ggX3_init_X1_init : GoodIn wsX3_init wsX1_init := goodIn_r _ [25, 26, 2, 3, 27, 28, 29, 30, 18, 19, 31, 32, 33, 34, 35, 36, 37, 38, 39, 40, 41, 42, 43, 64, 65, 66, 67, 68, 69, 74] (by decide +kernel) (by decide +kernel)
set_option maxRecDepth 20000 in
theorem gX3_init_X1_init_n27 : GoodIn wsX3_init (wsX1_init) := ggX3_init_X1_init
set_option maxRecDepth 20000 in
theorem ggX3_init_X4_init : GoodIn wsX3_init wsX4_init := goodIn_r _ [45, 46, 2, 3, 47, 18, 19, 48, 49, 50, 51, 52, 35, 36, 37, 38, 39, 40, 41, 42, 43, 74, 70, 71, 72, 73] (by decide +kernel) (by decide +kernel)
set_option maxRecDepth 20000 in
theorem gX3_init_X4_init_n34 : GoodIn wsX3_init (wsX4_init) := ggX3_init_X4_init
set_option maxRecDepth 20000 in
theorem ggX3_init_X2_init : GoodIn wsX3_init wsX2_init := goodIn_r _ [36, 37, 2, 3, 38, 39, 40, 41, 42, 43, 74] (by decide +kernel) (by decide +kernel)
set_option maxRecDepth 20000 in
theorem gX3_init_X2_init : GoodIn wsX3_init (wsX2_init) := ggX3_init_X2_init
theorem dX3_init_0 : decode cX3_init 0 = .ok (.aload_n 0, 1) := by decide +kernel
theorem dX3_init_1 : decode cX3_init 1 = .ok (.invokespecial 3, 3) := by decide +kernel
theorem dX3_init_4 : decode cX3_init 4 = .ok (.aload_n 0, 1) := by decide +kernel
theorem dX3_init_5 : decode cX3_init 5 = .ok (.iconst 0, 1) := by decide +kernel
theorem dX3_init_6 : decode cX3_init 6 = .ok (.putfield 9, 3) := by decide +kernel
theorem dX3_init_9 : decode cX3_init 9 = .ok (.aload_n 0, 1) := by decide +kernel
theorem dX3_init_10 : decode cX3_init 10 = .ok (.iconst 0, 1) := by decide +kernel
theorem dX3_init_11 : decode cX3_init 11 = .ok (.putfield 15, 3) := by decide +kernel
theorem dX3_init_14 : decode cX3_init 14 = .ok (.aload_n 0, 1) := by decide +kernel
theorem dX3_init_15 : decode cX3_init 15 = .ok (.ldc 18, 2) := by decide +kernel
theorem dX3_init_17 : decode cX3_init 17 = .ok (.putfield 19, 3) := by decide +kernel
theorem dX3_init_20 : decode cX3_init 20 = .ok (.aload_n 0, 1) := by decide +kernel
theorem dX3_init_21 : decode cX3_init 21 = .ok (.iconst 0, 1) := by decide +kernel
theorem dX3_init_22 : decode cX3_init 22 = .ok (.putfield 22, 3) := by decide +kernel
theorem dX3_init_25 : decode cX3_init 25 = .ok (.aload_n 0, 1) := by decide +kernel
theorem dX3_init_26 : decode cX3_init 26 = .ok (.new 25, 3) := by decide +kernel
theorem dX3_init_29 : decode cX3_init 29 = .ok (.dup, 1) := by decide +kernel
theorem dX3_init_30 : decode cX3_init 30 = .ok (.invokespecial 27, 3) := by decide +kernel
theorem dX3_init_33 : decode cX3_init 33 = .ok (.putfield 28, 3) := by decide +kernel
theorem dX3_init_36 : decode cX3_init 36 = .ok (.aload_n 0, 1) := by decide +kernel
theorem dX3_init_37 : decode cX3_init 37 = .ok (.new 32, 3) := by decide +kernel
theorem dX3_init_40 : decode cX3_init 40 = .ok (.dup, 1) := by decide +kernel
theorem dX3_init_41 : decode cX3_init 41 = .ok (.invokespecial 34, 3) := by decide +kernel
theorem dX3_init_44 : decode cX3_init 44 = .ok (.putfield 35, 3) := by decide +kernel
theorem dX3_init_47 : decode cX3_init 47 = .ok (.aload_n 0, 1) := by decide +kernel
theorem dX3_init_48 : decode cX3_init 48 = .ok (.new 39, 3) := by decide +kernel
theorem dX3_init_51 : decode cX3_init 51 = .ok (.dup, 1) := by decide +kernel
theorem dX3_init_52 : decode cX3_init 52 = .ok (.sipush 576, 3) := by decide +kernel
theorem dX3_init_55 : decode cX3_init 55 = .ok (.invokespecial 41, 3) := by decide +kernel
theorem dX3_init_58 : decode cX3_init 58 = .ok (.putfield 44, 3) := by decide +kernel
theorem dX3_init_61 : decode cX3_init 61 = .ok (.aload_n 0, 1) := by decide +kernel
theorem dX3_init_62 : decode cX3_init 62 = .ok (.new 39, 3) := by decide +kernel
theorem dX3_init_65 : decode cX3_init 65 = .ok (.dup, 1) := by decide +kernel
theorem dX3_init_66 : decode cX3_init 66 = .ok (.bipush 25, 2) := by decide +kernel
theorem dX3_init_68 : decode cX3_init 68 = .ok (.invokespecial 41, 3) := by decide +kernel
theorem dX3_init_71 : decode cX3_init 71 = .ok (.putfield 48, 3) := by decide +kernel
theorem dX3_init_74 : decode cX3_init 74 = .ok (.aload_n 0, 1) := by decide +kernel
theorem dX3_init_75 : decode cX3_init 75 = .ok (.new 39, 3) := by decide +kernel
theorem dX3_init_78 : decode cX3_init 78 = .ok (.dup, 1) := by decide +kernel
theorem dX3_init_79 : decode cX3_init 79 = .ok (.bipush 24, 2) := by decide +kernel
theorem dX3_init_81 : decode cX3_init 81 = .ok (.invokespecial 41, 3) := by decide +kernel
theorem dX3_init_84 : decode cX3_init 84 = .ok (.putfield 51, 3) := by decide +kernel
theorem dX3_init_87 : decode cX3_init 87 = .ok (.aload_n 0, 1) := by decide +kernel
theorem dX3_init_88 : decode cX3_init 88 = .ok (.new 39, 3) := by decide +kernel
theorem dX3_init_91 : decode cX3_init 91 = .ok (.dup, 1) := by decide +kernel
theorem dX3_init_92 : decode cX3_init 92 = .ok (.bipush 24, 2) := by decide +kernel
theorem dX3_init_94 : decode cX3_init 94 = .ok (.invokespecial 41, 3) := by decide +kernel
theorem dX3_init_97 : decode cX3_init 97 = .ok (.putfield 54, 3) := by decide +kernel
theorem dX3_init_100 : decode cX3_init 100 = .ok (.return_, 1) := by decide +kernel
theorem dX3_forget_0 : decode cX3_forget 0 = .ok (.aload_n 0, 1) := by decide +kernel
theorem dX3_forget_1 : decode cX3_forget 1 = .ok (.iconst 0, 1) := by decide +kernel
theorem dX3_forget_2 : decode cX3_forget 2 = .ok (.putfield 22, 3) := by decide +kernel
theorem dX3_forget_5 : decode cX3_forget 5 = .ok (.return_, 1) := by decide +kernel
set_option maxRecDepth 20000 in
theorem ggX3_solve_X1_copyFrom : GoodIn wsX3_solve wsX1_copyFrom := goodIn_r _ [11, 12, 13, 14, 15, 16, 17, 18, 19, 20, 21, 22, 23, 24, 25, 26, 27, 136, 137, 138, 139, 140, 141, 142] (by decide +kernel) (by decide +kernel)
set_option maxRecDepth 20000 in
theorem gX3_solve_X1_copyFrom : GoodIn wsX3_solve (wsV RX3 57 RX1 yX1_copyFrom wsX1_copyFrom) := goodIn_app (goodIn_of _ (by decide +kernel)) ggX3_solve_X1_copyFrom
set_option maxRecDepth 20000 in
theorem ggX3_solve_X3_setPrices : GoodIn wsX3_solve wsX3_setPrices := goodIn_r _ [32, 33, 2, 34, 3, 35, 36, 37, 38, 39, 40, 41, 42, 21, 43, 23, 44, 45, 46, 31, 47, 48, 49, 50, 51, 52, 10, 53, 16, 54, 25, 26, 27, 55, 56, 57, 58, 14, 59, 60, 61, 62, 12, 15, 63, 64, 65, 66, 67, 68, 69, 70, 17, 71, 72, 73, 74, 75, 76, 77, 78, 79, 80, 126, 127, 128, 129, 130, 131, 132, 133, 134, 135, 136, 137, 138, 139, 140, 141, 142] (by decide +kernel) (by decide +kernel)
set_option maxRecDepth 20000 in
theorem gX3_solve_X3_setPrices : GoodIn wsX3_solve (wsV RX3 61 RX3 yX3_setPrices wsX3_setPrices) := goodIn_app (goodIn_of _ (by decide +kernel)) ggX3_solve_X3_setPrices
set_option maxRecDepth 20000 in
theorem ggX3_solve_X3_tryLines : GoodIn wsX3_solve wsX3_tryLines := goodIn_r _ [83, 2, 34, 35, 4, 33, 84, 1, 85, 86, 87, 38, 88, 89, 90, 91, 31, 92, 5, 6, 93, 94, 19, 20, 21, 22, 23, 24, 25, 26, 27, 77, 78, 79, 80, 95, 96, 97, 98, 99, 100, 101, 102, 103, 104, 105, 106, 107, 108, 109, 110, 60, 61, 10, 62, 12, 15, 54, 111, 41, 42, 43, 112, 113, 114, 115, 116, 117, 118, 119, 120, 121, 122, 123, 124, 37, 39, 125, 40, 81, 82, 126, 127, 128, 129, 130, 131, 132, 133, 134, 135, 136, 137, 138, 139, 140, 141, 142, 143, 144, 145, 146] (by decide +kernel) (by decide +kernel)
set_option maxRecDepth 20000 in
theorem gX3_solve_X3_tryLines : GoodIn wsX3_solve (va_wsS RX3 64 yX3_tryLines wsX3_tryLines) := goodIn_app (goodIn_of _ (by decide +kernel)) ggX3_solve_X3_tryLines
theorem dX3_solve_0 : decode cX3_solve 0 = .ok (.aload_n 0, 1) := by decide +kernel
theorem dX3_solve_1 : decode cX3_solve 1 = .ok (.getfield 22, 3) := by decide +kernel
theorem dX3_solve_4 : decode cX3_solve 4 = .ok (.iload_n 2, 1) := by decide +kernel
theorem dX3_solve_5 : decode cX3_solve 5 = .ok (.if_icmp .ne 4, 3) := by decide +kernel
theorem dX3_solve_8 : decode cX3_solve 8 = .ok (.return_, 1) := by decide +kernel
theorem dX3_solve_9 : decode cX3_solve 9 = .ok (.aload_n 0, 1) := by decide +kernel
theorem dX3_solve_10 : decode cX3_solve 10 = .ok (.iload_n 2, 1) := by decide +kernel
theorem dX3_solve_11 : decode cX3_solve 11 = .ok (.putfield 22, 3) := by decide +kernel
theorem dX3_solve_14 : decode cX3_solve 14 = .ok (.aload_n 0, 1) := by decide +kernel
theorem dX3_solve_15 : decode cX3_solve 15 = .ok (.getfield 28, 3) := by decide +kernel
theorem dX3_solve_18 : decode cX3_solve 18 = .ok (.aload_n 1, 1) := by decide +kernel
theorem dX3_solve_19 : decode cX3_solve 19 = .ok (.invokevirtual 57, 3) := by decide +kernel
theorem dX3_solve_22 : decode cX3_solve 22 = .ok (.aload_n 0, 1) := by decide +kernel
theorem dX3_solve_23 : decode cX3_solve 23 = .ok (.invokevirtual 61, 3) := by decide +kernel
theorem dX3_solve_26 : decode cX3_solve 26 = .ok (.aload_n 0, 1) := by decide +kernel
theorem dX3_solve_27 : decode cX3_solve 27 = .ok (.ldc 18, 2) := by decide +kernel
theorem dX3_solve_29 : decode cX3_solve 29 = .ok (.putfield 19, 3) := by decide +kernel
theorem dX3_solve_32 : decode cX3_solve 32 = .ok (.aload_n 0, 1) := by decide +kernel
theorem dX3_solve_33 : decode cX3_solve 33 = .ok (.iconst 0, 1) := by decide +kernel
theorem dX3_solve_34 : decode cX3_solve 34 = .ok (.putfield 9, 3) := by decide +kernel
theorem dX3_solve_37 : decode cX3_solve 37 = .ok (.aload_n 0, 1) := by decide +kernel
theorem dX3_solve_38 : decode cX3_solve 38 = .ok (.iconst 0, 1) := by decide +kernel
theorem dX3_solve_39 : decode cX3_solve 39 = .ok (.putfield 15, 3) := by decide +kernel
theorem dX3_solve_42 : decode cX3_solve 42 = .ok (.aload_n 0, 1) := by decide +kernel
theorem dX3_solve_43 : decode cX3_solve 43 = .ok (.iconst 0, 1) := by decide +kernel
theorem dX3_solve_44 : decode cX3_solve 44 = .ok (.iconst 0, 1) := by decide +kernel
theorem dX3_solve_45 : decode cX3_solve 45 = .ok (.iconst 0, 1) := by decide +kernel
theorem dX3_solve_46 : decode cX3_solve 46 = .ok (.iconst 0, 1) := by decide +kernel
theorem dX3_solve_47 : decode cX3_solve 47 = .ok (.iconst 0, 1) := by decide +kernel
theorem dX3_solve_48 : decode cX3_solve 48 = .ok (.invokestatic 64, 3) := by decide +kernel
theorem dX3_solve_51 : decode cX3_solve 51 = .ok (.return_, 1) := by decide +kernel
theorem dX3_hasFound_0 : decode cX3_hasFound 0 = .ok (.aload_n 0, 1) := by decide +kernel
theorem dX3_hasFound_1 : decode cX3_hasFound 1 = .ok (.getfield 19, 3) := by decide +kernel
theorem dX3_hasFound_4 : decode cX3_hasFound 4 = .ok (.ldc 18, 2) := by decide +kernel
theorem dX3_hasFound_6 : decode cX3_hasFound 6 = .ok (.if_icmp .ge 7, 3) := by decide +kernel
theorem dX3_hasFound_9 : decode cX3_hasFound 9 = .ok (.iconst 1, 1) := by decide +kernel
theorem dX3_hasFound_10 : decode cX3_hasFound 10 = .ok (.goto 4, 3) := by decide +kernel
theorem dX3_hasFound_13 : decode cX3_hasFound 13 = .ok (.iconst 0, 1) := by decide +kernel
theorem dX3_hasFound_14 : decode cX3_hasFound 14 = .ok (.ireturn, 1) := by decide +kernel
theorem dX3_bestChanged_0 : decode cX3_bestChanged 0 = .ok (.aload_n 0, 1) := by decide +kernel
theorem dX3_bestChanged_1 : decode cX3_bestChanged 1 = .ok (.getfield 19, 3) := by decide +kernel
theorem dX3_bestChanged_4 : decode cX3_bestChanged 4 = .ok (.ldc 68, 2) := by decide +kernel
theorem dX3_bestChanged_6 : decode cX3_bestChanged 6 = .ok (.idiv, 1) := by decide +kernel
theorem dX3_bestChanged_7 : decode cX3_bestChanged 7 = .ok (.ireturn, 1) := by decide +kernel
theorem dX3_bestBadness_0 : decode cX3_bestBadness 0 = .ok (.aload_n 0, 1) := by decide +kernel
theorem dX3_bestBadness_1 : decode cX3_bestBadness 1 = .ok (.getfield 19, 3) := by decide +kernel
theorem dX3_bestBadness_4 : decode cX3_bestBadness 4 = .ok (.ldc 68, 2) := by decide +kernel
theorem dX3_bestBadness_6 : decode cX3_bestBadness 6 = .ok (.irem, 1) := by decide +kernel
theorem dX3_bestBadness_7 : decode cX3_bestBadness 7 = .ok (.ireturn, 1) := by decide +kernel
set_option maxRecDepth 20000 in
theorem ggX3_bestWords_X2_get : GoodIn wsX3_bestWords wsX2_get := goodIn_r _ [6, 7, 18] (by decide +kernel) (by decide +kernel)
set_option maxRecDepth 20000 in
theorem gX3_bestWords_X2_get : GoodIn wsX3_bestWords (wsV RX3 69 RX2 yX2_get wsX2_get) := goodIn_app (goodIn_of _ (by decide +kernel)) ggX3_bestWords_X2_get
theorem dX3_bestWords_0 : decode cX3_bestWords 0 = .ok (.aload_n 0, 1) := by decide +kernel
theorem dX3_bestWords_1 : decode cX3_bestWords 1 = .ok (.getfield 54, 3) := by decide +kernel
theorem dX3_bestWords_4 : decode cX3_bestWords 4 = .ok (.iload_n 1, 1) := by decide +kernel
theorem dX3_bestWords_5 : decode cX3_bestWords 5 = .ok (.invokevirtual 69, 3) := by decide +kernel
theorem dX3_bestWords_8 : decode cX3_bestWords 8 = .ok (.ireturn, 1) := by decide +kernel
set_option maxRecDepth 20000 in
theorem ggX3_divide_X1_joinAll : GoodIn wsX3_divide wsX1_joinAll := goodIn_r _ [7, 8, 9, 10, 11, 12, 13, 14, 38, 39, 40, 41, 42, 43, 44] (by decide +kernel) (by decide +kernel)
set_option maxRecDepth 20000 in
theorem gX3_divide_X1_joinAll : GoodIn wsX3_divide (wsV RX3 73 RX1 yX1_joinAll wsX1_joinAll) := goodIn_app (goodIn_of _ (by decide +kernel)) ggX3_divide_X1_joinAll
set_option maxRecDepth 20000 in
theorem ggX3_divide_X1_begin : GoodIn wsX3_divide wsX1_begin := goodIn_r _ [18, 19, 8, 20, 21, 22, 12, 23, 14, 38, 39, 40, 41, 42, 43, 44] (by decide +kernel) (by decide +kernel)
set_option maxRecDepth 20000 in
theorem gX3_divide_X1_begin : GoodIn wsX3_divide (wsV RX3 76 RX1 yX1_begin wsX1_begin) := goodIn_app (goodIn_of _ (by decide +kernel)) ggX3_divide_X1_begin
set_option maxRecDepth 20000 in
theorem ggX3_divide_X2_get : GoodIn wsX3_divide wsX2_get := goodIn_r _ [27, 14, 44] (by decide +kernel) (by decide +kernel)
set_option maxRecDepth 20000 in
theorem gX3_divide_X2_get : GoodIn wsX3_divide (wsV RX3 69 RX2 yX2_get wsX2_get) := goodIn_app (goodIn_of _ (by decide +kernel)) ggX3_divide_X2_get
theorem dX3_divide_0 : decode cX3_divide 0 = .ok (.aload_n 1, 1) := by decide +kernel
theorem dX3_divide_1 : decode cX3_divide 1 = .ok (.invokevirtual 73, 3) := by decide +kernel
theorem dX3_divide_4 : decode cX3_divide 4 = .ok (.iconst 0, 1) := by decide +kernel
theorem dX3_divide_5 : decode cX3_divide 5 = .ok (.istore_n 2, 1) := by decide +kernel
theorem dX3_divide_6 : decode cX3_divide 6 = .ok (.iconst 0, 1) := by decide +kernel
theorem dX3_divide_7 : decode cX3_divide 7 = .ok (.istore_n 3, 1) := by decide +kernel
theorem dX3_divide_8 : decode cX3_divide 8 = .ok (.iload_n 3, 1) := by decide +kernel
theorem dX3_divide_9 : decode cX3_divide 9 = .ok (.aload_n 0, 1) := by decide +kernel
theorem dX3_divide_10 : decode cX3_divide 10 = .ok (.getfield 9, 3) := by decide +kernel
theorem dX3_divide_13 : decode cX3_divide 13 = .ok (.if_icmp .ge 25, 3) := by decide +kernel
theorem dX3_divide_16 : decode cX3_divide 16 = .ok (.aload_n 1, 1) := by decide +kernel
theorem dX3_divide_17 : decode cX3_divide 17 = .ok (.iload_n 2, 1) := by decide +kernel
theorem dX3_divide_18 : decode cX3_divide 18 = .ok (.invokevirtual 76, 3) := by decide +kernel
theorem dX3_divide_21 : decode cX3_divide 21 = .ok (.iload_n 2, 1) := by decide +kernel
theorem dX3_divide_22 : decode cX3_divide 22 = .ok (.aload_n 0, 1) := by decide +kernel
theorem dX3_divide_23 : decode cX3_divide 23 = .ok (.getfield 54, 3) := by decide +kernel
theorem dX3_divide_26 : decode cX3_divide 26 = .ok (.iload_n 3, 1) := by decide +kernel
theorem dX3_divide_27 : decode cX3_divide 27 = .ok (.invokevirtual 69, 3) := by decide +kernel
theorem dX3_divide_30 : decode cX3_divide 30 = .ok (.iadd, 1) := by decide +kernel
theorem dX3_divide_31 : decode cX3_divide 31 = .ok (.istore_n 2, 1) := by decide +kernel
theorem dX3_divide_32 : decode cX3_divide 32 = .ok (.iinc 3 1, 3) := by decide +kernel
theorem dX3_divide_35 : decode cX3_divide 35 = .ok (.goto (-27), 3) := by decide +kernel
theorem dX3_divide_38 : decode cX3_divide 38 = .ok (.return_, 1) := by decide +kernel
set_option maxRecDepth 20000 in
theorem ggX3_setPrices_X2_set : GoodIn wsX3_setPrices wsX2_set := goodIn_r _ [14, 15, 79] (by decide +kernel) (by decide +kernel)
set_option maxRecDepth 20000 in
theorem gX3_setPrices_X2_set : GoodIn wsX3_setPrices (wsV RX3 82 RX2 yX2_set wsX2_set) := goodIn_app (goodIn_of _ (by decide +kernel)) ggX3_setPrices_X2_set
set_option maxRecDepth 20000 in
theorem ggX3_setPrices_X3_priceOf : GoodIn wsX3_setPrices wsX3_priceOf := goodIn_r _ [20, 2, 4, 3, 21, 22, 23, 24, 25, 26, 27, 28, 29, 30, 31, 13, 32, 15, 33, 34, 35, 36, 37, 38, 39, 40, 41, 42, 43, 44, 45, 46, 47, 48, 49, 50, 51, 52, 53, 54, 55, 56, 57, 58, 63, 64, 65, 66, 67, 68, 69, 70, 71, 72, 73, 74, 75, 76, 77, 78, 79] (by decide +kernel) (by decide +kernel)
set_option maxRecDepth 20000 in
theorem gX3_setPrices_X3_priceOf : GoodIn wsX3_setPrices (wsV RX3 86 RX3 yX3_priceOf wsX3_priceOf) := goodIn_app (goodIn_of _ (by decide +kernel)) ggX3_setPrices_X3_priceOf
set_option maxRecDepth 20000 in
theorem ggX3_setPrices_X3_cellOf : GoodIn wsX3_setPrices wsX3_cellOf := goodIn_r _ [61] (by decide +kernel) (by decide +kernel)
set_option maxRecDepth 20000 in
theorem gX3_setPrices_X3_cellOf : GoodIn wsX3_setPrices (va_wsS RX3 90 yX3_cellOf wsX3_cellOf) := goodIn_app (goodIn_of _ (by decide +kernel)) ggX3_setPrices_X3_cellOf
set_option maxRecDepth 20000 in
theorem ggX3_setPrices_X2_get : GoodIn wsX3_setPrices wsX2_get := goodIn_r _ [32, 15, 79] (by decide +kernel) (by decide +kernel)
