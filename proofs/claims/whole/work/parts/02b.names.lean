set_option maxRecDepth 20000 in
theorem ggX0_init_X1_init : GoodIn wsX0_init wsX1_init := goodIn_r _ [10, 11, 2, 3, 12, 13, 14, 15, 16, 17, 18, 19, 20, 21, 22, 23, 24, 25, 26, 27, 28, 29, 30, 33, 34, 35, 36, 37, 38, 39] (by decide +kernel) (by decide +kernel)
set_option maxRecDepth 20000 in
theorem gX0_init_X1_init_n21 : GoodIn wsX0_init (wsX1_init) := ggX0_init_X1_init
theorem dX0_init_0 : decode cX0_init 0 = .ok (.aload_n 0, 1) := by decide +kernel
theorem dX0_init_1 : decode cX0_init 1 = .ok (.invokespecial 3, 3) := by decide +kernel
theorem dX0_init_4 : decode cX0_init 4 = .ok (.aload_n 0, 1) := by decide +kernel
theorem dX0_init_5 : decode cX0_init 5 = .ok (.iconst 0, 1) := by decide +kernel
theorem dX0_init_6 : decode cX0_init 6 = .ok (.putfield 9, 3) := by decide +kernel
theorem dX0_init_9 : decode cX0_init 9 = .ok (.aload_n 0, 1) := by decide +kernel
theorem dX0_init_10 : decode cX0_init 10 = .ok (.iconst 5, 1) := by decide +kernel
theorem dX0_init_11 : decode cX0_init 11 = .ok (.anewarray 15, 3) := by decide +kernel
theorem dX0_init_14 : decode cX0_init 14 = .ok (.putfield 17, 3) := by decide +kernel
theorem dX0_init_17 : decode cX0_init 17 = .ok (.iconst 0, 1) := by decide +kernel
theorem dX0_init_18 : decode cX0_init 18 = .ok (.istore_n 1, 1) := by decide +kernel
theorem dX0_init_19 : decode cX0_init 19 = .ok (.iload_n 1, 1) := by decide +kernel
theorem dX0_init_20 : decode cX0_init 20 = .ok (.aload_n 0, 1) := by decide +kernel
theorem dX0_init_21 : decode cX0_init 21 = .ok (.getfield 17, 3) := by decide +kernel
theorem dX0_init_24 : decode cX0_init 24 = .ok (.arraylength, 1) := by decide +kernel
theorem dX0_init_25 : decode cX0_init 25 = .ok (.if_icmp .ge 22, 3) := by decide +kernel
theorem dX0_init_28 : decode cX0_init 28 = .ok (.aload_n 0, 1) := by decide +kernel
theorem dX0_init_29 : decode cX0_init 29 = .ok (.getfield 17, 3) := by decide +kernel
theorem dX0_init_32 : decode cX0_init 32 = .ok (.iload_n 1, 1) := by decide +kernel
theorem dX0_init_33 : decode cX0_init 33 = .ok (.new 15, 3) := by decide +kernel
theorem dX0_init_36 : decode cX0_init 36 = .ok (.dup, 1) := by decide +kernel
theorem dX0_init_37 : decode cX0_init 37 = .ok (.invokespecial 21, 3) := by decide +kernel
theorem dX0_init_40 : decode cX0_init 40 = .ok (.aastore, 1) := by decide +kernel
theorem dX0_init_41 : decode cX0_init 41 = .ok (.iinc 1 1, 3) := by decide +kernel
theorem dX0_init_44 : decode cX0_init 44 = .ok (.goto (-25), 3) := by decide +kernel
theorem dX0_init_47 : decode cX0_init 47 = .ok (.return_, 1) := by decide +kernel
set_option maxRecDepth 20000 in
theorem ggX0_keep_X0_dropOldest : GoodIn wsX0_keep wsX0_dropOldest := goodIn_r _ [7, 2, 1, 8, 9, 10, 6, 11, 33, 34] (by decide +kernel) (by decide +kernel)
set_option maxRecDepth 20000 in
theorem gX0_keep_X0_dropOldest : GoodIn wsX0_keep (wsV RX0 22 RX0 yX0_dropOldest wsX0_dropOldest) := goodIn_app (goodIn_of _ (by decide +kernel)) ggX0_keep_X0_dropOldest
set_option maxRecDepth 20000 in
theorem ggX0_keep_X0_pageAt : GoodIn wsX0_keep wsX0_pageAt := goodIn_r _ [11, 2, 33, 34] (by decide +kernel) (by decide +kernel)
set_option maxRecDepth 20000 in
theorem gX0_keep_X0_pageAt : GoodIn wsX0_keep (wsV RX0 25 RX0 yX0_pageAt wsX0_pageAt) := goodIn_app (goodIn_of _ (by decide +kernel)) ggX0_keep_X0_pageAt
set_option maxRecDepth 20000 in
theorem ggX0_keep_X1_copyFrom : GoodIn wsX0_keep wsX1_copyFrom := goodIn_r _ [16, 17, 18, 19, 20, 21, 22, 23, 24, 25, 26, 27, 28, 29, 30, 31, 32, 35, 36, 37, 38, 39, 40, 41] (by decide +kernel) (by decide +kernel)
set_option maxRecDepth 20000 in
theorem gX0_keep_X1_copyFrom : GoodIn wsX0_keep (wsV RX0 29 RX1 yX1_copyFrom wsX1_copyFrom) := goodIn_app (goodIn_of _ (by decide +kernel)) ggX0_keep_X1_copyFrom
theorem dX0_keep_0 : decode cX0_keep 0 = .ok (.aload_n 0, 1) := by decide +kernel
theorem dX0_keep_1 : decode cX0_keep 1 = .ok (.getfield 9, 3) := by decide +kernel
theorem dX0_keep_4 : decode cX0_keep 4 = .ok (.aload_n 0, 1) := by decide +kernel
theorem dX0_keep_5 : decode cX0_keep 5 = .ok (.getfield 17, 3) := by decide +kernel
theorem dX0_keep_8 : decode cX0_keep 8 = .ok (.arraylength, 1) := by decide +kernel
theorem dX0_keep_9 : decode cX0_keep 9 = .ok (.if_icmp .lt 7, 3) := by decide +kernel
theorem dX0_keep_12 : decode cX0_keep 12 = .ok (.aload_n 0, 1) := by decide +kernel
theorem dX0_keep_13 : decode cX0_keep 13 = .ok (.invokevirtual 22, 3) := by decide +kernel
theorem dX0_keep_16 : decode cX0_keep 16 = .ok (.aload_n 0, 1) := by decide +kernel
theorem dX0_keep_17 : decode cX0_keep 17 = .ok (.aload_n 0, 1) := by decide +kernel
theorem dX0_keep_18 : decode cX0_keep 18 = .ok (.getfield 9, 3) := by decide +kernel
theorem dX0_keep_21 : decode cX0_keep 21 = .ok (.invokevirtual 25, 3) := by decide +kernel
theorem dX0_keep_24 : decode cX0_keep 24 = .ok (.astore_n 2, 1) := by decide +kernel
theorem dX0_keep_25 : decode cX0_keep 25 = .ok (.aload_n 2, 1) := by decide +kernel
theorem dX0_keep_26 : decode cX0_keep 26 = .ok (.ifnull 18, 3) := by decide +kernel
theorem dX0_keep_29 : decode cX0_keep 29 = .ok (.aload_n 2, 1) := by decide +kernel
theorem dX0_keep_30 : decode cX0_keep 30 = .ok (.aload_n 1, 1) := by decide +kernel
theorem dX0_keep_31 : decode cX0_keep 31 = .ok (.invokevirtual 29, 3) := by decide +kernel
theorem dX0_keep_34 : decode cX0_keep 34 = .ok (.aload_n 0, 1) := by decide +kernel
theorem dX0_keep_35 : decode cX0_keep 35 = .ok (.dup, 1) := by decide +kernel
theorem dX0_keep_36 : decode cX0_keep 36 = .ok (.getfield 9, 3) := by decide +kernel
theorem dX0_keep_39 : decode cX0_keep 39 = .ok (.iconst 1, 1) := by decide +kernel
theorem dX0_keep_40 : decode cX0_keep 40 = .ok (.iadd, 1) := by decide +kernel
theorem dX0_keep_41 : decode cX0_keep 41 = .ok (.putfield 9, 3) := by decide +kernel
theorem dX0_keep_44 : decode cX0_keep 44 = .ok (.return_, 1) := by decide +kernel
set_option maxRecDepth 20000 in
theorem ggX0_restoreLatest_X0_pageAt : GoodIn wsX0_restoreLatest wsX0_pageAt := goodIn_r _ [6, 7, 29, 30] (by decide +kernel) (by decide +kernel)
set_option maxRecDepth 20000 in
theorem gX0_restoreLatest_X0_pageAt : GoodIn wsX0_restoreLatest (wsV RX0 25 RX0 yX0_pageAt wsX0_pageAt) := goodIn_app (goodIn_of _ (by decide +kernel)) ggX0_restoreLatest_X0_pageAt
set_option maxRecDepth 20000 in
theorem ggX0_restoreLatest_X1_copyFrom : GoodIn wsX0_restoreLatest wsX1_copyFrom := goodIn_r _ [12, 13, 14, 15, 16, 17, 18, 19, 20, 21, 22, 23, 24, 25, 26, 27, 28, 31, 32, 33, 34, 35, 36, 37] (by decide +kernel) (by decide +kernel)
set_option maxRecDepth 20000 in
theorem gX0_restoreLatest_X1_copyFrom : GoodIn wsX0_restoreLatest (wsV RX0 29 RX1 yX1_copyFrom wsX1_copyFrom) := goodIn_app (goodIn_of _ (by decide +kernel)) ggX0_restoreLatest_X1_copyFrom
theorem dX0_restoreLatest_0 : decode cX0_restoreLatest 0 = .ok (.aload_n 0, 1) := by decide +kernel
theorem dX0_restoreLatest_1 : decode cX0_restoreLatest 1 = .ok (.aload_n 0, 1) := by decide +kernel
theorem dX0_restoreLatest_2 : decode cX0_restoreLatest 2 = .ok (.getfield 9, 3) := by decide +kernel
theorem dX0_restoreLatest_5 : decode cX0_restoreLatest 5 = .ok (.iconst 1, 1) := by decide +kernel
theorem dX0_restoreLatest_6 : decode cX0_restoreLatest 6 = .ok (.isub, 1) := by decide +kernel
theorem dX0_restoreLatest_7 : decode cX0_restoreLatest 7 = .ok (.invokevirtual 25, 3) := by decide +kernel
theorem dX0_restoreLatest_10 : decode cX0_restoreLatest 10 = .ok (.astore_n 2, 1) := by decide +kernel
theorem dX0_restoreLatest_11 : decode cX0_restoreLatest 11 = .ok (.aload_n 2, 1) := by decide +kernel
theorem dX0_restoreLatest_12 : decode cX0_restoreLatest 12 = .ok (.ifnull 18, 3) := by decide +kernel
theorem dX0_restoreLatest_15 : decode cX0_restoreLatest 15 = .ok (.aload_n 1, 1) := by decide +kernel
theorem dX0_restoreLatest_16 : decode cX0_restoreLatest 16 = .ok (.aload_n 2, 1) := by decide +kernel
theorem dX0_restoreLatest_17 : decode cX0_restoreLatest 17 = .ok (.invokevirtual 29, 3) := by decide +kernel
theorem dX0_restoreLatest_20 : decode cX0_restoreLatest 20 = .ok (.aload_n 0, 1) := by decide +kernel
theorem dX0_restoreLatest_21 : decode cX0_restoreLatest 21 = .ok (.dup, 1) := by decide +kernel
theorem dX0_restoreLatest_22 : decode cX0_restoreLatest 22 = .ok (.getfield 9, 3) := by decide +kernel
theorem dX0_restoreLatest_25 : decode cX0_restoreLatest 25 = .ok (.iconst 1, 1) := by decide +kernel
theorem dX0_restoreLatest_26 : decode cX0_restoreLatest 26 = .ok (.isub, 1) := by decide +kernel
theorem dX0_restoreLatest_27 : decode cX0_restoreLatest 27 = .ok (.putfield 9, 3) := by decide +kernel
theorem dX0_restoreLatest_30 : decode cX0_restoreLatest 30 = .ok (.return_, 1) := by decide +kernel
set_option maxRecDepth 20000 in
theorem ggX0_dropOldest_X0_pageAt : GoodIn wsX0_dropOldest wsX0_pageAt := goodIn_r _ [7, 1, 8, 9] (by decide +kernel) (by decide +kernel)
set_option maxRecDepth 20000 in
theorem gX0_dropOldest_X0_pageAt : GoodIn wsX0_dropOldest (wsV RX0 25 RX0 yX0_pageAt wsX0_pageAt) := goodIn_app (goodIn_of _ (by decide +kernel)) ggX0_dropOldest_X0_pageAt
theorem dX0_dropOldest_0 : decode cX0_dropOldest 0 = .ok (.aload_n 0, 1) := by decide +kernel
theorem dX0_dropOldest_1 : decode cX0_dropOldest 1 = .ok (.iconst 0, 1) := by decide +kernel
theorem dX0_dropOldest_2 : decode cX0_dropOldest 2 = .ok (.invokevirtual 25, 3) := by decide +kernel
theorem dX0_dropOldest_5 : decode cX0_dropOldest 5 = .ok (.astore_n 1, 1) := by decide +kernel
theorem dX0_dropOldest_6 : decode cX0_dropOldest 6 = .ok (.iconst 1, 1) := by decide +kernel
theorem dX0_dropOldest_7 : decode cX0_dropOldest 7 = .ok (.istore_n 2, 1) := by decide +kernel
theorem dX0_dropOldest_8 : decode cX0_dropOldest 8 = .ok (.iload_n 2, 1) := by decide +kernel
theorem dX0_dropOldest_9 : decode cX0_dropOldest 9 = .ok (.aload_n 0, 1) := by decide +kernel
theorem dX0_dropOldest_10 : decode cX0_dropOldest 10 = .ok (.getfield 17, 3) := by decide +kernel
theorem dX0_dropOldest_13 : decode cX0_dropOldest 13 = .ok (.arraylength, 1) := by decide +kernel
theorem dX0_dropOldest_14 : decode cX0_dropOldest 14 = .ok (.if_icmp .ge 23, 3) := by decide +kernel
theorem dX0_dropOldest_17 : decode cX0_dropOldest 17 = .ok (.aload_n 0, 1) := by decide +kernel
theorem dX0_dropOldest_18 : decode cX0_dropOldest 18 = .ok (.getfield 17, 3) := by decide +kernel
theorem dX0_dropOldest_21 : decode cX0_dropOldest 21 = .ok (.iload_n 2, 1) := by decide +kernel
theorem dX0_dropOldest_22 : decode cX0_dropOldest 22 = .ok (.iconst 1, 1) := by decide +kernel
theorem dX0_dropOldest_23 : decode cX0_dropOldest 23 = .ok (.isub, 1) := by decide +kernel
theorem dX0_dropOldest_24 : decode cX0_dropOldest 24 = .ok (.aload_n 0, 1) := by decide +kernel
theorem dX0_dropOldest_25 : decode cX0_dropOldest 25 = .ok (.getfield 17, 3) := by decide +kernel
theorem dX0_dropOldest_28 : decode cX0_dropOldest 28 = .ok (.iload_n 2, 1) := by decide +kernel
theorem dX0_dropOldest_29 : decode cX0_dropOldest 29 = .ok (.aaload, 1) := by decide +kernel
theorem dX0_dropOldest_30 : decode cX0_dropOldest 30 = .ok (.aastore, 1) := by decide +kernel
theorem dX0_dropOldest_31 : decode cX0_dropOldest 31 = .ok (.iinc 2 1, 3) := by decide +kernel
theorem dX0_dropOldest_34 : decode cX0_dropOldest 34 = .ok (.goto (-26), 3) := by decide +kernel
theorem dX0_dropOldest_37 : decode cX0_dropOldest 37 = .ok (.aload_n 0, 1) := by decide +kernel
theorem dX0_dropOldest_38 : decode cX0_dropOldest 38 = .ok (.getfield 17, 3) := by decide +kernel
theorem dX0_dropOldest_41 : decode cX0_dropOldest 41 = .ok (.arraylength, 1) := by decide +kernel
theorem dX0_dropOldest_42 : decode cX0_dropOldest 42 = .ok (.ifCond .le 16, 3) := by decide +kernel
theorem dX0_dropOldest_45 : decode cX0_dropOldest 45 = .ok (.aload_n 0, 1) := by decide +kernel
theorem dX0_dropOldest_46 : decode cX0_dropOldest 46 = .ok (.getfield 17, 3) := by decide +kernel
theorem dX0_dropOldest_49 : decode cX0_dropOldest 49 = .ok (.aload_n 0, 1) := by decide +kernel
theorem dX0_dropOldest_50 : decode cX0_dropOldest 50 = .ok (.getfield 17, 3) := by decide +kernel
theorem dX0_dropOldest_53 : decode cX0_dropOldest 53 = .ok (.arraylength, 1) := by decide +kernel
theorem dX0_dropOldest_54 : decode cX0_dropOldest 54 = .ok (.iconst 1, 1) := by decide +kernel
theorem dX0_dropOldest_55 : decode cX0_dropOldest 55 = .ok (.isub, 1) := by decide +kernel
theorem dX0_dropOldest_56 : decode cX0_dropOldest 56 = .ok (.aload_n 1, 1) := by decide +kernel
theorem dX0_dropOldest_57 : decode cX0_dropOldest 57 = .ok (.aastore, 1) := by decide +kernel
theorem dX0_dropOldest_58 : decode cX0_dropOldest 58 = .ok (.aload_n 0, 1) := by decide +kernel
theorem dX0_dropOldest_59 : decode cX0_dropOldest 59 = .ok (.aload_n 0, 1) := by decide +kernel
theorem dX0_dropOldest_60 : decode cX0_dropOldest 60 = .ok (.getfield 17, 3) := by decide +kernel
theorem dX0_dropOldest_63 : decode cX0_dropOldest 63 = .ok (.arraylength, 1) := by decide +kernel
theorem dX0_dropOldest_64 : decode cX0_dropOldest 64 = .ok (.iconst 1, 1) := by decide +kernel
theorem dX0_dropOldest_65 : decode cX0_dropOldest 65 = .ok (.isub, 1) := by decide +kernel
theorem dX0_dropOldest_66 : decode cX0_dropOldest 66 = .ok (.putfield 9, 3) := by decide +kernel
theorem dX0_dropOldest_69 : decode cX0_dropOldest 69 = .ok (.return_, 1) := by decide +kernel
theorem dX0_pageAt_0 : decode cX0_pageAt 0 = .ok (.iload_n 1, 1) := by decide +kernel
theorem dX0_pageAt_1 : decode cX0_pageAt 1 = .ok (.ifCond .lt 21, 3) := by decide +kernel
theorem dX0_pageAt_4 : decode cX0_pageAt 4 = .ok (.iload_n 1, 1) := by decide +kernel
theorem dX0_pageAt_5 : decode cX0_pageAt 5 = .ok (.aload_n 0, 1) := by decide +kernel
theorem dX0_pageAt_6 : decode cX0_pageAt 6 = .ok (.getfield 17, 3) := by decide +kernel
theorem dX0_pageAt_9 : decode cX0_pageAt 9 = .ok (.arraylength, 1) := by decide +kernel
theorem dX0_pageAt_10 : decode cX0_pageAt 10 = .ok (.if_icmp .ge 12, 3) := by decide +kernel
theorem dX0_pageAt_13 : decode cX0_pageAt 13 = .ok (.aload_n 0, 1) := by decide +kernel
theorem dX0_pageAt_14 : decode cX0_pageAt 14 = .ok (.getfield 17, 3) := by decide +kernel
theorem dX0_pageAt_17 : decode cX0_pageAt 17 = .ok (.iload_n 1, 1) := by decide +kernel
theorem dX0_pageAt_18 : decode cX0_pageAt 18 = .ok (.aaload, 1) := by decide +kernel
theorem dX0_pageAt_19 : decode cX0_pageAt 19 = .ok (.goto 4, 3) := by decide +kernel
theorem dX0_pageAt_22 : decode cX0_pageAt 22 = .ok (.aconst_null, 1) := by decide +kernel
theorem dX0_pageAt_23 : decode cX0_pageAt 23 = .ok (.areturn, 1) := by decide +kernel
set_option maxRecDepth 20000 in
theorem ggX1_init_X2_init : GoodIn wsX1_init wsX2_init := goodIn_r _ [15, 16, 2, 3, 17, 18, 19, 20, 21, 22, 29] (by decide +kernel) (by decide +kernel)
set_option maxRecDepth 20000 in
theorem gX1_init_X2_init : GoodIn wsX1_init (wsX2_init) := ggX1_init_X2_init
theorem dX1_init_0 : decode cX1_init 0 = .ok (.aload_n 0, 1) := by decide +kernel
theorem dX1_init_1 : decode cX1_init 1 = .ok (.invokespecial 3, 3) := by decide +kernel
theorem dX1_init_4 : decode cX1_init 4 = .ok (.aload_n 0, 1) := by decide +kernel
theorem dX1_init_5 : decode cX1_init 5 = .ok (.bipush 24, 2) := by decide +kernel
theorem dX1_init_7 : decode cX1_init 7 = .ok (.putfield 9, 3) := by decide +kernel
theorem dX1_init_10 : decode cX1_init 10 = .ok (.aload_n 0, 1) := by decide +kernel
theorem dX1_init_11 : decode cX1_init 11 = .ok (.bipush 6, 2) := by decide +kernel
theorem dX1_init_13 : decode cX1_init 13 = .ok (.putfield 15, 3) := by decide +kernel
theorem dX1_init_16 : decode cX1_init 16 = .ok (.aload_n 0, 1) := by decide +kernel
theorem dX1_init_17 : decode cX1_init 17 = .ok (.iconst 0, 1) := by decide +kernel
theorem dX1_init_18 : decode cX1_init 18 = .ok (.putfield 18, 3) := by decide +kernel
theorem dX1_init_21 : decode cX1_init 21 = .ok (.aload_n 0, 1) := by decide +kernel
theorem dX1_init_22 : decode cX1_init 22 = .ok (.new 21, 3) := by decide +kernel
theorem dX1_init_25 : decode cX1_init 25 = .ok (.dup, 1) := by decide +kernel
theorem dX1_init_26 : decode cX1_init 26 = .ok (.bipush 24, 2) := by decide +kernel
theorem dX1_init_28 : decode cX1_init 28 = .ok (.invokespecial 23, 3) := by decide +kernel
theorem dX1_init_31 : decode cX1_init 31 = .ok (.putfield 26, 3) := by decide +kernel
theorem dX1_init_34 : decode cX1_init 34 = .ok (.aload_n 0, 1) := by decide +kernel
theorem dX1_init_35 : decode cX1_init 35 = .ok (.new 21, 3) := by decide +kernel
theorem dX1_init_38 : decode cX1_init 38 = .ok (.dup, 1) := by decide +kernel
theorem dX1_init_39 : decode cX1_init 39 = .ok (.bipush 24, 2) := by decide +kernel
theorem dX1_init_41 : decode cX1_init 41 = .ok (.invokespecial 23, 3) := by decide +kernel
theorem dX1_init_44 : decode cX1_init 44 = .ok (.putfield 30, 3) := by decide +kernel
theorem dX1_init_47 : decode cX1_init 47 = .ok (.aload_n 0, 1) := by decide +kernel
theorem dX1_init_48 : decode cX1_init 48 = .ok (.new 21, 3) := by decide +kernel
theorem dX1_init_51 : decode cX1_init 51 = .ok (.dup, 1) := by decide +kernel
theorem dX1_init_52 : decode cX1_init 52 = .ok (.bipush 24, 2) := by decide +kernel
theorem dX1_init_54 : decode cX1_init 54 = .ok (.invokespecial 23, 3) := by decide +kernel
theorem dX1_init_57 : decode cX1_init 57 = .ok (.putfield 33, 3) := by decide +kernel
theorem dX1_init_60 : decode cX1_init 60 = .ok (.return_, 1) := by decide +kernel
set_option maxRecDepth 20000 in
theorem ggX1_copyFrom_X2_copyFrom : GoodIn wsX1_copyFrom wsX2_copyFrom := goodIn_r _ [11, 12, 13, 14, 15, 10, 16, 23] (by decide +kernel) (by decide +kernel)
set_option maxRecDepth 20000 in
theorem gX1_copyFrom_X2_copyFrom : GoodIn wsX1_copyFrom (wsV RX1 36 RX2 yX2_copyFrom wsX2_copyFrom) := goodIn_app (goodIn_of _ (by decide +kernel)) ggX1_copyFrom_X2_copyFrom
theorem dX1_copyFrom_0 : decode cX1_copyFrom 0 = .ok (.aload_n 0, 1) := by decide +kernel
theorem dX1_copyFrom_1 : decode cX1_copyFrom 1 = .ok (.aload_n 1, 1) := by decide +kernel
theorem dX1_copyFrom_2 : decode cX1_copyFrom 2 = .ok (.getfield 9, 3) := by decide +kernel
theorem dX1_copyFrom_5 : decode cX1_copyFrom 5 = .ok (.putfield 9, 3) := by decide +kernel
theorem dX1_copyFrom_8 : decode cX1_copyFrom 8 = .ok (.aload_n 0, 1) := by decide +kernel
theorem dX1_copyFrom_9 : decode cX1_copyFrom 9 = .ok (.aload_n 1, 1) := by decide +kernel
theorem dX1_copyFrom_10 : decode cX1_copyFrom 10 = .ok (.getfield 15, 3) := by decide +kernel
theorem dX1_copyFrom_13 : decode cX1_copyFrom 13 = .ok (.putfield 15, 3) := by decide +kernel
theorem dX1_copyFrom_16 : decode cX1_copyFrom 16 = .ok (.aload_n 0, 1) := by decide +kernel
theorem dX1_copyFrom_17 : decode cX1_copyFrom 17 = .ok (.aload_n 1, 1) := by decide +kernel
theorem dX1_copyFrom_18 : decode cX1_copyFrom 18 = .ok (.getfield 18, 3) := by decide +kernel
theorem dX1_copyFrom_21 : decode cX1_copyFrom 21 = .ok (.putfield 18, 3) := by decide +kernel
theorem dX1_copyFrom_24 : decode cX1_copyFrom 24 = .ok (.aload_n 0, 1) := by decide +kernel
theorem dX1_copyFrom_25 : decode cX1_copyFrom 25 = .ok (.getfield 26, 3) := by decide +kernel
theorem dX1_copyFrom_28 : decode cX1_copyFrom 28 = .ok (.aload_n 1, 1) := by decide +kernel
theorem dX1_copyFrom_29 : decode cX1_copyFrom 29 = .ok (.getfield 26, 3) := by decide +kernel
theorem dX1_copyFrom_32 : decode cX1_copyFrom 32 = .ok (.invokevirtual 36, 3) := by decide +kernel
theorem dX1_copyFrom_35 : decode cX1_copyFrom 35 = .ok (.aload_n 0, 1) := by decide +kernel
theorem dX1_copyFrom_36 : decode cX1_copyFrom 36 = .ok (.getfield 30, 3) := by decide +kernel
theorem dX1_copyFrom_39 : decode cX1_copyFrom 39 = .ok (.aload_n 1, 1) := by decide +kernel
theorem dX1_copyFrom_40 : decode cX1_copyFrom 40 = .ok (.getfield 30, 3) := by decide +kernel
theorem dX1_copyFrom_43 : decode cX1_copyFrom 43 = .ok (.invokevirtual 36, 3) := by decide +kernel
theorem dX1_copyFrom_46 : decode cX1_copyFrom 46 = .ok (.aload_n 0, 1) := by decide +kernel
theorem dX1_copyFrom_47 : decode cX1_copyFrom 47 = .ok (.getfield 33, 3) := by decide +kernel
theorem dX1_copyFrom_50 : decode cX1_copyFrom 50 = .ok (.aload_n 1, 1) := by decide +kernel
theorem dX1_copyFrom_51 : decode cX1_copyFrom 51 = .ok (.getfield 33, 3) := by decide +kernel
theorem dX1_copyFrom_54 : decode cX1_copyFrom 54 = .ok (.invokevirtual 36, 3) := by decide +kernel
theorem dX1_copyFrom_57 : decode cX1_copyFrom 57 = .ok (.return_, 1) := by decide +kernel
set_option maxRecDepth 20000 in
theorem ggX1_removeAll_X2_clear : GoodIn wsX1_removeAll wsX2_clear := goodIn_r _ [8, 9, 16] (by decide +kernel) (by decide +kernel)
set_option maxRecDepth 20000 in
theorem gX1_removeAll_X2_clear : GoodIn wsX1_removeAll (wsV RX1 40 RX2 yX2_clear wsX2_clear) := goodIn_app (goodIn_of _ (by decide +kernel)) ggX1_removeAll_X2_clear
theorem dX1_removeAll_0 : decode cX1_removeAll 0 = .ok (.aload_n 0, 1) := by decide +kernel
theorem dX1_removeAll_1 : decode cX1_removeAll 1 = .ok (.iconst 0, 1) := by decide +kernel
theorem dX1_removeAll_2 : decode cX1_removeAll 2 = .ok (.putfield 18, 3) := by decide +kernel
theorem dX1_removeAll_5 : decode cX1_removeAll 5 = .ok (.aload_n 0, 1) := by decide +kernel
theorem dX1_removeAll_6 : decode cX1_removeAll 6 = .ok (.getfield 30, 3) := by decide +kernel
theorem dX1_removeAll_9 : decode cX1_removeAll 9 = .ok (.invokevirtual 40, 3) := by decide +kernel
theorem dX1_removeAll_12 : decode cX1_removeAll 12 = .ok (.aload_n 0, 1) := by decide +kernel
theorem dX1_removeAll_13 : decode cX1_removeAll 13 = .ok (.getfield 33, 3) := by decide +kernel
theorem dX1_removeAll_16 : decode cX1_removeAll 16 = .ok (.invokevirtual 40, 3) := by decide +kernel
theorem dX1_removeAll_19 : decode cX1_removeAll 19 = .ok (.return_, 1) := by decide +kernel
set_option maxRecDepth 20000 in
theorem ggX1_append_X2_set : GoodIn wsX1_append wsX2_set := goodIn_r _ [7, 8, 15] (by decide +kernel) (by decide +kernel)
set_option maxRecDepth 20000 in
theorem gX1_append_X2_set : GoodIn wsX1_append (wsV RX1 43 RX2 yX2_set wsX2_set) := goodIn_app (goodIn_of _ (by decide +kernel)) ggX1_append_X2_set
theorem dX1_append_0 : decode cX1_append 0 = .ok (.aload_n 0, 1) := by decide +kernel
theorem dX1_append_1 : decode cX1_append 1 = .ok (.getfield 26, 3) := by decide +kernel
theorem dX1_append_4 : decode cX1_append 4 = .ok (.aload_n 0, 1) := by decide +kernel
theorem dX1_append_5 : decode cX1_append 5 = .ok (.getfield 18, 3) := by decide +kernel
theorem dX1_append_8 : decode cX1_append 8 = .ok (.iload_n 1, 1) := by decide +kernel
theorem dX1_append_9 : decode cX1_append 9 = .ok (.invokevirtual 43, 3) := by decide +kernel
theorem dX1_append_12 : decode cX1_append 12 = .ok (.aload_n 0, 1) := by decide +kernel
theorem dX1_append_13 : decode cX1_append 13 = .ok (.dup, 1) := by decide +kernel
theorem dX1_append_14 : decode cX1_append 14 = .ok (.getfield 18, 3) := by decide +kernel
theorem dX1_append_17 : decode cX1_append 17 = .ok (.iconst 1, 1) := by decide +kernel
theorem dX1_append_18 : decode cX1_append 18 = .ok (.iadd, 1) := by decide +kernel
theorem dX1_append_19 : decode cX1_append 19 = .ok (.putfield 18, 3) := by decide +kernel
theorem dX1_append_22 : decode cX1_append 22 = .ok (.return_, 1) := by decide +kernel
set_option maxRecDepth 20000 in
theorem ggX1_dropLast_X2_set : GoodIn wsX1_dropLast wsX2_set := goodIn_r _ [7, 8, 15] (by decide +kernel) (by decide +kernel)
set_option maxRecDepth 20000 in
theorem gX1_dropLast_X2_set : GoodIn wsX1_dropLast (wsV RX1 43 RX2 yX2_set wsX2_set) := goodIn_app (goodIn_of _ (by decide +kernel)) ggX1_dropLast_X2_set
theorem dX1_dropLast_0 : decode cX1_dropLast 0 = .ok (.aload_n 0, 1) := by decide +kernel
theorem dX1_dropLast_1 : decode cX1_dropLast 1 = .ok (.dup, 1) := by decide +kernel
theorem dX1_dropLast_2 : decode cX1_dropLast 2 = .ok (.getfield 18, 3) := by decide +kernel
theorem dX1_dropLast_5 : decode cX1_dropLast 5 = .ok (.iconst 1, 1) := by decide +kernel
theorem dX1_dropLast_6 : decode cX1_dropLast 6 = .ok (.isub, 1) := by decide +kernel
theorem dX1_dropLast_7 : decode cX1_dropLast 7 = .ok (.putfield 18, 3) := by decide +kernel
theorem dX1_dropLast_10 : decode cX1_dropLast 10 = .ok (.aload_n 0, 1) := by decide +kernel
theorem dX1_dropLast_11 : decode cX1_dropLast 11 = .ok (.getfield 30, 3) := by decide +kernel
theorem dX1_dropLast_14 : decode cX1_dropLast 14 = .ok (.aload_n 0, 1) := by decide +kernel
theorem dX1_dropLast_15 : decode cX1_dropLast 15 = .ok (.getfield 18, 3) := by decide +kernel
theorem dX1_dropLast_18 : decode cX1_dropLast 18 = .ok (.iconst 0, 1) := by decide +kernel
theorem dX1_dropLast_19 : decode cX1_dropLast 19 = .ok (.invokevirtual 43, 3) := by decide +kernel
theorem dX1_dropLast_22 : decode cX1_dropLast 22 = .ok (.return_, 1) := by decide +kernel
set_option maxRecDepth 20000 in
theorem ggX1_begin_X2_set : GoodIn wsX1_begin wsX2_set := goodIn_r _ [7, 8, 15] (by decide +kernel) (by decide +kernel)
set_option maxRecDepth 20000 in
theorem gX1_begin_X2_set : GoodIn wsX1_begin (wsV RX1 43 RX2 yX2_set wsX2_set) := goodIn_app (goodIn_of _ (by decide +kernel)) ggX1_begin_X2_set
theorem dX1_begin_0 : decode cX1_begin 0 = .ok (.iload_n 1, 1) := by decide +kernel
theorem dX1_begin_1 : decode cX1_begin 1 = .ok (.aload_n 0, 1) := by decide +kernel
theorem dX1_begin_2 : decode cX1_begin 2 = .ok (.getfield 18, 3) := by decide +kernel
theorem dX1_begin_5 : decode cX1_begin 5 = .ok (.if_icmp .ge 12, 3) := by decide +kernel
theorem dX1_begin_8 : decode cX1_begin 8 = .ok (.aload_n 0, 1) := by decide +kernel
theorem dX1_begin_9 : decode cX1_begin 9 = .ok (.getfield 30, 3) := by decide +kernel
theorem dX1_begin_12 : decode cX1_begin 12 = .ok (.iload_n 1, 1) := by decide +kernel
theorem dX1_begin_13 : decode cX1_begin 13 = .ok (.iconst 1, 1) := by decide +kernel
theorem dX1_begin_14 : decode cX1_begin 14 = .ok (.invokevirtual 43, 3) := by decide +kernel
theorem dX1_begin_17 : decode cX1_begin 17 = .ok (.return_, 1) := by decide +kernel
set_option maxRecDepth 20000 in
theorem ggX1_join_X2_set : GoodIn wsX1_join wsX2_set := goodIn_r _ [6, 7, 14] (by decide +kernel) (by decide +kernel)
set_option maxRecDepth 20000 in
theorem gX1_join_X2_set : GoodIn wsX1_join (wsV RX1 43 RX2 yX2_set wsX2_set) := goodIn_app (goodIn_of _ (by decide +kernel)) ggX1_join_X2_set
theorem dX1_join_0 : decode cX1_join 0 = .ok (.aload_n 0, 1) := by decide +kernel
theorem dX1_join_1 : decode cX1_join 1 = .ok (.getfield 30, 3) := by decide +kernel
theorem dX1_join_4 : decode cX1_join 4 = .ok (.iload_n 1, 1) := by decide +kernel
theorem dX1_join_5 : decode cX1_join 5 = .ok (.iconst 0, 1) := by decide +kernel
theorem dX1_join_6 : decode cX1_join 6 = .ok (.invokevirtual 43, 3) := by decide +kernel
theorem dX1_join_9 : decode cX1_join 9 = .ok (.return_, 1) := by decide +kernel
set_option maxRecDepth 20000 in
theorem ggX1_joinAll_X2_clear : GoodIn wsX1_joinAll wsX2_clear := goodIn_r _ [6, 7, 14] (by decide +kernel) (by decide +kernel)
set_option maxRecDepth 20000 in
theorem gX1_joinAll_X2_clear : GoodIn wsX1_joinAll (wsV RX1 40 RX2 yX2_clear wsX2_clear) := goodIn_app (goodIn_of _ (by decide +kernel)) ggX1_joinAll_X2_clear
theorem dX1_joinAll_0 : decode cX1_joinAll 0 = .ok (.aload_n 0, 1) := by decide +kernel
theorem dX1_joinAll_1 : decode cX1_joinAll 1 = .ok (.getfield 30, 3) := by decide +kernel
theorem dX1_joinAll_4 : decode cX1_joinAll 4 = .ok (.invokevirtual 40, 3) := by decide +kernel
theorem dX1_joinAll_7 : decode cX1_joinAll 7 = .ok (.return_, 1) := by decide +kernel
set_option maxRecDepth 20000 in
theorem ggX1_setFrozen_X2_set : GoodIn wsX1_setFrozen wsX2_set := goodIn_r _ [6, 7, 14] (by decide +kernel) (by decide +kernel)
set_option maxRecDepth 20000 in
theorem gX1_setFrozen_X2_set : GoodIn wsX1_setFrozen (wsV RX1 43 RX2 yX2_set wsX2_set) := goodIn_app (goodIn_of _ (by decide +kernel)) ggX1_setFrozen_X2_set
theorem dX1_setFrozen_0 : decode cX1_setFrozen 0 = .ok (.aload_n 0, 1) := by decide +kernel
theorem dX1_setFrozen_1 : decode cX1_setFrozen 1 = .ok (.getfield 33, 3) := by decide +kernel
theorem dX1_setFrozen_4 : decode cX1_setFrozen 4 = .ok (.iload_n 1, 1) := by decide +kernel
theorem dX1_setFrozen_5 : decode cX1_setFrozen 5 = .ok (.iload_n 2, 1) := by decide +kernel
theorem dX1_setFrozen_6 : decode cX1_setFrozen 6 = .ok (.invokevirtual 43, 3) := by decide +kernel
theorem dX1_setFrozen_9 : decode cX1_setFrozen 9 = .ok (.return_, 1) := by decide +kernel
set_option maxRecDepth 20000 in
theorem ggX1_isFrozen_X2_get : GoodIn wsX1_isFrozen wsX2_get := goodIn_r _ [6, 7, 14] (by decide +kernel) (by decide +kernel)
set_option maxRecDepth 20000 in
theorem gX1_isFrozen_X2_get : GoodIn wsX1_isFrozen (wsV RX1 47 RX2 yX2_get wsX2_get) := goodIn_app (goodIn_of _ (by decide +kernel)) ggX1_isFrozen_X2_get
theorem dX1_isFrozen_0 : decode cX1_isFrozen 0 = .ok (.aload_n 0, 1) := by decide +kernel
theorem dX1_isFrozen_1 : decode cX1_isFrozen 1 = .ok (.getfield 33, 3) := by decide +kernel
theorem dX1_isFrozen_4 : decode cX1_isFrozen 4 = .ok (.iload_n 1, 1) := by decide +kernel
theorem dX1_isFrozen_5 : decode cX1_isFrozen 5 = .ok (.invokevirtual 47, 3) := by decide +kernel
theorem dX1_isFrozen_8 : decode cX1_isFrozen 8 = .ok (.iconst 1, 1) := by decide +kernel
theorem dX1_isFrozen_9 : decode cX1_isFrozen 9 = .ok (.if_icmp .ne 7, 3) := by decide +kernel
theorem dX1_isFrozen_12 : decode cX1_isFrozen 12 = .ok (.iconst 1, 1) := by decide +kernel
theorem dX1_isFrozen_13 : decode cX1_isFrozen 13 = .ok (.goto 4, 3) := by decide +kernel
theorem dX1_isFrozen_16 : decode cX1_isFrozen 16 = .ok (.iconst 0, 1) := by decide +kernel
theorem dX1_isFrozen_17 : decode cX1_isFrozen 17 = .ok (.ireturn, 1) := by decide +kernel
set_option maxRecDepth 20000 in
theorem ggX1_lengthOf_X2_get : GoodIn wsX1_lengthOf wsX2_get := goodIn_r _ [6, 7, 14] (by decide +kernel) (by decide +kernel)
set_option maxRecDepth 20000 in
theorem gX1_lengthOf_X2_get : GoodIn wsX1_lengthOf (wsV RX1 47 RX2 yX2_get wsX2_get) := goodIn_app (goodIn_of _ (by decide +kernel)) ggX1_lengthOf_X2_get
theorem dX1_lengthOf_0 : decode cX1_lengthOf 0 = .ok (.aload_n 0, 1) := by decide +kernel
theorem dX1_lengthOf_1 : decode cX1_lengthOf 1 = .ok (.getfield 26, 3) := by decide +kernel
theorem dX1_lengthOf_4 : decode cX1_lengthOf 4 = .ok (.iload_n 1, 1) := by decide +kernel
theorem dX1_lengthOf_5 : decode cX1_lengthOf 5 = .ok (.invokevirtual 47, 3) := by decide +kernel
theorem dX1_lengthOf_8 : decode cX1_lengthOf 8 = .ok (.ireturn, 1) := by decide +kernel
set_option maxRecDepth 20000 in
theorem ggX1_lines_X2_get : GoodIn wsX1_lines wsX2_get := goodIn_r _ [7, 8, 15] (by decide +kernel) (by decide +kernel)
set_option maxRecDepth 20000 in
theorem gX1_lines_X2_get : GoodIn wsX1_lines (wsV RX1 47 RX2 yX2_get wsX2_get) := goodIn_app (goodIn_of _ (by decide +kernel)) ggX1_lines_X2_get
theorem dX1_lines_0 : decode cX1_lines 0 = .ok (.iconst 0, 1) := by decide +kernel
theorem dX1_lines_1 : decode cX1_lines 1 = .ok (.istore_n 1, 1) := by decide +kernel
theorem dX1_lines_2 : decode cX1_lines 2 = .ok (.iconst 0, 1) := by decide +kernel
theorem dX1_lines_3 : decode cX1_lines 3 = .ok (.istore_n 2, 1) := by decide +kernel
theorem dX1_lines_4 : decode cX1_lines 4 = .ok (.iload_n 2, 1) := by decide +kernel
theorem dX1_lines_5 : decode cX1_lines 5 = .ok (.aload_n 0, 1) := by decide +kernel
theorem dX1_lines_6 : decode cX1_lines 6 = .ok (.getfield 18, 3) := by decide +kernel
theorem dX1_lines_9 : decode cX1_lines 9 = .ok (.if_icmp .ge 20, 3) := by decide +kernel
theorem dX1_lines_12 : decode cX1_lines 12 = .ok (.iload_n 1, 1) := by decide +kernel
theorem dX1_lines_13 : decode cX1_lines 13 = .ok (.aload_n 0, 1) := by decide +kernel
theorem dX1_lines_14 : decode cX1_lines 14 = .ok (.getfield 30, 3) := by decide +kernel
theorem dX1_lines_17 : decode cX1_lines 17 = .ok (.iload_n 2, 1) := by decide +kernel
theorem dX1_lines_18 : decode cX1_lines 18 = .ok (.invokevirtual 47, 3) := by decide +kernel
theorem dX1_lines_21 : decode cX1_lines 21 = .ok (.iadd, 1) := by decide +kernel
theorem dX1_lines_22 : decode cX1_lines 22 = .ok (.istore_n 1, 1) := by decide +kernel
theorem dX1_lines_23 : decode cX1_lines 23 = .ok (.iinc 2 1, 3) := by decide +kernel
theorem dX1_lines_26 : decode cX1_lines 26 = .ok (.goto (-22), 3) := by decide +kernel
theorem dX1_lines_29 : decode cX1_lines 29 = .ok (.iload_n 1, 1) := by decide +kernel
theorem dX1_lines_30 : decode cX1_lines 30 = .ok (.ireturn, 1) := by decide +kernel
set_option maxRecDepth 20000 in
theorem ggX1_frozenLines_X2_get : GoodIn wsX1_frozenLines wsX2_get := goodIn_r _ [7, 8, 15] (by decide +kernel) (by decide +kernel)
set_option maxRecDepth 20000 in
theorem gX1_frozenLines_X2_get : GoodIn wsX1_frozenLines (wsV RX1 47 RX2 yX2_get wsX2_get) := goodIn_app (goodIn_of _ (by decide +kernel)) ggX1_frozenLines_X2_get
theorem dX1_frozenLines_0 : decode cX1_frozenLines 0 = .ok (.iconst 0, 1) := by decide +kernel
theorem dX1_frozenLines_1 : decode cX1_frozenLines 1 = .ok (.istore_n 1, 1) := by decide +kernel
theorem dX1_frozenLines_2 : decode cX1_frozenLines 2 = .ok (.iconst 0, 1) := by decide +kernel
theorem dX1_frozenLines_3 : decode cX1_frozenLines 3 = .ok (.istore_n 2, 1) := by decide +kernel
theorem dX1_frozenLines_4 : decode cX1_frozenLines 4 = .ok (.iload_n 2, 1) := by decide +kernel
theorem dX1_frozenLines_5 : decode cX1_frozenLines 5 = .ok (.aload_n 0, 1) := by decide +kernel
theorem dX1_frozenLines_6 : decode cX1_frozenLines 6 = .ok (.getfield 18, 3) := by decide +kernel
theorem dX1_frozenLines_9 : decode cX1_frozenLines 9 = .ok (.if_icmp .ge 20, 3) := by decide +kernel
theorem dX1_frozenLines_12 : decode cX1_frozenLines 12 = .ok (.iload_n 1, 1) := by decide +kernel
theorem dX1_frozenLines_13 : decode cX1_frozenLines 13 = .ok (.aload_n 0, 1) := by decide +kernel
theorem dX1_frozenLines_14 : decode cX1_frozenLines 14 = .ok (.getfield 33, 3) := by decide +kernel
theorem dX1_frozenLines_17 : decode cX1_frozenLines 17 = .ok (.iload_n 2, 1) := by decide +kernel
theorem dX1_frozenLines_18 : decode cX1_frozenLines 18 = .ok (.invokevirtual 47, 3) := by decide +kernel
theorem dX1_frozenLines_21 : decode cX1_frozenLines 21 = .ok (.iadd, 1) := by decide +kernel
theorem dX1_frozenLines_22 : decode cX1_frozenLines 22 = .ok (.istore_n 1, 1) := by decide +kernel
theorem dX1_frozenLines_23 : decode cX1_frozenLines 23 = .ok (.iinc 2 1, 3) := by decide +kernel
theorem dX1_frozenLines_26 : decode cX1_frozenLines 26 = .ok (.goto (-22), 3) := by decide +kernel
theorem dX1_frozenLines_29 : decode cX1_frozenLines 29 = .ok (.iload_n 1, 1) := by decide +kernel
theorem dX1_frozenLines_30 : decode cX1_frozenLines 30 = .ok (.ireturn, 1) := by decide +kernel
set_option maxRecDepth 20000 in
theorem ggX1_hasLine_X1_lines : GoodIn wsX1_hasLine wsX1_lines := goodIn_r _ [5, 6, 7, 8, 9, 10, 11, 12, 13, 14, 15, 16, 17, 18, 19, 20] (by decide +kernel) (by decide +kernel)
set_option maxRecDepth 20000 in
theorem gX1_hasLine_X1_lines : GoodIn wsX1_hasLine (wsV RX1 51 RX1 yX1_lines wsX1_lines) := goodIn_app (goodIn_of _ (by decide +kernel)) ggX1_hasLine_X1_lines
theorem dX1_hasLine_0 : decode cX1_hasLine 0 = .ok (.iload_n 1, 1) := by decide +kernel
theorem dX1_hasLine_1 : decode cX1_hasLine 1 = .ok (.ifCond .lt 15, 3) := by decide +kernel
theorem dX1_hasLine_4 : decode cX1_hasLine 4 = .ok (.iload_n 1, 1) := by decide +kernel
theorem dX1_hasLine_5 : decode cX1_hasLine 5 = .ok (.aload_n 0, 1) := by decide +kernel
theorem dX1_hasLine_6 : decode cX1_hasLine 6 = .ok (.invokevirtual 51, 3) := by decide +kernel
theorem dX1_hasLine_9 : decode cX1_hasLine 9 = .ok (.if_icmp .ge 7, 3) := by decide +kernel
theorem dX1_hasLine_12 : decode cX1_hasLine 12 = .ok (.iconst 1, 1) := by decide +kernel
theorem dX1_hasLine_13 : decode cX1_hasLine 13 = .ok (.goto 4, 3) := by decide +kernel
theorem dX1_hasLine_16 : decode cX1_hasLine 16 = .ok (.iconst 0, 1) := by decide +kernel
theorem dX1_hasLine_17 : decode cX1_hasLine 17 = .ok (.ireturn, 1) := by decide +kernel
set_option maxRecDepth 20000 in
theorem ggX1_firstOf_X2_get : GoodIn wsX1_firstOf wsX2_get := goodIn_r _ [7, 8, 15] (by decide +kernel) (by decide +kernel)
set_option maxRecDepth 20000 in
theorem gX1_firstOf_X2_get : GoodIn wsX1_firstOf (wsV RX1 47 RX2 yX2_get wsX2_get) := goodIn_app (goodIn_of _ (by decide +kernel)) ggX1_firstOf_X2_get
theorem dX1_firstOf_0 : decode cX1_firstOf 0 = .ok (.iconst 0, 1) := by decide +kernel
theorem dX1_firstOf_1 : decode cX1_firstOf 1 = .ok (.istore_n 2, 1) := by decide +kernel
theorem dX1_firstOf_2 : decode cX1_firstOf 2 = .ok (.iconst 0, 1) := by decide +kernel
theorem dX1_firstOf_3 : decode cX1_firstOf 3 = .ok (.istore_n 3, 1) := by decide +kernel
theorem dX1_firstOf_4 : decode cX1_firstOf 4 = .ok (.iload_n 3, 1) := by decide +kernel
theorem dX1_firstOf_5 : decode cX1_firstOf 5 = .ok (.aload_n 0, 1) := by decide +kernel
theorem dX1_firstOf_6 : decode cX1_firstOf 6 = .ok (.getfield 18, 3) := by decide +kernel
theorem dX1_firstOf_9 : decode cX1_firstOf 9 = .ok (.if_icmp .ge 27, 3) := by decide +kernel
theorem dX1_firstOf_12 : decode cX1_firstOf 12 = .ok (.iload_n 2, 1) := by decide +kernel
theorem dX1_firstOf_13 : decode cX1_firstOf 13 = .ok (.aload_n 0, 1) := by decide +kernel
theorem dX1_firstOf_14 : decode cX1_firstOf 14 = .ok (.getfield 30, 3) := by decide +kernel
theorem dX1_firstOf_17 : decode cX1_firstOf 17 = .ok (.iload_n 3, 1) := by decide +kernel
theorem dX1_firstOf_18 : decode cX1_firstOf 18 = .ok (.invokevirtual 47, 3) := by decide +kernel
theorem dX1_firstOf_21 : decode cX1_firstOf 21 = .ok (.iadd, 1) := by decide +kernel
theorem dX1_firstOf_22 : decode cX1_firstOf 22 = .ok (.istore_n 2, 1) := by decide +kernel
theorem dX1_firstOf_23 : decode cX1_firstOf 23 = .ok (.iload_n 2, 1) := by decide +kernel
theorem dX1_firstOf_24 : decode cX1_firstOf 24 = .ok (.iload_n 1, 1) := by decide +kernel
theorem dX1_firstOf_25 : decode cX1_firstOf 25 = .ok (.if_icmp .le 5, 3) := by decide +kernel
theorem dX1_firstOf_28 : decode cX1_firstOf 28 = .ok (.iload_n 3, 1) := by decide +kernel
theorem dX1_firstOf_29 : decode cX1_firstOf 29 = .ok (.ireturn, 1) := by decide +kernel
theorem dX1_firstOf_30 : decode cX1_firstOf 30 = .ok (.iinc 3 1, 3) := by decide +kernel
theorem dX1_firstOf_33 : decode cX1_firstOf 33 = .ok (.goto (-29), 3) := by decide +kernel
theorem dX1_firstOf_36 : decode cX1_firstOf 36 = .ok (.aload_n 0, 1) := by decide +kernel
theorem dX1_firstOf_37 : decode cX1_firstOf 37 = .ok (.getfield 18, 3) := by decide +kernel
theorem dX1_firstOf_40 : decode cX1_firstOf 40 = .ok (.ireturn, 1) := by decide +kernel
set_option maxRecDepth 20000 in
theorem ggX1_endOf_X2_get : GoodIn wsX1_endOf wsX2_get := goodIn_r _ [7, 8, 15] (by decide +kernel) (by decide +kernel)
set_option maxRecDepth 20000 in
theorem gX1_endOf_X2_get : GoodIn wsX1_endOf (wsV RX1 47 RX2 yX2_get wsX2_get) := goodIn_app (goodIn_of _ (by decide +kernel)) ggX1_endOf_X2_get
theorem dX1_endOf_0 : decode cX1_endOf 0 = .ok (.iload_n 1, 1) := by decide +kernel
theorem dX1_endOf_1 : decode cX1_endOf 1 = .ok (.iconst 1, 1) := by decide +kernel
theorem dX1_endOf_2 : decode cX1_endOf 2 = .ok (.iadd, 1) := by decide +kernel
theorem dX1_endOf_3 : decode cX1_endOf 3 = .ok (.istore_n 2, 1) := by decide +kernel
theorem dX1_endOf_4 : decode cX1_endOf 4 = .ok (.iload_n 2, 1) := by decide +kernel
theorem dX1_endOf_5 : decode cX1_endOf 5 = .ok (.aload_n 0, 1) := by decide +kernel
theorem dX1_endOf_6 : decode cX1_endOf 6 = .ok (.getfield 18, 3) := by decide +kernel
theorem dX1_endOf_9 : decode cX1_endOf 9 = .ok (.if_icmp .ge 23, 3) := by decide +kernel
theorem dX1_endOf_12 : decode cX1_endOf 12 = .ok (.aload_n 0, 1) := by decide +kernel
theorem dX1_endOf_13 : decode cX1_endOf 13 = .ok (.getfield 30, 3) := by decide +kernel
theorem dX1_endOf_16 : decode cX1_endOf 16 = .ok (.iload_n 2, 1) := by decide +kernel
theorem dX1_endOf_17 : decode cX1_endOf 17 = .ok (.invokevirtual 47, 3) := by decide +kernel
theorem dX1_endOf_20 : decode cX1_endOf 20 = .ok (.iconst 1, 1) := by decide +kernel
theorem dX1_endOf_21 : decode cX1_endOf 21 = .ok (.if_icmp .ne 5, 3) := by decide +kernel
theorem dX1_endOf_24 : decode cX1_endOf 24 = .ok (.iload_n 2, 1) := by decide +kernel
theorem dX1_endOf_25 : decode cX1_endOf 25 = .ok (.ireturn, 1) := by decide +kernel
theorem dX1_endOf_26 : decode cX1_endOf 26 = .ok (.iinc 2 1, 3) := by decide +kernel
theorem dX1_endOf_29 : decode cX1_endOf 29 = .ok (.goto (-25), 3) := by decide +kernel
theorem dX1_endOf_32 : decode cX1_endOf 32 = .ok (.aload_n 0, 1) := by decide +kernel
theorem dX1_endOf_33 : decode cX1_endOf 33 = .ok (.getfield 18, 3) := by decide +kernel
theorem dX1_endOf_36 : decode cX1_endOf 36 = .ok (.ireturn, 1) := by decide +kernel
set_option maxRecDepth 20000 in
theorem ggX1_lineOf_X2_get : GoodIn wsX1_lineOf wsX2_get := goodIn_r _ [7, 8, 15] (by decide +kernel) (by decide +kernel)
set_option maxRecDepth 20000 in
theorem gX1_lineOf_X2_get : GoodIn wsX1_lineOf (wsV RX1 47 RX2 yX2_get wsX2_get) := goodIn_app (goodIn_of _ (by decide +kernel)) ggX1_lineOf_X2_get
theorem dX1_lineOf_0 : decode cX1_lineOf 0 = .ok (.iconst (-1), 1) := by decide +kernel
theorem dX1_lineOf_1 : decode cX1_lineOf 1 = .ok (.istore_n 2, 1) := by decide +kernel
theorem dX1_lineOf_2 : decode cX1_lineOf 2 = .ok (.iconst 0, 1) := by decide +kernel
theorem dX1_lineOf_3 : decode cX1_lineOf 3 = .ok (.istore_n 3, 1) := by decide +kernel
theorem dX1_lineOf_4 : decode cX1_lineOf 4 = .ok (.iload_n 3, 1) := by decide +kernel
theorem dX1_lineOf_5 : decode cX1_lineOf 5 = .ok (.iload_n 1, 1) := by decide +kernel
theorem dX1_lineOf_6 : decode cX1_lineOf 6 = .ok (.if_icmp .gt 28, 3) := by decide +kernel
theorem dX1_lineOf_9 : decode cX1_lineOf 9 = .ok (.iload_n 3, 1) := by decide +kernel
theorem dX1_lineOf_10 : decode cX1_lineOf 10 = .ok (.aload_n 0, 1) := by decide +kernel
theorem dX1_lineOf_11 : decode cX1_lineOf 11 = .ok (.getfield 18, 3) := by decide +kernel
theorem dX1_lineOf_14 : decode cX1_lineOf 14 = .ok (.if_icmp .ge 20, 3) := by decide +kernel
theorem dX1_lineOf_17 : decode cX1_lineOf 17 = .ok (.iload_n 2, 1) := by decide +kernel
theorem dX1_lineOf_18 : decode cX1_lineOf 18 = .ok (.aload_n 0, 1) := by decide +kernel
theorem dX1_lineOf_19 : decode cX1_lineOf 19 = .ok (.getfield 30, 3) := by decide +kernel
theorem dX1_lineOf_22 : decode cX1_lineOf 22 = .ok (.iload_n 3, 1) := by decide +kernel
theorem dX1_lineOf_23 : decode cX1_lineOf 23 = .ok (.invokevirtual 47, 3) := by decide +kernel
theorem dX1_lineOf_26 : decode cX1_lineOf 26 = .ok (.iadd, 1) := by decide +kernel
theorem dX1_lineOf_27 : decode cX1_lineOf 27 = .ok (.istore_n 2, 1) := by decide +kernel
theorem dX1_lineOf_28 : decode cX1_lineOf 28 = .ok (.iinc 3 1, 3) := by decide +kernel
theorem dX1_lineOf_31 : decode cX1_lineOf 31 = .ok (.goto (-27), 3) := by decide +kernel
theorem dX1_lineOf_34 : decode cX1_lineOf 34 = .ok (.iload_n 2, 1) := by decide +kernel
theorem dX1_lineOf_35 : decode cX1_lineOf 35 = .ok (.ireturn, 1) := by decide +kernel
set_option maxRecDepth 20000 in
theorem ggX1_isLine_X2_get : GoodIn wsX1_isLine wsX2_get := goodIn_r _ [6, 7, 20] (by decide +kernel) (by decide +kernel)
set_option maxRecDepth 20000 in
theorem gX1_isLine_X2_get : GoodIn wsX1_isLine (wsV RX1 47 RX2 yX2_get wsX2_get) := goodIn_app (goodIn_of _ (by decide +kernel)) ggX1_isLine_X2_get
set_option maxRecDepth 20000 in
theorem ggX1_isLine_X1_endOf : GoodIn wsX1_isLine wsX1_endOf := goodIn_r _ [12, 13, 1, 2, 3, 4, 5, 6, 7, 14, 15, 16, 17, 18, 19, 20] (by decide +kernel) (by decide +kernel)
set_option maxRecDepth 20000 in
theorem gX1_isLine_X1_endOf : GoodIn wsX1_isLine (wsV RX1 55 RX1 yX1_endOf wsX1_endOf) := goodIn_app (goodIn_of _ (by decide +kernel)) ggX1_isLine_X1_endOf
theorem dX1_isLine_0 : decode cX1_isLine 0 = .ok (.aload_n 0, 1) := by decide +kernel
theorem dX1_isLine_1 : decode cX1_isLine 1 = .ok (.getfield 30, 3) := by decide +kernel
theorem dX1_isLine_4 : decode cX1_isLine 4 = .ok (.iload_n 1, 1) := by decide +kernel
theorem dX1_isLine_5 : decode cX1_isLine 5 = .ok (.invokevirtual 47, 3) := by decide +kernel
theorem dX1_isLine_8 : decode cX1_isLine 8 = .ok (.iconst 1, 1) := by decide +kernel
theorem dX1_isLine_9 : decode cX1_isLine 9 = .ok (.if_icmp .ne 16, 3) := by decide +kernel
theorem dX1_isLine_12 : decode cX1_isLine 12 = .ok (.aload_n 0, 1) := by decide +kernel
theorem dX1_isLine_13 : decode cX1_isLine 13 = .ok (.iload_n 1, 1) := by decide +kernel
theorem dX1_isLine_14 : decode cX1_isLine 14 = .ok (.invokevirtual 55, 3) := by decide +kernel
theorem dX1_isLine_17 : decode cX1_isLine 17 = .ok (.iload_n 2, 1) := by decide +kernel
theorem dX1_isLine_18 : decode cX1_isLine 18 = .ok (.if_icmp .ne 7, 3) := by decide +kernel
theorem dX1_isLine_21 : decode cX1_isLine 21 = .ok (.iconst 1, 1) := by decide +kernel
theorem dX1_isLine_22 : decode cX1_isLine 22 = .ok (.goto 4, 3) := by decide +kernel
theorem dX1_isLine_25 : decode cX1_isLine 25 = .ok (.iconst 0, 1) := by decide +kernel
theorem dX1_isLine_26 : decode cX1_isLine 26 = .ok (.ireturn, 1) := by decide +kernel
set_option maxRecDepth 20000 in
theorem ggX1_hasFrozen_X1_isFrozen : GoodIn wsX1_hasFrozen wsX1_isFrozen := goodIn_r _ [5, 6, 7, 8, 9, 10, 11, 12, 13, 14, 15, 16, 17, 18, 19] (by decide +kernel) (by decide +kernel)
set_option maxRecDepth 20000 in
theorem gX1_hasFrozen_X1_isFrozen : GoodIn wsX1_hasFrozen (wsV RX1 58 RX1 yX1_isFrozen wsX1_isFrozen) := goodIn_app (goodIn_of _ (by decide +kernel)) ggX1_hasFrozen_X1_isFrozen
theorem dX1_hasFrozen_0 : decode cX1_hasFrozen 0 = .ok (.iload_n 1, 1) := by decide +kernel
theorem dX1_hasFrozen_1 : decode cX1_hasFrozen 1 = .ok (.istore_n 3, 1) := by decide +kernel
theorem dX1_hasFrozen_2 : decode cX1_hasFrozen 2 = .ok (.iload_n 3, 1) := by decide +kernel
theorem dX1_hasFrozen_3 : decode cX1_hasFrozen 3 = .ok (.iload_n 2, 1) := by decide +kernel
theorem dX1_hasFrozen_4 : decode cX1_hasFrozen 4 = .ok (.if_icmp .ge 19, 3) := by decide +kernel
theorem dX1_hasFrozen_7 : decode cX1_hasFrozen 7 = .ok (.aload_n 0, 1) := by decide +kernel
theorem dX1_hasFrozen_8 : decode cX1_hasFrozen 8 = .ok (.iload_n 3, 1) := by decide +kernel
theorem dX1_hasFrozen_9 : decode cX1_hasFrozen 9 = .ok (.invokevirtual 58, 3) := by decide +kernel
theorem dX1_hasFrozen_12 : decode cX1_hasFrozen 12 = .ok (.ifCond .eq 5, 3) := by decide +kernel
theorem dX1_hasFrozen_15 : decode cX1_hasFrozen 15 = .ok (.iconst 1, 1) := by decide +kernel
theorem dX1_hasFrozen_16 : decode cX1_hasFrozen 16 = .ok (.ireturn, 1) := by decide +kernel
theorem dX1_hasFrozen_17 : decode cX1_hasFrozen 17 = .ok (.iinc 3 1, 3) := by decide +kernel
theorem dX1_hasFrozen_20 : decode cX1_hasFrozen 20 = .ok (.goto (-18), 3) := by decide +kernel
theorem dX1_hasFrozen_23 : decode cX1_hasFrozen 23 = .ok (.iconst 0, 1) := by decide +kernel
theorem dX1_hasFrozen_24 : decode cX1_hasFrozen 24 = .ok (.ireturn, 1) := by decide +kernel
set_option maxRecDepth 20000 in
theorem ggX1_extra_X2_get : GoodIn wsX1_extra wsX2_get := goodIn_r _ [7, 8, 15] (by decide +kernel) (by decide +kernel)
set_option maxRecDepth 20000 in
theorem gX1_extra_X2_get : GoodIn wsX1_extra (wsV RX1 47 RX2 yX2_get wsX2_get) := goodIn_app (goodIn_of _ (by decide +kernel)) ggX1_extra_X2_get
theorem dX1_extra_0 : decode cX1_extra 0 = .ok (.aload_n 0, 1) := by decide +kernel
theorem dX1_extra_1 : decode cX1_extra 1 = .ok (.getfield 9, 3) := by decide +kernel
theorem dX1_extra_4 : decode cX1_extra 4 = .ok (.iload_n 2, 1) := by decide +kernel
theorem dX1_extra_5 : decode cX1_extra 5 = .ok (.iload_n 1, 1) := by decide +kernel
theorem dX1_extra_6 : decode cX1_extra 6 = .ok (.isub, 1) := by decide +kernel
theorem dX1_extra_7 : decode cX1_extra 7 = .ok (.iconst 1, 1) := by decide +kernel
theorem dX1_extra_8 : decode cX1_extra 8 = .ok (.isub, 1) := by decide +kernel
theorem dX1_extra_9 : decode cX1_extra 9 = .ok (.isub, 1) := by decide +kernel
theorem dX1_extra_10 : decode cX1_extra 10 = .ok (.istore_n 3, 1) := by decide +kernel
theorem dX1_extra_11 : decode cX1_extra 11 = .ok (.iload_n 1, 1) := by decide +kernel
theorem dX1_extra_12 : decode cX1_extra 12 = .ok (.istore 4, 2) := by decide +kernel
theorem dX1_extra_14 : decode cX1_extra 14 = .ok (.iload 4, 2) := by decide +kernel
theorem dX1_extra_16 : decode cX1_extra 16 = .ok (.iload_n 2, 1) := by decide +kernel
theorem dX1_extra_17 : decode cX1_extra 17 = .ok (.if_icmp .ge 21, 3) := by decide +kernel
theorem dX1_extra_20 : decode cX1_extra 20 = .ok (.iload_n 3, 1) := by decide +kernel
theorem dX1_extra_21 : decode cX1_extra 21 = .ok (.aload_n 0, 1) := by decide +kernel
theorem dX1_extra_22 : decode cX1_extra 22 = .ok (.getfield 26, 3) := by decide +kernel
theorem dX1_extra_25 : decode cX1_extra 25 = .ok (.iload 4, 2) := by decide +kernel
theorem dX1_extra_27 : decode cX1_extra 27 = .ok (.invokevirtual 47, 3) := by decide +kernel
theorem dX1_extra_30 : decode cX1_extra 30 = .ok (.isub, 1) := by decide +kernel
theorem dX1_extra_31 : decode cX1_extra 31 = .ok (.istore_n 3, 1) := by decide +kernel
theorem dX1_extra_32 : decode cX1_extra 32 = .ok (.iinc 4 1, 3) := by decide +kernel
theorem dX1_extra_35 : decode cX1_extra 35 = .ok (.goto (-21), 3) := by decide +kernel
theorem dX1_extra_38 : decode cX1_extra 38 = .ok (.iload_n 3, 1) := by decide +kernel
theorem dX1_extra_39 : decode cX1_extra 39 = .ok (.ireturn, 1) := by decide +kernel
set_option maxRecDepth 20000 in
theorem ggX1_fits_X1_extra : GoodIn wsX1_fits wsX1_extra := goodIn_r _ [5, 6, 7, 8, 9, 10, 11, 12, 13, 14, 15, 16, 17, 18, 19, 20] (by decide +kernel) (by decide +kernel)
set_option maxRecDepth 20000 in
theorem gX1_fits_X1_extra : GoodIn wsX1_fits (wsV RX1 62 RX1 yX1_extra wsX1_extra) := goodIn_app (goodIn_of _ (by decide +kernel)) ggX1_fits_X1_extra
theorem dX1_fits_0 : decode cX1_fits 0 = .ok (.aload_n 0, 1) := by decide +kernel
theorem dX1_fits_1 : decode cX1_fits 1 = .ok (.iload_n 1, 1) := by decide +kernel
theorem dX1_fits_2 : decode cX1_fits 2 = .ok (.iload_n 2, 1) := by decide +kernel
theorem dX1_fits_3 : decode cX1_fits 3 = .ok (.invokevirtual 62, 3) := by decide +kernel
theorem dX1_fits_6 : decode cX1_fits 6 = .ok (.ifCond .lt 7, 3) := by decide +kernel
theorem dX1_fits_9 : decode cX1_fits 9 = .ok (.iconst 1, 1) := by decide +kernel
theorem dX1_fits_10 : decode cX1_fits 10 = .ok (.goto 4, 3) := by decide +kernel
theorem dX1_fits_13 : decode cX1_fits 13 = .ok (.iconst 0, 1) := by decide +kernel
theorem dX1_fits_14 : decode cX1_fits 14 = .ok (.ireturn, 1) := by decide +kernel
set_option maxRecDepth 20000 in
theorem ggX1_badness_X1_extra : GoodIn wsX1_badness wsX1_extra := goodIn_r _ [6, 7, 8, 9, 10, 11, 12, 13, 14, 15, 16, 17, 18, 19, 20, 21] (by decide +kernel) (by decide +kernel)
set_option maxRecDepth 20000 in
theorem gX1_badness_X1_extra : GoodIn wsX1_badness (wsV RX1 62 RX1 yX1_extra wsX1_extra) := goodIn_app (goodIn_of _ (by decide +kernel)) ggX1_badness_X1_extra
theorem dX1_badness_0 : decode cX1_badness 0 = .ok (.aload_n 0, 1) := by decide +kernel
theorem dX1_badness_1 : decode cX1_badness 1 = .ok (.iload_n 1, 1) := by decide +kernel
theorem dX1_badness_2 : decode cX1_badness 2 = .ok (.iload_n 2, 1) := by decide +kernel
theorem dX1_badness_3 : decode cX1_badness 3 = .ok (.invokevirtual 62, 3) := by decide +kernel
theorem dX1_badness_6 : decode cX1_badness 6 = .ok (.istore_n 3, 1) := by decide +kernel
theorem dX1_badness_7 : decode cX1_badness 7 = .ok (.iload_n 2, 1) := by decide +kernel
theorem dX1_badness_8 : decode cX1_badness 8 = .ok (.aload_n 0, 1) := by decide +kernel
theorem dX1_badness_9 : decode cX1_badness 9 = .ok (.getfield 18, 3) := by decide +kernel
theorem dX1_badness_12 : decode cX1_badness 12 = .ok (.if_icmp .lt 7, 3) := by decide +kernel
theorem dX1_badness_15 : decode cX1_badness 15 = .ok (.iconst 0, 1) := by decide +kernel
theorem dX1_badness_16 : decode cX1_badness 16 = .ok (.goto 6, 3) := by decide +kernel
theorem dX1_badness_19 : decode cX1_badness 19 = .ok (.iload_n 3, 1) := by decide +kernel
theorem dX1_badness_20 : decode cX1_badness 20 = .ok (.iload_n 3, 1) := by decide +kernel
theorem dX1_badness_21 : decode cX1_badness 21 = .ok (.imul, 1) := by decide +kernel
theorem dX1_badness_22 : decode cX1_badness 22 = .ok (.ireturn, 1) := by decide +kernel
set_option maxRecDepth 20000 in
theorem ggX1_badnessOfAll_X2_get : GoodIn wsX1_badnessOfAll wsX2_get := goodIn_r _ [7, 8, 30] (by decide +kernel) (by decide +kernel)
set_option maxRecDepth 20000 in
theorem gX1_badnessOfAll_X2_get : GoodIn wsX1_badnessOfAll (wsV RX1 47 RX2 yX2_get wsX2_get) := goodIn_app (goodIn_of _ (by decide +kernel)) ggX1_badnessOfAll_X2_get
set_option maxRecDepth 20000 in
theorem ggX1_badnessOfAll_X1_endOf : GoodIn wsX1_badnessOfAll wsX1_endOf := goodIn_r _ [13, 1, 2, 3, 4, 5, 6, 7, 8, 24, 25, 26, 27, 28, 29, 30] (by decide +kernel) (by decide +kernel)
set_option maxRecDepth 20000 in
theorem gX1_badnessOfAll_X1_endOf : GoodIn wsX1_badnessOfAll (wsV RX1 55 RX1 yX1_endOf wsX1_endOf) := goodIn_app (goodIn_of _ (by decide +kernel)) ggX1_badnessOfAll_X1_endOf
set_option maxRecDepth 20000 in
theorem ggX1_badnessOfAll_X1_badness : GoodIn wsX1_badnessOfAll wsX1_badness := goodIn_r _ [17, 1, 18, 19, 20, 12, 21, 22, 23, 3, 4, 5, 6, 7, 8, 24, 25, 26, 27, 28, 29, 30] (by decide +kernel) (by decide +kernel)
set_option maxRecDepth 20000 in
theorem gX1_badnessOfAll_X1_badness : GoodIn wsX1_badnessOfAll (wsV RX1 66 RX1 yX1_badness wsX1_badness) := goodIn_app (goodIn_of _ (by decide +kernel)) ggX1_badnessOfAll_X1_badness
theorem dX1_badnessOfAll_0 : decode cX1_badnessOfAll 0 = .ok (.iconst 0, 1) := by decide +kernel
theorem dX1_badnessOfAll_1 : decode cX1_badnessOfAll 1 = .ok (.istore_n 1, 1) := by decide +kernel
theorem dX1_badnessOfAll_2 : decode cX1_badnessOfAll 2 = .ok (.iconst 0, 1) := by decide +kernel
theorem dX1_badnessOfAll_3 : decode cX1_badnessOfAll 3 = .ok (.istore_n 2, 1) := by decide +kernel
theorem dX1_badnessOfAll_4 : decode cX1_badnessOfAll 4 = .ok (.iload_n 2, 1) := by decide +kernel
theorem dX1_badnessOfAll_5 : decode cX1_badnessOfAll 5 = .ok (.aload_n 0, 1) := by decide +kernel
theorem dX1_badnessOfAll_6 : decode cX1_badnessOfAll 6 = .ok (.getfield 18, 3) := by decide +kernel
theorem dX1_badnessOfAll_9 : decode cX1_badnessOfAll 9 = .ok (.if_icmp .ge 34, 3) := by decide +kernel
theorem dX1_badnessOfAll_12 : decode cX1_badnessOfAll 12 = .ok (.aload_n 0, 1) := by decide +kernel
theorem dX1_badnessOfAll_13 : decode cX1_badnessOfAll 13 = .ok (.getfield 30, 3) := by decide +kernel
theorem dX1_badnessOfAll_16 : decode cX1_badnessOfAll 16 = .ok (.iload_n 2, 1) := by decide +kernel
theorem dX1_badnessOfAll_17 : decode cX1_badnessOfAll 17 = .ok (.invokevirtual 47, 3) := by decide +kernel
theorem dX1_badnessOfAll_20 : decode cX1_badnessOfAll 20 = .ok (.iconst 1, 1) := by decide +kernel
theorem dX1_badnessOfAll_21 : decode cX1_badnessOfAll 21 = .ok (.if_icmp .ne 16, 3) := by decide +kernel
theorem dX1_badnessOfAll_24 : decode cX1_badnessOfAll 24 = .ok (.iload_n 1, 1) := by decide +kernel
theorem dX1_badnessOfAll_25 : decode cX1_badnessOfAll 25 = .ok (.aload_n 0, 1) := by decide +kernel
theorem dX1_badnessOfAll_26 : decode cX1_badnessOfAll 26 = .ok (.iload_n 2, 1) := by decide +kernel
theorem dX1_badnessOfAll_27 : decode cX1_badnessOfAll 27 = .ok (.aload_n 0, 1) := by decide +kernel
theorem dX1_badnessOfAll_28 : decode cX1_badnessOfAll 28 = .ok (.iload_n 2, 1) := by decide +kernel
theorem dX1_badnessOfAll_29 : decode cX1_badnessOfAll 29 = .ok (.invokevirtual 55, 3) := by decide +kernel
theorem dX1_badnessOfAll_32 : decode cX1_badnessOfAll 32 = .ok (.invokevirtual 66, 3) := by decide +kernel
theorem dX1_badnessOfAll_35 : decode cX1_badnessOfAll 35 = .ok (.iadd, 1) := by decide +kernel
theorem dX1_badnessOfAll_36 : decode cX1_badnessOfAll 36 = .ok (.istore_n 1, 1) := by decide +kernel
theorem dX1_badnessOfAll_37 : decode cX1_badnessOfAll 37 = .ok (.iinc 2 1, 3) := by decide +kernel
theorem dX1_badnessOfAll_40 : decode cX1_badnessOfAll 40 = .ok (.goto (-36), 3) := by decide +kernel
theorem dX1_badnessOfAll_43 : decode cX1_badnessOfAll 43 = .ok (.iload_n 1, 1) := by decide +kernel
theorem dX1_badnessOfAll_44 : decode cX1_badnessOfAll 44 = .ok (.ireturn, 1) := by decide +kernel
set_option maxRecDepth 20000 in
theorem ggX1_fill_X1_joinAll : GoodIn wsX1_fill wsX1_joinAll := goodIn_r _ [6, 7, 8, 9, 10, 11, 12, 13, 36, 37, 38, 39, 40, 41, 42] (by decide +kernel) (by decide +kernel)
set_option maxRecDepth 20000 in
theorem gX1_fill_X1_joinAll : GoodIn wsX1_fill (wsV RX1 69 RX1 yX1_joinAll wsX1_joinAll) := goodIn_app (goodIn_of _ (by decide +kernel)) ggX1_fill_X1_joinAll
set_option maxRecDepth 20000 in
theorem ggX1_fill_X1_fits : GoodIn wsX1_fill wsX1_fits := goodIn_r _ [17, 18, 19, 20, 5, 21, 22, 23, 24, 25, 26, 11, 27, 13, 36, 37, 38, 39, 40, 41, 42] (by decide +kernel) (by decide +kernel)
set_option maxRecDepth 20000 in
theorem gX1_fill_X1_fits : GoodIn wsX1_fill (wsV RX1 72 RX1 yX1_fits wsX1_fits) := goodIn_app (goodIn_of _ (by decide +kernel)) ggX1_fill_X1_fits
set_option maxRecDepth 20000 in
theorem ggX1_fill_X1_begin : GoodIn wsX1_fill wsX1_begin := goodIn_r _ [31, 1, 7, 32, 33, 34, 11, 35, 13, 36, 37, 38, 39, 40, 41, 42] (by decide +kernel) (by decide +kernel)
set_option maxRecDepth 20000 in
theorem gX1_fill_X1_begin : GoodIn wsX1_fill (wsV RX1 76 RX1 yX1_begin wsX1_begin) := goodIn_app (goodIn_of _ (by decide +kernel)) ggX1_fill_X1_begin
theorem dX1_fill_0 : decode cX1_fill 0 = .ok (.aload_n 0, 1) := by decide +kernel
theorem dX1_fill_1 : decode cX1_fill 1 = .ok (.invokevirtual 69, 3) := by decide +kernel
theorem dX1_fill_4 : decode cX1_fill 4 = .ok (.iconst 0, 1) := by decide +kernel
theorem dX1_fill_5 : decode cX1_fill 5 = .ok (.istore_n 1, 1) := by decide +kernel
theorem dX1_fill_6 : decode cX1_fill 6 = .ok (.iconst 0, 1) := by decide +kernel
theorem dX1_fill_7 : decode cX1_fill 7 = .ok (.istore_n 2, 1) := by decide +kernel
theorem dX1_fill_8 : decode cX1_fill 8 = .ok (.iload_n 2, 1) := by decide +kernel
theorem dX1_fill_9 : decode cX1_fill 9 = .ok (.aload_n 0, 1) := by decide +kernel
theorem dX1_fill_10 : decode cX1_fill 10 = .ok (.getfield 18, 3) := by decide +kernel
theorem dX1_fill_13 : decode cX1_fill 13 = .ok (.if_icmp .ge 27, 3) := by decide +kernel
theorem dX1_fill_16 : decode cX1_fill 16 = .ok (.aload_n 0, 1) := by decide +kernel
theorem dX1_fill_17 : decode cX1_fill 17 = .ok (.iload_n 1, 1) := by decide +kernel
theorem dX1_fill_18 : decode cX1_fill 18 = .ok (.iload_n 2, 1) := by decide +kernel
theorem dX1_fill_19 : decode cX1_fill 19 = .ok (.iconst 1, 1) := by decide +kernel
theorem dX1_fill_20 : decode cX1_fill 20 = .ok (.iadd, 1) := by decide +kernel
theorem dX1_fill_21 : decode cX1_fill 21 = .ok (.invokevirtual 72, 3) := by decide +kernel
theorem dX1_fill_24 : decode cX1_fill 24 = .ok (.ifCond .ne 5, 3) := by decide +kernel
theorem dX1_fill_27 : decode cX1_fill 27 = .ok (.iload_n 2, 1) := by decide +kernel
theorem dX1_fill_28 : decode cX1_fill 28 = .ok (.istore_n 1, 1) := by decide +kernel
theorem dX1_fill_29 : decode cX1_fill 29 = .ok (.aload_n 0, 1) := by decide +kernel
theorem dX1_fill_30 : decode cX1_fill 30 = .ok (.iload_n 1, 1) := by decide +kernel
theorem dX1_fill_31 : decode cX1_fill 31 = .ok (.invokevirtual 76, 3) := by decide +kernel
theorem dX1_fill_34 : decode cX1_fill 34 = .ok (.iinc 2 1, 3) := by decide +kernel
theorem dX1_fill_37 : decode cX1_fill 37 = .ok (.goto (-29), 3) := by decide +kernel
theorem dX1_fill_40 : decode cX1_fill 40 = .ok (.return_, 1) := by decide +kernel
theorem dX2_init_0 : decode cX2_init 0 = .ok (.aload_n 0, 1) := by decide +kernel
theorem dX2_init_1 : decode cX2_init 1 = .ok (.invokespecial 1, 3) := by decide +kernel
theorem dX2_init_4 : decode cX2_init 4 = .ok (.aload_n 0, 1) := by decide +kernel
theorem dX2_init_5 : decode cX2_init 5 = .ok (.iload_n 1, 1) := by decide +kernel
theorem dX2_init_6 : decode cX2_init 6 = .ok (.iconst 0, 1) := by decide +kernel
theorem dX2_init_7 : decode cX2_init 7 = .ok (.invokestatic 7, 3) := by decide +kernel
theorem dX2_init_10 : decode cX2_init 10 = .ok (.newarray .int, 2) := by decide +kernel
theorem dX2_init_12 : decode cX2_init 12 = .ok (.putfield 13, 3) := by decide +kernel
theorem dX2_init_15 : decode cX2_init 15 = .ok (.return_, 1) := by decide +kernel
theorem dX2_get_0 : decode cX2_get 0 = .ok (.iload_n 1, 1) := by decide +kernel
theorem dX2_get_1 : decode cX2_get 1 = .ok (.ifCond .lt 21, 3) := by decide +kernel
theorem dX2_get_4 : decode cX2_get 4 = .ok (.iload_n 1, 1) := by decide +kernel
theorem dX2_get_5 : decode cX2_get 5 = .ok (.aload_n 0, 1) := by decide +kernel
theorem dX2_get_6 : decode cX2_get 6 = .ok (.getfield 13, 3) := by decide +kernel
theorem dX2_get_9 : decode cX2_get 9 = .ok (.arraylength, 1) := by decide +kernel
theorem dX2_get_10 : decode cX2_get 10 = .ok (.if_icmp .ge 12, 3) := by decide +kernel
theorem dX2_get_13 : decode cX2_get 13 = .ok (.aload_n 0, 1) := by decide +kernel
theorem dX2_get_14 : decode cX2_get 14 = .ok (.getfield 13, 3) := by decide +kernel
theorem dX2_get_17 : decode cX2_get 17 = .ok (.iload_n 1, 1) := by decide +kernel
theorem dX2_get_18 : decode cX2_get 18 = .ok (.iaload, 1) := by decide +kernel
theorem dX2_get_19 : decode cX2_get 19 = .ok (.goto 4, 3) := by decide +kernel
theorem dX2_get_22 : decode cX2_get 22 = .ok (.iconst 0, 1) := by decide +kernel
theorem dX2_get_23 : decode cX2_get 23 = .ok (.ireturn, 1) := by decide +kernel
theorem dX2_set_0 : decode cX2_set 0 = .ok (.iload_n 1, 1) := by decide +kernel
theorem dX2_set_1 : decode cX2_set 1 = .ok (.ifCond .lt 19, 3) := by decide +kernel
theorem dX2_set_4 : decode cX2_set 4 = .ok (.iload_n 1, 1) := by decide +kernel
theorem dX2_set_5 : decode cX2_set 5 = .ok (.aload_n 0, 1) := by decide +kernel
theorem dX2_set_6 : decode cX2_set 6 = .ok (.getfield 13, 3) := by decide +kernel
theorem dX2_set_9 : decode cX2_set 9 = .ok (.arraylength, 1) := by decide +kernel
theorem dX2_set_10 : decode cX2_set 10 = .ok (.if_icmp .ge 10, 3) := by decide +kernel
theorem dX2_set_13 : decode cX2_set 13 = .ok (.aload_n 0, 1) := by decide +kernel
theorem dX2_set_14 : decode cX2_set 14 = .ok (.getfield 13, 3) := by decide +kernel
theorem dX2_set_17 : decode cX2_set 17 = .ok (.iload_n 1, 1) := by decide +kernel
theorem dX2_set_18 : decode cX2_set 18 = .ok (.iload_n 2, 1) := by decide +kernel
theorem dX2_set_19 : decode cX2_set 19 = .ok (.iastore, 1) := by decide +kernel
theorem dX2_set_20 : decode cX2_set 20 = .ok (.return_, 1) := by decide +kernel
theorem dX2_clear_0 : decode cX2_clear 0 = .ok (.iconst 0, 1) := by decide +kernel
theorem dX2_clear_1 : decode cX2_clear 1 = .ok (.istore_n 1, 1) := by decide +kernel
theorem dX2_clear_2 : decode cX2_clear 2 = .ok (.iload_n 1, 1) := by decide +kernel
theorem dX2_clear_3 : decode cX2_clear 3 = .ok (.aload_n 0, 1) := by decide +kernel
theorem dX2_clear_4 : decode cX2_clear 4 = .ok (.getfield 13, 3) := by decide +kernel
theorem dX2_clear_7 : decode cX2_clear 7 = .ok (.arraylength, 1) := by decide +kernel
theorem dX2_clear_8 : decode cX2_clear 8 = .ok (.if_icmp .ge 16, 3) := by decide +kernel
theorem dX2_clear_11 : decode cX2_clear 11 = .ok (.aload_n 0, 1) := by decide +kernel
theorem dX2_clear_12 : decode cX2_clear 12 = .ok (.getfield 13, 3) := by decide +kernel
theorem dX2_clear_15 : decode cX2_clear 15 = .ok (.iload_n 1, 1) := by decide +kernel
theorem dX2_clear_16 : decode cX2_clear 16 = .ok (.iconst 0, 1) := by decide +kernel
theorem dX2_clear_17 : decode cX2_clear 17 = .ok (.iastore, 1) := by decide +kernel
theorem dX2_clear_18 : decode cX2_clear 18 = .ok (.iinc 1 1, 3) := by decide +kernel
theorem dX2_clear_21 : decode cX2_clear 21 = .ok (.goto (-19), 3) := by decide +kernel
theorem dX2_clear_24 : decode cX2_clear 24 = .ok (.return_, 1) := by decide +kernel
set_option maxRecDepth 20000 in
theorem ggX2_copyFrom_X2_get : GoodIn wsX2_copyFrom wsX2_get := goodIn_r _ [6, 1, 7] (by decide +kernel) (by decide +kernel)
set_option maxRecDepth 20000 in
theorem gX2_copyFrom_X2_get : GoodIn wsX2_copyFrom (wsV RX2 19 RX2 yX2_get wsX2_get) := goodIn_app (goodIn_of _ (by decide +kernel)) ggX2_copyFrom_X2_get
theorem dX2_copyFrom_0 : decode cX2_copyFrom 0 = .ok (.iconst 0, 1) := by decide +kernel
theorem dX2_copyFrom_1 : decode cX2_copyFrom 1 = .ok (.istore_n 2, 1) := by decide +kernel
theorem dX2_copyFrom_2 : decode cX2_copyFrom 2 = .ok (.iload_n 2, 1) := by decide +kernel
theorem dX2_copyFrom_3 : decode cX2_copyFrom 3 = .ok (.aload_n 0, 1) := by decide +kernel
theorem dX2_copyFrom_4 : decode cX2_copyFrom 4 = .ok (.getfield 13, 3) := by decide +kernel
theorem dX2_copyFrom_7 : decode cX2_copyFrom 7 = .ok (.arraylength, 1) := by decide +kernel
theorem dX2_copyFrom_8 : decode cX2_copyFrom 8 = .ok (.if_icmp .ge 20, 3) := by decide +kernel
theorem dX2_copyFrom_11 : decode cX2_copyFrom 11 = .ok (.aload_n 0, 1) := by decide +kernel
theorem dX2_copyFrom_12 : decode cX2_copyFrom 12 = .ok (.getfield 13, 3) := by decide +kernel
theorem dX2_copyFrom_15 : decode cX2_copyFrom 15 = .ok (.iload_n 2, 1) := by decide +kernel
theorem dX2_copyFrom_16 : decode cX2_copyFrom 16 = .ok (.aload_n 1, 1) := by decide +kernel
theorem dX2_copyFrom_17 : decode cX2_copyFrom 17 = .ok (.iload_n 2, 1) := by decide +kernel
theorem dX2_copyFrom_18 : decode cX2_copyFrom 18 = .ok (.invokevirtual 19, 3) := by decide +kernel
theorem dX2_copyFrom_21 : decode cX2_copyFrom 21 = .ok (.iastore, 1) := by decide +kernel
theorem dX2_copyFrom_22 : decode cX2_copyFrom 22 = .ok (.iinc 2 1, 3) := by decide +kernel
theorem dX2_copyFrom_25 : decode cX2_copyFrom 25 = .ok (.goto (-23), 3) := by decide +kernel
theorem dX2_copyFrom_28 : decode cX2_copyFrom 28 = .ok (.return_, 1) := by decide +kernel
set_option maxRecDepth 20000 in
theorem ggX3_init_X1_init : GoodIn wsX3_init wsX1_init := goodIn_r _ [25, 26, 2, 3, 27, 28, 29, 30, 18, 19, 31, 32, 33, 34, 35, 36, 37, 38, 39, 40, 41, 42, 43, 64, 65, 66, 67, 68, 69, 74] (by decide +kernel) (by decide +kernel)
set_option maxRecDepth 20000 in
theorem gX3_init_X1_init_n27 : GoodIn wsX3_init (wsX1_init) := ggX3_init_X1_init
set_option maxRecDepth 20000 in
theorem ggX3_init_X4_init : GoodIn wsX3_init wsX4_init := goodIn_r _ [45, 46, 2, 3, 47, 18, 19, 48, 49, 50, 51, 52, 35, 36, 37, 38, 39, 40, 41, 42, 43, 74, 70, 71, 72, 73] (by decide +kernel) (by decide +kernel)
set_option maxRecDepth 20000 in
theorem gX3_init_X4_init_n34 : GoodIn wsX3_init (wsX4_init) := ggX3_init_X4_init
set_option maxRecDepth 20000 in
theorem ggX3_init_X2_init : GoodIn wsX3_init wsX2_init := goodIn_r _ [36, 37, 2, 3, 38, 39, 40, 41, 42, 43, 74] (by decide +kernel) (by decide +kernel)
set_option maxRecDepth 20000 in
theorem gX3_init_X2_init : GoodIn wsX3_init (wsX2_init) := ggX3_init_X2_init
theorem dX3_init_0 : decode cX3_init 0 = .ok (.aload_n 0, 1) := by decide +kernel
theorem dX3_init_1 : decode cX3_init 1 = .ok (.invokespecial 3, 3) := by decide +kernel
theorem dX3_init_4 : decode cX3_init 4 = .ok (.aload_n 0, 1) := by decide +kernel
theorem dX3_init_5 : decode cX3_init 5 = .ok (.iconst 0, 1) := by decide +kernel
theorem dX3_init_6 : decode cX3_init 6 = .ok (.putfield 9, 3) := by decide +kernel
theorem dX3_init_9 : decode cX3_init 9 = .ok (.aload_n 0, 1) := by decide +kernel
theorem dX3_init_10 : decode cX3_init 10 = .ok (.iconst 0, 1) := by decide +kernel
theorem dX3_init_11 : decode cX3_init 11 = .ok (.putfield 15, 3) := by decide +kernel
theorem dX3_init_14 : decode cX3_init 14 = .ok (.aload_n 0, 1) := by decide +kernel
theorem dX3_init_15 : decode cX3_init 15 = .ok (.ldc 18, 2) := by decide +kernel
theorem dX3_init_17 : decode cX3_init 17 = .ok (.putfield 19, 3) := by decide +kernel
theorem dX3_init_20 : decode cX3_init 20 = .ok (.aload_n 0, 1) := by decide +kernel
theorem dX3_init_21 : decode cX3_init 21 = .ok (.iconst 0, 1) := by decide +kernel
theorem dX3_init_22 : decode cX3_init 22 = .ok (.putfield 22, 3) := by decide +kernel
theorem dX3_init_25 : decode cX3_init 25 = .ok (.aload_n 0, 1) := by decide +kernel
theorem dX3_init_26 : decode cX3_init 26 = .ok (.new 25, 3) := by decide +kernel
theorem dX3_init_29 : decode cX3_init 29 = .ok (.dup, 1) := by decide +kernel
theorem dX3_init_30 : decode cX3_init 30 = .ok (.invokespecial 27, 3) := by decide +kernel
theorem dX3_init_33 : decode cX3_init 33 = .ok (.putfield 28, 3) := by decide +kernel
theorem dX3_init_36 : decode cX3_init 36 = .ok (.aload_n 0, 1) := by decide +kernel
theorem dX3_init_37 : decode cX3_init 37 = .ok (.new 32, 3) := by decide +kernel
theorem dX3_init_40 : decode cX3_init 40 = .ok (.dup, 1) := by decide +kernel
theorem dX3_init_41 : decode cX3_init 41 = .ok (.invokespecial 34, 3) := by decide +kernel
theorem dX3_init_44 : decode cX3_init 44 = .ok (.putfield 35, 3) := by decide +kernel
theorem dX3_init_47 : decode cX3_init 47 = .ok (.aload_n 0, 1) := by decide +kernel
theorem dX3_init_48 : decode cX3_init 48 = .ok (.new 39, 3) := by decide +kernel
theorem dX3_init_51 : decode cX3_init 51 = .ok (.dup, 1) := by decide +kernel
theorem dX3_init_52 : decode cX3_init 52 = .ok (.sipush 576, 3) := by decide +kernel
theorem dX3_init_55 : decode cX3_init 55 = .ok (.invokespecial 41, 3) := by decide +kernel
theorem dX3_init_58 : decode cX3_init 58 = .ok (.putfield 44, 3) := by decide +kernel
theorem dX3_init_61 : decode cX3_init 61 = .ok (.aload_n 0, 1) := by decide +kernel
theorem dX3_init_62 : decode cX3_init 62 = .ok (.new 39, 3) := by decide +kernel
theorem dX3_init_65 : decode cX3_init 65 = .ok (.dup, 1) := by decide +kernel
theorem dX3_init_66 : decode cX3_init 66 = .ok (.bipush 25, 2) := by decide +kernel
theorem dX3_init_68 : decode cX3_init 68 = .ok (.invokespecial 41, 3) := by decide +kernel
theorem dX3_init_71 : decode cX3_init 71 = .ok (.putfield 48, 3) := by decide +kernel
theorem dX3_init_74 : decode cX3_init 74 = .ok (.aload_n 0, 1) := by decide +kernel
theorem dX3_init_75 : decode cX3_init 75 = .ok (.new 39, 3) := by decide +kernel
theorem dX3_init_78 : decode cX3_init 78 = .ok (.dup, 1) := by decide +kernel
theorem dX3_init_79 : decode cX3_init 79 = .ok (.bipush 24, 2) := by decide +kernel
theorem dX3_init_81 : decode cX3_init 81 = .ok (.invokespecial 41, 3) := by decide +kernel
theorem dX3_init_84 : decode cX3_init 84 = .ok (.putfield 51, 3) := by decide +kernel
theorem dX3_init_87 : decode cX3_init 87 = .ok (.aload_n 0, 1) := by decide +kernel
theorem dX3_init_88 : decode cX3_init 88 = .ok (.new 39, 3) := by decide +kernel
theorem dX3_init_91 : decode cX3_init 91 = .ok (.dup, 1) := by decide +kernel
theorem dX3_init_92 : decode cX3_init 92 = .ok (.bipush 24, 2) := by decide +kernel
theorem dX3_init_94 : decode cX3_init 94 = .ok (.invokespecial 41, 3) := by decide +kernel
theorem dX3_init_97 : decode cX3_init 97 = .ok (.putfield 54, 3) := by decide +kernel
theorem dX3_init_100 : decode cX3_init 100 = .ok (.return_, 1) := by decide +kernel
theorem dX3_forget_0 : decode cX3_forget 0 = .ok (.aload_n 0, 1) := by decide +kernel
theorem dX3_forget_1 : decode cX3_forget 1 = .ok (.iconst 0, 1) := by decide +kernel
theorem dX3_forget_2 : decode cX3_forget 2 = .ok (.putfield 22, 3) := by decide +kernel
theorem dX3_forget_5 : decode cX3_forget 5 = .ok (.return_, 1) := by decide +kernel
set_option maxRecDepth 20000 in
theorem ggX3_solve_X1_copyFrom : GoodIn wsX3_solve wsX1_copyFrom := goodIn_r _ [11, 12, 13, 14, 15, 16, 17, 18, 19, 20, 21, 22, 23, 24, 25, 26, 27, 136, 137, 138, 139, 140, 141, 142] (by decide +kernel) (by decide +kernel)
set_option maxRecDepth 20000 in
theorem gX3_solve_X1_copyFrom : GoodIn wsX3_solve (wsV RX3 57 RX1 yX1_copyFrom wsX1_copyFrom) := goodIn_app (goodIn_of _ (by decide +kernel)) ggX3_solve_X1_copyFrom
set_option maxRecDepth 20000 in
theorem ggX3_solve_X3_setPrices : GoodIn wsX3_solve wsX3_setPrices := goodIn_r _ [32, 33, 2, 34, 3, 35, 36, 37, 38, 39, 40, 41, 42, 21, 43, 23, 44, 45, 46, 31, 47, 48, 49, 50, 51, 52, 10, 53, 16, 54, 25, 26, 27, 55, 56, 57, 58, 14, 59, 60, 61, 62, 12, 15, 63, 64, 65, 66, 67, 68, 69, 70, 17, 71, 72, 73, 74, 75, 76, 77, 78, 79, 80, 126, 127, 128, 129, 130, 131, 132, 133, 134, 135, 136, 137, 138, 139, 140, 141, 142] (by decide +kernel) (by decide +kernel)
set_option maxRecDepth 20000 in
theorem gX3_solve_X3_setPrices : GoodIn wsX3_solve (wsV RX3 61 RX3 yX3_setPrices wsX3_setPrices) := goodIn_app (goodIn_of _ (by decide +kernel)) ggX3_solve_X3_setPrices
set_option maxRecDepth 20000 in
theorem ggX3_solve_X3_tryLines : GoodIn wsX3_solve wsX3_tryLines := goodIn_r _ [83, 2, 34, 35, 4, 33, 84, 1, 85, 86, 87, 38, 88, 89, 90, 91, 31, 92, 5, 6, 93, 94, 19, 20, 21, 22, 23, 24, 25, 26, 27, 77, 78, 79, 80, 95, 96, 97, 98, 99, 100, 101, 102, 103, 104, 105, 106, 107, 108, 109, 110, 60, 61, 10, 62, 12, 15, 54, 111, 41, 42, 43, 112, 113, 114, 115, 116, 117, 118, 119, 120, 121, 122, 123, 124, 37, 39, 125, 40, 81, 82, 126, 127, 128, 129, 130, 131, 132, 133, 134, 135, 136, 137, 138, 139, 140, 141, 142, 143, 144, 145, 146] (by decide +kernel) (by decide +kernel)
set_option maxRecDepth 20000 in
theorem gX3_solve_X3_tryLines : GoodIn wsX3_solve (va_wsS RX3 64 yX3_tryLines wsX3_tryLines) := goodIn_app (goodIn_of _ (by decide +kernel)) ggX3_solve_X3_tryLines
theorem dX3_solve_0 : decode cX3_solve 0 = .ok (.aload_n 0, 1) := by decide +kernel
theorem dX3_solve_1 : decode cX3_solve 1 = .ok (.getfield 22, 3) := by decide +kernel
theorem dX3_solve_4 : decode cX3_solve 4 = .ok (.iload_n 2, 1) := by decide +kernel
theorem dX3_solve_5 : decode cX3_solve 5 = .ok (.if_icmp .ne 4, 3) := by decide +kernel
theorem dX3_solve_8 : decode cX3_solve 8 = .ok (.return_, 1) := by decide +kernel
theorem dX3_solve_9 : decode cX3_solve 9 = .ok (.aload_n 0, 1) := by decide +kernel
theorem dX3_solve_10 : decode cX3_solve 10 = .ok (.iload_n 2, 1) := by decide +kernel
theorem dX3_solve_11 : decode cX3_solve 11 = .ok (.putfield 22, 3) := by decide +kernel
theorem dX3_solve_14 : decode cX3_solve 14 = .ok (.aload_n 0, 1) := by decide +kernel
theorem dX3_solve_15 : decode cX3_solve 15 = .ok (.getfield 28, 3) := by decide +kernel
theorem dX3_solve_18 : decode cX3_solve 18 = .ok (.aload_n 1, 1) := by decide +kernel
theorem dX3_solve_19 : decode cX3_solve 19 = .ok (.invokevirtual 57, 3) := by decide +kernel
theorem dX3_solve_22 : decode cX3_solve 22 = .ok (.aload_n 0, 1) := by decide +kernel
theorem dX3_solve_23 : decode cX3_solve 23 = .ok (.invokevirtual 61, 3) := by decide +kernel
theorem dX3_solve_26 : decode cX3_solve 26 = .ok (.aload_n 0, 1) := by decide +kernel
theorem dX3_solve_27 : decode cX3_solve 27 = .ok (.ldc 18, 2) := by decide +kernel
theorem dX3_solve_29 : decode cX3_solve 29 = .ok (.putfield 19, 3) := by decide +kernel
theorem dX3_solve_32 : decode cX3_solve 32 = .ok (.aload_n 0, 1) := by decide +kernel
theorem dX3_solve_33 : decode cX3_solve 33 = .ok (.iconst 0, 1) := by decide +kernel
theorem dX3_solve_34 : decode cX3_solve 34 = .ok (.putfield 9, 3) := by decide +kernel
theorem dX3_solve_37 : decode cX3_solve 37 = .ok (.aload_n 0, 1) := by decide +kernel
theorem dX3_solve_38 : decode cX3_solve 38 = .ok (.iconst 0, 1) := by decide +kernel
theorem dX3_solve_39 : decode cX3_solve 39 = .ok (.putfield 15, 3) := by decide +kernel
theorem dX3_solve_42 : decode cX3_solve 42 = .ok (.aload_n 0, 1) := by decide +kernel
theorem dX3_solve_43 : decode cX3_solve 43 = .ok (.iconst 0, 1) := by decide +kernel
theorem dX3_solve_44 : decode cX3_solve 44 = .ok (.iconst 0, 1) := by decide +kernel
theorem dX3_solve_45 : decode cX3_solve 45 = .ok (.iconst 0, 1) := by decide +kernel
theorem dX3_solve_46 : decode cX3_solve 46 = .ok (.iconst 0, 1) := by decide +kernel
theorem dX3_solve_47 : decode cX3_solve 47 = .ok (.iconst 0, 1) := by decide +kernel
theorem dX3_solve_48 : decode cX3_solve 48 = .ok (.invokestatic 64, 3) := by decide +kernel
theorem dX3_solve_51 : decode cX3_solve 51 = .ok (.return_, 1) := by decide +kernel
theorem dX3_hasFound_0 : decode cX3_hasFound 0 = .ok (.aload_n 0, 1) := by decide +kernel
theorem dX3_hasFound_1 : decode cX3_hasFound 1 = .ok (.getfield 19, 3) := by decide +kernel
theorem dX3_hasFound_4 : decode cX3_hasFound 4 = .ok (.ldc 18, 2) := by decide +kernel
theorem dX3_hasFound_6 : decode cX3_hasFound 6 = .ok (.if_icmp .ge 7, 3) := by decide +kernel
theorem dX3_hasFound_9 : decode cX3_hasFound 9 = .ok (.iconst 1, 1) := by decide +kernel
theorem dX3_hasFound_10 : decode cX3_hasFound 10 = .ok (.goto 4, 3) := by decide +kernel
theorem dX3_hasFound_13 : decode cX3_hasFound 13 = .ok (.iconst 0, 1) := by decide +kernel
theorem dX3_hasFound_14 : decode cX3_hasFound 14 = .ok (.ireturn, 1) := by decide +kernel
theorem dX3_bestChanged_0 : decode cX3_bestChanged 0 = .ok (.aload_n 0, 1) := by decide +kernel
theorem dX3_bestChanged_1 : decode cX3_bestChanged 1 = .ok (.getfield 19, 3) := by decide +kernel
theorem dX3_bestChanged_4 : decode cX3_bestChanged 4 = .ok (.ldc 68, 2) := by decide +kernel
theorem dX3_bestChanged_6 : decode cX3_bestChanged 6 = .ok (.idiv, 1) := by decide +kernel
theorem dX3_bestChanged_7 : decode cX3_bestChanged 7 = .ok (.ireturn, 1) := by decide +kernel
theorem dX3_bestBadness_0 : decode cX3_bestBadness 0 = .ok (.aload_n 0, 1) := by decide +kernel
theorem dX3_bestBadness_1 : decode cX3_bestBadness 1 = .ok (.getfield 19, 3) := by decide +kernel
theorem dX3_bestBadness_4 : decode cX3_bestBadness 4 = .ok (.ldc 68, 2) := by decide +kernel
theorem dX3_bestBadness_6 : decode cX3_bestBadness 6 = .ok (.irem, 1) := by decide +kernel
theorem dX3_bestBadness_7 : decode cX3_bestBadness 7 = .ok (.ireturn, 1) := by decide +kernel
set_option maxRecDepth 20000 in
theorem ggX3_bestWords_X2_get : GoodIn wsX3_bestWords wsX2_get := goodIn_r _ [6, 7, 18] (by decide +kernel) (by decide +kernel)
set_option maxRecDepth 20000 in
theorem gX3_bestWords_X2_get : GoodIn wsX3_bestWords (wsV RX3 69 RX2 yX2_get wsX2_get) := goodIn_app (goodIn_of _ (by decide +kernel)) ggX3_bestWords_X2_get
theorem dX3_bestWords_0 : decode cX3_bestWords 0 = .ok (.aload_n 0, 1) := by decide +kernel
theorem dX3_bestWords_1 : decode cX3_bestWords 1 = .ok (.getfield 54, 3) := by decide +kernel
theorem dX3_bestWords_4 : decode cX3_bestWords 4 = .ok (.iload_n 1, 1) := by decide +kernel
theorem dX3_bestWords_5 : decode cX3_bestWords 5 = .ok (.invokevirtual 69, 3) := by decide +kernel
theorem dX3_bestWords_8 : decode cX3_bestWords 8 = .ok (.ireturn, 1) := by decide +kernel
set_option maxRecDepth 20000 in
theorem ggX3_divide_X1_joinAll : GoodIn wsX3_divide wsX1_joinAll := goodIn_r _ [7, 8, 9, 10, 11, 12, 13, 14, 38, 39, 40, 41, 42, 43, 44] (by decide +kernel) (by decide +kernel)
set_option maxRecDepth 20000 in
theorem gX3_divide_X1_joinAll : GoodIn wsX3_divide (wsV RX3 73 RX1 yX1_joinAll wsX1_joinAll) := goodIn_app (goodIn_of _ (by decide +kernel)) ggX3_divide_X1_joinAll
set_option maxRecDepth 20000 in
theorem ggX3_divide_X1_begin : GoodIn wsX3_divide wsX1_begin := goodIn_r _ [18, 19, 8, 20, 21, 22, 12, 23, 14, 38, 39, 40, 41, 42, 43, 44] (by decide +kernel) (by decide +kernel)
set_option maxRecDepth 20000 in
theorem gX3_divide_X1_begin : GoodIn wsX3_divide (wsV RX3 76 RX1 yX1_begin wsX1_begin) := goodIn_app (goodIn_of _ (by decide +kernel)) ggX3_divide_X1_begin
set_option maxRecDepth 20000 in
theorem ggX3_divide_X2_get : GoodIn wsX3_divide wsX2_get := goodIn_r _ [27, 14, 44] (by decide +kernel) (by decide +kernel)
set_option maxRecDepth 20000 in
theorem gX3_divide_X2_get : GoodIn wsX3_divide (wsV RX3 69 RX2 yX2_get wsX2_get) := goodIn_app (goodIn_of _ (by decide +kernel)) ggX3_divide_X2_get
theorem dX3_divide_0 : decode cX3_divide 0 = .ok (.aload_n 1, 1) := by decide +kernel
theorem dX3_divide_1 : decode cX3_divide 1 = .ok (.invokevirtual 73, 3) := by decide +kernel
theorem dX3_divide_4 : decode cX3_divide 4 = .ok (.iconst 0, 1) := by decide +kernel
theorem dX3_divide_5 : decode cX3_divide 5 = .ok (.istore_n 2, 1) := by decide +kernel
theorem dX3_divide_6 : decode cX3_divide 6 = .ok (.iconst 0, 1) := by decide +kernel
theorem dX3_divide_7 : decode cX3_divide 7 = .ok (.istore_n 3, 1) := by decide +kernel
theorem dX3_divide_8 : decode cX3_divide 8 = .ok (.iload_n 3, 1) := by decide +kernel
theorem dX3_divide_9 : decode cX3_divide 9 = .ok (.aload_n 0, 1) := by decide +kernel
theorem dX3_divide_10 : decode cX3_divide 10 = .ok (.getfield 9, 3) := by decide +kernel
theorem dX3_divide_13 : decode cX3_divide 13 = .ok (.if_icmp .ge 25, 3) := by decide +kernel
theorem dX3_divide_16 : decode cX3_divide 16 = .ok (.aload_n 1, 1) := by decide +kernel
theorem dX3_divide_17 : decode cX3_divide 17 = .ok (.iload_n 2, 1) := by decide +kernel
theorem dX3_divide_18 : decode cX3_divide 18 = .ok (.invokevirtual 76, 3) := by decide +kernel
theorem dX3_divide_21 : decode cX3_divide 21 = .ok (.iload_n 2, 1) := by decide +kernel
theorem dX3_divide_22 : decode cX3_divide 22 = .ok (.aload_n 0, 1) := by decide +kernel
theorem dX3_divide_23 : decode cX3_divide 23 = .ok (.getfield 54, 3) := by decide +kernel
theorem dX3_divide_26 : decode cX3_divide 26 = .ok (.iload_n 3, 1) := by decide +kernel
theorem dX3_divide_27 : decode cX3_divide 27 = .ok (.invokevirtual 69, 3) := by decide +kernel
theorem dX3_divide_30 : decode cX3_divide 30 = .ok (.iadd, 1) := by decide +kernel
theorem dX3_divide_31 : decode cX3_divide 31 = .ok (.istore_n 2, 1) := by decide +kernel
theorem dX3_divide_32 : decode cX3_divide 32 = .ok (.iinc 3 1, 3) := by decide +kernel
theorem dX3_divide_35 : decode cX3_divide 35 = .ok (.goto (-27), 3) := by decide +kernel
theorem dX3_divide_38 : decode cX3_divide 38 = .ok (.return_, 1) := by decide +kernel
set_option maxRecDepth 20000 in
theorem ggX3_setPrices_X2_set : GoodIn wsX3_setPrices wsX2_set := goodIn_r _ [14, 15, 79] (by decide +kernel) (by decide +kernel)
set_option maxRecDepth 20000 in
theorem gX3_setPrices_X2_set : GoodIn wsX3_setPrices (wsV RX3 82 RX2 yX2_set wsX2_set) := goodIn_app (goodIn_of _ (by decide +kernel)) ggX3_setPrices_X2_set
set_option maxRecDepth 20000 in
theorem ggX3_setPrices_X3_priceOf : GoodIn wsX3_setPrices wsX3_priceOf := goodIn_r _ [20, 2, 4, 3, 21, 22, 23, 24, 25, 26, 27, 28, 29, 30, 31, 13, 32, 15, 33, 34, 35, 36, 37, 38, 39, 40, 41, 42, 43, 44, 45, 46, 47, 48, 49, 50, 51, 52, 53, 54, 55, 56, 57, 58, 63, 64, 65, 66, 67, 68, 69, 70, 71, 72, 73, 74, 75, 76, 77, 78, 79] (by decide +kernel) (by decide +kernel)
set_option maxRecDepth 20000 in
theorem gX3_setPrices_X3_priceOf : GoodIn wsX3_setPrices (wsV RX3 86 RX3 yX3_priceOf wsX3_priceOf) := goodIn_app (goodIn_of _ (by decide +kernel)) ggX3_setPrices_X3_priceOf
set_option maxRecDepth 20000 in
theorem ggX3_setPrices_X3_cellOf : GoodIn wsX3_setPrices wsX3_cellOf := goodIn_r _ [61] (by decide +kernel) (by decide +kernel)
set_option maxRecDepth 20000 in
theorem gX3_setPrices_X3_cellOf : GoodIn wsX3_setPrices (va_wsS RX3 90 yX3_cellOf wsX3_cellOf) := goodIn_app (goodIn_of _ (by decide +kernel)) ggX3_setPrices_X3_cellOf
set_option maxRecDepth 20000 in
theorem ggX3_setPrices_X2_get : GoodIn wsX3_setPrices wsX2_get := goodIn_r _ [32, 15, 79] (by decide +kernel) (by decide +kernel)
set_option maxRecDepth 20000 in
theorem gX3_setPrices_X2_get : GoodIn wsX3_setPrices (wsV RX3 69 RX2 yX2_get wsX2_get) := goodIn_app (goodIn_of _ (by decide +kernel)) ggX3_setPrices_X2_get
theorem dX3_setPrices_0 : decode cX3_setPrices 0 = .ok (.aload_n 0, 1) := by decide +kernel
theorem dX3_setPrices_1 : decode cX3_setPrices 1 = .ok (.getfield 48, 3) := by decide +kernel
theorem dX3_setPrices_4 : decode cX3_setPrices 4 = .ok (.aload_n 0, 1) := by decide +kernel
theorem dX3_setPrices_5 : decode cX3_setPrices 5 = .ok (.getfield 28, 3) := by decide +kernel
theorem dX3_setPrices_8 : decode cX3_setPrices 8 = .ok (.getfield 79, 3) := by decide +kernel
theorem dX3_setPrices_11 : decode cX3_setPrices 11 = .ok (.iconst 0, 1) := by decide +kernel
theorem dX3_setPrices_12 : decode cX3_setPrices 12 = .ok (.invokevirtual 82, 3) := by decide +kernel
theorem dX3_setPrices_15 : decode cX3_setPrices 15 = .ok (.aload_n 0, 1) := by decide +kernel
theorem dX3_setPrices_16 : decode cX3_setPrices 16 = .ok (.getfield 28, 3) := by decide +kernel
theorem dX3_setPrices_19 : decode cX3_setPrices 19 = .ok (.getfield 79, 3) := by decide +kernel
theorem dX3_setPrices_22 : decode cX3_setPrices 22 = .ok (.iconst 1, 1) := by decide +kernel
theorem dX3_setPrices_23 : decode cX3_setPrices 23 = .ok (.isub, 1) := by decide +kernel
theorem dX3_setPrices_24 : decode cX3_setPrices 24 = .ok (.istore_n 1, 1) := by decide +kernel
theorem dX3_setPrices_25 : decode cX3_setPrices 25 = .ok (.iload_n 1, 1) := by decide +kernel
theorem dX3_setPrices_26 : decode cX3_setPrices 26 = .ok (.ifCond .lt 80, 3) := by decide +kernel
theorem dX3_setPrices_29 : decode cX3_setPrices 29 = .ok (.ldc 18, 2) := by decide +kernel
theorem dX3_setPrices_31 : decode cX3_setPrices 31 = .ok (.istore_n 2, 1) := by decide +kernel
theorem dX3_setPrices_32 : decode cX3_setPrices 32 = .ok (.iload_n 1, 1) := by decide +kernel
theorem dX3_setPrices_33 : decode cX3_setPrices 33 = .ok (.iconst 1, 1) := by decide +kernel
theorem dX3_setPrices_34 : decode cX3_setPrices 34 = .ok (.iadd, 1) := by decide +kernel
theorem dX3_setPrices_35 : decode cX3_setPrices 35 = .ok (.istore_n 3, 1) := by decide +kernel
theorem dX3_setPrices_36 : decode cX3_setPrices 36 = .ok (.iload_n 3, 1) := by decide +kernel
theorem dX3_setPrices_37 : decode cX3_setPrices 37 = .ok (.aload_n 0, 1) := by decide +kernel
theorem dX3_setPrices_38 : decode cX3_setPrices 38 = .ok (.getfield 28, 3) := by decide +kernel
theorem dX3_setPrices_41 : decode cX3_setPrices 41 = .ok (.getfield 79, 3) := by decide +kernel
theorem dX3_setPrices_44 : decode cX3_setPrices 44 = .ok (.if_icmp .gt 47, 3) := by decide +kernel
theorem dX3_setPrices_47 : decode cX3_setPrices 47 = .ok (.aload_n 0, 1) := by decide +kernel
theorem dX3_setPrices_48 : decode cX3_setPrices 48 = .ok (.iload_n 1, 1) := by decide +kernel
theorem dX3_setPrices_49 : decode cX3_setPrices 49 = .ok (.iload_n 3, 1) := by decide +kernel
theorem dX3_setPrices_50 : decode cX3_setPrices 50 = .ok (.invokevirtual 86, 3) := by decide +kernel
theorem dX3_setPrices_53 : decode cX3_setPrices 53 = .ok (.istore 4, 2) := by decide +kernel
theorem dX3_setPrices_55 : decode cX3_setPrices 55 = .ok (.aload_n 0, 1) := by decide +kernel
theorem dX3_setPrices_56 : decode cX3_setPrices 56 = .ok (.getfield 44, 3) := by decide +kernel
theorem dX3_setPrices_59 : decode cX3_setPrices 59 = .ok (.iload_n 1, 1) := by decide +kernel
theorem dX3_setPrices_60 : decode cX3_setPrices 60 = .ok (.iload_n 3, 1) := by decide +kernel
theorem dX3_setPrices_61 : decode cX3_setPrices 61 = .ok (.invokestatic 90, 3) := by decide +kernel
theorem dX3_setPrices_64 : decode cX3_setPrices 64 = .ok (.iload 4, 2) := by decide +kernel
theorem dX3_setPrices_66 : decode cX3_setPrices 66 = .ok (.invokevirtual 82, 3) := by decide +kernel
theorem dX3_setPrices_69 : decode cX3_setPrices 69 = .ok (.iload_n 2, 1) := by decide +kernel
theorem dX3_setPrices_70 : decode cX3_setPrices 70 = .ok (.iload 4, 2) := by decide +kernel
theorem dX3_setPrices_72 : decode cX3_setPrices 72 = .ok (.aload_n 0, 1) := by decide +kernel
theorem dX3_setPrices_73 : decode cX3_setPrices 73 = .ok (.getfield 48, 3) := by decide +kernel
theorem dX3_setPrices_76 : decode cX3_setPrices 76 = .ok (.iload_n 3, 1) := by decide +kernel
theorem dX3_setPrices_77 : decode cX3_setPrices 77 = .ok (.invokevirtual 69, 3) := by decide +kernel
theorem dX3_setPrices_80 : decode cX3_setPrices 80 = .ok (.iadd, 1) := by decide +kernel
theorem dX3_setPrices_81 : decode cX3_setPrices 81 = .ok (.invokestatic 93, 3) := by decide +kernel
theorem dX3_setPrices_84 : decode cX3_setPrices 84 = .ok (.istore_n 2, 1) := by decide +kernel
theorem dX3_setPrices_85 : decode cX3_setPrices 85 = .ok (.iinc 3 1, 3) := by decide +kernel
theorem dX3_setPrices_88 : decode cX3_setPrices 88 = .ok (.goto (-52), 3) := by decide +kernel
theorem dX3_setPrices_91 : decode cX3_setPrices 91 = .ok (.aload_n 0, 1) := by decide +kernel
theorem dX3_setPrices_92 : decode cX3_setPrices 92 = .ok (.getfield 48, 3) := by decide +kernel
theorem dX3_setPrices_95 : decode cX3_setPrices 95 = .ok (.iload_n 1, 1) := by decide +kernel
theorem dX3_setPrices_96 : decode cX3_setPrices 96 = .ok (.iload_n 2, 1) := by decide +kernel
theorem dX3_setPrices_97 : decode cX3_setPrices 97 = .ok (.invokevirtual 82, 3) := by decide +kernel
theorem dX3_setPrices_100 : decode cX3_setPrices 100 = .ok (.iinc 1 (-1), 3) := by decide +kernel
theorem dX3_setPrices_103 : decode cX3_setPrices 103 = .ok (.goto (-78), 3) := by decide +kernel
theorem dX3_setPrices_106 : decode cX3_setPrices 106 = .ok (.return_, 1) := by decide +kernel
set_option maxRecDepth 20000 in
theorem ggX3_priceOf_X1_isLine : GoodIn wsX3_priceOf wsX1_isLine := goodIn_r _ [10, 11, 12, 13, 14, 15, 16, 17, 18, 19, 20, 9, 21, 22, 54, 55, 56, 57, 58, 59, 60] (by decide +kernel) (by decide +kernel)
set_option maxRecDepth 20000 in
theorem gX3_priceOf_X1_isLine : GoodIn wsX3_priceOf (wsV RX3 98 RX1 yX1_isLine wsX1_isLine) := goodIn_app (goodIn_of _ (by decide +kernel)) ggX3_priceOf_X1_isLine
set_option maxRecDepth 20000 in
theorem ggX3_priceOf_X1_extra : GoodIn wsX3_priceOf wsX1_extra := goodIn_r _ [26, 27, 28, 12, 13, 14, 15, 16, 17, 54, 55, 56, 57, 58, 59, 60] (by decide +kernel) (by decide +kernel)
set_option maxRecDepth 20000 in
theorem gX3_priceOf_X1_extra : GoodIn wsX3_priceOf (wsV RX3 102 RX1 yX1_extra wsX1_extra) := goodIn_app (goodIn_of _ (by decide +kernel)) ggX3_priceOf_X1_extra
set_option maxRecDepth 20000 in
theorem ggX3_priceOf_X1_hasFrozen : GoodIn wsX3_priceOf wsX1_hasFrozen := goodIn_r _ [32, 33, 34, 35, 9, 36, 37, 12, 13, 14, 15, 16, 17, 54, 55, 56, 57, 58, 59, 60] (by decide +kernel) (by decide +kernel)
set_option maxRecDepth 20000 in
theorem gX3_priceOf_X1_hasFrozen : GoodIn wsX3_priceOf (wsV RX3 105 RX1 yX1_hasFrozen wsX1_hasFrozen) := goodIn_app (goodIn_of _ (by decide +kernel)) ggX3_priceOf_X1_hasFrozen
set_option maxRecDepth 20000 in
theorem ggX3_priceOf_X1_isFrozen : GoodIn wsX3_priceOf wsX1_isFrozen := goodIn_r _ [36, 37, 12, 13, 14, 15, 16, 17, 54, 55, 56, 57, 58, 59, 60] (by decide +kernel) (by decide +kernel)
set_option maxRecDepth 20000 in
theorem gX3_priceOf_X1_isFrozen : GoodIn wsX3_priceOf (wsV RX3 108 RX1 yX1_isFrozen wsX1_isFrozen) := goodIn_app (goodIn_of _ (by decide +kernel)) ggX3_priceOf_X1_isFrozen
set_option maxRecDepth 20000 in
theorem ggX3_priceOf_X1_badness : GoodIn wsX3_priceOf wsX1_badness := goodIn_r _ [42, 22, 43, 24, 25, 9, 26, 27, 28, 12, 13, 14, 15, 16, 17, 54, 55, 56, 57, 58, 59, 60] (by decide +kernel) (by decide +kernel)
set_option maxRecDepth 20000 in
theorem gX3_priceOf_X1_badness : GoodIn wsX3_priceOf (wsV RX3 115 RX1 yX1_badness wsX1_badness) := goodIn_app (goodIn_of _ (by decide +kernel)) ggX3_priceOf_X1_badness
theorem dX3_priceOf_0 : decode cX3_priceOf 0 = .ok (.aload_n 0, 1) := by decide +kernel
theorem dX3_priceOf_1 : decode cX3_priceOf 1 = .ok (.getfield 28, 3) := by decide +kernel
theorem dX3_priceOf_4 : decode cX3_priceOf 4 = .ok (.iload_n 1, 1) := by decide +kernel
theorem dX3_priceOf_5 : decode cX3_priceOf 5 = .ok (.iload_n 2, 1) := by decide +kernel
theorem dX3_priceOf_6 : decode cX3_priceOf 6 = .ok (.invokevirtual 98, 3) := by decide +kernel
theorem dX3_priceOf_9 : decode cX3_priceOf 9 = .ok (.istore_n 3, 1) := by decide +kernel
theorem dX3_priceOf_10 : decode cX3_priceOf 10 = .ok (.aload_n 0, 1) := by decide +kernel
theorem dX3_priceOf_11 : decode cX3_priceOf 11 = .ok (.getfield 28, 3) := by decide +kernel
theorem dX3_priceOf_14 : decode cX3_priceOf 14 = .ok (.iload_n 1, 1) := by decide +kernel
theorem dX3_priceOf_15 : decode cX3_priceOf 15 = .ok (.iload_n 2, 1) := by decide +kernel
theorem dX3_priceOf_16 : decode cX3_priceOf 16 = .ok (.invokevirtual 102, 3) := by decide +kernel
theorem dX3_priceOf_19 : decode cX3_priceOf 19 = .ok (.istore 4, 2) := by decide +kernel
theorem dX3_priceOf_21 : decode cX3_priceOf 21 = .ok (.iload 4, 2) := by decide +kernel
theorem dX3_priceOf_23 : decode cX3_priceOf 23 = .ok (.ifCond .lt 17, 3) := by decide +kernel
theorem dX3_priceOf_26 : decode cX3_priceOf 26 = .ok (.aload_n 0, 1) := by decide +kernel
theorem dX3_priceOf_27 : decode cX3_priceOf 27 = .ok (.getfield 28, 3) := by decide +kernel
theorem dX3_priceOf_30 : decode cX3_priceOf 30 = .ok (.iload_n 1, 1) := by decide +kernel
theorem dX3_priceOf_31 : decode cX3_priceOf 31 = .ok (.iconst 1, 1) := by decide +kernel
theorem dX3_priceOf_32 : decode cX3_priceOf 32 = .ok (.iadd, 1) := by decide +kernel
theorem dX3_priceOf_33 : decode cX3_priceOf 33 = .ok (.iload_n 2, 1) := by decide +kernel
theorem dX3_priceOf_34 : decode cX3_priceOf 34 = .ok (.invokevirtual 105, 3) := by decide +kernel
theorem dX3_priceOf_37 : decode cX3_priceOf 37 = .ok (.ifCond .eq 6, 3) := by decide +kernel
theorem dX3_priceOf_40 : decode cX3_priceOf 40 = .ok (.ldc 18, 2) := by decide +kernel
theorem dX3_priceOf_42 : decode cX3_priceOf 42 = .ok (.ireturn, 1) := by decide +kernel
theorem dX3_priceOf_43 : decode cX3_priceOf 43 = .ok (.aload_n 0, 1) := by decide +kernel
theorem dX3_priceOf_44 : decode cX3_priceOf 44 = .ok (.getfield 28, 3) := by decide +kernel
theorem dX3_priceOf_47 : decode cX3_priceOf 47 = .ok (.iload_n 1, 1) := by decide +kernel
theorem dX3_priceOf_48 : decode cX3_priceOf 48 = .ok (.invokevirtual 108, 3) := by decide +kernel
theorem dX3_priceOf_51 : decode cX3_priceOf 51 = .ok (.ifCond .eq 10, 3) := by decide +kernel
theorem dX3_priceOf_54 : decode cX3_priceOf 54 = .ok (.iload_n 3, 1) := by decide +kernel
theorem dX3_priceOf_55 : decode cX3_priceOf 55 = .ok (.ifCond .ne 6, 3) := by decide +kernel
theorem dX3_priceOf_58 : decode cX3_priceOf 58 = .ok (.ldc 18, 2) := by decide +kernel
theorem dX3_priceOf_60 : decode cX3_priceOf 60 = .ok (.ireturn, 1) := by decide +kernel
theorem dX3_priceOf_61 : decode cX3_priceOf 61 = .ok (.aload_n 0, 1) := by decide +kernel
theorem dX3_priceOf_62 : decode cX3_priceOf 62 = .ok (.getfield 28, 3) := by decide +kernel
theorem dX3_priceOf_65 : decode cX3_priceOf 65 = .ok (.iload_n 1, 1) := by decide +kernel
theorem dX3_priceOf_66 : decode cX3_priceOf 66 = .ok (.invokevirtual 108, 3) := by decide +kernel
theorem dX3_priceOf_69 : decode cX3_priceOf 69 = .ok (.ifCond .ne 29, 3) := by decide +kernel
theorem dX3_priceOf_72 : decode cX3_priceOf 72 = .ok (.iload_n 2, 1) := by decide +kernel
theorem dX3_priceOf_73 : decode cX3_priceOf 73 = .ok (.aload_n 0, 1) := by decide +kernel
theorem dX3_priceOf_74 : decode cX3_priceOf 74 = .ok (.getfield 28, 3) := by decide +kernel
theorem dX3_priceOf_77 : decode cX3_priceOf 77 = .ok (.getfield 79, 3) := by decide +kernel
theorem dX3_priceOf_80 : decode cX3_priceOf 80 = .ok (.if_icmp .ge 18, 3) := by decide +kernel
theorem dX3_priceOf_83 : decode cX3_priceOf 83 = .ok (.iload 4, 2) := by decide +kernel
theorem dX3_priceOf_85 : decode cX3_priceOf 85 = .ok (.aload_n 0, 1) := by decide +kernel
theorem dX3_priceOf_86 : decode cX3_priceOf 86 = .ok (.getfield 28, 3) := by decide +kernel
theorem dX3_priceOf_89 : decode cX3_priceOf 89 = .ok (.getfield 112, 3) := by decide +kernel
theorem dX3_priceOf_92 : decode cX3_priceOf 92 = .ok (.if_icmp .le 6, 3) := by decide +kernel
theorem dX3_priceOf_95 : decode cX3_priceOf 95 = .ok (.ldc 18, 2) := by decide +kernel
theorem dX3_priceOf_97 : decode cX3_priceOf 97 = .ok (.ireturn, 1) := by decide +kernel
theorem dX3_priceOf_98 : decode cX3_priceOf 98 = .ok (.aload_n 0, 1) := by decide +kernel
theorem dX3_priceOf_99 : decode cX3_priceOf 99 = .ok (.getfield 28, 3) := by decide +kernel
theorem dX3_priceOf_102 : decode cX3_priceOf 102 = .ok (.iload_n 1, 1) := by decide +kernel
theorem dX3_priceOf_103 : decode cX3_priceOf 103 = .ok (.iload_n 2, 1) := by decide +kernel
theorem dX3_priceOf_104 : decode cX3_priceOf 104 = .ok (.invokevirtual 115, 3) := by decide +kernel
theorem dX3_priceOf_107 : decode cX3_priceOf 107 = .ok (.iload_n 3, 1) := by decide +kernel
theorem dX3_priceOf_108 : decode cX3_priceOf 108 = .ok (.ifCond .eq 7, 3) := by decide +kernel
theorem dX3_priceOf_111 : decode cX3_priceOf 111 = .ok (.iconst 0, 1) := by decide +kernel
theorem dX3_priceOf_112 : decode cX3_priceOf 112 = .ok (.goto 5, 3) := by decide +kernel
theorem dX3_priceOf_115 : decode cX3_priceOf 115 = .ok (.ldc 68, 2) := by decide +kernel
theorem dX3_priceOf_117 : decode cX3_priceOf 117 = .ok (.iadd, 1) := by decide +kernel
theorem dX3_priceOf_118 : decode cX3_priceOf 118 = .ok (.ireturn, 1) := by decide +kernel
theorem dX3_cellOf_0 : decode cX3_cellOf 0 = .ok (.iload_n 0, 1) := by decide +kernel
theorem dX3_cellOf_1 : decode cX3_cellOf 1 = .ok (.bipush 24, 2) := by decide +kernel
theorem dX3_cellOf_3 : decode cX3_cellOf 3 = .ok (.imul, 1) := by decide +kernel
theorem dX3_cellOf_4 : decode cX3_cellOf 4 = .ok (.iload_n 1, 1) := by decide +kernel
theorem dX3_cellOf_5 : decode cX3_cellOf 5 = .ok (.iadd, 1) := by decide +kernel
theorem dX3_cellOf_6 : decode cX3_cellOf 6 = .ok (.iload_n 0, 1) := by decide +kernel
theorem dX3_cellOf_7 : decode cX3_cellOf 7 = .ok (.isub, 1) := by decide +kernel
theorem dX3_cellOf_8 : decode cX3_cellOf 8 = .ok (.iconst 1, 1) := by decide +kernel
theorem dX3_cellOf_9 : decode cX3_cellOf 9 = .ok (.isub, 1) := by decide +kernel
theorem dX3_cellOf_10 : decode cX3_cellOf 10 = .ok (.ireturn, 1) := by decide +kernel
set_option maxRecDepth 20000 in
theorem ggX3_keepTried_X2_copyFrom : GoodIn wsX3_keepTried wsX2_copyFrom := goodIn_r _ [10, 11, 12, 13, 14, 9, 15, 26] (by decide +kernel) (by decide +kernel)
set_option maxRecDepth 20000 in
theorem gX3_keepTried_X2_copyFrom : GoodIn wsX3_keepTried (wsV RX3 118 RX2 yX2_copyFrom wsX2_copyFrom) := goodIn_app (goodIn_of _ (by decide +kernel)) ggX3_keepTried_X2_copyFrom
theorem dX3_keepTried_0 : decode cX3_keepTried 0 = .ok (.aload_n 0, 1) := by decide +kernel
theorem dX3_keepTried_1 : decode cX3_keepTried 1 = .ok (.iload_n 2, 1) := by decide +kernel
theorem dX3_keepTried_2 : decode cX3_keepTried 2 = .ok (.putfield 19, 3) := by decide +kernel
theorem dX3_keepTried_5 : decode cX3_keepTried 5 = .ok (.aload_n 0, 1) := by decide +kernel
theorem dX3_keepTried_6 : decode cX3_keepTried 6 = .ok (.iload_n 1, 1) := by decide +kernel
theorem dX3_keepTried_7 : decode cX3_keepTried 7 = .ok (.putfield 9, 3) := by decide +kernel
theorem dX3_keepTried_10 : decode cX3_keepTried 10 = .ok (.aload_n 0, 1) := by decide +kernel
theorem dX3_keepTried_11 : decode cX3_keepTried 11 = .ok (.iload_n 3, 1) := by decide +kernel
theorem dX3_keepTried_12 : decode cX3_keepTried 12 = .ok (.putfield 15, 3) := by decide +kernel
theorem dX3_keepTried_15 : decode cX3_keepTried 15 = .ok (.aload_n 0, 1) := by decide +kernel
theorem dX3_keepTried_16 : decode cX3_keepTried 16 = .ok (.getfield 54, 3) := by decide +kernel
theorem dX3_keepTried_19 : decode cX3_keepTried 19 = .ok (.aload_n 0, 1) := by decide +kernel
theorem dX3_keepTried_20 : decode cX3_keepTried 20 = .ok (.getfield 51, 3) := by decide +kernel
theorem dX3_keepTried_23 : decode cX3_keepTried 23 = .ok (.invokevirtual 118, 3) := by decide +kernel
theorem dX3_keepTried_26 : decode cX3_keepTried 26 = .ok (.return_, 1) := by decide +kernel
set_option maxRecDepth 20000 in
theorem ggX3_tryLines_X3_keepTried : GoodIn wsX3_tryLines wsX3_keepTried := goodIn_r _ [17, 4, 18, 19, 20, 8, 21, 22, 23, 24, 25, 26, 27, 28, 29, 30, 81, 82, 83, 84, 85, 86, 87, 88, 89, 90, 97] (by decide +kernel) (by decide +kernel)
set_option maxRecDepth 20000 in
theorem gX3_tryLines_X3_keepTried : GoodIn wsX3_tryLines (wsV RX3 121 RX3 yX3_keepTried wsX3_keepTried) := goodIn_app (goodIn_of _ (by decide +kernel)) ggX3_tryLines_X3_keepTried
set_option maxRecDepth 20000 in
theorem ggX3_tryLines_X3_cellOf : GoodIn wsX3_tryLines wsX3_cellOf := goodIn_r _ [33] (by decide +kernel) (by decide +kernel)
set_option maxRecDepth 20000 in
theorem gX3_tryLines_X3_cellOf : GoodIn wsX3_tryLines (va_wsS RX3 90 yX3_cellOf wsX3_cellOf) := goodIn_app (goodIn_of _ (by decide +kernel)) ggX3_tryLines_X3_cellOf
set_option maxRecDepth 20000 in
theorem ggX3_tryLines_X2_get : GoodIn wsX3_tryLines wsX2_get := goodIn_r _ [30, 26, 97] (by decide +kernel) (by decide +kernel)
set_option maxRecDepth 20000 in
theorem gX3_tryLines_X2_get : GoodIn wsX3_tryLines (wsV RX3 69 RX2 yX2_get wsX2_get) := goodIn_app (goodIn_of _ (by decide +kernel)) ggX3_tryLines_X2_get
set_option maxRecDepth 20000 in
theorem ggX3_tryLines_X4_layLine : GoodIn wsX3_tryLines wsX4_layLine := goodIn_r _ [39, 40, 41, 10, 11, 12, 42, 43, 44, 38, 45, 46, 47, 48, 49, 50, 51, 52, 53, 54, 55, 56, 57, 28, 29, 24, 30, 26, 58, 59, 60, 61, 62, 63, 64, 65, 66, 67, 68, 69, 70, 71, 72, 73, 74, 75, 76, 77, 98, 99, 100, 101, 91, 92, 93, 94, 95, 96, 97] (by decide +kernel) (by decide +kernel)
set_option maxRecDepth 20000 in
theorem gX3_tryLines_X4_layLine : GoodIn wsX3_tryLines (wsV RX3 125 RX4 yX4_layLine wsX4_layLine) := goodIn_app (goodIn_of _ (by decide +kernel)) ggX3_tryLines_X4_layLine
set_option maxRecDepth 20000 in
theorem ggX3_tryLines_X2_set : GoodIn wsX3_tryLines wsX2_set := goodIn_r _ [61, 26, 97] (by decide +kernel) (by decide +kernel)
set_option maxRecDepth 20000 in
theorem gX3_tryLines_X2_set : GoodIn wsX3_tryLines (wsV RX3 82 RX2 yX2_set wsX2_set) := goodIn_app (goodIn_of _ (by decide +kernel)) ggX3_tryLines_X2_set
set_option maxRecDepth 20000 in
theorem ggX3_tryLines_X3_tryLines : GoodIn wsX3_tryLines wsX3_tryLines := goodIn_r _ [0, 1, 2, 3, 4, 5, 6, 7, 8, 9, 10, 11, 12, 13, 14, 15, 16, 17, 18, 19, 20, 21, 22, 23, 24, 25, 26, 27, 28, 29, 30, 31, 32, 33, 34, 35, 36, 37, 38, 39, 40, 41, 42, 43, 44, 45, 46, 47, 48, 49, 50, 51, 52, 53, 54, 55, 56, 57, 58, 59, 60, 61, 62, 63, 64, 65, 66, 67, 68, 69, 70, 71, 72, 73, 74, 75, 76, 77, 78, 79, 80, 81, 82, 83, 84, 85, 86, 87, 88, 89, 90, 91, 92, 93, 94, 95, 96, 97, 98, 99, 100, 101] (by decide +kernel) (by decide +kernel)
set_option maxRecDepth 20000 in
theorem gX3_tryLines_X3_tryLines : GoodIn wsX3_tryLines (va_wsS RX3 64 yX3_tryLines wsX3_tryLines) := goodIn_app (goodIn_of _ (by decide +kernel)) ggX3_tryLines_X3_tryLines
theorem dX3_tryLines_0 : decode cX3_tryLines 0 = .ok (.iload_n 3, 1) := by decide +kernel
theorem dX3_tryLines_1 : decode cX3_tryLines 1 = .ok (.aload_n 0, 1) := by decide +kernel
theorem dX3_tryLines_2 : decode cX3_tryLines 2 = .ok (.getfield 28, 3) := by decide +kernel
theorem dX3_tryLines_5 : decode cX3_tryLines 5 = .ok (.getfield 79, 3) := by decide +kernel
theorem dX3_tryLines_8 : decode cX3_tryLines 8 = .ok (.if_icmp .lt 13, 3) := by decide +kernel
theorem dX3_tryLines_11 : decode cX3_tryLines 11 = .ok (.aload_n 0, 1) := by decide +kernel
theorem dX3_tryLines_12 : decode cX3_tryLines 12 = .ok (.iload_n 1, 1) := by decide +kernel
theorem dX3_tryLines_13 : decode cX3_tryLines 13 = .ok (.iload 4, 2) := by decide +kernel
theorem dX3_tryLines_15 : decode cX3_tryLines 15 = .ok (.iload 5, 2) := by decide +kernel
theorem dX3_tryLines_17 : decode cX3_tryLines 17 = .ok (.invokevirtual 121, 3) := by decide +kernel
theorem dX3_tryLines_20 : decode cX3_tryLines 20 = .ok (.return_, 1) := by decide +kernel
theorem dX3_tryLines_21 : decode cX3_tryLines 21 = .ok (.iload_n 1, 1) := by decide +kernel
theorem dX3_tryLines_22 : decode cX3_tryLines 22 = .ok (.bipush 24, 2) := by decide +kernel
theorem dX3_tryLines_24 : decode cX3_tryLines 24 = .ok (.if_icmp .lt 4, 3) := by decide +kernel
theorem dX3_tryLines_27 : decode cX3_tryLines 27 = .ok (.return_, 1) := by decide +kernel
theorem dX3_tryLines_28 : decode cX3_tryLines 28 = .ok (.aload_n 0, 1) := by decide +kernel
theorem dX3_tryLines_29 : decode cX3_tryLines 29 = .ok (.getfield 28, 3) := by decide +kernel
theorem dX3_tryLines_32 : decode cX3_tryLines 32 = .ok (.getfield 79, 3) := by decide +kernel
theorem dX3_tryLines_35 : decode cX3_tryLines 35 = .ok (.istore 6, 2) := by decide +kernel
theorem dX3_tryLines_37 : decode cX3_tryLines 37 = .ok (.iload 6, 2) := by decide +kernel
theorem dX3_tryLines_39 : decode cX3_tryLines 39 = .ok (.iload_n 3, 1) := by decide +kernel
theorem dX3_tryLines_40 : decode cX3_tryLines 40 = .ok (.if_icmp .le 115, 3) := by decide +kernel
theorem dX3_tryLines_43 : decode cX3_tryLines 43 = .ok (.iload 4, 2) := by decide +kernel
theorem dX3_tryLines_45 : decode cX3_tryLines 45 = .ok (.aload_n 0, 1) := by decide +kernel
theorem dX3_tryLines_46 : decode cX3_tryLines 46 = .ok (.getfield 44, 3) := by decide +kernel
theorem dX3_tryLines_49 : decode cX3_tryLines 49 = .ok (.iload_n 3, 1) := by decide +kernel
theorem dX3_tryLines_50 : decode cX3_tryLines 50 = .ok (.iload 6, 2) := by decide +kernel
theorem dX3_tryLines_52 : decode cX3_tryLines 52 = .ok (.invokestatic 90, 3) := by decide +kernel
theorem dX3_tryLines_55 : decode cX3_tryLines 55 = .ok (.invokevirtual 69, 3) := by decide +kernel
theorem dX3_tryLines_58 : decode cX3_tryLines 58 = .ok (.iadd, 1) := by decide +kernel
theorem dX3_tryLines_59 : decode cX3_tryLines 59 = .ok (.istore 7, 2) := by decide +kernel
theorem dX3_tryLines_61 : decode cX3_tryLines 61 = .ok (.iload 7, 2) := by decide +kernel
theorem dX3_tryLines_63 : decode cX3_tryLines 63 = .ok (.aload_n 0, 1) := by decide +kernel
theorem dX3_tryLines_64 : decode cX3_tryLines 64 = .ok (.getfield 19, 3) := by decide +kernel
theorem dX3_tryLines_67 : decode cX3_tryLines 67 = .ok (.if_icmp .ge 82, 3) := by decide +kernel
theorem dX3_tryLines_70 : decode cX3_tryLines 70 = .ok (.iload 7, 2) := by decide +kernel
theorem dX3_tryLines_72 : decode cX3_tryLines 72 = .ok (.aload_n 0, 1) := by decide +kernel
theorem dX3_tryLines_73 : decode cX3_tryLines 73 = .ok (.getfield 48, 3) := by decide +kernel
theorem dX3_tryLines_76 : decode cX3_tryLines 76 = .ok (.iload 6, 2) := by decide +kernel
theorem dX3_tryLines_78 : decode cX3_tryLines 78 = .ok (.invokevirtual 69, 3) := by decide +kernel
theorem dX3_tryLines_81 : decode cX3_tryLines 81 = .ok (.iadd, 1) := by decide +kernel
theorem dX3_tryLines_82 : decode cX3_tryLines 82 = .ok (.aload_n 0, 1) := by decide +kernel
theorem dX3_tryLines_83 : decode cX3_tryLines 83 = .ok (.getfield 19, 3) := by decide +kernel
theorem dX3_tryLines_86 : decode cX3_tryLines 86 = .ok (.if_icmp .lt 6, 3) := by decide +kernel
theorem dX3_tryLines_89 : decode cX3_tryLines 89 = .ok (.goto 60, 3) := by decide +kernel
theorem dX3_tryLines_92 : decode cX3_tryLines 92 = .ok (.aload_n 0, 1) := by decide +kernel
theorem dX3_tryLines_93 : decode cX3_tryLines 93 = .ok (.getfield 35, 3) := by decide +kernel
theorem dX3_tryLines_96 : decode cX3_tryLines 96 = .ok (.aload_n 0, 1) := by decide +kernel
theorem dX3_tryLines_97 : decode cX3_tryLines 97 = .ok (.getfield 28, 3) := by decide +kernel
theorem dX3_tryLines_100 : decode cX3_tryLines 100 = .ok (.iload_n 2, 1) := by decide +kernel
theorem dX3_tryLines_101 : decode cX3_tryLines 101 = .ok (.iload_n 3, 1) := by decide +kernel
theorem dX3_tryLines_102 : decode cX3_tryLines 102 = .ok (.iload 6, 2) := by decide +kernel
theorem dX3_tryLines_104 : decode cX3_tryLines 104 = .ok (.invokevirtual 125, 3) := by decide +kernel
theorem dX3_tryLines_107 : decode cX3_tryLines 107 = .ok (.istore 8, 2) := by decide +kernel
theorem dX3_tryLines_109 : decode cX3_tryLines 109 = .ok (.iload 8, 2) := by decide +kernel
theorem dX3_tryLines_111 : decode cX3_tryLines 111 = .ok (.aload_n 0, 1) := by decide +kernel
theorem dX3_tryLines_112 : decode cX3_tryLines 112 = .ok (.getfield 22, 3) := by decide +kernel
theorem dX3_tryLines_115 : decode cX3_tryLines 115 = .ok (.if_icmp .gt 34, 3) := by decide +kernel
theorem dX3_tryLines_118 : decode cX3_tryLines 118 = .ok (.aload_n 0, 1) := by decide +kernel
theorem dX3_tryLines_119 : decode cX3_tryLines 119 = .ok (.getfield 51, 3) := by decide +kernel
theorem dX3_tryLines_122 : decode cX3_tryLines 122 = .ok (.iload_n 1, 1) := by decide +kernel
theorem dX3_tryLines_123 : decode cX3_tryLines 123 = .ok (.iload 6, 2) := by decide +kernel
theorem dX3_tryLines_125 : decode cX3_tryLines 125 = .ok (.iload_n 3, 1) := by decide +kernel
theorem dX3_tryLines_126 : decode cX3_tryLines 126 = .ok (.isub, 1) := by decide +kernel
theorem dX3_tryLines_127 : decode cX3_tryLines 127 = .ok (.invokevirtual 82, 3) := by decide +kernel
theorem dX3_tryLines_130 : decode cX3_tryLines 130 = .ok (.aload_n 0, 1) := by decide +kernel
theorem dX3_tryLines_131 : decode cX3_tryLines 131 = .ok (.iload_n 1, 1) := by decide +kernel
theorem dX3_tryLines_132 : decode cX3_tryLines 132 = .ok (.iconst 1, 1) := by decide +kernel
theorem dX3_tryLines_133 : decode cX3_tryLines 133 = .ok (.iadd, 1) := by decide +kernel
theorem dX3_tryLines_134 : decode cX3_tryLines 134 = .ok (.iload_n 3, 1) := by decide +kernel
theorem dX3_tryLines_135 : decode cX3_tryLines 135 = .ok (.iload 6, 2) := by decide +kernel
theorem dX3_tryLines_137 : decode cX3_tryLines 137 = .ok (.iload 7, 2) := by decide +kernel
theorem dX3_tryLines_139 : decode cX3_tryLines 139 = .ok (.iload 5, 2) := by decide +kernel
theorem dX3_tryLines_141 : decode cX3_tryLines 141 = .ok (.iload 8, 2) := by decide +kernel
theorem dX3_tryLines_143 : decode cX3_tryLines 143 = .ok (.invokestatic 129, 3) := by decide +kernel
theorem dX3_tryLines_146 : decode cX3_tryLines 146 = .ok (.invokestatic 64, 3) := by decide +kernel
theorem dX3_tryLines_149 : decode cX3_tryLines 149 = .ok (.iinc 6 (-1), 3) := by decide +kernel
theorem dX3_tryLines_152 : decode cX3_tryLines 152 = .ok (.goto (-115), 3) := by decide +kernel
theorem dX3_tryLines_155 : decode cX3_tryLines 155 = .ok (.return_, 1) := by decide +kernel
set_option maxRecDepth 20000 in
theorem ggX4_init_X2_init : GoodIn wsX4_init wsX2_init := goodIn_r _ [13, 14, 2, 3, 15, 16, 17, 18, 19, 20, 21] (by decide +kernel) (by decide +kernel)
set_option maxRecDepth 20000 in
theorem gX4_init_X2_init : GoodIn wsX4_init (wsX2_init) := ggX4_init_X2_init
theorem dX4_init_0 : decode cX4_init 0 = .ok (.aload_n 0, 1) := by decide +kernel
theorem dX4_init_1 : decode cX4_init 1 = .ok (.invokespecial 3, 3) := by decide +kernel
theorem dX4_init_4 : decode cX4_init 4 = .ok (.aload_n 0, 1) := by decide +kernel
theorem dX4_init_5 : decode cX4_init 5 = .ok (.new 9, 3) := by decide +kernel
theorem dX4_init_8 : decode cX4_init 8 = .ok (.dup, 1) := by decide +kernel
theorem dX4_init_9 : decode cX4_init 9 = .ok (.bipush 24, 2) := by decide +kernel
theorem dX4_init_11 : decode cX4_init 11 = .ok (.invokespecial 11, 3) := by decide +kernel
theorem dX4_init_14 : decode cX4_init 14 = .ok (.putfield 14, 3) := by decide +kernel
theorem dX4_init_17 : decode cX4_init 17 = .ok (.aload_n 0, 1) := by decide +kernel
theorem dX4_init_18 : decode cX4_init 18 = .ok (.new 9, 3) := by decide +kernel
theorem dX4_init_21 : decode cX4_init 21 = .ok (.dup, 1) := by decide +kernel
theorem dX4_init_22 : decode cX4_init 22 = .ok (.bipush 24, 2) := by decide +kernel
theorem dX4_init_24 : decode cX4_init 24 = .ok (.invokespecial 11, 3) := by decide +kernel
theorem dX4_init_27 : decode cX4_init 27 = .ok (.putfield 20, 3) := by decide +kernel
theorem dX4_init_30 : decode cX4_init 30 = .ok (.aload_n 0, 1) := by decide +kernel
theorem dX4_init_31 : decode cX4_init 31 = .ok (.new 9, 3) := by decide +kernel
theorem dX4_init_34 : decode cX4_init 34 = .ok (.dup, 1) := by decide +kernel
theorem dX4_init_35 : decode cX4_init 35 = .ok (.bipush 24, 2) := by decide +kernel
theorem dX4_init_37 : decode cX4_init 37 = .ok (.invokespecial 11, 3) := by decide +kernel
theorem dX4_init_40 : decode cX4_init 40 = .ok (.putfield 23, 3) := by decide +kernel
theorem dX4_init_43 : decode cX4_init 43 = .ok (.aload_n 0, 1) := by decide +kernel
theorem dX4_init_44 : decode cX4_init 44 = .ok (.new 9, 3) := by decide +kernel
theorem dX4_init_47 : decode cX4_init 47 = .ok (.dup, 1) := by decide +kernel
theorem dX4_init_48 : decode cX4_init 48 = .ok (.bipush 24, 2) := by decide +kernel
theorem dX4_init_50 : decode cX4_init 50 = .ok (.invokespecial 11, 3) := by decide +kernel
theorem dX4_init_53 : decode cX4_init 53 = .ok (.putfield 26, 3) := by decide +kernel
theorem dX4_init_56 : decode cX4_init 56 = .ok (.return_, 1) := by decide +kernel
set_option maxRecDepth 20000 in
theorem ggX4_columnOf_X2_get : GoodIn wsX4_columnOf wsX2_get := goodIn_r _ [6, 7, 12] (by decide +kernel) (by decide +kernel)
set_option maxRecDepth 20000 in
theorem gX4_columnOf_X2_get : GoodIn wsX4_columnOf (wsV RX4 29 RX2 yX2_get wsX2_get) := goodIn_app (goodIn_of _ (by decide +kernel)) ggX4_columnOf_X2_get
theorem dX4_columnOf_0 : decode cX4_columnOf 0 = .ok (.aload_n 0, 1) := by decide +kernel
theorem dX4_columnOf_1 : decode cX4_columnOf 1 = .ok (.getfield 14, 3) := by decide +kernel
theorem dX4_columnOf_4 : decode cX4_columnOf 4 = .ok (.iload_n 1, 1) := by decide +kernel
theorem dX4_columnOf_5 : decode cX4_columnOf 5 = .ok (.invokevirtual 29, 3) := by decide +kernel
theorem dX4_columnOf_8 : decode cX4_columnOf 8 = .ok (.ireturn, 1) := by decide +kernel
set_option maxRecDepth 20000 in
theorem ggX4_gapColumn_X2_get : GoodIn wsX4_gapColumn wsX2_get := goodIn_r _ [6, 7, 12] (by decide +kernel) (by decide +kernel)
set_option maxRecDepth 20000 in
theorem gX4_gapColumn_X2_get : GoodIn wsX4_gapColumn (wsV RX4 29 RX2 yX2_get wsX2_get) := goodIn_app (goodIn_of _ (by decide +kernel)) ggX4_gapColumn_X2_get
theorem dX4_gapColumn_0 : decode cX4_gapColumn 0 = .ok (.aload_n 0, 1) := by decide +kernel
theorem dX4_gapColumn_1 : decode cX4_gapColumn 1 = .ok (.getfield 20, 3) := by decide +kernel
theorem dX4_gapColumn_4 : decode cX4_gapColumn 4 = .ok (.iload_n 1, 1) := by decide +kernel
theorem dX4_gapColumn_5 : decode cX4_gapColumn 5 = .ok (.invokevirtual 29, 3) := by decide +kernel
theorem dX4_gapColumn_8 : decode cX4_gapColumn 8 = .ok (.ireturn, 1) := by decide +kernel
set_option maxRecDepth 20000 in
theorem ggX4_gapWidth_X2_get : GoodIn wsX4_gapWidth wsX2_get := goodIn_r _ [6, 7, 12] (by decide +kernel) (by decide +kernel)
set_option maxRecDepth 20000 in
theorem gX4_gapWidth_X2_get : GoodIn wsX4_gapWidth (wsV RX4 29 RX2 yX2_get wsX2_get) := goodIn_app (goodIn_of _ (by decide +kernel)) ggX4_gapWidth_X2_get
theorem dX4_gapWidth_0 : decode cX4_gapWidth 0 = .ok (.aload_n 0, 1) := by decide +kernel
theorem dX4_gapWidth_1 : decode cX4_gapWidth 1 = .ok (.getfield 23, 3) := by decide +kernel
theorem dX4_gapWidth_4 : decode cX4_gapWidth 4 = .ok (.iload_n 1, 1) := by decide +kernel
theorem dX4_gapWidth_5 : decode cX4_gapWidth 5 = .ok (.invokevirtual 29, 3) := by decide +kernel
theorem dX4_gapWidth_8 : decode cX4_gapWidth 8 = .ok (.ireturn, 1) := by decide +kernel
set_option maxRecDepth 20000 in
theorem ggX4_reachOf_X2_get : GoodIn wsX4_reachOf wsX2_get := goodIn_r _ [6, 7, 12] (by decide +kernel) (by decide +kernel)
set_option maxRecDepth 20000 in
theorem gX4_reachOf_X2_get : GoodIn wsX4_reachOf (wsV RX4 29 RX2 yX2_get wsX2_get) := goodIn_app (goodIn_of _ (by decide +kernel)) ggX4_reachOf_X2_get
theorem dX4_reachOf_0 : decode cX4_reachOf 0 = .ok (.aload_n 0, 1) := by decide +kernel
theorem dX4_reachOf_1 : decode cX4_reachOf 1 = .ok (.getfield 26, 3) := by decide +kernel
theorem dX4_reachOf_4 : decode cX4_reachOf 4 = .ok (.iload_n 1, 1) := by decide +kernel
theorem dX4_reachOf_5 : decode cX4_reachOf 5 = .ok (.invokevirtual 29, 3) := by decide +kernel
theorem dX4_reachOf_8 : decode cX4_reachOf 8 = .ok (.ireturn, 1) := by decide +kernel
set_option maxRecDepth 20000 in
theorem ggX4_layAll_X1_endOf : GoodIn wsX4_layAll wsX1_endOf := goodIn_r _ [6, 7, 8, 9, 10, 11, 12, 13, 14, 58, 59, 60, 61, 62, 63, 64] (by decide +kernel) (by decide +kernel)
set_option maxRecDepth 20000 in
theorem gX4_layAll_X1_endOf : GoodIn wsX4_layAll (wsV RX4 39 RX1 yX1_endOf wsX1_endOf) := goodIn_app (goodIn_of _ (by decide +kernel)) ggX4_layAll_X1_endOf
set_option maxRecDepth 20000 in
theorem ggX4_layAll_X4_layLine : GoodIn wsX4_layAll wsX4_layLine := goodIn_r _ [19, 20, 21, 22, 23, 24, 25, 26, 27, 18, 28, 1, 29, 30, 31, 32, 33, 34, 5, 35, 36, 37, 9, 10, 11, 12, 13, 14, 38, 39, 40, 41, 42, 43, 44, 45, 46, 47, 48, 49, 50, 51, 52, 53, 54, 55, 56, 57, 65, 66, 67, 68, 58, 59, 60, 61, 62, 63, 64] (by decide +kernel) (by decide +kernel)
set_option maxRecDepth 20000 in
theorem gX4_layAll_X4_layLine : GoodIn wsX4_layAll (wsV RX4 42 RX4 yX4_layLine wsX4_layLine) := goodIn_app (goodIn_of _ (by decide +kernel)) ggX4_layAll_X4_layLine
theorem dX4_layAll_0 : decode cX4_layAll 0 = .ok (.iconst 0, 1) := by decide +kernel
theorem dX4_layAll_1 : decode cX4_layAll 1 = .ok (.istore_n 2, 1) := by decide +kernel
theorem dX4_layAll_2 : decode cX4_layAll 2 = .ok (.iconst 0, 1) := by decide +kernel
theorem dX4_layAll_3 : decode cX4_layAll 3 = .ok (.istore_n 3, 1) := by decide +kernel
theorem dX4_layAll_4 : decode cX4_layAll 4 = .ok (.iconst 0, 1) := by decide +kernel
theorem dX4_layAll_5 : decode cX4_layAll 5 = .ok (.istore 4, 2) := by decide +kernel
theorem dX4_layAll_7 : decode cX4_layAll 7 = .ok (.iload 4, 2) := by decide +kernel
theorem dX4_layAll_9 : decode cX4_layAll 9 = .ok (.bipush 24, 2) := by decide +kernel
theorem dX4_layAll_11 : decode cX4_layAll 11 = .ok (.if_icmp .ge 39, 3) := by decide +kernel
theorem dX4_layAll_14 : decode cX4_layAll 14 = .ok (.iload_n 3, 1) := by decide +kernel
theorem dX4_layAll_15 : decode cX4_layAll 15 = .ok (.aload_n 1, 1) := by decide +kernel
theorem dX4_layAll_16 : decode cX4_layAll 16 = .ok (.getfield 33, 3) := by decide +kernel
theorem dX4_layAll_19 : decode cX4_layAll 19 = .ok (.if_icmp .ge 31, 3) := by decide +kernel
theorem dX4_layAll_22 : decode cX4_layAll 22 = .ok (.aload_n 1, 1) := by decide +kernel
theorem dX4_layAll_23 : decode cX4_layAll 23 = .ok (.iload_n 3, 1) := by decide +kernel
theorem dX4_layAll_24 : decode cX4_layAll 24 = .ok (.invokevirtual 39, 3) := by decide +kernel
theorem dX4_layAll_27 : decode cX4_layAll 27 = .ok (.istore 5, 2) := by decide +kernel
theorem dX4_layAll_29 : decode cX4_layAll 29 = .ok (.aload_n 0, 1) := by decide +kernel
theorem dX4_layAll_30 : decode cX4_layAll 30 = .ok (.aload_n 1, 1) := by decide +kernel
theorem dX4_layAll_31 : decode cX4_layAll 31 = .ok (.iload_n 2, 1) := by decide +kernel
theorem dX4_layAll_32 : decode cX4_layAll 32 = .ok (.iload_n 3, 1) := by decide +kernel
theorem dX4_layAll_33 : decode cX4_layAll 33 = .ok (.iload 5, 2) := by decide +kernel
theorem dX4_layAll_35 : decode cX4_layAll 35 = .ok (.invokevirtual 42, 3) := by decide +kernel
theorem dX4_layAll_38 : decode cX4_layAll 38 = .ok (.pop, 1) := by decide +kernel
theorem dX4_layAll_39 : decode cX4_layAll 39 = .ok (.iload_n 3, 1) := by decide +kernel
theorem dX4_layAll_40 : decode cX4_layAll 40 = .ok (.istore_n 2, 1) := by decide +kernel
theorem dX4_layAll_41 : decode cX4_layAll 41 = .ok (.iload 5, 2) := by decide +kernel
theorem dX4_layAll_43 : decode cX4_layAll 43 = .ok (.istore_n 3, 1) := by decide +kernel
theorem dX4_layAll_44 : decode cX4_layAll 44 = .ok (.iinc 4 1, 3) := by decide +kernel
theorem dX4_layAll_47 : decode cX4_layAll 47 = .ok (.goto (-40), 3) := by decide +kernel
theorem dX4_layAll_50 : decode cX4_layAll 50 = .ok (.return_, 1) := by decide +kernel
set_option maxRecDepth 20000 in
theorem ggX4_layLine_X4_placeWords : GoodIn wsX4_layLine wsX4_placeWords := goodIn_r _ [10, 11, 12, 13, 14, 15, 16, 17, 18, 19, 20, 21, 22, 23, 24, 25, 26, 27, 28, 29, 30, 31, 32, 33, 34, 35, 52, 53, 54, 55, 56, 57, 48, 49, 50, 51, 58] (by decide +kernel) (by decide +kernel)
set_option maxRecDepth 20000 in
theorem gX4_layLine_X4_placeWords : GoodIn wsX4_layLine (wsV RX4 46 RX4 yX4_placeWords wsX4_placeWords) := goodIn_app (goodIn_of _ (by decide +kernel)) ggX4_layLine_X4_placeWords
set_option maxRecDepth 20000 in
theorem ggX4_layLine_X4_reachAbove : GoodIn wsX4_layLine wsX4_reachAbove := goodIn_r _ [39, 1, 2, 3, 4, 5, 40, 41, 42, 9, 43, 13, 14, 44, 45, 46, 47, 23, 24, 25, 26, 27, 48, 49, 50, 51, 58] (by decide +kernel) (by decide +kernel)
set_option maxRecDepth 20000 in
theorem gX4_layLine_X4_reachAbove : GoodIn wsX4_layLine (wsV RX4 50 RX4 yX4_reachAbove wsX4_reachAbove) := goodIn_app (goodIn_of _ (by decide +kernel)) ggX4_layLine_X4_reachAbove
set_option maxRecDepth 20000 in
theorem ggX4_layLine_X2_set : GoodIn wsX4_layLine wsX2_set := goodIn_r _ [31, 27, 58] (by decide +kernel) (by decide +kernel)
set_option maxRecDepth 20000 in
theorem gX4_layLine_X2_set : GoodIn wsX4_layLine (wsV RX4 54 RX2 yX2_set wsX2_set) := goodIn_app (goodIn_of _ (by decide +kernel)) ggX4_layLine_X2_set
theorem dX4_layLine_0 : decode cX4_layLine 0 = .ok (.aload_n 0, 1) := by decide +kernel
theorem dX4_layLine_1 : decode cX4_layLine 1 = .ok (.aload_n 1, 1) := by decide +kernel
theorem dX4_layLine_2 : decode cX4_layLine 2 = .ok (.iload_n 3, 1) := by decide +kernel
theorem dX4_layLine_3 : decode cX4_layLine 3 = .ok (.iload 4, 2) := by decide +kernel
theorem dX4_layLine_5 : decode cX4_layLine 5 = .ok (.invokevirtual 46, 3) := by decide +kernel
theorem dX4_layLine_8 : decode cX4_layLine 8 = .ok (.iconst 0, 1) := by decide +kernel
theorem dX4_layLine_9 : decode cX4_layLine 9 = .ok (.istore 5, 2) := by decide +kernel
theorem dX4_layLine_11 : decode cX4_layLine 11 = .ok (.iload_n 3, 1) := by decide +kernel
theorem dX4_layLine_12 : decode cX4_layLine 12 = .ok (.istore 6, 2) := by decide +kernel
theorem dX4_layLine_14 : decode cX4_layLine 14 = .ok (.iload 6, 2) := by decide +kernel
theorem dX4_layLine_16 : decode cX4_layLine 16 = .ok (.iload 4, 2) := by decide +kernel
theorem dX4_layLine_18 : decode cX4_layLine 18 = .ok (.if_icmp .ge 53, 3) := by decide +kernel
theorem dX4_layLine_21 : decode cX4_layLine 21 = .ok (.iconst 0, 1) := by decide +kernel
theorem dX4_layLine_22 : decode cX4_layLine 22 = .ok (.istore 7, 2) := by decide +kernel
theorem dX4_layLine_24 : decode cX4_layLine 24 = .ok (.iload 6, 2) := by decide +kernel
theorem dX4_layLine_26 : decode cX4_layLine 26 = .ok (.iload 4, 2) := by decide +kernel
theorem dX4_layLine_28 : decode cX4_layLine 28 = .ok (.iconst 1, 1) := by decide +kernel
theorem dX4_layLine_29 : decode cX4_layLine 29 = .ok (.isub, 1) := by decide +kernel
theorem dX4_layLine_30 : decode cX4_layLine 30 = .ok (.if_icmp .ge 15, 3) := by decide +kernel
theorem dX4_layLine_33 : decode cX4_layLine 33 = .ok (.iconst 1, 1) := by decide +kernel
theorem dX4_layLine_34 : decode cX4_layLine 34 = .ok (.aload_n 0, 1) := by decide +kernel
theorem dX4_layLine_35 : decode cX4_layLine 35 = .ok (.iload 6, 2) := by decide +kernel
theorem dX4_layLine_37 : decode cX4_layLine 37 = .ok (.iload_n 2, 1) := by decide +kernel
theorem dX4_layLine_38 : decode cX4_layLine 38 = .ok (.iload_n 3, 1) := by decide +kernel
theorem dX4_layLine_39 : decode cX4_layLine 39 = .ok (.invokevirtual 50, 3) := by decide +kernel
theorem dX4_layLine_42 : decode cX4_layLine 42 = .ok (.iadd, 1) := by decide +kernel
theorem dX4_layLine_43 : decode cX4_layLine 43 = .ok (.istore 7, 2) := by decide +kernel
theorem dX4_layLine_45 : decode cX4_layLine 45 = .ok (.aload_n 0, 1) := by decide +kernel
theorem dX4_layLine_46 : decode cX4_layLine 46 = .ok (.getfield 26, 3) := by decide +kernel
theorem dX4_layLine_49 : decode cX4_layLine 49 = .ok (.iload 6, 2) := by decide +kernel
theorem dX4_layLine_51 : decode cX4_layLine 51 = .ok (.iload 7, 2) := by decide +kernel
theorem dX4_layLine_53 : decode cX4_layLine 53 = .ok (.invokevirtual 54, 3) := by decide +kernel
theorem dX4_layLine_56 : decode cX4_layLine 56 = .ok (.iload 5, 2) := by decide +kernel
theorem dX4_layLine_58 : decode cX4_layLine 58 = .ok (.iload 7, 2) := by decide +kernel
theorem dX4_layLine_60 : decode cX4_layLine 60 = .ok (.invokestatic 58, 3) := by decide +kernel
theorem dX4_layLine_63 : decode cX4_layLine 63 = .ok (.istore 5, 2) := by decide +kernel
theorem dX4_layLine_65 : decode cX4_layLine 65 = .ok (.iinc 6 1, 3) := by decide +kernel
theorem dX4_layLine_68 : decode cX4_layLine 68 = .ok (.goto (-54), 3) := by decide +kernel
theorem dX4_layLine_71 : decode cX4_layLine 71 = .ok (.iload 5, 2) := by decide +kernel
theorem dX4_layLine_73 : decode cX4_layLine 73 = .ok (.ireturn, 1) := by decide +kernel
set_option maxRecDepth 20000 in
theorem ggX4_placeWords_X1_extra : GoodIn wsX4_placeWords wsX1_extra := goodIn_r _ [9, 10, 11, 12, 13, 14, 15, 16, 17, 26, 27, 28, 29, 30, 31, 36] (by decide +kernel) (by decide +kernel)
set_option maxRecDepth 20000 in
theorem gX4_placeWords_X1_extra : GoodIn wsX4_placeWords (wsV RX4 64 RX1 yX1_extra wsX1_extra) := goodIn_app (goodIn_of _ (by decide +kernel)) ggX4_placeWords_X1_extra
set_option maxRecDepth 20000 in
theorem ggX4_placeWords_X2_set : GoodIn wsX4_placeWords wsX2_set := goodIn_r _ [21, 17, 36] (by decide +kernel) (by decide +kernel)
set_option maxRecDepth 20000 in
theorem gX4_placeWords_X2_set : GoodIn wsX4_placeWords (wsV RX4 54 RX2 yX2_set wsX2_set) := goodIn_app (goodIn_of _ (by decide +kernel)) ggX4_placeWords_X2_set
set_option maxRecDepth 20000 in
theorem ggX4_placeWords_X1_lengthOf : GoodIn wsX4_placeWords wsX1_lengthOf := goodIn_r _ [25, 11, 12, 13, 14, 15, 16, 17, 26, 27, 28, 29, 30, 31, 36] (by decide +kernel) (by decide +kernel)
set_option maxRecDepth 20000 in
theorem gX4_placeWords_X1_lengthOf : GoodIn wsX4_placeWords (wsV RX4 67 RX1 yX1_lengthOf wsX1_lengthOf) := goodIn_app (goodIn_of _ (by decide +kernel)) ggX4_placeWords_X1_lengthOf
theorem dX4_placeWords_0 : decode cX4_placeWords 0 = .ok (.iload_n 3, 1) := by decide +kernel
theorem dX4_placeWords_1 : decode cX4_placeWords 1 = .ok (.iload_n 2, 1) := by decide +kernel
theorem dX4_placeWords_2 : decode cX4_placeWords 2 = .ok (.isub, 1) := by decide +kernel
theorem dX4_placeWords_3 : decode cX4_placeWords 3 = .ok (.iconst 1, 1) := by decide +kernel
theorem dX4_placeWords_4 : decode cX4_placeWords 4 = .ok (.isub, 1) := by decide +kernel
theorem dX4_placeWords_5 : decode cX4_placeWords 5 = .ok (.istore 4, 2) := by decide +kernel
theorem dX4_placeWords_7 : decode cX4_placeWords 7 = .ok (.iload_n 3, 1) := by decide +kernel
theorem dX4_placeWords_8 : decode cX4_placeWords 8 = .ok (.aload_n 1, 1) := by decide +kernel
theorem dX4_placeWords_9 : decode cX4_placeWords 9 = .ok (.getfield 33, 3) := by decide +kernel
theorem dX4_placeWords_12 : decode cX4_placeWords 12 = .ok (.if_icmp .lt 7, 3) := by decide +kernel
theorem dX4_placeWords_15 : decode cX4_placeWords 15 = .ok (.iconst 0, 1) := by decide +kernel
theorem dX4_placeWords_16 : decode cX4_placeWords 16 = .ok (.goto 9, 3) := by decide +kernel
theorem dX4_placeWords_19 : decode cX4_placeWords 19 = .ok (.aload_n 1, 1) := by decide +kernel
theorem dX4_placeWords_20 : decode cX4_placeWords 20 = .ok (.iload_n 2, 1) := by decide +kernel
theorem dX4_placeWords_21 : decode cX4_placeWords 21 = .ok (.iload_n 3, 1) := by decide +kernel
theorem dX4_placeWords_22 : decode cX4_placeWords 22 = .ok (.invokevirtual 64, 3) := by decide +kernel
theorem dX4_placeWords_25 : decode cX4_placeWords 25 = .ok (.istore 5, 2) := by decide +kernel
theorem dX4_placeWords_27 : decode cX4_placeWords 27 = .ok (.iload 4, 2) := by decide +kernel
theorem dX4_placeWords_29 : decode cX4_placeWords 29 = .ok (.ifCond .le 11, 3) := by decide +kernel
theorem dX4_placeWords_32 : decode cX4_placeWords 32 = .ok (.iload 5, 2) := by decide +kernel
theorem dX4_placeWords_34 : decode cX4_placeWords 34 = .ok (.iload 4, 2) := by decide +kernel
theorem dX4_placeWords_36 : decode cX4_placeWords 36 = .ok (.idiv, 1) := by decide +kernel
theorem dX4_placeWords_37 : decode cX4_placeWords 37 = .ok (.goto 4, 3) := by decide +kernel
theorem dX4_placeWords_40 : decode cX4_placeWords 40 = .ok (.iconst 0, 1) := by decide +kernel
theorem dX4_placeWords_41 : decode cX4_placeWords 41 = .ok (.istore 6, 2) := by decide +kernel
theorem dX4_placeWords_43 : decode cX4_placeWords 43 = .ok (.iload 4, 2) := by decide +kernel
theorem dX4_placeWords_45 : decode cX4_placeWords 45 = .ok (.ifCond .le 11, 3) := by decide +kernel
theorem dX4_placeWords_48 : decode cX4_placeWords 48 = .ok (.iload 5, 2) := by decide +kernel
theorem dX4_placeWords_50 : decode cX4_placeWords 50 = .ok (.iload 4, 2) := by decide +kernel
theorem dX4_placeWords_52 : decode cX4_placeWords 52 = .ok (.irem, 1) := by decide +kernel
theorem dX4_placeWords_53 : decode cX4_placeWords 53 = .ok (.goto 4, 3) := by decide +kernel
theorem dX4_placeWords_56 : decode cX4_placeWords 56 = .ok (.iconst 0, 1) := by decide +kernel
theorem dX4_placeWords_57 : decode cX4_placeWords 57 = .ok (.istore 7, 2) := by decide +kernel
theorem dX4_placeWords_59 : decode cX4_placeWords 59 = .ok (.iconst 0, 1) := by decide +kernel
theorem dX4_placeWords_60 : decode cX4_placeWords 60 = .ok (.istore 8, 2) := by decide +kernel
theorem dX4_placeWords_62 : decode cX4_placeWords 62 = .ok (.iload_n 2, 1) := by decide +kernel
theorem dX4_placeWords_63 : decode cX4_placeWords 63 = .ok (.istore 9, 2) := by decide +kernel
theorem dX4_placeWords_65 : decode cX4_placeWords 65 = .ok (.iload 9, 2) := by decide +kernel
theorem dX4_placeWords_67 : decode cX4_placeWords 67 = .ok (.iload_n 3, 1) := by decide +kernel
theorem dX4_placeWords_68 : decode cX4_placeWords 68 = .ok (.if_icmp .ge 92, 3) := by decide +kernel
theorem dX4_placeWords_71 : decode cX4_placeWords 71 = .ok (.iconst 0, 1) := by decide +kernel
theorem dX4_placeWords_72 : decode cX4_placeWords 72 = .ok (.istore 10, 2) := by decide +kernel
theorem dX4_placeWords_74 : decode cX4_placeWords 74 = .ok (.iload 9, 2) := by decide +kernel
theorem dX4_placeWords_76 : decode cX4_placeWords 76 = .ok (.iload_n 3, 1) := by decide +kernel
theorem dX4_placeWords_77 : decode cX4_placeWords 77 = .ok (.iconst 1, 1) := by decide +kernel
theorem dX4_placeWords_78 : decode cX4_placeWords 78 = .ok (.isub, 1) := by decide +kernel
theorem dX4_placeWords_79 : decode cX4_placeWords 79 = .ok (.if_icmp .ge 24, 3) := by decide +kernel
theorem dX4_placeWords_82 : decode cX4_placeWords 82 = .ok (.iconst 1, 1) := by decide +kernel
theorem dX4_placeWords_83 : decode cX4_placeWords 83 = .ok (.iload 6, 2) := by decide +kernel
theorem dX4_placeWords_85 : decode cX4_placeWords 85 = .ok (.iadd, 1) := by decide +kernel
theorem dX4_placeWords_86 : decode cX4_placeWords 86 = .ok (.iload 9, 2) := by decide +kernel
theorem dX4_placeWords_88 : decode cX4_placeWords 88 = .ok (.iload_n 2, 1) := by decide +kernel
theorem dX4_placeWords_89 : decode cX4_placeWords 89 = .ok (.isub, 1) := by decide +kernel
theorem dX4_placeWords_90 : decode cX4_placeWords 90 = .ok (.iload 7, 2) := by decide +kernel
theorem dX4_placeWords_92 : decode cX4_placeWords 92 = .ok (.if_icmp .ge 7, 3) := by decide +kernel
theorem dX4_placeWords_95 : decode cX4_placeWords 95 = .ok (.iconst 1, 1) := by decide +kernel
theorem dX4_placeWords_96 : decode cX4_placeWords 96 = .ok (.goto 4, 3) := by decide +kernel
theorem dX4_placeWords_99 : decode cX4_placeWords 99 = .ok (.iconst 0, 1) := by decide +kernel
theorem dX4_placeWords_100 : decode cX4_placeWords 100 = .ok (.iadd, 1) := by decide +kernel
theorem dX4_placeWords_101 : decode cX4_placeWords 101 = .ok (.istore 10, 2) := by decide +kernel
theorem dX4_placeWords_103 : decode cX4_placeWords 103 = .ok (.aload_n 0, 1) := by decide +kernel
theorem dX4_placeWords_104 : decode cX4_placeWords 104 = .ok (.getfield 14, 3) := by decide +kernel
theorem dX4_placeWords_107 : decode cX4_placeWords 107 = .ok (.iload 9, 2) := by decide +kernel
theorem dX4_placeWords_109 : decode cX4_placeWords 109 = .ok (.iload 8, 2) := by decide +kernel
theorem dX4_placeWords_111 : decode cX4_placeWords 111 = .ok (.invokevirtual 54, 3) := by decide +kernel
theorem dX4_placeWords_114 : decode cX4_placeWords 114 = .ok (.iload 8, 2) := by decide +kernel
theorem dX4_placeWords_116 : decode cX4_placeWords 116 = .ok (.aload_n 1, 1) := by decide +kernel
theorem dX4_placeWords_117 : decode cX4_placeWords 117 = .ok (.iload 9, 2) := by decide +kernel
theorem dX4_placeWords_119 : decode cX4_placeWords 119 = .ok (.invokevirtual 67, 3) := by decide +kernel
theorem dX4_placeWords_122 : decode cX4_placeWords 122 = .ok (.iadd, 1) := by decide +kernel
theorem dX4_placeWords_123 : decode cX4_placeWords 123 = .ok (.istore 8, 2) := by decide +kernel
theorem dX4_placeWords_125 : decode cX4_placeWords 125 = .ok (.aload_n 0, 1) := by decide +kernel
theorem dX4_placeWords_126 : decode cX4_placeWords 126 = .ok (.getfield 20, 3) := by decide +kernel
theorem dX4_placeWords_129 : decode cX4_placeWords 129 = .ok (.iload 9, 2) := by decide +kernel
theorem dX4_placeWords_131 : decode cX4_placeWords 131 = .ok (.iload 8, 2) := by decide +kernel
theorem dX4_placeWords_133 : decode cX4_placeWords 133 = .ok (.invokevirtual 54, 3) := by decide +kernel
theorem dX4_placeWords_136 : decode cX4_placeWords 136 = .ok (.aload_n 0, 1) := by decide +kernel
theorem dX4_placeWords_137 : decode cX4_placeWords 137 = .ok (.getfield 23, 3) := by decide +kernel
theorem dX4_placeWords_140 : decode cX4_placeWords 140 = .ok (.iload 9, 2) := by decide +kernel
theorem dX4_placeWords_142 : decode cX4_placeWords 142 = .ok (.iload 10, 2) := by decide +kernel
theorem dX4_placeWords_144 : decode cX4_placeWords 144 = .ok (.invokevirtual 54, 3) := by decide +kernel
theorem dX4_placeWords_147 : decode cX4_placeWords 147 = .ok (.iload 8, 2) := by decide +kernel
theorem dX4_placeWords_149 : decode cX4_placeWords 149 = .ok (.iload 10, 2) := by decide +kernel
theorem dX4_placeWords_151 : decode cX4_placeWords 151 = .ok (.iadd, 1) := by decide +kernel
theorem dX4_placeWords_152 : decode cX4_placeWords 152 = .ok (.istore 8, 2) := by decide +kernel
theorem dX4_placeWords_154 : decode cX4_placeWords 154 = .ok (.iinc 9 1, 3) := by decide +kernel
theorem dX4_placeWords_157 : decode cX4_placeWords 157 = .ok (.goto (-92), 3) := by decide +kernel
theorem dX4_placeWords_160 : decode cX4_placeWords 160 = .ok (.return_, 1) := by decide +kernel
set_option maxRecDepth 20000 in
theorem ggX4_reachAbove_X4_meet : GoodIn wsX4_reachAbove wsX4_meet := goodIn_r _ [10, 11, 12, 2, 3, 4, 5, 13, 14, 15, 16, 17, 18, 19, 20, 21, 22, 23, 24, 25, 26] (by decide +kernel) (by decide +kernel)
set_option maxRecDepth 20000 in
theorem gX4_reachAbove_X4_meet : GoodIn wsX4_reachAbove (wsV RX4 70 RX4 yX4_meet wsX4_meet) := goodIn_app (goodIn_of _ (by decide +kernel)) ggX4_reachAbove_X4_meet
set_option maxRecDepth 20000 in
theorem ggX4_reachAbove_X2_get : GoodIn wsX4_reachAbove wsX2_get := goodIn_r _ [20, 21, 26] (by decide +kernel) (by decide +kernel)
set_option maxRecDepth 20000 in
theorem gX4_reachAbove_X2_get : GoodIn wsX4_reachAbove (wsV RX4 29 RX2 yX2_get wsX2_get) := goodIn_app (goodIn_of _ (by decide +kernel)) ggX4_reachAbove_X2_get
theorem dX4_reachAbove_0 : decode cX4_reachAbove 0 = .ok (.iconst 0, 1) := by decide +kernel
theorem dX4_reachAbove_1 : decode cX4_reachAbove 1 = .ok (.istore 4, 2) := by decide +kernel
theorem dX4_reachAbove_3 : decode cX4_reachAbove 3 = .ok (.iload_n 2, 1) := by decide +kernel
theorem dX4_reachAbove_4 : decode cX4_reachAbove 4 = .ok (.istore 5, 2) := by decide +kernel
theorem dX4_reachAbove_6 : decode cX4_reachAbove 6 = .ok (.iload 5, 2) := by decide +kernel
theorem dX4_reachAbove_8 : decode cX4_reachAbove 8 = .ok (.iload_n 3, 1) := by decide +kernel
theorem dX4_reachAbove_9 : decode cX4_reachAbove 9 = .ok (.if_icmp .ge 35, 3) := by decide +kernel
theorem dX4_reachAbove_12 : decode cX4_reachAbove 12 = .ok (.aload_n 0, 1) := by decide +kernel
theorem dX4_reachAbove_13 : decode cX4_reachAbove 13 = .ok (.iload 5, 2) := by decide +kernel
theorem dX4_reachAbove_15 : decode cX4_reachAbove 15 = .ok (.iload_n 1, 1) := by decide +kernel
theorem dX4_reachAbove_16 : decode cX4_reachAbove 16 = .ok (.invokevirtual 70, 3) := by decide +kernel
theorem dX4_reachAbove_19 : decode cX4_reachAbove 19 = .ok (.ifCond .eq 19, 3) := by decide +kernel
theorem dX4_reachAbove_22 : decode cX4_reachAbove 22 = .ok (.iload 4, 2) := by decide +kernel
theorem dX4_reachAbove_24 : decode cX4_reachAbove 24 = .ok (.aload_n 0, 1) := by decide +kernel
theorem dX4_reachAbove_25 : decode cX4_reachAbove 25 = .ok (.getfield 26, 3) := by decide +kernel
theorem dX4_reachAbove_28 : decode cX4_reachAbove 28 = .ok (.iload 5, 2) := by decide +kernel
theorem dX4_reachAbove_30 : decode cX4_reachAbove 30 = .ok (.invokevirtual 29, 3) := by decide +kernel
theorem dX4_reachAbove_33 : decode cX4_reachAbove 33 = .ok (.invokestatic 58, 3) := by decide +kernel
theorem dX4_reachAbove_36 : decode cX4_reachAbove 36 = .ok (.istore 4, 2) := by decide +kernel
theorem dX4_reachAbove_38 : decode cX4_reachAbove 38 = .ok (.iinc 5 1, 3) := by decide +kernel
theorem dX4_reachAbove_41 : decode cX4_reachAbove 41 = .ok (.goto (-35), 3) := by decide +kernel
theorem dX4_reachAbove_44 : decode cX4_reachAbove 44 = .ok (.iload 4, 2) := by decide +kernel
theorem dX4_reachAbove_46 : decode cX4_reachAbove 46 = .ok (.ireturn, 1) := by decide +kernel
set_option maxRecDepth 20000 in
theorem ggX4_meet_X2_get : GoodIn wsX4_meet wsX2_get := goodIn_r _ [14, 15, 20] (by decide +kernel) (by decide +kernel)
set_option maxRecDepth 20000 in
theorem gX4_meet_X2_get : GoodIn wsX4_meet (wsV RX4 29 RX2 yX2_get wsX2_get) := goodIn_app (goodIn_of _ (by decide +kernel)) ggX4_meet_X2_get
theorem dX4_meet_0 : decode cX4_meet 0 = .ok (.aload_n 0, 1) := by decide +kernel
theorem dX4_meet_1 : decode cX4_meet 1 = .ok (.getfield 20, 3) := by decide +kernel
theorem dX4_meet_4 : decode cX4_meet 4 = .ok (.iload_n 1, 1) := by decide +kernel
theorem dX4_meet_5 : decode cX4_meet 5 = .ok (.invokevirtual 29, 3) := by decide +kernel
theorem dX4_meet_8 : decode cX4_meet 8 = .ok (.istore_n 3, 1) := by decide +kernel
theorem dX4_meet_9 : decode cX4_meet 9 = .ok (.aload_n 0, 1) := by decide +kernel
theorem dX4_meet_10 : decode cX4_meet 10 = .ok (.getfield 20, 3) := by decide +kernel
theorem dX4_meet_13 : decode cX4_meet 13 = .ok (.iload_n 2, 1) := by decide +kernel
theorem dX4_meet_14 : decode cX4_meet 14 = .ok (.invokevirtual 29, 3) := by decide +kernel
theorem dX4_meet_17 : decode cX4_meet 17 = .ok (.istore 4, 2) := by decide +kernel
theorem dX4_meet_19 : decode cX4_meet 19 = .ok (.iload_n 3, 1) := by decide +kernel
theorem dX4_meet_20 : decode cX4_meet 20 = .ok (.aload_n 0, 1) := by decide +kernel
theorem dX4_meet_21 : decode cX4_meet 21 = .ok (.getfield 23, 3) := by decide +kernel
theorem dX4_meet_24 : decode cX4_meet 24 = .ok (.iload_n 1, 1) := by decide +kernel
theorem dX4_meet_25 : decode cX4_meet 25 = .ok (.invokevirtual 29, 3) := by decide +kernel
theorem dX4_meet_28 : decode cX4_meet 28 = .ok (.iadd, 1) := by decide +kernel
theorem dX4_meet_29 : decode cX4_meet 29 = .ok (.istore 5, 2) := by decide +kernel
theorem dX4_meet_31 : decode cX4_meet 31 = .ok (.iload 4, 2) := by decide +kernel
theorem dX4_meet_33 : decode cX4_meet 33 = .ok (.aload_n 0, 1) := by decide +kernel
theorem dX4_meet_34 : decode cX4_meet 34 = .ok (.getfield 23, 3) := by decide +kernel
theorem dX4_meet_37 : decode cX4_meet 37 = .ok (.iload_n 2, 1) := by decide +kernel
theorem dX4_meet_38 : decode cX4_meet 38 = .ok (.invokevirtual 29, 3) := by decide +kernel
theorem dX4_meet_41 : decode cX4_meet 41 = .ok (.iadd, 1) := by decide +kernel
theorem dX4_meet_42 : decode cX4_meet 42 = .ok (.istore 6, 2) := by decide +kernel
theorem dX4_meet_44 : decode cX4_meet 44 = .ok (.iload_n 3, 1) := by decide +kernel
theorem dX4_meet_45 : decode cX4_meet 45 = .ok (.iload 4, 2) := by decide +kernel
theorem dX4_meet_47 : decode cX4_meet 47 = .ok (.invokestatic 58, 3) := by decide +kernel
theorem dX4_meet_50 : decode cX4_meet 50 = .ok (.iload 5, 2) := by decide +kernel
theorem dX4_meet_52 : decode cX4_meet 52 = .ok (.iload 6, 2) := by decide +kernel
theorem dX4_meet_54 : decode cX4_meet 54 = .ok (.invokestatic 74, 3) := by decide +kernel
theorem dX4_meet_57 : decode cX4_meet 57 = .ok (.if_icmp .ge 7, 3) := by decide +kernel
theorem dX4_meet_60 : decode cX4_meet 60 = .ok (.iconst 1, 1) := by decide +kernel
theorem dX4_meet_61 : decode cX4_meet 61 = .ok (.goto 4, 3) := by decide +kernel
theorem dX4_meet_64 : decode cX4_meet 64 = .ok (.iconst 0, 1) := by decide +kernel
theorem dX4_meet_65 : decode cX4_meet 65 = .ok (.ireturn, 1) := by decide +kernel
set_option maxRecDepth 20000 in
theorem ggX4_gapsThatMeet_X4_meet : GoodIn wsX4_gapsThatMeet wsX4_meet := goodIn_r _ [5, 6, 7, 8, 9, 10, 11, 12, 13, 14, 15, 16, 17, 18, 19, 20, 21, 22, 23, 24, 25] (by decide +kernel) (by decide +kernel)
set_option maxRecDepth 20000 in
theorem gX4_gapsThatMeet_X4_meet : GoodIn wsX4_gapsThatMeet (wsV RX4 70 RX4 yX4_meet wsX4_meet) := goodIn_app (goodIn_of _ (by decide +kernel)) ggX4_gapsThatMeet_X4_meet
theorem dX4_gapsThatMeet_0 : decode cX4_gapsThatMeet 0 = .ok (.iconst 0, 1) := by decide +kernel
theorem dX4_gapsThatMeet_1 : decode cX4_gapsThatMeet 1 = .ok (.istore 4, 2) := by decide +kernel
theorem dX4_gapsThatMeet_3 : decode cX4_gapsThatMeet 3 = .ok (.iload_n 2, 1) := by decide +kernel
theorem dX4_gapsThatMeet_4 : decode cX4_gapsThatMeet 4 = .ok (.istore 5, 2) := by decide +kernel
theorem dX4_gapsThatMeet_6 : decode cX4_gapsThatMeet 6 = .ok (.iload 5, 2) := by decide +kernel
theorem dX4_gapsThatMeet_8 : decode cX4_gapsThatMeet 8 = .ok (.iload_n 3, 1) := by decide +kernel
theorem dX4_gapsThatMeet_9 : decode cX4_gapsThatMeet 9 = .ok (.if_icmp .ge 22, 3) := by decide +kernel
theorem dX4_gapsThatMeet_12 : decode cX4_gapsThatMeet 12 = .ok (.aload_n 0, 1) := by decide +kernel
theorem dX4_gapsThatMeet_13 : decode cX4_gapsThatMeet 13 = .ok (.iload 5, 2) := by decide +kernel
theorem dX4_gapsThatMeet_15 : decode cX4_gapsThatMeet 15 = .ok (.iload_n 1, 1) := by decide +kernel
theorem dX4_gapsThatMeet_16 : decode cX4_gapsThatMeet 16 = .ok (.invokevirtual 70, 3) := by decide +kernel
theorem dX4_gapsThatMeet_19 : decode cX4_gapsThatMeet 19 = .ok (.ifCond .eq 6, 3) := by decide +kernel
theorem dX4_gapsThatMeet_22 : decode cX4_gapsThatMeet 22 = .ok (.iinc 4 1, 3) := by decide +kernel
theorem dX4_gapsThatMeet_25 : decode cX4_gapsThatMeet 25 = .ok (.iinc 5 1, 3) := by decide +kernel
theorem dX4_gapsThatMeet_28 : decode cX4_gapsThatMeet 28 = .ok (.goto (-22), 3) := by decide +kernel
theorem dX4_gapsThatMeet_31 : decode cX4_gapsThatMeet 31 = .ok (.iload 4, 2) := by decide +kernel
theorem dX4_gapsThatMeet_33 : decode cX4_gapsThatMeet 33 = .ok (.ireturn, 1) := by decide +kernel
set_option maxRecDepth 20000 in
theorem ggX4_greatestReach_X2_get : GoodIn wsX4_greatestReach wsX2_get := goodIn_r _ [10, 11, 16] (by decide +kernel) (by decide +kernel)
set_option maxRecDepth 20000 in
theorem gX4_greatestReach_X2_get : GoodIn wsX4_greatestReach (wsV RX4 29 RX2 yX2_get wsX2_get) := goodIn_app (goodIn_of _ (by decide +kernel)) ggX4_greatestReach_X2_get
theorem dX4_greatestReach_0 : decode cX4_greatestReach 0 = .ok (.iconst 0, 1) := by decide +kernel
theorem dX4_greatestReach_1 : decode cX4_greatestReach 1 = .ok (.istore_n 3, 1) := by decide +kernel
theorem dX4_greatestReach_2 : decode cX4_greatestReach 2 = .ok (.iload_n 1, 1) := by decide +kernel
theorem dX4_greatestReach_3 : decode cX4_greatestReach 3 = .ok (.istore 4, 2) := by decide +kernel
theorem dX4_greatestReach_5 : decode cX4_greatestReach 5 = .ok (.iload 4, 2) := by decide +kernel
theorem dX4_greatestReach_7 : decode cX4_greatestReach 7 = .ok (.iload_n 2, 1) := by decide +kernel
theorem dX4_greatestReach_8 : decode cX4_greatestReach 8 = .ok (.if_icmp .ge 23, 3) := by decide +kernel
theorem dX4_greatestReach_11 : decode cX4_greatestReach 11 = .ok (.iload_n 3, 1) := by decide +kernel
theorem dX4_greatestReach_12 : decode cX4_greatestReach 12 = .ok (.aload_n 0, 1) := by decide +kernel
theorem dX4_greatestReach_13 : decode cX4_greatestReach 13 = .ok (.getfield 26, 3) := by decide +kernel
theorem dX4_greatestReach_16 : decode cX4_greatestReach 16 = .ok (.iload 4, 2) := by decide +kernel
theorem dX4_greatestReach_18 : decode cX4_greatestReach 18 = .ok (.invokevirtual 29, 3) := by decide +kernel
theorem dX4_greatestReach_21 : decode cX4_greatestReach 21 = .ok (.invokestatic 58, 3) := by decide +kernel
theorem dX4_greatestReach_24 : decode cX4_greatestReach 24 = .ok (.istore_n 3, 1) := by decide +kernel
theorem dX4_greatestReach_25 : decode cX4_greatestReach 25 = .ok (.iinc 4 1, 3) := by decide +kernel
theorem dX4_greatestReach_28 : decode cX4_greatestReach 28 = .ok (.goto (-23), 3) := by decide +kernel
theorem dX4_greatestReach_31 : decode cX4_greatestReach 31 = .ok (.iload_n 3, 1) := by decide +kernel
theorem dX4_greatestReach_32 : decode cX4_greatestReach 32 = .ok (.ireturn, 1) := by decide +kernel
set_option maxRecDepth 20000 in
theorem ggX4_gapsOfGreatestReach_X4_greatestReach : GoodIn wsX4_gapsOfGreatestReach wsX4_greatestReach := goodIn_r _ [6, 1, 7, 8, 9, 10, 11, 12, 13, 14, 15, 16, 17, 18, 19, 20, 21] (by decide +kernel) (by decide +kernel)
set_option maxRecDepth 20000 in
theorem gX4_gapsOfGreatestReach_X4_greatestReach : GoodIn wsX4_gapsOfGreatestReach (wsV RX4 77 RX4 yX4_greatestReach wsX4_greatestReach) := goodIn_app (goodIn_of _ (by decide +kernel)) ggX4_gapsOfGreatestReach_X4_greatestReach
set_option maxRecDepth 20000 in
theorem ggX4_gapsOfGreatestReach_X2_get : GoodIn wsX4_gapsOfGreatestReach wsX2_get := goodIn_r _ [15, 16, 21] (by decide +kernel) (by decide +kernel)
set_option maxRecDepth 20000 in
theorem gX4_gapsOfGreatestReach_X2_get : GoodIn wsX4_gapsOfGreatestReach (wsV RX4 29 RX2 yX2_get wsX2_get) := goodIn_app (goodIn_of _ (by decide +kernel)) ggX4_gapsOfGreatestReach_X2_get
theorem dX4_gapsOfGreatestReach_0 : decode cX4_gapsOfGreatestReach 0 = .ok (.aload_n 0, 1) := by decide +kernel
theorem dX4_gapsOfGreatestReach_1 : decode cX4_gapsOfGreatestReach 1 = .ok (.iconst 0, 1) := by decide +kernel
theorem dX4_gapsOfGreatestReach_2 : decode cX4_gapsOfGreatestReach 2 = .ok (.iload_n 1, 1) := by decide +kernel
theorem dX4_gapsOfGreatestReach_3 : decode cX4_gapsOfGreatestReach 3 = .ok (.invokevirtual 77, 3) := by decide +kernel
theorem dX4_gapsOfGreatestReach_6 : decode cX4_gapsOfGreatestReach 6 = .ok (.istore_n 2, 1) := by decide +kernel
theorem dX4_gapsOfGreatestReach_7 : decode cX4_gapsOfGreatestReach 7 = .ok (.iconst 0, 1) := by decide +kernel
theorem dX4_gapsOfGreatestReach_8 : decode cX4_gapsOfGreatestReach 8 = .ok (.istore_n 3, 1) := by decide +kernel
theorem dX4_gapsOfGreatestReach_9 : decode cX4_gapsOfGreatestReach 9 = .ok (.iconst 0, 1) := by decide +kernel
theorem dX4_gapsOfGreatestReach_10 : decode cX4_gapsOfGreatestReach 10 = .ok (.istore 4, 2) := by decide +kernel
theorem dX4_gapsOfGreatestReach_12 : decode cX4_gapsOfGreatestReach 12 = .ok (.iload 4, 2) := by decide +kernel
theorem dX4_gapsOfGreatestReach_14 : decode cX4_gapsOfGreatestReach 14 = .ok (.iload_n 1, 1) := by decide +kernel
theorem dX4_gapsOfGreatestReach_15 : decode cX4_gapsOfGreatestReach 15 = .ok (.if_icmp .ge 29, 3) := by decide +kernel
theorem dX4_gapsOfGreatestReach_18 : decode cX4_gapsOfGreatestReach 18 = .ok (.iload_n 2, 1) := by decide +kernel
theorem dX4_gapsOfGreatestReach_19 : decode cX4_gapsOfGreatestReach 19 = .ok (.ifCond .le 19, 3) := by decide +kernel
theorem dX4_gapsOfGreatestReach_22 : decode cX4_gapsOfGreatestReach 22 = .ok (.aload_n 0, 1) := by decide +kernel
theorem dX4_gapsOfGreatestReach_23 : decode cX4_gapsOfGreatestReach 23 = .ok (.getfield 26, 3) := by decide +kernel
theorem dX4_gapsOfGreatestReach_26 : decode cX4_gapsOfGreatestReach 26 = .ok (.iload 4, 2) := by decide +kernel
theorem dX4_gapsOfGreatestReach_28 : decode cX4_gapsOfGreatestReach 28 = .ok (.invokevirtual 29, 3) := by decide +kernel
theorem dX4_gapsOfGreatestReach_31 : decode cX4_gapsOfGreatestReach 31 = .ok (.iload_n 2, 1) := by decide +kernel
theorem dX4_gapsOfGreatestReach_32 : decode cX4_gapsOfGreatestReach 32 = .ok (.if_icmp .ne 6, 3) := by decide +kernel
theorem dX4_gapsOfGreatestReach_35 : decode cX4_gapsOfGreatestReach 35 = .ok (.iinc 3 1, 3) := by decide +kernel
theorem dX4_gapsOfGreatestReach_38 : decode cX4_gapsOfGreatestReach 38 = .ok (.iinc 4 1, 3) := by decide +kernel
theorem dX4_gapsOfGreatestReach_41 : decode cX4_gapsOfGreatestReach 41 = .ok (.goto (-29), 3) := by decide +kernel
theorem dX4_gapsOfGreatestReach_44 : decode cX4_gapsOfGreatestReach 44 = .ok (.iload_n 3, 1) := by decide +kernel
theorem dX4_gapsOfGreatestReach_45 : decode cX4_gapsOfGreatestReach 45 = .ok (.ireturn, 1) := by decide +kernel
set_option maxRecDepth 20000 in
theorem ggX4_firstOfReach_X2_get : GoodIn wsX4_firstOfReach wsX2_get := goodIn_r _ [6, 7, 12] (by decide +kernel) (by decide +kernel)
set_option maxRecDepth 20000 in
theorem gX4_firstOfReach_X2_get : GoodIn wsX4_firstOfReach (wsV RX4 29 RX2 yX2_get wsX2_get) := goodIn_app (goodIn_of _ (by decide +kernel)) ggX4_firstOfReach_X2_get
theorem dX4_firstOfReach_0 : decode cX4_firstOfReach 0 = .ok (.iload_n 2, 1) := by decide +kernel
theorem dX4_firstOfReach_1 : decode cX4_firstOfReach 1 = .ok (.istore 4, 2) := by decide +kernel
theorem dX4_firstOfReach_3 : decode cX4_firstOfReach 3 = .ok (.iload 4, 2) := by decide +kernel
theorem dX4_firstOfReach_5 : decode cX4_firstOfReach 5 = .ok (.iload_n 3, 1) := by decide +kernel
theorem dX4_firstOfReach_6 : decode cX4_firstOfReach 6 = .ok (.if_icmp .ge 25, 3) := by decide +kernel
theorem dX4_firstOfReach_9 : decode cX4_firstOfReach 9 = .ok (.aload_n 0, 1) := by decide +kernel
theorem dX4_firstOfReach_10 : decode cX4_firstOfReach 10 = .ok (.getfield 26, 3) := by decide +kernel
theorem dX4_firstOfReach_13 : decode cX4_firstOfReach 13 = .ok (.iload 4, 2) := by decide +kernel
theorem dX4_firstOfReach_15 : decode cX4_firstOfReach 15 = .ok (.invokevirtual 29, 3) := by decide +kernel
theorem dX4_firstOfReach_18 : decode cX4_firstOfReach 18 = .ok (.iload_n 1, 1) := by decide +kernel
theorem dX4_firstOfReach_19 : decode cX4_firstOfReach 19 = .ok (.if_icmp .ne 6, 3) := by decide +kernel
theorem dX4_firstOfReach_22 : decode cX4_firstOfReach 22 = .ok (.iload 4, 2) := by decide +kernel
theorem dX4_firstOfReach_24 : decode cX4_firstOfReach 24 = .ok (.ireturn, 1) := by decide +kernel
theorem dX4_firstOfReach_25 : decode cX4_firstOfReach 25 = .ok (.iinc 4 1, 3) := by decide +kernel
theorem dX4_firstOfReach_28 : decode cX4_firstOfReach 28 = .ok (.goto (-25), 3) := by decide +kernel
theorem dX4_firstOfReach_31 : decode cX4_firstOfReach 31 = .ok (.iload_n 2, 1) := by decide +kernel
theorem dX4_firstOfReach_32 : decode cX4_firstOfReach 32 = .ok (.ireturn, 1) := by decide +kernel
set_option maxRecDepth 20000 in
theorem ggX4_joints_X1_lineOf : GoodIn wsX4_joints wsX1_lineOf := goodIn_r _ [6, 7, 8, 9, 10, 11, 12, 13, 14, 38, 39, 40, 41, 42, 43, 44] (by decide +kernel) (by decide +kernel)
set_option maxRecDepth 20000 in
theorem gX4_joints_X1_lineOf : GoodIn wsX4_joints (wsV RX4 80 RX1 yX1_lineOf wsX1_lineOf) := goodIn_app (goodIn_of _ (by decide +kernel)) ggX4_joints_X1_lineOf
set_option maxRecDepth 20000 in
theorem ggX4_joints_X1_firstOf : GoodIn wsX4_joints wsX1_firstOf := goodIn_r _ [18, 7, 8, 9, 10, 11, 12, 13, 14, 38, 39, 40, 41, 42, 43, 44] (by decide +kernel) (by decide +kernel)
set_option maxRecDepth 20000 in
theorem gX4_joints_X1_firstOf : GoodIn wsX4_joints (wsV RX4 83 RX1 yX1_firstOf wsX1_firstOf) := goodIn_app (goodIn_of _ (by decide +kernel)) ggX4_joints_X1_firstOf
set_option maxRecDepth 20000 in
theorem ggX4_joints_X4_gapsThatMeet : GoodIn wsX4_joints wsX4_gapsThatMeet := goodIn_r _ [23, 24, 25, 26, 22, 27, 28, 29, 30, 31, 32, 33, 34, 35, 36, 37, 10, 11, 12, 13, 14, 45, 46, 47, 48, 44] (by decide +kernel) (by decide +kernel)
set_option maxRecDepth 20000 in
theorem gX4_joints_X4_gapsThatMeet : GoodIn wsX4_joints (wsV RX4 86 RX4 yX4_gapsThatMeet wsX4_gapsThatMeet) := goodIn_app (goodIn_of _ (by decide +kernel)) ggX4_joints_X4_gapsThatMeet
theorem dX4_joints_0 : decode cX4_joints 0 = .ok (.iconst 0, 1) := by decide +kernel
theorem dX4_joints_1 : decode cX4_joints 1 = .ok (.istore_n 2, 1) := by decide +kernel
theorem dX4_joints_2 : decode cX4_joints 2 = .ok (.iconst 0, 1) := by decide +kernel
theorem dX4_joints_3 : decode cX4_joints 3 = .ok (.istore_n 3, 1) := by decide +kernel
theorem dX4_joints_4 : decode cX4_joints 4 = .ok (.iload_n 3, 1) := by decide +kernel
theorem dX4_joints_5 : decode cX4_joints 5 = .ok (.aload_n 1, 1) := by decide +kernel
theorem dX4_joints_6 : decode cX4_joints 6 = .ok (.getfield 33, 3) := by decide +kernel
theorem dX4_joints_9 : decode cX4_joints 9 = .ok (.if_icmp .ge 42, 3) := by decide +kernel
theorem dX4_joints_12 : decode cX4_joints 12 = .ok (.aload_n 1, 1) := by decide +kernel
theorem dX4_joints_13 : decode cX4_joints 13 = .ok (.iload_n 3, 1) := by decide +kernel
theorem dX4_joints_14 : decode cX4_joints 14 = .ok (.invokevirtual 80, 3) := by decide +kernel
theorem dX4_joints_17 : decode cX4_joints 17 = .ok (.istore 4, 2) := by decide +kernel
theorem dX4_joints_19 : decode cX4_joints 19 = .ok (.aload_n 0, 1) := by decide +kernel
theorem dX4_joints_20 : decode cX4_joints 20 = .ok (.iload_n 3, 1) := by decide +kernel
theorem dX4_joints_21 : decode cX4_joints 21 = .ok (.aload_n 1, 1) := by decide +kernel
theorem dX4_joints_22 : decode cX4_joints 22 = .ok (.iload 4, 2) := by decide +kernel
theorem dX4_joints_24 : decode cX4_joints 24 = .ok (.iconst 1, 1) := by decide +kernel
theorem dX4_joints_25 : decode cX4_joints 25 = .ok (.isub, 1) := by decide +kernel
theorem dX4_joints_26 : decode cX4_joints 26 = .ok (.invokevirtual 83, 3) := by decide +kernel
theorem dX4_joints_29 : decode cX4_joints 29 = .ok (.aload_n 1, 1) := by decide +kernel
theorem dX4_joints_30 : decode cX4_joints 30 = .ok (.iload 4, 2) := by decide +kernel
theorem dX4_joints_32 : decode cX4_joints 32 = .ok (.invokevirtual 83, 3) := by decide +kernel
theorem dX4_joints_35 : decode cX4_joints 35 = .ok (.invokevirtual 86, 3) := by decide +kernel
theorem dX4_joints_38 : decode cX4_joints 38 = .ok (.iconst 2, 1) := by decide +kernel
theorem dX4_joints_39 : decode cX4_joints 39 = .ok (.if_icmp .lt 6, 3) := by decide +kernel
theorem dX4_joints_42 : decode cX4_joints 42 = .ok (.iinc 2 1, 3) := by decide +kernel
theorem dX4_joints_45 : decode cX4_joints 45 = .ok (.iinc 3 1, 3) := by decide +kernel
theorem dX4_joints_48 : decode cX4_joints 48 = .ok (.goto (-44), 3) := by decide +kernel
theorem dX4_joints_51 : decode cX4_joints 51 = .ok (.iload_n 2, 1) := by decide +kernel
theorem dX4_joints_52 : decode cX4_joints 52 = .ok (.ireturn, 1) := by decide +kernel
set_option maxRecDepth 20000 in
theorem ggX5_init_X2_init : GoodIn wsX5_init wsX2_init := goodIn_r _ [11, 12, 2, 3, 13, 14, 15, 16, 17, 18, 21] (by decide +kernel) (by decide +kernel)
set_option maxRecDepth 20000 in
theorem gX5_init_X2_init : GoodIn wsX5_init (wsX2_init) := ggX5_init_X2_init
theorem dX5_init_0 : decode cX5_init 0 = .ok (.aload_n 0, 1) := by decide +kernel
theorem dX5_init_1 : decode cX5_init 1 = .ok (.invokespecial 3, 3) := by decide +kernel
theorem dX5_init_4 : decode cX5_init 4 = .ok (.aload_n 0, 1) := by decide +kernel
theorem dX5_init_5 : decode cX5_init 5 = .ok (.iconst 0, 1) := by decide +kernel
theorem dX5_init_6 : decode cX5_init 6 = .ok (.putfield 9, 3) := by decide +kernel
theorem dX5_init_9 : decode cX5_init 9 = .ok (.aload_n 0, 1) := by decide +kernel
theorem dX5_init_10 : decode cX5_init 10 = .ok (.new 15, 3) := by decide +kernel
theorem dX5_init_13 : decode cX5_init 13 = .ok (.dup, 1) := by decide +kernel
theorem dX5_init_14 : decode cX5_init 14 = .ok (.bipush 100, 2) := by decide +kernel
theorem dX5_init_16 : decode cX5_init 16 = .ok (.invokespecial 17, 3) := by decide +kernel
theorem dX5_init_19 : decode cX5_init 19 = .ok (.putfield 20, 3) := by decide +kernel
theorem dX5_init_22 : decode cX5_init 22 = .ok (.return_, 1) := by decide +kernel
set_option maxRecDepth 20000 in
theorem ggX5_append_X2_set : GoodIn wsX5_append wsX2_set := goodIn_r _ [7, 8, 11] (by decide +kernel) (by decide +kernel)
set_option maxRecDepth 20000 in
theorem gX5_append_X2_set : GoodIn wsX5_append (wsV RX5 24 RX2 yX2_set wsX2_set) := goodIn_app (goodIn_of _ (by decide +kernel)) ggX5_append_X2_set
theorem dX5_append_0 : decode cX5_append 0 = .ok (.aload_n 0, 1) := by decide +kernel
theorem dX5_append_1 : decode cX5_append 1 = .ok (.getfield 20, 3) := by decide +kernel
theorem dX5_append_4 : decode cX5_append 4 = .ok (.aload_n 0, 1) := by decide +kernel
theorem dX5_append_5 : decode cX5_append 5 = .ok (.getfield 9, 3) := by decide +kernel
theorem dX5_append_8 : decode cX5_append 8 = .ok (.iload_n 1, 1) := by decide +kernel
theorem dX5_append_9 : decode cX5_append 9 = .ok (.invokevirtual 24, 3) := by decide +kernel
theorem dX5_append_12 : decode cX5_append 12 = .ok (.aload_n 0, 1) := by decide +kernel
theorem dX5_append_13 : decode cX5_append 13 = .ok (.dup, 1) := by decide +kernel
theorem dX5_append_14 : decode cX5_append 14 = .ok (.getfield 9, 3) := by decide +kernel
theorem dX5_append_17 : decode cX5_append 17 = .ok (.iconst 1, 1) := by decide +kernel
theorem dX5_append_18 : decode cX5_append 18 = .ok (.iadd, 1) := by decide +kernel
theorem dX5_append_19 : decode cX5_append 19 = .ok (.putfield 9, 3) := by decide +kernel
theorem dX5_append_22 : decode cX5_append 22 = .ok (.return_, 1) := by decide +kernel
set_option maxRecDepth 20000 in
theorem ggX5_firstFault_X2_get : GoodIn wsX5_firstFault wsX2_get := goodIn_r _ [7, 8, 11] (by decide +kernel) (by decide +kernel)
set_option maxRecDepth 20000 in
theorem gX5_firstFault_X2_get : GoodIn wsX5_firstFault (wsV RX5 28 RX2 yX2_get wsX2_get) := goodIn_app (goodIn_of _ (by decide +kernel)) ggX5_firstFault_X2_get
theorem dX5_firstFault_0 : decode cX5_firstFault 0 = .ok (.iconst 0, 1) := by decide +kernel
theorem dX5_firstFault_1 : decode cX5_firstFault 1 = .ok (.istore_n 1, 1) := by decide +kernel
theorem dX5_firstFault_2 : decode cX5_firstFault 2 = .ok (.iconst 0, 1) := by decide +kernel
theorem dX5_firstFault_3 : decode cX5_firstFault 3 = .ok (.istore_n 2, 1) := by decide +kernel
theorem dX5_firstFault_4 : decode cX5_firstFault 4 = .ok (.iconst 0, 1) := by decide +kernel
theorem dX5_firstFault_5 : decode cX5_firstFault 5 = .ok (.istore_n 3, 1) := by decide +kernel
theorem dX5_firstFault_6 : decode cX5_firstFault 6 = .ok (.iload_n 3, 1) := by decide +kernel
theorem dX5_firstFault_7 : decode cX5_firstFault 7 = .ok (.aload_n 0, 1) := by decide +kernel
theorem dX5_firstFault_8 : decode cX5_firstFault 8 = .ok (.getfield 9, 3) := by decide +kernel
theorem dX5_firstFault_11 : decode cX5_firstFault 11 = .ok (.if_icmp .ge 72, 3) := by decide +kernel
theorem dX5_firstFault_14 : decode cX5_firstFault 14 = .ok (.aload_n 0, 1) := by decide +kernel
theorem dX5_firstFault_15 : decode cX5_firstFault 15 = .ok (.getfield 20, 3) := by decide +kernel
theorem dX5_firstFault_18 : decode cX5_firstFault 18 = .ok (.iload_n 3, 1) := by decide +kernel
theorem dX5_firstFault_19 : decode cX5_firstFault 19 = .ok (.invokevirtual 28, 3) := by decide +kernel
theorem dX5_firstFault_22 : decode cX5_firstFault 22 = .ok (.bipush 32, 2) := by decide +kernel
theorem dX5_firstFault_24 : decode cX5_firstFault 24 = .ok (.if_icmp .ne 24, 3) := by decide +kernel
theorem dX5_firstFault_27 : decode cX5_firstFault 27 = .ok (.iload_n 2, 1) := by decide +kernel
theorem dX5_firstFault_28 : decode cX5_firstFault 28 = .ok (.ifCond .eq 13, 3) := by decide +kernel
theorem dX5_firstFault_31 : decode cX5_firstFault 31 = .ok (.iload_n 3, 1) := by decide +kernel
theorem dX5_firstFault_32 : decode cX5_firstFault 32 = .ok (.aload_n 0, 1) := by decide +kernel
theorem dX5_firstFault_33 : decode cX5_firstFault 33 = .ok (.getfield 9, 3) := by decide +kernel
theorem dX5_firstFault_36 : decode cX5_firstFault 36 = .ok (.iconst 1, 1) := by decide +kernel
theorem dX5_firstFault_37 : decode cX5_firstFault 37 = .ok (.isub, 1) := by decide +kernel
theorem dX5_firstFault_38 : decode cX5_firstFault 38 = .ok (.if_icmp .ne 5, 3) := by decide +kernel
theorem dX5_firstFault_41 : decode cX5_firstFault 41 = .ok (.iload_n 3, 1) := by decide +kernel
theorem dX5_firstFault_42 : decode cX5_firstFault 42 = .ok (.ireturn, 1) := by decide +kernel
theorem dX5_firstFault_43 : decode cX5_firstFault 43 = .ok (.iconst 0, 1) := by decide +kernel
theorem dX5_firstFault_44 : decode cX5_firstFault 44 = .ok (.istore_n 2, 1) := by decide +kernel
theorem dX5_firstFault_45 : decode cX5_firstFault 45 = .ok (.goto 32, 3) := by decide +kernel
theorem dX5_firstFault_48 : decode cX5_firstFault 48 = .ok (.iload_n 1, 1) := by decide +kernel
theorem dX5_firstFault_49 : decode cX5_firstFault 49 = .ok (.iload_n 2, 1) := by decide +kernel
theorem dX5_firstFault_50 : decode cX5_firstFault 50 = .ok (.ifCond .ne 7, 3) := by decide +kernel
theorem dX5_firstFault_53 : decode cX5_firstFault 53 = .ok (.iconst 1, 1) := by decide +kernel
theorem dX5_firstFault_54 : decode cX5_firstFault 54 = .ok (.goto 4, 3) := by decide +kernel
theorem dX5_firstFault_57 : decode cX5_firstFault 57 = .ok (.iconst 0, 1) := by decide +kernel
theorem dX5_firstFault_58 : decode cX5_firstFault 58 = .ok (.iadd, 1) := by decide +kernel
theorem dX5_firstFault_59 : decode cX5_firstFault 59 = .ok (.istore_n 1, 1) := by decide +kernel
theorem dX5_firstFault_60 : decode cX5_firstFault 60 = .ok (.iinc 2 1, 3) := by decide +kernel
theorem dX5_firstFault_63 : decode cX5_firstFault 63 = .ok (.iload_n 2, 1) := by decide +kernel
theorem dX5_firstFault_64 : decode cX5_firstFault 64 = .ok (.bipush 8, 2) := by decide +kernel
theorem dX5_firstFault_66 : decode cX5_firstFault 66 = .ok (.if_icmp .gt 9, 3) := by decide +kernel
theorem dX5_firstFault_69 : decode cX5_firstFault 69 = .ok (.iload_n 1, 1) := by decide +kernel
theorem dX5_firstFault_70 : decode cX5_firstFault 70 = .ok (.bipush 24, 2) := by decide +kernel
theorem dX5_firstFault_72 : decode cX5_firstFault 72 = .ok (.if_icmp .le 5, 3) := by decide +kernel
theorem dX5_firstFault_75 : decode cX5_firstFault 75 = .ok (.iload_n 3, 1) := by decide +kernel
theorem dX5_firstFault_76 : decode cX5_firstFault 76 = .ok (.ireturn, 1) := by decide +kernel
theorem dX5_firstFault_77 : decode cX5_firstFault 77 = .ok (.iinc 3 1, 3) := by decide +kernel
theorem dX5_firstFault_80 : decode cX5_firstFault 80 = .ok (.goto (-74), 3) := by decide +kernel
theorem dX5_firstFault_83 : decode cX5_firstFault 83 = .ok (.bipush (-4), 2) := by decide +kernel
theorem dX5_firstFault_85 : decode cX5_firstFault 85 = .ok (.ireturn, 1) := by decide +kernel
set_option maxRecDepth 20000 in
theorem ggX5_giveWords_X1_removeAll : GoodIn wsX5_giveWords wsX1_removeAll := goodIn_r _ [7, 8, 9, 10, 11, 12, 13, 14, 15, 16, 32, 33, 34, 35, 36, 37, 38] (by decide +kernel) (by decide +kernel)
set_option maxRecDepth 20000 in
theorem gX5_giveWords_X1_removeAll : GoodIn wsX5_giveWords (wsV RX5 32 RX1 yX1_removeAll wsX1_removeAll) := goodIn_app (goodIn_of _ (by decide +kernel)) ggX5_giveWords_X1_removeAll
set_option maxRecDepth 20000 in
theorem ggX5_giveWords_X2_get : GoodIn wsX5_giveWords wsX2_get := goodIn_r _ [20, 16, 38] (by decide +kernel) (by decide +kernel)
set_option maxRecDepth 20000 in
theorem gX5_giveWords_X2_get : GoodIn wsX5_giveWords (wsV RX5 28 RX2 yX2_get wsX2_get) := goodIn_app (goodIn_of _ (by decide +kernel)) ggX5_giveWords_X2_get
set_option maxRecDepth 20000 in
theorem ggX5_giveWords_X1_append : GoodIn wsX5_giveWords wsX1_append := goodIn_r _ [24, 25, 8, 26, 27, 28, 14, 29, 16, 32, 33, 34, 35, 36, 37, 38] (by decide +kernel) (by decide +kernel)
set_option maxRecDepth 20000 in
theorem gX5_giveWords_X1_append : GoodIn wsX5_giveWords (wsV RX5 37 RX1 yX1_append wsX1_append) := goodIn_app (goodIn_of _ (by decide +kernel)) ggX5_giveWords_X1_append
theorem dX5_giveWords_0 : decode cX5_giveWords 0 = .ok (.aload_n 1, 1) := by decide +kernel
theorem dX5_giveWords_1 : decode cX5_giveWords 1 = .ok (.invokevirtual 32, 3) := by decide +kernel
theorem dX5_giveWords_4 : decode cX5_giveWords 4 = .ok (.iconst 0, 1) := by decide +kernel
theorem dX5_giveWords_5 : decode cX5_giveWords 5 = .ok (.istore_n 2, 1) := by decide +kernel
theorem dX5_giveWords_6 : decode cX5_giveWords 6 = .ok (.iconst 0, 1) := by decide +kernel
theorem dX5_giveWords_7 : decode cX5_giveWords 7 = .ok (.istore_n 3, 1) := by decide +kernel
theorem dX5_giveWords_8 : decode cX5_giveWords 8 = .ok (.iload_n 3, 1) := by decide +kernel
theorem dX5_giveWords_9 : decode cX5_giveWords 9 = .ok (.aload_n 0, 1) := by decide +kernel
theorem dX5_giveWords_10 : decode cX5_giveWords 10 = .ok (.getfield 9, 3) := by decide +kernel
theorem dX5_giveWords_13 : decode cX5_giveWords 13 = .ok (.if_icmp .ge 35, 3) := by decide +kernel
theorem dX5_giveWords_16 : decode cX5_giveWords 16 = .ok (.aload_n 0, 1) := by decide +kernel
theorem dX5_giveWords_17 : decode cX5_giveWords 17 = .ok (.getfield 20, 3) := by decide +kernel
theorem dX5_giveWords_20 : decode cX5_giveWords 20 = .ok (.iload_n 3, 1) := by decide +kernel
theorem dX5_giveWords_21 : decode cX5_giveWords 21 = .ok (.invokevirtual 28, 3) := by decide +kernel
theorem dX5_giveWords_24 : decode cX5_giveWords 24 = .ok (.bipush 32, 2) := by decide +kernel
theorem dX5_giveWords_26 : decode cX5_giveWords 26 = .ok (.if_icmp .eq 9, 3) := by decide +kernel
theorem dX5_giveWords_29 : decode cX5_giveWords 29 = .ok (.iinc 2 1, 3) := by decide +kernel
theorem dX5_giveWords_32 : decode cX5_giveWords 32 = .ok (.goto 10, 3) := by decide +kernel
theorem dX5_giveWords_35 : decode cX5_giveWords 35 = .ok (.aload_n 1, 1) := by decide +kernel
theorem dX5_giveWords_36 : decode cX5_giveWords 36 = .ok (.iload_n 2, 1) := by decide +kernel
theorem dX5_giveWords_37 : decode cX5_giveWords 37 = .ok (.invokevirtual 37, 3) := by decide +kernel
theorem dX5_giveWords_40 : decode cX5_giveWords 40 = .ok (.iconst 0, 1) := by decide +kernel
theorem dX5_giveWords_41 : decode cX5_giveWords 41 = .ok (.istore_n 2, 1) := by decide +kernel
theorem dX5_giveWords_42 : decode cX5_giveWords 42 = .ok (.iinc 3 1, 3) := by decide +kernel
theorem dX5_giveWords_45 : decode cX5_giveWords 45 = .ok (.goto (-37), 3) := by decide +kernel
theorem dX5_giveWords_48 : decode cX5_giveWords 48 = .ok (.iload_n 2, 1) := by decide +kernel
theorem dX5_giveWords_49 : decode cX5_giveWords 49 = .ok (.ifCond .le 8, 3) := by decide +kernel
theorem dX5_giveWords_52 : decode cX5_giveWords 52 = .ok (.aload_n 1, 1) := by decide +kernel
theorem dX5_giveWords_53 : decode cX5_giveWords 53 = .ok (.iload_n 2, 1) := by decide +kernel
theorem dX5_giveWords_54 : decode cX5_giveWords 54 = .ok (.invokevirtual 37, 3) := by decide +kernel
theorem dX5_giveWords_57 : decode cX5_giveWords 57 = .ok (.return_, 1) := by decide +kernel
set_option maxRecDepth 20000 in
theorem ggX6_init_X1_init : GoodIn wsX6_init wsX1_init := goodIn_r _ [25, 26, 2, 3, 27, 28, 29, 30, 31, 32, 33, 34, 35, 36, 37, 38, 39, 40, 41, 42, 43, 44, 45, 87, 88, 89, 90, 91, 92, 116] (by decide +kernel) (by decide +kernel)
set_option maxRecDepth 20000 in
theorem gX6_init_X1_init_n9 : GoodIn wsX6_init (wsX1_init) := ggX6_init_X1_init
set_option maxRecDepth 20000 in
theorem ggX6_init_X0_init : GoodIn wsX6_init wsX0_init := goodIn_r _ [48, 49, 2, 3, 50, 51, 52, 5, 6, 24, 25, 26, 27, 28, 29, 30, 31, 32, 33, 34, 35, 36, 37, 38, 39, 40, 41, 42, 43, 44, 45, 98, 99, 87, 88, 89, 90, 91, 92, 116] (by decide +kernel) (by decide +kernel)
set_option maxRecDepth 20000 in
theorem gX6_init_X0_init : GoodIn wsX6_init (wsX0_init) := ggX6_init_X0_init
set_option maxRecDepth 20000 in
theorem ggX6_init_X4_init : GoodIn wsX6_init wsX4_init := goodIn_r _ [54, 55, 2, 3, 56, 31, 32, 57, 58, 59, 60, 61, 37, 38, 39, 40, 41, 42, 43, 44, 45, 116, 100, 101, 102, 103] (by decide +kernel) (by decide +kernel)
set_option maxRecDepth 20000 in
theorem gX6_init_X4_init_n25 : GoodIn wsX6_init (wsX4_init) := ggX6_init_X4_init
set_option maxRecDepth 20000 in
theorem ggX6_init_X3_init : GoodIn wsX6_init wsX3_init := goodIn_r _ [63, 64, 2, 3, 65, 66, 67, 68, 69, 70, 5, 6, 71, 72, 13, 14, 73, 74, 31, 32, 75, 76, 77, 78, 24, 25, 26, 27, 28, 29, 30, 33, 34, 35, 36, 37, 38, 39, 40, 41, 42, 43, 44, 45, 53, 54, 55, 56, 57, 58, 59, 60, 61, 79, 104, 105, 106, 107, 108, 109, 110, 111, 112, 113, 87, 88, 89, 90, 91, 92, 100, 101, 102, 103, 116] (by decide +kernel) (by decide +kernel)
set_option maxRecDepth 20000 in
theorem gX6_init_X3_init_n32 : GoodIn wsX6_init (wsX3_init) := ggX6_init_X3_init
set_option maxRecDepth 20000 in
theorem ggX6_init_X5_init : GoodIn wsX6_init wsX5_init := goodIn_r _ [81, 82, 2, 3, 83, 84, 31, 32, 85, 86, 37, 38, 39, 40, 41, 42, 43, 44, 45, 114, 115, 116] (by decide +kernel) (by decide +kernel)
set_option maxRecDepth 20000 in
theorem gX6_init_X5_init_n39 : GoodIn wsX6_init (wsX5_init) := ggX6_init_X5_init
theorem dX6_init_0 : decode cX6_init 0 = .ok (.aload_n 0, 1) := by decide +kernel
theorem dX6_init_1 : decode cX6_init 1 = .ok (.invokespecial 1, 3) := by decide +kernel
theorem dX6_init_4 : decode cX6_init 4 = .ok (.aload_n 0, 1) := by decide +kernel
theorem dX6_init_5 : decode cX6_init 5 = .ok (.new 7, 3) := by decide +kernel
theorem dX6_init_8 : decode cX6_init 8 = .ok (.dup, 1) := by decide +kernel
theorem dX6_init_9 : decode cX6_init 9 = .ok (.invokespecial 9, 3) := by decide +kernel
theorem dX6_init_12 : decode cX6_init 12 = .ok (.putfield 10, 3) := by decide +kernel
theorem dX6_init_15 : decode cX6_init 15 = .ok (.aload_n 0, 1) := by decide +kernel
theorem dX6_init_16 : decode cX6_init 16 = .ok (.new 16, 3) := by decide +kernel
theorem dX6_init_19 : decode cX6_init 19 = .ok (.dup, 1) := by decide +kernel
theorem dX6_init_20 : decode cX6_init 20 = .ok (.invokespecial 18, 3) := by decide +kernel
theorem dX6_init_23 : decode cX6_init 23 = .ok (.putfield 19, 3) := by decide +kernel
theorem dX6_init_26 : decode cX6_init 26 = .ok (.aload_n 0, 1) := by decide +kernel
theorem dX6_init_27 : decode cX6_init 27 = .ok (.new 23, 3) := by decide +kernel
theorem dX6_init_30 : decode cX6_init 30 = .ok (.dup, 1) := by decide +kernel
theorem dX6_init_31 : decode cX6_init 31 = .ok (.invokespecial 25, 3) := by decide +kernel
theorem dX6_init_34 : decode cX6_init 34 = .ok (.putfield 26, 3) := by decide +kernel
theorem dX6_init_37 : decode cX6_init 37 = .ok (.aload_n 0, 1) := by decide +kernel
theorem dX6_init_38 : decode cX6_init 38 = .ok (.new 30, 3) := by decide +kernel
theorem dX6_init_41 : decode cX6_init 41 = .ok (.dup, 1) := by decide +kernel
theorem dX6_init_42 : decode cX6_init 42 = .ok (.invokespecial 32, 3) := by decide +kernel
theorem dX6_init_45 : decode cX6_init 45 = .ok (.putfield 33, 3) := by decide +kernel
theorem dX6_init_48 : decode cX6_init 48 = .ok (.aload_n 0, 1) := by decide +kernel
theorem dX6_init_49 : decode cX6_init 49 = .ok (.new 37, 3) := by decide +kernel
theorem dX6_init_52 : decode cX6_init 52 = .ok (.dup, 1) := by decide +kernel
theorem dX6_init_53 : decode cX6_init 53 = .ok (.invokespecial 39, 3) := by decide +kernel
theorem dX6_init_56 : decode cX6_init 56 = .ok (.putfield 40, 3) := by decide +kernel
theorem dX6_init_59 : decode cX6_init 59 = .ok (.return_, 1) := by decide +kernel
set_option maxRecDepth 20000 in
theorem ggX6_setWidth_X6_isWithin : GoodIn wsX6_setWidth wsX6_isWithin := goodIn_r _ [6] (by decide +kernel) (by decide +kernel)
set_option maxRecDepth 20000 in
theorem gX6_setWidth_X6_isWithin : GoodIn wsX6_setWidth (va_wsS RX6 44 yX6_isWithin wsX6_isWithin) := goodIn_app (goodIn_of _ (by decide +kernel)) ggX6_setWidth_X6_isWithin
set_option maxRecDepth 20000 in
theorem ggX6_setWidth_X1_frozenLines : GoodIn wsX6_setWidth wsX1_frozenLines := goodIn_r _ [11, 12, 13, 14, 15, 16, 17, 18, 19, 97, 98, 99, 100, 101, 102, 103] (by decide +kernel) (by decide +kernel)
set_option maxRecDepth 20000 in
theorem gX6_setWidth_X1_frozenLines : GoodIn wsX6_setWidth (wsV RX6 48 RX1 yX1_frozenLines wsX1_frozenLines) := goodIn_app (goodIn_of _ (by decide +kernel)) ggX6_setWidth_X1_frozenLines
set_option maxRecDepth 20000 in
theorem ggX6_setWidth_X6_beginChange : GoodIn wsX6_setWidth wsX6_beginChange := goodIn_r _ [23, 24, 1, 25, 26, 27, 28, 29, 30, 31, 32, 33, 34, 35, 36, 37, 38, 39, 40, 41, 42, 43, 10, 44, 45, 46, 12, 47, 48, 13, 49, 50, 51, 17, 52, 19, 53, 15, 16, 18, 54, 55, 56, 57, 58, 59, 92, 93, 94, 95, 96, 104, 105, 97, 98, 99, 100, 101, 102, 103, 106, 107, 108, 109, 110, 111, 112, 113, 114, 115] (by decide +kernel) (by decide +kernel)
set_option maxRecDepth 20000 in
theorem gX6_setWidth_X6_beginChange : GoodIn wsX6_setWidth (wsV RX6 52 RX6 yX6_beginChange wsX6_beginChange) := goodIn_app (goodIn_of _ (by decide +kernel)) ggX6_setWidth_X6_beginChange
set_option maxRecDepth 20000 in
theorem ggX6_setWidth_X1_fill : GoodIn wsX6_setWidth wsX1_fill := goodIn_r _ [63, 12, 64, 65, 66, 10, 67, 48, 68, 69, 70, 17, 71, 19, 72, 73, 74, 75, 76, 77, 78, 79, 45, 47, 14, 15, 16, 18, 80, 81, 82, 83, 84, 85, 86, 87, 97, 98, 99, 100, 101, 102, 103] (by decide +kernel) (by decide +kernel)
set_option maxRecDepth 20000 in
theorem gX6_setWidth_X1_fill : GoodIn wsX6_setWidth (wsV RX6 59 RX1 yX1_fill wsX1_fill) := goodIn_app (goodIn_of _ (by decide +kernel)) ggX6_setWidth_X1_fill
set_option maxRecDepth 20000 in
theorem ggX6_setWidth_X1_lines : GoodIn wsX6_setWidth wsX1_lines := goodIn_r _ [91, 12, 48, 14, 15, 16, 17, 18, 19, 97, 98, 99, 100, 101, 102, 103] (by decide +kernel) (by decide +kernel)
set_option maxRecDepth 20000 in
theorem gX6_setWidth_X1_lines : GoodIn wsX6_setWidth (wsV RX6 62 RX1 yX1_lines wsX1_lines) := goodIn_app (goodIn_of _ (by decide +kernel)) ggX6_setWidth_X1_lines
theorem dX6_setWidth_0 : decode cX6_setWidth 0 = .ok (.iload_n 1, 1) := by decide +kernel
theorem dX6_setWidth_1 : decode cX6_setWidth 1 = .ok (.bipush 16, 2) := by decide +kernel
theorem dX6_setWidth_3 : decode cX6_setWidth 3 = .ok (.bipush 40, 2) := by decide +kernel
theorem dX6_setWidth_5 : decode cX6_setWidth 5 = .ok (.invokestatic 44, 3) := by decide +kernel
theorem dX6_setWidth_8 : decode cX6_setWidth 8 = .ok (.ifCond .ne 5, 3) := by decide +kernel
theorem dX6_setWidth_11 : decode cX6_setWidth 11 = .ok (.iconst (-1), 1) := by decide +kernel
theorem dX6_setWidth_12 : decode cX6_setWidth 12 = .ok (.ireturn, 1) := by decide +kernel
theorem dX6_setWidth_13 : decode cX6_setWidth 13 = .ok (.aload_n 0, 1) := by decide +kernel
theorem dX6_setWidth_14 : decode cX6_setWidth 14 = .ok (.getfield 10, 3) := by decide +kernel
theorem dX6_setWidth_17 : decode cX6_setWidth 17 = .ok (.invokevirtual 48, 3) := by decide +kernel
theorem dX6_setWidth_20 : decode cX6_setWidth 20 = .ok (.ifCond .le 6, 3) := by decide +kernel
theorem dX6_setWidth_23 : decode cX6_setWidth 23 = .ok (.bipush (-2), 2) := by decide +kernel
theorem dX6_setWidth_25 : decode cX6_setWidth 25 = .ok (.ireturn, 1) := by decide +kernel
theorem dX6_setWidth_26 : decode cX6_setWidth 26 = .ok (.aload_n 0, 1) := by decide +kernel
theorem dX6_setWidth_27 : decode cX6_setWidth 27 = .ok (.invokevirtual 52, 3) := by decide +kernel
theorem dX6_setWidth_30 : decode cX6_setWidth 30 = .ok (.aload_n 0, 1) := by decide +kernel
theorem dX6_setWidth_31 : decode cX6_setWidth 31 = .ok (.getfield 10, 3) := by decide +kernel
theorem dX6_setWidth_34 : decode cX6_setWidth 34 = .ok (.iload_n 1, 1) := by decide +kernel
theorem dX6_setWidth_35 : decode cX6_setWidth 35 = .ok (.putfield 55, 3) := by decide +kernel
theorem dX6_setWidth_38 : decode cX6_setWidth 38 = .ok (.aload_n 0, 1) := by decide +kernel
theorem dX6_setWidth_39 : decode cX6_setWidth 39 = .ok (.getfield 10, 3) := by decide +kernel
theorem dX6_setWidth_42 : decode cX6_setWidth 42 = .ok (.invokevirtual 59, 3) := by decide +kernel
theorem dX6_setWidth_45 : decode cX6_setWidth 45 = .ok (.aload_n 0, 1) := by decide +kernel
theorem dX6_setWidth_46 : decode cX6_setWidth 46 = .ok (.getfield 10, 3) := by decide +kernel
theorem dX6_setWidth_49 : decode cX6_setWidth 49 = .ok (.invokevirtual 62, 3) := by decide +kernel
theorem dX6_setWidth_52 : decode cX6_setWidth 52 = .ok (.ireturn, 1) := by decide +kernel
set_option maxRecDepth 20000 in
theorem ggX6_setSlack_X6_isWithin : GoodIn wsX6_setSlack wsX6_isWithin := goodIn_r _ [6] (by decide +kernel) (by decide +kernel)
set_option maxRecDepth 20000 in
theorem gX6_setSlack_X6_isWithin : GoodIn wsX6_setSlack (va_wsS RX6 44 yX6_isWithin wsX6_isWithin) := goodIn_app (goodIn_of _ (by decide +kernel)) ggX6_setSlack_X6_isWithin
set_option maxRecDepth 20000 in
theorem ggX6_setSlack_X6_beginChange : GoodIn wsX6_setSlack wsX6_beginChange := goodIn_r _ [10, 11, 1, 12, 13, 14, 15, 16, 17, 18, 19, 20, 21, 22, 23, 24, 25, 26, 27, 28, 29, 30, 31, 32, 33, 34, 35, 36, 37, 38, 39, 40, 41, 42, 43, 44, 45, 46, 47, 48, 49, 50, 51, 52, 53, 54, 55, 56, 57, 58, 59, 66, 67, 60, 61, 62, 63, 64, 65, 68, 69, 70, 71, 72, 73, 74, 75, 76, 77, 78] (by decide +kernel) (by decide +kernel)
set_option maxRecDepth 20000 in
theorem gX6_setSlack_X6_beginChange : GoodIn wsX6_setSlack (wsV RX6 52 RX6 yX6_beginChange wsX6_beginChange) := goodIn_app (goodIn_of _ (by decide +kernel)) ggX6_setSlack_X6_beginChange
theorem dX6_setSlack_0 : decode cX6_setSlack 0 = .ok (.iload_n 1, 1) := by decide +kernel
theorem dX6_setSlack_1 : decode cX6_setSlack 1 = .ok (.iconst 0, 1) := by decide +kernel
theorem dX6_setSlack_2 : decode cX6_setSlack 2 = .ok (.bipush 8, 2) := by decide +kernel
theorem dX6_setSlack_4 : decode cX6_setSlack 4 = .ok (.invokestatic 44, 3) := by decide +kernel
theorem dX6_setSlack_7 : decode cX6_setSlack 7 = .ok (.ifCond .ne 5, 3) := by decide +kernel
theorem dX6_setSlack_10 : decode cX6_setSlack 10 = .ok (.iconst (-1), 1) := by decide +kernel
theorem dX6_setSlack_11 : decode cX6_setSlack 11 = .ok (.ireturn, 1) := by decide +kernel
theorem dX6_setSlack_12 : decode cX6_setSlack 12 = .ok (.aload_n 0, 1) := by decide +kernel
theorem dX6_setSlack_13 : decode cX6_setSlack 13 = .ok (.invokevirtual 52, 3) := by decide +kernel
theorem dX6_setSlack_16 : decode cX6_setSlack 16 = .ok (.aload_n 0, 1) := by decide +kernel
theorem dX6_setSlack_17 : decode cX6_setSlack 17 = .ok (.getfield 10, 3) := by decide +kernel
theorem dX6_setSlack_20 : decode cX6_setSlack 20 = .ok (.getfield 65, 3) := by decide +kernel
theorem dX6_setSlack_23 : decode cX6_setSlack 23 = .ok (.istore_n 2, 1) := by decide +kernel
theorem dX6_setSlack_24 : decode cX6_setSlack 24 = .ok (.aload_n 0, 1) := by decide +kernel
theorem dX6_setSlack_25 : decode cX6_setSlack 25 = .ok (.getfield 10, 3) := by decide +kernel
theorem dX6_setSlack_28 : decode cX6_setSlack 28 = .ok (.iload_n 1, 1) := by decide +kernel
theorem dX6_setSlack_29 : decode cX6_setSlack 29 = .ok (.putfield 65, 3) := by decide +kernel
theorem dX6_setSlack_32 : decode cX6_setSlack 32 = .ok (.iload_n 2, 1) := by decide +kernel
theorem dX6_setSlack_33 : decode cX6_setSlack 33 = .ok (.ireturn, 1) := by decide +kernel
set_option maxRecDepth 20000 in
theorem ggX6_add_X6_isWithin : GoodIn wsX6_add wsX6_isWithin := goodIn_r _ [6] (by decide +kernel) (by decide +kernel)
set_option maxRecDepth 20000 in
theorem gX6_add_X6_isWithin : GoodIn wsX6_add (va_wsS RX6 44 yX6_isWithin wsX6_isWithin) := goodIn_app (goodIn_of _ (by decide +kernel)) ggX6_add_X6_isWithin
set_option maxRecDepth 20000 in
theorem ggX6_add_X6_beginChange : GoodIn wsX6_add wsX6_beginChange := goodIn_r _ [10, 11, 1, 12, 13, 14, 15, 16, 17, 18, 19, 20, 21, 22, 23, 24, 25, 26, 27, 28, 29, 30, 31, 32, 33, 34, 35, 36, 37, 38, 39, 40, 41, 42, 43, 44, 45, 46, 47, 48, 49, 50, 51, 52, 53, 54, 88, 89, 90, 91, 92, 99, 100, 93, 94, 95, 96, 97, 98, 101, 102, 103, 104, 105, 106, 107, 108, 109, 110, 111] (by decide +kernel) (by decide +kernel)
set_option maxRecDepth 20000 in
theorem gX6_add_X6_beginChange : GoodIn wsX6_add (wsV RX6 52 RX6 yX6_beginChange wsX6_beginChange) := goodIn_app (goodIn_of _ (by decide +kernel)) ggX6_add_X6_beginChange
set_option maxRecDepth 20000 in
theorem ggX6_add_X1_lines : GoodIn wsX6_add wsX1_lines := goodIn_r _ [58, 35, 37, 59, 46, 47, 42, 48, 44, 93, 94, 95, 96, 97, 98, 101] (by decide +kernel) (by decide +kernel)
set_option maxRecDepth 20000 in
theorem gX6_add_X1_lines : GoodIn wsX6_add (wsV RX6 62 RX1 yX1_lines wsX1_lines) := goodIn_app (goodIn_of _ (by decide +kernel)) ggX6_add_X1_lines
set_option maxRecDepth 20000 in
theorem ggX6_add_X1_firstOf : GoodIn wsX6_add wsX1_firstOf := goodIn_r _ [63, 35, 37, 59, 46, 47, 42, 48, 44, 93, 94, 95, 96, 97, 98, 101] (by decide +kernel) (by decide +kernel)
set_option maxRecDepth 20000 in
theorem gX6_add_X1_firstOf : GoodIn wsX6_add (wsV RX6 71 RX1 yX1_firstOf wsX1_firstOf) := goodIn_app (goodIn_of _ (by decide +kernel)) ggX6_add_X1_firstOf
set_option maxRecDepth 20000 in
theorem ggX6_add_X1_append : GoodIn wsX6_add wsX1_append := goodIn_r _ [67, 36, 35, 68, 69, 70, 42, 71, 44, 93, 94, 95, 96, 97, 98, 101] (by decide +kernel) (by decide +kernel)
set_option maxRecDepth 20000 in
theorem gX6_add_X1_append : GoodIn wsX6_add (wsV RX6 75 RX1 yX1_append wsX1_append) := goodIn_app (goodIn_of _ (by decide +kernel)) ggX6_add_X1_append
set_option maxRecDepth 20000 in
theorem ggX6_add_X1_isFrozen : GoodIn wsX6_add wsX1_isFrozen := goodIn_r _ [75, 38, 59, 46, 47, 42, 48, 44, 93, 94, 95, 96, 97, 98, 101] (by decide +kernel) (by decide +kernel)
set_option maxRecDepth 20000 in
theorem gX6_add_X1_isFrozen : GoodIn wsX6_add (wsV RX6 79 RX1 yX1_isFrozen wsX1_isFrozen) := goodIn_app (goodIn_of _ (by decide +kernel)) ggX6_add_X1_isFrozen
set_option maxRecDepth 20000 in
theorem ggX6_add_X1_fits : GoodIn wsX6_add wsX1_fits := goodIn_r _ [79, 80, 81, 82, 31, 83, 33, 36, 59, 46, 47, 42, 48, 44, 93, 94, 95, 96, 97, 98, 101] (by decide +kernel) (by decide +kernel)
set_option maxRecDepth 20000 in
theorem gX6_add_X1_fits : GoodIn wsX6_add (wsV RX6 83 RX1 yX1_fits wsX1_fits) := goodIn_app (goodIn_of _ (by decide +kernel)) ggX6_add_X1_fits
set_option maxRecDepth 20000 in
theorem ggX6_add_X1_begin : GoodIn wsX6_add wsX1_begin := goodIn_r _ [87, 35, 37, 68, 69, 70, 42, 71, 44, 93, 94, 95, 96, 97, 98, 101] (by decide +kernel) (by decide +kernel)
set_option maxRecDepth 20000 in
theorem gX6_add_X1_begin : GoodIn wsX6_add (wsV RX6 87 RX1 yX1_begin wsX1_begin) := goodIn_app (goodIn_of _ (by decide +kernel)) ggX6_add_X1_begin
theorem dX6_add_0 : decode cX6_add 0 = .ok (.iload_n 1, 1) := by decide +kernel
theorem dX6_add_1 : decode cX6_add 1 = .ok (.iconst 1, 1) := by decide +kernel
theorem dX6_add_2 : decode cX6_add 2 = .ok (.bipush 8, 2) := by decide +kernel
theorem dX6_add_4 : decode cX6_add 4 = .ok (.invokestatic 44, 3) := by decide +kernel
theorem dX6_add_7 : decode cX6_add 7 = .ok (.ifCond .ne 5, 3) := by decide +kernel
theorem dX6_add_10 : decode cX6_add 10 = .ok (.iconst (-1), 1) := by decide +kernel
theorem dX6_add_11 : decode cX6_add 11 = .ok (.ireturn, 1) := by decide +kernel
theorem dX6_add_12 : decode cX6_add 12 = .ok (.aload_n 0, 1) := by decide +kernel
theorem dX6_add_13 : decode cX6_add 13 = .ok (.getfield 10, 3) := by decide +kernel
theorem dX6_add_16 : decode cX6_add 16 = .ok (.getfield 68, 3) := by decide +kernel
theorem dX6_add_19 : decode cX6_add 19 = .ok (.bipush 24, 2) := by decide +kernel
theorem dX6_add_21 : decode cX6_add 21 = .ok (.if_icmp .lt 6, 3) := by decide +kernel
theorem dX6_add_24 : decode cX6_add 24 = .ok (.bipush (-3), 2) := by decide +kernel
theorem dX6_add_26 : decode cX6_add 26 = .ok (.ireturn, 1) := by decide +kernel
theorem dX6_add_27 : decode cX6_add 27 = .ok (.aload_n 0, 1) := by decide +kernel
theorem dX6_add_28 : decode cX6_add 28 = .ok (.invokevirtual 52, 3) := by decide +kernel
theorem dX6_add_31 : decode cX6_add 31 = .ok (.aload_n 0, 1) := by decide +kernel
theorem dX6_add_32 : decode cX6_add 32 = .ok (.getfield 10, 3) := by decide +kernel
theorem dX6_add_35 : decode cX6_add 35 = .ok (.getfield 68, 3) := by decide +kernel
theorem dX6_add_38 : decode cX6_add 38 = .ok (.istore_n 2, 1) := by decide +kernel
theorem dX6_add_39 : decode cX6_add 39 = .ok (.aload_n 0, 1) := by decide +kernel
theorem dX6_add_40 : decode cX6_add 40 = .ok (.getfield 10, 3) := by decide +kernel
theorem dX6_add_43 : decode cX6_add 43 = .ok (.aload_n 0, 1) := by decide +kernel
theorem dX6_add_44 : decode cX6_add 44 = .ok (.getfield 10, 3) := by decide +kernel
theorem dX6_add_47 : decode cX6_add 47 = .ok (.invokevirtual 62, 3) := by decide +kernel
theorem dX6_add_50 : decode cX6_add 50 = .ok (.iconst 1, 1) := by decide +kernel
theorem dX6_add_51 : decode cX6_add 51 = .ok (.isub, 1) := by decide +kernel
theorem dX6_add_52 : decode cX6_add 52 = .ok (.invokevirtual 71, 3) := by decide +kernel
theorem dX6_add_55 : decode cX6_add 55 = .ok (.istore_n 3, 1) := by decide +kernel
theorem dX6_add_56 : decode cX6_add 56 = .ok (.aload_n 0, 1) := by decide +kernel
theorem dX6_add_57 : decode cX6_add 57 = .ok (.getfield 10, 3) := by decide +kernel
theorem dX6_add_60 : decode cX6_add 60 = .ok (.iload_n 1, 1) := by decide +kernel
theorem dX6_add_61 : decode cX6_add 61 = .ok (.invokevirtual 75, 3) := by decide +kernel
theorem dX6_add_64 : decode cX6_add 64 = .ok (.iload_n 2, 1) := by decide +kernel
theorem dX6_add_65 : decode cX6_add 65 = .ok (.ifCond .eq 32, 3) := by decide +kernel
theorem dX6_add_68 : decode cX6_add 68 = .ok (.aload_n 0, 1) := by decide +kernel
theorem dX6_add_69 : decode cX6_add 69 = .ok (.getfield 10, 3) := by decide +kernel
theorem dX6_add_72 : decode cX6_add 72 = .ok (.iload_n 3, 1) := by decide +kernel
theorem dX6_add_73 : decode cX6_add 73 = .ok (.invokevirtual 79, 3) := by decide +kernel
theorem dX6_add_76 : decode cX6_add 76 = .ok (.ifCond .ne 21, 3) := by decide +kernel
theorem dX6_add_79 : decode cX6_add 79 = .ok (.aload_n 0, 1) := by decide +kernel
theorem dX6_add_80 : decode cX6_add 80 = .ok (.getfield 10, 3) := by decide +kernel
theorem dX6_add_83 : decode cX6_add 83 = .ok (.iload_n 3, 1) := by decide +kernel
theorem dX6_add_84 : decode cX6_add 84 = .ok (.aload_n 0, 1) := by decide +kernel
theorem dX6_add_85 : decode cX6_add 85 = .ok (.getfield 10, 3) := by decide +kernel
theorem dX6_add_88 : decode cX6_add 88 = .ok (.getfield 68, 3) := by decide +kernel
theorem dX6_add_91 : decode cX6_add 91 = .ok (.invokevirtual 83, 3) := by decide +kernel
theorem dX6_add_94 : decode cX6_add 94 = .ok (.ifCond .ne 11, 3) := by decide +kernel
theorem dX6_add_97 : decode cX6_add 97 = .ok (.aload_n 0, 1) := by decide +kernel
theorem dX6_add_98 : decode cX6_add 98 = .ok (.getfield 10, 3) := by decide +kernel
theorem dX6_add_101 : decode cX6_add 101 = .ok (.iload_n 2, 1) := by decide +kernel
theorem dX6_add_102 : decode cX6_add 102 = .ok (.invokevirtual 87, 3) := by decide +kernel
theorem dX6_add_105 : decode cX6_add 105 = .ok (.iload_n 2, 1) := by decide +kernel
theorem dX6_add_106 : decode cX6_add 106 = .ok (.ireturn, 1) := by decide +kernel
set_option maxRecDepth 20000 in
theorem ggX6_remove_X1_lines : GoodIn wsX6_remove wsX1_lines := goodIn_r _ [7, 8, 9, 10, 11, 12, 13, 14, 15, 78, 79, 80, 81, 82, 83, 84] (by decide +kernel) (by decide +kernel)
set_option maxRecDepth 20000 in
theorem gX6_remove_X1_lines : GoodIn wsX6_remove (wsV RX6 62 RX1 yX1_lines wsX1_lines) := goodIn_app (goodIn_of _ (by decide +kernel)) ggX6_remove_X1_lines
set_option maxRecDepth 20000 in
theorem ggX6_remove_X1_firstOf : GoodIn wsX6_remove wsX1_firstOf := goodIn_r _ [19, 8, 9, 10, 11, 12, 13, 14, 15, 78, 79, 80, 81, 82, 83, 84] (by decide +kernel) (by decide +kernel)
set_option maxRecDepth 20000 in
theorem gX6_remove_X1_firstOf : GoodIn wsX6_remove (wsV RX6 71 RX1 yX1_firstOf wsX1_firstOf) := goodIn_app (goodIn_of _ (by decide +kernel)) ggX6_remove_X1_firstOf
set_option maxRecDepth 20000 in
theorem ggX6_remove_X1_isFrozen : GoodIn wsX6_remove wsX1_isFrozen := goodIn_r _ [23, 24, 10, 11, 12, 13, 14, 15, 78, 79, 80, 81, 82, 83, 84] (by decide +kernel) (by decide +kernel)
set_option maxRecDepth 20000 in
theorem gX6_remove_X1_isFrozen : GoodIn wsX6_remove (wsV RX6 79 RX1 yX1_isFrozen wsX1_isFrozen) := goodIn_app (goodIn_of _ (by decide +kernel)) ggX6_remove_X1_isFrozen
set_option maxRecDepth 20000 in
theorem ggX6_remove_X6_beginChange : GoodIn wsX6_remove wsX6_beginChange := goodIn_r _ [29, 30, 1, 31, 32, 33, 34, 35, 36, 37, 38, 39, 40, 41, 42, 43, 44, 45, 46, 47, 48, 49, 6, 50, 51, 52, 8, 53, 9, 24, 54, 55, 56, 13, 57, 15, 58, 11, 12, 14, 59, 60, 61, 62, 63, 64, 73, 74, 75, 76, 77, 85, 86, 78, 79, 80, 81, 82, 83, 84, 87, 88, 89, 90, 91, 92, 93, 94, 95, 96] (by decide +kernel) (by decide +kernel)
set_option maxRecDepth 20000 in
theorem gX6_remove_X6_beginChange : GoodIn wsX6_remove (wsV RX6 52 RX6 yX6_beginChange wsX6_beginChange) := goodIn_app (goodIn_of _ (by decide +kernel)) ggX6_remove_X6_beginChange
set_option maxRecDepth 20000 in
theorem ggX6_remove_X1_dropLast : GoodIn wsX6_remove wsX1_dropLast := goodIn_r _ [68, 8, 9, 69, 70, 71, 13, 72, 15, 78, 79, 80, 81, 82, 83, 84] (by decide +kernel) (by decide +kernel)
set_option maxRecDepth 20000 in
theorem gX6_remove_X1_dropLast : GoodIn wsX6_remove (wsV RX6 90 RX1 yX1_dropLast wsX1_dropLast) := goodIn_app (goodIn_of _ (by decide +kernel)) ggX6_remove_X1_dropLast
theorem dX6_remove_0 : decode cX6_remove 0 = .ok (.aload_n 0, 1) := by decide +kernel
theorem dX6_remove_1 : decode cX6_remove 1 = .ok (.getfield 10, 3) := by decide +kernel
theorem dX6_remove_4 : decode cX6_remove 4 = .ok (.getfield 68, 3) := by decide +kernel
theorem dX6_remove_7 : decode cX6_remove 7 = .ok (.ifCond .eq 29, 3) := by decide +kernel
theorem dX6_remove_10 : decode cX6_remove 10 = .ok (.aload_n 0, 1) := by decide +kernel
theorem dX6_remove_11 : decode cX6_remove 11 = .ok (.getfield 10, 3) := by decide +kernel
theorem dX6_remove_14 : decode cX6_remove 14 = .ok (.aload_n 0, 1) := by decide +kernel
theorem dX6_remove_15 : decode cX6_remove 15 = .ok (.getfield 10, 3) := by decide +kernel
theorem dX6_remove_18 : decode cX6_remove 18 = .ok (.aload_n 0, 1) := by decide +kernel
theorem dX6_remove_19 : decode cX6_remove 19 = .ok (.getfield 10, 3) := by decide +kernel
theorem dX6_remove_22 : decode cX6_remove 22 = .ok (.invokevirtual 62, 3) := by decide +kernel
theorem dX6_remove_25 : decode cX6_remove 25 = .ok (.iconst 1, 1) := by decide +kernel
theorem dX6_remove_26 : decode cX6_remove 26 = .ok (.isub, 1) := by decide +kernel
theorem dX6_remove_27 : decode cX6_remove 27 = .ok (.invokevirtual 71, 3) := by decide +kernel
theorem dX6_remove_30 : decode cX6_remove 30 = .ok (.invokevirtual 79, 3) := by decide +kernel
theorem dX6_remove_33 : decode cX6_remove 33 = .ok (.ifCond .eq 6, 3) := by decide +kernel
theorem dX6_remove_36 : decode cX6_remove 36 = .ok (.bipush (-2), 2) := by decide +kernel
theorem dX6_remove_38 : decode cX6_remove 38 = .ok (.ireturn, 1) := by decide +kernel
theorem dX6_remove_39 : decode cX6_remove 39 = .ok (.aload_n 0, 1) := by decide +kernel
theorem dX6_remove_40 : decode cX6_remove 40 = .ok (.invokevirtual 52, 3) := by decide +kernel
theorem dX6_remove_43 : decode cX6_remove 43 = .ok (.aload_n 0, 1) := by decide +kernel
theorem dX6_remove_44 : decode cX6_remove 44 = .ok (.getfield 10, 3) := by decide +kernel
theorem dX6_remove_47 : decode cX6_remove 47 = .ok (.invokevirtual 90, 3) := by decide +kernel
theorem dX6_remove_50 : decode cX6_remove 50 = .ok (.aload_n 0, 1) := by decide +kernel
theorem dX6_remove_51 : decode cX6_remove 51 = .ok (.getfield 10, 3) := by decide +kernel
theorem dX6_remove_54 : decode cX6_remove 54 = .ok (.getfield 68, 3) := by decide +kernel
theorem dX6_remove_57 : decode cX6_remove 57 = .ok (.ireturn, 1) := by decide +kernel
set_option maxRecDepth 20000 in
theorem ggX6_pull_X1_hasLine : GoodIn wsX6_pull wsX1_hasLine := goodIn_r _ [7, 8, 9, 10, 6, 11, 12, 13, 14, 15, 16, 17, 18, 19, 99, 100, 101, 102, 103, 104, 105] (by decide +kernel) (by decide +kernel)
set_option maxRecDepth 20000 in
theorem gX6_pull_X1_hasLine : GoodIn wsX6_pull (wsV RX6 93 RX1 yX1_hasLine wsX1_hasLine) := goodIn_app (goodIn_of _ (by decide +kernel)) ggX6_pull_X1_hasLine
set_option maxRecDepth 20000 in
theorem ggX6_pull_X1_firstOf : GoodIn wsX6_pull wsX1_firstOf := goodIn_r _ [23, 12, 13, 14, 15, 16, 17, 18, 19, 99, 100, 101, 102, 103, 104, 105] (by decide +kernel) (by decide +kernel)
set_option maxRecDepth 20000 in
theorem gX6_pull_X1_firstOf : GoodIn wsX6_pull (wsV RX6 71 RX1 yX1_firstOf wsX1_firstOf) := goodIn_app (goodIn_of _ (by decide +kernel)) ggX6_pull_X1_firstOf
set_option maxRecDepth 20000 in
theorem ggX6_pull_X1_endOf : GoodIn wsX6_pull wsX1_endOf := goodIn_r _ [27, 12, 13, 14, 15, 16, 17, 18, 19, 99, 100, 101, 102, 103, 104, 105] (by decide +kernel) (by decide +kernel)
set_option maxRecDepth 20000 in
theorem gX6_pull_X1_endOf : GoodIn wsX6_pull (wsV RX6 96 RX1 yX1_endOf wsX1_endOf) := goodIn_app (goodIn_of _ (by decide +kernel)) ggX6_pull_X1_endOf
set_option maxRecDepth 20000 in
theorem ggX6_pull_X1_isFrozen : GoodIn wsX6_pull wsX1_isFrozen := goodIn_r _ [31, 32, 14, 15, 16, 17, 18, 19, 99, 100, 101, 102, 103, 104, 105] (by decide +kernel) (by decide +kernel)
set_option maxRecDepth 20000 in
theorem gX6_pull_X1_isFrozen : GoodIn wsX6_pull (wsV RX6 79 RX1 yX1_isFrozen wsX1_isFrozen) := goodIn_app (goodIn_of _ (by decide +kernel)) ggX6_pull_X1_isFrozen
set_option maxRecDepth 20000 in
theorem ggX6_pull_X1_fits : GoodIn wsX6_pull wsX1_fits := goodIn_r _ [36, 37, 38, 39, 6, 40, 41, 42, 14, 15, 16, 17, 18, 19, 99, 100, 101, 102, 103, 104, 105] (by decide +kernel) (by decide +kernel)
set_option maxRecDepth 20000 in
theorem gX6_pull_X1_fits : GoodIn wsX6_pull (wsV RX6 83 RX1 yX1_fits wsX1_fits) := goodIn_app (goodIn_of _ (by decide +kernel)) ggX6_pull_X1_fits
set_option maxRecDepth 20000 in
theorem ggX6_pull_X6_beginChange : GoodIn wsX6_pull wsX6_beginChange := goodIn_r _ [47, 48, 1, 49, 50, 51, 52, 53, 54, 55, 56, 57, 58, 59, 60, 61, 62, 63, 64, 65, 66, 67, 6, 68, 41, 69, 12, 42, 13, 32, 70, 71, 72, 17, 73, 19, 74, 15, 16, 18, 75, 76, 77, 78, 79, 80, 94, 95, 96, 97, 98, 106, 107, 99, 100, 101, 102, 103, 104, 105, 108, 109, 110, 111, 112, 113, 114, 115, 116, 117] (by decide +kernel) (by decide +kernel)
set_option maxRecDepth 20000 in
theorem gX6_pull_X6_beginChange : GoodIn wsX6_pull (wsV RX6 52 RX6 yX6_beginChange wsX6_beginChange) := goodIn_app (goodIn_of _ (by decide +kernel)) ggX6_pull_X6_beginChange
set_option maxRecDepth 20000 in
theorem ggX6_pull_X1_join : GoodIn wsX6_pull wsX1_join := goodIn_r _ [84, 13, 85, 86, 87, 17, 88, 19, 99, 100, 101, 102, 103, 104, 105] (by decide +kernel) (by decide +kernel)
set_option maxRecDepth 20000 in
theorem gX6_pull_X1_join : GoodIn wsX6_pull (wsV RX6 99 RX1 yX1_join wsX1_join) := goodIn_app (goodIn_of _ (by decide +kernel)) ggX6_pull_X1_join
set_option maxRecDepth 20000 in
theorem ggX6_pull_X1_begin : GoodIn wsX6_pull wsX1_begin := goodIn_r _ [92, 12, 13, 85, 86, 87, 17, 88, 19, 99, 100, 101, 102, 103, 104, 105] (by decide +kernel) (by decide +kernel)
set_option maxRecDepth 20000 in
theorem gX6_pull_X1_begin : GoodIn wsX6_pull (wsV RX6 87 RX1 yX1_begin wsX1_begin) := goodIn_app (goodIn_of _ (by decide +kernel)) ggX6_pull_X1_begin
set_option maxRecDepth 20000 in
theorem ggX6_pull_X1_lines : GoodIn wsX6_pull wsX1_lines := goodIn_r _ [11, 12, 13, 14, 15, 16, 17, 18, 19, 99, 100, 101, 102, 103, 104, 105] (by decide +kernel) (by decide +kernel)
set_option maxRecDepth 20000 in
theorem gX6_pull_X1_lines : GoodIn wsX6_pull (wsV RX6 62 RX1 yX1_lines wsX1_lines) := goodIn_app (goodIn_of _ (by decide +kernel)) ggX6_pull_X1_lines
theorem dX6_pull_0 : decode cX6_pull 0 = .ok (.aload_n 0, 1) := by decide +kernel
theorem dX6_pull_1 : decode cX6_pull 1 = .ok (.getfield 10, 3) := by decide +kernel
theorem dX6_pull_4 : decode cX6_pull 4 = .ok (.iload_n 1, 1) := by decide +kernel
theorem dX6_pull_5 : decode cX6_pull 5 = .ok (.invokevirtual 93, 3) := by decide +kernel
theorem dX6_pull_8 : decode cX6_pull 8 = .ok (.ifCond .ne 5, 3) := by decide +kernel
theorem dX6_pull_11 : decode cX6_pull 11 = .ok (.iconst (-1), 1) := by decide +kernel
theorem dX6_pull_12 : decode cX6_pull 12 = .ok (.ireturn, 1) := by decide +kernel
theorem dX6_pull_13 : decode cX6_pull 13 = .ok (.aload_n 0, 1) := by decide +kernel
theorem dX6_pull_14 : decode cX6_pull 14 = .ok (.getfield 10, 3) := by decide +kernel
theorem dX6_pull_17 : decode cX6_pull 17 = .ok (.iload_n 1, 1) := by decide +kernel
theorem dX6_pull_18 : decode cX6_pull 18 = .ok (.invokevirtual 71, 3) := by decide +kernel
theorem dX6_pull_21 : decode cX6_pull 21 = .ok (.istore_n 2, 1) := by decide +kernel
theorem dX6_pull_22 : decode cX6_pull 22 = .ok (.aload_n 0, 1) := by decide +kernel
theorem dX6_pull_23 : decode cX6_pull 23 = .ok (.getfield 10, 3) := by decide +kernel
theorem dX6_pull_26 : decode cX6_pull 26 = .ok (.iload_n 2, 1) := by decide +kernel
theorem dX6_pull_27 : decode cX6_pull 27 = .ok (.invokevirtual 96, 3) := by decide +kernel
theorem dX6_pull_30 : decode cX6_pull 30 = .ok (.istore_n 3, 1) := by decide +kernel
theorem dX6_pull_31 : decode cX6_pull 31 = .ok (.iload_n 3, 1) := by decide +kernel
theorem dX6_pull_32 : decode cX6_pull 32 = .ok (.aload_n 0, 1) := by decide +kernel
theorem dX6_pull_33 : decode cX6_pull 33 = .ok (.getfield 10, 3) := by decide +kernel
theorem dX6_pull_36 : decode cX6_pull 36 = .ok (.getfield 68, 3) := by decide +kernel
theorem dX6_pull_39 : decode cX6_pull 39 = .ok (.if_icmp .ge 39, 3) := by decide +kernel
theorem dX6_pull_42 : decode cX6_pull 42 = .ok (.aload_n 0, 1) := by decide +kernel
theorem dX6_pull_43 : decode cX6_pull 43 = .ok (.getfield 10, 3) := by decide +kernel
theorem dX6_pull_46 : decode cX6_pull 46 = .ok (.iload_n 2, 1) := by decide +kernel
theorem dX6_pull_47 : decode cX6_pull 47 = .ok (.invokevirtual 79, 3) := by decide +kernel
theorem dX6_pull_50 : decode cX6_pull 50 = .ok (.ifCond .ne 28, 3) := by decide +kernel
theorem dX6_pull_53 : decode cX6_pull 53 = .ok (.aload_n 0, 1) := by decide +kernel
theorem dX6_pull_54 : decode cX6_pull 54 = .ok (.getfield 10, 3) := by decide +kernel
theorem dX6_pull_57 : decode cX6_pull 57 = .ok (.iload_n 3, 1) := by decide +kernel
theorem dX6_pull_58 : decode cX6_pull 58 = .ok (.invokevirtual 79, 3) := by decide +kernel
theorem dX6_pull_61 : decode cX6_pull 61 = .ok (.ifCond .ne 17, 3) := by decide +kernel
theorem dX6_pull_64 : decode cX6_pull 64 = .ok (.aload_n 0, 1) := by decide +kernel
theorem dX6_pull_65 : decode cX6_pull 65 = .ok (.getfield 10, 3) := by decide +kernel
theorem dX6_pull_68 : decode cX6_pull 68 = .ok (.iload_n 2, 1) := by decide +kernel
theorem dX6_pull_69 : decode cX6_pull 69 = .ok (.iload_n 3, 1) := by decide +kernel
theorem dX6_pull_70 : decode cX6_pull 70 = .ok (.iconst 1, 1) := by decide +kernel
theorem dX6_pull_71 : decode cX6_pull 71 = .ok (.iadd, 1) := by decide +kernel
theorem dX6_pull_72 : decode cX6_pull 72 = .ok (.invokevirtual 83, 3) := by decide +kernel
theorem dX6_pull_75 : decode cX6_pull 75 = .ok (.ifCond .ne 6, 3) := by decide +kernel
theorem dX6_pull_78 : decode cX6_pull 78 = .ok (.bipush (-2), 2) := by decide +kernel
theorem dX6_pull_80 : decode cX6_pull 80 = .ok (.ireturn, 1) := by decide +kernel
theorem dX6_pull_81 : decode cX6_pull 81 = .ok (.aload_n 0, 1) := by decide +kernel
theorem dX6_pull_82 : decode cX6_pull 82 = .ok (.invokevirtual 52, 3) := by decide +kernel
theorem dX6_pull_85 : decode cX6_pull 85 = .ok (.aload_n 0, 1) := by decide +kernel
theorem dX6_pull_86 : decode cX6_pull 86 = .ok (.getfield 10, 3) := by decide +kernel
theorem dX6_pull_89 : decode cX6_pull 89 = .ok (.iload_n 3, 1) := by decide +kernel
theorem dX6_pull_90 : decode cX6_pull 90 = .ok (.invokevirtual 99, 3) := by decide +kernel
theorem dX6_pull_93 : decode cX6_pull 93 = .ok (.aload_n 0, 1) := by decide +kernel
theorem dX6_pull_94 : decode cX6_pull 94 = .ok (.getfield 10, 3) := by decide +kernel
theorem dX6_pull_97 : decode cX6_pull 97 = .ok (.iload_n 3, 1) := by decide +kernel
theorem dX6_pull_98 : decode cX6_pull 98 = .ok (.iconst 1, 1) := by decide +kernel
theorem dX6_pull_99 : decode cX6_pull 99 = .ok (.iadd, 1) := by decide +kernel
theorem dX6_pull_100 : decode cX6_pull 100 = .ok (.invokevirtual 87, 3) := by decide +kernel
theorem dX6_pull_103 : decode cX6_pull 103 = .ok (.aload_n 0, 1) := by decide +kernel
theorem dX6_pull_104 : decode cX6_pull 104 = .ok (.getfield 10, 3) := by decide +kernel
theorem dX6_pull_107 : decode cX6_pull 107 = .ok (.invokevirtual 62, 3) := by decide +kernel
theorem dX6_pull_110 : decode cX6_pull 110 = .ok (.ireturn, 1) := by decide +kernel
set_option maxRecDepth 20000 in
theorem ggX6_push_X1_hasLine : GoodIn wsX6_push wsX1_hasLine := goodIn_r _ [7, 8, 9, 10, 6, 11, 12, 13, 14, 15, 16, 17, 18, 19, 99, 100, 101, 102, 103, 104, 105] (by decide +kernel) (by decide +kernel)
set_option maxRecDepth 20000 in
theorem gX6_push_X1_hasLine : GoodIn wsX6_push (wsV RX6 93 RX1 yX1_hasLine wsX1_hasLine) := goodIn_app (goodIn_of _ (by decide +kernel)) ggX6_push_X1_hasLine
set_option maxRecDepth 20000 in
theorem ggX6_push_X1_firstOf : GoodIn wsX6_push wsX1_firstOf := goodIn_r _ [23, 12, 13, 14, 15, 16, 17, 18, 19, 99, 100, 101, 102, 103, 104, 105] (by decide +kernel) (by decide +kernel)
set_option maxRecDepth 20000 in
theorem gX6_push_X1_firstOf : GoodIn wsX6_push (wsV RX6 71 RX1 yX1_firstOf wsX1_firstOf) := goodIn_app (goodIn_of _ (by decide +kernel)) ggX6_push_X1_firstOf
set_option maxRecDepth 20000 in
theorem ggX6_push_X1_endOf : GoodIn wsX6_push wsX1_endOf := goodIn_r _ [27, 12, 13, 14, 15, 16, 17, 18, 19, 99, 100, 101, 102, 103, 104, 105] (by decide +kernel) (by decide +kernel)
set_option maxRecDepth 20000 in
theorem gX6_push_X1_endOf : GoodIn wsX6_push (wsV RX6 96 RX1 yX1_endOf wsX1_endOf) := goodIn_app (goodIn_of _ (by decide +kernel)) ggX6_push_X1_endOf
set_option maxRecDepth 20000 in
theorem ggX6_push_X1_isFrozen : GoodIn wsX6_push wsX1_isFrozen := goodIn_r _ [31, 32, 14, 15, 16, 17, 18, 19, 99, 100, 101, 102, 103, 104, 105] (by decide +kernel) (by decide +kernel)
set_option maxRecDepth 20000 in
theorem gX6_push_X1_isFrozen : GoodIn wsX6_push (wsV RX6 79 RX1 yX1_isFrozen wsX1_isFrozen) := goodIn_app (goodIn_of _ (by decide +kernel)) ggX6_push_X1_isFrozen
set_option maxRecDepth 20000 in
theorem ggX6_push_X1_fits : GoodIn wsX6_push wsX1_fits := goodIn_r _ [36, 37, 38, 39, 6, 40, 41, 42, 14, 15, 16, 17, 18, 19, 99, 100, 101, 102, 103, 104, 105] (by decide +kernel) (by decide +kernel)
set_option maxRecDepth 20000 in
theorem gX6_push_X1_fits : GoodIn wsX6_push (wsV RX6 83 RX1 yX1_fits wsX1_fits) := goodIn_app (goodIn_of _ (by decide +kernel)) ggX6_push_X1_fits
set_option maxRecDepth 20000 in
theorem ggX6_push_X6_beginChange : GoodIn wsX6_push wsX6_beginChange := goodIn_r _ [47, 48, 1, 49, 50, 51, 52, 53, 54, 55, 56, 57, 58, 59, 60, 61, 62, 63, 64, 65, 66, 67, 6, 68, 41, 69, 12, 42, 13, 32, 70, 71, 72, 17, 73, 19, 74, 15, 16, 18, 75, 76, 77, 78, 79, 80, 94, 95, 96, 97, 98, 106, 107, 99, 100, 101, 102, 103, 104, 105, 108, 109, 110, 111, 112, 113, 114, 115, 116, 117] (by decide +kernel) (by decide +kernel)
set_option maxRecDepth 20000 in
theorem gX6_push_X6_beginChange : GoodIn wsX6_push (wsV RX6 52 RX6 yX6_beginChange wsX6_beginChange) := goodIn_app (goodIn_of _ (by decide +kernel)) ggX6_push_X6_beginChange
set_option maxRecDepth 20000 in
theorem ggX6_push_X1_begin : GoodIn wsX6_push wsX1_begin := goodIn_r _ [84, 12, 13, 85, 86, 87, 17, 88, 19, 99, 100, 101, 102, 103, 104, 105] (by decide +kernel) (by decide +kernel)
set_option maxRecDepth 20000 in
theorem gX6_push_X1_begin : GoodIn wsX6_push (wsV RX6 87 RX1 yX1_begin wsX1_begin) := goodIn_app (goodIn_of _ (by decide +kernel)) ggX6_push_X1_begin
set_option maxRecDepth 20000 in
theorem ggX6_push_X1_join : GoodIn wsX6_push wsX1_join := goodIn_r _ [92, 13, 85, 86, 87, 17, 88, 19, 99, 100, 101, 102, 103, 104, 105] (by decide +kernel) (by decide +kernel)
set_option maxRecDepth 20000 in
theorem gX6_push_X1_join : GoodIn wsX6_push (wsV RX6 99 RX1 yX1_join wsX1_join) := goodIn_app (goodIn_of _ (by decide +kernel)) ggX6_push_X1_join
set_option maxRecDepth 20000 in
theorem ggX6_push_X1_lines : GoodIn wsX6_push wsX1_lines := goodIn_r _ [11, 12, 13, 14, 15, 16, 17, 18, 19, 99, 100, 101, 102, 103, 104, 105] (by decide +kernel) (by decide +kernel)
set_option maxRecDepth 20000 in
theorem gX6_push_X1_lines : GoodIn wsX6_push (wsV RX6 62 RX1 yX1_lines wsX1_lines) := goodIn_app (goodIn_of _ (by decide +kernel)) ggX6_push_X1_lines
theorem dX6_push_0 : decode cX6_push 0 = .ok (.aload_n 0, 1) := by decide +kernel
theorem dX6_push_1 : decode cX6_push 1 = .ok (.getfield 10, 3) := by decide +kernel
theorem dX6_push_4 : decode cX6_push 4 = .ok (.iload_n 1, 1) := by decide +kernel
theorem dX6_push_5 : decode cX6_push 5 = .ok (.invokevirtual 93, 3) := by decide +kernel
theorem dX6_push_8 : decode cX6_push 8 = .ok (.ifCond .ne 5, 3) := by decide +kernel
theorem dX6_push_11 : decode cX6_push 11 = .ok (.iconst (-1), 1) := by decide +kernel
theorem dX6_push_12 : decode cX6_push 12 = .ok (.ireturn, 1) := by decide +kernel
theorem dX6_push_13 : decode cX6_push 13 = .ok (.aload_n 0, 1) := by decide +kernel
theorem dX6_push_14 : decode cX6_push 14 = .ok (.getfield 10, 3) := by decide +kernel
theorem dX6_push_17 : decode cX6_push 17 = .ok (.iload_n 1, 1) := by decide +kernel
theorem dX6_push_18 : decode cX6_push 18 = .ok (.invokevirtual 71, 3) := by decide +kernel
theorem dX6_push_21 : decode cX6_push 21 = .ok (.istore_n 2, 1) := by decide +kernel
theorem dX6_push_22 : decode cX6_push 22 = .ok (.aload_n 0, 1) := by decide +kernel
theorem dX6_push_23 : decode cX6_push 23 = .ok (.getfield 10, 3) := by decide +kernel
theorem dX6_push_26 : decode cX6_push 26 = .ok (.iload_n 2, 1) := by decide +kernel
theorem dX6_push_27 : decode cX6_push 27 = .ok (.invokevirtual 96, 3) := by decide +kernel
theorem dX6_push_30 : decode cX6_push 30 = .ok (.istore_n 3, 1) := by decide +kernel
theorem dX6_push_31 : decode cX6_push 31 = .ok (.iload_n 3, 1) := by decide +kernel
theorem dX6_push_32 : decode cX6_push 32 = .ok (.iconst 1, 1) := by decide +kernel
theorem dX6_push_33 : decode cX6_push 33 = .ok (.isub, 1) := by decide +kernel
theorem dX6_push_34 : decode cX6_push 34 = .ok (.istore 4, 2) := by decide +kernel
theorem dX6_push_36 : decode cX6_push 36 = .ok (.iload_n 3, 1) := by decide +kernel
theorem dX6_push_37 : decode cX6_push 37 = .ok (.aload_n 0, 1) := by decide +kernel
theorem dX6_push_38 : decode cX6_push 38 = .ok (.getfield 10, 3) := by decide +kernel
theorem dX6_push_41 : decode cX6_push 41 = .ok (.getfield 68, 3) := by decide +kernel
theorem dX6_push_44 : decode cX6_push 44 = .ok (.if_icmp .lt 7, 3) := by decide +kernel
theorem dX6_push_47 : decode cX6_push 47 = .ok (.iconst 1, 1) := by decide +kernel
theorem dX6_push_48 : decode cX6_push 48 = .ok (.goto 4, 3) := by decide +kernel
theorem dX6_push_51 : decode cX6_push 51 = .ok (.iconst 0, 1) := by decide +kernel
theorem dX6_push_52 : decode cX6_push 52 = .ok (.istore 5, 2) := by decide +kernel
theorem dX6_push_54 : decode cX6_push 54 = .ok (.iload 4, 2) := by decide +kernel
theorem dX6_push_56 : decode cX6_push 56 = .ok (.iload_n 2, 1) := by decide +kernel
theorem dX6_push_57 : decode cX6_push 57 = .ok (.if_icmp .eq 50, 3) := by decide +kernel
theorem dX6_push_60 : decode cX6_push 60 = .ok (.aload_n 0, 1) := by decide +kernel
theorem dX6_push_61 : decode cX6_push 61 = .ok (.getfield 10, 3) := by decide +kernel
theorem dX6_push_64 : decode cX6_push 64 = .ok (.iload_n 2, 1) := by decide +kernel
theorem dX6_push_65 : decode cX6_push 65 = .ok (.invokevirtual 79, 3) := by decide +kernel
theorem dX6_push_68 : decode cX6_push 68 = .ok (.ifCond .ne 39, 3) := by decide +kernel
theorem dX6_push_71 : decode cX6_push 71 = .ok (.iload 5, 2) := by decide +kernel
theorem dX6_push_73 : decode cX6_push 73 = .ok (.ifCond .ne 37, 3) := by decide +kernel
theorem dX6_push_76 : decode cX6_push 76 = .ok (.aload_n 0, 1) := by decide +kernel
theorem dX6_push_77 : decode cX6_push 77 = .ok (.getfield 10, 3) := by decide +kernel
theorem dX6_push_80 : decode cX6_push 80 = .ok (.iload_n 3, 1) := by decide +kernel
theorem dX6_push_81 : decode cX6_push 81 = .ok (.invokevirtual 79, 3) := by decide +kernel
theorem dX6_push_84 : decode cX6_push 84 = .ok (.ifCond .ne 23, 3) := by decide +kernel
theorem dX6_push_87 : decode cX6_push 87 = .ok (.aload_n 0, 1) := by decide +kernel
theorem dX6_push_88 : decode cX6_push 88 = .ok (.getfield 10, 3) := by decide +kernel
theorem dX6_push_91 : decode cX6_push 91 = .ok (.iload 4, 2) := by decide +kernel
theorem dX6_push_93 : decode cX6_push 93 = .ok (.aload_n 0, 1) := by decide +kernel
theorem dX6_push_94 : decode cX6_push 94 = .ok (.getfield 10, 3) := by decide +kernel
theorem dX6_push_97 : decode cX6_push 97 = .ok (.iload_n 3, 1) := by decide +kernel
theorem dX6_push_98 : decode cX6_push 98 = .ok (.invokevirtual 96, 3) := by decide +kernel
theorem dX6_push_101 : decode cX6_push 101 = .ok (.invokevirtual 83, 3) := by decide +kernel
theorem dX6_push_104 : decode cX6_push 104 = .ok (.ifCond .ne 6, 3) := by decide +kernel
theorem dX6_push_107 : decode cX6_push 107 = .ok (.bipush (-2), 2) := by decide +kernel
theorem dX6_push_109 : decode cX6_push 109 = .ok (.ireturn, 1) := by decide +kernel
theorem dX6_push_110 : decode cX6_push 110 = .ok (.aload_n 0, 1) := by decide +kernel
theorem dX6_push_111 : decode cX6_push 111 = .ok (.invokevirtual 52, 3) := by decide +kernel
theorem dX6_push_114 : decode cX6_push 114 = .ok (.aload_n 0, 1) := by decide +kernel
theorem dX6_push_115 : decode cX6_push 115 = .ok (.getfield 10, 3) := by decide +kernel
theorem dX6_push_118 : decode cX6_push 118 = .ok (.iload 4, 2) := by decide +kernel
theorem dX6_push_120 : decode cX6_push 120 = .ok (.invokevirtual 87, 3) := by decide +kernel
theorem dX6_push_123 : decode cX6_push 123 = .ok (.aload_n 0, 1) := by decide +kernel
theorem dX6_push_124 : decode cX6_push 124 = .ok (.getfield 10, 3) := by decide +kernel
theorem dX6_push_127 : decode cX6_push 127 = .ok (.iload_n 3, 1) := by decide +kernel
theorem dX6_push_128 : decode cX6_push 128 = .ok (.invokevirtual 99, 3) := by decide +kernel
theorem dX6_push_131 : decode cX6_push 131 = .ok (.aload_n 0, 1) := by decide +kernel
theorem dX6_push_132 : decode cX6_push 132 = .ok (.getfield 10, 3) := by decide +kernel
theorem dX6_push_135 : decode cX6_push 135 = .ok (.invokevirtual 62, 3) := by decide +kernel
theorem dX6_push_138 : decode cX6_push 138 = .ok (.ireturn, 1) := by decide +kernel
set_option maxRecDepth 20000 in
theorem ggX6_freeze_X1_hasLine : GoodIn wsX6_freeze wsX1_hasLine := goodIn_r _ [6, 7, 8, 9, 5, 10, 11, 12, 13, 14, 15, 16, 17, 18, 84, 85, 86, 87, 88, 89, 90] (by decide +kernel) (by decide +kernel)
set_option maxRecDepth 20000 in
theorem gX6_freeze_X1_hasLine : GoodIn wsX6_freeze (wsV RX6 93 RX1 yX1_hasLine wsX1_hasLine) := goodIn_app (goodIn_of _ (by decide +kernel)) ggX6_freeze_X1_hasLine
set_option maxRecDepth 20000 in
theorem ggX6_freeze_X6_isWithin : GoodIn wsX6_freeze wsX6_isWithin := goodIn_r _ [22] (by decide +kernel) (by decide +kernel)
set_option maxRecDepth 20000 in
theorem gX6_freeze_X6_isWithin : GoodIn wsX6_freeze (va_wsS RX6 44 yX6_isWithin wsX6_isWithin) := goodIn_app (goodIn_of _ (by decide +kernel)) ggX6_freeze_X6_isWithin
set_option maxRecDepth 20000 in
theorem ggX6_freeze_X6_beginChange : GoodIn wsX6_freeze wsX6_beginChange := goodIn_r _ [26, 27, 1, 28, 29, 30, 31, 32, 33, 34, 35, 36, 37, 38, 39, 40, 41, 42, 43, 44, 45, 46, 5, 47, 48, 49, 11, 50, 12, 51, 52, 53, 54, 16, 55, 18, 56, 14, 15, 17, 57, 58, 59, 60, 61, 62, 79, 80, 81, 82, 83, 91, 92, 84, 85, 86, 87, 88, 89, 90, 93, 94, 95, 96, 97, 98, 99, 100, 101, 102] (by decide +kernel) (by decide +kernel)
set_option maxRecDepth 20000 in
theorem gX6_freeze_X6_beginChange : GoodIn wsX6_freeze (wsV RX6 52 RX6 yX6_beginChange wsX6_beginChange) := goodIn_app (goodIn_of _ (by decide +kernel)) ggX6_freeze_X6_beginChange
set_option maxRecDepth 20000 in
theorem ggX6_freeze_X1_firstOf : GoodIn wsX6_freeze wsX1_firstOf := goodIn_r _ [66, 11, 12, 13, 14, 15, 16, 17, 18, 84, 85, 86, 87, 88, 89, 90] (by decide +kernel) (by decide +kernel)
set_option maxRecDepth 20000 in
theorem gX6_freeze_X1_firstOf : GoodIn wsX6_freeze (wsV RX6 71 RX1 yX1_firstOf wsX1_firstOf) := goodIn_app (goodIn_of _ (by decide +kernel)) ggX6_freeze_X1_firstOf
set_option maxRecDepth 20000 in
theorem ggX6_freeze_X1_isFrozen : GoodIn wsX6_freeze wsX1_isFrozen := goodIn_r _ [70, 51, 13, 14, 15, 16, 17, 18, 84, 85, 86, 87, 88, 89, 90] (by decide +kernel) (by decide +kernel)
set_option maxRecDepth 20000 in
theorem gX6_freeze_X1_isFrozen : GoodIn wsX6_freeze (wsV RX6 79 RX1 yX1_isFrozen wsX1_isFrozen) := goodIn_app (goodIn_of _ (by decide +kernel)) ggX6_freeze_X1_isFrozen
set_option maxRecDepth 20000 in
theorem ggX6_freeze_X1_setFrozen : GoodIn wsX6_freeze wsX1_setFrozen := goodIn_r _ [74, 51, 75, 76, 77, 16, 78, 18, 84, 85, 86, 87, 88, 89, 90] (by decide +kernel) (by decide +kernel)
set_option maxRecDepth 20000 in
theorem gX6_freeze_X1_setFrozen : GoodIn wsX6_freeze (wsV RX6 102 RX1 yX1_setFrozen wsX1_setFrozen) := goodIn_app (goodIn_of _ (by decide +kernel)) ggX6_freeze_X1_setFrozen
theorem dX6_freeze_0 : decode cX6_freeze 0 = .ok (.aload_n 0, 1) := by decide +kernel
theorem dX6_freeze_1 : decode cX6_freeze 1 = .ok (.getfield 10, 3) := by decide +kernel
theorem dX6_freeze_4 : decode cX6_freeze 4 = .ok (.iload_n 1, 1) := by decide +kernel
theorem dX6_freeze_5 : decode cX6_freeze 5 = .ok (.invokevirtual 93, 3) := by decide +kernel
theorem dX6_freeze_8 : decode cX6_freeze 8 = .ok (.ifCond .eq 12, 3) := by decide +kernel
theorem dX6_freeze_11 : decode cX6_freeze 11 = .ok (.iload_n 2, 1) := by decide +kernel
theorem dX6_freeze_12 : decode cX6_freeze 12 = .ok (.iconst 0, 1) := by decide +kernel
theorem dX6_freeze_13 : decode cX6_freeze 13 = .ok (.iconst 1, 1) := by decide +kernel
theorem dX6_freeze_14 : decode cX6_freeze 14 = .ok (.invokestatic 44, 3) := by decide +kernel
theorem dX6_freeze_17 : decode cX6_freeze 17 = .ok (.ifCond .ne 5, 3) := by decide +kernel
theorem dX6_freeze_20 : decode cX6_freeze 20 = .ok (.iconst (-1), 1) := by decide +kernel
theorem dX6_freeze_21 : decode cX6_freeze 21 = .ok (.ireturn, 1) := by decide +kernel
theorem dX6_freeze_22 : decode cX6_freeze 22 = .ok (.aload_n 0, 1) := by decide +kernel
theorem dX6_freeze_23 : decode cX6_freeze 23 = .ok (.invokevirtual 52, 3) := by decide +kernel
theorem dX6_freeze_26 : decode cX6_freeze 26 = .ok (.aload_n 0, 1) := by decide +kernel
theorem dX6_freeze_27 : decode cX6_freeze 27 = .ok (.getfield 10, 3) := by decide +kernel
theorem dX6_freeze_30 : decode cX6_freeze 30 = .ok (.iload_n 1, 1) := by decide +kernel
theorem dX6_freeze_31 : decode cX6_freeze 31 = .ok (.invokevirtual 71, 3) := by decide +kernel
theorem dX6_freeze_34 : decode cX6_freeze 34 = .ok (.istore_n 3, 1) := by decide +kernel
theorem dX6_freeze_35 : decode cX6_freeze 35 = .ok (.aload_n 0, 1) := by decide +kernel
theorem dX6_freeze_36 : decode cX6_freeze 36 = .ok (.getfield 10, 3) := by decide +kernel
theorem dX6_freeze_39 : decode cX6_freeze 39 = .ok (.iload_n 3, 1) := by decide +kernel
theorem dX6_freeze_40 : decode cX6_freeze 40 = .ok (.invokevirtual 79, 3) := by decide +kernel
theorem dX6_freeze_43 : decode cX6_freeze 43 = .ok (.ifCond .eq 7, 3) := by decide +kernel
theorem dX6_freeze_46 : decode cX6_freeze 46 = .ok (.iconst 1, 1) := by decide +kernel
theorem dX6_freeze_47 : decode cX6_freeze 47 = .ok (.goto 4, 3) := by decide +kernel
theorem dX6_freeze_50 : decode cX6_freeze 50 = .ok (.iconst 0, 1) := by decide +kernel
theorem dX6_freeze_51 : decode cX6_freeze 51 = .ok (.istore 4, 2) := by decide +kernel
theorem dX6_freeze_53 : decode cX6_freeze 53 = .ok (.aload_n 0, 1) := by decide +kernel
theorem dX6_freeze_54 : decode cX6_freeze 54 = .ok (.getfield 10, 3) := by decide +kernel
theorem dX6_freeze_57 : decode cX6_freeze 57 = .ok (.iload_n 3, 1) := by decide +kernel
theorem dX6_freeze_58 : decode cX6_freeze 58 = .ok (.iload_n 2, 1) := by decide +kernel
theorem dX6_freeze_59 : decode cX6_freeze 59 = .ok (.invokevirtual 102, 3) := by decide +kernel
theorem dX6_freeze_62 : decode cX6_freeze 62 = .ok (.iload 4, 2) := by decide +kernel
theorem dX6_freeze_64 : decode cX6_freeze 64 = .ok (.ireturn, 1) := by decide +kernel
set_option maxRecDepth 20000 in
theorem ggX6_reflow_X1_frozenLines : GoodIn wsX6_reflow wsX1_frozenLines := goodIn_r _ [6, 7, 8, 9, 10, 11, 12, 13, 14, 93, 94, 95, 96, 97, 98, 99] (by decide +kernel) (by decide +kernel)
set_option maxRecDepth 20000 in
theorem gX6_reflow_X1_frozenLines : GoodIn wsX6_reflow (wsV RX6 48 RX1 yX1_frozenLines wsX1_frozenLines) := goodIn_app (goodIn_of _ (by decide +kernel)) ggX6_reflow_X1_frozenLines
set_option maxRecDepth 20000 in
theorem ggX6_reflow_X6_beginChange : GoodIn wsX6_reflow wsX6_beginChange := goodIn_r _ [19, 20, 1, 21, 22, 23, 24, 25, 26, 27, 28, 29, 30, 31, 32, 33, 34, 35, 36, 37, 38, 39, 5, 40, 41, 42, 7, 43, 44, 8, 45, 46, 47, 12, 48, 14, 49, 10, 11, 13, 50, 51, 52, 53, 54, 55, 88, 89, 90, 91, 92, 100, 101, 93, 94, 95, 96, 97, 98, 99, 102, 103, 104, 105, 106, 107, 108, 109, 110, 111] (by decide +kernel) (by decide +kernel)
set_option maxRecDepth 20000 in
theorem gX6_reflow_X6_beginChange : GoodIn wsX6_reflow (wsV RX6 52 RX6 yX6_beginChange wsX6_beginChange) := goodIn_app (goodIn_of _ (by decide +kernel)) ggX6_reflow_X6_beginChange
set_option maxRecDepth 20000 in
theorem ggX6_reflow_X1_fill : GoodIn wsX6_reflow wsX1_fill := goodIn_r _ [59, 7, 60, 61, 62, 5, 63, 44, 64, 65, 66, 12, 67, 14, 68, 69, 70, 71, 72, 73, 74, 75, 41, 43, 9, 10, 11, 13, 76, 77, 78, 79, 80, 81, 82, 83, 93, 94, 95, 96, 97, 98, 99] (by decide +kernel) (by decide +kernel)
set_option maxRecDepth 20000 in
theorem gX6_reflow_X1_fill : GoodIn wsX6_reflow (wsV RX6 59 RX1 yX1_fill wsX1_fill) := goodIn_app (goodIn_of _ (by decide +kernel)) ggX6_reflow_X1_fill
set_option maxRecDepth 20000 in
theorem ggX6_reflow_X1_lines : GoodIn wsX6_reflow wsX1_lines := goodIn_r _ [87, 7, 44, 9, 10, 11, 12, 13, 14, 93, 94, 95, 96, 97, 98, 99] (by decide +kernel) (by decide +kernel)
set_option maxRecDepth 20000 in
theorem gX6_reflow_X1_lines : GoodIn wsX6_reflow (wsV RX6 62 RX1 yX1_lines wsX1_lines) := goodIn_app (goodIn_of _ (by decide +kernel)) ggX6_reflow_X1_lines
theorem dX6_reflow_0 : decode cX6_reflow 0 = .ok (.aload_n 0, 1) := by decide +kernel
theorem dX6_reflow_1 : decode cX6_reflow 1 = .ok (.getfield 10, 3) := by decide +kernel
theorem dX6_reflow_4 : decode cX6_reflow 4 = .ok (.invokevirtual 48, 3) := by decide +kernel
theorem dX6_reflow_7 : decode cX6_reflow 7 = .ok (.ifCond .le 6, 3) := by decide +kernel
theorem dX6_reflow_10 : decode cX6_reflow 10 = .ok (.bipush (-2), 2) := by decide +kernel
theorem dX6_reflow_12 : decode cX6_reflow 12 = .ok (.ireturn, 1) := by decide +kernel
theorem dX6_reflow_13 : decode cX6_reflow 13 = .ok (.aload_n 0, 1) := by decide +kernel
theorem dX6_reflow_14 : decode cX6_reflow 14 = .ok (.invokevirtual 52, 3) := by decide +kernel
theorem dX6_reflow_17 : decode cX6_reflow 17 = .ok (.aload_n 0, 1) := by decide +kernel
theorem dX6_reflow_18 : decode cX6_reflow 18 = .ok (.getfield 10, 3) := by decide +kernel
theorem dX6_reflow_21 : decode cX6_reflow 21 = .ok (.invokevirtual 59, 3) := by decide +kernel
theorem dX6_reflow_24 : decode cX6_reflow 24 = .ok (.aload_n 0, 1) := by decide +kernel
theorem dX6_reflow_25 : decode cX6_reflow 25 = .ok (.getfield 10, 3) := by decide +kernel
theorem dX6_reflow_28 : decode cX6_reflow 28 = .ok (.invokevirtual 62, 3) := by decide +kernel
theorem dX6_reflow_31 : decode cX6_reflow 31 = .ok (.ireturn, 1) := by decide +kernel
set_option maxRecDepth 20000 in
theorem ggX6_count_X4_layAll : GoodIn wsX6_count wsX4_layAll := goodIn_r _ [14, 15, 16, 17, 18, 19, 20, 21, 22, 23, 24, 25, 26, 27, 28, 29, 30, 31, 13, 32, 33, 34, 35, 36, 37, 38, 39, 40, 41, 42, 43, 44, 45, 46, 47, 48, 49, 50, 51, 52, 53, 54, 55, 56, 57, 58, 59, 60, 61, 62, 63, 64, 65, 66, 67, 68, 69, 70, 120, 121, 122, 123, 124, 125, 130, 131, 132, 133, 134] (by decide +kernel) (by decide +kernel)
set_option maxRecDepth 20000 in
theorem gX6_count_X4_layAll : GoodIn wsX6_count (wsV RX6 106 RX4 yX4_layAll wsX4_layAll) := goodIn_app (goodIn_of _ (by decide +kernel)) ggX6_count_X4_layAll
set_option maxRecDepth 20000 in
theorem ggX6_count_X1_lines : GoodIn wsX6_count wsX1_lines := goodIn_r _ [74, 21, 22, 23, 24, 25, 26, 27, 28, 120, 121, 122, 123, 124, 125, 130] (by decide +kernel) (by decide +kernel)
set_option maxRecDepth 20000 in
theorem gX6_count_X1_lines : GoodIn wsX6_count (wsV RX6 62 RX1 yX1_lines wsX1_lines) := goodIn_app (goodIn_of _ (by decide +kernel)) ggX6_count_X1_lines
set_option maxRecDepth 20000 in
theorem ggX6_count_X1_badnessOfAll : GoodIn wsX6_count wsX1_badnessOfAll := goodIn_r _ [78, 21, 22, 23, 24, 25, 26, 27, 28, 79, 17, 18, 19, 20, 80, 81, 82, 83, 84, 46, 47, 48, 49, 50, 120, 121, 122, 123, 124, 125, 130] (by decide +kernel) (by decide +kernel)
set_option maxRecDepth 20000 in
theorem gX6_count_X1_badnessOfAll : GoodIn wsX6_count (wsV RX6 110 RX1 yX1_badnessOfAll wsX1_badnessOfAll) := goodIn_app (goodIn_of _ (by decide +kernel)) ggX6_count_X1_badnessOfAll
set_option maxRecDepth 20000 in
theorem ggX6_count_X4_greatestReach : GoodIn wsX6_count wsX4_greatestReach := goodIn_r _ [88, 33, 34, 35, 36, 37, 70, 24, 25, 26, 27, 28, 131, 132, 133, 134, 130] (by decide +kernel) (by decide +kernel)
set_option maxRecDepth 20000 in
theorem gX6_count_X4_greatestReach : GoodIn wsX6_count (wsV RX6 113 RX4 yX4_greatestReach wsX4_greatestReach) := goodIn_app (goodIn_of _ (by decide +kernel)) ggX6_count_X4_greatestReach
set_option maxRecDepth 20000 in
theorem ggX6_count_X4_joints : GoodIn wsX6_count wsX4_joints := goodIn_r _ [92, 15, 93, 94, 95, 19, 96, 21, 22, 23, 24, 25, 26, 27, 28, 97, 98, 99, 100, 101, 102, 103, 13, 104, 63, 64, 65, 66, 43, 44, 34, 35, 36, 37, 67, 68, 69, 70, 120, 121, 122, 123, 124, 125, 130, 131, 132, 133, 134] (by decide +kernel) (by decide +kernel)
set_option maxRecDepth 20000 in
theorem gX6_count_X4_joints : GoodIn wsX6_count (wsV RX6 117 RX4 yX4_joints wsX4_joints) := goodIn_app (goodIn_of _ (by decide +kernel)) ggX6_count_X4_joints
set_option maxRecDepth 20000 in
theorem ggX6_count_X1_frozenLines : GoodIn wsX6_count wsX1_frozenLines := goodIn_r _ [108, 21, 109, 23, 24, 25, 26, 27, 28, 120, 121, 122, 123, 124, 125, 130] (by decide +kernel) (by decide +kernel)
set_option maxRecDepth 20000 in
theorem gX6_count_X1_frozenLines : GoodIn wsX6_count (wsV RX6 48 RX1 yX1_frozenLines wsX1_frozenLines) := goodIn_app (goodIn_of _ (by decide +kernel)) ggX6_count_X1_frozenLines
set_option maxRecDepth 20000 in
theorem ggX6_count_X4_gapsOfGreatestReach : GoodIn wsX6_count wsX4_gapsOfGreatestReach := goodIn_r _ [113, 33, 114, 86, 87, 13, 88, 34, 35, 36, 37, 70, 24, 25, 26, 27, 28, 131, 132, 133, 134, 130] (by decide +kernel) (by decide +kernel)
set_option maxRecDepth 20000 in
theorem gX6_count_X4_gapsOfGreatestReach : GoodIn wsX6_count (wsV RX6 127 RX4 yX4_gapsOfGreatestReach wsX4_gapsOfGreatestReach) := goodIn_app (goodIn_of _ (by decide +kernel)) ggX6_count_X4_gapsOfGreatestReach
theorem dX6_count_0 : decode cX6_count 0 = .ok (.aload_n 0, 1) := by decide +kernel
theorem dX6_count_1 : decode cX6_count 1 = .ok (.getfield 26, 3) := by decide +kernel
theorem dX6_count_4 : decode cX6_count 4 = .ok (.aload_n 0, 1) := by decide +kernel
theorem dX6_count_5 : decode cX6_count 5 = .ok (.getfield 10, 3) := by decide +kernel
theorem dX6_count_8 : decode cX6_count 8 = .ok (.invokevirtual 106, 3) := by decide +kernel
theorem dX6_count_11 : decode cX6_count 11 = .ok (.iload_n 1, 1) := by decide +kernel
theorem dX6_count_12 : decode cX6_count 12 = .ok (.tableswitch 187 0 11 #[64, 72, 80, 88, 96, 104, 120, 136, 148, 156, 164, 172], 64) := by decide +kernel
theorem dX6_count_76 : decode cX6_count 76 = .ok (.aload_n 0, 1) := by decide +kernel
theorem dX6_count_77 : decode cX6_count 77 = .ok (.getfield 10, 3) := by decide +kernel
theorem dX6_count_80 : decode cX6_count 80 = .ok (.getfield 68, 3) := by decide +kernel
theorem dX6_count_83 : decode cX6_count 83 = .ok (.ireturn, 1) := by decide +kernel
theorem dX6_count_84 : decode cX6_count 84 = .ok (.aload_n 0, 1) := by decide +kernel
theorem dX6_count_85 : decode cX6_count 85 = .ok (.getfield 10, 3) := by decide +kernel
theorem dX6_count_88 : decode cX6_count 88 = .ok (.invokevirtual 62, 3) := by decide +kernel
theorem dX6_count_91 : decode cX6_count 91 = .ok (.ireturn, 1) := by decide +kernel
theorem dX6_count_92 : decode cX6_count 92 = .ok (.aload_n 0, 1) := by decide +kernel
theorem dX6_count_93 : decode cX6_count 93 = .ok (.getfield 10, 3) := by decide +kernel
theorem dX6_count_96 : decode cX6_count 96 = .ok (.getfield 55, 3) := by decide +kernel
theorem dX6_count_99 : decode cX6_count 99 = .ok (.ireturn, 1) := by decide +kernel
theorem dX6_count_100 : decode cX6_count 100 = .ok (.aload_n 0, 1) := by decide +kernel
theorem dX6_count_101 : decode cX6_count 101 = .ok (.getfield 10, 3) := by decide +kernel
theorem dX6_count_104 : decode cX6_count 104 = .ok (.getfield 65, 3) := by decide +kernel
theorem dX6_count_107 : decode cX6_count 107 = .ok (.ireturn, 1) := by decide +kernel
theorem dX6_count_108 : decode cX6_count 108 = .ok (.aload_n 0, 1) := by decide +kernel
theorem dX6_count_109 : decode cX6_count 109 = .ok (.getfield 10, 3) := by decide +kernel
theorem dX6_count_112 : decode cX6_count 112 = .ok (.invokevirtual 110, 3) := by decide +kernel
theorem dX6_count_115 : decode cX6_count 115 = .ok (.ireturn, 1) := by decide +kernel
theorem dX6_count_116 : decode cX6_count 116 = .ok (.aload_n 0, 1) := by decide +kernel
theorem dX6_count_117 : decode cX6_count 117 = .ok (.getfield 26, 3) := by decide +kernel
theorem dX6_count_120 : decode cX6_count 120 = .ok (.iconst 0, 1) := by decide +kernel
theorem dX6_count_121 : decode cX6_count 121 = .ok (.aload_n 0, 1) := by decide +kernel
theorem dX6_count_122 : decode cX6_count 122 = .ok (.getfield 10, 3) := by decide +kernel
theorem dX6_count_125 : decode cX6_count 125 = .ok (.getfield 68, 3) := by decide +kernel
theorem dX6_count_128 : decode cX6_count 128 = .ok (.invokevirtual 113, 3) := by decide +kernel
theorem dX6_count_131 : decode cX6_count 131 = .ok (.ireturn, 1) := by decide +kernel
theorem dX6_count_132 : decode cX6_count 132 = .ok (.aload_n 0, 1) := by decide +kernel
theorem dX6_count_133 : decode cX6_count 133 = .ok (.getfield 10, 3) := by decide +kernel
theorem dX6_count_136 : decode cX6_count 136 = .ok (.getfield 68, 3) := by decide +kernel
theorem dX6_count_139 : decode cX6_count 139 = .ok (.aload_n 0, 1) := by decide +kernel
theorem dX6_count_140 : decode cX6_count 140 = .ok (.getfield 10, 3) := by decide +kernel
theorem dX6_count_143 : decode cX6_count 143 = .ok (.invokevirtual 62, 3) := by decide +kernel
theorem dX6_count_146 : decode cX6_count 146 = .ok (.isub, 1) := by decide +kernel
theorem dX6_count_147 : decode cX6_count 147 = .ok (.ireturn, 1) := by decide +kernel
theorem dX6_count_148 : decode cX6_count 148 = .ok (.aload_n 0, 1) := by decide +kernel
theorem dX6_count_149 : decode cX6_count 149 = .ok (.getfield 26, 3) := by decide +kernel
theorem dX6_count_152 : decode cX6_count 152 = .ok (.aload_n 0, 1) := by decide +kernel
theorem dX6_count_153 : decode cX6_count 153 = .ok (.getfield 10, 3) := by decide +kernel
theorem dX6_count_156 : decode cX6_count 156 = .ok (.invokevirtual 117, 3) := by decide +kernel
theorem dX6_count_159 : decode cX6_count 159 = .ok (.ireturn, 1) := by decide +kernel
theorem dX6_count_160 : decode cX6_count 160 = .ok (.aload_n 0, 1) := by decide +kernel
theorem dX6_count_161 : decode cX6_count 161 = .ok (.getfield 10, 3) := by decide +kernel
theorem dX6_count_164 : decode cX6_count 164 = .ok (.invokevirtual 48, 3) := by decide +kernel
theorem dX6_count_167 : decode cX6_count 167 = .ok (.ireturn, 1) := by decide +kernel
theorem dX6_count_168 : decode cX6_count 168 = .ok (.aload_n 0, 1) := by decide +kernel
theorem dX6_count_169 : decode cX6_count 169 = .ok (.getfield 19, 3) := by decide +kernel
theorem dX6_count_172 : decode cX6_count 172 = .ok (.getfield 121, 3) := by decide +kernel
theorem dX6_count_175 : decode cX6_count 175 = .ok (.ireturn, 1) := by decide +kernel
theorem dX6_count_176 : decode cX6_count 176 = .ok (.aload_n 0, 1) := by decide +kernel
theorem dX6_count_177 : decode cX6_count 177 = .ok (.getfield 40, 3) := by decide +kernel
theorem dX6_count_180 : decode cX6_count 180 = .ok (.getfield 124, 3) := by decide +kernel
theorem dX6_count_183 : decode cX6_count 183 = .ok (.ireturn, 1) := by decide +kernel
theorem dX6_count_184 : decode cX6_count 184 = .ok (.aload_n 0, 1) := by decide +kernel
theorem dX6_count_185 : decode cX6_count 185 = .ok (.getfield 26, 3) := by decide +kernel
theorem dX6_count_188 : decode cX6_count 188 = .ok (.aload_n 0, 1) := by decide +kernel
theorem dX6_count_189 : decode cX6_count 189 = .ok (.getfield 10, 3) := by decide +kernel
theorem dX6_count_192 : decode cX6_count 192 = .ok (.getfield 68, 3) := by decide +kernel
theorem dX6_count_195 : decode cX6_count 195 = .ok (.invokevirtual 127, 3) := by decide +kernel
theorem dX6_count_198 : decode cX6_count 198 = .ok (.ireturn, 1) := by decide +kernel
theorem dX6_count_199 : decode cX6_count 199 = .ok (.iconst (-1), 1) := by decide +kernel
theorem dX6_count_200 : decode cX6_count 200 = .ok (.ireturn, 1) := by decide +kernel
set_option maxRecDepth 20000 in
theorem ggX6_word_X6_isWithin : GoodIn wsX6_word wsX6_isWithin := goodIn_r _ [7] (by decide +kernel) (by decide +kernel)
set_option maxRecDepth 20000 in
theorem gX6_word_X6_isWithin : GoodIn wsX6_word (va_wsS RX6 44 yX6_isWithin wsX6_isWithin) := goodIn_app (goodIn_of _ (by decide +kernel)) ggX6_word_X6_isWithin
set_option maxRecDepth 20000 in
theorem ggX6_word_X4_layAll : GoodIn wsX6_word wsX4_layAll := goodIn_r _ [12, 13, 14, 15, 16, 17, 18, 19, 20, 21, 22, 23, 24, 25, 26, 27, 28, 29, 11, 30, 31, 32, 33, 34, 35, 36, 37, 38, 39, 40, 41, 42, 43, 44, 45, 46, 47, 48, 49, 50, 51, 52, 53, 54, 55, 56, 57, 58, 59, 60, 61, 62, 63, 64, 65, 66, 67, 68, 83, 84, 85, 86, 87, 88, 89, 90, 91, 92, 93] (by decide +kernel) (by decide +kernel)
set_option maxRecDepth 20000 in
theorem gX6_word_X4_layAll : GoodIn wsX6_word (wsV RX6 106 RX4 yX4_layAll wsX4_layAll) := goodIn_app (goodIn_of _ (by decide +kernel)) ggX6_word_X4_layAll
set_option maxRecDepth 20000 in
theorem ggX6_word_X1_lengthOf : GoodIn wsX6_word wsX1_lengthOf := goodIn_r _ [56, 48, 21, 22, 23, 24, 25, 26, 83, 84, 85, 86, 87, 88, 89] (by decide +kernel) (by decide +kernel)
set_option maxRecDepth 20000 in
theorem gX6_word_X1_lengthOf : GoodIn wsX6_word (wsV RX6 130 RX1 yX1_lengthOf wsX1_lengthOf) := goodIn_app (goodIn_of _ (by decide +kernel)) ggX6_word_X1_lengthOf
set_option maxRecDepth 20000 in
theorem ggX6_word_X1_lineOf : GoodIn wsX6_word wsX1_lineOf := goodIn_r _ [73, 19, 20, 21, 22, 23, 24, 25, 26, 83, 84, 85, 86, 87, 88, 89] (by decide +kernel) (by decide +kernel)
set_option maxRecDepth 20000 in
theorem gX6_word_X1_lineOf : GoodIn wsX6_word (wsV RX6 133 RX1 yX1_lineOf wsX1_lineOf) := goodIn_app (goodIn_of _ (by decide +kernel)) ggX6_word_X1_lineOf
set_option maxRecDepth 20000 in
theorem ggX6_word_X4_columnOf : GoodIn wsX6_word wsX4_columnOf := goodIn_r _ [77, 40, 68, 22, 23, 24, 25, 26, 90, 91, 92, 93, 89] (by decide +kernel) (by decide +kernel)
set_option maxRecDepth 20000 in
theorem gX6_word_X4_columnOf : GoodIn wsX6_word (wsV RX6 136 RX4 yX4_columnOf wsX4_columnOf) := goodIn_app (goodIn_of _ (by decide +kernel)) ggX6_word_X4_columnOf
theorem dX6_word_0 : decode cX6_word 0 = .ok (.iload_n 1, 1) := by decide +kernel
theorem dX6_word_1 : decode cX6_word 1 = .ok (.iconst 0, 1) := by decide +kernel
theorem dX6_word_2 : decode cX6_word 2 = .ok (.aload_n 0, 1) := by decide +kernel
theorem dX6_word_3 : decode cX6_word 3 = .ok (.getfield 10, 3) := by decide +kernel
theorem dX6_word_6 : decode cX6_word 6 = .ok (.getfield 68, 3) := by decide +kernel
theorem dX6_word_9 : decode cX6_word 9 = .ok (.iconst 1, 1) := by decide +kernel
theorem dX6_word_10 : decode cX6_word 10 = .ok (.isub, 1) := by decide +kernel
theorem dX6_word_11 : decode cX6_word 11 = .ok (.invokestatic 44, 3) := by decide +kernel
theorem dX6_word_14 : decode cX6_word 14 = .ok (.ifCond .ne 5, 3) := by decide +kernel
theorem dX6_word_17 : decode cX6_word 17 = .ok (.iconst (-1), 1) := by decide +kernel
theorem dX6_word_18 : decode cX6_word 18 = .ok (.ireturn, 1) := by decide +kernel
theorem dX6_word_19 : decode cX6_word 19 = .ok (.aload_n 0, 1) := by decide +kernel
theorem dX6_word_20 : decode cX6_word 20 = .ok (.getfield 26, 3) := by decide +kernel
theorem dX6_word_23 : decode cX6_word 23 = .ok (.aload_n 0, 1) := by decide +kernel
theorem dX6_word_24 : decode cX6_word 24 = .ok (.getfield 10, 3) := by decide +kernel
theorem dX6_word_27 : decode cX6_word 27 = .ok (.invokevirtual 106, 3) := by decide +kernel
theorem dX6_word_30 : decode cX6_word 30 = .ok (.iload_n 2, 1) := by decide +kernel
theorem dX6_word_31 : decode cX6_word 31 = .ok (.tableswitch 52 0 2 #[25, 34, 43], 25) := by decide +kernel
theorem dX6_word_56 : decode cX6_word 56 = .ok (.aload_n 0, 1) := by decide +kernel
theorem dX6_word_57 : decode cX6_word 57 = .ok (.getfield 10, 3) := by decide +kernel
theorem dX6_word_60 : decode cX6_word 60 = .ok (.iload_n 1, 1) := by decide +kernel
theorem dX6_word_61 : decode cX6_word 61 = .ok (.invokevirtual 130, 3) := by decide +kernel
theorem dX6_word_64 : decode cX6_word 64 = .ok (.ireturn, 1) := by decide +kernel
theorem dX6_word_65 : decode cX6_word 65 = .ok (.aload_n 0, 1) := by decide +kernel
theorem dX6_word_66 : decode cX6_word 66 = .ok (.getfield 10, 3) := by decide +kernel
theorem dX6_word_69 : decode cX6_word 69 = .ok (.iload_n 1, 1) := by decide +kernel
theorem dX6_word_70 : decode cX6_word 70 = .ok (.invokevirtual 133, 3) := by decide +kernel
theorem dX6_word_73 : decode cX6_word 73 = .ok (.ireturn, 1) := by decide +kernel
theorem dX6_word_74 : decode cX6_word 74 = .ok (.aload_n 0, 1) := by decide +kernel
theorem dX6_word_75 : decode cX6_word 75 = .ok (.getfield 26, 3) := by decide +kernel
theorem dX6_word_78 : decode cX6_word 78 = .ok (.iload_n 1, 1) := by decide +kernel
theorem dX6_word_79 : decode cX6_word 79 = .ok (.invokevirtual 136, 3) := by decide +kernel
theorem dX6_word_82 : decode cX6_word 82 = .ok (.ireturn, 1) := by decide +kernel
theorem dX6_word_83 : decode cX6_word 83 = .ok (.iconst (-1), 1) := by decide +kernel
theorem dX6_word_84 : decode cX6_word 84 = .ok (.ireturn, 1) := by decide +kernel
set_option maxRecDepth 20000 in
theorem ggX6_line_X1_hasLine : GoodIn wsX6_line wsX1_hasLine := goodIn_r _ [7, 8, 9, 10, 6, 11, 12, 13, 14, 15, 16, 17, 18, 19, 97, 98, 99, 100, 101, 102, 103] (by decide +kernel) (by decide +kernel)
set_option maxRecDepth 20000 in
theorem gX6_line_X1_hasLine : GoodIn wsX6_line (wsV RX6 93 RX1 yX1_hasLine wsX1_hasLine) := goodIn_app (goodIn_of _ (by decide +kernel)) ggX6_line_X1_hasLine
set_option maxRecDepth 20000 in
theorem ggX6_line_X1_firstOf : GoodIn wsX6_line wsX1_firstOf := goodIn_r _ [23, 12, 13, 14, 15, 16, 17, 18, 19, 97, 98, 99, 100, 101, 102, 103] (by decide +kernel) (by decide +kernel)
set_option maxRecDepth 20000 in
theorem gX6_line_X1_firstOf : GoodIn wsX6_line (wsV RX6 71 RX1 yX1_firstOf wsX1_firstOf) := goodIn_app (goodIn_of _ (by decide +kernel)) ggX6_line_X1_firstOf
set_option maxRecDepth 20000 in
theorem ggX6_line_X1_endOf : GoodIn wsX6_line wsX1_endOf := goodIn_r _ [27, 12, 13, 14, 15, 16, 17, 18, 19, 97, 98, 99, 100, 101, 102, 103] (by decide +kernel) (by decide +kernel)
set_option maxRecDepth 20000 in
theorem gX6_line_X1_endOf : GoodIn wsX6_line (wsV RX6 96 RX1 yX1_endOf wsX1_endOf) := goodIn_app (goodIn_of _ (by decide +kernel)) ggX6_line_X1_endOf
set_option maxRecDepth 20000 in
theorem ggX6_line_X4_layAll : GoodIn wsX6_line wsX4_layAll := goodIn_r _ [32, 33, 34, 25, 26, 6, 27, 12, 13, 14, 15, 16, 17, 18, 19, 35, 36, 37, 31, 38, 39, 40, 41, 42, 43, 44, 45, 46, 47, 48, 49, 50, 51, 52, 53, 54, 55, 56, 57, 58, 59, 60, 61, 62, 63, 64, 65, 66, 67, 68, 69, 70, 71, 72, 73, 74, 75, 76, 97, 98, 99, 100, 101, 102, 103, 104, 105, 106, 107] (by decide +kernel) (by decide +kernel)
set_option maxRecDepth 20000 in
theorem gX6_line_X4_layAll : GoodIn wsX6_line (wsV RX6 106 RX4 yX4_layAll wsX4_layAll) := goodIn_app (goodIn_of _ (by decide +kernel)) ggX6_line_X4_layAll
set_option maxRecDepth 20000 in
theorem ggX6_line_X1_extra : GoodIn wsX6_line wsX1_extra := goodIn_r _ [54, 55, 56, 14, 15, 16, 17, 18, 19, 97, 98, 99, 100, 101, 102, 103] (by decide +kernel) (by decide +kernel)
set_option maxRecDepth 20000 in
theorem gX6_line_X1_extra : GoodIn wsX6_line (wsV RX6 139 RX1 yX1_extra wsX1_extra) := goodIn_app (goodIn_of _ (by decide +kernel)) ggX6_line_X1_extra
set_option maxRecDepth 20000 in
theorem ggX6_line_X1_badness : GoodIn wsX6_line wsX1_badness := goodIn_r _ [81, 12, 82, 52, 53, 6, 54, 55, 56, 14, 15, 16, 17, 18, 19, 97, 98, 99, 100, 101, 102, 103] (by decide +kernel) (by decide +kernel)
set_option maxRecDepth 20000 in
theorem gX6_line_X1_badness : GoodIn wsX6_line (wsV RX6 142 RX1 yX1_badness wsX1_badness) := goodIn_app (goodIn_of _ (by decide +kernel)) ggX6_line_X1_badness
set_option maxRecDepth 20000 in
theorem ggX6_line_X1_isFrozen : GoodIn wsX6_line wsX1_isFrozen := goodIn_r _ [86, 87, 14, 15, 16, 17, 18, 19, 97, 98, 99, 100, 101, 102, 103] (by decide +kernel) (by decide +kernel)
set_option maxRecDepth 20000 in
theorem gX6_line_X1_isFrozen : GoodIn wsX6_line (wsV RX6 79 RX1 yX1_isFrozen wsX1_isFrozen) := goodIn_app (goodIn_of _ (by decide +kernel)) ggX6_line_X1_isFrozen
set_option maxRecDepth 20000 in
theorem ggX6_line_X4_greatestReach : GoodIn wsX6_line wsX4_greatestReach := goodIn_r _ [91, 39, 40, 41, 42, 43, 76, 15, 16, 17, 18, 19, 104, 105, 106, 107, 103] (by decide +kernel) (by decide +kernel)
set_option maxRecDepth 20000 in
theorem gX6_line_X4_greatestReach : GoodIn wsX6_line (wsV RX6 113 RX4 yX4_greatestReach wsX4_greatestReach) := goodIn_app (goodIn_of _ (by decide +kernel)) ggX6_line_X4_greatestReach
theorem dX6_line_0 : decode cX6_line 0 = .ok (.aload_n 0, 1) := by decide +kernel
theorem dX6_line_1 : decode cX6_line 1 = .ok (.getfield 10, 3) := by decide +kernel
theorem dX6_line_4 : decode cX6_line 4 = .ok (.iload_n 1, 1) := by decide +kernel
theorem dX6_line_5 : decode cX6_line 5 = .ok (.invokevirtual 93, 3) := by decide +kernel
theorem dX6_line_8 : decode cX6_line 8 = .ok (.ifCond .ne 5, 3) := by decide +kernel
theorem dX6_line_11 : decode cX6_line 11 = .ok (.iconst (-1), 1) := by decide +kernel
theorem dX6_line_12 : decode cX6_line 12 = .ok (.ireturn, 1) := by decide +kernel
theorem dX6_line_13 : decode cX6_line 13 = .ok (.aload_n 0, 1) := by decide +kernel
theorem dX6_line_14 : decode cX6_line 14 = .ok (.getfield 10, 3) := by decide +kernel
theorem dX6_line_17 : decode cX6_line 17 = .ok (.iload_n 1, 1) := by decide +kernel
theorem dX6_line_18 : decode cX6_line 18 = .ok (.invokevirtual 71, 3) := by decide +kernel
theorem dX6_line_21 : decode cX6_line 21 = .ok (.istore_n 3, 1) := by decide +kernel
theorem dX6_line_22 : decode cX6_line 22 = .ok (.aload_n 0, 1) := by decide +kernel
theorem dX6_line_23 : decode cX6_line 23 = .ok (.getfield 10, 3) := by decide +kernel
theorem dX6_line_26 : decode cX6_line 26 = .ok (.iload_n 3, 1) := by decide +kernel
theorem dX6_line_27 : decode cX6_line 27 = .ok (.invokevirtual 96, 3) := by decide +kernel
theorem dX6_line_30 : decode cX6_line 30 = .ok (.istore 4, 2) := by decide +kernel
theorem dX6_line_32 : decode cX6_line 32 = .ok (.aload_n 0, 1) := by decide +kernel
theorem dX6_line_33 : decode cX6_line 33 = .ok (.getfield 26, 3) := by decide +kernel
theorem dX6_line_36 : decode cX6_line 36 = .ok (.aload_n 0, 1) := by decide +kernel
theorem dX6_line_37 : decode cX6_line 37 = .ok (.getfield 10, 3) := by decide +kernel
theorem dX6_line_40 : decode cX6_line 40 = .ok (.invokevirtual 106, 3) := by decide +kernel
theorem dX6_line_43 : decode cX6_line 43 = .ok (.iload_n 2, 1) := by decide +kernel
theorem dX6_line_44 : decode cX6_line 44 = .ok (.tableswitch 108 0 6 #[44, 46, 51, 62, 73, 80, 97], 44) := by decide +kernel
theorem dX6_line_88 : decode cX6_line 88 = .ok (.iload_n 3, 1) := by decide +kernel
theorem dX6_line_89 : decode cX6_line 89 = .ok (.ireturn, 1) := by decide +kernel
theorem dX6_line_90 : decode cX6_line 90 = .ok (.iload 4, 2) := by decide +kernel
theorem dX6_line_92 : decode cX6_line 92 = .ok (.iload_n 3, 1) := by decide +kernel
theorem dX6_line_93 : decode cX6_line 93 = .ok (.isub, 1) := by decide +kernel
theorem dX6_line_94 : decode cX6_line 94 = .ok (.ireturn, 1) := by decide +kernel
theorem dX6_line_95 : decode cX6_line 95 = .ok (.aload_n 0, 1) := by decide +kernel
theorem dX6_line_96 : decode cX6_line 96 = .ok (.getfield 10, 3) := by decide +kernel
theorem dX6_line_99 : decode cX6_line 99 = .ok (.iload_n 3, 1) := by decide +kernel
theorem dX6_line_100 : decode cX6_line 100 = .ok (.iload 4, 2) := by decide +kernel
theorem dX6_line_102 : decode cX6_line 102 = .ok (.invokevirtual 139, 3) := by decide +kernel
theorem dX6_line_105 : decode cX6_line 105 = .ok (.ireturn, 1) := by decide +kernel
theorem dX6_line_106 : decode cX6_line 106 = .ok (.aload_n 0, 1) := by decide +kernel
theorem dX6_line_107 : decode cX6_line 107 = .ok (.getfield 10, 3) := by decide +kernel
theorem dX6_line_110 : decode cX6_line 110 = .ok (.iload_n 3, 1) := by decide +kernel
theorem dX6_line_111 : decode cX6_line 111 = .ok (.iload 4, 2) := by decide +kernel
theorem dX6_line_113 : decode cX6_line 113 = .ok (.invokevirtual 142, 3) := by decide +kernel
theorem dX6_line_116 : decode cX6_line 116 = .ok (.ireturn, 1) := by decide +kernel
theorem dX6_line_117 : decode cX6_line 117 = .ok (.iload 4, 2) := by decide +kernel
theorem dX6_line_119 : decode cX6_line 119 = .ok (.iload_n 3, 1) := by decide +kernel
theorem dX6_line_120 : decode cX6_line 120 = .ok (.isub, 1) := by decide +kernel
theorem dX6_line_121 : decode cX6_line 121 = .ok (.iconst 1, 1) := by decide +kernel
theorem dX6_line_122 : decode cX6_line 122 = .ok (.isub, 1) := by decide +kernel
theorem dX6_line_123 : decode cX6_line 123 = .ok (.ireturn, 1) := by decide +kernel
theorem dX6_line_124 : decode cX6_line 124 = .ok (.aload_n 0, 1) := by decide +kernel
theorem dX6_line_125 : decode cX6_line 125 = .ok (.getfield 10, 3) := by decide +kernel
theorem dX6_line_128 : decode cX6_line 128 = .ok (.iload_n 3, 1) := by decide +kernel
theorem dX6_line_129 : decode cX6_line 129 = .ok (.invokevirtual 79, 3) := by decide +kernel
theorem dX6_line_132 : decode cX6_line 132 = .ok (.ifCond .eq 7, 3) := by decide +kernel
