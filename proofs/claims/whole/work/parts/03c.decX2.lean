theorem dX2_init_0 : decode cX2_init 0 = .ok (.aload_n 0, 1) := by decide +kernel
theorem dX2_init_1 : decode cX2_init 1 = .ok (.invokespecial 3, 3) := by decide +kernel
theorem dX2_init_4 : decode cX2_init 4 = .ok (.aload_n 0, 1) := by decide +kernel
theorem dX2_init_5 : decode cX2_init 5 = .ok (.bipush 16, 2) := by decide +kernel
theorem dX2_init_7 : decode cX2_init 7 = .ok (.newarray .int, 2) := by decide +kernel
theorem dX2_init_9 : decode cX2_init 9 = .ok (.putfield 9, 3) := by decide +kernel
theorem dX2_init_12 : decode cX2_init 12 = .ok (.aload_n 0, 1) := by decide +kernel
theorem dX2_init_13 : decode cX2_init 13 = .ok (.iconst 0, 1) := by decide +kernel
theorem dX2_init_14 : decode cX2_init 14 = .ok (.putfield 15, 3) := by decide +kernel
theorem dX2_init_17 : decode cX2_init 17 = .ok (.aload_n 0, 1) := by decide +kernel
theorem dX2_init_18 : decode cX2_init 18 = .ok (.aload_n 1, 1) := by decide +kernel
theorem dX2_init_19 : decode cX2_init 19 = .ok (.putfield 19, 3) := by decide +kernel
theorem dX2_init_22 : decode cX2_init 22 = .ok (.aload_n 0, 1) := by decide +kernel
theorem dX2_init_23 : decode cX2_init 23 = .ok (.aload_n 2, 1) := by decide +kernel
theorem dX2_init_24 : decode cX2_init 24 = .ok (.putfield 23, 3) := by decide +kernel
theorem dX2_init_27 : decode cX2_init 27 = .ok (.return_, 1) := by decide +kernel
set_option maxRecDepth 20000 in
theorem ggX2_planFor_X11_fillRow : GoodIn wsX2_planFor wsX11_fillRow := goodIn_r _ [6] (by decide +kernel) (by decide +kernel)
set_option maxRecDepth 20000 in
theorem gX2_planFor_X11_fillRow_n27 : GoodIn wsX2_planFor (wsX11_fillRow) := ggX2_planFor_X11_fillRow
set_option maxRecDepth 20000 in
theorem ggX2_planFor_X7_latestOutside : GoodIn wsX2_planFor wsX7_latestOutside := goodIn_r _ [11, 12, 13, 14, 15, 10, 16, 17, 18, 19, 20, 21, 64, 65, 66, 67, 68, 69, 70, 71] (by decide +kernel) (by decide +kernel)
set_option maxRecDepth 20000 in
theorem gX2_planFor_X7_latestOutside : GoodIn wsX2_planFor (wsV RX2 31 RX7 yX7_latestOutside wsX7_latestOutside) := goodIn_app (goodIn_of _ (by decide +kernel)) ggX2_planFor_X7_latestOutside
set_option maxRecDepth 20000 in
theorem ggX2_planFor_X7_wishOf : GoodIn wsX2_planFor wsX7_wishOf := goodIn_r _ [25, 26, 13, 14, 15, 10, 16, 17, 64, 65, 66, 67, 68, 69, 70, 71] (by decide +kernel) (by decide +kernel)
set_option maxRecDepth 20000 in
theorem gX2_planFor_X7_wishOf : GoodIn wsX2_planFor (wsV RX2 37 RX7 yX7_wishOf wsX7_wishOf) := goodIn_app (goodIn_of _ (by decide +kernel)) ggX2_planFor_X7_wishOf
set_option maxRecDepth 20000 in
theorem ggX2_planFor_X2_dearestBehind : GoodIn wsX2_planFor wsX2_dearestBehind := goodIn_r _ [31, 2, 32, 33, 34, 30, 35, 3, 36, 37, 38, 39, 10, 40, 12, 13, 14, 15, 16, 17, 41, 19, 20, 21, 42, 43, 44, 45, 46, 47, 48, 49, 50, 51, 52, 53, 54, 55, 56, 57, 60, 61, 62, 63, 64, 65, 66, 67, 68, 69, 70, 71, 72, 73, 74, 75] (by decide +kernel) (by decide +kernel)
set_option maxRecDepth 20000 in
theorem gX2_planFor_X2_dearestBehind : GoodIn wsX2_planFor (wsV RX2 41 RX2 yX2_dearestBehind wsX2_dearestBehind) := goodIn_app (goodIn_of _ (by decide +kernel)) ggX2_planFor_X2_dearestBehind
set_option maxRecDepth 20000 in
theorem ggX2_planFor_X11_replace : GoodIn wsX2_planFor wsX11_replace := goodIn_r _ [59] (by decide +kernel) (by decide +kernel)
set_option maxRecDepth 20000 in
theorem gX2_planFor_X11_replace_n44 : GoodIn wsX2_planFor (wsX11_replace) := ggX2_planFor_X11_replace
theorem dX2_planFor_0 : decode cX2_planFor 0 = .ok (.aload_n 0, 1) := by decide +kernel
theorem dX2_planFor_1 : decode cX2_planFor 1 = .ok (.iload_n 1, 1) := by decide +kernel
theorem dX2_planFor_2 : decode cX2_planFor 2 = .ok (.putfield 15, 3) := by decide +kernel
theorem dX2_planFor_5 : decode cX2_planFor 5 = .ok (.aload_n 0, 1) := by decide +kernel
theorem dX2_planFor_6 : decode cX2_planFor 6 = .ok (.getfield 9, 3) := by decide +kernel
theorem dX2_planFor_9 : decode cX2_planFor 9 = .ok (.iconst 0, 1) := by decide +kernel
theorem dX2_planFor_10 : decode cX2_planFor 10 = .ok (.invokestatic 27, 3) := by decide +kernel
theorem dX2_planFor_13 : decode cX2_planFor 13 = .ok (.iconst 0, 1) := by decide +kernel
theorem dX2_planFor_14 : decode cX2_planFor 14 = .ok (.istore_n 2, 1) := by decide +kernel
theorem dX2_planFor_15 : decode cX2_planFor 15 = .ok (.iconst 0, 1) := by decide +kernel
theorem dX2_planFor_16 : decode cX2_planFor 16 = .ok (.istore_n 3, 1) := by decide +kernel
theorem dX2_planFor_17 : decode cX2_planFor 17 = .ok (.iload_n 3, 1) := by decide +kernel
theorem dX2_planFor_18 : decode cX2_planFor 18 = .ok (.bipush 16, 2) := by decide +kernel
theorem dX2_planFor_20 : decode cX2_planFor 20 = .ok (.if_icmp .ge 76, 3) := by decide +kernel
theorem dX2_planFor_23 : decode cX2_planFor 23 = .ok (.aload_n 0, 1) := by decide +kernel
theorem dX2_planFor_24 : decode cX2_planFor 24 = .ok (.getfield 23, 3) := by decide +kernel
theorem dX2_planFor_27 : decode cX2_planFor 27 = .ok (.iload_n 2, 1) := by decide +kernel
theorem dX2_planFor_28 : decode cX2_planFor 28 = .ok (.invokevirtual 31, 3) := by decide +kernel
theorem dX2_planFor_31 : decode cX2_planFor 31 = .ok (.istore 4, 2) := by decide +kernel
theorem dX2_planFor_33 : decode cX2_planFor 33 = .ok (.iload 4, 2) := by decide +kernel
theorem dX2_planFor_35 : decode cX2_planFor 35 = .ok (.iconst (-1), 1) := by decide +kernel
theorem dX2_planFor_36 : decode cX2_planFor 36 = .ok (.if_icmp .ne 4, 3) := by decide +kernel
theorem dX2_planFor_39 : decode cX2_planFor 39 = .ok (.return_, 1) := by decide +kernel
theorem dX2_planFor_40 : decode cX2_planFor 40 = .ok (.aload_n 0, 1) := by decide +kernel
theorem dX2_planFor_41 : decode cX2_planFor 41 = .ok (.getfield 23, 3) := by decide +kernel
theorem dX2_planFor_44 : decode cX2_planFor 44 = .ok (.aload_n 0, 1) := by decide +kernel
theorem dX2_planFor_45 : decode cX2_planFor 45 = .ok (.getfield 15, 3) := by decide +kernel
theorem dX2_planFor_48 : decode cX2_planFor 48 = .ok (.iload 4, 2) := by decide +kernel
theorem dX2_planFor_50 : decode cX2_planFor 50 = .ok (.invokevirtual 37, 3) := by decide +kernel
theorem dX2_planFor_53 : decode cX2_planFor 53 = .ok (.istore 5, 2) := by decide +kernel
theorem dX2_planFor_55 : decode cX2_planFor 55 = .ok (.aload_n 0, 1) := by decide +kernel
theorem dX2_planFor_56 : decode cX2_planFor 56 = .ok (.getfield 9, 3) := by decide +kernel
theorem dX2_planFor_59 : decode cX2_planFor 59 = .ok (.iload 4, 2) := by decide +kernel
theorem dX2_planFor_61 : decode cX2_planFor 61 = .ok (.iload 5, 2) := by decide +kernel
theorem dX2_planFor_63 : decode cX2_planFor 63 = .ok (.ifCond .ne 7, 3) := by decide +kernel
theorem dX2_planFor_66 : decode cX2_planFor 66 = .ok (.iconst 0, 1) := by decide +kernel
theorem dX2_planFor_67 : decode cX2_planFor 67 = .ok (.goto 12, 3) := by decide +kernel
theorem dX2_planFor_70 : decode cX2_planFor 70 = .ok (.iload 5, 2) := by decide +kernel
theorem dX2_planFor_72 : decode cX2_planFor 72 = .ok (.aload_n 0, 1) := by decide +kernel
theorem dX2_planFor_73 : decode cX2_planFor 73 = .ok (.iload 4, 2) := by decide +kernel
theorem dX2_planFor_75 : decode cX2_planFor 75 = .ok (.invokevirtual 41, 3) := by decide +kernel
theorem dX2_planFor_78 : decode cX2_planFor 78 = .ok (.iadd, 1) := by decide +kernel
theorem dX2_planFor_79 : decode cX2_planFor 79 = .ok (.invokestatic 44, 3) := by decide +kernel
theorem dX2_planFor_82 : decode cX2_planFor 82 = .ok (.pop, 1) := by decide +kernel
theorem dX2_planFor_83 : decode cX2_planFor 83 = .ok (.iload_n 2, 1) := by decide +kernel
theorem dX2_planFor_84 : decode cX2_planFor 84 = .ok (.iconst 1, 1) := by decide +kernel
theorem dX2_planFor_85 : decode cX2_planFor 85 = .ok (.iload 4, 2) := by decide +kernel
theorem dX2_planFor_87 : decode cX2_planFor 87 = .ok (.ishl, 1) := by decide +kernel
theorem dX2_planFor_88 : decode cX2_planFor 88 = .ok (.ior, 1) := by decide +kernel
theorem dX2_planFor_89 : decode cX2_planFor 89 = .ok (.istore_n 2, 1) := by decide +kernel
theorem dX2_planFor_90 : decode cX2_planFor 90 = .ok (.iinc 3 1, 3) := by decide +kernel
theorem dX2_planFor_93 : decode cX2_planFor 93 = .ok (.goto (-76), 3) := by decide +kernel
theorem dX2_planFor_96 : decode cX2_planFor 96 = .ok (.return_, 1) := by decide +kernel
set_option maxRecDepth 20000 in
theorem ggX2_isReached_X7_dayOf : GoodIn wsX2_isReached wsX7_dayOf := goodIn_r _ [7, 8, 9, 10, 11, 6, 12, 13, 38, 39, 40, 41, 42, 43, 44, 45] (by decide +kernel) (by decide +kernel)
set_option maxRecDepth 20000 in
theorem gX2_isReached_X7_dayOf : GoodIn wsX2_isReached (wsV RX2 48 RX7 yX7_dayOf wsX7_dayOf) := goodIn_app (goodIn_of _ (by decide +kernel)) ggX2_isReached_X7_dayOf
set_option maxRecDepth 20000 in
theorem ggX2_isReached_X7_beginOf : GoodIn wsX2_isReached wsX7_beginOf := goodIn_r _ [17, 8, 9, 10, 11, 6, 12, 13, 38, 39, 40, 41, 42, 43, 44, 45] (by decide +kernel) (by decide +kernel)
set_option maxRecDepth 20000 in
theorem gX2_isReached_X7_beginOf : GoodIn wsX2_isReached (wsV RX2 51 RX7 yX7_beginOf wsX7_beginOf) := goodIn_app (goodIn_of _ (by decide +kernel)) ggX2_isReached_X7_beginOf
set_option maxRecDepth 20000 in
theorem ggX2_isReached_X7_endOf : GoodIn wsX2_isReached wsX7_endOf := goodIn_r _ [21, 8, 22, 9, 10, 11, 6, 12, 13, 38, 39, 40, 41, 42, 43, 44, 45] (by decide +kernel) (by decide +kernel)
set_option maxRecDepth 20000 in
theorem gX2_isReached_X7_endOf : GoodIn wsX2_isReached (wsV RX2 54 RX7 yX7_endOf wsX7_endOf) := goodIn_app (goodIn_of _ (by decide +kernel)) ggX2_isReached_X7_endOf
set_option maxRecDepth 20000 in
theorem ggX2_isReached_X7_stageOf : GoodIn wsX2_isReached wsX7_stageOf := goodIn_r _ [26, 27, 9, 10, 11, 6, 12, 13, 38, 39, 40, 41, 42, 43, 44, 45] (by decide +kernel) (by decide +kernel)
set_option maxRecDepth 20000 in
theorem gX2_isReached_X7_stageOf : GoodIn wsX2_isReached (wsV RX2 57 RX7 yX7_stageOf wsX7_stageOf) := goodIn_app (goodIn_of _ (by decide +kernel)) ggX2_isReached_X7_stageOf
set_option maxRecDepth 20000 in
theorem ggX2_isReached_X4_minutesBetween : GoodIn wsX2_isReached wsX4_minutesBetween := goodIn_r _ [32, 33, 46, 47, 48, 49] (by decide +kernel) (by decide +kernel)
set_option maxRecDepth 20000 in
theorem gX2_isReached_X4_minutesBetween : GoodIn wsX2_isReached (wsV RX2 60 RX4 yX4_minutesBetween wsX4_minutesBetween) := goodIn_app (goodIn_of _ (by decide +kernel)) ggX2_isReached_X4_minutesBetween
theorem dX2_isReached_0 : decode cX2_isReached 0 = .ok (.aload_n 0, 1) := by decide +kernel
theorem dX2_isReached_1 : decode cX2_isReached 1 = .ok (.getfield 23, 3) := by decide +kernel
theorem dX2_isReached_4 : decode cX2_isReached 4 = .ok (.iload_n 1, 1) := by decide +kernel
theorem dX2_isReached_5 : decode cX2_isReached 5 = .ok (.invokevirtual 48, 3) := by decide +kernel
theorem dX2_isReached_8 : decode cX2_isReached 8 = .ok (.aload_n 0, 1) := by decide +kernel
theorem dX2_isReached_9 : decode cX2_isReached 9 = .ok (.getfield 23, 3) := by decide +kernel
theorem dX2_isReached_12 : decode cX2_isReached 12 = .ok (.iload_n 2, 1) := by decide +kernel
theorem dX2_isReached_13 : decode cX2_isReached 13 = .ok (.invokevirtual 48, 3) := by decide +kernel
theorem dX2_isReached_16 : decode cX2_isReached 16 = .ok (.if_icmp .ne 50, 3) := by decide +kernel
theorem dX2_isReached_19 : decode cX2_isReached 19 = .ok (.aload_n 0, 1) := by decide +kernel
theorem dX2_isReached_20 : decode cX2_isReached 20 = .ok (.getfield 23, 3) := by decide +kernel
theorem dX2_isReached_23 : decode cX2_isReached 23 = .ok (.iload_n 1, 1) := by decide +kernel
theorem dX2_isReached_24 : decode cX2_isReached 24 = .ok (.invokevirtual 51, 3) := by decide +kernel
theorem dX2_isReached_27 : decode cX2_isReached 27 = .ok (.aload_n 0, 1) := by decide +kernel
theorem dX2_isReached_28 : decode cX2_isReached 28 = .ok (.getfield 23, 3) := by decide +kernel
theorem dX2_isReached_31 : decode cX2_isReached 31 = .ok (.iload_n 2, 1) := by decide +kernel
theorem dX2_isReached_32 : decode cX2_isReached 32 = .ok (.invokevirtual 54, 3) := by decide +kernel
theorem dX2_isReached_35 : decode cX2_isReached 35 = .ok (.aload_n 0, 1) := by decide +kernel
theorem dX2_isReached_36 : decode cX2_isReached 36 = .ok (.getfield 19, 3) := by decide +kernel
theorem dX2_isReached_39 : decode cX2_isReached 39 = .ok (.aload_n 0, 1) := by decide +kernel
theorem dX2_isReached_40 : decode cX2_isReached 40 = .ok (.getfield 23, 3) := by decide +kernel
theorem dX2_isReached_43 : decode cX2_isReached 43 = .ok (.iload_n 2, 1) := by decide +kernel
theorem dX2_isReached_44 : decode cX2_isReached 44 = .ok (.invokevirtual 57, 3) := by decide +kernel
theorem dX2_isReached_47 : decode cX2_isReached 47 = .ok (.aload_n 0, 1) := by decide +kernel
theorem dX2_isReached_48 : decode cX2_isReached 48 = .ok (.getfield 23, 3) := by decide +kernel
theorem dX2_isReached_51 : decode cX2_isReached 51 = .ok (.iload_n 1, 1) := by decide +kernel
theorem dX2_isReached_52 : decode cX2_isReached 52 = .ok (.invokevirtual 57, 3) := by decide +kernel
theorem dX2_isReached_55 : decode cX2_isReached 55 = .ok (.invokevirtual 60, 3) := by decide +kernel
theorem dX2_isReached_58 : decode cX2_isReached 58 = .ok (.iadd, 1) := by decide +kernel
theorem dX2_isReached_59 : decode cX2_isReached 59 = .ok (.if_icmp .lt 7, 3) := by decide +kernel
theorem dX2_isReached_62 : decode cX2_isReached 62 = .ok (.iconst 1, 1) := by decide +kernel
theorem dX2_isReached_63 : decode cX2_isReached 63 = .ok (.goto 4, 3) := by decide +kernel
theorem dX2_isReached_66 : decode cX2_isReached 66 = .ok (.iconst 0, 1) := by decide +kernel
theorem dX2_isReached_67 : decode cX2_isReached 67 = .ok (.ireturn, 1) := by decide +kernel
set_option maxRecDepth 20000 in
theorem ggX2_dearestBehind_X2_isReached : GoodIn wsX2_dearestBehind wsX2_isReached := goodIn_r _ [6, 7, 8, 9, 10, 11, 12, 13, 14, 15, 16, 17, 18, 19, 20, 21, 22, 23, 24, 25, 26, 27, 28, 29, 30, 31, 32, 33, 34, 35, 36, 37, 38, 39, 40, 41, 42, 43, 44, 45, 46, 47, 48, 49, 50, 51, 52, 53, 54, 55] (by decide +kernel) (by decide +kernel)
set_option maxRecDepth 20000 in
theorem gX2_dearestBehind_X2_isReached : GoodIn wsX2_dearestBehind (wsV RX2 65 RX2 yX2_isReached wsX2_isReached) := goodIn_app (goodIn_of _ (by decide +kernel)) ggX2_dearestBehind_X2_isReached
theorem dX2_dearestBehind_0 : decode cX2_dearestBehind 0 = .ok (.iconst 0, 1) := by decide +kernel
theorem dX2_dearestBehind_1 : decode cX2_dearestBehind 1 = .ok (.istore_n 2, 1) := by decide +kernel
theorem dX2_dearestBehind_2 : decode cX2_dearestBehind 2 = .ok (.iconst 0, 1) := by decide +kernel
theorem dX2_dearestBehind_3 : decode cX2_dearestBehind 3 = .ok (.istore_n 3, 1) := by decide +kernel
theorem dX2_dearestBehind_4 : decode cX2_dearestBehind 4 = .ok (.iload_n 3, 1) := by decide +kernel
theorem dX2_dearestBehind_5 : decode cX2_dearestBehind 5 = .ok (.bipush 16, 2) := by decide +kernel
theorem dX2_dearestBehind_7 : decode cX2_dearestBehind 7 = .ok (.if_icmp .ge 35, 3) := by decide +kernel
theorem dX2_dearestBehind_10 : decode cX2_dearestBehind 10 = .ok (.aload_n 0, 1) := by decide +kernel
theorem dX2_dearestBehind_11 : decode cX2_dearestBehind 11 = .ok (.getfield 9, 3) := by decide +kernel
theorem dX2_dearestBehind_14 : decode cX2_dearestBehind 14 = .ok (.iload_n 3, 1) := by decide +kernel
theorem dX2_dearestBehind_15 : decode cX2_dearestBehind 15 = .ok (.iaload, 1) := by decide +kernel
theorem dX2_dearestBehind_16 : decode cX2_dearestBehind 16 = .ok (.iload_n 2, 1) := by decide +kernel
theorem dX2_dearestBehind_17 : decode cX2_dearestBehind 17 = .ok (.if_icmp .le 19, 3) := by decide +kernel
theorem dX2_dearestBehind_20 : decode cX2_dearestBehind 20 = .ok (.aload_n 0, 1) := by decide +kernel
theorem dX2_dearestBehind_21 : decode cX2_dearestBehind 21 = .ok (.iload_n 3, 1) := by decide +kernel
theorem dX2_dearestBehind_22 : decode cX2_dearestBehind 22 = .ok (.iload_n 1, 1) := by decide +kernel
theorem dX2_dearestBehind_23 : decode cX2_dearestBehind 23 = .ok (.invokevirtual 65, 3) := by decide +kernel
theorem dX2_dearestBehind_26 : decode cX2_dearestBehind 26 = .ok (.ifCond .eq 10, 3) := by decide +kernel
theorem dX2_dearestBehind_29 : decode cX2_dearestBehind 29 = .ok (.aload_n 0, 1) := by decide +kernel
theorem dX2_dearestBehind_30 : decode cX2_dearestBehind 30 = .ok (.getfield 9, 3) := by decide +kernel
theorem dX2_dearestBehind_33 : decode cX2_dearestBehind 33 = .ok (.iload_n 3, 1) := by decide +kernel
theorem dX2_dearestBehind_34 : decode cX2_dearestBehind 34 = .ok (.iaload, 1) := by decide +kernel
theorem dX2_dearestBehind_35 : decode cX2_dearestBehind 35 = .ok (.istore_n 2, 1) := by decide +kernel
theorem dX2_dearestBehind_36 : decode cX2_dearestBehind 36 = .ok (.iinc 3 1, 3) := by decide +kernel
theorem dX2_dearestBehind_39 : decode cX2_dearestBehind 39 = .ok (.goto (-35), 3) := by decide +kernel
theorem dX2_dearestBehind_42 : decode cX2_dearestBehind 42 = .ok (.iload_n 2, 1) := by decide +kernel
theorem dX2_dearestBehind_43 : decode cX2_dearestBehind 43 = .ok (.ireturn, 1) := by decide +kernel
theorem dX2_priceOf_0 : decode cX2_priceOf 0 = .ok (.iload_n 1, 1) := by decide +kernel
theorem dX2_priceOf_1 : decode cX2_priceOf 1 = .ok (.ifCond .lt 9, 3) := by decide +kernel
theorem dX2_priceOf_4 : decode cX2_priceOf 4 = .ok (.iload_n 1, 1) := by decide +kernel
theorem dX2_priceOf_5 : decode cX2_priceOf 5 = .ok (.bipush 16, 2) := by decide +kernel
theorem dX2_priceOf_7 : decode cX2_priceOf 7 = .ok (.if_icmp .lt 7, 3) := by decide +kernel
theorem dX2_priceOf_10 : decode cX2_priceOf 10 = .ok (.iconst 0, 1) := by decide +kernel
theorem dX2_priceOf_11 : decode cX2_priceOf 11 = .ok (.goto 9, 3) := by decide +kernel
theorem dX2_priceOf_14 : decode cX2_priceOf 14 = .ok (.aload_n 0, 1) := by decide +kernel
theorem dX2_priceOf_15 : decode cX2_priceOf 15 = .ok (.getfield 9, 3) := by decide +kernel
theorem dX2_priceOf_18 : decode cX2_priceOf 18 = .ok (.iload_n 1, 1) := by decide +kernel
theorem dX2_priceOf_19 : decode cX2_priceOf 19 = .ok (.iaload, 1) := by decide +kernel
theorem dX2_priceOf_20 : decode cX2_priceOf 20 = .ok (.ireturn, 1) := by decide +kernel
set_option maxRecDepth 20000 in
theorem ggX2_greatestPrice_X7_dayOf : GoodIn wsX2_greatestPrice wsX7_dayOf := goodIn_r _ [11, 12, 13, 14, 15, 10, 16, 17, 22, 23, 24, 25, 26, 27, 28, 29] (by decide +kernel) (by decide +kernel)
set_option maxRecDepth 20000 in
theorem gX2_greatestPrice_X7_dayOf : GoodIn wsX2_greatestPrice (wsV RX2 48 RX7 yX7_dayOf wsX7_dayOf) := goodIn_app (goodIn_of _ (by decide +kernel)) ggX2_greatestPrice_X7_dayOf
theorem dX2_greatestPrice_0 : decode cX2_greatestPrice 0 = .ok (.iconst 0, 1) := by decide +kernel
theorem dX2_greatestPrice_1 : decode cX2_greatestPrice 1 = .ok (.istore_n 2, 1) := by decide +kernel
theorem dX2_greatestPrice_2 : decode cX2_greatestPrice 2 = .ok (.iconst 0, 1) := by decide +kernel
theorem dX2_greatestPrice_3 : decode cX2_greatestPrice 3 = .ok (.istore_n 3, 1) := by decide +kernel
theorem dX2_greatestPrice_4 : decode cX2_greatestPrice 4 = .ok (.iload_n 3, 1) := by decide +kernel
theorem dX2_greatestPrice_5 : decode cX2_greatestPrice 5 = .ok (.bipush 16, 2) := by decide +kernel
theorem dX2_greatestPrice_7 : decode cX2_greatestPrice 7 = .ok (.if_icmp .ge 32, 3) := by decide +kernel
theorem dX2_greatestPrice_10 : decode cX2_greatestPrice 10 = .ok (.aload_n 0, 1) := by decide +kernel
theorem dX2_greatestPrice_11 : decode cX2_greatestPrice 11 = .ok (.getfield 23, 3) := by decide +kernel
theorem dX2_greatestPrice_14 : decode cX2_greatestPrice 14 = .ok (.iload_n 3, 1) := by decide +kernel
theorem dX2_greatestPrice_15 : decode cX2_greatestPrice 15 = .ok (.invokevirtual 48, 3) := by decide +kernel
theorem dX2_greatestPrice_18 : decode cX2_greatestPrice 18 = .ok (.iload_n 1, 1) := by decide +kernel
theorem dX2_greatestPrice_19 : decode cX2_greatestPrice 19 = .ok (.if_icmp .ne 14, 3) := by decide +kernel
theorem dX2_greatestPrice_22 : decode cX2_greatestPrice 22 = .ok (.iload_n 2, 1) := by decide +kernel
theorem dX2_greatestPrice_23 : decode cX2_greatestPrice 23 = .ok (.aload_n 0, 1) := by decide +kernel
theorem dX2_greatestPrice_24 : decode cX2_greatestPrice 24 = .ok (.getfield 9, 3) := by decide +kernel
theorem dX2_greatestPrice_27 : decode cX2_greatestPrice 27 = .ok (.iload_n 3, 1) := by decide +kernel
theorem dX2_greatestPrice_28 : decode cX2_greatestPrice 28 = .ok (.iaload, 1) := by decide +kernel
theorem dX2_greatestPrice_29 : decode cX2_greatestPrice 29 = .ok (.invokestatic 69, 3) := by decide +kernel
theorem dX2_greatestPrice_32 : decode cX2_greatestPrice 32 = .ok (.istore_n 2, 1) := by decide +kernel
theorem dX2_greatestPrice_33 : decode cX2_greatestPrice 33 = .ok (.iinc 3 1, 3) := by decide +kernel
theorem dX2_greatestPrice_36 : decode cX2_greatestPrice 36 = .ok (.goto (-32), 3) := by decide +kernel
theorem dX2_greatestPrice_39 : decode cX2_greatestPrice 39 = .ok (.iload_n 2, 1) := by decide +kernel
theorem dX2_greatestPrice_40 : decode cX2_greatestPrice 40 = .ok (.ireturn, 1) := by decide +kernel
set_option maxRecDepth 20000 in
theorem ggX2_firstOn_X2_greatestPrice : GoodIn wsX2_firstOn wsX2_greatestPrice := goodIn_r _ [7, 2, 1, 8, 9, 10, 11, 12, 13, 14, 15, 16, 17, 18, 19, 20, 21, 22, 23, 24, 25, 26, 27, 28, 29, 30, 31, 32, 33, 34] (by decide +kernel) (by decide +kernel)
set_option maxRecDepth 20000 in
theorem gX2_firstOn_X2_greatestPrice : GoodIn wsX2_firstOn (wsV RX2 74 RX2 yX2_greatestPrice wsX2_greatestPrice) := goodIn_app (goodIn_of _ (by decide +kernel)) ggX2_firstOn_X2_greatestPrice
set_option maxRecDepth 20000 in
theorem ggX2_firstOn_X7_dayOf : GoodIn wsX2_firstOn wsX7_dayOf := goodIn_r _ [16, 17, 18, 19, 20, 15, 21, 22, 27, 28, 29, 30, 31, 32, 33, 34] (by decide +kernel) (by decide +kernel)
set_option maxRecDepth 20000 in
theorem gX2_firstOn_X7_dayOf : GoodIn wsX2_firstOn (wsV RX2 48 RX7 yX7_dayOf wsX7_dayOf) := goodIn_app (goodIn_of _ (by decide +kernel)) ggX2_firstOn_X7_dayOf
theorem dX2_firstOn_0 : decode cX2_firstOn 0 = .ok (.aload_n 0, 1) := by decide +kernel
theorem dX2_firstOn_1 : decode cX2_firstOn 1 = .ok (.iload_n 1, 1) := by decide +kernel
theorem dX2_firstOn_2 : decode cX2_firstOn 2 = .ok (.invokevirtual 74, 3) := by decide +kernel
theorem dX2_firstOn_5 : decode cX2_firstOn 5 = .ok (.istore_n 2, 1) := by decide +kernel
theorem dX2_firstOn_6 : decode cX2_firstOn 6 = .ok (.iconst 0, 1) := by decide +kernel
theorem dX2_firstOn_7 : decode cX2_firstOn 7 = .ok (.istore_n 3, 1) := by decide +kernel
theorem dX2_firstOn_8 : decode cX2_firstOn 8 = .ok (.iload_n 3, 1) := by decide +kernel
theorem dX2_firstOn_9 : decode cX2_firstOn 9 = .ok (.bipush 16, 2) := by decide +kernel
theorem dX2_firstOn_11 : decode cX2_firstOn 11 = .ok (.if_icmp .ge 37, 3) := by decide +kernel
theorem dX2_firstOn_14 : decode cX2_firstOn 14 = .ok (.iload_n 2, 1) := by decide +kernel
theorem dX2_firstOn_15 : decode cX2_firstOn 15 = .ok (.ifCond .le 27, 3) := by decide +kernel
theorem dX2_firstOn_18 : decode cX2_firstOn 18 = .ok (.aload_n 0, 1) := by decide +kernel
theorem dX2_firstOn_19 : decode cX2_firstOn 19 = .ok (.getfield 9, 3) := by decide +kernel
theorem dX2_firstOn_22 : decode cX2_firstOn 22 = .ok (.iload_n 3, 1) := by decide +kernel
theorem dX2_firstOn_23 : decode cX2_firstOn 23 = .ok (.iaload, 1) := by decide +kernel
theorem dX2_firstOn_24 : decode cX2_firstOn 24 = .ok (.iload_n 2, 1) := by decide +kernel
theorem dX2_firstOn_25 : decode cX2_firstOn 25 = .ok (.if_icmp .ne 17, 3) := by decide +kernel
theorem dX2_firstOn_28 : decode cX2_firstOn 28 = .ok (.aload_n 0, 1) := by decide +kernel
theorem dX2_firstOn_29 : decode cX2_firstOn 29 = .ok (.getfield 23, 3) := by decide +kernel
theorem dX2_firstOn_32 : decode cX2_firstOn 32 = .ok (.iload_n 3, 1) := by decide +kernel
theorem dX2_firstOn_33 : decode cX2_firstOn 33 = .ok (.invokevirtual 48, 3) := by decide +kernel
theorem dX2_firstOn_36 : decode cX2_firstOn 36 = .ok (.iload_n 1, 1) := by decide +kernel
theorem dX2_firstOn_37 : decode cX2_firstOn 37 = .ok (.if_icmp .ne 5, 3) := by decide +kernel
theorem dX2_firstOn_40 : decode cX2_firstOn 40 = .ok (.iload_n 3, 1) := by decide +kernel
theorem dX2_firstOn_41 : decode cX2_firstOn 41 = .ok (.ireturn, 1) := by decide +kernel
theorem dX2_firstOn_42 : decode cX2_firstOn 42 = .ok (.iinc 3 1, 3) := by decide +kernel
theorem dX2_firstOn_45 : decode cX2_firstOn 45 = .ok (.goto (-37), 3) := by decide +kernel
theorem dX2_firstOn_48 : decode cX2_firstOn 48 = .ok (.iconst (-1), 1) := by decide +kernel
theorem dX2_firstOn_49 : decode cX2_firstOn 49 = .ok (.ireturn, 1) := by decide +kernel
set_option maxRecDepth 20000 in
theorem ggX2_nextBehind_X2_priceOf : GoodIn wsX2_nextBehind wsX2_priceOf := goodIn_r _ [8, 3, 50, 51, 52, 53] (by decide +kernel) (by decide +kernel)
set_option maxRecDepth 20000 in
theorem gX2_nextBehind_X2_priceOf : GoodIn wsX2_nextBehind (wsV RX2 77 RX2 yX2_priceOf wsX2_priceOf) := goodIn_app (goodIn_of _ (by decide +kernel)) ggX2_nextBehind_X2_priceOf
set_option maxRecDepth 20000 in
theorem ggX2_nextBehind_X7_wishOf : GoodIn wsX2_nextBehind wsX7_wishOf := goodIn_r _ [13, 14, 15, 16, 17, 12, 18, 19, 54, 55, 56, 57, 58, 59, 60, 61] (by decide +kernel) (by decide +kernel)
set_option maxRecDepth 20000 in
theorem gX2_nextBehind_X7_wishOf : GoodIn wsX2_nextBehind (wsV RX2 37 RX7 yX7_wishOf wsX7_wishOf) := goodIn_app (goodIn_of _ (by decide +kernel)) ggX2_nextBehind_X7_wishOf
set_option maxRecDepth 20000 in
theorem ggX2_nextBehind_X2_isReached : GoodIn wsX2_nextBehind wsX2_isReached := goodIn_r _ [23, 1, 24, 25, 26, 27, 12, 28, 29, 15, 16, 17, 18, 19, 30, 31, 32, 33, 34, 35, 36, 37, 38, 39, 40, 41, 42, 43, 44, 45, 46, 47, 48, 49, 50, 51, 52, 53, 54, 55, 56, 57, 58, 59, 60, 61, 62, 63, 64, 65] (by decide +kernel) (by decide +kernel)
set_option maxRecDepth 20000 in
theorem gX2_nextBehind_X2_isReached : GoodIn wsX2_nextBehind (wsV RX2 65 RX2 yX2_isReached wsX2_isReached) := goodIn_app (goodIn_of _ (by decide +kernel)) ggX2_nextBehind_X2_isReached
theorem dX2_nextBehind_0 : decode cX2_nextBehind 0 = .ok (.aload_n 0, 1) := by decide +kernel
theorem dX2_nextBehind_1 : decode cX2_nextBehind 1 = .ok (.iload_n 1, 1) := by decide +kernel
theorem dX2_nextBehind_2 : decode cX2_nextBehind 2 = .ok (.invokevirtual 77, 3) := by decide +kernel
theorem dX2_nextBehind_5 : decode cX2_nextBehind 5 = .ok (.aload_n 0, 1) := by decide +kernel
theorem dX2_nextBehind_6 : decode cX2_nextBehind 6 = .ok (.getfield 23, 3) := by decide +kernel
theorem dX2_nextBehind_9 : decode cX2_nextBehind 9 = .ok (.aload_n 0, 1) := by decide +kernel
theorem dX2_nextBehind_10 : decode cX2_nextBehind 10 = .ok (.getfield 15, 3) := by decide +kernel
theorem dX2_nextBehind_13 : decode cX2_nextBehind 13 = .ok (.iload_n 1, 1) := by decide +kernel
theorem dX2_nextBehind_14 : decode cX2_nextBehind 14 = .ok (.invokevirtual 37, 3) := by decide +kernel
theorem dX2_nextBehind_17 : decode cX2_nextBehind 17 = .ok (.isub, 1) := by decide +kernel
theorem dX2_nextBehind_18 : decode cX2_nextBehind 18 = .ok (.istore_n 2, 1) := by decide +kernel
theorem dX2_nextBehind_19 : decode cX2_nextBehind 19 = .ok (.iconst 0, 1) := by decide +kernel
theorem dX2_nextBehind_20 : decode cX2_nextBehind 20 = .ok (.istore_n 3, 1) := by decide +kernel
theorem dX2_nextBehind_21 : decode cX2_nextBehind 21 = .ok (.iload_n 3, 1) := by decide +kernel
theorem dX2_nextBehind_22 : decode cX2_nextBehind 22 = .ok (.bipush 16, 2) := by decide +kernel
theorem dX2_nextBehind_24 : decode cX2_nextBehind 24 = .ok (.if_icmp .ge 34, 3) := by decide +kernel
theorem dX2_nextBehind_27 : decode cX2_nextBehind 27 = .ok (.iload_n 2, 1) := by decide +kernel
theorem dX2_nextBehind_28 : decode cX2_nextBehind 28 = .ok (.ifCond .le 24, 3) := by decide +kernel
theorem dX2_nextBehind_31 : decode cX2_nextBehind 31 = .ok (.aload_n 0, 1) := by decide +kernel
theorem dX2_nextBehind_32 : decode cX2_nextBehind 32 = .ok (.getfield 9, 3) := by decide +kernel
theorem dX2_nextBehind_35 : decode cX2_nextBehind 35 = .ok (.iload_n 3, 1) := by decide +kernel
theorem dX2_nextBehind_36 : decode cX2_nextBehind 36 = .ok (.iaload, 1) := by decide +kernel
theorem dX2_nextBehind_37 : decode cX2_nextBehind 37 = .ok (.iload_n 2, 1) := by decide +kernel
theorem dX2_nextBehind_38 : decode cX2_nextBehind 38 = .ok (.if_icmp .ne 14, 3) := by decide +kernel
theorem dX2_nextBehind_41 : decode cX2_nextBehind 41 = .ok (.aload_n 0, 1) := by decide +kernel
theorem dX2_nextBehind_42 : decode cX2_nextBehind 42 = .ok (.iload_n 3, 1) := by decide +kernel
theorem dX2_nextBehind_43 : decode cX2_nextBehind 43 = .ok (.iload_n 1, 1) := by decide +kernel
theorem dX2_nextBehind_44 : decode cX2_nextBehind 44 = .ok (.invokevirtual 65, 3) := by decide +kernel
theorem dX2_nextBehind_47 : decode cX2_nextBehind 47 = .ok (.ifCond .eq 5, 3) := by decide +kernel
theorem dX2_nextBehind_50 : decode cX2_nextBehind 50 = .ok (.iload_n 3, 1) := by decide +kernel
theorem dX2_nextBehind_51 : decode cX2_nextBehind 51 = .ok (.ireturn, 1) := by decide +kernel
theorem dX2_nextBehind_52 : decode cX2_nextBehind 52 = .ok (.iinc 3 1, 3) := by decide +kernel
theorem dX2_nextBehind_55 : decode cX2_nextBehind 55 = .ok (.goto (-34), 3) := by decide +kernel
theorem dX2_nextBehind_58 : decode cX2_nextBehind 58 = .ok (.iconst (-1), 1) := by decide +kernel
theorem dX2_nextBehind_59 : decode cX2_nextBehind 59 = .ok (.ireturn, 1) := by decide +kernel
set_option maxRecDepth 20000 in
theorem ggX2_weightOn_X2_firstOn : GoodIn wsX2_weightOn wsX2_firstOn := goodIn_r _ [7, 8, 1, 9, 10, 11, 6, 12, 13, 14, 15, 16, 17, 18, 19, 20, 21, 22, 23, 24, 25, 26, 27, 66, 67, 68, 69, 70, 71, 72, 73, 74, 75, 76, 77] (by decide +kernel) (by decide +kernel)
set_option maxRecDepth 20000 in
theorem gX2_weightOn_X2_firstOn : GoodIn wsX2_weightOn (wsV RX2 80 RX2 yX2_firstOn wsX2_firstOn) := goodIn_app (goodIn_of _ (by decide +kernel)) ggX2_weightOn_X2_firstOn
set_option maxRecDepth 20000 in
theorem ggX2_weightOn_X7_wishOf : GoodIn wsX2_weightOn wsX7_wishOf := goodIn_r _ [31, 32, 23, 24, 25, 20, 26, 27, 70, 71, 72, 73, 74, 75, 76, 77] (by decide +kernel) (by decide +kernel)
set_option maxRecDepth 20000 in
theorem gX2_weightOn_X7_wishOf : GoodIn wsX2_weightOn (wsV RX2 37 RX7 yX7_wishOf wsX7_wishOf) := goodIn_app (goodIn_of _ (by decide +kernel)) ggX2_weightOn_X7_wishOf
set_option maxRecDepth 20000 in
theorem ggX2_weightOn_X2_nextBehind : GoodIn wsX2_weightOn wsX2_nextBehind := goodIn_r _ [36, 1, 2, 8, 37, 38, 39, 6, 40, 28, 29, 30, 20, 31, 32, 23, 24, 25, 26, 27, 41, 42, 43, 44, 45, 17, 18, 19, 21, 22, 46, 47, 48, 49, 50, 51, 52, 53, 54, 55, 56, 57, 58, 59, 60, 61, 62, 63, 64, 65, 66, 67, 68, 69, 70, 71, 72, 73, 74, 75, 76, 77, 78, 79, 80, 81] (by decide +kernel) (by decide +kernel)
set_option maxRecDepth 20000 in
theorem gX2_weightOn_X2_nextBehind : GoodIn wsX2_weightOn (wsV RX2 83 RX2 yX2_nextBehind wsX2_nextBehind) := goodIn_app (goodIn_of _ (by decide +kernel)) ggX2_weightOn_X2_nextBehind
theorem dX2_weightOn_0 : decode cX2_weightOn 0 = .ok (.iconst 0, 1) := by decide +kernel
theorem dX2_weightOn_1 : decode cX2_weightOn 1 = .ok (.istore_n 2, 1) := by decide +kernel
theorem dX2_weightOn_2 : decode cX2_weightOn 2 = .ok (.aload_n 0, 1) := by decide +kernel
theorem dX2_weightOn_3 : decode cX2_weightOn 3 = .ok (.iload_n 1, 1) := by decide +kernel
theorem dX2_weightOn_4 : decode cX2_weightOn 4 = .ok (.invokevirtual 80, 3) := by decide +kernel
theorem dX2_weightOn_7 : decode cX2_weightOn 7 = .ok (.istore_n 3, 1) := by decide +kernel
theorem dX2_weightOn_8 : decode cX2_weightOn 8 = .ok (.iconst 0, 1) := by decide +kernel
theorem dX2_weightOn_9 : decode cX2_weightOn 9 = .ok (.istore 4, 2) := by decide +kernel
theorem dX2_weightOn_11 : decode cX2_weightOn 11 = .ok (.iload 4, 2) := by decide +kernel
theorem dX2_weightOn_13 : decode cX2_weightOn 13 = .ok (.bipush 16, 2) := by decide +kernel
theorem dX2_weightOn_15 : decode cX2_weightOn 15 = .ok (.if_icmp .ge 35, 3) := by decide +kernel
theorem dX2_weightOn_18 : decode cX2_weightOn 18 = .ok (.iload_n 3, 1) := by decide +kernel
theorem dX2_weightOn_19 : decode cX2_weightOn 19 = .ok (.iconst (-1), 1) := by decide +kernel
theorem dX2_weightOn_20 : decode cX2_weightOn 20 = .ok (.if_icmp .eq 30, 3) := by decide +kernel
theorem dX2_weightOn_23 : decode cX2_weightOn 23 = .ok (.iload_n 2, 1) := by decide +kernel
theorem dX2_weightOn_24 : decode cX2_weightOn 24 = .ok (.aload_n 0, 1) := by decide +kernel
theorem dX2_weightOn_25 : decode cX2_weightOn 25 = .ok (.getfield 23, 3) := by decide +kernel
theorem dX2_weightOn_28 : decode cX2_weightOn 28 = .ok (.aload_n 0, 1) := by decide +kernel
theorem dX2_weightOn_29 : decode cX2_weightOn 29 = .ok (.getfield 15, 3) := by decide +kernel
theorem dX2_weightOn_32 : decode cX2_weightOn 32 = .ok (.iload_n 3, 1) := by decide +kernel
theorem dX2_weightOn_33 : decode cX2_weightOn 33 = .ok (.invokevirtual 37, 3) := by decide +kernel
theorem dX2_weightOn_36 : decode cX2_weightOn 36 = .ok (.iadd, 1) := by decide +kernel
theorem dX2_weightOn_37 : decode cX2_weightOn 37 = .ok (.istore_n 2, 1) := by decide +kernel
theorem dX2_weightOn_38 : decode cX2_weightOn 38 = .ok (.aload_n 0, 1) := by decide +kernel
theorem dX2_weightOn_39 : decode cX2_weightOn 39 = .ok (.iload_n 3, 1) := by decide +kernel
theorem dX2_weightOn_40 : decode cX2_weightOn 40 = .ok (.invokevirtual 83, 3) := by decide +kernel
theorem dX2_weightOn_43 : decode cX2_weightOn 43 = .ok (.istore_n 3, 1) := by decide +kernel
theorem dX2_weightOn_44 : decode cX2_weightOn 44 = .ok (.iinc 4 1, 3) := by decide +kernel
theorem dX2_weightOn_47 : decode cX2_weightOn 47 = .ok (.goto (-36), 3) := by decide +kernel
theorem dX2_weightOn_50 : decode cX2_weightOn 50 = .ok (.iload_n 2, 1) := by decide +kernel
theorem dX2_weightOn_51 : decode cX2_weightOn 51 = .ok (.ireturn, 1) := by decide +kernel
set_option maxRecDepth 20000 in
theorem ggX2_actOn_X2_firstOn : GoodIn wsX2_actOn wsX2_firstOn := goodIn_r _ [5, 6, 7, 8, 9, 10, 4, 11, 12, 13, 14, 15, 16, 17, 18, 19, 20, 21, 22, 23, 24, 25, 26, 66, 67, 68, 69, 70, 71, 72, 73, 74, 75, 76, 77] (by decide +kernel) (by decide +kernel)
set_option maxRecDepth 20000 in
theorem gX2_actOn_X2_firstOn : GoodIn wsX2_actOn (wsV RX2 80 RX2 yX2_firstOn wsX2_firstOn) := goodIn_app (goodIn_of _ (by decide +kernel)) ggX2_actOn_X2_firstOn
set_option maxRecDepth 20000 in
theorem ggX2_actOn_X2_nextBehind : GoodIn wsX2_actOn wsX2_nextBehind := goodIn_r _ [30, 7, 31, 6, 32, 33, 34, 4, 35, 36, 37, 38, 19, 39, 40, 22, 23, 24, 25, 26, 41, 42, 43, 44, 45, 16, 17, 18, 20, 21, 46, 47, 48, 49, 50, 51, 52, 53, 54, 55, 56, 57, 58, 59, 60, 61, 62, 63, 64, 65, 66, 67, 68, 69, 70, 71, 72, 73, 74, 75, 76, 77, 78, 79, 80, 81] (by decide +kernel) (by decide +kernel)
set_option maxRecDepth 20000 in
theorem gX2_actOn_X2_nextBehind : GoodIn wsX2_actOn (wsV RX2 83 RX2 yX2_nextBehind wsX2_nextBehind) := goodIn_app (goodIn_of _ (by decide +kernel)) ggX2_actOn_X2_nextBehind
theorem dX2_actOn_0 : decode cX2_actOn 0 = .ok (.iload_n 2, 1) := by decide +kernel
theorem dX2_actOn_1 : decode cX2_actOn 1 = .ok (.ifCond .lt 9, 3) := by decide +kernel
theorem dX2_actOn_4 : decode cX2_actOn 4 = .ok (.iload_n 2, 1) := by decide +kernel
theorem dX2_actOn_5 : decode cX2_actOn 5 = .ok (.bipush 16, 2) := by decide +kernel
theorem dX2_actOn_7 : decode cX2_actOn 7 = .ok (.if_icmp .lt 5, 3) := by decide +kernel
theorem dX2_actOn_10 : decode cX2_actOn 10 = .ok (.iconst (-1), 1) := by decide +kernel
theorem dX2_actOn_11 : decode cX2_actOn 11 = .ok (.ireturn, 1) := by decide +kernel
theorem dX2_actOn_12 : decode cX2_actOn 12 = .ok (.aload_n 0, 1) := by decide +kernel
theorem dX2_actOn_13 : decode cX2_actOn 13 = .ok (.iload_n 1, 1) := by decide +kernel
theorem dX2_actOn_14 : decode cX2_actOn 14 = .ok (.invokevirtual 80, 3) := by decide +kernel
theorem dX2_actOn_17 : decode cX2_actOn 17 = .ok (.istore_n 3, 1) := by decide +kernel
theorem dX2_actOn_18 : decode cX2_actOn 18 = .ok (.iconst 0, 1) := by decide +kernel
theorem dX2_actOn_19 : decode cX2_actOn 19 = .ok (.istore 4, 2) := by decide +kernel
theorem dX2_actOn_21 : decode cX2_actOn 21 = .ok (.iload 4, 2) := by decide +kernel
theorem dX2_actOn_23 : decode cX2_actOn 23 = .ok (.iload_n 2, 1) := by decide +kernel
theorem dX2_actOn_24 : decode cX2_actOn 24 = .ok (.if_icmp .ge 20, 3) := by decide +kernel
theorem dX2_actOn_27 : decode cX2_actOn 27 = .ok (.iload_n 3, 1) := by decide +kernel
theorem dX2_actOn_28 : decode cX2_actOn 28 = .ok (.iconst (-1), 1) := by decide +kernel
theorem dX2_actOn_29 : decode cX2_actOn 29 = .ok (.if_icmp .eq 15, 3) := by decide +kernel
theorem dX2_actOn_32 : decode cX2_actOn 32 = .ok (.aload_n 0, 1) := by decide +kernel
theorem dX2_actOn_33 : decode cX2_actOn 33 = .ok (.iload_n 3, 1) := by decide +kernel
theorem dX2_actOn_34 : decode cX2_actOn 34 = .ok (.invokevirtual 83, 3) := by decide +kernel
theorem dX2_actOn_37 : decode cX2_actOn 37 = .ok (.istore_n 3, 1) := by decide +kernel
theorem dX2_actOn_38 : decode cX2_actOn 38 = .ok (.iinc 4 1, 3) := by decide +kernel
theorem dX2_actOn_41 : decode cX2_actOn 41 = .ok (.goto (-20), 3) := by decide +kernel
theorem dX2_actOn_44 : decode cX2_actOn 44 = .ok (.iload_n 3, 1) := by decide +kernel
theorem dX2_actOn_45 : decode cX2_actOn 45 = .ok (.ireturn, 1) := by decide +kernel
set_option maxRecDepth 20000 in
theorem ggX2_isAt_X2_firstOn : GoodIn wsX2_isAt wsX2_firstOn := goodIn_r _ [6, 7, 1, 8, 9, 10, 5, 11, 12, 13, 14, 15, 16, 17, 18, 19, 20, 21, 22, 23, 24, 25, 26, 71, 72, 73, 74, 75, 76, 77, 78, 79, 80, 81, 82] (by decide +kernel) (by decide +kernel)
set_option maxRecDepth 20000 in
theorem gX2_isAt_X2_firstOn : GoodIn wsX2_isAt (wsV RX2 80 RX2 yX2_firstOn wsX2_firstOn) := goodIn_app (goodIn_of _ (by decide +kernel)) ggX2_isAt_X2_firstOn
set_option maxRecDepth 20000 in
theorem ggX2_isAt_X7_stageOf : GoodIn wsX2_isAt wsX7_stageOf := goodIn_r _ [30, 31, 22, 23, 24, 19, 25, 26, 75, 76, 77, 78, 79, 80, 81, 82] (by decide +kernel) (by decide +kernel)
set_option maxRecDepth 20000 in
theorem gX2_isAt_X7_stageOf : GoodIn wsX2_isAt (wsV RX2 57 RX7 yX7_stageOf wsX7_stageOf) := goodIn_app (goodIn_of _ (by decide +kernel)) ggX2_isAt_X7_stageOf
set_option maxRecDepth 20000 in
theorem ggX2_isAt_X7_isOnIn : GoodIn wsX2_isAt wsX7_isOnIn := goodIn_r _ [35, 21, 22, 23, 24, 19, 25, 26, 36, 37, 38, 39, 40, 75, 76, 77, 78, 79, 80, 81, 82] (by decide +kernel) (by decide +kernel)
set_option maxRecDepth 20000 in
theorem gX2_isAt_X7_isOnIn : GoodIn wsX2_isAt (wsV RX2 86 RX7 yX7_isOnIn wsX7_isOnIn) := goodIn_app (goodIn_of _ (by decide +kernel)) ggX2_isAt_X7_isOnIn
set_option maxRecDepth 20000 in
theorem ggX2_isAt_X2_nextBehind : GoodIn wsX2_isAt wsX2_nextBehind := goodIn_r _ [44, 1, 45, 7, 46, 47, 48, 5, 49, 50, 51, 52, 19, 53, 54, 22, 23, 24, 25, 26, 55, 56, 57, 58, 59, 16, 17, 18, 20, 21, 60, 61, 62, 63, 64, 37, 38, 39, 40, 27, 28, 29, 30, 31, 65, 66, 67, 68, 69, 70, 71, 72, 73, 74, 75, 76, 77, 78, 79, 80, 81, 82, 83, 84, 85, 86] (by decide +kernel) (by decide +kernel)
set_option maxRecDepth 20000 in
theorem gX2_isAt_X2_nextBehind : GoodIn wsX2_isAt (wsV RX2 83 RX2 yX2_nextBehind wsX2_nextBehind) := goodIn_app (goodIn_of _ (by decide +kernel)) ggX2_isAt_X2_nextBehind
theorem dX2_isAt_0 : decode cX2_isAt 0 = .ok (.iconst 0, 1) := by decide +kernel
theorem dX2_isAt_1 : decode cX2_isAt 1 = .ok (.istore_n 3, 1) := by decide +kernel
theorem dX2_isAt_2 : decode cX2_isAt 2 = .ok (.iload_n 3, 1) := by decide +kernel
theorem dX2_isAt_3 : decode cX2_isAt 3 = .ok (.iconst 4, 1) := by decide +kernel
theorem dX2_isAt_4 : decode cX2_isAt 4 = .ok (.if_icmp .ge 77, 3) := by decide +kernel
theorem dX2_isAt_7 : decode cX2_isAt 7 = .ok (.aload_n 0, 1) := by decide +kernel
theorem dX2_isAt_8 : decode cX2_isAt 8 = .ok (.iload_n 3, 1) := by decide +kernel
theorem dX2_isAt_9 : decode cX2_isAt 9 = .ok (.invokevirtual 80, 3) := by decide +kernel
theorem dX2_isAt_12 : decode cX2_isAt 12 = .ok (.istore 4, 2) := by decide +kernel
theorem dX2_isAt_14 : decode cX2_isAt 14 = .ok (.iconst 0, 1) := by decide +kernel
theorem dX2_isAt_15 : decode cX2_isAt 15 = .ok (.istore 5, 2) := by decide +kernel
theorem dX2_isAt_17 : decode cX2_isAt 17 = .ok (.iload 5, 2) := by decide +kernel
theorem dX2_isAt_19 : decode cX2_isAt 19 = .ok (.bipush 16, 2) := by decide +kernel
theorem dX2_isAt_21 : decode cX2_isAt 21 = .ok (.if_icmp .ge 54, 3) := by decide +kernel
theorem dX2_isAt_24 : decode cX2_isAt 24 = .ok (.iload 4, 2) := by decide +kernel
theorem dX2_isAt_26 : decode cX2_isAt 26 = .ok (.iconst (-1), 1) := by decide +kernel
theorem dX2_isAt_27 : decode cX2_isAt 27 = .ok (.if_icmp .eq 48, 3) := by decide +kernel
theorem dX2_isAt_30 : decode cX2_isAt 30 = .ok (.aload_n 0, 1) := by decide +kernel
theorem dX2_isAt_31 : decode cX2_isAt 31 = .ok (.getfield 23, 3) := by decide +kernel
theorem dX2_isAt_34 : decode cX2_isAt 34 = .ok (.iload 4, 2) := by decide +kernel
theorem dX2_isAt_36 : decode cX2_isAt 36 = .ok (.invokevirtual 57, 3) := by decide +kernel
theorem dX2_isAt_39 : decode cX2_isAt 39 = .ok (.iload_n 1, 1) := by decide +kernel
theorem dX2_isAt_40 : decode cX2_isAt 40 = .ok (.if_icmp .ne 21, 3) := by decide +kernel
theorem dX2_isAt_43 : decode cX2_isAt 43 = .ok (.aload_n 0, 1) := by decide +kernel
theorem dX2_isAt_44 : decode cX2_isAt 44 = .ok (.getfield 23, 3) := by decide +kernel
theorem dX2_isAt_47 : decode cX2_isAt 47 = .ok (.iload 4, 2) := by decide +kernel
theorem dX2_isAt_49 : decode cX2_isAt 49 = .ok (.iload_n 2, 1) := by decide +kernel
theorem dX2_isAt_50 : decode cX2_isAt 50 = .ok (.iload_n 2, 1) := by decide +kernel
theorem dX2_isAt_51 : decode cX2_isAt 51 = .ok (.iconst 1, 1) := by decide +kernel
theorem dX2_isAt_52 : decode cX2_isAt 52 = .ok (.iadd, 1) := by decide +kernel
theorem dX2_isAt_53 : decode cX2_isAt 53 = .ok (.invokevirtual 86, 3) := by decide +kernel
theorem dX2_isAt_56 : decode cX2_isAt 56 = .ok (.ifCond .eq 5, 3) := by decide +kernel
theorem dX2_isAt_59 : decode cX2_isAt 59 = .ok (.iconst 1, 1) := by decide +kernel
theorem dX2_isAt_60 : decode cX2_isAt 60 = .ok (.ireturn, 1) := by decide +kernel
theorem dX2_isAt_61 : decode cX2_isAt 61 = .ok (.aload_n 0, 1) := by decide +kernel
theorem dX2_isAt_62 : decode cX2_isAt 62 = .ok (.iload 4, 2) := by decide +kernel
theorem dX2_isAt_64 : decode cX2_isAt 64 = .ok (.invokevirtual 83, 3) := by decide +kernel
theorem dX2_isAt_67 : decode cX2_isAt 67 = .ok (.istore 4, 2) := by decide +kernel
theorem dX2_isAt_69 : decode cX2_isAt 69 = .ok (.iinc 5 1, 3) := by decide +kernel
theorem dX2_isAt_72 : decode cX2_isAt 72 = .ok (.goto (-55), 3) := by decide +kernel
theorem dX2_isAt_75 : decode cX2_isAt 75 = .ok (.iinc 3 1, 3) := by decide +kernel
theorem dX2_isAt_78 : decode cX2_isAt 78 = .ok (.goto (-76), 3) := by decide +kernel
theorem dX2_isAt_81 : decode cX2_isAt 81 = .ok (.iconst 0, 1) := by decide +kernel
theorem dX2_isAt_82 : decode cX2_isAt 82 = .ok (.ireturn, 1) := by decide +kernel
