theorem dX9_init_0 : decode cX9_init 0 = .ok (.aload_n 0, 1) := by decide +kernel
theorem dX9_init_1 : decode cX9_init 1 = .ok (.invokespecial 3, 3) := by decide +kernel
theorem dX9_init_4 : decode cX9_init 4 = .ok (.aload_n 0, 1) := by decide +kernel
theorem dX9_init_5 : decode cX9_init 5 = .ok (.iconst 0, 1) := by decide +kernel
theorem dX9_init_6 : decode cX9_init 6 = .ok (.putfield 9, 3) := by decide +kernel
theorem dX9_init_9 : decode cX9_init 9 = .ok (.aload_n 0, 1) := by decide +kernel
theorem dX9_init_10 : decode cX9_init 10 = .ok (.bipush 16, 2) := by decide +kernel
theorem dX9_init_12 : decode cX9_init 12 = .ok (.newarray .int, 2) := by decide +kernel
theorem dX9_init_14 : decode cX9_init 14 = .ok (.putfield 15, 3) := by decide +kernel
theorem dX9_init_17 : decode cX9_init 17 = .ok (.aload_n 0, 1) := by decide +kernel
theorem dX9_init_18 : decode cX9_init 18 = .ok (.bipush 6, 2) := by decide +kernel
theorem dX9_init_20 : decode cX9_init 20 = .ok (.newarray .int, 2) := by decide +kernel
theorem dX9_init_22 : decode cX9_init 22 = .ok (.putfield 19, 3) := by decide +kernel
theorem dX9_init_25 : decode cX9_init 25 = .ok (.aload_n 0, 1) := by decide +kernel
theorem dX9_init_26 : decode cX9_init 26 = .ok (.iconst 0, 1) := by decide +kernel
theorem dX9_init_27 : decode cX9_init 27 = .ok (.putfield 22, 3) := by decide +kernel
theorem dX9_init_30 : decode cX9_init 30 = .ok (.aload_n 0, 1) := by decide +kernel
theorem dX9_init_31 : decode cX9_init 31 = .ok (.bipush 6, 2) := by decide +kernel
theorem dX9_init_33 : decode cX9_init 33 = .ok (.newarray .int, 2) := by decide +kernel
theorem dX9_init_35 : decode cX9_init 35 = .ok (.putfield 26, 3) := by decide +kernel
theorem dX9_init_38 : decode cX9_init 38 = .ok (.aload_n 0, 1) := by decide +kernel
theorem dX9_init_39 : decode cX9_init 39 = .ok (.iconst 0, 1) := by decide +kernel
theorem dX9_init_40 : decode cX9_init 40 = .ok (.putfield 29, 3) := by decide +kernel
theorem dX9_init_43 : decode cX9_init 43 = .ok (.aload_n 0, 1) := by decide +kernel
theorem dX9_init_44 : decode cX9_init 44 = .ok (.aload_n 1, 1) := by decide +kernel
theorem dX9_init_45 : decode cX9_init 45 = .ok (.putfield 32, 3) := by decide +kernel
theorem dX9_init_48 : decode cX9_init 48 = .ok (.aload_n 0, 1) := by decide +kernel
theorem dX9_init_49 : decode cX9_init 49 = .ok (.aload_n 2, 1) := by decide +kernel
theorem dX9_init_50 : decode cX9_init 50 = .ok (.putfield 36, 3) := by decide +kernel
theorem dX9_init_53 : decode cX9_init 53 = .ok (.return_, 1) := by decide +kernel
theorem dX9_forget_0 : decode cX9_forget 0 = .ok (.aload_n 0, 1) := by decide +kernel
theorem dX9_forget_1 : decode cX9_forget 1 = .ok (.iconst 0, 1) := by decide +kernel
theorem dX9_forget_2 : decode cX9_forget 2 = .ok (.putfield 9, 3) := by decide +kernel
theorem dX9_forget_5 : decode cX9_forget 5 = .ok (.return_, 1) := by decide +kernel
set_option maxRecDepth 20000 in
theorem ggX9_isMet_X7_isOnIn : GoodIn wsX9_isMet wsX7_isOnIn := goodIn_r _ [7, 8, 9, 10, 11, 6, 12, 13, 14, 15, 16, 17, 18, 38, 39, 40, 41, 42, 43, 44, 45] (by decide +kernel) (by decide +kernel)
set_option maxRecDepth 20000 in
theorem gX9_isMet_X7_isOnIn : GoodIn wsX9_isMet (wsV RX9 40 RX7 yX7_isOnIn wsX7_isOnIn) := goodIn_app (goodIn_of _ (by decide +kernel)) ggX9_isMet_X7_isOnIn
set_option maxRecDepth 20000 in
theorem ggX9_isMet_X7_stageOf : GoodIn wsX9_isMet wsX7_stageOf := goodIn_r _ [22, 23, 9, 10, 11, 6, 12, 13, 38, 39, 40, 41, 42, 43, 44, 45] (by decide +kernel) (by decide +kernel)
set_option maxRecDepth 20000 in
theorem gX9_isMet_X7_stageOf : GoodIn wsX9_isMet (wsV RX9 46 RX7 yX7_stageOf wsX7_stageOf) := goodIn_app (goodIn_of _ (by decide +kernel)) ggX9_isMet_X7_stageOf
set_option maxRecDepth 20000 in
theorem ggX9_isMet_X4_isInOpenAir : GoodIn wsX9_isMet wsX4_isInOpenAir := goodIn_r _ [28, 29, 46, 47, 48, 49] (by decide +kernel) (by decide +kernel)
set_option maxRecDepth 20000 in
theorem gX9_isMet_X4_isInOpenAir : GoodIn wsX9_isMet (wsV RX9 50 RX4 yX4_isInOpenAir wsX4_isInOpenAir) := goodIn_app (goodIn_of _ (by decide +kernel)) ggX9_isMet_X4_isInOpenAir
theorem dX9_isMet_0 : decode cX9_isMet 0 = .ok (.aload_n 0, 1) := by decide +kernel
theorem dX9_isMet_1 : decode cX9_isMet 1 = .ok (.getfield 36, 3) := by decide +kernel
theorem dX9_isMet_4 : decode cX9_isMet 4 = .ok (.iload_n 1, 1) := by decide +kernel
theorem dX9_isMet_5 : decode cX9_isMet 5 = .ok (.iload_n 2, 1) := by decide +kernel
theorem dX9_isMet_6 : decode cX9_isMet 6 = .ok (.iload_n 3, 1) := by decide +kernel
theorem dX9_isMet_7 : decode cX9_isMet 7 = .ok (.invokevirtual 40, 3) := by decide +kernel
theorem dX9_isMet_10 : decode cX9_isMet 10 = .ok (.ifCond .eq 25, 3) := by decide +kernel
theorem dX9_isMet_13 : decode cX9_isMet 13 = .ok (.aload_n 0, 1) := by decide +kernel
theorem dX9_isMet_14 : decode cX9_isMet 14 = .ok (.getfield 32, 3) := by decide +kernel
theorem dX9_isMet_17 : decode cX9_isMet 17 = .ok (.aload_n 0, 1) := by decide +kernel
theorem dX9_isMet_18 : decode cX9_isMet 18 = .ok (.getfield 36, 3) := by decide +kernel
theorem dX9_isMet_21 : decode cX9_isMet 21 = .ok (.iload_n 1, 1) := by decide +kernel
theorem dX9_isMet_22 : decode cX9_isMet 22 = .ok (.invokevirtual 46, 3) := by decide +kernel
theorem dX9_isMet_25 : decode cX9_isMet 25 = .ok (.invokevirtual 50, 3) := by decide +kernel
theorem dX9_isMet_28 : decode cX9_isMet 28 = .ok (.ifCond .eq 7, 3) := by decide +kernel
theorem dX9_isMet_31 : decode cX9_isMet 31 = .ok (.iconst 1, 1) := by decide +kernel
theorem dX9_isMet_32 : decode cX9_isMet 32 = .ok (.goto 4, 3) := by decide +kernel
theorem dX9_isMet_35 : decode cX9_isMet 35 = .ok (.iconst 0, 1) := by decide +kernel
theorem dX9_isMet_36 : decode cX9_isMet 36 = .ok (.ireturn, 1) := by decide +kernel
set_option maxRecDepth 20000 in
theorem ggX9_countMet_X9_isMet : GoodIn wsX9_countMet wsX9_isMet := goodIn_r _ [5, 6, 7, 8, 9, 10, 11, 12, 13, 14, 15, 16, 17, 18, 19, 20, 21, 22, 23, 24, 25, 26, 27, 28, 29, 30, 31, 32, 33, 34, 35, 36, 37, 38, 39, 40, 41, 42, 43, 44, 45, 46, 47, 48, 49, 50, 51, 52, 53, 54] (by decide +kernel) (by decide +kernel)
set_option maxRecDepth 20000 in
theorem gX9_countMet_X9_isMet : GoodIn wsX9_countMet (wsV RX9 56 RX9 yX9_isMet wsX9_isMet) := goodIn_app (goodIn_of _ (by decide +kernel)) ggX9_countMet_X9_isMet
theorem dX9_countMet_0 : decode cX9_countMet 0 = .ok (.iconst 0, 1) := by decide +kernel
theorem dX9_countMet_1 : decode cX9_countMet 1 = .ok (.istore_n 3, 1) := by decide +kernel
theorem dX9_countMet_2 : decode cX9_countMet 2 = .ok (.iconst 0, 1) := by decide +kernel
theorem dX9_countMet_3 : decode cX9_countMet 3 = .ok (.istore 4, 2) := by decide +kernel
theorem dX9_countMet_5 : decode cX9_countMet 5 = .ok (.iload 4, 2) := by decide +kernel
theorem dX9_countMet_7 : decode cX9_countMet 7 = .ok (.bipush 16, 2) := by decide +kernel
theorem dX9_countMet_9 : decode cX9_countMet 9 = .ok (.if_icmp .ge 23, 3) := by decide +kernel
theorem dX9_countMet_12 : decode cX9_countMet 12 = .ok (.aload_n 0, 1) := by decide +kernel
theorem dX9_countMet_13 : decode cX9_countMet 13 = .ok (.iload 4, 2) := by decide +kernel
theorem dX9_countMet_15 : decode cX9_countMet 15 = .ok (.iload_n 1, 1) := by decide +kernel
theorem dX9_countMet_16 : decode cX9_countMet 16 = .ok (.iload_n 2, 1) := by decide +kernel
theorem dX9_countMet_17 : decode cX9_countMet 17 = .ok (.invokevirtual 56, 3) := by decide +kernel
theorem dX9_countMet_20 : decode cX9_countMet 20 = .ok (.ifCond .eq 6, 3) := by decide +kernel
theorem dX9_countMet_23 : decode cX9_countMet 23 = .ok (.iinc 3 1, 3) := by decide +kernel
theorem dX9_countMet_26 : decode cX9_countMet 26 = .ok (.iinc 4 1, 3) := by decide +kernel
theorem dX9_countMet_29 : decode cX9_countMet 29 = .ok (.goto (-24), 3) := by decide +kernel
theorem dX9_countMet_32 : decode cX9_countMet 32 = .ok (.iload_n 3, 1) := by decide +kernel
theorem dX9_countMet_33 : decode cX9_countMet 33 = .ok (.ireturn, 1) := by decide +kernel
set_option maxRecDepth 20000 in
theorem ggX9_make_X11_fillRow : GoodIn wsX9_make wsX11_fillRow := goodIn_r _ [8] (by decide +kernel) (by decide +kernel)
set_option maxRecDepth 20000 in
theorem gX9_make_X11_fillRow_n59 : GoodIn wsX9_make (wsX11_fillRow) := ggX9_make_X11_fillRow
set_option maxRecDepth 20000 in
theorem ggX9_make_X9_isMet : GoodIn wsX9_make wsX9_isMet := goodIn_r _ [13, 14, 15, 16, 17, 18, 19, 20, 21, 22, 23, 24, 25, 26, 27, 28, 29, 30, 31, 32, 33, 34, 35, 36, 37, 38, 39, 40, 41, 42, 62, 63, 64, 65, 66, 67, 68, 69, 70, 71, 72, 73, 74, 75, 76, 77, 78, 79, 80, 81] (by decide +kernel) (by decide +kernel)
set_option maxRecDepth 20000 in
theorem gX9_make_X9_isMet : GoodIn wsX9_make (wsV RX9 56 RX9 yX9_isMet wsX9_isMet) := goodIn_app (goodIn_of _ (by decide +kernel)) ggX9_make_X9_isMet
set_option maxRecDepth 20000 in
theorem ggX9_make_X9_tryGoals : GoodIn wsX9_make wsX9_tryGoals := goodIn_r _ [45, 4, 2, 46, 47, 48, 49, 12, 50, 1, 3, 51, 7, 52, 53, 54, 55, 56, 15, 14, 37, 38, 39, 40, 41, 42, 32, 33, 34, 19, 35, 36, 22, 23, 24, 25, 26, 57, 58, 59, 60, 21, 61, 27, 28, 29, 30, 31, 43, 44, 62, 63, 64, 65, 66, 67, 68, 69, 78, 79, 80, 81, 70, 71, 72, 73, 74, 75, 76, 77] (by decide +kernel) (by decide +kernel)
set_option maxRecDepth 20000 in
theorem gX9_make_X9_tryGoals : GoodIn wsX9_make (va_wsS RX9 63 yX9_tryGoals wsX9_tryGoals) := goodIn_app (goodIn_of _ (by decide +kernel)) ggX9_make_X9_tryGoals
theorem dX9_make_0 : decode cX9_make 0 = .ok (.aload_n 0, 1) := by decide +kernel
theorem dX9_make_1 : decode cX9_make 1 = .ok (.getfield 15, 3) := by decide +kernel
theorem dX9_make_4 : decode cX9_make 4 = .ok (.iconst (-1), 1) := by decide +kernel
theorem dX9_make_5 : decode cX9_make 5 = .ok (.invokestatic 59, 3) := by decide +kernel
theorem dX9_make_8 : decode cX9_make 8 = .ok (.aload_n 0, 1) := by decide +kernel
theorem dX9_make_9 : decode cX9_make 9 = .ok (.iconst 0, 1) := by decide +kernel
theorem dX9_make_10 : decode cX9_make 10 = .ok (.putfield 22, 3) := by decide +kernel
theorem dX9_make_13 : decode cX9_make 13 = .ok (.iconst 0, 1) := by decide +kernel
theorem dX9_make_14 : decode cX9_make 14 = .ok (.istore_n 3, 1) := by decide +kernel
theorem dX9_make_15 : decode cX9_make 15 = .ok (.iload_n 3, 1) := by decide +kernel
theorem dX9_make_16 : decode cX9_make 16 = .ok (.bipush 16, 2) := by decide +kernel
theorem dX9_make_18 : decode cX9_make 18 = .ok (.if_icmp .ge 48, 3) := by decide +kernel
theorem dX9_make_21 : decode cX9_make 21 = .ok (.aload_n 0, 1) := by decide +kernel
theorem dX9_make_22 : decode cX9_make 22 = .ok (.iload_n 3, 1) := by decide +kernel
theorem dX9_make_23 : decode cX9_make 23 = .ok (.iload_n 1, 1) := by decide +kernel
theorem dX9_make_24 : decode cX9_make 24 = .ok (.iload_n 2, 1) := by decide +kernel
theorem dX9_make_25 : decode cX9_make 25 = .ok (.invokevirtual 56, 3) := by decide +kernel
theorem dX9_make_28 : decode cX9_make 28 = .ok (.ifCond .eq 32, 3) := by decide +kernel
theorem dX9_make_31 : decode cX9_make 31 = .ok (.aload_n 0, 1) := by decide +kernel
theorem dX9_make_32 : decode cX9_make 32 = .ok (.getfield 22, 3) := by decide +kernel
theorem dX9_make_35 : decode cX9_make 35 = .ok (.bipush 6, 2) := by decide +kernel
theorem dX9_make_37 : decode cX9_make 37 = .ok (.if_icmp .ge 23, 3) := by decide +kernel
theorem dX9_make_40 : decode cX9_make 40 = .ok (.aload_n 0, 1) := by decide +kernel
theorem dX9_make_41 : decode cX9_make 41 = .ok (.getfield 19, 3) := by decide +kernel
theorem dX9_make_44 : decode cX9_make 44 = .ok (.aload_n 0, 1) := by decide +kernel
theorem dX9_make_45 : decode cX9_make 45 = .ok (.getfield 22, 3) := by decide +kernel
theorem dX9_make_48 : decode cX9_make 48 = .ok (.iload_n 3, 1) := by decide +kernel
theorem dX9_make_49 : decode cX9_make 49 = .ok (.iastore, 1) := by decide +kernel
theorem dX9_make_50 : decode cX9_make 50 = .ok (.aload_n 0, 1) := by decide +kernel
theorem dX9_make_51 : decode cX9_make 51 = .ok (.dup, 1) := by decide +kernel
theorem dX9_make_52 : decode cX9_make 52 = .ok (.getfield 22, 3) := by decide +kernel
theorem dX9_make_55 : decode cX9_make 55 = .ok (.iconst 1, 1) := by decide +kernel
theorem dX9_make_56 : decode cX9_make 56 = .ok (.iadd, 1) := by decide +kernel
theorem dX9_make_57 : decode cX9_make 57 = .ok (.putfield 22, 3) := by decide +kernel
theorem dX9_make_60 : decode cX9_make 60 = .ok (.iinc 3 1, 3) := by decide +kernel
theorem dX9_make_63 : decode cX9_make 63 = .ok (.goto (-48), 3) := by decide +kernel
theorem dX9_make_66 : decode cX9_make 66 = .ok (.aload_n 0, 1) := by decide +kernel
theorem dX9_make_67 : decode cX9_make 67 = .ok (.aload_n 0, 1) := by decide +kernel
theorem dX9_make_68 : decode cX9_make 68 = .ok (.getfield 22, 3) := by decide +kernel
theorem dX9_make_71 : decode cX9_make 71 = .ok (.iconst 1, 1) := by decide +kernel
theorem dX9_make_72 : decode cX9_make 72 = .ok (.iadd, 1) := by decide +kernel
theorem dX9_make_73 : decode cX9_make 73 = .ok (.putfield 29, 3) := by decide +kernel
theorem dX9_make_76 : decode cX9_make 76 = .ok (.aload_n 0, 1) := by decide +kernel
theorem dX9_make_77 : decode cX9_make 77 = .ok (.iconst 0, 1) := by decide +kernel
theorem dX9_make_78 : decode cX9_make 78 = .ok (.iconst 0, 1) := by decide +kernel
theorem dX9_make_79 : decode cX9_make 79 = .ok (.invokestatic 63, 3) := by decide +kernel
theorem dX9_make_82 : decode cX9_make 82 = .ok (.aload_n 0, 1) := by decide +kernel
theorem dX9_make_83 : decode cX9_make 83 = .ok (.iconst 1, 1) := by decide +kernel
theorem dX9_make_84 : decode cX9_make 84 = .ok (.putfield 9, 3) := by decide +kernel
theorem dX9_make_87 : decode cX9_make 87 = .ok (.aload_n 0, 1) := by decide +kernel
theorem dX9_make_88 : decode cX9_make 88 = .ok (.getfield 29, 3) := by decide +kernel
theorem dX9_make_91 : decode cX9_make 91 = .ok (.ireturn, 1) := by decide +kernel
set_option maxRecDepth 20000 in
theorem ggX9_tryGoals_X9_keepTried : GoodIn wsX9_tryGoals wsX9_keepTried := goodIn_r _ [8, 1, 2, 9, 10, 3, 11, 12, 13, 50, 51, 52, 53, 54, 55, 56, 57] (by decide +kernel) (by decide +kernel)
set_option maxRecDepth 20000 in
theorem gX9_tryGoals_X9_keepTried : GoodIn wsX9_tryGoals (wsV RX9 67 RX9 yX9_keepTried wsX9_keepTried) := goodIn_app (goodIn_of _ (by decide +kernel)) ggX9_tryGoals_X9_keepTried
set_option maxRecDepth 20000 in
theorem ggX9_tryGoals_X9_hasRoom : GoodIn wsX9_tryGoals wsX9_hasRoom := goodIn_r _ [17, 18, 19, 10, 3, 20, 21, 22, 23, 24, 25, 26, 27, 28, 29, 30, 31, 32, 33, 34, 35, 36, 37, 38, 39, 40, 41, 42, 43, 44, 45, 46, 47, 50, 51, 52, 53, 54, 55, 56, 57, 58, 59, 60, 61, 62, 63, 64, 65, 66, 67, 68, 69] (by decide +kernel) (by decide +kernel)
set_option maxRecDepth 20000 in
theorem gX9_tryGoals_X9_hasRoom : GoodIn wsX9_tryGoals (wsV RX9 71 RX9 yX9_hasRoom wsX9_hasRoom) := goodIn_app (goodIn_of _ (by decide +kernel)) ggX9_tryGoals_X9_hasRoom
set_option maxRecDepth 20000 in
theorem ggX9_tryGoals_X9_tryGoals : GoodIn wsX9_tryGoals wsX9_tryGoals := goodIn_r _ [0, 1, 2, 3, 4, 5, 6, 7, 8, 9, 10, 11, 12, 13, 14, 15, 16, 17, 18, 19, 20, 21, 22, 23, 24, 25, 26, 27, 28, 29, 30, 31, 32, 33, 34, 35, 36, 37, 38, 39, 40, 41, 42, 43, 44, 45, 46, 47, 48, 49, 50, 51, 52, 53, 54, 55, 56, 57, 58, 59, 60, 61, 62, 63, 64, 65, 66, 67, 68, 69] (by decide +kernel) (by decide +kernel)
set_option maxRecDepth 20000 in
theorem gX9_tryGoals_X9_tryGoals : GoodIn wsX9_tryGoals (va_wsS RX9 63 yX9_tryGoals wsX9_tryGoals) := goodIn_app (goodIn_of _ (by decide +kernel)) ggX9_tryGoals_X9_tryGoals
theorem dX9_tryGoals_0 : decode cX9_tryGoals 0 = .ok (.iload_n 2, 1) := by decide +kernel
theorem dX9_tryGoals_1 : decode cX9_tryGoals 1 = .ok (.aload_n 0, 1) := by decide +kernel
theorem dX9_tryGoals_2 : decode cX9_tryGoals 2 = .ok (.getfield 29, 3) := by decide +kernel
theorem dX9_tryGoals_5 : decode cX9_tryGoals 5 = .ok (.if_icmp .ge 7, 3) := by decide +kernel
theorem dX9_tryGoals_8 : decode cX9_tryGoals 8 = .ok (.iload_n 1, 1) := by decide +kernel
theorem dX9_tryGoals_9 : decode cX9_tryGoals 9 = .ok (.ifCond .ge 4, 3) := by decide +kernel
theorem dX9_tryGoals_12 : decode cX9_tryGoals 12 = .ok (.return_, 1) := by decide +kernel
theorem dX9_tryGoals_13 : decode cX9_tryGoals 13 = .ok (.iload_n 1, 1) := by decide +kernel
theorem dX9_tryGoals_14 : decode cX9_tryGoals 14 = .ok (.aload_n 0, 1) := by decide +kernel
theorem dX9_tryGoals_15 : decode cX9_tryGoals 15 = .ok (.getfield 22, 3) := by decide +kernel
theorem dX9_tryGoals_18 : decode cX9_tryGoals 18 = .ok (.if_icmp .ge 9, 3) := by decide +kernel
theorem dX9_tryGoals_21 : decode cX9_tryGoals 21 = .ok (.iload_n 1, 1) := by decide +kernel
theorem dX9_tryGoals_22 : decode cX9_tryGoals 22 = .ok (.bipush 6, 2) := by decide +kernel
theorem dX9_tryGoals_24 : decode cX9_tryGoals 24 = .ok (.if_icmp .lt 9, 3) := by decide +kernel
theorem dX9_tryGoals_27 : decode cX9_tryGoals 27 = .ok (.aload_n 0, 1) := by decide +kernel
theorem dX9_tryGoals_28 : decode cX9_tryGoals 28 = .ok (.iload_n 2, 1) := by decide +kernel
theorem dX9_tryGoals_29 : decode cX9_tryGoals 29 = .ok (.invokevirtual 67, 3) := by decide +kernel
theorem dX9_tryGoals_32 : decode cX9_tryGoals 32 = .ok (.return_, 1) := by decide +kernel
theorem dX9_tryGoals_33 : decode cX9_tryGoals 33 = .ok (.iconst 0, 1) := by decide +kernel
theorem dX9_tryGoals_34 : decode cX9_tryGoals 34 = .ok (.istore_n 3, 1) := by decide +kernel
theorem dX9_tryGoals_35 : decode cX9_tryGoals 35 = .ok (.iload_n 3, 1) := by decide +kernel
theorem dX9_tryGoals_36 : decode cX9_tryGoals 36 = .ok (.iconst 4, 1) := by decide +kernel
theorem dX9_tryGoals_37 : decode cX9_tryGoals 37 = .ok (.if_icmp .ge 33, 3) := by decide +kernel
theorem dX9_tryGoals_40 : decode cX9_tryGoals 40 = .ok (.aload_n 0, 1) := by decide +kernel
theorem dX9_tryGoals_41 : decode cX9_tryGoals 41 = .ok (.iload_n 3, 1) := by decide +kernel
theorem dX9_tryGoals_42 : decode cX9_tryGoals 42 = .ok (.iload_n 1, 1) := by decide +kernel
theorem dX9_tryGoals_43 : decode cX9_tryGoals 43 = .ok (.invokevirtual 71, 3) := by decide +kernel
theorem dX9_tryGoals_46 : decode cX9_tryGoals 46 = .ok (.ifCond .eq 18, 3) := by decide +kernel
theorem dX9_tryGoals_49 : decode cX9_tryGoals 49 = .ok (.aload_n 0, 1) := by decide +kernel
theorem dX9_tryGoals_50 : decode cX9_tryGoals 50 = .ok (.getfield 26, 3) := by decide +kernel
theorem dX9_tryGoals_53 : decode cX9_tryGoals 53 = .ok (.iload_n 1, 1) := by decide +kernel
theorem dX9_tryGoals_54 : decode cX9_tryGoals 54 = .ok (.iload_n 3, 1) := by decide +kernel
theorem dX9_tryGoals_55 : decode cX9_tryGoals 55 = .ok (.iastore, 1) := by decide +kernel
theorem dX9_tryGoals_56 : decode cX9_tryGoals 56 = .ok (.aload_n 0, 1) := by decide +kernel
theorem dX9_tryGoals_57 : decode cX9_tryGoals 57 = .ok (.iload_n 1, 1) := by decide +kernel
theorem dX9_tryGoals_58 : decode cX9_tryGoals 58 = .ok (.iconst 1, 1) := by decide +kernel
theorem dX9_tryGoals_59 : decode cX9_tryGoals 59 = .ok (.iadd, 1) := by decide +kernel
theorem dX9_tryGoals_60 : decode cX9_tryGoals 60 = .ok (.iload_n 2, 1) := by decide +kernel
theorem dX9_tryGoals_61 : decode cX9_tryGoals 61 = .ok (.invokestatic 63, 3) := by decide +kernel
theorem dX9_tryGoals_64 : decode cX9_tryGoals 64 = .ok (.iinc 3 1, 3) := by decide +kernel
theorem dX9_tryGoals_67 : decode cX9_tryGoals 67 = .ok (.goto (-32), 3) := by decide +kernel
theorem dX9_tryGoals_70 : decode cX9_tryGoals 70 = .ok (.aload_n 0, 1) := by decide +kernel
theorem dX9_tryGoals_71 : decode cX9_tryGoals 71 = .ok (.getfield 26, 3) := by decide +kernel
theorem dX9_tryGoals_74 : decode cX9_tryGoals 74 = .ok (.iload_n 1, 1) := by decide +kernel
theorem dX9_tryGoals_75 : decode cX9_tryGoals 75 = .ok (.iconst 4, 1) := by decide +kernel
theorem dX9_tryGoals_76 : decode cX9_tryGoals 76 = .ok (.iastore, 1) := by decide +kernel
theorem dX9_tryGoals_77 : decode cX9_tryGoals 77 = .ok (.aload_n 0, 1) := by decide +kernel
theorem dX9_tryGoals_78 : decode cX9_tryGoals 78 = .ok (.iload_n 1, 1) := by decide +kernel
theorem dX9_tryGoals_79 : decode cX9_tryGoals 79 = .ok (.iconst 1, 1) := by decide +kernel
theorem dX9_tryGoals_80 : decode cX9_tryGoals 80 = .ok (.iadd, 1) := by decide +kernel
theorem dX9_tryGoals_81 : decode cX9_tryGoals 81 = .ok (.iload_n 2, 1) := by decide +kernel
theorem dX9_tryGoals_82 : decode cX9_tryGoals 82 = .ok (.iconst 1, 1) := by decide +kernel
theorem dX9_tryGoals_83 : decode cX9_tryGoals 83 = .ok (.iadd, 1) := by decide +kernel
theorem dX9_tryGoals_84 : decode cX9_tryGoals 84 = .ok (.invokestatic 63, 3) := by decide +kernel
theorem dX9_tryGoals_87 : decode cX9_tryGoals 87 = .ok (.return_, 1) := by decide +kernel
set_option maxRecDepth 20000 in
theorem ggX9_keepTried_X11_replace : GoodIn wsX9_keepTried wsX11_replace := goodIn_r _ [8] (by decide +kernel) (by decide +kernel)
set_option maxRecDepth 20000 in
theorem gX9_keepTried_X11_replace_n75 : GoodIn wsX9_keepTried (wsX11_replace) := ggX9_keepTried_X11_replace
theorem dX9_keepTried_0 : decode cX9_keepTried 0 = .ok (.aload_n 0, 1) := by decide +kernel
theorem dX9_keepTried_1 : decode cX9_keepTried 1 = .ok (.iload_n 1, 1) := by decide +kernel
theorem dX9_keepTried_2 : decode cX9_keepTried 2 = .ok (.putfield 29, 3) := by decide +kernel
theorem dX9_keepTried_5 : decode cX9_keepTried 5 = .ok (.iconst 0, 1) := by decide +kernel
theorem dX9_keepTried_6 : decode cX9_keepTried 6 = .ok (.istore_n 2, 1) := by decide +kernel
theorem dX9_keepTried_7 : decode cX9_keepTried 7 = .ok (.iload_n 2, 1) := by decide +kernel
theorem dX9_keepTried_8 : decode cX9_keepTried 8 = .ok (.aload_n 0, 1) := by decide +kernel
theorem dX9_keepTried_9 : decode cX9_keepTried 9 = .ok (.getfield 22, 3) := by decide +kernel
theorem dX9_keepTried_12 : decode cX9_keepTried 12 = .ok (.if_icmp .ge 35, 3) := by decide +kernel
theorem dX9_keepTried_15 : decode cX9_keepTried 15 = .ok (.iload_n 2, 1) := by decide +kernel
theorem dX9_keepTried_16 : decode cX9_keepTried 16 = .ok (.bipush 6, 2) := by decide +kernel
theorem dX9_keepTried_18 : decode cX9_keepTried 18 = .ok (.if_icmp .ge 29, 3) := by decide +kernel
theorem dX9_keepTried_21 : decode cX9_keepTried 21 = .ok (.aload_n 0, 1) := by decide +kernel
theorem dX9_keepTried_22 : decode cX9_keepTried 22 = .ok (.getfield 15, 3) := by decide +kernel
theorem dX9_keepTried_25 : decode cX9_keepTried 25 = .ok (.aload_n 0, 1) := by decide +kernel
theorem dX9_keepTried_26 : decode cX9_keepTried 26 = .ok (.getfield 19, 3) := by decide +kernel
theorem dX9_keepTried_29 : decode cX9_keepTried 29 = .ok (.iload_n 2, 1) := by decide +kernel
theorem dX9_keepTried_30 : decode cX9_keepTried 30 = .ok (.iaload, 1) := by decide +kernel
theorem dX9_keepTried_31 : decode cX9_keepTried 31 = .ok (.aload_n 0, 1) := by decide +kernel
theorem dX9_keepTried_32 : decode cX9_keepTried 32 = .ok (.getfield 26, 3) := by decide +kernel
theorem dX9_keepTried_35 : decode cX9_keepTried 35 = .ok (.iload_n 2, 1) := by decide +kernel
theorem dX9_keepTried_36 : decode cX9_keepTried 36 = .ok (.iaload, 1) := by decide +kernel
theorem dX9_keepTried_37 : decode cX9_keepTried 37 = .ok (.invokestatic 75, 3) := by decide +kernel
theorem dX9_keepTried_40 : decode cX9_keepTried 40 = .ok (.pop, 1) := by decide +kernel
theorem dX9_keepTried_41 : decode cX9_keepTried 41 = .ok (.iinc 2 1, 3) := by decide +kernel
theorem dX9_keepTried_44 : decode cX9_keepTried 44 = .ok (.goto (-37), 3) := by decide +kernel
theorem dX9_keepTried_47 : decode cX9_keepTried 47 = .ok (.return_, 1) := by decide +kernel
set_option maxRecDepth 20000 in
theorem ggX9_hasRoom_X4_isInOpenAir : GoodIn wsX9_hasRoom wsX4_isInOpenAir := goodIn_r _ [9, 10, 41, 42, 43, 44] (by decide +kernel) (by decide +kernel)
set_option maxRecDepth 20000 in
theorem gX9_hasRoom_X4_isInOpenAir : GoodIn wsX9_hasRoom (wsV RX9 50 RX4 yX4_isInOpenAir wsX4_isInOpenAir) := goodIn_app (goodIn_of _ (by decide +kernel)) ggX9_hasRoom_X4_isInOpenAir
set_option maxRecDepth 20000 in
theorem ggX9_hasRoom_X7_stageOf : GoodIn wsX9_hasRoom wsX7_stageOf := goodIn_r _ [15, 16, 17, 18, 19, 14, 20, 21, 45, 46, 47, 48, 49, 50, 51, 52] (by decide +kernel) (by decide +kernel)
set_option maxRecDepth 20000 in
theorem gX9_hasRoom_X7_stageOf : GoodIn wsX9_hasRoom (wsV RX9 46 RX7 yX7_stageOf wsX7_stageOf) := goodIn_app (goodIn_of _ (by decide +kernel)) ggX9_hasRoom_X7_stageOf
set_option maxRecDepth 20000 in
theorem ggX9_hasRoom_X7_doPiecesMeet : GoodIn wsX9_hasRoom wsX7_doPiecesMeet := goodIn_r _ [25, 26, 27, 17, 18, 19, 14, 20, 21, 28, 29, 30, 31, 32, 45, 46, 47, 48, 49, 50, 51, 52] (by decide +kernel) (by decide +kernel)
set_option maxRecDepth 20000 in
theorem gX9_hasRoom_X7_doPiecesMeet : GoodIn wsX9_hasRoom (wsV RX9 79 RX7 yX7_doPiecesMeet wsX7_doPiecesMeet) := goodIn_app (goodIn_of _ (by decide +kernel)) ggX9_hasRoom_X7_doPiecesMeet
theorem dX9_hasRoom_0 : decode cX9_hasRoom 0 = .ok (.aload_n 0, 1) := by decide +kernel
theorem dX9_hasRoom_1 : decode cX9_hasRoom 1 = .ok (.getfield 32, 3) := by decide +kernel
theorem dX9_hasRoom_4 : decode cX9_hasRoom 4 = .ok (.iload_n 1, 1) := by decide +kernel
theorem dX9_hasRoom_5 : decode cX9_hasRoom 5 = .ok (.invokevirtual 50, 3) := by decide +kernel
theorem dX9_hasRoom_8 : decode cX9_hasRoom 8 = .ok (.ifCond .ne 13, 3) := by decide +kernel
theorem dX9_hasRoom_11 : decode cX9_hasRoom 11 = .ok (.iload_n 2, 1) := by decide +kernel
theorem dX9_hasRoom_12 : decode cX9_hasRoom 12 = .ok (.ifCond .lt 9, 3) := by decide +kernel
theorem dX9_hasRoom_15 : decode cX9_hasRoom 15 = .ok (.iload_n 2, 1) := by decide +kernel
theorem dX9_hasRoom_16 : decode cX9_hasRoom 16 = .ok (.bipush 6, 2) := by decide +kernel
theorem dX9_hasRoom_18 : decode cX9_hasRoom 18 = .ok (.if_icmp .lt 5, 3) := by decide +kernel
theorem dX9_hasRoom_21 : decode cX9_hasRoom 21 = .ok (.iconst 0, 1) := by decide +kernel
theorem dX9_hasRoom_22 : decode cX9_hasRoom 22 = .ok (.ireturn, 1) := by decide +kernel
theorem dX9_hasRoom_23 : decode cX9_hasRoom 23 = .ok (.iconst 0, 1) := by decide +kernel
theorem dX9_hasRoom_24 : decode cX9_hasRoom 24 = .ok (.istore_n 3, 1) := by decide +kernel
theorem dX9_hasRoom_25 : decode cX9_hasRoom 25 = .ok (.iload_n 3, 1) := by decide +kernel
theorem dX9_hasRoom_26 : decode cX9_hasRoom 26 = .ok (.bipush 16, 2) := by decide +kernel
theorem dX9_hasRoom_28 : decode cX9_hasRoom 28 = .ok (.if_icmp .ge 40, 3) := by decide +kernel
theorem dX9_hasRoom_31 : decode cX9_hasRoom 31 = .ok (.aload_n 0, 1) := by decide +kernel
theorem dX9_hasRoom_32 : decode cX9_hasRoom 32 = .ok (.getfield 36, 3) := by decide +kernel
theorem dX9_hasRoom_35 : decode cX9_hasRoom 35 = .ok (.iload_n 3, 1) := by decide +kernel
theorem dX9_hasRoom_36 : decode cX9_hasRoom 36 = .ok (.invokevirtual 46, 3) := by decide +kernel
theorem dX9_hasRoom_39 : decode cX9_hasRoom 39 = .ok (.iload_n 1, 1) := by decide +kernel
theorem dX9_hasRoom_40 : decode cX9_hasRoom 40 = .ok (.if_icmp .ne 22, 3) := by decide +kernel
theorem dX9_hasRoom_43 : decode cX9_hasRoom 43 = .ok (.aload_n 0, 1) := by decide +kernel
theorem dX9_hasRoom_44 : decode cX9_hasRoom 44 = .ok (.getfield 36, 3) := by decide +kernel
theorem dX9_hasRoom_47 : decode cX9_hasRoom 47 = .ok (.aload_n 0, 1) := by decide +kernel
theorem dX9_hasRoom_48 : decode cX9_hasRoom 48 = .ok (.getfield 19, 3) := by decide +kernel
theorem dX9_hasRoom_51 : decode cX9_hasRoom 51 = .ok (.iload_n 2, 1) := by decide +kernel
theorem dX9_hasRoom_52 : decode cX9_hasRoom 52 = .ok (.iaload, 1) := by decide +kernel
theorem dX9_hasRoom_53 : decode cX9_hasRoom 53 = .ok (.iload_n 3, 1) := by decide +kernel
theorem dX9_hasRoom_54 : decode cX9_hasRoom 54 = .ok (.invokevirtual 79, 3) := by decide +kernel
theorem dX9_hasRoom_57 : decode cX9_hasRoom 57 = .ok (.ifCond .eq 5, 3) := by decide +kernel
theorem dX9_hasRoom_60 : decode cX9_hasRoom 60 = .ok (.iconst 0, 1) := by decide +kernel
theorem dX9_hasRoom_61 : decode cX9_hasRoom 61 = .ok (.ireturn, 1) := by decide +kernel
theorem dX9_hasRoom_62 : decode cX9_hasRoom 62 = .ok (.iinc 3 1, 3) := by decide +kernel
theorem dX9_hasRoom_65 : decode cX9_hasRoom 65 = .ok (.goto (-40), 3) := by decide +kernel
theorem dX9_hasRoom_68 : decode cX9_hasRoom 68 = .ok (.iconst 0, 1) := by decide +kernel
theorem dX9_hasRoom_69 : decode cX9_hasRoom 69 = .ok (.istore_n 3, 1) := by decide +kernel
theorem dX9_hasRoom_70 : decode cX9_hasRoom 70 = .ok (.iload_n 3, 1) := by decide +kernel
theorem dX9_hasRoom_71 : decode cX9_hasRoom 71 = .ok (.iload_n 2, 1) := by decide +kernel
theorem dX9_hasRoom_72 : decode cX9_hasRoom 72 = .ok (.if_icmp .ge 43, 3) := by decide +kernel
theorem dX9_hasRoom_75 : decode cX9_hasRoom 75 = .ok (.aload_n 0, 1) := by decide +kernel
theorem dX9_hasRoom_76 : decode cX9_hasRoom 76 = .ok (.getfield 26, 3) := by decide +kernel
theorem dX9_hasRoom_79 : decode cX9_hasRoom 79 = .ok (.iload_n 3, 1) := by decide +kernel
theorem dX9_hasRoom_80 : decode cX9_hasRoom 80 = .ok (.iaload, 1) := by decide +kernel
theorem dX9_hasRoom_81 : decode cX9_hasRoom 81 = .ok (.iload_n 1, 1) := by decide +kernel
theorem dX9_hasRoom_82 : decode cX9_hasRoom 82 = .ok (.if_icmp .ne 27, 3) := by decide +kernel
theorem dX9_hasRoom_85 : decode cX9_hasRoom 85 = .ok (.aload_n 0, 1) := by decide +kernel
theorem dX9_hasRoom_86 : decode cX9_hasRoom 86 = .ok (.getfield 36, 3) := by decide +kernel
theorem dX9_hasRoom_89 : decode cX9_hasRoom 89 = .ok (.aload_n 0, 1) := by decide +kernel
theorem dX9_hasRoom_90 : decode cX9_hasRoom 90 = .ok (.getfield 19, 3) := by decide +kernel
theorem dX9_hasRoom_93 : decode cX9_hasRoom 93 = .ok (.iload_n 2, 1) := by decide +kernel
theorem dX9_hasRoom_94 : decode cX9_hasRoom 94 = .ok (.iaload, 1) := by decide +kernel
theorem dX9_hasRoom_95 : decode cX9_hasRoom 95 = .ok (.aload_n 0, 1) := by decide +kernel
theorem dX9_hasRoom_96 : decode cX9_hasRoom 96 = .ok (.getfield 19, 3) := by decide +kernel
theorem dX9_hasRoom_99 : decode cX9_hasRoom 99 = .ok (.iload_n 3, 1) := by decide +kernel
theorem dX9_hasRoom_100 : decode cX9_hasRoom 100 = .ok (.iaload, 1) := by decide +kernel
theorem dX9_hasRoom_101 : decode cX9_hasRoom 101 = .ok (.invokevirtual 79, 3) := by decide +kernel
theorem dX9_hasRoom_104 : decode cX9_hasRoom 104 = .ok (.ifCond .eq 5, 3) := by decide +kernel
theorem dX9_hasRoom_107 : decode cX9_hasRoom 107 = .ok (.iconst 0, 1) := by decide +kernel
theorem dX9_hasRoom_108 : decode cX9_hasRoom 108 = .ok (.ireturn, 1) := by decide +kernel
theorem dX9_hasRoom_109 : decode cX9_hasRoom 109 = .ok (.iinc 3 1, 3) := by decide +kernel
theorem dX9_hasRoom_112 : decode cX9_hasRoom 112 = .ok (.goto (-42), 3) := by decide +kernel
theorem dX9_hasRoom_115 : decode cX9_hasRoom 115 = .ok (.iconst 1, 1) := by decide +kernel
theorem dX9_hasRoom_116 : decode cX9_hasRoom 116 = .ok (.ireturn, 1) := by decide +kernel
set_option maxRecDepth 20000 in
theorem ggX9_carryOut_X7_remove : GoodIn wsX9_carryOut wsX7_remove := goodIn_r _ [7, 8, 9, 10, 11, 12, 26, 27, 28, 29, 30, 31, 32, 33] (by decide +kernel) (by decide +kernel)
set_option maxRecDepth 20000 in
theorem gX9_carryOut_X7_remove : GoodIn wsX9_carryOut (wsV RX9 82 RX7 yX7_remove wsX7_remove) := goodIn_app (goodIn_of _ (by decide +kernel)) ggX9_carryOut_X7_remove
set_option maxRecDepth 20000 in
theorem ggX9_carryOut_X7_shiftTo : GoodIn wsX9_carryOut wsX7_shiftTo := goodIn_r _ [16, 17, 10, 11, 12, 26, 27, 28, 29, 30, 31, 32, 33] (by decide +kernel) (by decide +kernel)
set_option maxRecDepth 20000 in
theorem gX9_carryOut_X7_shiftTo : GoodIn wsX9_carryOut (wsV RX9 85 RX7 yX7_shiftTo wsX7_shiftTo) := goodIn_app (goodIn_of _ (by decide +kernel)) ggX9_carryOut_X7_shiftTo
theorem dX9_carryOut_0 : decode cX9_carryOut 0 = .ok (.iconst 0, 1) := by decide +kernel
theorem dX9_carryOut_1 : decode cX9_carryOut 1 = .ok (.istore_n 1, 1) := by decide +kernel
theorem dX9_carryOut_2 : decode cX9_carryOut 2 = .ok (.iconst 0, 1) := by decide +kernel
theorem dX9_carryOut_3 : decode cX9_carryOut 3 = .ok (.istore_n 2, 1) := by decide +kernel
theorem dX9_carryOut_4 : decode cX9_carryOut 4 = .ok (.iload_n 2, 1) := by decide +kernel
theorem dX9_carryOut_5 : decode cX9_carryOut 5 = .ok (.bipush 16, 2) := by decide +kernel
theorem dX9_carryOut_7 : decode cX9_carryOut 7 = .ok (.if_icmp .ge 57, 3) := by decide +kernel
theorem dX9_carryOut_10 : decode cX9_carryOut 10 = .ok (.aload_n 0, 1) := by decide +kernel
theorem dX9_carryOut_11 : decode cX9_carryOut 11 = .ok (.getfield 15, 3) := by decide +kernel
theorem dX9_carryOut_14 : decode cX9_carryOut 14 = .ok (.iload_n 2, 1) := by decide +kernel
theorem dX9_carryOut_15 : decode cX9_carryOut 15 = .ok (.iaload, 1) := by decide +kernel
theorem dX9_carryOut_16 : decode cX9_carryOut 16 = .ok (.iconst 4, 1) := by decide +kernel
theorem dX9_carryOut_17 : decode cX9_carryOut 17 = .ok (.if_icmp .ne 14, 3) := by decide +kernel
theorem dX9_carryOut_20 : decode cX9_carryOut 20 = .ok (.aload_n 0, 1) := by decide +kernel
theorem dX9_carryOut_21 : decode cX9_carryOut 21 = .ok (.getfield 36, 3) := by decide +kernel
theorem dX9_carryOut_24 : decode cX9_carryOut 24 = .ok (.iload_n 2, 1) := by decide +kernel
theorem dX9_carryOut_25 : decode cX9_carryOut 25 = .ok (.invokevirtual 82, 3) := by decide +kernel
theorem dX9_carryOut_28 : decode cX9_carryOut 28 = .ok (.goto 30, 3) := by decide +kernel
theorem dX9_carryOut_31 : decode cX9_carryOut 31 = .ok (.aload_n 0, 1) := by decide +kernel
theorem dX9_carryOut_32 : decode cX9_carryOut 32 = .ok (.getfield 15, 3) := by decide +kernel
theorem dX9_carryOut_35 : decode cX9_carryOut 35 = .ok (.iload_n 2, 1) := by decide +kernel
theorem dX9_carryOut_36 : decode cX9_carryOut 36 = .ok (.iaload, 1) := by decide +kernel
theorem dX9_carryOut_37 : decode cX9_carryOut 37 = .ok (.iconst (-1), 1) := by decide +kernel
theorem dX9_carryOut_38 : decode cX9_carryOut 38 = .ok (.if_icmp .eq 20, 3) := by decide +kernel
theorem dX9_carryOut_41 : decode cX9_carryOut 41 = .ok (.aload_n 0, 1) := by decide +kernel
theorem dX9_carryOut_42 : decode cX9_carryOut 42 = .ok (.getfield 36, 3) := by decide +kernel
theorem dX9_carryOut_45 : decode cX9_carryOut 45 = .ok (.iload_n 2, 1) := by decide +kernel
theorem dX9_carryOut_46 : decode cX9_carryOut 46 = .ok (.aload_n 0, 1) := by decide +kernel
theorem dX9_carryOut_47 : decode cX9_carryOut 47 = .ok (.getfield 15, 3) := by decide +kernel
theorem dX9_carryOut_50 : decode cX9_carryOut 50 = .ok (.iload_n 2, 1) := by decide +kernel
theorem dX9_carryOut_51 : decode cX9_carryOut 51 = .ok (.iaload, 1) := by decide +kernel
theorem dX9_carryOut_52 : decode cX9_carryOut 52 = .ok (.invokevirtual 85, 3) := by decide +kernel
theorem dX9_carryOut_55 : decode cX9_carryOut 55 = .ok (.iinc 1 1, 3) := by decide +kernel
theorem dX9_carryOut_58 : decode cX9_carryOut 58 = .ok (.iinc 2 1, 3) := by decide +kernel
theorem dX9_carryOut_61 : decode cX9_carryOut 61 = .ok (.goto (-57), 3) := by decide +kernel
theorem dX9_carryOut_64 : decode cX9_carryOut 64 = .ok (.iload_n 1, 1) := by decide +kernel
theorem dX9_carryOut_65 : decode cX9_carryOut 65 = .ok (.ireturn, 1) := by decide +kernel
