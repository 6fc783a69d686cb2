theorem dX10_init_0 : decode cX10_init 0 = .ok (.aload_n 0, 1) := by decide +kernel
theorem dX10_init_1 : decode cX10_init 1 = .ok (.invokespecial 3, 3) := by decide +kernel
theorem dX10_init_4 : decode cX10_init 4 = .ok (.aload_n 0, 1) := by decide +kernel
theorem dX10_init_5 : decode cX10_init 5 = .ok (.bipush 24, 2) := by decide +kernel
theorem dX10_init_7 : decode cX10_init 7 = .ok (.newarray .int, 2) := by decide +kernel
theorem dX10_init_9 : decode cX10_init 9 = .ok (.putfield 9, 3) := by decide +kernel
theorem dX10_init_12 : decode cX10_init 12 = .ok (.aload_n 0, 1) := by decide +kernel
theorem dX10_init_13 : decode cX10_init 13 = .ok (.bipush 8, 2) := by decide +kernel
theorem dX10_init_15 : decode cX10_init 15 = .ok (.putfield 15, 3) := by decide +kernel
theorem dX10_init_18 : decode cX10_init 18 = .ok (.aload_n 0, 1) := by decide +kernel
theorem dX10_init_19 : decode cX10_init 19 = .ok (.bipush 24, 2) := by decide +kernel
theorem dX10_init_21 : decode cX10_init 21 = .ok (.newarray .int, 2) := by decide +kernel
theorem dX10_init_23 : decode cX10_init 23 = .ok (.putfield 19, 3) := by decide +kernel
theorem dX10_init_26 : decode cX10_init 26 = .ok (.aload_n 0, 1) := by decide +kernel
theorem dX10_init_27 : decode cX10_init 27 = .ok (.bipush 34, 2) := by decide +kernel
theorem dX10_init_29 : decode cX10_init 29 = .ok (.newarray .int, 2) := by decide +kernel
theorem dX10_init_31 : decode cX10_init 31 = .ok (.putfield 22, 3) := by decide +kernel
theorem dX10_init_34 : decode cX10_init 34 = .ok (.return_, 1) := by decide +kernel
set_option maxRecDepth 20000 in
theorem ggX10_copyFrom_X11_copyRow : GoodIn wsX10_copyFrom wsX11_copyRow := goodIn_r _ [5, 6, 7, 8, 9, 10, 11, 12, 13] (by decide +kernel) (by decide +kernel)
set_option maxRecDepth 20000 in
theorem gX10_copyFrom_X11_copyRow_n25 : GoodIn wsX10_copyFrom (wsX11_copyRow) := ggX10_copyFrom_X11_copyRow
theorem dX10_copyFrom_0 : decode cX10_copyFrom 0 = .ok (.aload_n 1, 1) := by decide +kernel
theorem dX10_copyFrom_1 : decode cX10_copyFrom 1 = .ok (.getfield 9, 3) := by decide +kernel
theorem dX10_copyFrom_4 : decode cX10_copyFrom 4 = .ok (.aload_n 0, 1) := by decide +kernel
theorem dX10_copyFrom_5 : decode cX10_copyFrom 5 = .ok (.getfield 9, 3) := by decide +kernel
theorem dX10_copyFrom_8 : decode cX10_copyFrom 8 = .ok (.invokestatic 25, 3) := by decide +kernel
theorem dX10_copyFrom_11 : decode cX10_copyFrom 11 = .ok (.aload_n 0, 1) := by decide +kernel
theorem dX10_copyFrom_12 : decode cX10_copyFrom 12 = .ok (.aload_n 1, 1) := by decide +kernel
theorem dX10_copyFrom_13 : decode cX10_copyFrom 13 = .ok (.getfield 15, 3) := by decide +kernel
theorem dX10_copyFrom_16 : decode cX10_copyFrom 16 = .ok (.putfield 15, 3) := by decide +kernel
theorem dX10_copyFrom_19 : decode cX10_copyFrom 19 = .ok (.return_, 1) := by decide +kernel
set_option maxRecDepth 20000 in
theorem ggX10_planStarts_X11_fillRow : GoodIn wsX10_planStarts wsX11_fillRow := goodIn_r _ [10] (by decide +kernel) (by decide +kernel)
set_option maxRecDepth 20000 in
theorem gX10_planStarts_X11_fillRow_n29 : GoodIn wsX10_planStarts (wsX11_fillRow) := ggX10_planStarts_X11_fillRow
set_option maxRecDepth 20000 in
theorem ggX10_planStarts_X10_helpersAt : GoodIn wsX10_planStarts wsX10_helpersAt := goodIn_r _ [15, 3, 16, 17, 6, 18, 1, 19, 20, 21, 22] (by decide +kernel) (by decide +kernel)
set_option maxRecDepth 20000 in
theorem gX10_planStarts_X10_helpersAt : GoodIn wsX10_planStarts (wsV RX10 33 RX10 yX10_helpersAt wsX10_helpersAt) := goodIn_app (goodIn_of _ (by decide +kernel)) ggX10_planStarts_X10_helpersAt
theorem dX10_planStarts_0 : decode cX10_planStarts 0 = .ok (.aload_n 0, 1) := by decide +kernel
theorem dX10_planStarts_1 : decode cX10_planStarts 1 = .ok (.getfield 19, 3) := by decide +kernel
theorem dX10_planStarts_4 : decode cX10_planStarts 4 = .ok (.iconst 0, 1) := by decide +kernel
theorem dX10_planStarts_5 : decode cX10_planStarts 5 = .ok (.invokestatic 29, 3) := by decide +kernel
theorem dX10_planStarts_8 : decode cX10_planStarts 8 = .ok (.iconst 0, 1) := by decide +kernel
theorem dX10_planStarts_9 : decode cX10_planStarts 9 = .ok (.istore_n 1, 1) := by decide +kernel
theorem dX10_planStarts_10 : decode cX10_planStarts 10 = .ok (.iload_n 1, 1) := by decide +kernel
theorem dX10_planStarts_11 : decode cX10_planStarts 11 = .ok (.bipush 24, 2) := by decide +kernel
theorem dX10_planStarts_13 : decode cX10_planStarts 13 = .ok (.if_icmp .ge 52, 3) := by decide +kernel
theorem dX10_planStarts_16 : decode cX10_planStarts 16 = .ok (.aload_n 0, 1) := by decide +kernel
theorem dX10_planStarts_17 : decode cX10_planStarts 17 = .ok (.getfield 9, 3) := by decide +kernel
theorem dX10_planStarts_20 : decode cX10_planStarts 20 = .ok (.iload_n 1, 1) := by decide +kernel
theorem dX10_planStarts_21 : decode cX10_planStarts 21 = .ok (.iaload, 1) := by decide +kernel
theorem dX10_planStarts_22 : decode cX10_planStarts 22 = .ok (.aload_n 0, 1) := by decide +kernel
theorem dX10_planStarts_23 : decode cX10_planStarts 23 = .ok (.iload_n 1, 1) := by decide +kernel
theorem dX10_planStarts_24 : decode cX10_planStarts 24 = .ok (.invokevirtual 33, 3) := by decide +kernel
theorem dX10_planStarts_27 : decode cX10_planStarts 27 = .ok (.isub, 1) := by decide +kernel
theorem dX10_planStarts_28 : decode cX10_planStarts 28 = .ok (.istore_n 2, 1) := by decide +kernel
theorem dX10_planStarts_29 : decode cX10_planStarts 29 = .ok (.iload_n 1, 1) := by decide +kernel
theorem dX10_planStarts_30 : decode cX10_planStarts 30 = .ok (.bipush 24, 2) := by decide +kernel
theorem dX10_planStarts_32 : decode cX10_planStarts 32 = .ok (.aload_n 0, 1) := by decide +kernel
theorem dX10_planStarts_33 : decode cX10_planStarts 33 = .ok (.getfield 15, 3) := by decide +kernel
theorem dX10_planStarts_36 : decode cX10_planStarts 36 = .ok (.isub, 1) := by decide +kernel
theorem dX10_planStarts_37 : decode cX10_planStarts 37 = .ok (.invokestatic 37, 3) := by decide +kernel
theorem dX10_planStarts_40 : decode cX10_planStarts 40 = .ok (.istore_n 3, 1) := by decide +kernel
theorem dX10_planStarts_41 : decode cX10_planStarts 41 = .ok (.iload_n 2, 1) := by decide +kernel
theorem dX10_planStarts_42 : decode cX10_planStarts 42 = .ok (.ifCond .le 17, 3) := by decide +kernel
theorem dX10_planStarts_45 : decode cX10_planStarts 45 = .ok (.iload_n 3, 1) := by decide +kernel
theorem dX10_planStarts_46 : decode cX10_planStarts 46 = .ok (.ifCond .lt 13, 3) := by decide +kernel
theorem dX10_planStarts_49 : decode cX10_planStarts 49 = .ok (.aload_n 0, 1) := by decide +kernel
theorem dX10_planStarts_50 : decode cX10_planStarts 50 = .ok (.getfield 19, 3) := by decide +kernel
theorem dX10_planStarts_53 : decode cX10_planStarts 53 = .ok (.iload_n 3, 1) := by decide +kernel
theorem dX10_planStarts_54 : decode cX10_planStarts 54 = .ok (.dup2, 1) := by decide +kernel
theorem dX10_planStarts_55 : decode cX10_planStarts 55 = .ok (.iaload, 1) := by decide +kernel
theorem dX10_planStarts_56 : decode cX10_planStarts 56 = .ok (.iload_n 2, 1) := by decide +kernel
theorem dX10_planStarts_57 : decode cX10_planStarts 57 = .ok (.iadd, 1) := by decide +kernel
theorem dX10_planStarts_58 : decode cX10_planStarts 58 = .ok (.iastore, 1) := by decide +kernel
theorem dX10_planStarts_59 : decode cX10_planStarts 59 = .ok (.iinc 1 1, 3) := by decide +kernel
theorem dX10_planStarts_62 : decode cX10_planStarts 62 = .ok (.goto (-52), 3) := by decide +kernel
theorem dX10_planStarts_65 : decode cX10_planStarts 65 = .ok (.return_, 1) := by decide +kernel
theorem dX10_helpersAt_0 : decode cX10_helpersAt 0 = .ok (.iconst 0, 1) := by decide +kernel
theorem dX10_helpersAt_1 : decode cX10_helpersAt 1 = .ok (.istore_n 2, 1) := by decide +kernel
theorem dX10_helpersAt_2 : decode cX10_helpersAt 2 = .ok (.iconst 0, 1) := by decide +kernel
theorem dX10_helpersAt_3 : decode cX10_helpersAt 3 = .ok (.iload_n 1, 1) := by decide +kernel
theorem dX10_helpersAt_4 : decode cX10_helpersAt 4 = .ok (.aload_n 0, 1) := by decide +kernel
theorem dX10_helpersAt_5 : decode cX10_helpersAt 5 = .ok (.getfield 15, 3) := by decide +kernel
theorem dX10_helpersAt_8 : decode cX10_helpersAt 8 = .ok (.isub, 1) := by decide +kernel
theorem dX10_helpersAt_9 : decode cX10_helpersAt 9 = .ok (.iconst 1, 1) := by decide +kernel
theorem dX10_helpersAt_10 : decode cX10_helpersAt 10 = .ok (.iadd, 1) := by decide +kernel
theorem dX10_helpersAt_11 : decode cX10_helpersAt 11 = .ok (.invokestatic 43, 3) := by decide +kernel
theorem dX10_helpersAt_14 : decode cX10_helpersAt 14 = .ok (.istore_n 3, 1) := by decide +kernel
theorem dX10_helpersAt_15 : decode cX10_helpersAt 15 = .ok (.iload_n 3, 1) := by decide +kernel
theorem dX10_helpersAt_16 : decode cX10_helpersAt 16 = .ok (.istore 4, 2) := by decide +kernel
theorem dX10_helpersAt_18 : decode cX10_helpersAt 18 = .ok (.iload 4, 2) := by decide +kernel
theorem dX10_helpersAt_20 : decode cX10_helpersAt 20 = .ok (.iload_n 1, 1) := by decide +kernel
theorem dX10_helpersAt_21 : decode cX10_helpersAt 21 = .ok (.if_icmp .gt 26, 3) := by decide +kernel
theorem dX10_helpersAt_24 : decode cX10_helpersAt 24 = .ok (.iload 4, 2) := by decide +kernel
theorem dX10_helpersAt_26 : decode cX10_helpersAt 26 = .ok (.bipush 24, 2) := by decide +kernel
theorem dX10_helpersAt_28 : decode cX10_helpersAt 28 = .ok (.if_icmp .ge 19, 3) := by decide +kernel
theorem dX10_helpersAt_31 : decode cX10_helpersAt 31 = .ok (.iload_n 2, 1) := by decide +kernel
theorem dX10_helpersAt_32 : decode cX10_helpersAt 32 = .ok (.aload_n 0, 1) := by decide +kernel
theorem dX10_helpersAt_33 : decode cX10_helpersAt 33 = .ok (.getfield 19, 3) := by decide +kernel
theorem dX10_helpersAt_36 : decode cX10_helpersAt 36 = .ok (.iload 4, 2) := by decide +kernel
theorem dX10_helpersAt_38 : decode cX10_helpersAt 38 = .ok (.iaload, 1) := by decide +kernel
theorem dX10_helpersAt_39 : decode cX10_helpersAt 39 = .ok (.iadd, 1) := by decide +kernel
theorem dX10_helpersAt_40 : decode cX10_helpersAt 40 = .ok (.istore_n 2, 1) := by decide +kernel
theorem dX10_helpersAt_41 : decode cX10_helpersAt 41 = .ok (.iinc 4 1, 3) := by decide +kernel
theorem dX10_helpersAt_44 : decode cX10_helpersAt 44 = .ok (.goto (-26), 3) := by decide +kernel
theorem dX10_helpersAt_47 : decode cX10_helpersAt 47 = .ok (.iload_n 2, 1) := by decide +kernel
theorem dX10_helpersAt_48 : decode cX10_helpersAt 48 = .ok (.ireturn, 1) := by decide +kernel
set_option maxRecDepth 20000 in
theorem ggX10_sumOfStarts_X11_sumOf : GoodIn wsX10_sumOfStarts wsX11_sumOf := goodIn_r _ [4] (by decide +kernel) (by decide +kernel)
set_option maxRecDepth 20000 in
theorem gX10_sumOfStarts_X11_sumOf_n46 : GoodIn wsX10_sumOfStarts (wsX11_sumOf) := ggX10_sumOfStarts_X11_sumOf
theorem dX10_sumOfStarts_0 : decode cX10_sumOfStarts 0 = .ok (.aload_n 0, 1) := by decide +kernel
theorem dX10_sumOfStarts_1 : decode cX10_sumOfStarts 1 = .ok (.getfield 19, 3) := by decide +kernel
theorem dX10_sumOfStarts_4 : decode cX10_sumOfStarts 4 = .ok (.invokestatic 46, 3) := by decide +kernel
theorem dX10_sumOfStarts_7 : decode cX10_sumOfStarts 7 = .ok (.ireturn, 1) := by decide +kernel
set_option maxRecDepth 20000 in
theorem ggX10_neediestHours_X11_fillRow : GoodIn wsX10_neediestHours wsX11_fillRow := goodIn_r _ [10] (by decide +kernel) (by decide +kernel)
set_option maxRecDepth 20000 in
theorem gX10_neediestHours_X11_fillRow_n29 : GoodIn wsX10_neediestHours (wsX11_fillRow) := ggX10_neediestHours_X11_fillRow
set_option maxRecDepth 20000 in
theorem ggX10_neediestHours_X10_mostWith : GoodIn wsX10_neediestHours wsX10_mostWith := goodIn_r _ [15, 7, 1, 6, 16, 17, 18, 19] (by decide +kernel) (by decide +kernel)
set_option maxRecDepth 20000 in
theorem gX10_neediestHours_X10_mostWith : GoodIn wsX10_neediestHours (wsV RX10 50 RX10 yX10_mostWith wsX10_mostWith) := goodIn_app (goodIn_of _ (by decide +kernel)) ggX10_neediestHours_X10_mostWith
theorem dX10_neediestHours_0 : decode cX10_neediestHours 0 = .ok (.aload_n 0, 1) := by decide +kernel
theorem dX10_neediestHours_1 : decode cX10_neediestHours 1 = .ok (.getfield 22, 3) := by decide +kernel
theorem dX10_neediestHours_4 : decode cX10_neediestHours 4 = .ok (.iconst 0, 1) := by decide +kernel
theorem dX10_neediestHours_5 : decode cX10_neediestHours 5 = .ok (.invokestatic 29, 3) := by decide +kernel
theorem dX10_neediestHours_8 : decode cX10_neediestHours 8 = .ok (.bipush 23, 2) := by decide +kernel
theorem dX10_neediestHours_10 : decode cX10_neediestHours 10 = .ok (.istore_n 1, 1) := by decide +kernel
theorem dX10_neediestHours_11 : decode cX10_neediestHours 11 = .ok (.iload_n 1, 1) := by decide +kernel
theorem dX10_neediestHours_12 : decode cX10_neediestHours 12 = .ok (.ifCond .lt 31, 3) := by decide +kernel
theorem dX10_neediestHours_15 : decode cX10_neediestHours 15 = .ok (.aload_n 0, 1) := by decide +kernel
theorem dX10_neediestHours_16 : decode cX10_neediestHours 16 = .ok (.getfield 22, 3) := by decide +kernel
theorem dX10_neediestHours_19 : decode cX10_neediestHours 19 = .ok (.iload_n 1, 1) := by decide +kernel
theorem dX10_neediestHours_20 : decode cX10_neediestHours 20 = .ok (.aload_n 0, 1) := by decide +kernel
theorem dX10_neediestHours_21 : decode cX10_neediestHours 21 = .ok (.getfield 22, 3) := by decide +kernel
theorem dX10_neediestHours_24 : decode cX10_neediestHours 24 = .ok (.iload_n 1, 1) := by decide +kernel
theorem dX10_neediestHours_25 : decode cX10_neediestHours 25 = .ok (.iconst 1, 1) := by decide +kernel
theorem dX10_neediestHours_26 : decode cX10_neediestHours 26 = .ok (.iadd, 1) := by decide +kernel
theorem dX10_neediestHours_27 : decode cX10_neediestHours 27 = .ok (.iaload, 1) := by decide +kernel
theorem dX10_neediestHours_28 : decode cX10_neediestHours 28 = .ok (.aload_n 0, 1) := by decide +kernel
theorem dX10_neediestHours_29 : decode cX10_neediestHours 29 = .ok (.iload_n 1, 1) := by decide +kernel
theorem dX10_neediestHours_30 : decode cX10_neediestHours 30 = .ok (.invokevirtual 50, 3) := by decide +kernel
theorem dX10_neediestHours_33 : decode cX10_neediestHours 33 = .ok (.invokestatic 43, 3) := by decide +kernel
theorem dX10_neediestHours_36 : decode cX10_neediestHours 36 = .ok (.iastore, 1) := by decide +kernel
theorem dX10_neediestHours_37 : decode cX10_neediestHours 37 = .ok (.iinc 1 (-1), 3) := by decide +kernel
theorem dX10_neediestHours_40 : decode cX10_neediestHours 40 = .ok (.goto (-29), 3) := by decide +kernel
theorem dX10_neediestHours_43 : decode cX10_neediestHours 43 = .ok (.iconst 0, 1) := by decide +kernel
theorem dX10_neediestHours_44 : decode cX10_neediestHours 44 = .ok (.istore_n 1, 1) := by decide +kernel
theorem dX10_neediestHours_45 : decode cX10_neediestHours 45 = .ok (.iconst 0, 1) := by decide +kernel
theorem dX10_neediestHours_46 : decode cX10_neediestHours 46 = .ok (.istore_n 2, 1) := by decide +kernel
theorem dX10_neediestHours_47 : decode cX10_neediestHours 47 = .ok (.iconst 0, 1) := by decide +kernel
theorem dX10_neediestHours_48 : decode cX10_neediestHours 48 = .ok (.istore_n 3, 1) := by decide +kernel
theorem dX10_neediestHours_49 : decode cX10_neediestHours 49 = .ok (.iload_n 3, 1) := by decide +kernel
theorem dX10_neediestHours_50 : decode cX10_neediestHours 50 = .ok (.bipush 24, 2) := by decide +kernel
theorem dX10_neediestHours_52 : decode cX10_neediestHours 52 = .ok (.if_icmp .ge 52, 3) := by decide +kernel
theorem dX10_neediestHours_55 : decode cX10_neediestHours 55 = .ok (.iload_n 3, 1) := by decide +kernel
theorem dX10_neediestHours_56 : decode cX10_neediestHours 56 = .ok (.iload_n 2, 1) := by decide +kernel
theorem dX10_neediestHours_57 : decode cX10_neediestHours 57 = .ok (.if_icmp .lt 41, 3) := by decide +kernel
theorem dX10_neediestHours_60 : decode cX10_neediestHours 60 = .ok (.aload_n 0, 1) := by decide +kernel
theorem dX10_neediestHours_61 : decode cX10_neediestHours 61 = .ok (.getfield 9, 3) := by decide +kernel
theorem dX10_neediestHours_64 : decode cX10_neediestHours 64 = .ok (.iload_n 3, 1) := by decide +kernel
theorem dX10_neediestHours_65 : decode cX10_neediestHours 65 = .ok (.iaload, 1) := by decide +kernel
theorem dX10_neediestHours_66 : decode cX10_neediestHours 66 = .ok (.ifCond .le 32, 3) := by decide +kernel
theorem dX10_neediestHours_69 : decode cX10_neediestHours 69 = .ok (.aload_n 0, 1) := by decide +kernel
theorem dX10_neediestHours_70 : decode cX10_neediestHours 70 = .ok (.iload_n 3, 1) := by decide +kernel
theorem dX10_neediestHours_71 : decode cX10_neediestHours 71 = .ok (.invokevirtual 50, 3) := by decide +kernel
theorem dX10_neediestHours_74 : decode cX10_neediestHours 74 = .ok (.aload_n 0, 1) := by decide +kernel
theorem dX10_neediestHours_75 : decode cX10_neediestHours 75 = .ok (.getfield 22, 3) := by decide +kernel
theorem dX10_neediestHours_78 : decode cX10_neediestHours 78 = .ok (.iload_n 3, 1) := by decide +kernel
theorem dX10_neediestHours_79 : decode cX10_neediestHours 79 = .ok (.iconst 1, 1) := by decide +kernel
theorem dX10_neediestHours_80 : decode cX10_neediestHours 80 = .ok (.iadd, 1) := by decide +kernel
theorem dX10_neediestHours_81 : decode cX10_neediestHours 81 = .ok (.iaload, 1) := by decide +kernel
theorem dX10_neediestHours_82 : decode cX10_neediestHours 82 = .ok (.if_icmp .lt 16, 3) := by decide +kernel
theorem dX10_neediestHours_85 : decode cX10_neediestHours 85 = .ok (.iload_n 1, 1) := by decide +kernel
theorem dX10_neediestHours_86 : decode cX10_neediestHours 86 = .ok (.iconst 1, 1) := by decide +kernel
theorem dX10_neediestHours_87 : decode cX10_neediestHours 87 = .ok (.iload_n 3, 1) := by decide +kernel
theorem dX10_neediestHours_88 : decode cX10_neediestHours 88 = .ok (.ishl, 1) := by decide +kernel
theorem dX10_neediestHours_89 : decode cX10_neediestHours 89 = .ok (.ior, 1) := by decide +kernel
theorem dX10_neediestHours_90 : decode cX10_neediestHours 90 = .ok (.istore_n 1, 1) := by decide +kernel
theorem dX10_neediestHours_91 : decode cX10_neediestHours 91 = .ok (.iload_n 3, 1) := by decide +kernel
theorem dX10_neediestHours_92 : decode cX10_neediestHours 92 = .ok (.aload_n 0, 1) := by decide +kernel
theorem dX10_neediestHours_93 : decode cX10_neediestHours 93 = .ok (.getfield 15, 3) := by decide +kernel
theorem dX10_neediestHours_96 : decode cX10_neediestHours 96 = .ok (.iadd, 1) := by decide +kernel
theorem dX10_neediestHours_97 : decode cX10_neediestHours 97 = .ok (.istore_n 2, 1) := by decide +kernel
theorem dX10_neediestHours_98 : decode cX10_neediestHours 98 = .ok (.iinc 3 1, 3) := by decide +kernel
theorem dX10_neediestHours_101 : decode cX10_neediestHours 101 = .ok (.goto (-52), 3) := by decide +kernel
theorem dX10_neediestHours_104 : decode cX10_neediestHours 104 = .ok (.iload_n 1, 1) := by decide +kernel
theorem dX10_neediestHours_105 : decode cX10_neediestHours 105 = .ok (.ireturn, 1) := by decide +kernel
theorem dX10_mostWith_0 : decode cX10_mostWith 0 = .ok (.iload_n 1, 1) := by decide +kernel
theorem dX10_mostWith_1 : decode cX10_mostWith 1 = .ok (.aload_n 0, 1) := by decide +kernel
theorem dX10_mostWith_2 : decode cX10_mostWith 2 = .ok (.getfield 15, 3) := by decide +kernel
theorem dX10_mostWith_5 : decode cX10_mostWith 5 = .ok (.iadd, 1) := by decide +kernel
theorem dX10_mostWith_6 : decode cX10_mostWith 6 = .ok (.istore_n 2, 1) := by decide +kernel
theorem dX10_mostWith_7 : decode cX10_mostWith 7 = .ok (.iload_n 1, 1) := by decide +kernel
theorem dX10_mostWith_8 : decode cX10_mostWith 8 = .ok (.ifCond .lt 22, 3) := by decide +kernel
theorem dX10_mostWith_11 : decode cX10_mostWith 11 = .ok (.iload_n 1, 1) := by decide +kernel
theorem dX10_mostWith_12 : decode cX10_mostWith 12 = .ok (.bipush 24, 2) := by decide +kernel
theorem dX10_mostWith_14 : decode cX10_mostWith 14 = .ok (.if_icmp .ge 16, 3) := by decide +kernel
theorem dX10_mostWith_17 : decode cX10_mostWith 17 = .ok (.iload_n 2, 1) := by decide +kernel
theorem dX10_mostWith_18 : decode cX10_mostWith 18 = .ok (.ifCond .lt 12, 3) := by decide +kernel
theorem dX10_mostWith_21 : decode cX10_mostWith 21 = .ok (.iload_n 2, 1) := by decide +kernel
theorem dX10_mostWith_22 : decode cX10_mostWith 22 = .ok (.aload_n 0, 1) := by decide +kernel
theorem dX10_mostWith_23 : decode cX10_mostWith 23 = .ok (.getfield 22, 3) := by decide +kernel
theorem dX10_mostWith_26 : decode cX10_mostWith 26 = .ok (.arraylength, 1) := by decide +kernel
theorem dX10_mostWith_27 : decode cX10_mostWith 27 = .ok (.if_icmp .lt 5, 3) := by decide +kernel
theorem dX10_mostWith_30 : decode cX10_mostWith 30 = .ok (.iconst 0, 1) := by decide +kernel
theorem dX10_mostWith_31 : decode cX10_mostWith 31 = .ok (.ireturn, 1) := by decide +kernel
theorem dX10_mostWith_32 : decode cX10_mostWith 32 = .ok (.aload_n 0, 1) := by decide +kernel
theorem dX10_mostWith_33 : decode cX10_mostWith 33 = .ok (.getfield 9, 3) := by decide +kernel
theorem dX10_mostWith_36 : decode cX10_mostWith 36 = .ok (.iload_n 1, 1) := by decide +kernel
theorem dX10_mostWith_37 : decode cX10_mostWith 37 = .ok (.iaload, 1) := by decide +kernel
theorem dX10_mostWith_38 : decode cX10_mostWith 38 = .ok (.aload_n 0, 1) := by decide +kernel
theorem dX10_mostWith_39 : decode cX10_mostWith 39 = .ok (.getfield 22, 3) := by decide +kernel
theorem dX10_mostWith_42 : decode cX10_mostWith 42 = .ok (.iload_n 2, 1) := by decide +kernel
theorem dX10_mostWith_43 : decode cX10_mostWith 43 = .ok (.iaload, 1) := by decide +kernel
theorem dX10_mostWith_44 : decode cX10_mostWith 44 = .ok (.iadd, 1) := by decide +kernel
theorem dX10_mostWith_45 : decode cX10_mostWith 45 = .ok (.ireturn, 1) := by decide +kernel
theorem dX10_needOf_0 : decode cX10_needOf 0 = .ok (.iconst 0, 1) := by decide +kernel
theorem dX10_needOf_1 : decode cX10_needOf 1 = .ok (.istore_n 2, 1) := by decide +kernel
theorem dX10_needOf_2 : decode cX10_needOf 2 = .ok (.iconst 0, 1) := by decide +kernel
theorem dX10_needOf_3 : decode cX10_needOf 3 = .ok (.istore_n 3, 1) := by decide +kernel
theorem dX10_needOf_4 : decode cX10_needOf 4 = .ok (.iload_n 3, 1) := by decide +kernel
theorem dX10_needOf_5 : decode cX10_needOf 5 = .ok (.bipush 24, 2) := by decide +kernel
theorem dX10_needOf_7 : decode cX10_needOf 7 = .ok (.if_icmp .ge 26, 3) := by decide +kernel
theorem dX10_needOf_10 : decode cX10_needOf 10 = .ok (.iload_n 1, 1) := by decide +kernel
theorem dX10_needOf_11 : decode cX10_needOf 11 = .ok (.iload_n 3, 1) := by decide +kernel
theorem dX10_needOf_12 : decode cX10_needOf 12 = .ok (.ishr, 1) := by decide +kernel
theorem dX10_needOf_13 : decode cX10_needOf 13 = .ok (.iconst 1, 1) := by decide +kernel
theorem dX10_needOf_14 : decode cX10_needOf 14 = .ok (.iand, 1) := by decide +kernel
theorem dX10_needOf_15 : decode cX10_needOf 15 = .ok (.ifCond .eq 12, 3) := by decide +kernel
theorem dX10_needOf_18 : decode cX10_needOf 18 = .ok (.iload_n 2, 1) := by decide +kernel
theorem dX10_needOf_19 : decode cX10_needOf 19 = .ok (.aload_n 0, 1) := by decide +kernel
theorem dX10_needOf_20 : decode cX10_needOf 20 = .ok (.getfield 9, 3) := by decide +kernel
theorem dX10_needOf_23 : decode cX10_needOf 23 = .ok (.iload_n 3, 1) := by decide +kernel
theorem dX10_needOf_24 : decode cX10_needOf 24 = .ok (.iaload, 1) := by decide +kernel
theorem dX10_needOf_25 : decode cX10_needOf 25 = .ok (.iadd, 1) := by decide +kernel
theorem dX10_needOf_26 : decode cX10_needOf 26 = .ok (.istore_n 2, 1) := by decide +kernel
theorem dX10_needOf_27 : decode cX10_needOf 27 = .ok (.iinc 3 1, 3) := by decide +kernel
theorem dX10_needOf_30 : decode cX10_needOf 30 = .ok (.goto (-26), 3) := by decide +kernel
theorem dX10_needOf_33 : decode cX10_needOf 33 = .ok (.iload_n 2, 1) := by decide +kernel
theorem dX10_needOf_34 : decode cX10_needOf 34 = .ok (.ireturn, 1) := by decide +kernel
