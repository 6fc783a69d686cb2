set_option maxRecDepth 20000 in
theorem ggX4_init_X11_fillRow : GoodIn wsX4_init wsX11_fillRow := goodIn_r _ [12] (by decide +kernel) (by decide +kernel)
set_option maxRecDepth 20000 in
theorem gX4_init_X11_fillRow_n25 : GoodIn wsX4_init (wsX11_fillRow) := ggX4_init_X11_fillRow
theorem dX4_init_0 : decode cX4_init 0 = .ok (.aload_n 0, 1) := by decide +kernel
theorem dX4_init_1 : decode cX4_init 1 = .ok (.invokespecial 3, 3) := by decide +kernel
theorem dX4_init_4 : decode cX4_init 4 = .ok (.aload_n 0, 1) := by decide +kernel
theorem dX4_init_5 : decode cX4_init 5 = .ok (.iconst 4, 1) := by decide +kernel
theorem dX4_init_6 : decode cX4_init 6 = .ok (.newarray .boolean, 2) := by decide +kernel
theorem dX4_init_8 : decode cX4_init 8 = .ok (.putfield 9, 3) := by decide +kernel
theorem dX4_init_11 : decode cX4_init 11 = .ok (.aload_n 0, 1) := by decide +kernel
theorem dX4_init_12 : decode cX4_init 12 = .ok (.bipush 16, 2) := by decide +kernel
theorem dX4_init_14 : decode cX4_init 14 = .ok (.newarray .int, 2) := by decide +kernel
theorem dX4_init_16 : decode cX4_init 16 = .ok (.putfield 15, 3) := by decide +kernel
theorem dX4_init_19 : decode cX4_init 19 = .ok (.aload_n 0, 1) := by decide +kernel
theorem dX4_init_20 : decode cX4_init 20 = .ok (.bipush 16, 2) := by decide +kernel
theorem dX4_init_22 : decode cX4_init 22 = .ok (.newarray .int, 2) := by decide +kernel
theorem dX4_init_24 : decode cX4_init 24 = .ok (.putfield 19, 3) := by decide +kernel
theorem dX4_init_27 : decode cX4_init 27 = .ok (.aload_n 0, 1) := by decide +kernel
theorem dX4_init_28 : decode cX4_init 28 = .ok (.bipush 100, 2) := by decide +kernel
theorem dX4_init_30 : decode cX4_init 30 = .ok (.newarray .int, 2) := by decide +kernel
theorem dX4_init_32 : decode cX4_init 32 = .ok (.putfield 22, 3) := by decide +kernel
theorem dX4_init_35 : decode cX4_init 35 = .ok (.iconst 0, 1) := by decide +kernel
theorem dX4_init_36 : decode cX4_init 36 = .ok (.istore_n 1, 1) := by decide +kernel
theorem dX4_init_37 : decode cX4_init 37 = .ok (.iload_n 1, 1) := by decide +kernel
theorem dX4_init_38 : decode cX4_init 38 = .ok (.aload_n 0, 1) := by decide +kernel
theorem dX4_init_39 : decode cX4_init 39 = .ok (.getfield 15, 3) := by decide +kernel
theorem dX4_init_42 : decode cX4_init 42 = .ok (.arraylength, 1) := by decide +kernel
theorem dX4_init_43 : decode cX4_init 43 = .ok (.if_icmp .ge 51, 3) := by decide +kernel
theorem dX4_init_46 : decode cX4_init 46 = .ok (.iload_n 1, 1) := by decide +kernel
theorem dX4_init_47 : decode cX4_init 47 = .ok (.aload_n 0, 1) := by decide +kernel
theorem dX4_init_48 : decode cX4_init 48 = .ok (.getfield 19, 3) := by decide +kernel
theorem dX4_init_51 : decode cX4_init 51 = .ok (.arraylength, 1) := by decide +kernel
theorem dX4_init_52 : decode cX4_init 52 = .ok (.if_icmp .ge 42, 3) := by decide +kernel
theorem dX4_init_55 : decode cX4_init 55 = .ok (.aload_n 0, 1) := by decide +kernel
theorem dX4_init_56 : decode cX4_init 56 = .ok (.getfield 15, 3) := by decide +kernel
theorem dX4_init_59 : decode cX4_init 59 = .ok (.iload_n 1, 1) := by decide +kernel
theorem dX4_init_60 : decode cX4_init 60 = .ok (.iload_n 1, 1) := by decide +kernel
theorem dX4_init_61 : decode cX4_init 61 = .ok (.iconst 4, 1) := by decide +kernel
theorem dX4_init_62 : decode cX4_init 62 = .ok (.idiv, 1) := by decide +kernel
theorem dX4_init_63 : decode cX4_init 63 = .ok (.iload_n 1, 1) := by decide +kernel
theorem dX4_init_64 : decode cX4_init 64 = .ok (.iconst 4, 1) := by decide +kernel
theorem dX4_init_65 : decode cX4_init 65 = .ok (.irem, 1) := by decide +kernel
theorem dX4_init_66 : decode cX4_init 66 = .ok (.if_icmp .ne 7, 3) := by decide +kernel
theorem dX4_init_69 : decode cX4_init 69 = .ok (.iconst 0, 1) := by decide +kernel
theorem dX4_init_70 : decode cX4_init 70 = .ok (.goto 5, 3) := by decide +kernel
theorem dX4_init_73 : decode cX4_init 73 = .ok (.bipush 10, 2) := by decide +kernel
theorem dX4_init_75 : decode cX4_init 75 = .ok (.iastore, 1) := by decide +kernel
theorem dX4_init_76 : decode cX4_init 76 = .ok (.aload_n 0, 1) := by decide +kernel
theorem dX4_init_77 : decode cX4_init 77 = .ok (.getfield 19, 3) := by decide +kernel
theorem dX4_init_80 : decode cX4_init 80 = .ok (.iload_n 1, 1) := by decide +kernel
theorem dX4_init_81 : decode cX4_init 81 = .ok (.aload_n 0, 1) := by decide +kernel
theorem dX4_init_82 : decode cX4_init 82 = .ok (.getfield 15, 3) := by decide +kernel
theorem dX4_init_85 : decode cX4_init 85 = .ok (.iload_n 1, 1) := by decide +kernel
theorem dX4_init_86 : decode cX4_init 86 = .ok (.iaload, 1) := by decide +kernel
theorem dX4_init_87 : decode cX4_init 87 = .ok (.iastore, 1) := by decide +kernel
theorem dX4_init_88 : decode cX4_init 88 = .ok (.iinc 1 1, 3) := by decide +kernel
theorem dX4_init_91 : decode cX4_init 91 = .ok (.goto (-54), 3) := by decide +kernel
theorem dX4_init_94 : decode cX4_init 94 = .ok (.aload_n 0, 1) := by decide +kernel
theorem dX4_init_95 : decode cX4_init 95 = .ok (.getfield 22, 3) := by decide +kernel
theorem dX4_init_98 : decode cX4_init 98 = .ok (.iconst (-1), 1) := by decide +kernel
theorem dX4_init_99 : decode cX4_init 99 = .ok (.invokestatic 25, 3) := by decide +kernel
theorem dX4_init_102 : decode cX4_init 102 = .ok (.return_, 1) := by decide +kernel
set_option maxRecDepth 20000 in
theorem ggX4_copyFrom_X11_copyRow : GoodIn wsX4_copyFrom wsX11_copyRow := goodIn_r _ [7, 8, 9, 10, 11, 12, 13, 14, 15] (by decide +kernel) (by decide +kernel)
set_option maxRecDepth 20000 in
theorem gX4_copyFrom_X11_copyRow_n29 : GoodIn wsX4_copyFrom (wsX11_copyRow) := ggX4_copyFrom_X11_copyRow
theorem dX4_copyFrom_0 : decode cX4_copyFrom 0 = .ok (.iconst 0, 1) := by decide +kernel
theorem dX4_copyFrom_1 : decode cX4_copyFrom 1 = .ok (.istore_n 2, 1) := by decide +kernel
theorem dX4_copyFrom_2 : decode cX4_copyFrom 2 = .ok (.iload_n 2, 1) := by decide +kernel
theorem dX4_copyFrom_3 : decode cX4_copyFrom 3 = .ok (.iconst 4, 1) := by decide +kernel
theorem dX4_copyFrom_4 : decode cX4_copyFrom 4 = .ok (.if_icmp .ge 21, 3) := by decide +kernel
theorem dX4_copyFrom_7 : decode cX4_copyFrom 7 = .ok (.aload_n 0, 1) := by decide +kernel
theorem dX4_copyFrom_8 : decode cX4_copyFrom 8 = .ok (.getfield 9, 3) := by decide +kernel
theorem dX4_copyFrom_11 : decode cX4_copyFrom 11 = .ok (.iload_n 2, 1) := by decide +kernel
theorem dX4_copyFrom_12 : decode cX4_copyFrom 12 = .ok (.aload_n 1, 1) := by decide +kernel
theorem dX4_copyFrom_13 : decode cX4_copyFrom 13 = .ok (.getfield 9, 3) := by decide +kernel
theorem dX4_copyFrom_16 : decode cX4_copyFrom 16 = .ok (.iload_n 2, 1) := by decide +kernel
theorem dX4_copyFrom_17 : decode cX4_copyFrom 17 = .ok (.baload, 1) := by decide +kernel
theorem dX4_copyFrom_18 : decode cX4_copyFrom 18 = .ok (.bastore, 1) := by decide +kernel
theorem dX4_copyFrom_19 : decode cX4_copyFrom 19 = .ok (.iinc 2 1, 3) := by decide +kernel
theorem dX4_copyFrom_22 : decode cX4_copyFrom 22 = .ok (.goto (-20), 3) := by decide +kernel
theorem dX4_copyFrom_25 : decode cX4_copyFrom 25 = .ok (.aload_n 1, 1) := by decide +kernel
theorem dX4_copyFrom_26 : decode cX4_copyFrom 26 = .ok (.getfield 15, 3) := by decide +kernel
theorem dX4_copyFrom_29 : decode cX4_copyFrom 29 = .ok (.aload_n 0, 1) := by decide +kernel
theorem dX4_copyFrom_30 : decode cX4_copyFrom 30 = .ok (.getfield 15, 3) := by decide +kernel
theorem dX4_copyFrom_33 : decode cX4_copyFrom 33 = .ok (.invokestatic 29, 3) := by decide +kernel
theorem dX4_copyFrom_36 : decode cX4_copyFrom 36 = .ok (.aload_n 1, 1) := by decide +kernel
theorem dX4_copyFrom_37 : decode cX4_copyFrom 37 = .ok (.getfield 19, 3) := by decide +kernel
theorem dX4_copyFrom_40 : decode cX4_copyFrom 40 = .ok (.aload_n 0, 1) := by decide +kernel
theorem dX4_copyFrom_41 : decode cX4_copyFrom 41 = .ok (.getfield 19, 3) := by decide +kernel
theorem dX4_copyFrom_44 : decode cX4_copyFrom 44 = .ok (.invokestatic 29, 3) := by decide +kernel
theorem dX4_copyFrom_47 : decode cX4_copyFrom 47 = .ok (.aload_n 1, 1) := by decide +kernel
theorem dX4_copyFrom_48 : decode cX4_copyFrom 48 = .ok (.getfield 22, 3) := by decide +kernel
theorem dX4_copyFrom_51 : decode cX4_copyFrom 51 = .ok (.aload_n 0, 1) := by decide +kernel
theorem dX4_copyFrom_52 : decode cX4_copyFrom 52 = .ok (.getfield 22, 3) := by decide +kernel
theorem dX4_copyFrom_55 : decode cX4_copyFrom 55 = .ok (.invokestatic 29, 3) := by decide +kernel
theorem dX4_copyFrom_58 : decode cX4_copyFrom 58 = .ok (.return_, 1) := by decide +kernel
theorem dX4_isInOpenAir_0 : decode cX4_isInOpenAir 0 = .ok (.iload_n 1, 1) := by decide +kernel
theorem dX4_isInOpenAir_1 : decode cX4_isInOpenAir 1 = .ok (.ifCond .lt 21, 3) := by decide +kernel
theorem dX4_isInOpenAir_4 : decode cX4_isInOpenAir 4 = .ok (.iload_n 1, 1) := by decide +kernel
theorem dX4_isInOpenAir_5 : decode cX4_isInOpenAir 5 = .ok (.iconst 4, 1) := by decide +kernel
theorem dX4_isInOpenAir_6 : decode cX4_isInOpenAir 6 = .ok (.if_icmp .ge 16, 3) := by decide +kernel
theorem dX4_isInOpenAir_9 : decode cX4_isInOpenAir 9 = .ok (.aload_n 0, 1) := by decide +kernel
theorem dX4_isInOpenAir_10 : decode cX4_isInOpenAir 10 = .ok (.getfield 9, 3) := by decide +kernel
theorem dX4_isInOpenAir_13 : decode cX4_isInOpenAir 13 = .ok (.iload_n 1, 1) := by decide +kernel
theorem dX4_isInOpenAir_14 : decode cX4_isInOpenAir 14 = .ok (.baload, 1) := by decide +kernel
theorem dX4_isInOpenAir_15 : decode cX4_isInOpenAir 15 = .ok (.ifCond .eq 7, 3) := by decide +kernel
theorem dX4_isInOpenAir_18 : decode cX4_isInOpenAir 18 = .ok (.iconst 1, 1) := by decide +kernel
theorem dX4_isInOpenAir_19 : decode cX4_isInOpenAir 19 = .ok (.goto 4, 3) := by decide +kernel
theorem dX4_isInOpenAir_22 : decode cX4_isInOpenAir 22 = .ok (.iconst 0, 1) := by decide +kernel
theorem dX4_isInOpenAir_23 : decode cX4_isInOpenAir 23 = .ok (.ireturn, 1) := by decide +kernel
set_option maxRecDepth 20000 in
theorem ggX4_uncover_X4_isInOpenAir : GoodIn wsX4_uncover wsX4_isInOpenAir := goodIn_r _ [6, 1, 7, 8, 9, 10] (by decide +kernel) (by decide +kernel)
set_option maxRecDepth 20000 in
theorem gX4_uncover_X4_isInOpenAir : GoodIn wsX4_uncover (wsV RX4 33 RX4 yX4_isInOpenAir wsX4_isInOpenAir) := goodIn_app (goodIn_of _ (by decide +kernel)) ggX4_uncover_X4_isInOpenAir
theorem dX4_uncover_0 : decode cX4_uncover 0 = .ok (.aload_n 0, 1) := by decide +kernel
theorem dX4_uncover_1 : decode cX4_uncover 1 = .ok (.iload_n 1, 1) := by decide +kernel
theorem dX4_uncover_2 : decode cX4_uncover 2 = .ok (.invokevirtual 33, 3) := by decide +kernel
theorem dX4_uncover_5 : decode cX4_uncover 5 = .ok (.istore_n 3, 1) := by decide +kernel
theorem dX4_uncover_6 : decode cX4_uncover 6 = .ok (.iload_n 1, 1) := by decide +kernel
theorem dX4_uncover_7 : decode cX4_uncover 7 = .ok (.ifCond .lt 15, 3) := by decide +kernel
theorem dX4_uncover_10 : decode cX4_uncover 10 = .ok (.iload_n 1, 1) := by decide +kernel
theorem dX4_uncover_11 : decode cX4_uncover 11 = .ok (.iconst 4, 1) := by decide +kernel
theorem dX4_uncover_12 : decode cX4_uncover 12 = .ok (.if_icmp .ge 10, 3) := by decide +kernel
theorem dX4_uncover_15 : decode cX4_uncover 15 = .ok (.aload_n 0, 1) := by decide +kernel
theorem dX4_uncover_16 : decode cX4_uncover 16 = .ok (.getfield 9, 3) := by decide +kernel
theorem dX4_uncover_19 : decode cX4_uncover 19 = .ok (.iload_n 1, 1) := by decide +kernel
theorem dX4_uncover_20 : decode cX4_uncover 20 = .ok (.iload_n 2, 1) := by decide +kernel
theorem dX4_uncover_21 : decode cX4_uncover 21 = .ok (.bastore, 1) := by decide +kernel
theorem dX4_uncover_22 : decode cX4_uncover 22 = .ok (.iload_n 3, 1) := by decide +kernel
theorem dX4_uncover_23 : decode cX4_uncover 23 = .ok (.ireturn, 1) := by decide +kernel
set_option maxRecDepth 20000 in
theorem ggX4_layWay_X11_replace : GoodIn wsX4_layWay wsX11_replace := goodIn_r _ [4] (by decide +kernel) (by decide +kernel)
set_option maxRecDepth 20000 in
theorem gX4_layWay_X11_replace_n37 : GoodIn wsX4_layWay (wsX11_replace) := ggX4_layWay_X11_replace
set_option maxRecDepth 20000 in
theorem ggX4_layWay_X4_measureWalks : GoodIn wsX4_layWay wsX4_measureWalks := goodIn_r _ [9, 1, 10, 11, 12, 13, 14, 15, 3, 16, 17, 18, 19, 20, 21, 22, 23, 24, 25] (by decide +kernel) (by decide +kernel)
set_option maxRecDepth 20000 in
theorem gX4_layWay_X4_measureWalks : GoodIn wsX4_layWay (wsV RX4 41 RX4 yX4_measureWalks wsX4_measureWalks) := goodIn_app (goodIn_of _ (by decide +kernel)) ggX4_layWay_X4_measureWalks
theorem dX4_layWay_0 : decode cX4_layWay 0 = .ok (.aload_n 0, 1) := by decide +kernel
theorem dX4_layWay_1 : decode cX4_layWay 1 = .ok (.getfield 15, 3) := by decide +kernel
theorem dX4_layWay_4 : decode cX4_layWay 4 = .ok (.iload_n 1, 1) := by decide +kernel
theorem dX4_layWay_5 : decode cX4_layWay 5 = .ok (.iconst 4, 1) := by decide +kernel
theorem dX4_layWay_6 : decode cX4_layWay 6 = .ok (.imul, 1) := by decide +kernel
theorem dX4_layWay_7 : decode cX4_layWay 7 = .ok (.iload_n 2, 1) := by decide +kernel
theorem dX4_layWay_8 : decode cX4_layWay 8 = .ok (.iadd, 1) := by decide +kernel
theorem dX4_layWay_9 : decode cX4_layWay 9 = .ok (.iload_n 3, 1) := by decide +kernel
theorem dX4_layWay_10 : decode cX4_layWay 10 = .ok (.invokestatic 37, 3) := by decide +kernel
theorem dX4_layWay_13 : decode cX4_layWay 13 = .ok (.pop, 1) := by decide +kernel
theorem dX4_layWay_14 : decode cX4_layWay 14 = .ok (.aload_n 0, 1) := by decide +kernel
theorem dX4_layWay_15 : decode cX4_layWay 15 = .ok (.getfield 15, 3) := by decide +kernel
theorem dX4_layWay_18 : decode cX4_layWay 18 = .ok (.iload_n 2, 1) := by decide +kernel
theorem dX4_layWay_19 : decode cX4_layWay 19 = .ok (.iconst 4, 1) := by decide +kernel
theorem dX4_layWay_20 : decode cX4_layWay 20 = .ok (.imul, 1) := by decide +kernel
theorem dX4_layWay_21 : decode cX4_layWay 21 = .ok (.iload_n 1, 1) := by decide +kernel
theorem dX4_layWay_22 : decode cX4_layWay 22 = .ok (.iadd, 1) := by decide +kernel
theorem dX4_layWay_23 : decode cX4_layWay 23 = .ok (.iload_n 3, 1) := by decide +kernel
theorem dX4_layWay_24 : decode cX4_layWay 24 = .ok (.invokestatic 37, 3) := by decide +kernel
theorem dX4_layWay_27 : decode cX4_layWay 27 = .ok (.pop, 1) := by decide +kernel
theorem dX4_layWay_28 : decode cX4_layWay 28 = .ok (.aload_n 0, 1) := by decide +kernel
theorem dX4_layWay_29 : decode cX4_layWay 29 = .ok (.invokevirtual 41, 3) := by decide +kernel
theorem dX4_layWay_32 : decode cX4_layWay 32 = .ok (.return_, 1) := by decide +kernel
theorem dX4_minutesBetween_0 : decode cX4_minutesBetween 0 = .ok (.iload_n 1, 1) := by decide +kernel
theorem dX4_minutesBetween_1 : decode cX4_minutesBetween 1 = .ok (.iconst 4, 1) := by decide +kernel
theorem dX4_minutesBetween_2 : decode cX4_minutesBetween 2 = .ok (.imul, 1) := by decide +kernel
theorem dX4_minutesBetween_3 : decode cX4_minutesBetween 3 = .ok (.iload_n 2, 1) := by decide +kernel
theorem dX4_minutesBetween_4 : decode cX4_minutesBetween 4 = .ok (.iadd, 1) := by decide +kernel
theorem dX4_minutesBetween_5 : decode cX4_minutesBetween 5 = .ok (.istore_n 3, 1) := by decide +kernel
theorem dX4_minutesBetween_6 : decode cX4_minutesBetween 6 = .ok (.iload_n 3, 1) := by decide +kernel
theorem dX4_minutesBetween_7 : decode cX4_minutesBetween 7 = .ok (.ifCond .lt 12, 3) := by decide +kernel
theorem dX4_minutesBetween_10 : decode cX4_minutesBetween 10 = .ok (.iload_n 3, 1) := by decide +kernel
theorem dX4_minutesBetween_11 : decode cX4_minutesBetween 11 = .ok (.aload_n 0, 1) := by decide +kernel
theorem dX4_minutesBetween_12 : decode cX4_minutesBetween 12 = .ok (.getfield 19, 3) := by decide +kernel
theorem dX4_minutesBetween_15 : decode cX4_minutesBetween 15 = .ok (.arraylength, 1) := by decide +kernel
theorem dX4_minutesBetween_16 : decode cX4_minutesBetween 16 = .ok (.if_icmp .lt 7, 3) := by decide +kernel
theorem dX4_minutesBetween_19 : decode cX4_minutesBetween 19 = .ok (.iconst 0, 1) := by decide +kernel
theorem dX4_minutesBetween_20 : decode cX4_minutesBetween 20 = .ok (.goto 9, 3) := by decide +kernel
theorem dX4_minutesBetween_23 : decode cX4_minutesBetween 23 = .ok (.aload_n 0, 1) := by decide +kernel
theorem dX4_minutesBetween_24 : decode cX4_minutesBetween 24 = .ok (.getfield 19, 3) := by decide +kernel
theorem dX4_minutesBetween_27 : decode cX4_minutesBetween 27 = .ok (.iload_n 3, 1) := by decide +kernel
theorem dX4_minutesBetween_28 : decode cX4_minutesBetween 28 = .ok (.iaload, 1) := by decide +kernel
theorem dX4_minutesBetween_29 : decode cX4_minutesBetween 29 = .ok (.ireturn, 1) := by decide +kernel
set_option maxRecDepth 20000 in
theorem ggX4_measureWalks_X11_copyRow : GoodIn wsX4_measureWalks wsX11_copyRow := goodIn_r _ [9, 10, 4, 5, 6, 11, 12, 13, 14] (by decide +kernel) (by decide +kernel)
set_option maxRecDepth 20000 in
theorem gX4_measureWalks_X11_copyRow_n29 : GoodIn wsX4_measureWalks (wsX11_copyRow) := ggX4_measureWalks_X11_copyRow
theorem dX4_measureWalks_0 : decode cX4_measureWalks 0 = .ok (.aload_n 0, 1) := by decide +kernel
theorem dX4_measureWalks_1 : decode cX4_measureWalks 1 = .ok (.getfield 15, 3) := by decide +kernel
theorem dX4_measureWalks_4 : decode cX4_measureWalks 4 = .ok (.aload_n 0, 1) := by decide +kernel
theorem dX4_measureWalks_5 : decode cX4_measureWalks 5 = .ok (.getfield 19, 3) := by decide +kernel
theorem dX4_measureWalks_8 : decode cX4_measureWalks 8 = .ok (.invokestatic 29, 3) := by decide +kernel
theorem dX4_measureWalks_11 : decode cX4_measureWalks 11 = .ok (.iconst 0, 1) := by decide +kernel
theorem dX4_measureWalks_12 : decode cX4_measureWalks 12 = .ok (.istore_n 1, 1) := by decide +kernel
theorem dX4_measureWalks_13 : decode cX4_measureWalks 13 = .ok (.iload_n 1, 1) := by decide +kernel
theorem dX4_measureWalks_14 : decode cX4_measureWalks 14 = .ok (.iconst 4, 1) := by decide +kernel
theorem dX4_measureWalks_15 : decode cX4_measureWalks 15 = .ok (.if_icmp .ge 84, 3) := by decide +kernel
theorem dX4_measureWalks_18 : decode cX4_measureWalks 18 = .ok (.iconst 0, 1) := by decide +kernel
theorem dX4_measureWalks_19 : decode cX4_measureWalks 19 = .ok (.istore_n 2, 1) := by decide +kernel
theorem dX4_measureWalks_20 : decode cX4_measureWalks 20 = .ok (.iload_n 2, 1) := by decide +kernel
theorem dX4_measureWalks_21 : decode cX4_measureWalks 21 = .ok (.iconst 4, 1) := by decide +kernel
theorem dX4_measureWalks_22 : decode cX4_measureWalks 22 = .ok (.if_icmp .ge 71, 3) := by decide +kernel
theorem dX4_measureWalks_25 : decode cX4_measureWalks 25 = .ok (.iconst 0, 1) := by decide +kernel
theorem dX4_measureWalks_26 : decode cX4_measureWalks 26 = .ok (.istore_n 3, 1) := by decide +kernel
theorem dX4_measureWalks_27 : decode cX4_measureWalks 27 = .ok (.iload_n 3, 1) := by decide +kernel
theorem dX4_measureWalks_28 : decode cX4_measureWalks 28 = .ok (.iconst 4, 1) := by decide +kernel
theorem dX4_measureWalks_29 : decode cX4_measureWalks 29 = .ok (.if_icmp .ge 58, 3) := by decide +kernel
theorem dX4_measureWalks_32 : decode cX4_measureWalks 32 = .ok (.aload_n 0, 1) := by decide +kernel
theorem dX4_measureWalks_33 : decode cX4_measureWalks 33 = .ok (.getfield 19, 3) := by decide +kernel
theorem dX4_measureWalks_36 : decode cX4_measureWalks 36 = .ok (.iload_n 2, 1) := by decide +kernel
theorem dX4_measureWalks_37 : decode cX4_measureWalks 37 = .ok (.iconst 4, 1) := by decide +kernel
theorem dX4_measureWalks_38 : decode cX4_measureWalks 38 = .ok (.imul, 1) := by decide +kernel
theorem dX4_measureWalks_39 : decode cX4_measureWalks 39 = .ok (.iload_n 1, 1) := by decide +kernel
theorem dX4_measureWalks_40 : decode cX4_measureWalks 40 = .ok (.iadd, 1) := by decide +kernel
theorem dX4_measureWalks_41 : decode cX4_measureWalks 41 = .ok (.iaload, 1) := by decide +kernel
theorem dX4_measureWalks_42 : decode cX4_measureWalks 42 = .ok (.aload_n 0, 1) := by decide +kernel
theorem dX4_measureWalks_43 : decode cX4_measureWalks 43 = .ok (.getfield 19, 3) := by decide +kernel
theorem dX4_measureWalks_46 : decode cX4_measureWalks 46 = .ok (.iload_n 1, 1) := by decide +kernel
theorem dX4_measureWalks_47 : decode cX4_measureWalks 47 = .ok (.iconst 4, 1) := by decide +kernel
theorem dX4_measureWalks_48 : decode cX4_measureWalks 48 = .ok (.imul, 1) := by decide +kernel
theorem dX4_measureWalks_49 : decode cX4_measureWalks 49 = .ok (.iload_n 3, 1) := by decide +kernel
theorem dX4_measureWalks_50 : decode cX4_measureWalks 50 = .ok (.iadd, 1) := by decide +kernel
theorem dX4_measureWalks_51 : decode cX4_measureWalks 51 = .ok (.iaload, 1) := by decide +kernel
theorem dX4_measureWalks_52 : decode cX4_measureWalks 52 = .ok (.iadd, 1) := by decide +kernel
theorem dX4_measureWalks_53 : decode cX4_measureWalks 53 = .ok (.istore 4, 2) := by decide +kernel
theorem dX4_measureWalks_55 : decode cX4_measureWalks 55 = .ok (.iload_n 2, 1) := by decide +kernel
theorem dX4_measureWalks_56 : decode cX4_measureWalks 56 = .ok (.iconst 4, 1) := by decide +kernel
theorem dX4_measureWalks_57 : decode cX4_measureWalks 57 = .ok (.imul, 1) := by decide +kernel
theorem dX4_measureWalks_58 : decode cX4_measureWalks 58 = .ok (.iload_n 3, 1) := by decide +kernel
theorem dX4_measureWalks_59 : decode cX4_measureWalks 59 = .ok (.iadd, 1) := by decide +kernel
theorem dX4_measureWalks_60 : decode cX4_measureWalks 60 = .ok (.istore 5, 2) := by decide +kernel
theorem dX4_measureWalks_62 : decode cX4_measureWalks 62 = .ok (.aload_n 0, 1) := by decide +kernel
theorem dX4_measureWalks_63 : decode cX4_measureWalks 63 = .ok (.getfield 19, 3) := by decide +kernel
theorem dX4_measureWalks_66 : decode cX4_measureWalks 66 = .ok (.iload 5, 2) := by decide +kernel
theorem dX4_measureWalks_68 : decode cX4_measureWalks 68 = .ok (.aload_n 0, 1) := by decide +kernel
theorem dX4_measureWalks_69 : decode cX4_measureWalks 69 = .ok (.getfield 19, 3) := by decide +kernel
theorem dX4_measureWalks_72 : decode cX4_measureWalks 72 = .ok (.iload 5, 2) := by decide +kernel
theorem dX4_measureWalks_74 : decode cX4_measureWalks 74 = .ok (.iaload, 1) := by decide +kernel
theorem dX4_measureWalks_75 : decode cX4_measureWalks 75 = .ok (.iload 4, 2) := by decide +kernel
theorem dX4_measureWalks_77 : decode cX4_measureWalks 77 = .ok (.invokestatic 44, 3) := by decide +kernel
theorem dX4_measureWalks_80 : decode cX4_measureWalks 80 = .ok (.iastore, 1) := by decide +kernel
theorem dX4_measureWalks_81 : decode cX4_measureWalks 81 = .ok (.iinc 3 1, 3) := by decide +kernel
theorem dX4_measureWalks_84 : decode cX4_measureWalks 84 = .ok (.goto (-57), 3) := by decide +kernel
theorem dX4_measureWalks_87 : decode cX4_measureWalks 87 = .ok (.iinc 2 1, 3) := by decide +kernel
theorem dX4_measureWalks_90 : decode cX4_measureWalks 90 = .ok (.goto (-70), 3) := by decide +kernel
theorem dX4_measureWalks_93 : decode cX4_measureWalks 93 = .ok (.iinc 1 1, 3) := by decide +kernel
theorem dX4_measureWalks_96 : decode cX4_measureWalks 96 = .ok (.goto (-83), 3) := by decide +kernel
theorem dX4_measureWalks_99 : decode cX4_measureWalks 99 = .ok (.return_, 1) := by decide +kernel
theorem dX4_countLost_0 : decode cX4_countLost 0 = .ok (.iconst 0, 1) := by decide +kernel
theorem dX4_countLost_1 : decode cX4_countLost 1 = .ok (.istore_n 1, 1) := by decide +kernel
theorem dX4_countLost_2 : decode cX4_countLost 2 = .ok (.iconst 0, 1) := by decide +kernel
theorem dX4_countLost_3 : decode cX4_countLost 3 = .ok (.istore_n 2, 1) := by decide +kernel
theorem dX4_countLost_4 : decode cX4_countLost 4 = .ok (.iload_n 2, 1) := by decide +kernel
theorem dX4_countLost_5 : decode cX4_countLost 5 = .ok (.bipush 100, 2) := by decide +kernel
theorem dX4_countLost_7 : decode cX4_countLost 7 = .ok (.if_icmp .ge 22, 3) := by decide +kernel
theorem dX4_countLost_10 : decode cX4_countLost 10 = .ok (.aload_n 0, 1) := by decide +kernel
theorem dX4_countLost_11 : decode cX4_countLost 11 = .ok (.getfield 22, 3) := by decide +kernel
theorem dX4_countLost_14 : decode cX4_countLost 14 = .ok (.iload_n 2, 1) := by decide +kernel
theorem dX4_countLost_15 : decode cX4_countLost 15 = .ok (.iaload, 1) := by decide +kernel
theorem dX4_countLost_16 : decode cX4_countLost 16 = .ok (.iconst (-1), 1) := by decide +kernel
theorem dX4_countLost_17 : decode cX4_countLost 17 = .ok (.if_icmp .eq 6, 3) := by decide +kernel
theorem dX4_countLost_20 : decode cX4_countLost 20 = .ok (.iinc 1 1, 3) := by decide +kernel
theorem dX4_countLost_23 : decode cX4_countLost 23 = .ok (.iinc 2 1, 3) := by decide +kernel
theorem dX4_countLost_26 : decode cX4_countLost 26 = .ok (.goto (-22), 3) := by decide +kernel
theorem dX4_countLost_29 : decode cX4_countLost 29 = .ok (.iload_n 1, 1) := by decide +kernel
theorem dX4_countLost_30 : decode cX4_countLost 30 = .ok (.ireturn, 1) := by decide +kernel
theorem dX4_firstLost_0 : decode cX4_firstLost 0 = .ok (.iconst 0, 1) := by decide +kernel
theorem dX4_firstLost_1 : decode cX4_firstLost 1 = .ok (.istore_n 2, 1) := by decide +kernel
theorem dX4_firstLost_2 : decode cX4_firstLost 2 = .ok (.iload_n 2, 1) := by decide +kernel
theorem dX4_firstLost_3 : decode cX4_firstLost 3 = .ok (.bipush 100, 2) := by decide +kernel
theorem dX4_firstLost_5 : decode cX4_firstLost 5 = .ok (.if_icmp .ge 36, 3) := by decide +kernel
theorem dX4_firstLost_8 : decode cX4_firstLost 8 = .ok (.aload_n 0, 1) := by decide +kernel
theorem dX4_firstLost_9 : decode cX4_firstLost 9 = .ok (.getfield 22, 3) := by decide +kernel
theorem dX4_firstLost_12 : decode cX4_firstLost 12 = .ok (.iload_n 2, 1) := by decide +kernel
theorem dX4_firstLost_13 : decode cX4_firstLost 13 = .ok (.iaload, 1) := by decide +kernel
theorem dX4_firstLost_14 : decode cX4_firstLost 14 = .ok (.iconst (-1), 1) := by decide +kernel
theorem dX4_firstLost_15 : decode cX4_firstLost 15 = .ok (.if_icmp .eq 20, 3) := by decide +kernel
theorem dX4_firstLost_18 : decode cX4_firstLost 18 = .ok (.iload_n 1, 1) := by decide +kernel
theorem dX4_firstLost_19 : decode cX4_firstLost 19 = .ok (.iconst (-1), 1) := by decide +kernel
theorem dX4_firstLost_20 : decode cX4_firstLost 20 = .ok (.if_icmp .eq 13, 3) := by decide +kernel
theorem dX4_firstLost_23 : decode cX4_firstLost 23 = .ok (.aload_n 0, 1) := by decide +kernel
theorem dX4_firstLost_24 : decode cX4_firstLost 24 = .ok (.getfield 22, 3) := by decide +kernel
theorem dX4_firstLost_27 : decode cX4_firstLost 27 = .ok (.iload_n 2, 1) := by decide +kernel
theorem dX4_firstLost_28 : decode cX4_firstLost 28 = .ok (.iaload, 1) := by decide +kernel
theorem dX4_firstLost_29 : decode cX4_firstLost 29 = .ok (.iload_n 1, 1) := by decide +kernel
theorem dX4_firstLost_30 : decode cX4_firstLost 30 = .ok (.if_icmp .ne 5, 3) := by decide +kernel
theorem dX4_firstLost_33 : decode cX4_firstLost 33 = .ok (.iload_n 2, 1) := by decide +kernel
theorem dX4_firstLost_34 : decode cX4_firstLost 34 = .ok (.ireturn, 1) := by decide +kernel
theorem dX4_firstLost_35 : decode cX4_firstLost 35 = .ok (.iinc 2 1, 3) := by decide +kernel
theorem dX4_firstLost_38 : decode cX4_firstLost 38 = .ok (.goto (-36), 3) := by decide +kernel
theorem dX4_firstLost_41 : decode cX4_firstLost 41 = .ok (.iconst (-1), 1) := by decide +kernel
theorem dX4_firstLost_42 : decode cX4_firstLost 42 = .ok (.ireturn, 1) := by decide +kernel
