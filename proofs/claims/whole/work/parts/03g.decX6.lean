theorem dX6_init_0 : decode cX6_init 0 = .ok (.aload_n 0, 1) := by decide +kernel
theorem dX6_init_1 : decode cX6_init 1 = .ok (.invokespecial 3, 3) := by decide +kernel
theorem dX6_init_4 : decode cX6_init 4 = .ok (.aload_n 0, 1) := by decide +kernel
theorem dX6_init_5 : decode cX6_init 5 = .ok (.bipush 24, 2) := by decide +kernel
theorem dX6_init_7 : decode cX6_init 7 = .ok (.newarray .int, 2) := by decide +kernel
theorem dX6_init_9 : decode cX6_init 9 = .ok (.putfield 9, 3) := by decide +kernel
theorem dX6_init_12 : decode cX6_init 12 = .ok (.aload_n 0, 1) := by decide +kernel
theorem dX6_init_13 : decode cX6_init 13 = .ok (.iconst 4, 1) := by decide +kernel
theorem dX6_init_14 : decode cX6_init 14 = .ok (.newarray .int, 2) := by decide +kernel
theorem dX6_init_16 : decode cX6_init 16 = .ok (.putfield 15, 3) := by decide +kernel
theorem dX6_init_19 : decode cX6_init 19 = .ok (.aload_n 0, 1) := by decide +kernel
theorem dX6_init_20 : decode cX6_init 20 = .ok (.iconst 4, 1) := by decide +kernel
theorem dX6_init_21 : decode cX6_init 21 = .ok (.newarray .int, 2) := by decide +kernel
theorem dX6_init_23 : decode cX6_init 23 = .ok (.putfield 18, 3) := by decide +kernel
theorem dX6_init_26 : decode cX6_init 26 = .ok (.aload_n 0, 1) := by decide +kernel
theorem dX6_init_27 : decode cX6_init 27 = .ok (.iconst 4, 1) := by decide +kernel
theorem dX6_init_28 : decode cX6_init 28 = .ok (.newarray .int, 2) := by decide +kernel
theorem dX6_init_30 : decode cX6_init 30 = .ok (.putfield 21, 3) := by decide +kernel
theorem dX6_init_33 : decode cX6_init 33 = .ok (.aload_n 0, 1) := by decide +kernel
theorem dX6_init_34 : decode cX6_init 34 = .ok (.bipush 16, 2) := by decide +kernel
theorem dX6_init_36 : decode cX6_init 36 = .ok (.newarray .int, 2) := by decide +kernel
theorem dX6_init_38 : decode cX6_init 38 = .ok (.putfield 24, 3) := by decide +kernel
theorem dX6_init_41 : decode cX6_init 41 = .ok (.aload_n 0, 1) := by decide +kernel
theorem dX6_init_42 : decode cX6_init 42 = .ok (.bipush 16, 2) := by decide +kernel
theorem dX6_init_44 : decode cX6_init 44 = .ok (.newarray .int, 2) := by decide +kernel
theorem dX6_init_46 : decode cX6_init 46 = .ok (.putfield 27, 3) := by decide +kernel
theorem dX6_init_49 : decode cX6_init 49 = .ok (.aload_n 0, 1) := by decide +kernel
theorem dX6_init_50 : decode cX6_init 50 = .ok (.bipush 16, 2) := by decide +kernel
theorem dX6_init_52 : decode cX6_init 52 = .ok (.newarray .int, 2) := by decide +kernel
theorem dX6_init_54 : decode cX6_init 54 = .ok (.putfield 30, 3) := by decide +kernel
theorem dX6_init_57 : decode cX6_init 57 = .ok (.aload_n 0, 1) := by decide +kernel
theorem dX6_init_58 : decode cX6_init 58 = .ok (.sipush 400, 3) := by decide +kernel
theorem dX6_init_61 : decode cX6_init 61 = .ok (.newarray .int, 2) := by decide +kernel
theorem dX6_init_63 : decode cX6_init 63 = .ok (.putfield 33, 3) := by decide +kernel
theorem dX6_init_66 : decode cX6_init 66 = .ok (.return_, 1) := by decide +kernel
set_option maxRecDepth 20000 in
theorem ggX6_copyFrom_X11_copyRow : GoodIn wsX6_copyFrom wsX11_copyRow := goodIn_r _ [7, 8, 9, 10, 11, 12, 13, 14, 15] (by decide +kernel) (by decide +kernel)
set_option maxRecDepth 20000 in
theorem gX6_copyFrom_X11_copyRow_n36 : GoodIn wsX6_copyFrom (wsX11_copyRow) := ggX6_copyFrom_X11_copyRow
theorem dX6_copyFrom_0 : decode cX6_copyFrom 0 = .ok (.aload_n 1, 1) := by decide +kernel
theorem dX6_copyFrom_1 : decode cX6_copyFrom 1 = .ok (.getfield 9, 3) := by decide +kernel
theorem dX6_copyFrom_4 : decode cX6_copyFrom 4 = .ok (.aload_n 0, 1) := by decide +kernel
theorem dX6_copyFrom_5 : decode cX6_copyFrom 5 = .ok (.getfield 9, 3) := by decide +kernel
theorem dX6_copyFrom_8 : decode cX6_copyFrom 8 = .ok (.invokestatic 36, 3) := by decide +kernel
theorem dX6_copyFrom_11 : decode cX6_copyFrom 11 = .ok (.aload_n 1, 1) := by decide +kernel
theorem dX6_copyFrom_12 : decode cX6_copyFrom 12 = .ok (.getfield 15, 3) := by decide +kernel
theorem dX6_copyFrom_15 : decode cX6_copyFrom 15 = .ok (.aload_n 0, 1) := by decide +kernel
theorem dX6_copyFrom_16 : decode cX6_copyFrom 16 = .ok (.getfield 15, 3) := by decide +kernel
theorem dX6_copyFrom_19 : decode cX6_copyFrom 19 = .ok (.invokestatic 36, 3) := by decide +kernel
theorem dX6_copyFrom_22 : decode cX6_copyFrom 22 = .ok (.aload_n 1, 1) := by decide +kernel
theorem dX6_copyFrom_23 : decode cX6_copyFrom 23 = .ok (.getfield 18, 3) := by decide +kernel
theorem dX6_copyFrom_26 : decode cX6_copyFrom 26 = .ok (.aload_n 0, 1) := by decide +kernel
theorem dX6_copyFrom_27 : decode cX6_copyFrom 27 = .ok (.getfield 18, 3) := by decide +kernel
theorem dX6_copyFrom_30 : decode cX6_copyFrom 30 = .ok (.invokestatic 36, 3) := by decide +kernel
theorem dX6_copyFrom_33 : decode cX6_copyFrom 33 = .ok (.aload_n 1, 1) := by decide +kernel
theorem dX6_copyFrom_34 : decode cX6_copyFrom 34 = .ok (.getfield 21, 3) := by decide +kernel
theorem dX6_copyFrom_37 : decode cX6_copyFrom 37 = .ok (.aload_n 0, 1) := by decide +kernel
theorem dX6_copyFrom_38 : decode cX6_copyFrom 38 = .ok (.getfield 21, 3) := by decide +kernel
theorem dX6_copyFrom_41 : decode cX6_copyFrom 41 = .ok (.invokestatic 36, 3) := by decide +kernel
theorem dX6_copyFrom_44 : decode cX6_copyFrom 44 = .ok (.return_, 1) := by decide +kernel
set_option maxRecDepth 20000 in
theorem ggX6_planCosts_X6_addUp : GoodIn wsX6_planCosts wsX6_addUp := goodIn_r _ [11] (by decide +kernel) (by decide +kernel)
set_option maxRecDepth 20000 in
theorem gX6_planCosts_X6_addUp : GoodIn wsX6_planCosts (va_wsS RX6 40 yX6_addUp wsX6_addUp) := goodIn_app (goodIn_of _ (by decide +kernel)) ggX6_planCosts_X6_addUp
set_option maxRecDepth 20000 in
theorem ggX6_planCosts_X11_fillRow : GoodIn wsX6_planCosts wsX11_fillRow := goodIn_r _ [14] (by decide +kernel) (by decide +kernel)
set_option maxRecDepth 20000 in
theorem gX6_planCosts_X11_fillRow_n43 : GoodIn wsX6_planCosts (wsX11_fillRow) := ggX6_planCosts_X11_fillRow
set_option maxRecDepth 20000 in
theorem ggX6_planCosts_X6_bestAt : GoodIn wsX6_planCosts wsX6_bestAt := goodIn_r _ [18, 19, 20, 21, 22, 10, 23, 2, 24, 6, 4, 7, 25, 26, 27, 28, 29, 30, 31, 32, 33, 34, 35, 36] (by decide +kernel) (by decide +kernel)
set_option maxRecDepth 20000 in
theorem gX6_planCosts_X6_bestAt : GoodIn wsX6_planCosts (wsV RX6 47 RX6 yX6_bestAt wsX6_bestAt) := goodIn_app (goodIn_of _ (by decide +kernel)) ggX6_planCosts_X6_bestAt
set_option maxRecDepth 20000 in
theorem ggX6_planCosts_X6_costBy : GoodIn wsX6_planCosts wsX6_costBy := goodIn_r _ [23, 2, 24, 19, 6, 4, 7, 25, 26, 27, 28, 29, 30, 31, 32, 33, 34, 35, 36] (by decide +kernel) (by decide +kernel)
set_option maxRecDepth 20000 in
theorem gX6_planCosts_X6_costBy : GoodIn wsX6_planCosts (wsV RX6 51 RX6 yX6_costBy wsX6_costBy) := goodIn_app (goodIn_of _ (by decide +kernel)) ggX6_planCosts_X6_costBy
theorem dX6_planCosts_0 : decode cX6_planCosts 0 = .ok (.aload_n 0, 1) := by decide +kernel
theorem dX6_planCosts_1 : decode cX6_planCosts 1 = .ok (.getfield 15, 3) := by decide +kernel
theorem dX6_planCosts_4 : decode cX6_planCosts 4 = .ok (.aload_n 0, 1) := by decide +kernel
theorem dX6_planCosts_5 : decode cX6_planCosts 5 = .ok (.getfield 24, 3) := by decide +kernel
theorem dX6_planCosts_8 : decode cX6_planCosts 8 = .ok (.invokestatic 40, 3) := by decide +kernel
theorem dX6_planCosts_11 : decode cX6_planCosts 11 = .ok (.aload_n 0, 1) := by decide +kernel
theorem dX6_planCosts_12 : decode cX6_planCosts 12 = .ok (.getfield 18, 3) := by decide +kernel
theorem dX6_planCosts_15 : decode cX6_planCosts 15 = .ok (.aload_n 0, 1) := by decide +kernel
theorem dX6_planCosts_16 : decode cX6_planCosts 16 = .ok (.getfield 27, 3) := by decide +kernel
theorem dX6_planCosts_19 : decode cX6_planCosts 19 = .ok (.invokestatic 40, 3) := by decide +kernel
theorem dX6_planCosts_22 : decode cX6_planCosts 22 = .ok (.aload_n 0, 1) := by decide +kernel
theorem dX6_planCosts_23 : decode cX6_planCosts 23 = .ok (.getfield 21, 3) := by decide +kernel
theorem dX6_planCosts_26 : decode cX6_planCosts 26 = .ok (.aload_n 0, 1) := by decide +kernel
theorem dX6_planCosts_27 : decode cX6_planCosts 27 = .ok (.getfield 30, 3) := by decide +kernel
theorem dX6_planCosts_30 : decode cX6_planCosts 30 = .ok (.invokestatic 40, 3) := by decide +kernel
theorem dX6_planCosts_33 : decode cX6_planCosts 33 = .ok (.aload_n 0, 1) := by decide +kernel
theorem dX6_planCosts_34 : decode cX6_planCosts 34 = .ok (.getfield 33, 3) := by decide +kernel
theorem dX6_planCosts_37 : decode cX6_planCosts 37 = .ok (.iconst 0, 1) := by decide +kernel
theorem dX6_planCosts_38 : decode cX6_planCosts 38 = .ok (.invokestatic 43, 3) := by decide +kernel
theorem dX6_planCosts_41 : decode cX6_planCosts 41 = .ok (.bipush 23, 2) := by decide +kernel
theorem dX6_planCosts_43 : decode cX6_planCosts 43 = .ok (.istore_n 1, 1) := by decide +kernel
theorem dX6_planCosts_44 : decode cX6_planCosts 44 = .ok (.iload_n 1, 1) := by decide +kernel
theorem dX6_planCosts_45 : decode cX6_planCosts 45 = .ok (.ifCond .lt 46, 3) := by decide +kernel
theorem dX6_planCosts_48 : decode cX6_planCosts 48 = .ok (.iconst 0, 1) := by decide +kernel
theorem dX6_planCosts_49 : decode cX6_planCosts 49 = .ok (.istore_n 2, 1) := by decide +kernel
theorem dX6_planCosts_50 : decode cX6_planCosts 50 = .ok (.iload_n 2, 1) := by decide +kernel
theorem dX6_planCosts_51 : decode cX6_planCosts 51 = .ok (.bipush 16, 2) := by decide +kernel
theorem dX6_planCosts_53 : decode cX6_planCosts 53 = .ok (.if_icmp .ge 32, 3) := by decide +kernel
theorem dX6_planCosts_56 : decode cX6_planCosts 56 = .ok (.aload_n 0, 1) := by decide +kernel
theorem dX6_planCosts_57 : decode cX6_planCosts 57 = .ok (.getfield 33, 3) := by decide +kernel
theorem dX6_planCosts_60 : decode cX6_planCosts 60 = .ok (.iload_n 1, 1) := by decide +kernel
theorem dX6_planCosts_61 : decode cX6_planCosts 61 = .ok (.bipush 16, 2) := by decide +kernel
theorem dX6_planCosts_63 : decode cX6_planCosts 63 = .ok (.imul, 1) := by decide +kernel
theorem dX6_planCosts_64 : decode cX6_planCosts 64 = .ok (.iload_n 2, 1) := by decide +kernel
theorem dX6_planCosts_65 : decode cX6_planCosts 65 = .ok (.iadd, 1) := by decide +kernel
theorem dX6_planCosts_66 : decode cX6_planCosts 66 = .ok (.aload_n 0, 1) := by decide +kernel
theorem dX6_planCosts_67 : decode cX6_planCosts 67 = .ok (.iload_n 1, 1) := by decide +kernel
theorem dX6_planCosts_68 : decode cX6_planCosts 68 = .ok (.iload_n 2, 1) := by decide +kernel
theorem dX6_planCosts_69 : decode cX6_planCosts 69 = .ok (.aload_n 0, 1) := by decide +kernel
theorem dX6_planCosts_70 : decode cX6_planCosts 70 = .ok (.iload_n 1, 1) := by decide +kernel
theorem dX6_planCosts_71 : decode cX6_planCosts 71 = .ok (.iload_n 2, 1) := by decide +kernel
theorem dX6_planCosts_72 : decode cX6_planCosts 72 = .ok (.invokevirtual 47, 3) := by decide +kernel
theorem dX6_planCosts_75 : decode cX6_planCosts 75 = .ok (.invokevirtual 51, 3) := by decide +kernel
theorem dX6_planCosts_78 : decode cX6_planCosts 78 = .ok (.iastore, 1) := by decide +kernel
theorem dX6_planCosts_79 : decode cX6_planCosts 79 = .ok (.iinc 2 1, 3) := by decide +kernel
theorem dX6_planCosts_82 : decode cX6_planCosts 82 = .ok (.goto (-32), 3) := by decide +kernel
theorem dX6_planCosts_85 : decode cX6_planCosts 85 = .ok (.iinc 1 (-1), 3) := by decide +kernel
theorem dX6_planCosts_88 : decode cX6_planCosts 88 = .ok (.goto (-44), 3) := by decide +kernel
theorem dX6_planCosts_91 : decode cX6_planCosts 91 = .ok (.return_, 1) := by decide +kernel
theorem dX6_addUp_0 : decode cX6_addUp 0 = .ok (.iconst 0, 1) := by decide +kernel
theorem dX6_addUp_1 : decode cX6_addUp 1 = .ok (.istore_n 2, 1) := by decide +kernel
theorem dX6_addUp_2 : decode cX6_addUp 2 = .ok (.iload_n 2, 1) := by decide +kernel
theorem dX6_addUp_3 : decode cX6_addUp 3 = .ok (.aload_n 1, 1) := by decide +kernel
theorem dX6_addUp_4 : decode cX6_addUp 4 = .ok (.arraylength, 1) := by decide +kernel
theorem dX6_addUp_5 : decode cX6_addUp 5 = .ok (.if_icmp .ge 44, 3) := by decide +kernel
theorem dX6_addUp_8 : decode cX6_addUp 8 = .ok (.aload_n 1, 1) := by decide +kernel
theorem dX6_addUp_9 : decode cX6_addUp 9 = .ok (.iload_n 2, 1) := by decide +kernel
theorem dX6_addUp_10 : decode cX6_addUp 10 = .ok (.iconst 0, 1) := by decide +kernel
theorem dX6_addUp_11 : decode cX6_addUp 11 = .ok (.iastore, 1) := by decide +kernel
theorem dX6_addUp_12 : decode cX6_addUp 12 = .ok (.iconst 0, 1) := by decide +kernel
theorem dX6_addUp_13 : decode cX6_addUp 13 = .ok (.istore_n 3, 1) := by decide +kernel
theorem dX6_addUp_14 : decode cX6_addUp 14 = .ok (.iload_n 3, 1) := by decide +kernel
theorem dX6_addUp_15 : decode cX6_addUp 15 = .ok (.aload_n 0, 1) := by decide +kernel
theorem dX6_addUp_16 : decode cX6_addUp 16 = .ok (.arraylength, 1) := by decide +kernel
theorem dX6_addUp_17 : decode cX6_addUp 17 = .ok (.if_icmp .ge 26, 3) := by decide +kernel
theorem dX6_addUp_20 : decode cX6_addUp 20 = .ok (.iload_n 2, 1) := by decide +kernel
theorem dX6_addUp_21 : decode cX6_addUp 21 = .ok (.iload_n 3, 1) := by decide +kernel
theorem dX6_addUp_22 : decode cX6_addUp 22 = .ok (.ishr, 1) := by decide +kernel
theorem dX6_addUp_23 : decode cX6_addUp 23 = .ok (.iconst 1, 1) := by decide +kernel
theorem dX6_addUp_24 : decode cX6_addUp 24 = .ok (.iand, 1) := by decide +kernel
theorem dX6_addUp_25 : decode cX6_addUp 25 = .ok (.ifCond .eq 12, 3) := by decide +kernel
theorem dX6_addUp_28 : decode cX6_addUp 28 = .ok (.aload_n 1, 1) := by decide +kernel
theorem dX6_addUp_29 : decode cX6_addUp 29 = .ok (.iload_n 2, 1) := by decide +kernel
theorem dX6_addUp_30 : decode cX6_addUp 30 = .ok (.dup2, 1) := by decide +kernel
theorem dX6_addUp_31 : decode cX6_addUp 31 = .ok (.iaload, 1) := by decide +kernel
theorem dX6_addUp_32 : decode cX6_addUp 32 = .ok (.aload_n 0, 1) := by decide +kernel
theorem dX6_addUp_33 : decode cX6_addUp 33 = .ok (.iload_n 3, 1) := by decide +kernel
theorem dX6_addUp_34 : decode cX6_addUp 34 = .ok (.iaload, 1) := by decide +kernel
theorem dX6_addUp_35 : decode cX6_addUp 35 = .ok (.iadd, 1) := by decide +kernel
theorem dX6_addUp_36 : decode cX6_addUp 36 = .ok (.iastore, 1) := by decide +kernel
theorem dX6_addUp_37 : decode cX6_addUp 37 = .ok (.iinc 3 1, 3) := by decide +kernel
theorem dX6_addUp_40 : decode cX6_addUp 40 = .ok (.goto (-26), 3) := by decide +kernel
theorem dX6_addUp_43 : decode cX6_addUp 43 = .ok (.iinc 2 1, 3) := by decide +kernel
theorem dX6_addUp_46 : decode cX6_addUp 46 = .ok (.goto (-44), 3) := by decide +kernel
theorem dX6_addUp_49 : decode cX6_addUp 49 = .ok (.return_, 1) := by decide +kernel
theorem dX6_costBy_0 : decode cX6_costBy 0 = .ok (.iload_n 1, 1) := by decide +kernel
theorem dX6_costBy_1 : decode cX6_costBy 1 = .ok (.ifCond .lt 38, 3) := by decide +kernel
theorem dX6_costBy_4 : decode cX6_costBy 4 = .ok (.iload_n 1, 1) := by decide +kernel
theorem dX6_costBy_5 : decode cX6_costBy 5 = .ok (.bipush 24, 2) := by decide +kernel
theorem dX6_costBy_7 : decode cX6_costBy 7 = .ok (.if_icmp .ge 32, 3) := by decide +kernel
theorem dX6_costBy_10 : decode cX6_costBy 10 = .ok (.iload_n 2, 1) := by decide +kernel
theorem dX6_costBy_11 : decode cX6_costBy 11 = .ok (.ifCond .lt 28, 3) := by decide +kernel
theorem dX6_costBy_14 : decode cX6_costBy 14 = .ok (.iload_n 3, 1) := by decide +kernel
theorem dX6_costBy_15 : decode cX6_costBy 15 = .ok (.ifCond .lt 24, 3) := by decide +kernel
theorem dX6_costBy_18 : decode cX6_costBy 18 = .ok (.iload_n 3, 1) := by decide +kernel
theorem dX6_costBy_19 : decode cX6_costBy 19 = .ok (.bipush 16, 2) := by decide +kernel
theorem dX6_costBy_21 : decode cX6_costBy 21 = .ok (.if_icmp .ge 18, 3) := by decide +kernel
theorem dX6_costBy_24 : decode cX6_costBy 24 = .ok (.aload_n 0, 1) := by decide +kernel
theorem dX6_costBy_25 : decode cX6_costBy 25 = .ok (.getfield 24, 3) := by decide +kernel
theorem dX6_costBy_28 : decode cX6_costBy 28 = .ok (.iload_n 3, 1) := by decide +kernel
theorem dX6_costBy_29 : decode cX6_costBy 29 = .ok (.iaload, 1) := by decide +kernel
theorem dX6_costBy_30 : decode cX6_costBy 30 = .ok (.aload_n 0, 1) := by decide +kernel
theorem dX6_costBy_31 : decode cX6_costBy 31 = .ok (.getfield 9, 3) := by decide +kernel
theorem dX6_costBy_34 : decode cX6_costBy 34 = .ok (.iload_n 1, 1) := by decide +kernel
theorem dX6_costBy_35 : decode cX6_costBy 35 = .ok (.iaload, 1) := by decide +kernel
theorem dX6_costBy_36 : decode cX6_costBy 36 = .ok (.if_icmp .ge 6, 3) := by decide +kernel
theorem dX6_costBy_39 : decode cX6_costBy 39 = .ok (.ldc 55, 2) := by decide +kernel
theorem dX6_costBy_41 : decode cX6_costBy 41 = .ok (.ireturn, 1) := by decide +kernel
theorem dX6_costBy_42 : decode cX6_costBy 42 = .ok (.aload_n 0, 1) := by decide +kernel
theorem dX6_costBy_43 : decode cX6_costBy 43 = .ok (.getfield 30, 3) := by decide +kernel
theorem dX6_costBy_46 : decode cX6_costBy 46 = .ok (.iload_n 3, 1) := by decide +kernel
theorem dX6_costBy_47 : decode cX6_costBy 47 = .ok (.iaload, 1) := by decide +kernel
theorem dX6_costBy_48 : decode cX6_costBy 48 = .ok (.aload_n 0, 1) := by decide +kernel
theorem dX6_costBy_49 : decode cX6_costBy 49 = .ok (.getfield 27, 3) := by decide +kernel
theorem dX6_costBy_52 : decode cX6_costBy 52 = .ok (.iload_n 3, 1) := by decide +kernel
theorem dX6_costBy_53 : decode cX6_costBy 53 = .ok (.iload_n 2, 1) := by decide +kernel
theorem dX6_costBy_54 : decode cX6_costBy 54 = .ok (.iconst (-1), 1) := by decide +kernel
theorem dX6_costBy_55 : decode cX6_costBy 55 = .ok (.ixor, 1) := by decide +kernel
theorem dX6_costBy_56 : decode cX6_costBy 56 = .ok (.iand, 1) := by decide +kernel
theorem dX6_costBy_57 : decode cX6_costBy 57 = .ok (.iaload, 1) := by decide +kernel
theorem dX6_costBy_58 : decode cX6_costBy 58 = .ok (.iadd, 1) := by decide +kernel
theorem dX6_costBy_59 : decode cX6_costBy 59 = .ok (.aload_n 0, 1) := by decide +kernel
theorem dX6_costBy_60 : decode cX6_costBy 60 = .ok (.getfield 33, 3) := by decide +kernel
theorem dX6_costBy_63 : decode cX6_costBy 63 = .ok (.iload_n 1, 1) := by decide +kernel
theorem dX6_costBy_64 : decode cX6_costBy 64 = .ok (.iconst 1, 1) := by decide +kernel
theorem dX6_costBy_65 : decode cX6_costBy 65 = .ok (.iadd, 1) := by decide +kernel
theorem dX6_costBy_66 : decode cX6_costBy 66 = .ok (.bipush 16, 2) := by decide +kernel
theorem dX6_costBy_68 : decode cX6_costBy 68 = .ok (.imul, 1) := by decide +kernel
theorem dX6_costBy_69 : decode cX6_costBy 69 = .ok (.iload_n 3, 1) := by decide +kernel
theorem dX6_costBy_70 : decode cX6_costBy 70 = .ok (.iadd, 1) := by decide +kernel
theorem dX6_costBy_71 : decode cX6_costBy 71 = .ok (.iaload, 1) := by decide +kernel
theorem dX6_costBy_72 : decode cX6_costBy 72 = .ok (.iadd, 1) := by decide +kernel
theorem dX6_costBy_73 : decode cX6_costBy 73 = .ok (.istore 4, 2) := by decide +kernel
theorem dX6_costBy_75 : decode cX6_costBy 75 = .ok (.iload 4, 2) := by decide +kernel
theorem dX6_costBy_77 : decode cX6_costBy 77 = .ok (.ldc 55, 2) := by decide +kernel
theorem dX6_costBy_79 : decode cX6_costBy 79 = .ok (.invokestatic 56, 3) := by decide +kernel
theorem dX6_costBy_82 : decode cX6_costBy 82 = .ok (.ireturn, 1) := by decide +kernel
set_option maxRecDepth 20000 in
theorem ggX6_bestAt_X6_costBy : GoodIn wsX6_bestAt wsX6_costBy := goodIn_r _ [6, 7, 8, 1, 9, 10, 11, 12, 13, 14, 15, 16, 17, 18, 19, 20, 21, 22, 23] (by decide +kernel) (by decide +kernel)
set_option maxRecDepth 20000 in
theorem gX6_bestAt_X6_costBy : GoodIn wsX6_bestAt (wsV RX6 51 RX6 yX6_costBy wsX6_costBy) := goodIn_app (goodIn_of _ (by decide +kernel)) ggX6_bestAt_X6_costBy
theorem dX6_bestAt_0 : decode cX6_bestAt 0 = .ok (.iconst 0, 1) := by decide +kernel
theorem dX6_bestAt_1 : decode cX6_bestAt 1 = .ok (.istore_n 3, 1) := by decide +kernel
theorem dX6_bestAt_2 : decode cX6_bestAt 2 = .ok (.ldc 55, 2) := by decide +kernel
theorem dX6_bestAt_4 : decode cX6_bestAt 4 = .ok (.istore 4, 2) := by decide +kernel
theorem dX6_bestAt_6 : decode cX6_bestAt 6 = .ok (.iconst 0, 1) := by decide +kernel
theorem dX6_bestAt_7 : decode cX6_bestAt 7 = .ok (.istore 5, 2) := by decide +kernel
theorem dX6_bestAt_9 : decode cX6_bestAt 9 = .ok (.iload 5, 2) := by decide +kernel
theorem dX6_bestAt_11 : decode cX6_bestAt 11 = .ok (.bipush 16, 2) := by decide +kernel
theorem dX6_bestAt_13 : decode cX6_bestAt 13 = .ok (.if_icmp .ge 33, 3) := by decide +kernel
theorem dX6_bestAt_16 : decode cX6_bestAt 16 = .ok (.aload_n 0, 1) := by decide +kernel
theorem dX6_bestAt_17 : decode cX6_bestAt 17 = .ok (.iload_n 1, 1) := by decide +kernel
theorem dX6_bestAt_18 : decode cX6_bestAt 18 = .ok (.iload_n 2, 1) := by decide +kernel
theorem dX6_bestAt_19 : decode cX6_bestAt 19 = .ok (.iload 5, 2) := by decide +kernel
theorem dX6_bestAt_21 : decode cX6_bestAt 21 = .ok (.invokevirtual 51, 3) := by decide +kernel
theorem dX6_bestAt_24 : decode cX6_bestAt 24 = .ok (.istore 6, 2) := by decide +kernel
theorem dX6_bestAt_26 : decode cX6_bestAt 26 = .ok (.iload 6, 2) := by decide +kernel
theorem dX6_bestAt_28 : decode cX6_bestAt 28 = .ok (.iload 4, 2) := by decide +kernel
theorem dX6_bestAt_30 : decode cX6_bestAt 30 = .ok (.if_icmp .ge 10, 3) := by decide +kernel
theorem dX6_bestAt_33 : decode cX6_bestAt 33 = .ok (.iload 6, 2) := by decide +kernel
theorem dX6_bestAt_35 : decode cX6_bestAt 35 = .ok (.istore 4, 2) := by decide +kernel
theorem dX6_bestAt_37 : decode cX6_bestAt 37 = .ok (.iload 5, 2) := by decide +kernel
theorem dX6_bestAt_39 : decode cX6_bestAt 39 = .ok (.istore_n 3, 1) := by decide +kernel
theorem dX6_bestAt_40 : decode cX6_bestAt 40 = .ok (.iinc 5 1, 3) := by decide +kernel
theorem dX6_bestAt_43 : decode cX6_bestAt 43 = .ok (.goto (-34), 3) := by decide +kernel
theorem dX6_bestAt_46 : decode cX6_bestAt 46 = .ok (.iload_n 3, 1) := by decide +kernel
theorem dX6_bestAt_47 : decode cX6_bestAt 47 = .ok (.ireturn, 1) := by decide +kernel
theorem dX6_leastCost_0 : decode cX6_leastCost 0 = .ok (.aload_n 0, 1) := by decide +kernel
theorem dX6_leastCost_1 : decode cX6_leastCost 1 = .ok (.getfield 33, 3) := by decide +kernel
theorem dX6_leastCost_4 : decode cX6_leastCost 4 = .ok (.iconst 0, 1) := by decide +kernel
theorem dX6_leastCost_5 : decode cX6_leastCost 5 = .ok (.iaload, 1) := by decide +kernel
theorem dX6_leastCost_6 : decode cX6_leastCost 6 = .ok (.ldc 55, 2) := by decide +kernel
theorem dX6_leastCost_8 : decode cX6_leastCost 8 = .ok (.if_icmp .lt 7, 3) := by decide +kernel
theorem dX6_leastCost_11 : decode cX6_leastCost 11 = .ok (.iconst (-1), 1) := by decide +kernel
theorem dX6_leastCost_12 : decode cX6_leastCost 12 = .ok (.goto 9, 3) := by decide +kernel
theorem dX6_leastCost_15 : decode cX6_leastCost 15 = .ok (.aload_n 0, 1) := by decide +kernel
theorem dX6_leastCost_16 : decode cX6_leastCost 16 = .ok (.getfield 33, 3) := by decide +kernel
theorem dX6_leastCost_19 : decode cX6_leastCost 19 = .ok (.iconst 0, 1) := by decide +kernel
theorem dX6_leastCost_20 : decode cX6_leastCost 20 = .ok (.iaload, 1) := by decide +kernel
theorem dX6_leastCost_21 : decode cX6_leastCost 21 = .ok (.ireturn, 1) := by decide +kernel
set_option maxRecDepth 20000 in
theorem ggX6_setAt_X6_bestAt : GoodIn wsX6_setAt wsX6_bestAt := goodIn_r _ [5, 6, 7, 8, 9, 4, 10, 11, 12, 13, 14, 15, 16, 17, 18, 19, 20, 21, 22, 23, 24, 25, 26, 27] (by decide +kernel) (by decide +kernel)
set_option maxRecDepth 20000 in
theorem gX6_setAt_X6_bestAt : GoodIn wsX6_setAt (wsV RX6 47 RX6 yX6_bestAt wsX6_bestAt) := goodIn_app (goodIn_of _ (by decide +kernel)) ggX6_setAt_X6_bestAt
theorem dX6_setAt_0 : decode cX6_setAt 0 = .ok (.iconst 0, 1) := by decide +kernel
theorem dX6_setAt_1 : decode cX6_setAt 1 = .ok (.istore_n 2, 1) := by decide +kernel
theorem dX6_setAt_2 : decode cX6_setAt 2 = .ok (.iconst 0, 1) := by decide +kernel
theorem dX6_setAt_3 : decode cX6_setAt 3 = .ok (.istore_n 3, 1) := by decide +kernel
theorem dX6_setAt_4 : decode cX6_setAt 4 = .ok (.iload_n 3, 1) := by decide +kernel
theorem dX6_setAt_5 : decode cX6_setAt 5 = .ok (.bipush 24, 2) := by decide +kernel
theorem dX6_setAt_7 : decode cX6_setAt 7 = .ok (.if_icmp .ge 21, 3) := by decide +kernel
theorem dX6_setAt_10 : decode cX6_setAt 10 = .ok (.iload_n 3, 1) := by decide +kernel
theorem dX6_setAt_11 : decode cX6_setAt 11 = .ok (.iload_n 1, 1) := by decide +kernel
theorem dX6_setAt_12 : decode cX6_setAt 12 = .ok (.if_icmp .gt 16, 3) := by decide +kernel
theorem dX6_setAt_15 : decode cX6_setAt 15 = .ok (.aload_n 0, 1) := by decide +kernel
theorem dX6_setAt_16 : decode cX6_setAt 16 = .ok (.iload_n 3, 1) := by decide +kernel
theorem dX6_setAt_17 : decode cX6_setAt 17 = .ok (.iload_n 2, 1) := by decide +kernel
theorem dX6_setAt_18 : decode cX6_setAt 18 = .ok (.invokevirtual 47, 3) := by decide +kernel
theorem dX6_setAt_21 : decode cX6_setAt 21 = .ok (.istore_n 2, 1) := by decide +kernel
theorem dX6_setAt_22 : decode cX6_setAt 22 = .ok (.iinc 3 1, 3) := by decide +kernel
theorem dX6_setAt_25 : decode cX6_setAt 25 = .ok (.goto (-21), 3) := by decide +kernel
theorem dX6_setAt_28 : decode cX6_setAt 28 = .ok (.iload_n 2, 1) := by decide +kernel
theorem dX6_setAt_29 : decode cX6_setAt 29 = .ok (.ireturn, 1) := by decide +kernel
