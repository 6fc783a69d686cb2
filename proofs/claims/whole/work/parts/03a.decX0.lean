set_option maxRecDepth 20000 in
theorem ggX0_init_X11_fillRow : GoodIn wsX0_init wsX11_fillRow := goodIn_r _ [14] (by decide +kernel) (by decide +kernel)
set_option maxRecDepth 20000 in
theorem gX0_init_X11_fillRow_n34 : GoodIn wsX0_init (wsX11_fillRow) := ggX0_init_X11_fillRow
theorem dX0_init_0 : decode cX0_init 0 = .ok (.aload_n 0, 1) := by decide +kernel
theorem dX0_init_1 : decode cX0_init 1 = .ok (.invokespecial 3, 3) := by decide +kernel
theorem dX0_init_4 : decode cX0_init 4 = .ok (.aload_n 0, 1) := by decide +kernel
theorem dX0_init_5 : decode cX0_init 5 = .ok (.bipush 12, 2) := by decide +kernel
theorem dX0_init_7 : decode cX0_init 7 = .ok (.newarray .int, 2) := by decide +kernel
theorem dX0_init_9 : decode cX0_init 9 = .ok (.putfield 9, 3) := by decide +kernel
theorem dX0_init_12 : decode cX0_init 12 = .ok (.aload_n 0, 1) := by decide +kernel
theorem dX0_init_13 : decode cX0_init 13 = .ok (.iconst 0, 1) := by decide +kernel
theorem dX0_init_14 : decode cX0_init 14 = .ok (.putfield 15, 3) := by decide +kernel
theorem dX0_init_17 : decode cX0_init 17 = .ok (.aload_n 0, 1) := by decide +kernel
theorem dX0_init_18 : decode cX0_init 18 = .ok (.bipush 12, 2) := by decide +kernel
theorem dX0_init_20 : decode cX0_init 20 = .ok (.newarray .int, 2) := by decide +kernel
theorem dX0_init_22 : decode cX0_init 22 = .ok (.putfield 19, 3) := by decide +kernel
theorem dX0_init_25 : decode cX0_init 25 = .ok (.aload_n 0, 1) := by decide +kernel
theorem dX0_init_26 : decode cX0_init 26 = .ok (.iconst 3, 1) := by decide +kernel
theorem dX0_init_27 : decode cX0_init 27 = .ok (.newarray .int, 2) := by decide +kernel
theorem dX0_init_29 : decode cX0_init 29 = .ok (.putfield 22, 3) := by decide +kernel
theorem dX0_init_32 : decode cX0_init 32 = .ok (.aload_n 0, 1) := by decide +kernel
theorem dX0_init_33 : decode cX0_init 33 = .ok (.iconst 3, 1) := by decide +kernel
theorem dX0_init_34 : decode cX0_init 34 = .ok (.newarray .int, 2) := by decide +kernel
theorem dX0_init_36 : decode cX0_init 36 = .ok (.putfield 25, 3) := by decide +kernel
theorem dX0_init_39 : decode cX0_init 39 = .ok (.aload_n 0, 1) := by decide +kernel
theorem dX0_init_40 : decode cX0_init 40 = .ok (.iconst 3, 1) := by decide +kernel
theorem dX0_init_41 : decode cX0_init 41 = .ok (.putfield 28, 3) := by decide +kernel
theorem dX0_init_44 : decode cX0_init 44 = .ok (.aload_n 0, 1) := by decide +kernel
theorem dX0_init_45 : decode cX0_init 45 = .ok (.iconst 0, 1) := by decide +kernel
theorem dX0_init_46 : decode cX0_init 46 = .ok (.putfield 31, 3) := by decide +kernel
theorem dX0_init_49 : decode cX0_init 49 = .ok (.aload_n 0, 1) := by decide +kernel
theorem dX0_init_50 : decode cX0_init 50 = .ok (.getfield 19, 3) := by decide +kernel
theorem dX0_init_53 : decode cX0_init 53 = .ok (.iconst (-1), 1) := by decide +kernel
theorem dX0_init_54 : decode cX0_init 54 = .ok (.invokestatic 34, 3) := by decide +kernel
theorem dX0_init_57 : decode cX0_init 57 = .ok (.return_, 1) := by decide +kernel
set_option maxRecDepth 20000 in
theorem ggX0_copyFrom_X11_copyRow : GoodIn wsX0_copyFrom wsX11_copyRow := goodIn_r _ [9, 10, 11, 12, 13, 14, 15, 16, 17] (by decide +kernel) (by decide +kernel)
set_option maxRecDepth 20000 in
theorem gX0_copyFrom_X11_copyRow_n38 : GoodIn wsX0_copyFrom (wsX11_copyRow) := ggX0_copyFrom_X11_copyRow
theorem dX0_copyFrom_0 : decode cX0_copyFrom 0 = .ok (.aload_n 1, 1) := by decide +kernel
theorem dX0_copyFrom_1 : decode cX0_copyFrom 1 = .ok (.getfield 9, 3) := by decide +kernel
theorem dX0_copyFrom_4 : decode cX0_copyFrom 4 = .ok (.aload_n 0, 1) := by decide +kernel
theorem dX0_copyFrom_5 : decode cX0_copyFrom 5 = .ok (.getfield 9, 3) := by decide +kernel
theorem dX0_copyFrom_8 : decode cX0_copyFrom 8 = .ok (.invokestatic 38, 3) := by decide +kernel
theorem dX0_copyFrom_11 : decode cX0_copyFrom 11 = .ok (.aload_n 0, 1) := by decide +kernel
theorem dX0_copyFrom_12 : decode cX0_copyFrom 12 = .ok (.aload_n 1, 1) := by decide +kernel
theorem dX0_copyFrom_13 : decode cX0_copyFrom 13 = .ok (.getfield 15, 3) := by decide +kernel
theorem dX0_copyFrom_16 : decode cX0_copyFrom 16 = .ok (.putfield 15, 3) := by decide +kernel
theorem dX0_copyFrom_19 : decode cX0_copyFrom 19 = .ok (.aload_n 1, 1) := by decide +kernel
theorem dX0_copyFrom_20 : decode cX0_copyFrom 20 = .ok (.getfield 19, 3) := by decide +kernel
theorem dX0_copyFrom_23 : decode cX0_copyFrom 23 = .ok (.aload_n 0, 1) := by decide +kernel
theorem dX0_copyFrom_24 : decode cX0_copyFrom 24 = .ok (.getfield 19, 3) := by decide +kernel
theorem dX0_copyFrom_27 : decode cX0_copyFrom 27 = .ok (.invokestatic 38, 3) := by decide +kernel
theorem dX0_copyFrom_30 : decode cX0_copyFrom 30 = .ok (.aload_n 1, 1) := by decide +kernel
theorem dX0_copyFrom_31 : decode cX0_copyFrom 31 = .ok (.getfield 22, 3) := by decide +kernel
theorem dX0_copyFrom_34 : decode cX0_copyFrom 34 = .ok (.aload_n 0, 1) := by decide +kernel
theorem dX0_copyFrom_35 : decode cX0_copyFrom 35 = .ok (.getfield 22, 3) := by decide +kernel
theorem dX0_copyFrom_38 : decode cX0_copyFrom 38 = .ok (.invokestatic 38, 3) := by decide +kernel
theorem dX0_copyFrom_41 : decode cX0_copyFrom 41 = .ok (.aload_n 0, 1) := by decide +kernel
theorem dX0_copyFrom_42 : decode cX0_copyFrom 42 = .ok (.aload_n 1, 1) := by decide +kernel
theorem dX0_copyFrom_43 : decode cX0_copyFrom 43 = .ok (.getfield 28, 3) := by decide +kernel
theorem dX0_copyFrom_46 : decode cX0_copyFrom 46 = .ok (.putfield 28, 3) := by decide +kernel
theorem dX0_copyFrom_49 : decode cX0_copyFrom 49 = .ok (.aload_n 0, 1) := by decide +kernel
theorem dX0_copyFrom_50 : decode cX0_copyFrom 50 = .ok (.aload_n 1, 1) := by decide +kernel
theorem dX0_copyFrom_51 : decode cX0_copyFrom 51 = .ok (.getfield 31, 3) := by decide +kernel
theorem dX0_copyFrom_54 : decode cX0_copyFrom 54 = .ok (.putfield 31, 3) := by decide +kernel
theorem dX0_copyFrom_57 : decode cX0_copyFrom 57 = .ok (.return_, 1) := by decide +kernel
theorem dX0_barOf_0 : decode cX0_barOf 0 = .ok (.iload_n 1, 1) := by decide +kernel
theorem dX0_barOf_1 : decode cX0_barOf 1 = .ok (.ifCond .lt 9, 3) := by decide +kernel
theorem dX0_barOf_4 : decode cX0_barOf 4 = .ok (.iload_n 1, 1) := by decide +kernel
theorem dX0_barOf_5 : decode cX0_barOf 5 = .ok (.bipush 12, 2) := by decide +kernel
theorem dX0_barOf_7 : decode cX0_barOf 7 = .ok (.if_icmp .lt 7, 3) := by decide +kernel
theorem dX0_barOf_10 : decode cX0_barOf 10 = .ok (.iconst (-1), 1) := by decide +kernel
theorem dX0_barOf_11 : decode cX0_barOf 11 = .ok (.goto 9, 3) := by decide +kernel
theorem dX0_barOf_14 : decode cX0_barOf 14 = .ok (.aload_n 0, 1) := by decide +kernel
theorem dX0_barOf_15 : decode cX0_barOf 15 = .ok (.getfield 19, 3) := by decide +kernel
theorem dX0_barOf_18 : decode cX0_barOf 18 = .ok (.iload_n 1, 1) := by decide +kernel
theorem dX0_barOf_19 : decode cX0_barOf 19 = .ok (.iaload, 1) := by decide +kernel
theorem dX0_barOf_20 : decode cX0_barOf 20 = .ok (.ireturn, 1) := by decide +kernel
set_option maxRecDepth 20000 in
theorem ggX0_firstOf_X0_barOf : GoodIn wsX0_firstOf wsX0_barOf := goodIn_r _ [7, 8, 9, 10, 11, 12, 13, 14, 15] (by decide +kernel) (by decide +kernel)
set_option maxRecDepth 20000 in
theorem gX0_firstOf_X0_barOf : GoodIn wsX0_firstOf (wsV RX0 42 RX0 yX0_barOf wsX0_barOf) := goodIn_app (goodIn_of _ (by decide +kernel)) ggX0_firstOf_X0_barOf
theorem dX0_firstOf_0 : decode cX0_firstOf 0 = .ok (.iconst 0, 1) := by decide +kernel
theorem dX0_firstOf_1 : decode cX0_firstOf 1 = .ok (.istore_n 2, 1) := by decide +kernel
theorem dX0_firstOf_2 : decode cX0_firstOf 2 = .ok (.iload_n 2, 1) := by decide +kernel
theorem dX0_firstOf_3 : decode cX0_firstOf 3 = .ok (.bipush 12, 2) := by decide +kernel
theorem dX0_firstOf_5 : decode cX0_firstOf 5 = .ok (.if_icmp .ge 38, 3) := by decide +kernel
theorem dX0_firstOf_8 : decode cX0_firstOf 8 = .ok (.iload_n 2, 1) := by decide +kernel
theorem dX0_firstOf_9 : decode cX0_firstOf 9 = .ok (.aload_n 0, 1) := by decide +kernel
theorem dX0_firstOf_10 : decode cX0_firstOf 10 = .ok (.getfield 15, 3) := by decide +kernel
theorem dX0_firstOf_13 : decode cX0_firstOf 13 = .ok (.if_icmp .ge 30, 3) := by decide +kernel
theorem dX0_firstOf_16 : decode cX0_firstOf 16 = .ok (.aload_n 0, 1) := by decide +kernel
theorem dX0_firstOf_17 : decode cX0_firstOf 17 = .ok (.aload_n 0, 1) := by decide +kernel
theorem dX0_firstOf_18 : decode cX0_firstOf 18 = .ok (.getfield 9, 3) := by decide +kernel
theorem dX0_firstOf_21 : decode cX0_firstOf 21 = .ok (.iload_n 2, 1) := by decide +kernel
theorem dX0_firstOf_22 : decode cX0_firstOf 22 = .ok (.iaload, 1) := by decide +kernel
theorem dX0_firstOf_23 : decode cX0_firstOf 23 = .ok (.invokevirtual 42, 3) := by decide +kernel
theorem dX0_firstOf_26 : decode cX0_firstOf 26 = .ok (.iload_n 1, 1) := by decide +kernel
theorem dX0_firstOf_27 : decode cX0_firstOf 27 = .ok (.if_icmp .ne 10, 3) := by decide +kernel
theorem dX0_firstOf_30 : decode cX0_firstOf 30 = .ok (.aload_n 0, 1) := by decide +kernel
theorem dX0_firstOf_31 : decode cX0_firstOf 31 = .ok (.getfield 9, 3) := by decide +kernel
theorem dX0_firstOf_34 : decode cX0_firstOf 34 = .ok (.iload_n 2, 1) := by decide +kernel
theorem dX0_firstOf_35 : decode cX0_firstOf 35 = .ok (.iaload, 1) := by decide +kernel
theorem dX0_firstOf_36 : decode cX0_firstOf 36 = .ok (.ireturn, 1) := by decide +kernel
theorem dX0_firstOf_37 : decode cX0_firstOf 37 = .ok (.iinc 2 1, 3) := by decide +kernel
theorem dX0_firstOf_40 : decode cX0_firstOf 40 = .ok (.goto (-38), 3) := by decide +kernel
theorem dX0_firstOf_43 : decode cX0_firstOf 43 = .ok (.iconst (-1), 1) := by decide +kernel
theorem dX0_firstOf_44 : decode cX0_firstOf 44 = .ok (.ireturn, 1) := by decide +kernel
theorem dX0_lengthOf_0 : decode cX0_lengthOf 0 = .ok (.iconst 0, 1) := by decide +kernel
theorem dX0_lengthOf_1 : decode cX0_lengthOf 1 = .ok (.istore_n 2, 1) := by decide +kernel
theorem dX0_lengthOf_2 : decode cX0_lengthOf 2 = .ok (.iconst 0, 1) := by decide +kernel
theorem dX0_lengthOf_3 : decode cX0_lengthOf 3 = .ok (.istore_n 3, 1) := by decide +kernel
theorem dX0_lengthOf_4 : decode cX0_lengthOf 4 = .ok (.iload_n 3, 1) := by decide +kernel
theorem dX0_lengthOf_5 : decode cX0_lengthOf 5 = .ok (.bipush 12, 2) := by decide +kernel
theorem dX0_lengthOf_7 : decode cX0_lengthOf 7 = .ok (.if_icmp .ge 22, 3) := by decide +kernel
theorem dX0_lengthOf_10 : decode cX0_lengthOf 10 = .ok (.aload_n 0, 1) := by decide +kernel
theorem dX0_lengthOf_11 : decode cX0_lengthOf 11 = .ok (.getfield 19, 3) := by decide +kernel
theorem dX0_lengthOf_14 : decode cX0_lengthOf 14 = .ok (.iload_n 3, 1) := by decide +kernel
theorem dX0_lengthOf_15 : decode cX0_lengthOf 15 = .ok (.iaload, 1) := by decide +kernel
theorem dX0_lengthOf_16 : decode cX0_lengthOf 16 = .ok (.iload_n 1, 1) := by decide +kernel
theorem dX0_lengthOf_17 : decode cX0_lengthOf 17 = .ok (.if_icmp .ne 6, 3) := by decide +kernel
theorem dX0_lengthOf_20 : decode cX0_lengthOf 20 = .ok (.iinc 2 1, 3) := by decide +kernel
theorem dX0_lengthOf_23 : decode cX0_lengthOf 23 = .ok (.iinc 3 1, 3) := by decide +kernel
theorem dX0_lengthOf_26 : decode cX0_lengthOf 26 = .ok (.goto (-22), 3) := by decide +kernel
theorem dX0_lengthOf_29 : decode cX0_lengthOf 29 = .ok (.iload_n 2, 1) := by decide +kernel
theorem dX0_lengthOf_30 : decode cX0_lengthOf 30 = .ok (.ireturn, 1) := by decide +kernel
set_option maxRecDepth 20000 in
theorem ggX0_enter_X0_firstOf : GoodIn wsX0_enter wsX0_firstOf := goodIn_r _ [14, 4, 3, 15, 16, 17, 13, 18, 9, 22, 23, 24, 25, 26, 27, 28] (by decide +kernel) (by decide +kernel)
set_option maxRecDepth 20000 in
theorem gX0_enter_X0_firstOf : GoodIn wsX0_enter (wsV RX0 46 RX0 yX0_firstOf wsX0_firstOf) := goodIn_app (goodIn_of _ (by decide +kernel)) ggX0_enter_X0_firstOf
set_option maxRecDepth 20000 in
theorem ggX0_enter_X11_replace : GoodIn wsX0_enter wsX11_replace := goodIn_r _ [21] (by decide +kernel) (by decide +kernel)
set_option maxRecDepth 20000 in
theorem gX0_enter_X11_replace_n49 : GoodIn wsX0_enter (wsX11_replace) := ggX0_enter_X11_replace
theorem dX0_enter_0 : decode cX0_enter 0 = .ok (.aload_n 0, 1) := by decide +kernel
theorem dX0_enter_1 : decode cX0_enter 1 = .ok (.iload_n 1, 1) := by decide +kernel
theorem dX0_enter_2 : decode cX0_enter 2 = .ok (.invokevirtual 46, 3) := by decide +kernel
theorem dX0_enter_5 : decode cX0_enter 5 = .ok (.iconst (-1), 1) := by decide +kernel
theorem dX0_enter_6 : decode cX0_enter 6 = .ok (.if_icmp .ne 16, 3) := by decide +kernel
theorem dX0_enter_9 : decode cX0_enter 9 = .ok (.aload_n 0, 1) := by decide +kernel
theorem dX0_enter_10 : decode cX0_enter 10 = .ok (.getfield 22, 3) := by decide +kernel
theorem dX0_enter_13 : decode cX0_enter 13 = .ok (.iload_n 1, 1) := by decide +kernel
theorem dX0_enter_14 : decode cX0_enter 14 = .ok (.aload_n 0, 1) := by decide +kernel
theorem dX0_enter_15 : decode cX0_enter 15 = .ok (.getfield 28, 3) := by decide +kernel
theorem dX0_enter_18 : decode cX0_enter 18 = .ok (.invokestatic 49, 3) := by decide +kernel
theorem dX0_enter_21 : decode cX0_enter 21 = .ok (.pop, 1) := by decide +kernel
theorem dX0_enter_22 : decode cX0_enter 22 = .ok (.aload_n 0, 1) := by decide +kernel
theorem dX0_enter_23 : decode cX0_enter 23 = .ok (.getfield 9, 3) := by decide +kernel
theorem dX0_enter_26 : decode cX0_enter 26 = .ok (.aload_n 0, 1) := by decide +kernel
theorem dX0_enter_27 : decode cX0_enter 27 = .ok (.getfield 15, 3) := by decide +kernel
theorem dX0_enter_30 : decode cX0_enter 30 = .ok (.iload_n 2, 1) := by decide +kernel
theorem dX0_enter_31 : decode cX0_enter 31 = .ok (.invokestatic 49, 3) := by decide +kernel
theorem dX0_enter_34 : decode cX0_enter 34 = .ok (.pop, 1) := by decide +kernel
theorem dX0_enter_35 : decode cX0_enter 35 = .ok (.aload_n 0, 1) := by decide +kernel
theorem dX0_enter_36 : decode cX0_enter 36 = .ok (.aload_n 0, 1) := by decide +kernel
theorem dX0_enter_37 : decode cX0_enter 37 = .ok (.getfield 15, 3) := by decide +kernel
theorem dX0_enter_40 : decode cX0_enter 40 = .ok (.iconst 1, 1) := by decide +kernel
theorem dX0_enter_41 : decode cX0_enter 41 = .ok (.iadd, 1) := by decide +kernel
theorem dX0_enter_42 : decode cX0_enter 42 = .ok (.bipush 12, 2) := by decide +kernel
theorem dX0_enter_44 : decode cX0_enter 44 = .ok (.invokestatic 53, 3) := by decide +kernel
theorem dX0_enter_47 : decode cX0_enter 47 = .ok (.putfield 15, 3) := by decide +kernel
theorem dX0_enter_50 : decode cX0_enter 50 = .ok (.aload_n 0, 1) := by decide +kernel
theorem dX0_enter_51 : decode cX0_enter 51 = .ok (.getfield 19, 3) := by decide +kernel
theorem dX0_enter_54 : decode cX0_enter 54 = .ok (.iload_n 2, 1) := by decide +kernel
theorem dX0_enter_55 : decode cX0_enter 55 = .ok (.iload_n 1, 1) := by decide +kernel
theorem dX0_enter_56 : decode cX0_enter 56 = .ok (.invokestatic 49, 3) := by decide +kernel
theorem dX0_enter_59 : decode cX0_enter 59 = .ok (.pop, 1) := by decide +kernel
theorem dX0_enter_60 : decode cX0_enter 60 = .ok (.return_, 1) := by decide +kernel
set_option maxRecDepth 20000 in
theorem ggX0_takeOut_X0_barOf : GoodIn wsX0_takeOut wsX0_barOf := goodIn_r _ [10, 5, 18, 19, 20, 21, 22, 23, 24] (by decide +kernel) (by decide +kernel)
set_option maxRecDepth 20000 in
theorem gX0_takeOut_X0_barOf : GoodIn wsX0_takeOut (wsV RX0 42 RX0 yX0_barOf wsX0_barOf) := goodIn_app (goodIn_of _ (by decide +kernel)) ggX0_takeOut_X0_barOf
set_option maxRecDepth 20000 in
theorem ggX0_takeOut_X0_firstOf : GoodIn wsX0_takeOut wsX0_firstOf := goodIn_r _ [14, 3, 4, 6, 7, 8, 9, 10, 5, 18, 19, 20, 21, 22, 23, 24] (by decide +kernel) (by decide +kernel)
set_option maxRecDepth 20000 in
theorem gX0_takeOut_X0_firstOf : GoodIn wsX0_takeOut (wsV RX0 46 RX0 yX0_firstOf wsX0_firstOf) := goodIn_app (goodIn_of _ (by decide +kernel)) ggX0_takeOut_X0_firstOf
set_option maxRecDepth 20000 in
theorem ggX0_takeOut_X11_replace : GoodIn wsX0_takeOut wsX11_replace := goodIn_r _ [17] (by decide +kernel) (by decide +kernel)
set_option maxRecDepth 20000 in
theorem gX0_takeOut_X11_replace_n49 : GoodIn wsX0_takeOut (wsX11_replace) := ggX0_takeOut_X11_replace
theorem dX0_takeOut_0 : decode cX0_takeOut 0 = .ok (.aload_n 0, 1) := by decide +kernel
theorem dX0_takeOut_1 : decode cX0_takeOut 1 = .ok (.iload_n 1, 1) := by decide +kernel
theorem dX0_takeOut_2 : decode cX0_takeOut 2 = .ok (.invokevirtual 42, 3) := by decide +kernel
theorem dX0_takeOut_5 : decode cX0_takeOut 5 = .ok (.istore_n 2, 1) := by decide +kernel
theorem dX0_takeOut_6 : decode cX0_takeOut 6 = .ok (.aload_n 0, 1) := by decide +kernel
theorem dX0_takeOut_7 : decode cX0_takeOut 7 = .ok (.iload_n 2, 1) := by decide +kernel
theorem dX0_takeOut_8 : decode cX0_takeOut 8 = .ok (.invokevirtual 46, 3) := by decide +kernel
theorem dX0_takeOut_11 : decode cX0_takeOut 11 = .ok (.iload_n 1, 1) := by decide +kernel
theorem dX0_takeOut_12 : decode cX0_takeOut 12 = .ok (.if_icmp .ne 16, 3) := by decide +kernel
theorem dX0_takeOut_15 : decode cX0_takeOut 15 = .ok (.aload_n 0, 1) := by decide +kernel
theorem dX0_takeOut_16 : decode cX0_takeOut 16 = .ok (.getfield 22, 3) := by decide +kernel
theorem dX0_takeOut_19 : decode cX0_takeOut 19 = .ok (.iload_n 2, 1) := by decide +kernel
theorem dX0_takeOut_20 : decode cX0_takeOut 20 = .ok (.aload_n 0, 1) := by decide +kernel
theorem dX0_takeOut_21 : decode cX0_takeOut 21 = .ok (.getfield 28, 3) := by decide +kernel
theorem dX0_takeOut_24 : decode cX0_takeOut 24 = .ok (.invokestatic 49, 3) := by decide +kernel
theorem dX0_takeOut_27 : decode cX0_takeOut 27 = .ok (.pop, 1) := by decide +kernel
theorem dX0_takeOut_28 : decode cX0_takeOut 28 = .ok (.iconst 0, 1) := by decide +kernel
theorem dX0_takeOut_29 : decode cX0_takeOut 29 = .ok (.istore_n 3, 1) := by decide +kernel
theorem dX0_takeOut_30 : decode cX0_takeOut 30 = .ok (.iconst 0, 1) := by decide +kernel
theorem dX0_takeOut_31 : decode cX0_takeOut 31 = .ok (.istore 4, 2) := by decide +kernel
theorem dX0_takeOut_33 : decode cX0_takeOut 33 = .ok (.iload 4, 2) := by decide +kernel
theorem dX0_takeOut_35 : decode cX0_takeOut 35 = .ok (.bipush 12, 2) := by decide +kernel
theorem dX0_takeOut_37 : decode cX0_takeOut 37 = .ok (.if_icmp .ge 48, 3) := by decide +kernel
theorem dX0_takeOut_40 : decode cX0_takeOut 40 = .ok (.iload 4, 2) := by decide +kernel
theorem dX0_takeOut_42 : decode cX0_takeOut 42 = .ok (.aload_n 0, 1) := by decide +kernel
theorem dX0_takeOut_43 : decode cX0_takeOut 43 = .ok (.getfield 15, 3) := by decide +kernel
theorem dX0_takeOut_46 : decode cX0_takeOut 46 = .ok (.if_icmp .ge 39, 3) := by decide +kernel
theorem dX0_takeOut_49 : decode cX0_takeOut 49 = .ok (.aload_n 0, 1) := by decide +kernel
theorem dX0_takeOut_50 : decode cX0_takeOut 50 = .ok (.getfield 9, 3) := by decide +kernel
theorem dX0_takeOut_53 : decode cX0_takeOut 53 = .ok (.iload 4, 2) := by decide +kernel
theorem dX0_takeOut_55 : decode cX0_takeOut 55 = .ok (.iaload, 1) := by decide +kernel
theorem dX0_takeOut_56 : decode cX0_takeOut 56 = .ok (.iload_n 1, 1) := by decide +kernel
theorem dX0_takeOut_57 : decode cX0_takeOut 57 = .ok (.if_icmp .eq 22, 3) := by decide +kernel
theorem dX0_takeOut_60 : decode cX0_takeOut 60 = .ok (.aload_n 0, 1) := by decide +kernel
theorem dX0_takeOut_61 : decode cX0_takeOut 61 = .ok (.getfield 9, 3) := by decide +kernel
theorem dX0_takeOut_64 : decode cX0_takeOut 64 = .ok (.iload_n 3, 1) := by decide +kernel
theorem dX0_takeOut_65 : decode cX0_takeOut 65 = .ok (.aload_n 0, 1) := by decide +kernel
theorem dX0_takeOut_66 : decode cX0_takeOut 66 = .ok (.getfield 9, 3) := by decide +kernel
theorem dX0_takeOut_69 : decode cX0_takeOut 69 = .ok (.iload 4, 2) := by decide +kernel
theorem dX0_takeOut_71 : decode cX0_takeOut 71 = .ok (.iaload, 1) := by decide +kernel
theorem dX0_takeOut_72 : decode cX0_takeOut 72 = .ok (.invokestatic 49, 3) := by decide +kernel
theorem dX0_takeOut_75 : decode cX0_takeOut 75 = .ok (.pop, 1) := by decide +kernel
theorem dX0_takeOut_76 : decode cX0_takeOut 76 = .ok (.iinc 3 1, 3) := by decide +kernel
theorem dX0_takeOut_79 : decode cX0_takeOut 79 = .ok (.iinc 4 1, 3) := by decide +kernel
theorem dX0_takeOut_82 : decode cX0_takeOut 82 = .ok (.goto (-49), 3) := by decide +kernel
theorem dX0_takeOut_85 : decode cX0_takeOut 85 = .ok (.aload_n 0, 1) := by decide +kernel
theorem dX0_takeOut_86 : decode cX0_takeOut 86 = .ok (.iload_n 3, 1) := by decide +kernel
theorem dX0_takeOut_87 : decode cX0_takeOut 87 = .ok (.putfield 15, 3) := by decide +kernel
theorem dX0_takeOut_90 : decode cX0_takeOut 90 = .ok (.aload_n 0, 1) := by decide +kernel
theorem dX0_takeOut_91 : decode cX0_takeOut 91 = .ok (.getfield 19, 3) := by decide +kernel
theorem dX0_takeOut_94 : decode cX0_takeOut 94 = .ok (.iload_n 1, 1) := by decide +kernel
theorem dX0_takeOut_95 : decode cX0_takeOut 95 = .ok (.iconst (-1), 1) := by decide +kernel
theorem dX0_takeOut_96 : decode cX0_takeOut 96 = .ok (.invokestatic 49, 3) := by decide +kernel
theorem dX0_takeOut_99 : decode cX0_takeOut 99 = .ok (.pop, 1) := by decide +kernel
theorem dX0_takeOut_100 : decode cX0_takeOut 100 = .ok (.return_, 1) := by decide +kernel
set_option maxRecDepth 20000 in
theorem ggX0_passMinute_X0_firstOf : GoodIn wsX0_passMinute wsX0_firstOf := goodIn_r _ [7, 8, 9, 10, 11, 12, 6, 13, 14, 23, 24, 25, 26, 27, 28, 29] (by decide +kernel) (by decide +kernel)
set_option maxRecDepth 20000 in
theorem gX0_passMinute_X0_firstOf : GoodIn wsX0_passMinute (wsV RX0 46 RX0 yX0_firstOf wsX0_firstOf) := goodIn_app (goodIn_of _ (by decide +kernel)) ggX0_passMinute_X0_firstOf
set_option maxRecDepth 20000 in
theorem ggX0_passMinute_X0_takeOut : GoodIn wsX0_passMinute wsX0_takeOut := goodIn_r _ [18, 1, 19, 8, 9, 14, 10, 11, 12, 6, 13, 3, 4, 5, 7, 20, 21, 22, 23, 24, 25, 26, 27, 28, 29] (by decide +kernel) (by decide +kernel)
set_option maxRecDepth 20000 in
theorem gX0_passMinute_X0_takeOut : GoodIn wsX0_passMinute (wsV RX0 59 RX0 yX0_takeOut wsX0_takeOut) := goodIn_app (goodIn_of _ (by decide +kernel)) ggX0_passMinute_X0_takeOut
theorem dX0_passMinute_0 : decode cX0_passMinute 0 = .ok (.iconst 0, 1) := by decide +kernel
theorem dX0_passMinute_1 : decode cX0_passMinute 1 = .ok (.istore_n 1, 1) := by decide +kernel
theorem dX0_passMinute_2 : decode cX0_passMinute 2 = .ok (.iload_n 1, 1) := by decide +kernel
theorem dX0_passMinute_3 : decode cX0_passMinute 3 = .ok (.iconst 3, 1) := by decide +kernel
theorem dX0_passMinute_4 : decode cX0_passMinute 4 = .ok (.if_icmp .ge 54, 3) := by decide +kernel
theorem dX0_passMinute_7 : decode cX0_passMinute 7 = .ok (.aload_n 0, 1) := by decide +kernel
theorem dX0_passMinute_8 : decode cX0_passMinute 8 = .ok (.iload_n 1, 1) := by decide +kernel
theorem dX0_passMinute_9 : decode cX0_passMinute 9 = .ok (.invokevirtual 46, 3) := by decide +kernel
theorem dX0_passMinute_12 : decode cX0_passMinute 12 = .ok (.istore_n 2, 1) := by decide +kernel
theorem dX0_passMinute_13 : decode cX0_passMinute 13 = .ok (.iload_n 2, 1) := by decide +kernel
theorem dX0_passMinute_14 : decode cX0_passMinute 14 = .ok (.iconst (-1), 1) := by decide +kernel
theorem dX0_passMinute_15 : decode cX0_passMinute 15 = .ok (.if_icmp .eq 37, 3) := by decide +kernel
theorem dX0_passMinute_18 : decode cX0_passMinute 18 = .ok (.aload_n 0, 1) := by decide +kernel
theorem dX0_passMinute_19 : decode cX0_passMinute 19 = .ok (.getfield 22, 3) := by decide +kernel
theorem dX0_passMinute_22 : decode cX0_passMinute 22 = .ok (.iload_n 1, 1) := by decide +kernel
theorem dX0_passMinute_23 : decode cX0_passMinute 23 = .ok (.dup2, 1) := by decide +kernel
theorem dX0_passMinute_24 : decode cX0_passMinute 24 = .ok (.iaload, 1) := by decide +kernel
theorem dX0_passMinute_25 : decode cX0_passMinute 25 = .ok (.iconst 1, 1) := by decide +kernel
theorem dX0_passMinute_26 : decode cX0_passMinute 26 = .ok (.isub, 1) := by decide +kernel
theorem dX0_passMinute_27 : decode cX0_passMinute 27 = .ok (.iastore, 1) := by decide +kernel
theorem dX0_passMinute_28 : decode cX0_passMinute 28 = .ok (.aload_n 0, 1) := by decide +kernel
theorem dX0_passMinute_29 : decode cX0_passMinute 29 = .ok (.getfield 22, 3) := by decide +kernel
theorem dX0_passMinute_32 : decode cX0_passMinute 32 = .ok (.iload_n 1, 1) := by decide +kernel
theorem dX0_passMinute_33 : decode cX0_passMinute 33 = .ok (.iaload, 1) := by decide +kernel
theorem dX0_passMinute_34 : decode cX0_passMinute 34 = .ok (.ifCond .gt 18, 3) := by decide +kernel
theorem dX0_passMinute_37 : decode cX0_passMinute 37 = .ok (.aload_n 0, 1) := by decide +kernel
theorem dX0_passMinute_38 : decode cX0_passMinute 38 = .ok (.iload_n 2, 1) := by decide +kernel
theorem dX0_passMinute_39 : decode cX0_passMinute 39 = .ok (.invokevirtual 59, 3) := by decide +kernel
theorem dX0_passMinute_42 : decode cX0_passMinute 42 = .ok (.aload_n 0, 1) := by decide +kernel
theorem dX0_passMinute_43 : decode cX0_passMinute 43 = .ok (.dup, 1) := by decide +kernel
theorem dX0_passMinute_44 : decode cX0_passMinute 44 = .ok (.getfield 31, 3) := by decide +kernel
theorem dX0_passMinute_47 : decode cX0_passMinute 47 = .ok (.iconst 1, 1) := by decide +kernel
theorem dX0_passMinute_48 : decode cX0_passMinute 48 = .ok (.iadd, 1) := by decide +kernel
theorem dX0_passMinute_49 : decode cX0_passMinute 49 = .ok (.putfield 31, 3) := by decide +kernel
theorem dX0_passMinute_52 : decode cX0_passMinute 52 = .ok (.iinc 1 1, 3) := by decide +kernel
theorem dX0_passMinute_55 : decode cX0_passMinute 55 = .ok (.goto (-53), 3) := by decide +kernel
theorem dX0_passMinute_58 : decode cX0_passMinute 58 = .ok (.return_, 1) := by decide +kernel
set_option maxRecDepth 20000 in
theorem ggX0_minutesTill_X0_barOf : GoodIn wsX0_minutesTill wsX0_barOf := goodIn_r _ [9, 10, 11, 12, 13, 14, 15, 16, 17] (by decide +kernel) (by decide +kernel)
set_option maxRecDepth 20000 in
theorem gX0_minutesTill_X0_barOf : GoodIn wsX0_minutesTill (wsV RX0 42 RX0 yX0_barOf wsX0_barOf) := goodIn_app (goodIn_of _ (by decide +kernel)) ggX0_minutesTill_X0_barOf
theorem dX0_minutesTill_0 : decode cX0_minutesTill 0 = .ok (.aload_n 0, 1) := by decide +kernel
theorem dX0_minutesTill_1 : decode cX0_minutesTill 1 = .ok (.iload_n 1, 1) := by decide +kernel
theorem dX0_minutesTill_2 : decode cX0_minutesTill 2 = .ok (.invokevirtual 42, 3) := by decide +kernel
theorem dX0_minutesTill_5 : decode cX0_minutesTill 5 = .ok (.istore_n 2, 1) := by decide +kernel
theorem dX0_minutesTill_6 : decode cX0_minutesTill 6 = .ok (.iload_n 2, 1) := by decide +kernel
theorem dX0_minutesTill_7 : decode cX0_minutesTill 7 = .ok (.ifCond .lt 8, 3) := by decide +kernel
theorem dX0_minutesTill_10 : decode cX0_minutesTill 10 = .ok (.iload_n 2, 1) := by decide +kernel
theorem dX0_minutesTill_11 : decode cX0_minutesTill 11 = .ok (.iconst 3, 1) := by decide +kernel
theorem dX0_minutesTill_12 : decode cX0_minutesTill 12 = .ok (.if_icmp .lt 5, 3) := by decide +kernel
theorem dX0_minutesTill_15 : decode cX0_minutesTill 15 = .ok (.iconst (-1), 1) := by decide +kernel
theorem dX0_minutesTill_16 : decode cX0_minutesTill 16 = .ok (.ireturn, 1) := by decide +kernel
theorem dX0_minutesTill_17 : decode cX0_minutesTill 17 = .ok (.iconst 0, 1) := by decide +kernel
theorem dX0_minutesTill_18 : decode cX0_minutesTill 18 = .ok (.istore_n 3, 1) := by decide +kernel
theorem dX0_minutesTill_19 : decode cX0_minutesTill 19 = .ok (.iconst 0, 1) := by decide +kernel
theorem dX0_minutesTill_20 : decode cX0_minutesTill 20 = .ok (.istore 4, 2) := by decide +kernel
theorem dX0_minutesTill_22 : decode cX0_minutesTill 22 = .ok (.iload 4, 2) := by decide +kernel
theorem dX0_minutesTill_24 : decode cX0_minutesTill 24 = .ok (.bipush 12, 2) := by decide +kernel
theorem dX0_minutesTill_26 : decode cX0_minutesTill 26 = .ok (.if_icmp .ge 47, 3) := by decide +kernel
theorem dX0_minutesTill_29 : decode cX0_minutesTill 29 = .ok (.iload 4, 2) := by decide +kernel
theorem dX0_minutesTill_31 : decode cX0_minutesTill 31 = .ok (.aload_n 0, 1) := by decide +kernel
theorem dX0_minutesTill_32 : decode cX0_minutesTill 32 = .ok (.getfield 15, 3) := by decide +kernel
theorem dX0_minutesTill_35 : decode cX0_minutesTill 35 = .ok (.if_icmp .ge 38, 3) := by decide +kernel
theorem dX0_minutesTill_38 : decode cX0_minutesTill 38 = .ok (.aload_n 0, 1) := by decide +kernel
theorem dX0_minutesTill_39 : decode cX0_minutesTill 39 = .ok (.getfield 9, 3) := by decide +kernel
theorem dX0_minutesTill_42 : decode cX0_minutesTill 42 = .ok (.iload 4, 2) := by decide +kernel
theorem dX0_minutesTill_44 : decode cX0_minutesTill 44 = .ok (.iaload, 1) := by decide +kernel
theorem dX0_minutesTill_45 : decode cX0_minutesTill 45 = .ok (.iload_n 1, 1) := by decide +kernel
theorem dX0_minutesTill_46 : decode cX0_minutesTill 46 = .ok (.if_icmp .eq 27, 3) := by decide +kernel
theorem dX0_minutesTill_49 : decode cX0_minutesTill 49 = .ok (.aload_n 0, 1) := by decide +kernel
theorem dX0_minutesTill_50 : decode cX0_minutesTill 50 = .ok (.aload_n 0, 1) := by decide +kernel
theorem dX0_minutesTill_51 : decode cX0_minutesTill 51 = .ok (.getfield 9, 3) := by decide +kernel
theorem dX0_minutesTill_54 : decode cX0_minutesTill 54 = .ok (.iload 4, 2) := by decide +kernel
theorem dX0_minutesTill_56 : decode cX0_minutesTill 56 = .ok (.iaload, 1) := by decide +kernel
theorem dX0_minutesTill_57 : decode cX0_minutesTill 57 = .ok (.invokevirtual 42, 3) := by decide +kernel
theorem dX0_minutesTill_60 : decode cX0_minutesTill 60 = .ok (.iload_n 2, 1) := by decide +kernel
theorem dX0_minutesTill_61 : decode cX0_minutesTill 61 = .ok (.if_icmp .ne 6, 3) := by decide +kernel
theorem dX0_minutesTill_64 : decode cX0_minutesTill 64 = .ok (.iinc 3 1, 3) := by decide +kernel
theorem dX0_minutesTill_67 : decode cX0_minutesTill 67 = .ok (.iinc 4 1, 3) := by decide +kernel
theorem dX0_minutesTill_70 : decode cX0_minutesTill 70 = .ok (.goto (-48), 3) := by decide +kernel
theorem dX0_minutesTill_73 : decode cX0_minutesTill 73 = .ok (.iload_n 3, 1) := by decide +kernel
theorem dX0_minutesTill_74 : decode cX0_minutesTill 74 = .ok (.ifCond .ne 7, 3) := by decide +kernel
theorem dX0_minutesTill_77 : decode cX0_minutesTill 77 = .ok (.iconst 0, 1) := by decide +kernel
theorem dX0_minutesTill_78 : decode cX0_minutesTill 78 = .ok (.goto 18, 3) := by decide +kernel
theorem dX0_minutesTill_81 : decode cX0_minutesTill 81 = .ok (.aload_n 0, 1) := by decide +kernel
theorem dX0_minutesTill_82 : decode cX0_minutesTill 82 = .ok (.getfield 22, 3) := by decide +kernel
theorem dX0_minutesTill_85 : decode cX0_minutesTill 85 = .ok (.iload_n 2, 1) := by decide +kernel
theorem dX0_minutesTill_86 : decode cX0_minutesTill 86 = .ok (.iaload, 1) := by decide +kernel
theorem dX0_minutesTill_87 : decode cX0_minutesTill 87 = .ok (.iload_n 3, 1) := by decide +kernel
theorem dX0_minutesTill_88 : decode cX0_minutesTill 88 = .ok (.iconst 1, 1) := by decide +kernel
theorem dX0_minutesTill_89 : decode cX0_minutesTill 89 = .ok (.isub, 1) := by decide +kernel
theorem dX0_minutesTill_90 : decode cX0_minutesTill 90 = .ok (.aload_n 0, 1) := by decide +kernel
theorem dX0_minutesTill_91 : decode cX0_minutesTill 91 = .ok (.getfield 28, 3) := by decide +kernel
theorem dX0_minutesTill_94 : decode cX0_minutesTill 94 = .ok (.imul, 1) := by decide +kernel
theorem dX0_minutesTill_95 : decode cX0_minutesTill 95 = .ok (.iadd, 1) := by decide +kernel
theorem dX0_minutesTill_96 : decode cX0_minutesTill 96 = .ok (.ireturn, 1) := by decide +kernel
set_option maxRecDepth 20000 in
theorem ggX0_sumInLines_X0_minutesTill : GoodIn wsX0_sumInLines wsX0_minutesTill := goodIn_r _ [6, 7, 8, 9, 10, 11, 12, 13, 5, 14, 1, 15, 16, 17, 18, 19, 20, 21] (by decide +kernel) (by decide +kernel)
set_option maxRecDepth 20000 in
theorem gX0_sumInLines_X0_minutesTill : GoodIn wsX0_sumInLines (wsV RX0 63 RX0 yX0_minutesTill wsX0_minutesTill) := goodIn_app (goodIn_of _ (by decide +kernel)) ggX0_sumInLines_X0_minutesTill
theorem dX0_sumInLines_0 : decode cX0_sumInLines 0 = .ok (.iconst 0, 1) := by decide +kernel
theorem dX0_sumInLines_1 : decode cX0_sumInLines 1 = .ok (.istore_n 1, 1) := by decide +kernel
theorem dX0_sumInLines_2 : decode cX0_sumInLines 2 = .ok (.iconst 0, 1) := by decide +kernel
theorem dX0_sumInLines_3 : decode cX0_sumInLines 3 = .ok (.istore_n 2, 1) := by decide +kernel
theorem dX0_sumInLines_4 : decode cX0_sumInLines 4 = .ok (.iload_n 2, 1) := by decide +kernel
theorem dX0_sumInLines_5 : decode cX0_sumInLines 5 = .ok (.bipush 12, 2) := by decide +kernel
theorem dX0_sumInLines_7 : decode cX0_sumInLines 7 = .ok (.if_icmp .ge 27, 3) := by decide +kernel
theorem dX0_sumInLines_10 : decode cX0_sumInLines 10 = .ok (.aload_n 0, 1) := by decide +kernel
theorem dX0_sumInLines_11 : decode cX0_sumInLines 11 = .ok (.getfield 19, 3) := by decide +kernel
theorem dX0_sumInLines_14 : decode cX0_sumInLines 14 = .ok (.iload_n 2, 1) := by decide +kernel
theorem dX0_sumInLines_15 : decode cX0_sumInLines 15 = .ok (.iaload, 1) := by decide +kernel
theorem dX0_sumInLines_16 : decode cX0_sumInLines 16 = .ok (.iconst (-1), 1) := by decide +kernel
theorem dX0_sumInLines_17 : decode cX0_sumInLines 17 = .ok (.if_icmp .eq 11, 3) := by decide +kernel
theorem dX0_sumInLines_20 : decode cX0_sumInLines 20 = .ok (.iload_n 1, 1) := by decide +kernel
theorem dX0_sumInLines_21 : decode cX0_sumInLines 21 = .ok (.aload_n 0, 1) := by decide +kernel
theorem dX0_sumInLines_22 : decode cX0_sumInLines 22 = .ok (.iload_n 2, 1) := by decide +kernel
theorem dX0_sumInLines_23 : decode cX0_sumInLines 23 = .ok (.invokevirtual 63, 3) := by decide +kernel
theorem dX0_sumInLines_26 : decode cX0_sumInLines 26 = .ok (.iadd, 1) := by decide +kernel
theorem dX0_sumInLines_27 : decode cX0_sumInLines 27 = .ok (.istore_n 1, 1) := by decide +kernel
theorem dX0_sumInLines_28 : decode cX0_sumInLines 28 = .ok (.iinc 2 1, 3) := by decide +kernel
theorem dX0_sumInLines_31 : decode cX0_sumInLines 31 = .ok (.goto (-27), 3) := by decide +kernel
theorem dX0_sumInLines_34 : decode cX0_sumInLines 34 = .ok (.iload_n 1, 1) := by decide +kernel
theorem dX0_sumInLines_35 : decode cX0_sumInLines 35 = .ok (.ireturn, 1) := by decide +kernel
set_option maxRecDepth 20000 in
theorem ggX0_sumInOneLine_X0_firstOf : GoodIn wsX0_sumInOneLine wsX0_firstOf := goodIn_r _ [10, 3, 4, 11, 12, 13, 9, 14, 15, 20, 21, 22, 23, 24, 25, 26] (by decide +kernel) (by decide +kernel)
set_option maxRecDepth 20000 in
theorem gX0_sumInOneLine_X0_firstOf : GoodIn wsX0_sumInOneLine (wsV RX0 46 RX0 yX0_firstOf wsX0_firstOf) := goodIn_app (goodIn_of _ (by decide +kernel)) ggX0_sumInOneLine_X0_firstOf
set_option maxRecDepth 20000 in
theorem ggX0_sumInOneLine_X0_barOf : GoodIn wsX0_sumInOneLine wsX0_barOf := goodIn_r _ [14, 15, 20, 21, 22, 23, 24, 25, 26] (by decide +kernel) (by decide +kernel)
set_option maxRecDepth 20000 in
theorem gX0_sumInOneLine_X0_barOf : GoodIn wsX0_sumInOneLine (wsV RX0 42 RX0 yX0_barOf wsX0_barOf) := goodIn_app (goodIn_of _ (by decide +kernel)) ggX0_sumInOneLine_X0_barOf
set_option maxRecDepth 20000 in
theorem ggX0_sumInOneLine_X0_freeFirst : GoodIn wsX0_sumInOneLine wsX0_freeFirst := goodIn_r _ [19, 1, 20, 21, 22, 23, 24, 25, 26] (by decide +kernel) (by decide +kernel)
set_option maxRecDepth 20000 in
theorem gX0_sumInOneLine_X0_freeFirst : GoodIn wsX0_sumInOneLine (wsV RX0 66 RX0 yX0_freeFirst wsX0_freeFirst) := goodIn_app (goodIn_of _ (by decide +kernel)) ggX0_sumInOneLine_X0_freeFirst
theorem dX0_sumInOneLine_0 : decode cX0_sumInOneLine 0 = .ok (.iconst 0, 1) := by decide +kernel
theorem dX0_sumInOneLine_1 : decode cX0_sumInOneLine 1 = .ok (.istore_n 1, 1) := by decide +kernel
theorem dX0_sumInOneLine_2 : decode cX0_sumInOneLine 2 = .ok (.iload_n 1, 1) := by decide +kernel
theorem dX0_sumInOneLine_3 : decode cX0_sumInOneLine 3 = .ok (.iconst 3, 1) := by decide +kernel
theorem dX0_sumInOneLine_4 : decode cX0_sumInOneLine 4 = .ok (.if_icmp .ge 34, 3) := by decide +kernel
theorem dX0_sumInOneLine_7 : decode cX0_sumInOneLine 7 = .ok (.aload_n 0, 1) := by decide +kernel
theorem dX0_sumInOneLine_8 : decode cX0_sumInOneLine 8 = .ok (.getfield 25, 3) := by decide +kernel
theorem dX0_sumInOneLine_11 : decode cX0_sumInOneLine 11 = .ok (.iload_n 1, 1) := by decide +kernel
theorem dX0_sumInOneLine_12 : decode cX0_sumInOneLine 12 = .ok (.aload_n 0, 1) := by decide +kernel
theorem dX0_sumInOneLine_13 : decode cX0_sumInOneLine 13 = .ok (.iload_n 1, 1) := by decide +kernel
theorem dX0_sumInOneLine_14 : decode cX0_sumInOneLine 14 = .ok (.invokevirtual 46, 3) := by decide +kernel
theorem dX0_sumInOneLine_17 : decode cX0_sumInOneLine 17 = .ok (.iconst (-1), 1) := by decide +kernel
theorem dX0_sumInOneLine_18 : decode cX0_sumInOneLine 18 = .ok (.if_icmp .ne 7, 3) := by decide +kernel
theorem dX0_sumInOneLine_21 : decode cX0_sumInOneLine 21 = .ok (.iconst 0, 1) := by decide +kernel
theorem dX0_sumInOneLine_22 : decode cX0_sumInOneLine 22 = .ok (.goto 9, 3) := by decide +kernel
theorem dX0_sumInOneLine_25 : decode cX0_sumInOneLine 25 = .ok (.aload_n 0, 1) := by decide +kernel
theorem dX0_sumInOneLine_26 : decode cX0_sumInOneLine 26 = .ok (.getfield 22, 3) := by decide +kernel
theorem dX0_sumInOneLine_29 : decode cX0_sumInOneLine 29 = .ok (.iload_n 1, 1) := by decide +kernel
theorem dX0_sumInOneLine_30 : decode cX0_sumInOneLine 30 = .ok (.iaload, 1) := by decide +kernel
theorem dX0_sumInOneLine_31 : decode cX0_sumInOneLine 31 = .ok (.iastore, 1) := by decide +kernel
theorem dX0_sumInOneLine_32 : decode cX0_sumInOneLine 32 = .ok (.iinc 1 1, 3) := by decide +kernel
theorem dX0_sumInOneLine_35 : decode cX0_sumInOneLine 35 = .ok (.goto (-33), 3) := by decide +kernel
theorem dX0_sumInOneLine_38 : decode cX0_sumInOneLine 38 = .ok (.iconst 0, 1) := by decide +kernel
theorem dX0_sumInOneLine_39 : decode cX0_sumInOneLine 39 = .ok (.istore_n 1, 1) := by decide +kernel
theorem dX0_sumInOneLine_40 : decode cX0_sumInOneLine 40 = .ok (.iconst 0, 1) := by decide +kernel
theorem dX0_sumInOneLine_41 : decode cX0_sumInOneLine 41 = .ok (.istore_n 2, 1) := by decide +kernel
theorem dX0_sumInOneLine_42 : decode cX0_sumInOneLine 42 = .ok (.iload_n 2, 1) := by decide +kernel
theorem dX0_sumInOneLine_43 : decode cX0_sumInOneLine 43 = .ok (.bipush 12, 2) := by decide +kernel
theorem dX0_sumInOneLine_45 : decode cX0_sumInOneLine 45 = .ok (.if_icmp .ge 67, 3) := by decide +kernel
theorem dX0_sumInOneLine_48 : decode cX0_sumInOneLine 48 = .ok (.iload_n 2, 1) := by decide +kernel
theorem dX0_sumInOneLine_49 : decode cX0_sumInOneLine 49 = .ok (.aload_n 0, 1) := by decide +kernel
theorem dX0_sumInOneLine_50 : decode cX0_sumInOneLine 50 = .ok (.getfield 15, 3) := by decide +kernel
theorem dX0_sumInOneLine_53 : decode cX0_sumInOneLine 53 = .ok (.if_icmp .ge 59, 3) := by decide +kernel
theorem dX0_sumInOneLine_56 : decode cX0_sumInOneLine 56 = .ok (.aload_n 0, 1) := by decide +kernel
theorem dX0_sumInOneLine_57 : decode cX0_sumInOneLine 57 = .ok (.aload_n 0, 1) := by decide +kernel
theorem dX0_sumInOneLine_58 : decode cX0_sumInOneLine 58 = .ok (.aload_n 0, 1) := by decide +kernel
theorem dX0_sumInOneLine_59 : decode cX0_sumInOneLine 59 = .ok (.getfield 9, 3) := by decide +kernel
theorem dX0_sumInOneLine_62 : decode cX0_sumInOneLine 62 = .ok (.iload_n 2, 1) := by decide +kernel
theorem dX0_sumInOneLine_63 : decode cX0_sumInOneLine 63 = .ok (.iaload, 1) := by decide +kernel
theorem dX0_sumInOneLine_64 : decode cX0_sumInOneLine 64 = .ok (.invokevirtual 42, 3) := by decide +kernel
theorem dX0_sumInOneLine_67 : decode cX0_sumInOneLine 67 = .ok (.invokevirtual 46, 3) := by decide +kernel
theorem dX0_sumInOneLine_70 : decode cX0_sumInOneLine 70 = .ok (.aload_n 0, 1) := by decide +kernel
theorem dX0_sumInOneLine_71 : decode cX0_sumInOneLine 71 = .ok (.getfield 9, 3) := by decide +kernel
theorem dX0_sumInOneLine_74 : decode cX0_sumInOneLine 74 = .ok (.iload_n 2, 1) := by decide +kernel
theorem dX0_sumInOneLine_75 : decode cX0_sumInOneLine 75 = .ok (.iaload, 1) := by decide +kernel
theorem dX0_sumInOneLine_76 : decode cX0_sumInOneLine 76 = .ok (.if_icmp .eq 30, 3) := by decide +kernel
theorem dX0_sumInOneLine_79 : decode cX0_sumInOneLine 79 = .ok (.aload_n 0, 1) := by decide +kernel
theorem dX0_sumInOneLine_80 : decode cX0_sumInOneLine 80 = .ok (.invokevirtual 66, 3) := by decide +kernel
theorem dX0_sumInOneLine_83 : decode cX0_sumInOneLine 83 = .ok (.istore_n 3, 1) := by decide +kernel
theorem dX0_sumInOneLine_84 : decode cX0_sumInOneLine 84 = .ok (.iload_n 1, 1) := by decide +kernel
theorem dX0_sumInOneLine_85 : decode cX0_sumInOneLine 85 = .ok (.aload_n 0, 1) := by decide +kernel
theorem dX0_sumInOneLine_86 : decode cX0_sumInOneLine 86 = .ok (.getfield 25, 3) := by decide +kernel
theorem dX0_sumInOneLine_89 : decode cX0_sumInOneLine 89 = .ok (.iload_n 3, 1) := by decide +kernel
theorem dX0_sumInOneLine_90 : decode cX0_sumInOneLine 90 = .ok (.iaload, 1) := by decide +kernel
theorem dX0_sumInOneLine_91 : decode cX0_sumInOneLine 91 = .ok (.iadd, 1) := by decide +kernel
theorem dX0_sumInOneLine_92 : decode cX0_sumInOneLine 92 = .ok (.istore_n 1, 1) := by decide +kernel
theorem dX0_sumInOneLine_93 : decode cX0_sumInOneLine 93 = .ok (.aload_n 0, 1) := by decide +kernel
theorem dX0_sumInOneLine_94 : decode cX0_sumInOneLine 94 = .ok (.getfield 25, 3) := by decide +kernel
theorem dX0_sumInOneLine_97 : decode cX0_sumInOneLine 97 = .ok (.iload_n 3, 1) := by decide +kernel
theorem dX0_sumInOneLine_98 : decode cX0_sumInOneLine 98 = .ok (.dup2, 1) := by decide +kernel
theorem dX0_sumInOneLine_99 : decode cX0_sumInOneLine 99 = .ok (.iaload, 1) := by decide +kernel
theorem dX0_sumInOneLine_100 : decode cX0_sumInOneLine 100 = .ok (.aload_n 0, 1) := by decide +kernel
theorem dX0_sumInOneLine_101 : decode cX0_sumInOneLine 101 = .ok (.getfield 28, 3) := by decide +kernel
theorem dX0_sumInOneLine_104 : decode cX0_sumInOneLine 104 = .ok (.iadd, 1) := by decide +kernel
theorem dX0_sumInOneLine_105 : decode cX0_sumInOneLine 105 = .ok (.iastore, 1) := by decide +kernel
theorem dX0_sumInOneLine_106 : decode cX0_sumInOneLine 106 = .ok (.iinc 2 1, 3) := by decide +kernel
theorem dX0_sumInOneLine_109 : decode cX0_sumInOneLine 109 = .ok (.goto (-67), 3) := by decide +kernel
theorem dX0_sumInOneLine_112 : decode cX0_sumInOneLine 112 = .ok (.iload_n 1, 1) := by decide +kernel
theorem dX0_sumInOneLine_113 : decode cX0_sumInOneLine 113 = .ok (.ireturn, 1) := by decide +kernel
theorem dX0_freeFirst_0 : decode cX0_freeFirst 0 = .ok (.iconst 0, 1) := by decide +kernel
theorem dX0_freeFirst_1 : decode cX0_freeFirst 1 = .ok (.istore_n 1, 1) := by decide +kernel
theorem dX0_freeFirst_2 : decode cX0_freeFirst 2 = .ok (.iconst 1, 1) := by decide +kernel
theorem dX0_freeFirst_3 : decode cX0_freeFirst 3 = .ok (.istore_n 2, 1) := by decide +kernel
theorem dX0_freeFirst_4 : decode cX0_freeFirst 4 = .ok (.iload_n 2, 1) := by decide +kernel
theorem dX0_freeFirst_5 : decode cX0_freeFirst 5 = .ok (.iconst 3, 1) := by decide +kernel
theorem dX0_freeFirst_6 : decode cX0_freeFirst 6 = .ok (.if_icmp .ge 26, 3) := by decide +kernel
theorem dX0_freeFirst_9 : decode cX0_freeFirst 9 = .ok (.aload_n 0, 1) := by decide +kernel
theorem dX0_freeFirst_10 : decode cX0_freeFirst 10 = .ok (.getfield 25, 3) := by decide +kernel
theorem dX0_freeFirst_13 : decode cX0_freeFirst 13 = .ok (.iload_n 2, 1) := by decide +kernel
theorem dX0_freeFirst_14 : decode cX0_freeFirst 14 = .ok (.iaload, 1) := by decide +kernel
theorem dX0_freeFirst_15 : decode cX0_freeFirst 15 = .ok (.aload_n 0, 1) := by decide +kernel
theorem dX0_freeFirst_16 : decode cX0_freeFirst 16 = .ok (.getfield 25, 3) := by decide +kernel
theorem dX0_freeFirst_19 : decode cX0_freeFirst 19 = .ok (.iload_n 1, 1) := by decide +kernel
theorem dX0_freeFirst_20 : decode cX0_freeFirst 20 = .ok (.iaload, 1) := by decide +kernel
theorem dX0_freeFirst_21 : decode cX0_freeFirst 21 = .ok (.if_icmp .ge 5, 3) := by decide +kernel
theorem dX0_freeFirst_24 : decode cX0_freeFirst 24 = .ok (.iload_n 2, 1) := by decide +kernel
theorem dX0_freeFirst_25 : decode cX0_freeFirst 25 = .ok (.istore_n 1, 1) := by decide +kernel
theorem dX0_freeFirst_26 : decode cX0_freeFirst 26 = .ok (.iinc 2 1, 3) := by decide +kernel
theorem dX0_freeFirst_29 : decode cX0_freeFirst 29 = .ok (.goto (-25), 3) := by decide +kernel
theorem dX0_freeFirst_32 : decode cX0_freeFirst 32 = .ok (.iload_n 1, 1) := by decide +kernel
theorem dX0_freeFirst_33 : decode cX0_freeFirst 33 = .ok (.ireturn, 1) := by decide +kernel
