theorem dX7_init_0 : decode cX7_init 0 = .ok (.aload_n 0, 1) := by decide +kernel
theorem dX7_init_1 : decode cX7_init 1 = .ok (.invokespecial 3, 3) := by decide +kernel
theorem dX7_init_4 : decode cX7_init 4 = .ok (.aload_n 0, 1) := by decide +kernel
theorem dX7_init_5 : decode cX7_init 5 = .ok (.bipush 16, 2) := by decide +kernel
theorem dX7_init_7 : decode cX7_init 7 = .ok (.newarray .int, 2) := by decide +kernel
theorem dX7_init_9 : decode cX7_init 9 = .ok (.putfield 9, 3) := by decide +kernel
theorem dX7_init_12 : decode cX7_init 12 = .ok (.aload_n 0, 1) := by decide +kernel
theorem dX7_init_13 : decode cX7_init 13 = .ok (.bipush 16, 2) := by decide +kernel
theorem dX7_init_15 : decode cX7_init 15 = .ok (.newarray .int, 2) := by decide +kernel
theorem dX7_init_17 : decode cX7_init 17 = .ok (.putfield 15, 3) := by decide +kernel
theorem dX7_init_20 : decode cX7_init 20 = .ok (.aload_n 0, 1) := by decide +kernel
theorem dX7_init_21 : decode cX7_init 21 = .ok (.bipush 16, 2) := by decide +kernel
theorem dX7_init_23 : decode cX7_init 23 = .ok (.newarray .int, 2) := by decide +kernel
theorem dX7_init_25 : decode cX7_init 25 = .ok (.putfield 18, 3) := by decide +kernel
theorem dX7_init_28 : decode cX7_init 28 = .ok (.aload_n 0, 1) := by decide +kernel
theorem dX7_init_29 : decode cX7_init 29 = .ok (.bipush 16, 2) := by decide +kernel
theorem dX7_init_31 : decode cX7_init 31 = .ok (.newarray .int, 2) := by decide +kernel
theorem dX7_init_33 : decode cX7_init 33 = .ok (.putfield 21, 3) := by decide +kernel
theorem dX7_init_36 : decode cX7_init 36 = .ok (.aload_n 0, 1) := by decide +kernel
theorem dX7_init_37 : decode cX7_init 37 = .ok (.bipush 16, 2) := by decide +kernel
theorem dX7_init_39 : decode cX7_init 39 = .ok (.newarray .int, 2) := by decide +kernel
theorem dX7_init_41 : decode cX7_init 41 = .ok (.putfield 24, 3) := by decide +kernel
theorem dX7_init_44 : decode cX7_init 44 = .ok (.aload_n 0, 1) := by decide +kernel
theorem dX7_init_45 : decode cX7_init 45 = .ok (.sipush 192, 3) := by decide +kernel
theorem dX7_init_48 : decode cX7_init 48 = .ok (.newarray .int, 2) := by decide +kernel
theorem dX7_init_50 : decode cX7_init 50 = .ok (.putfield 27, 3) := by decide +kernel
theorem dX7_init_53 : decode cX7_init 53 = .ok (.aload_n 0, 1) := by decide +kernel
theorem dX7_init_54 : decode cX7_init 54 = .ok (.bipush 16, 2) := by decide +kernel
theorem dX7_init_56 : decode cX7_init 56 = .ok (.newarray .int, 2) := by decide +kernel
theorem dX7_init_58 : decode cX7_init 58 = .ok (.putfield 30, 3) := by decide +kernel
theorem dX7_init_61 : decode cX7_init 61 = .ok (.aload_n 0, 1) := by decide +kernel
theorem dX7_init_62 : decode cX7_init 62 = .ok (.bipush 16, 2) := by decide +kernel
theorem dX7_init_64 : decode cX7_init 64 = .ok (.newarray .int, 2) := by decide +kernel
theorem dX7_init_66 : decode cX7_init 66 = .ok (.putfield 33, 3) := by decide +kernel
theorem dX7_init_69 : decode cX7_init 69 = .ok (.return_, 1) := by decide +kernel
set_option maxRecDepth 20000 in
theorem ggX7_copyFrom_X11_copyRow : GoodIn wsX7_copyFrom wsX11_copyRow := goodIn_r _ [9, 10, 11, 12, 13, 14, 15, 16, 17] (by decide +kernel) (by decide +kernel)
set_option maxRecDepth 20000 in
theorem gX7_copyFrom_X11_copyRow_n36 : GoodIn wsX7_copyFrom (wsX11_copyRow) := ggX7_copyFrom_X11_copyRow
theorem dX7_copyFrom_0 : decode cX7_copyFrom 0 = .ok (.aload_n 1, 1) := by decide +kernel
theorem dX7_copyFrom_1 : decode cX7_copyFrom 1 = .ok (.getfield 9, 3) := by decide +kernel
theorem dX7_copyFrom_4 : decode cX7_copyFrom 4 = .ok (.aload_n 0, 1) := by decide +kernel
theorem dX7_copyFrom_5 : decode cX7_copyFrom 5 = .ok (.getfield 9, 3) := by decide +kernel
theorem dX7_copyFrom_8 : decode cX7_copyFrom 8 = .ok (.invokestatic 36, 3) := by decide +kernel
theorem dX7_copyFrom_11 : decode cX7_copyFrom 11 = .ok (.aload_n 1, 1) := by decide +kernel
theorem dX7_copyFrom_12 : decode cX7_copyFrom 12 = .ok (.getfield 15, 3) := by decide +kernel
theorem dX7_copyFrom_15 : decode cX7_copyFrom 15 = .ok (.aload_n 0, 1) := by decide +kernel
theorem dX7_copyFrom_16 : decode cX7_copyFrom 16 = .ok (.getfield 15, 3) := by decide +kernel
theorem dX7_copyFrom_19 : decode cX7_copyFrom 19 = .ok (.invokestatic 36, 3) := by decide +kernel
theorem dX7_copyFrom_22 : decode cX7_copyFrom 22 = .ok (.aload_n 1, 1) := by decide +kernel
theorem dX7_copyFrom_23 : decode cX7_copyFrom 23 = .ok (.getfield 18, 3) := by decide +kernel
theorem dX7_copyFrom_26 : decode cX7_copyFrom 26 = .ok (.aload_n 0, 1) := by decide +kernel
theorem dX7_copyFrom_27 : decode cX7_copyFrom 27 = .ok (.getfield 18, 3) := by decide +kernel
theorem dX7_copyFrom_30 : decode cX7_copyFrom 30 = .ok (.invokestatic 36, 3) := by decide +kernel
theorem dX7_copyFrom_33 : decode cX7_copyFrom 33 = .ok (.aload_n 1, 1) := by decide +kernel
theorem dX7_copyFrom_34 : decode cX7_copyFrom 34 = .ok (.getfield 21, 3) := by decide +kernel
theorem dX7_copyFrom_37 : decode cX7_copyFrom 37 = .ok (.aload_n 0, 1) := by decide +kernel
theorem dX7_copyFrom_38 : decode cX7_copyFrom 38 = .ok (.getfield 21, 3) := by decide +kernel
theorem dX7_copyFrom_41 : decode cX7_copyFrom 41 = .ok (.invokestatic 36, 3) := by decide +kernel
theorem dX7_copyFrom_44 : decode cX7_copyFrom 44 = .ok (.aload_n 1, 1) := by decide +kernel
theorem dX7_copyFrom_45 : decode cX7_copyFrom 45 = .ok (.getfield 24, 3) := by decide +kernel
theorem dX7_copyFrom_48 : decode cX7_copyFrom 48 = .ok (.aload_n 0, 1) := by decide +kernel
theorem dX7_copyFrom_49 : decode cX7_copyFrom 49 = .ok (.getfield 24, 3) := by decide +kernel
theorem dX7_copyFrom_52 : decode cX7_copyFrom 52 = .ok (.invokestatic 36, 3) := by decide +kernel
theorem dX7_copyFrom_55 : decode cX7_copyFrom 55 = .ok (.aload_n 1, 1) := by decide +kernel
theorem dX7_copyFrom_56 : decode cX7_copyFrom 56 = .ok (.getfield 27, 3) := by decide +kernel
theorem dX7_copyFrom_59 : decode cX7_copyFrom 59 = .ok (.aload_n 0, 1) := by decide +kernel
theorem dX7_copyFrom_60 : decode cX7_copyFrom 60 = .ok (.getfield 27, 3) := by decide +kernel
theorem dX7_copyFrom_63 : decode cX7_copyFrom 63 = .ok (.invokestatic 36, 3) := by decide +kernel
theorem dX7_copyFrom_66 : decode cX7_copyFrom 66 = .ok (.return_, 1) := by decide +kernel
theorem dX7_has_0 : decode cX7_has 0 = .ok (.iload_n 1, 1) := by decide +kernel
theorem dX7_has_1 : decode cX7_has 1 = .ok (.ifCond .lt 22, 3) := by decide +kernel
theorem dX7_has_4 : decode cX7_has 4 = .ok (.iload_n 1, 1) := by decide +kernel
theorem dX7_has_5 : decode cX7_has 5 = .ok (.bipush 16, 2) := by decide +kernel
theorem dX7_has_7 : decode cX7_has 7 = .ok (.if_icmp .ge 16, 3) := by decide +kernel
theorem dX7_has_10 : decode cX7_has 10 = .ok (.aload_n 0, 1) := by decide +kernel
theorem dX7_has_11 : decode cX7_has 11 = .ok (.getfield 24, 3) := by decide +kernel
theorem dX7_has_14 : decode cX7_has 14 = .ok (.iload_n 1, 1) := by decide +kernel
theorem dX7_has_15 : decode cX7_has 15 = .ok (.iaload, 1) := by decide +kernel
theorem dX7_has_16 : decode cX7_has 16 = .ok (.ifCond .eq 7, 3) := by decide +kernel
theorem dX7_has_19 : decode cX7_has 19 = .ok (.iconst 1, 1) := by decide +kernel
theorem dX7_has_20 : decode cX7_has 20 = .ok (.goto 4, 3) := by decide +kernel
theorem dX7_has_23 : decode cX7_has 23 = .ok (.iconst 0, 1) := by decide +kernel
theorem dX7_has_24 : decode cX7_has 24 = .ok (.ireturn, 1) := by decide +kernel
set_option maxRecDepth 20000 in
theorem ggX7_freeNumber_X7_has : GoodIn wsX7_freeNumber wsX7_has := goodIn_r _ [5, 6, 7, 8, 9, 10, 11, 12, 13, 14] (by decide +kernel) (by decide +kernel)
set_option maxRecDepth 20000 in
theorem gX7_freeNumber_X7_has : GoodIn wsX7_freeNumber (wsV RX7 40 RX7 yX7_has wsX7_has) := goodIn_app (goodIn_of _ (by decide +kernel)) ggX7_freeNumber_X7_has
theorem dX7_freeNumber_0 : decode cX7_freeNumber 0 = .ok (.iconst 0, 1) := by decide +kernel
theorem dX7_freeNumber_1 : decode cX7_freeNumber 1 = .ok (.istore_n 1, 1) := by decide +kernel
theorem dX7_freeNumber_2 : decode cX7_freeNumber 2 = .ok (.iload_n 1, 1) := by decide +kernel
theorem dX7_freeNumber_3 : decode cX7_freeNumber 3 = .ok (.bipush 16, 2) := by decide +kernel
theorem dX7_freeNumber_5 : decode cX7_freeNumber 5 = .ok (.if_icmp .ge 19, 3) := by decide +kernel
theorem dX7_freeNumber_8 : decode cX7_freeNumber 8 = .ok (.aload_n 0, 1) := by decide +kernel
theorem dX7_freeNumber_9 : decode cX7_freeNumber 9 = .ok (.iload_n 1, 1) := by decide +kernel
theorem dX7_freeNumber_10 : decode cX7_freeNumber 10 = .ok (.invokevirtual 40, 3) := by decide +kernel
theorem dX7_freeNumber_13 : decode cX7_freeNumber 13 = .ok (.ifCond .ne 5, 3) := by decide +kernel
theorem dX7_freeNumber_16 : decode cX7_freeNumber 16 = .ok (.iload_n 1, 1) := by decide +kernel
theorem dX7_freeNumber_17 : decode cX7_freeNumber 17 = .ok (.ireturn, 1) := by decide +kernel
theorem dX7_freeNumber_18 : decode cX7_freeNumber 18 = .ok (.iinc 1 1, 3) := by decide +kernel
theorem dX7_freeNumber_21 : decode cX7_freeNumber 21 = .ok (.goto (-19), 3) := by decide +kernel
theorem dX7_freeNumber_24 : decode cX7_freeNumber 24 = .ok (.iconst (-1), 1) := by decide +kernel
theorem dX7_freeNumber_25 : decode cX7_freeNumber 25 = .ok (.ireturn, 1) := by decide +kernel
set_option maxRecDepth 20000 in
theorem ggX7_add_X11_replace : GoodIn wsX7_add wsX11_replace := goodIn_r _ [8] (by decide +kernel) (by decide +kernel)
set_option maxRecDepth 20000 in
theorem gX7_add_X11_replace_n44 : GoodIn wsX7_add (wsX11_replace) := ggX7_add_X11_replace
theorem dX7_add_0 : decode cX7_add 0 = .ok (.aload_n 0, 1) := by decide +kernel
theorem dX7_add_1 : decode cX7_add 1 = .ok (.getfield 9, 3) := by decide +kernel
theorem dX7_add_4 : decode cX7_add 4 = .ok (.iload_n 1, 1) := by decide +kernel
theorem dX7_add_5 : decode cX7_add 5 = .ok (.iload_n 2, 1) := by decide +kernel
theorem dX7_add_6 : decode cX7_add 6 = .ok (.invokestatic 44, 3) := by decide +kernel
theorem dX7_add_9 : decode cX7_add 9 = .ok (.pop, 1) := by decide +kernel
theorem dX7_add_10 : decode cX7_add 10 = .ok (.aload_n 0, 1) := by decide +kernel
theorem dX7_add_11 : decode cX7_add 11 = .ok (.getfield 15, 3) := by decide +kernel
theorem dX7_add_14 : decode cX7_add 14 = .ok (.iload_n 1, 1) := by decide +kernel
theorem dX7_add_15 : decode cX7_add 15 = .ok (.iload_n 3, 1) := by decide +kernel
theorem dX7_add_16 : decode cX7_add 16 = .ok (.invokestatic 44, 3) := by decide +kernel
theorem dX7_add_19 : decode cX7_add 19 = .ok (.pop, 1) := by decide +kernel
theorem dX7_add_20 : decode cX7_add 20 = .ok (.aload_n 0, 1) := by decide +kernel
theorem dX7_add_21 : decode cX7_add 21 = .ok (.getfield 18, 3) := by decide +kernel
theorem dX7_add_24 : decode cX7_add 24 = .ok (.iload_n 1, 1) := by decide +kernel
theorem dX7_add_25 : decode cX7_add 25 = .ok (.iload 4, 2) := by decide +kernel
theorem dX7_add_27 : decode cX7_add 27 = .ok (.invokestatic 44, 3) := by decide +kernel
theorem dX7_add_30 : decode cX7_add 30 = .ok (.pop, 1) := by decide +kernel
theorem dX7_add_31 : decode cX7_add 31 = .ok (.aload_n 0, 1) := by decide +kernel
theorem dX7_add_32 : decode cX7_add 32 = .ok (.getfield 21, 3) := by decide +kernel
theorem dX7_add_35 : decode cX7_add 35 = .ok (.iload_n 1, 1) := by decide +kernel
theorem dX7_add_36 : decode cX7_add 36 = .ok (.iload 5, 2) := by decide +kernel
theorem dX7_add_38 : decode cX7_add 38 = .ok (.invokestatic 44, 3) := by decide +kernel
theorem dX7_add_41 : decode cX7_add 41 = .ok (.pop, 1) := by decide +kernel
theorem dX7_add_42 : decode cX7_add 42 = .ok (.aload_n 0, 1) := by decide +kernel
theorem dX7_add_43 : decode cX7_add 43 = .ok (.getfield 24, 3) := by decide +kernel
theorem dX7_add_46 : decode cX7_add 46 = .ok (.iload_n 1, 1) := by decide +kernel
theorem dX7_add_47 : decode cX7_add 47 = .ok (.iload 6, 2) := by decide +kernel
theorem dX7_add_49 : decode cX7_add 49 = .ok (.invokestatic 44, 3) := by decide +kernel
theorem dX7_add_52 : decode cX7_add 52 = .ok (.pop, 1) := by decide +kernel
theorem dX7_add_53 : decode cX7_add 53 = .ok (.return_, 1) := by decide +kernel
set_option maxRecDepth 20000 in
theorem ggX7_remove_X11_replace : GoodIn wsX7_remove wsX11_replace := goodIn_r _ [5] (by decide +kernel) (by decide +kernel)
set_option maxRecDepth 20000 in
theorem gX7_remove_X11_replace_n44 : GoodIn wsX7_remove (wsX11_replace) := ggX7_remove_X11_replace
theorem dX7_remove_0 : decode cX7_remove 0 = .ok (.aload_n 0, 1) := by decide +kernel
theorem dX7_remove_1 : decode cX7_remove 1 = .ok (.getfield 24, 3) := by decide +kernel
theorem dX7_remove_4 : decode cX7_remove 4 = .ok (.iload_n 1, 1) := by decide +kernel
theorem dX7_remove_5 : decode cX7_remove 5 = .ok (.iconst 0, 1) := by decide +kernel
theorem dX7_remove_6 : decode cX7_remove 6 = .ok (.invokestatic 44, 3) := by decide +kernel
theorem dX7_remove_9 : decode cX7_remove 9 = .ok (.pop, 1) := by decide +kernel
theorem dX7_remove_10 : decode cX7_remove 10 = .ok (.iconst 0, 1) := by decide +kernel
theorem dX7_remove_11 : decode cX7_remove 11 = .ok (.istore_n 2, 1) := by decide +kernel
theorem dX7_remove_12 : decode cX7_remove 12 = .ok (.iload_n 2, 1) := by decide +kernel
theorem dX7_remove_13 : decode cX7_remove 13 = .ok (.bipush 12, 2) := by decide +kernel
theorem dX7_remove_15 : decode cX7_remove 15 = .ok (.if_icmp .ge 24, 3) := by decide +kernel
theorem dX7_remove_18 : decode cX7_remove 18 = .ok (.aload_n 0, 1) := by decide +kernel
theorem dX7_remove_19 : decode cX7_remove 19 = .ok (.getfield 27, 3) := by decide +kernel
theorem dX7_remove_22 : decode cX7_remove 22 = .ok (.iload_n 2, 1) := by decide +kernel
theorem dX7_remove_23 : decode cX7_remove 23 = .ok (.bipush 16, 2) := by decide +kernel
theorem dX7_remove_25 : decode cX7_remove 25 = .ok (.imul, 1) := by decide +kernel
theorem dX7_remove_26 : decode cX7_remove 26 = .ok (.iload_n 1, 1) := by decide +kernel
theorem dX7_remove_27 : decode cX7_remove 27 = .ok (.iadd, 1) := by decide +kernel
theorem dX7_remove_28 : decode cX7_remove 28 = .ok (.iconst 0, 1) := by decide +kernel
theorem dX7_remove_29 : decode cX7_remove 29 = .ok (.invokestatic 44, 3) := by decide +kernel
theorem dX7_remove_32 : decode cX7_remove 32 = .ok (.pop, 1) := by decide +kernel
theorem dX7_remove_33 : decode cX7_remove 33 = .ok (.iinc 2 1, 3) := by decide +kernel
theorem dX7_remove_36 : decode cX7_remove 36 = .ok (.goto (-24), 3) := by decide +kernel
theorem dX7_remove_39 : decode cX7_remove 39 = .ok (.return_, 1) := by decide +kernel
set_option maxRecDepth 20000 in
theorem ggX7_shiftTo_X11_replace : GoodIn wsX7_shiftTo wsX11_replace := goodIn_r _ [4] (by decide +kernel) (by decide +kernel)
set_option maxRecDepth 20000 in
theorem gX7_shiftTo_X11_replace_n44 : GoodIn wsX7_shiftTo (wsX11_replace) := ggX7_shiftTo_X11_replace
theorem dX7_shiftTo_0 : decode cX7_shiftTo 0 = .ok (.aload_n 0, 1) := by decide +kernel
theorem dX7_shiftTo_1 : decode cX7_shiftTo 1 = .ok (.getfield 9, 3) := by decide +kernel
theorem dX7_shiftTo_4 : decode cX7_shiftTo 4 = .ok (.iload_n 1, 1) := by decide +kernel
theorem dX7_shiftTo_5 : decode cX7_shiftTo 5 = .ok (.iload_n 2, 1) := by decide +kernel
theorem dX7_shiftTo_6 : decode cX7_shiftTo 6 = .ok (.invokestatic 44, 3) := by decide +kernel
theorem dX7_shiftTo_9 : decode cX7_shiftTo 9 = .ok (.pop, 1) := by decide +kernel
theorem dX7_shiftTo_10 : decode cX7_shiftTo 10 = .ok (.return_, 1) := by decide +kernel
set_option maxRecDepth 20000 in
theorem ggX7_stageOf_X7_has : GoodIn wsX7_stageOf wsX7_has := goodIn_r _ [6, 7, 8, 9, 10, 11, 12, 13, 14, 15] (by decide +kernel) (by decide +kernel)
set_option maxRecDepth 20000 in
theorem gX7_stageOf_X7_has : GoodIn wsX7_stageOf (wsV RX7 40 RX7 yX7_has wsX7_has) := goodIn_app (goodIn_of _ (by decide +kernel)) ggX7_stageOf_X7_has
theorem dX7_stageOf_0 : decode cX7_stageOf 0 = .ok (.aload_n 0, 1) := by decide +kernel
theorem dX7_stageOf_1 : decode cX7_stageOf 1 = .ok (.iload_n 1, 1) := by decide +kernel
theorem dX7_stageOf_2 : decode cX7_stageOf 2 = .ok (.invokevirtual 40, 3) := by decide +kernel
theorem dX7_stageOf_5 : decode cX7_stageOf 5 = .ok (.ifCond .eq 12, 3) := by decide +kernel
theorem dX7_stageOf_8 : decode cX7_stageOf 8 = .ok (.aload_n 0, 1) := by decide +kernel
theorem dX7_stageOf_9 : decode cX7_stageOf 9 = .ok (.getfield 9, 3) := by decide +kernel
theorem dX7_stageOf_12 : decode cX7_stageOf 12 = .ok (.iload_n 1, 1) := by decide +kernel
theorem dX7_stageOf_13 : decode cX7_stageOf 13 = .ok (.iaload, 1) := by decide +kernel
theorem dX7_stageOf_14 : decode cX7_stageOf 14 = .ok (.goto 4, 3) := by decide +kernel
theorem dX7_stageOf_17 : decode cX7_stageOf 17 = .ok (.iconst (-1), 1) := by decide +kernel
theorem dX7_stageOf_18 : decode cX7_stageOf 18 = .ok (.ireturn, 1) := by decide +kernel
set_option maxRecDepth 20000 in
theorem ggX7_beginOf_X7_has : GoodIn wsX7_beginOf wsX7_has := goodIn_r _ [6, 7, 8, 9, 10, 11, 12, 13, 14, 15] (by decide +kernel) (by decide +kernel)
set_option maxRecDepth 20000 in
theorem gX7_beginOf_X7_has : GoodIn wsX7_beginOf (wsV RX7 40 RX7 yX7_has wsX7_has) := goodIn_app (goodIn_of _ (by decide +kernel)) ggX7_beginOf_X7_has
theorem dX7_beginOf_0 : decode cX7_beginOf 0 = .ok (.aload_n 0, 1) := by decide +kernel
theorem dX7_beginOf_1 : decode cX7_beginOf 1 = .ok (.iload_n 1, 1) := by decide +kernel
theorem dX7_beginOf_2 : decode cX7_beginOf 2 = .ok (.invokevirtual 40, 3) := by decide +kernel
theorem dX7_beginOf_5 : decode cX7_beginOf 5 = .ok (.ifCond .eq 12, 3) := by decide +kernel
theorem dX7_beginOf_8 : decode cX7_beginOf 8 = .ok (.aload_n 0, 1) := by decide +kernel
theorem dX7_beginOf_9 : decode cX7_beginOf 9 = .ok (.getfield 15, 3) := by decide +kernel
theorem dX7_beginOf_12 : decode cX7_beginOf 12 = .ok (.iload_n 1, 1) := by decide +kernel
theorem dX7_beginOf_13 : decode cX7_beginOf 13 = .ok (.iaload, 1) := by decide +kernel
theorem dX7_beginOf_14 : decode cX7_beginOf 14 = .ok (.goto 4, 3) := by decide +kernel
theorem dX7_beginOf_17 : decode cX7_beginOf 17 = .ok (.iconst (-1), 1) := by decide +kernel
theorem dX7_beginOf_18 : decode cX7_beginOf 18 = .ok (.ireturn, 1) := by decide +kernel
set_option maxRecDepth 20000 in
theorem ggX7_endOf_X7_has : GoodIn wsX7_endOf wsX7_has := goodIn_r _ [7, 8, 9, 10, 11, 12, 13, 14, 15, 16] (by decide +kernel) (by decide +kernel)
set_option maxRecDepth 20000 in
theorem gX7_endOf_X7_has : GoodIn wsX7_endOf (wsV RX7 40 RX7 yX7_has wsX7_has) := goodIn_app (goodIn_of _ (by decide +kernel)) ggX7_endOf_X7_has
theorem dX7_endOf_0 : decode cX7_endOf 0 = .ok (.aload_n 0, 1) := by decide +kernel
theorem dX7_endOf_1 : decode cX7_endOf 1 = .ok (.iload_n 1, 1) := by decide +kernel
theorem dX7_endOf_2 : decode cX7_endOf 2 = .ok (.invokevirtual 40, 3) := by decide +kernel
theorem dX7_endOf_5 : decode cX7_endOf 5 = .ok (.ifCond .eq 19, 3) := by decide +kernel
theorem dX7_endOf_8 : decode cX7_endOf 8 = .ok (.aload_n 0, 1) := by decide +kernel
theorem dX7_endOf_9 : decode cX7_endOf 9 = .ok (.getfield 15, 3) := by decide +kernel
theorem dX7_endOf_12 : decode cX7_endOf 12 = .ok (.iload_n 1, 1) := by decide +kernel
theorem dX7_endOf_13 : decode cX7_endOf 13 = .ok (.iaload, 1) := by decide +kernel
theorem dX7_endOf_14 : decode cX7_endOf 14 = .ok (.aload_n 0, 1) := by decide +kernel
theorem dX7_endOf_15 : decode cX7_endOf 15 = .ok (.getfield 18, 3) := by decide +kernel
theorem dX7_endOf_18 : decode cX7_endOf 18 = .ok (.iload_n 1, 1) := by decide +kernel
theorem dX7_endOf_19 : decode cX7_endOf 19 = .ok (.iaload, 1) := by decide +kernel
theorem dX7_endOf_20 : decode cX7_endOf 20 = .ok (.iadd, 1) := by decide +kernel
theorem dX7_endOf_21 : decode cX7_endOf 21 = .ok (.goto 4, 3) := by decide +kernel
theorem dX7_endOf_24 : decode cX7_endOf 24 = .ok (.iconst (-1), 1) := by decide +kernel
theorem dX7_endOf_25 : decode cX7_endOf 25 = .ok (.ireturn, 1) := by decide +kernel
set_option maxRecDepth 20000 in
theorem ggX7_dayOf_X7_has : GoodIn wsX7_dayOf wsX7_has := goodIn_r _ [6, 7, 8, 9, 10, 11, 12, 13, 14, 15] (by decide +kernel) (by decide +kernel)
set_option maxRecDepth 20000 in
theorem gX7_dayOf_X7_has : GoodIn wsX7_dayOf (wsV RX7 40 RX7 yX7_has wsX7_has) := goodIn_app (goodIn_of _ (by decide +kernel)) ggX7_dayOf_X7_has
theorem dX7_dayOf_0 : decode cX7_dayOf 0 = .ok (.aload_n 0, 1) := by decide +kernel
theorem dX7_dayOf_1 : decode cX7_dayOf 1 = .ok (.iload_n 1, 1) := by decide +kernel
theorem dX7_dayOf_2 : decode cX7_dayOf 2 = .ok (.invokevirtual 40, 3) := by decide +kernel
theorem dX7_dayOf_5 : decode cX7_dayOf 5 = .ok (.ifCond .eq 16, 3) := by decide +kernel
theorem dX7_dayOf_8 : decode cX7_dayOf 8 = .ok (.aload_n 0, 1) := by decide +kernel
theorem dX7_dayOf_9 : decode cX7_dayOf 9 = .ok (.getfield 15, 3) := by decide +kernel
theorem dX7_dayOf_12 : decode cX7_dayOf 12 = .ok (.iload_n 1, 1) := by decide +kernel
theorem dX7_dayOf_13 : decode cX7_dayOf 13 = .ok (.iaload, 1) := by decide +kernel
theorem dX7_dayOf_14 : decode cX7_dayOf 14 = .ok (.sipush 1440, 3) := by decide +kernel
theorem dX7_dayOf_17 : decode cX7_dayOf 17 = .ok (.idiv, 1) := by decide +kernel
theorem dX7_dayOf_18 : decode cX7_dayOf 18 = .ok (.goto 4, 3) := by decide +kernel
theorem dX7_dayOf_21 : decode cX7_dayOf 21 = .ok (.iconst (-1), 1) := by decide +kernel
theorem dX7_dayOf_22 : decode cX7_dayOf 22 = .ok (.ireturn, 1) := by decide +kernel
set_option maxRecDepth 20000 in
theorem ggX7_membersOf_X7_has : GoodIn wsX7_membersOf wsX7_has := goodIn_r _ [6, 1, 7, 8, 9, 10, 11, 12, 13, 14] (by decide +kernel) (by decide +kernel)
set_option maxRecDepth 20000 in
theorem gX7_membersOf_X7_has : GoodIn wsX7_membersOf (wsV RX7 40 RX7 yX7_has wsX7_has) := goodIn_app (goodIn_of _ (by decide +kernel)) ggX7_membersOf_X7_has
theorem dX7_membersOf_0 : decode cX7_membersOf 0 = .ok (.aload_n 0, 1) := by decide +kernel
theorem dX7_membersOf_1 : decode cX7_membersOf 1 = .ok (.iload_n 1, 1) := by decide +kernel
theorem dX7_membersOf_2 : decode cX7_membersOf 2 = .ok (.invokevirtual 40, 3) := by decide +kernel
theorem dX7_membersOf_5 : decode cX7_membersOf 5 = .ok (.ifCond .eq 12, 3) := by decide +kernel
theorem dX7_membersOf_8 : decode cX7_membersOf 8 = .ok (.aload_n 0, 1) := by decide +kernel
theorem dX7_membersOf_9 : decode cX7_membersOf 9 = .ok (.getfield 24, 3) := by decide +kernel
theorem dX7_membersOf_12 : decode cX7_membersOf 12 = .ok (.iload_n 1, 1) := by decide +kernel
theorem dX7_membersOf_13 : decode cX7_membersOf 13 = .ok (.iaload, 1) := by decide +kernel
theorem dX7_membersOf_14 : decode cX7_membersOf 14 = .ok (.goto 4, 3) := by decide +kernel
theorem dX7_membersOf_17 : decode cX7_membersOf 17 = .ok (.iconst 0, 1) := by decide +kernel
theorem dX7_membersOf_18 : decode cX7_membersOf 18 = .ok (.ireturn, 1) := by decide +kernel
set_option maxRecDepth 20000 in
theorem ggX7_wishOf_X7_has : GoodIn wsX7_wishOf wsX7_has := goodIn_r _ [6, 7, 8, 9, 10, 11, 12, 13, 14, 15] (by decide +kernel) (by decide +kernel)
set_option maxRecDepth 20000 in
theorem gX7_wishOf_X7_has : GoodIn wsX7_wishOf (wsV RX7 40 RX7 yX7_has wsX7_has) := goodIn_app (goodIn_of _ (by decide +kernel)) ggX7_wishOf_X7_has
theorem dX7_wishOf_0 : decode cX7_wishOf 0 = .ok (.iload_n 1, 1) := by decide +kernel
theorem dX7_wishOf_1 : decode cX7_wishOf 1 = .ok (.bipush 16, 2) := by decide +kernel
theorem dX7_wishOf_3 : decode cX7_wishOf 3 = .ok (.imul, 1) := by decide +kernel
theorem dX7_wishOf_4 : decode cX7_wishOf 4 = .ok (.iload_n 2, 1) := by decide +kernel
theorem dX7_wishOf_5 : decode cX7_wishOf 5 = .ok (.iadd, 1) := by decide +kernel
theorem dX7_wishOf_6 : decode cX7_wishOf 6 = .ok (.istore_n 3, 1) := by decide +kernel
theorem dX7_wishOf_7 : decode cX7_wishOf 7 = .ok (.iload_n 3, 1) := by decide +kernel
theorem dX7_wishOf_8 : decode cX7_wishOf 8 = .ok (.ifCond .lt 20, 3) := by decide +kernel
theorem dX7_wishOf_11 : decode cX7_wishOf 11 = .ok (.iload_n 3, 1) := by decide +kernel
theorem dX7_wishOf_12 : decode cX7_wishOf 12 = .ok (.aload_n 0, 1) := by decide +kernel
theorem dX7_wishOf_13 : decode cX7_wishOf 13 = .ok (.getfield 27, 3) := by decide +kernel
theorem dX7_wishOf_16 : decode cX7_wishOf 16 = .ok (.arraylength, 1) := by decide +kernel
theorem dX7_wishOf_17 : decode cX7_wishOf 17 = .ok (.if_icmp .ge 11, 3) := by decide +kernel
theorem dX7_wishOf_20 : decode cX7_wishOf 20 = .ok (.aload_n 0, 1) := by decide +kernel
theorem dX7_wishOf_21 : decode cX7_wishOf 21 = .ok (.iload_n 2, 1) := by decide +kernel
theorem dX7_wishOf_22 : decode cX7_wishOf 22 = .ok (.invokevirtual 40, 3) := by decide +kernel
theorem dX7_wishOf_25 : decode cX7_wishOf 25 = .ok (.ifCond .ne 7, 3) := by decide +kernel
theorem dX7_wishOf_28 : decode cX7_wishOf 28 = .ok (.iconst 0, 1) := by decide +kernel
theorem dX7_wishOf_29 : decode cX7_wishOf 29 = .ok (.goto 9, 3) := by decide +kernel
theorem dX7_wishOf_32 : decode cX7_wishOf 32 = .ok (.aload_n 0, 1) := by decide +kernel
theorem dX7_wishOf_33 : decode cX7_wishOf 33 = .ok (.getfield 27, 3) := by decide +kernel
theorem dX7_wishOf_36 : decode cX7_wishOf 36 = .ok (.iload_n 3, 1) := by decide +kernel
theorem dX7_wishOf_37 : decode cX7_wishOf 37 = .ok (.iaload, 1) := by decide +kernel
theorem dX7_wishOf_38 : decode cX7_wishOf 38 = .ok (.ireturn, 1) := by decide +kernel
set_option maxRecDepth 20000 in
theorem ggX7_pleasing_X7_wishOf : GoodIn wsX7_pleasing wsX7_wishOf := goodIn_r _ [5, 6, 7, 8, 9, 4, 10, 11, 12, 13, 14, 15, 16, 17, 18, 19] (by decide +kernel) (by decide +kernel)
set_option maxRecDepth 20000 in
theorem gX7_pleasing_X7_wishOf : GoodIn wsX7_pleasing (wsV RX7 48 RX7 yX7_wishOf wsX7_wishOf) := goodIn_app (goodIn_of _ (by decide +kernel)) ggX7_pleasing_X7_wishOf
theorem dX7_pleasing_0 : decode cX7_pleasing 0 = .ok (.iconst 0, 1) := by decide +kernel
theorem dX7_pleasing_1 : decode cX7_pleasing 1 = .ok (.istore_n 2, 1) := by decide +kernel
theorem dX7_pleasing_2 : decode cX7_pleasing 2 = .ok (.iconst 0, 1) := by decide +kernel
theorem dX7_pleasing_3 : decode cX7_pleasing 3 = .ok (.istore_n 3, 1) := by decide +kernel
theorem dX7_pleasing_4 : decode cX7_pleasing 4 = .ok (.iload_n 3, 1) := by decide +kernel
theorem dX7_pleasing_5 : decode cX7_pleasing 5 = .ok (.bipush 12, 2) := by decide +kernel
theorem dX7_pleasing_7 : decode cX7_pleasing 7 = .ok (.if_icmp .ge 18, 3) := by decide +kernel
theorem dX7_pleasing_10 : decode cX7_pleasing 10 = .ok (.iload_n 2, 1) := by decide +kernel
theorem dX7_pleasing_11 : decode cX7_pleasing 11 = .ok (.aload_n 0, 1) := by decide +kernel
theorem dX7_pleasing_12 : decode cX7_pleasing 12 = .ok (.iload_n 3, 1) := by decide +kernel
theorem dX7_pleasing_13 : decode cX7_pleasing 13 = .ok (.iload_n 1, 1) := by decide +kernel
theorem dX7_pleasing_14 : decode cX7_pleasing 14 = .ok (.invokevirtual 48, 3) := by decide +kernel
theorem dX7_pleasing_17 : decode cX7_pleasing 17 = .ok (.iadd, 1) := by decide +kernel
theorem dX7_pleasing_18 : decode cX7_pleasing 18 = .ok (.istore_n 2, 1) := by decide +kernel
theorem dX7_pleasing_19 : decode cX7_pleasing 19 = .ok (.iinc 3 1, 3) := by decide +kernel
theorem dX7_pleasing_22 : decode cX7_pleasing 22 = .ok (.goto (-18), 3) := by decide +kernel
theorem dX7_pleasing_25 : decode cX7_pleasing 25 = .ok (.iload_n 2, 1) := by decide +kernel
theorem dX7_pleasing_26 : decode cX7_pleasing 26 = .ok (.ireturn, 1) := by decide +kernel
set_option maxRecDepth 20000 in
theorem ggX7_pleasingOfAll_X7_pleasing : GoodIn wsX7_pleasingOfAll wsX7_pleasing := goodIn_r _ [5, 6, 7, 8, 4, 9, 10, 11, 12, 13, 14, 15, 16, 17, 18, 19, 20, 21, 22, 23] (by decide +kernel) (by decide +kernel)
set_option maxRecDepth 20000 in
theorem gX7_pleasingOfAll_X7_pleasing : GoodIn wsX7_pleasingOfAll (wsV RX7 52 RX7 yX7_pleasing wsX7_pleasing) := goodIn_app (goodIn_of _ (by decide +kernel)) ggX7_pleasingOfAll_X7_pleasing
theorem dX7_pleasingOfAll_0 : decode cX7_pleasingOfAll 0 = .ok (.iconst 0, 1) := by decide +kernel
theorem dX7_pleasingOfAll_1 : decode cX7_pleasingOfAll 1 = .ok (.istore_n 2, 1) := by decide +kernel
theorem dX7_pleasingOfAll_2 : decode cX7_pleasingOfAll 2 = .ok (.iconst 0, 1) := by decide +kernel
theorem dX7_pleasingOfAll_3 : decode cX7_pleasingOfAll 3 = .ok (.istore_n 3, 1) := by decide +kernel
theorem dX7_pleasingOfAll_4 : decode cX7_pleasingOfAll 4 = .ok (.iload_n 3, 1) := by decide +kernel
theorem dX7_pleasingOfAll_5 : decode cX7_pleasingOfAll 5 = .ok (.bipush 16, 2) := by decide +kernel
theorem dX7_pleasingOfAll_7 : decode cX7_pleasingOfAll 7 = .ok (.if_icmp .ge 25, 3) := by decide +kernel
theorem dX7_pleasingOfAll_10 : decode cX7_pleasingOfAll 10 = .ok (.iload_n 1, 1) := by decide +kernel
theorem dX7_pleasingOfAll_11 : decode cX7_pleasingOfAll 11 = .ok (.iload_n 3, 1) := by decide +kernel
theorem dX7_pleasingOfAll_12 : decode cX7_pleasingOfAll 12 = .ok (.ishr, 1) := by decide +kernel
theorem dX7_pleasingOfAll_13 : decode cX7_pleasingOfAll 13 = .ok (.iconst 1, 1) := by decide +kernel
theorem dX7_pleasingOfAll_14 : decode cX7_pleasingOfAll 14 = .ok (.iand, 1) := by decide +kernel
theorem dX7_pleasingOfAll_15 : decode cX7_pleasingOfAll 15 = .ok (.ifCond .eq 11, 3) := by decide +kernel
theorem dX7_pleasingOfAll_18 : decode cX7_pleasingOfAll 18 = .ok (.iload_n 2, 1) := by decide +kernel
theorem dX7_pleasingOfAll_19 : decode cX7_pleasingOfAll 19 = .ok (.aload_n 0, 1) := by decide +kernel
theorem dX7_pleasingOfAll_20 : decode cX7_pleasingOfAll 20 = .ok (.iload_n 3, 1) := by decide +kernel
theorem dX7_pleasingOfAll_21 : decode cX7_pleasingOfAll 21 = .ok (.invokevirtual 52, 3) := by decide +kernel
theorem dX7_pleasingOfAll_24 : decode cX7_pleasingOfAll 24 = .ok (.iadd, 1) := by decide +kernel
theorem dX7_pleasingOfAll_25 : decode cX7_pleasingOfAll 25 = .ok (.istore_n 2, 1) := by decide +kernel
theorem dX7_pleasingOfAll_26 : decode cX7_pleasingOfAll 26 = .ok (.iinc 3 1, 3) := by decide +kernel
theorem dX7_pleasingOfAll_29 : decode cX7_pleasingOfAll 29 = .ok (.goto (-25), 3) := by decide +kernel
theorem dX7_pleasingOfAll_32 : decode cX7_pleasingOfAll 32 = .ok (.iload_n 2, 1) := by decide +kernel
theorem dX7_pleasingOfAll_33 : decode cX7_pleasingOfAll 33 = .ok (.ireturn, 1) := by decide +kernel
set_option maxRecDepth 20000 in
theorem ggX7_partOf_X7_has : GoodIn wsX7_partOf wsX7_has := goodIn_r _ [10, 5, 20, 21, 22, 23, 24, 25, 26, 27] (by decide +kernel) (by decide +kernel)
set_option maxRecDepth 20000 in
theorem gX7_partOf_X7_has : GoodIn wsX7_partOf (wsV RX7 40 RX7 yX7_has wsX7_has) := goodIn_app (goodIn_of _ (by decide +kernel)) ggX7_partOf_X7_has
set_option maxRecDepth 20000 in
theorem ggX7_partOf_X7_pleasing : GoodIn wsX7_partOf wsX7_pleasing := goodIn_r _ [14, 15, 16, 17, 9, 18, 19, 6, 7, 8, 10, 5, 20, 21, 22, 23, 24, 25, 26, 27] (by decide +kernel) (by decide +kernel)
set_option maxRecDepth 20000 in
theorem gX7_partOf_X7_pleasing : GoodIn wsX7_partOf (wsV RX7 52 RX7 yX7_pleasing wsX7_pleasing) := goodIn_app (goodIn_of _ (by decide +kernel)) ggX7_partOf_X7_pleasing
theorem dX7_partOf_0 : decode cX7_partOf 0 = .ok (.aload_n 0, 1) := by decide +kernel
theorem dX7_partOf_1 : decode cX7_partOf 1 = .ok (.iload_n 1, 1) := by decide +kernel
theorem dX7_partOf_2 : decode cX7_partOf 2 = .ok (.invokevirtual 40, 3) := by decide +kernel
theorem dX7_partOf_5 : decode cX7_partOf 5 = .ok (.ifCond .ne 5, 3) := by decide +kernel
theorem dX7_partOf_8 : decode cX7_partOf 8 = .ok (.iconst (-1), 1) := by decide +kernel
theorem dX7_partOf_9 : decode cX7_partOf 9 = .ok (.ireturn, 1) := by decide +kernel
theorem dX7_partOf_10 : decode cX7_partOf 10 = .ok (.iload_n 2, 1) := by decide +kernel
theorem dX7_partOf_11 : decode cX7_partOf 11 = .ok (.tableswitch 68 0 4 #[33, 40, 47, 54, 61], 33) := by decide +kernel
theorem dX7_partOf_44 : decode cX7_partOf 44 = .ok (.aload_n 0, 1) := by decide +kernel
theorem dX7_partOf_45 : decode cX7_partOf 45 = .ok (.getfield 9, 3) := by decide +kernel
theorem dX7_partOf_48 : decode cX7_partOf 48 = .ok (.iload_n 1, 1) := by decide +kernel
theorem dX7_partOf_49 : decode cX7_partOf 49 = .ok (.iaload, 1) := by decide +kernel
theorem dX7_partOf_50 : decode cX7_partOf 50 = .ok (.ireturn, 1) := by decide +kernel
theorem dX7_partOf_51 : decode cX7_partOf 51 = .ok (.aload_n 0, 1) := by decide +kernel
theorem dX7_partOf_52 : decode cX7_partOf 52 = .ok (.getfield 15, 3) := by decide +kernel
theorem dX7_partOf_55 : decode cX7_partOf 55 = .ok (.iload_n 1, 1) := by decide +kernel
theorem dX7_partOf_56 : decode cX7_partOf 56 = .ok (.iaload, 1) := by decide +kernel
theorem dX7_partOf_57 : decode cX7_partOf 57 = .ok (.ireturn, 1) := by decide +kernel
theorem dX7_partOf_58 : decode cX7_partOf 58 = .ok (.aload_n 0, 1) := by decide +kernel
theorem dX7_partOf_59 : decode cX7_partOf 59 = .ok (.getfield 18, 3) := by decide +kernel
theorem dX7_partOf_62 : decode cX7_partOf 62 = .ok (.iload_n 1, 1) := by decide +kernel
theorem dX7_partOf_63 : decode cX7_partOf 63 = .ok (.iaload, 1) := by decide +kernel
theorem dX7_partOf_64 : decode cX7_partOf 64 = .ok (.ireturn, 1) := by decide +kernel
theorem dX7_partOf_65 : decode cX7_partOf 65 = .ok (.aload_n 0, 1) := by decide +kernel
theorem dX7_partOf_66 : decode cX7_partOf 66 = .ok (.getfield 21, 3) := by decide +kernel
theorem dX7_partOf_69 : decode cX7_partOf 69 = .ok (.iload_n 1, 1) := by decide +kernel
theorem dX7_partOf_70 : decode cX7_partOf 70 = .ok (.iaload, 1) := by decide +kernel
theorem dX7_partOf_71 : decode cX7_partOf 71 = .ok (.ireturn, 1) := by decide +kernel
theorem dX7_partOf_72 : decode cX7_partOf 72 = .ok (.aload_n 0, 1) := by decide +kernel
theorem dX7_partOf_73 : decode cX7_partOf 73 = .ok (.getfield 24, 3) := by decide +kernel
theorem dX7_partOf_76 : decode cX7_partOf 76 = .ok (.iload_n 1, 1) := by decide +kernel
theorem dX7_partOf_77 : decode cX7_partOf 77 = .ok (.iaload, 1) := by decide +kernel
theorem dX7_partOf_78 : decode cX7_partOf 78 = .ok (.ireturn, 1) := by decide +kernel
theorem dX7_partOf_79 : decode cX7_partOf 79 = .ok (.aload_n 0, 1) := by decide +kernel
theorem dX7_partOf_80 : decode cX7_partOf 80 = .ok (.iload_n 1, 1) := by decide +kernel
theorem dX7_partOf_81 : decode cX7_partOf 81 = .ok (.invokevirtual 52, 3) := by decide +kernel
theorem dX7_partOf_84 : decode cX7_partOf 84 = .ok (.ireturn, 1) := by decide +kernel
set_option maxRecDepth 20000 in
theorem ggX7_numbers_X7_has : GoodIn wsX7_numbers wsX7_has := goodIn_r _ [5, 6, 7, 8, 9, 10, 11, 12, 13, 14] (by decide +kernel) (by decide +kernel)
set_option maxRecDepth 20000 in
theorem gX7_numbers_X7_has : GoodIn wsX7_numbers (wsV RX7 40 RX7 yX7_has wsX7_has) := goodIn_app (goodIn_of _ (by decide +kernel)) ggX7_numbers_X7_has
theorem dX7_numbers_0 : decode cX7_numbers 0 = .ok (.iconst 0, 1) := by decide +kernel
theorem dX7_numbers_1 : decode cX7_numbers 1 = .ok (.istore_n 1, 1) := by decide +kernel
theorem dX7_numbers_2 : decode cX7_numbers 2 = .ok (.iconst 0, 1) := by decide +kernel
theorem dX7_numbers_3 : decode cX7_numbers 3 = .ok (.istore_n 2, 1) := by decide +kernel
theorem dX7_numbers_4 : decode cX7_numbers 4 = .ok (.iload_n 2, 1) := by decide +kernel
theorem dX7_numbers_5 : decode cX7_numbers 5 = .ok (.bipush 16, 2) := by decide +kernel
theorem dX7_numbers_7 : decode cX7_numbers 7 = .ok (.if_icmp .ge 23, 3) := by decide +kernel
theorem dX7_numbers_10 : decode cX7_numbers 10 = .ok (.aload_n 0, 1) := by decide +kernel
theorem dX7_numbers_11 : decode cX7_numbers 11 = .ok (.iload_n 2, 1) := by decide +kernel
theorem dX7_numbers_12 : decode cX7_numbers 12 = .ok (.invokevirtual 40, 3) := by decide +kernel
theorem dX7_numbers_15 : decode cX7_numbers 15 = .ok (.ifCond .eq 9, 3) := by decide +kernel
theorem dX7_numbers_18 : decode cX7_numbers 18 = .ok (.iload_n 1, 1) := by decide +kernel
theorem dX7_numbers_19 : decode cX7_numbers 19 = .ok (.iconst 1, 1) := by decide +kernel
theorem dX7_numbers_20 : decode cX7_numbers 20 = .ok (.iload_n 2, 1) := by decide +kernel
theorem dX7_numbers_21 : decode cX7_numbers 21 = .ok (.ishl, 1) := by decide +kernel
theorem dX7_numbers_22 : decode cX7_numbers 22 = .ok (.ior, 1) := by decide +kernel
theorem dX7_numbers_23 : decode cX7_numbers 23 = .ok (.istore_n 1, 1) := by decide +kernel
theorem dX7_numbers_24 : decode cX7_numbers 24 = .ok (.iinc 2 1, 3) := by decide +kernel
theorem dX7_numbers_27 : decode cX7_numbers 27 = .ok (.goto (-23), 3) := by decide +kernel
theorem dX7_numbers_30 : decode cX7_numbers 30 = .ok (.iload_n 1, 1) := by decide +kernel
theorem dX7_numbers_31 : decode cX7_numbers 31 = .ok (.ireturn, 1) := by decide +kernel
set_option maxRecDepth 20000 in
theorem ggX7_numbersOn_X7_stageOf : GoodIn wsX7_numbersOn wsX7_stageOf := goodIn_r _ [5, 6, 7, 8, 9, 4, 10, 11, 12, 13, 14, 15, 16, 17, 18, 19] (by decide +kernel) (by decide +kernel)
set_option maxRecDepth 20000 in
theorem gX7_numbersOn_X7_stageOf : GoodIn wsX7_numbersOn (wsV RX7 56 RX7 yX7_stageOf wsX7_stageOf) := goodIn_app (goodIn_of _ (by decide +kernel)) ggX7_numbersOn_X7_stageOf
theorem dX7_numbersOn_0 : decode cX7_numbersOn 0 = .ok (.iconst 0, 1) := by decide +kernel
theorem dX7_numbersOn_1 : decode cX7_numbersOn 1 = .ok (.istore_n 2, 1) := by decide +kernel
theorem dX7_numbersOn_2 : decode cX7_numbersOn 2 = .ok (.iconst 0, 1) := by decide +kernel
theorem dX7_numbersOn_3 : decode cX7_numbersOn 3 = .ok (.istore_n 3, 1) := by decide +kernel
theorem dX7_numbersOn_4 : decode cX7_numbersOn 4 = .ok (.iload_n 3, 1) := by decide +kernel
theorem dX7_numbersOn_5 : decode cX7_numbersOn 5 = .ok (.bipush 16, 2) := by decide +kernel
theorem dX7_numbersOn_7 : decode cX7_numbersOn 7 = .ok (.if_icmp .ge 24, 3) := by decide +kernel
theorem dX7_numbersOn_10 : decode cX7_numbersOn 10 = .ok (.aload_n 0, 1) := by decide +kernel
theorem dX7_numbersOn_11 : decode cX7_numbersOn 11 = .ok (.iload_n 3, 1) := by decide +kernel
theorem dX7_numbersOn_12 : decode cX7_numbersOn 12 = .ok (.invokevirtual 56, 3) := by decide +kernel
theorem dX7_numbersOn_15 : decode cX7_numbersOn 15 = .ok (.iload_n 1, 1) := by decide +kernel
theorem dX7_numbersOn_16 : decode cX7_numbersOn 16 = .ok (.if_icmp .ne 9, 3) := by decide +kernel
theorem dX7_numbersOn_19 : decode cX7_numbersOn 19 = .ok (.iload_n 2, 1) := by decide +kernel
theorem dX7_numbersOn_20 : decode cX7_numbersOn 20 = .ok (.iconst 1, 1) := by decide +kernel
theorem dX7_numbersOn_21 : decode cX7_numbersOn 21 = .ok (.iload_n 3, 1) := by decide +kernel
theorem dX7_numbersOn_22 : decode cX7_numbersOn 22 = .ok (.ishl, 1) := by decide +kernel
theorem dX7_numbersOn_23 : decode cX7_numbersOn 23 = .ok (.ior, 1) := by decide +kernel
theorem dX7_numbersOn_24 : decode cX7_numbersOn 24 = .ok (.istore_n 2, 1) := by decide +kernel
theorem dX7_numbersOn_25 : decode cX7_numbersOn 25 = .ok (.iinc 3 1, 3) := by decide +kernel
theorem dX7_numbersOn_28 : decode cX7_numbersOn 28 = .ok (.goto (-24), 3) := by decide +kernel
theorem dX7_numbersOn_31 : decode cX7_numbersOn 31 = .ok (.iload_n 2, 1) := by decide +kernel
theorem dX7_numbersOn_32 : decode cX7_numbersOn 32 = .ok (.ireturn, 1) := by decide +kernel
set_option maxRecDepth 20000 in
theorem ggX7_earliest_X7_stageOf : GoodIn wsX7_earliest wsX7_stageOf := goodIn_r _ [6, 7, 8, 9, 10, 5, 11, 12, 17, 18, 19, 20, 21, 22, 23, 24] (by decide +kernel) (by decide +kernel)
set_option maxRecDepth 20000 in
theorem gX7_earliest_X7_stageOf : GoodIn wsX7_earliest (wsV RX7 56 RX7 yX7_stageOf wsX7_stageOf) := goodIn_app (goodIn_of _ (by decide +kernel)) ggX7_earliest_X7_stageOf
set_option maxRecDepth 20000 in
theorem ggX7_earliest_X7_beginOf : GoodIn wsX7_earliest wsX7_beginOf := goodIn_r _ [16, 1, 8, 9, 10, 5, 11, 12, 17, 18, 19, 20, 21, 22, 23, 24] (by decide +kernel) (by decide +kernel)
set_option maxRecDepth 20000 in
theorem gX7_earliest_X7_beginOf : GoodIn wsX7_earliest (wsV RX7 59 RX7 yX7_beginOf wsX7_beginOf) := goodIn_app (goodIn_of _ (by decide +kernel)) ggX7_earliest_X7_beginOf
theorem dX7_earliest_0 : decode cX7_earliest 0 = .ok (.iconst (-1), 1) := by decide +kernel
theorem dX7_earliest_1 : decode cX7_earliest 1 = .ok (.istore 4, 2) := by decide +kernel
theorem dX7_earliest_3 : decode cX7_earliest 3 = .ok (.iconst 0, 1) := by decide +kernel
theorem dX7_earliest_4 : decode cX7_earliest 4 = .ok (.istore 5, 2) := by decide +kernel
theorem dX7_earliest_6 : decode cX7_earliest 6 = .ok (.iload 5, 2) := by decide +kernel
theorem dX7_earliest_8 : decode cX7_earliest 8 = .ok (.bipush 16, 2) := by decide +kernel
theorem dX7_earliest_10 : decode cX7_earliest 10 = .ok (.if_icmp .ge 67, 3) := by decide +kernel
theorem dX7_earliest_13 : decode cX7_earliest 13 = .ok (.aload_n 0, 1) := by decide +kernel
theorem dX7_earliest_14 : decode cX7_earliest 14 = .ok (.iload 5, 2) := by decide +kernel
theorem dX7_earliest_16 : decode cX7_earliest 16 = .ok (.invokevirtual 56, 3) := by decide +kernel
theorem dX7_earliest_19 : decode cX7_earliest 19 = .ok (.iload_n 1, 1) := by decide +kernel
theorem dX7_earliest_20 : decode cX7_earliest 20 = .ok (.if_icmp .ne 51, 3) := by decide +kernel
theorem dX7_earliest_23 : decode cX7_earliest 23 = .ok (.aload_n 0, 1) := by decide +kernel
theorem dX7_earliest_24 : decode cX7_earliest 24 = .ok (.getfield 15, 3) := by decide +kernel
theorem dX7_earliest_27 : decode cX7_earliest 27 = .ok (.iload 5, 2) := by decide +kernel
theorem dX7_earliest_29 : decode cX7_earliest 29 = .ok (.iaload, 1) := by decide +kernel
theorem dX7_earliest_30 : decode cX7_earliest 30 = .ok (.iload_n 2, 1) := by decide +kernel
theorem dX7_earliest_31 : decode cX7_earliest 31 = .ok (.if_icmp .lt 40, 3) := by decide +kernel
theorem dX7_earliest_34 : decode cX7_earliest 34 = .ok (.aload_n 0, 1) := by decide +kernel
theorem dX7_earliest_35 : decode cX7_earliest 35 = .ok (.getfield 15, 3) := by decide +kernel
theorem dX7_earliest_38 : decode cX7_earliest 38 = .ok (.iload 5, 2) := by decide +kernel
theorem dX7_earliest_40 : decode cX7_earliest 40 = .ok (.iaload, 1) := by decide +kernel
theorem dX7_earliest_41 : decode cX7_earliest 41 = .ok (.iload_n 3, 1) := by decide +kernel
theorem dX7_earliest_42 : decode cX7_earliest 42 = .ok (.if_icmp .ge 29, 3) := by decide +kernel
theorem dX7_earliest_45 : decode cX7_earliest 45 = .ok (.iload 4, 2) := by decide +kernel
theorem dX7_earliest_47 : decode cX7_earliest 47 = .ok (.iconst (-1), 1) := by decide +kernel
theorem dX7_earliest_48 : decode cX7_earliest 48 = .ok (.if_icmp .eq 19, 3) := by decide +kernel
theorem dX7_earliest_51 : decode cX7_earliest 51 = .ok (.aload_n 0, 1) := by decide +kernel
theorem dX7_earliest_52 : decode cX7_earliest 52 = .ok (.getfield 15, 3) := by decide +kernel
theorem dX7_earliest_55 : decode cX7_earliest 55 = .ok (.iload 5, 2) := by decide +kernel
theorem dX7_earliest_57 : decode cX7_earliest 57 = .ok (.iaload, 1) := by decide +kernel
theorem dX7_earliest_58 : decode cX7_earliest 58 = .ok (.aload_n 0, 1) := by decide +kernel
theorem dX7_earliest_59 : decode cX7_earliest 59 = .ok (.iload 4, 2) := by decide +kernel
theorem dX7_earliest_61 : decode cX7_earliest 61 = .ok (.invokevirtual 59, 3) := by decide +kernel
theorem dX7_earliest_64 : decode cX7_earliest 64 = .ok (.if_icmp .ge 7, 3) := by decide +kernel
theorem dX7_earliest_67 : decode cX7_earliest 67 = .ok (.iload 5, 2) := by decide +kernel
theorem dX7_earliest_69 : decode cX7_earliest 69 = .ok (.istore 4, 2) := by decide +kernel
theorem dX7_earliest_71 : decode cX7_earliest 71 = .ok (.iinc 5 1, 3) := by decide +kernel
theorem dX7_earliest_74 : decode cX7_earliest 74 = .ok (.goto (-68), 3) := by decide +kernel
theorem dX7_earliest_77 : decode cX7_earliest 77 = .ok (.iload 4, 2) := by decide +kernel
theorem dX7_earliest_79 : decode cX7_earliest 79 = .ok (.ireturn, 1) := by decide +kernel
set_option maxRecDepth 20000 in
theorem ggX7_latestOutside_X7_has : GoodIn wsX7_latestOutside wsX7_has := goodIn_r _ [6, 7, 12, 13, 14, 15, 16, 17, 18, 19] (by decide +kernel) (by decide +kernel)
set_option maxRecDepth 20000 in
theorem gX7_latestOutside_X7_has : GoodIn wsX7_latestOutside (wsV RX7 40 RX7 yX7_has wsX7_has) := goodIn_app (goodIn_of _ (by decide +kernel)) ggX7_latestOutside_X7_has
set_option maxRecDepth 20000 in
theorem ggX7_latestOutside_X7_beginOf : GoodIn wsX7_latestOutside wsX7_beginOf := goodIn_r _ [11, 1, 2, 3, 4, 5, 6, 7, 12, 13, 14, 15, 16, 17, 18, 19] (by decide +kernel) (by decide +kernel)
set_option maxRecDepth 20000 in
theorem gX7_latestOutside_X7_beginOf : GoodIn wsX7_latestOutside (wsV RX7 59 RX7 yX7_beginOf wsX7_beginOf) := goodIn_app (goodIn_of _ (by decide +kernel)) ggX7_latestOutside_X7_beginOf
theorem dX7_latestOutside_0 : decode cX7_latestOutside 0 = .ok (.iconst (-1), 1) := by decide +kernel
theorem dX7_latestOutside_1 : decode cX7_latestOutside 1 = .ok (.istore_n 2, 1) := by decide +kernel
theorem dX7_latestOutside_2 : decode cX7_latestOutside 2 = .ok (.iconst 0, 1) := by decide +kernel
theorem dX7_latestOutside_3 : decode cX7_latestOutside 3 = .ok (.istore_n 3, 1) := by decide +kernel
theorem dX7_latestOutside_4 : decode cX7_latestOutside 4 = .ok (.iload_n 3, 1) := by decide +kernel
theorem dX7_latestOutside_5 : decode cX7_latestOutside 5 = .ok (.bipush 16, 2) := by decide +kernel
theorem dX7_latestOutside_7 : decode cX7_latestOutside 7 = .ok (.if_icmp .ge 41, 3) := by decide +kernel
theorem dX7_latestOutside_10 : decode cX7_latestOutside 10 = .ok (.aload_n 0, 1) := by decide +kernel
theorem dX7_latestOutside_11 : decode cX7_latestOutside 11 = .ok (.iload_n 3, 1) := by decide +kernel
theorem dX7_latestOutside_12 : decode cX7_latestOutside 12 = .ok (.invokevirtual 40, 3) := by decide +kernel
theorem dX7_latestOutside_15 : decode cX7_latestOutside 15 = .ok (.ifCond .eq 27, 3) := by decide +kernel
theorem dX7_latestOutside_18 : decode cX7_latestOutside 18 = .ok (.iload_n 1, 1) := by decide +kernel
theorem dX7_latestOutside_19 : decode cX7_latestOutside 19 = .ok (.iload_n 3, 1) := by decide +kernel
theorem dX7_latestOutside_20 : decode cX7_latestOutside 20 = .ok (.ishr, 1) := by decide +kernel
theorem dX7_latestOutside_21 : decode cX7_latestOutside 21 = .ok (.iconst 1, 1) := by decide +kernel
theorem dX7_latestOutside_22 : decode cX7_latestOutside 22 = .ok (.iand, 1) := by decide +kernel
theorem dX7_latestOutside_23 : decode cX7_latestOutside 23 = .ok (.ifCond .ne 19, 3) := by decide +kernel
theorem dX7_latestOutside_26 : decode cX7_latestOutside 26 = .ok (.aload_n 0, 1) := by decide +kernel
theorem dX7_latestOutside_27 : decode cX7_latestOutside 27 = .ok (.getfield 15, 3) := by decide +kernel
theorem dX7_latestOutside_30 : decode cX7_latestOutside 30 = .ok (.iload_n 3, 1) := by decide +kernel
theorem dX7_latestOutside_31 : decode cX7_latestOutside 31 = .ok (.iaload, 1) := by decide +kernel
theorem dX7_latestOutside_32 : decode cX7_latestOutside 32 = .ok (.aload_n 0, 1) := by decide +kernel
theorem dX7_latestOutside_33 : decode cX7_latestOutside 33 = .ok (.iload_n 2, 1) := by decide +kernel
theorem dX7_latestOutside_34 : decode cX7_latestOutside 34 = .ok (.invokevirtual 59, 3) := by decide +kernel
theorem dX7_latestOutside_37 : decode cX7_latestOutside 37 = .ok (.if_icmp .le 5, 3) := by decide +kernel
theorem dX7_latestOutside_40 : decode cX7_latestOutside 40 = .ok (.iload_n 3, 1) := by decide +kernel
theorem dX7_latestOutside_41 : decode cX7_latestOutside 41 = .ok (.istore_n 2, 1) := by decide +kernel
theorem dX7_latestOutside_42 : decode cX7_latestOutside 42 = .ok (.iinc 3 1, 3) := by decide +kernel
theorem dX7_latestOutside_45 : decode cX7_latestOutside 45 = .ok (.goto (-41), 3) := by decide +kernel
theorem dX7_latestOutside_48 : decode cX7_latestOutside 48 = .ok (.iload_n 2, 1) := by decide +kernel
theorem dX7_latestOutside_49 : decode cX7_latestOutside 49 = .ok (.ireturn, 1) := by decide +kernel
set_option maxRecDepth 20000 in
theorem ggX7_isOnIn_X7_has : GoodIn wsX7_isOnIn wsX7_has := goodIn_r _ [6, 7, 13, 14, 15, 16, 17, 18, 19, 20] (by decide +kernel) (by decide +kernel)
set_option maxRecDepth 20000 in
theorem gX7_isOnIn_X7_has : GoodIn wsX7_isOnIn (wsV RX7 40 RX7 yX7_has wsX7_has) := goodIn_app (goodIn_of _ (by decide +kernel)) ggX7_isOnIn_X7_has
set_option maxRecDepth 20000 in
theorem ggX7_isOnIn_X7_endOf : GoodIn wsX7_isOnIn wsX7_endOf := goodIn_r _ [11, 1, 12, 2, 3, 4, 5, 6, 7, 13, 14, 15, 16, 17, 18, 19, 20] (by decide +kernel) (by decide +kernel)
set_option maxRecDepth 20000 in
theorem gX7_isOnIn_X7_endOf : GoodIn wsX7_isOnIn (wsV RX7 62 RX7 yX7_endOf wsX7_endOf) := goodIn_app (goodIn_of _ (by decide +kernel)) ggX7_isOnIn_X7_endOf
theorem dX7_isOnIn_0 : decode cX7_isOnIn 0 = .ok (.aload_n 0, 1) := by decide +kernel
theorem dX7_isOnIn_1 : decode cX7_isOnIn 1 = .ok (.iload_n 1, 1) := by decide +kernel
theorem dX7_isOnIn_2 : decode cX7_isOnIn 2 = .ok (.invokevirtual 40, 3) := by decide +kernel
theorem dX7_isOnIn_5 : decode cX7_isOnIn 5 = .ok (.ifCond .eq 26, 3) := by decide +kernel
theorem dX7_isOnIn_8 : decode cX7_isOnIn 8 = .ok (.aload_n 0, 1) := by decide +kernel
theorem dX7_isOnIn_9 : decode cX7_isOnIn 9 = .ok (.getfield 15, 3) := by decide +kernel
theorem dX7_isOnIn_12 : decode cX7_isOnIn 12 = .ok (.iload_n 1, 1) := by decide +kernel
theorem dX7_isOnIn_13 : decode cX7_isOnIn 13 = .ok (.iaload, 1) := by decide +kernel
theorem dX7_isOnIn_14 : decode cX7_isOnIn 14 = .ok (.iload_n 3, 1) := by decide +kernel
theorem dX7_isOnIn_15 : decode cX7_isOnIn 15 = .ok (.if_icmp .ge 16, 3) := by decide +kernel
theorem dX7_isOnIn_18 : decode cX7_isOnIn 18 = .ok (.aload_n 0, 1) := by decide +kernel
theorem dX7_isOnIn_19 : decode cX7_isOnIn 19 = .ok (.iload_n 1, 1) := by decide +kernel
theorem dX7_isOnIn_20 : decode cX7_isOnIn 20 = .ok (.invokevirtual 62, 3) := by decide +kernel
theorem dX7_isOnIn_23 : decode cX7_isOnIn 23 = .ok (.iload_n 2, 1) := by decide +kernel
theorem dX7_isOnIn_24 : decode cX7_isOnIn 24 = .ok (.if_icmp .le 7, 3) := by decide +kernel
theorem dX7_isOnIn_27 : decode cX7_isOnIn 27 = .ok (.iconst 1, 1) := by decide +kernel
theorem dX7_isOnIn_28 : decode cX7_isOnIn 28 = .ok (.goto 4, 3) := by decide +kernel
theorem dX7_isOnIn_31 : decode cX7_isOnIn 31 = .ok (.iconst 0, 1) := by decide +kernel
theorem dX7_isOnIn_32 : decode cX7_isOnIn 32 = .ok (.ireturn, 1) := by decide +kernel
set_option maxRecDepth 20000 in
theorem ggX7_doPiecesMeet_X7_has : GoodIn wsX7_doPiecesMeet wsX7_has := goodIn_r _ [7, 8, 14, 15, 16, 17, 18, 19, 20, 21] (by decide +kernel) (by decide +kernel)
set_option maxRecDepth 20000 in
theorem gX7_doPiecesMeet_X7_has : GoodIn wsX7_doPiecesMeet (wsV RX7 40 RX7 yX7_has wsX7_has) := goodIn_app (goodIn_of _ (by decide +kernel)) ggX7_doPiecesMeet_X7_has
set_option maxRecDepth 20000 in
theorem ggX7_doPiecesMeet_X7_endOf : GoodIn wsX7_doPiecesMeet wsX7_endOf := goodIn_r _ [12, 1, 13, 3, 4, 5, 6, 7, 8, 14, 15, 16, 17, 18, 19, 20, 21] (by decide +kernel) (by decide +kernel)
set_option maxRecDepth 20000 in
theorem gX7_doPiecesMeet_X7_endOf : GoodIn wsX7_doPiecesMeet (wsV RX7 62 RX7 yX7_endOf wsX7_endOf) := goodIn_app (goodIn_of _ (by decide +kernel)) ggX7_doPiecesMeet_X7_endOf
theorem dX7_doPiecesMeet_0 : decode cX7_doPiecesMeet 0 = .ok (.aload_n 0, 1) := by decide +kernel
theorem dX7_doPiecesMeet_1 : decode cX7_doPiecesMeet 1 = .ok (.iload_n 1, 1) := by decide +kernel
theorem dX7_doPiecesMeet_2 : decode cX7_doPiecesMeet 2 = .ok (.invokevirtual 40, 3) := by decide +kernel
theorem dX7_doPiecesMeet_5 : decode cX7_doPiecesMeet 5 = .ok (.ifCond .eq 57, 3) := by decide +kernel
theorem dX7_doPiecesMeet_8 : decode cX7_doPiecesMeet 8 = .ok (.aload_n 0, 1) := by decide +kernel
theorem dX7_doPiecesMeet_9 : decode cX7_doPiecesMeet 9 = .ok (.iload_n 2, 1) := by decide +kernel
theorem dX7_doPiecesMeet_10 : decode cX7_doPiecesMeet 10 = .ok (.invokevirtual 40, 3) := by decide +kernel
theorem dX7_doPiecesMeet_13 : decode cX7_doPiecesMeet 13 = .ok (.ifCond .eq 49, 3) := by decide +kernel
theorem dX7_doPiecesMeet_16 : decode cX7_doPiecesMeet 16 = .ok (.aload_n 0, 1) := by decide +kernel
theorem dX7_doPiecesMeet_17 : decode cX7_doPiecesMeet 17 = .ok (.getfield 15, 3) := by decide +kernel
theorem dX7_doPiecesMeet_20 : decode cX7_doPiecesMeet 20 = .ok (.iload_n 1, 1) := by decide +kernel
theorem dX7_doPiecesMeet_21 : decode cX7_doPiecesMeet 21 = .ok (.iaload, 1) := by decide +kernel
theorem dX7_doPiecesMeet_22 : decode cX7_doPiecesMeet 22 = .ok (.aload_n 0, 1) := by decide +kernel
theorem dX7_doPiecesMeet_23 : decode cX7_doPiecesMeet 23 = .ok (.getfield 21, 3) := by decide +kernel
theorem dX7_doPiecesMeet_26 : decode cX7_doPiecesMeet 26 = .ok (.iload_n 1, 1) := by decide +kernel
theorem dX7_doPiecesMeet_27 : decode cX7_doPiecesMeet 27 = .ok (.iaload, 1) := by decide +kernel
theorem dX7_doPiecesMeet_28 : decode cX7_doPiecesMeet 28 = .ok (.isub, 1) := by decide +kernel
theorem dX7_doPiecesMeet_29 : decode cX7_doPiecesMeet 29 = .ok (.aload_n 0, 1) := by decide +kernel
theorem dX7_doPiecesMeet_30 : decode cX7_doPiecesMeet 30 = .ok (.iload_n 2, 1) := by decide +kernel
theorem dX7_doPiecesMeet_31 : decode cX7_doPiecesMeet 31 = .ok (.invokevirtual 62, 3) := by decide +kernel
theorem dX7_doPiecesMeet_34 : decode cX7_doPiecesMeet 34 = .ok (.if_icmp .ge 28, 3) := by decide +kernel
theorem dX7_doPiecesMeet_37 : decode cX7_doPiecesMeet 37 = .ok (.aload_n 0, 1) := by decide +kernel
theorem dX7_doPiecesMeet_38 : decode cX7_doPiecesMeet 38 = .ok (.getfield 15, 3) := by decide +kernel
theorem dX7_doPiecesMeet_41 : decode cX7_doPiecesMeet 41 = .ok (.iload_n 2, 1) := by decide +kernel
theorem dX7_doPiecesMeet_42 : decode cX7_doPiecesMeet 42 = .ok (.iaload, 1) := by decide +kernel
theorem dX7_doPiecesMeet_43 : decode cX7_doPiecesMeet 43 = .ok (.aload_n 0, 1) := by decide +kernel
theorem dX7_doPiecesMeet_44 : decode cX7_doPiecesMeet 44 = .ok (.getfield 21, 3) := by decide +kernel
theorem dX7_doPiecesMeet_47 : decode cX7_doPiecesMeet 47 = .ok (.iload_n 2, 1) := by decide +kernel
theorem dX7_doPiecesMeet_48 : decode cX7_doPiecesMeet 48 = .ok (.iaload, 1) := by decide +kernel
theorem dX7_doPiecesMeet_49 : decode cX7_doPiecesMeet 49 = .ok (.isub, 1) := by decide +kernel
theorem dX7_doPiecesMeet_50 : decode cX7_doPiecesMeet 50 = .ok (.aload_n 0, 1) := by decide +kernel
theorem dX7_doPiecesMeet_51 : decode cX7_doPiecesMeet 51 = .ok (.iload_n 1, 1) := by decide +kernel
theorem dX7_doPiecesMeet_52 : decode cX7_doPiecesMeet 52 = .ok (.invokevirtual 62, 3) := by decide +kernel
theorem dX7_doPiecesMeet_55 : decode cX7_doPiecesMeet 55 = .ok (.if_icmp .ge 7, 3) := by decide +kernel
theorem dX7_doPiecesMeet_58 : decode cX7_doPiecesMeet 58 = .ok (.iconst 1, 1) := by decide +kernel
theorem dX7_doPiecesMeet_59 : decode cX7_doPiecesMeet 59 = .ok (.goto 4, 3) := by decide +kernel
theorem dX7_doPiecesMeet_62 : decode cX7_doPiecesMeet 62 = .ok (.iconst 0, 1) := by decide +kernel
theorem dX7_doPiecesMeet_63 : decode cX7_doPiecesMeet 63 = .ok (.ireturn, 1) := by decide +kernel
set_option maxRecDepth 20000 in
theorem ggX7_areFoes_X7_doPiecesMeet : GoodIn wsX7_areFoes wsX7_doPiecesMeet := goodIn_r _ [7, 8, 9, 10, 11, 12, 6, 13, 2, 14, 15, 16, 17, 18, 19, 20, 21, 22, 23, 24, 25, 26] (by decide +kernel) (by decide +kernel)
set_option maxRecDepth 20000 in
theorem gX7_areFoes_X7_doPiecesMeet : GoodIn wsX7_areFoes (wsV RX7 65 RX7 yX7_doPiecesMeet wsX7_doPiecesMeet) := goodIn_app (goodIn_of _ (by decide +kernel)) ggX7_areFoes_X7_doPiecesMeet
theorem dX7_areFoes_0 : decode cX7_areFoes 0 = .ok (.aload_n 0, 1) := by decide +kernel
theorem dX7_areFoes_1 : decode cX7_areFoes 1 = .ok (.iload_n 1, 1) := by decide +kernel
theorem dX7_areFoes_2 : decode cX7_areFoes 2 = .ok (.iload_n 2, 1) := by decide +kernel
theorem dX7_areFoes_3 : decode cX7_areFoes 3 = .ok (.invokevirtual 65, 3) := by decide +kernel
theorem dX7_areFoes_6 : decode cX7_areFoes 6 = .ok (.ifCond .eq 38, 3) := by decide +kernel
theorem dX7_areFoes_9 : decode cX7_areFoes 9 = .ok (.aload_n 0, 1) := by decide +kernel
theorem dX7_areFoes_10 : decode cX7_areFoes 10 = .ok (.getfield 9, 3) := by decide +kernel
theorem dX7_areFoes_13 : decode cX7_areFoes 13 = .ok (.iload_n 1, 1) := by decide +kernel
theorem dX7_areFoes_14 : decode cX7_areFoes 14 = .ok (.iaload, 1) := by decide +kernel
theorem dX7_areFoes_15 : decode cX7_areFoes 15 = .ok (.aload_n 0, 1) := by decide +kernel
theorem dX7_areFoes_16 : decode cX7_areFoes 16 = .ok (.getfield 9, 3) := by decide +kernel
theorem dX7_areFoes_19 : decode cX7_areFoes 19 = .ok (.iload_n 2, 1) := by decide +kernel
theorem dX7_areFoes_20 : decode cX7_areFoes 20 = .ok (.iaload, 1) := by decide +kernel
theorem dX7_areFoes_21 : decode cX7_areFoes 21 = .ok (.if_icmp .eq 19, 3) := by decide +kernel
theorem dX7_areFoes_24 : decode cX7_areFoes 24 = .ok (.aload_n 0, 1) := by decide +kernel
theorem dX7_areFoes_25 : decode cX7_areFoes 25 = .ok (.getfield 24, 3) := by decide +kernel
theorem dX7_areFoes_28 : decode cX7_areFoes 28 = .ok (.iload_n 1, 1) := by decide +kernel
theorem dX7_areFoes_29 : decode cX7_areFoes 29 = .ok (.iaload, 1) := by decide +kernel
theorem dX7_areFoes_30 : decode cX7_areFoes 30 = .ok (.aload_n 0, 1) := by decide +kernel
theorem dX7_areFoes_31 : decode cX7_areFoes 31 = .ok (.getfield 24, 3) := by decide +kernel
theorem dX7_areFoes_34 : decode cX7_areFoes 34 = .ok (.iload_n 2, 1) := by decide +kernel
theorem dX7_areFoes_35 : decode cX7_areFoes 35 = .ok (.iaload, 1) := by decide +kernel
theorem dX7_areFoes_36 : decode cX7_areFoes 36 = .ok (.iand, 1) := by decide +kernel
theorem dX7_areFoes_37 : decode cX7_areFoes 37 = .ok (.ifCond .eq 7, 3) := by decide +kernel
theorem dX7_areFoes_40 : decode cX7_areFoes 40 = .ok (.iconst 1, 1) := by decide +kernel
theorem dX7_areFoes_41 : decode cX7_areFoes 41 = .ok (.goto 4, 3) := by decide +kernel
theorem dX7_areFoes_44 : decode cX7_areFoes 44 = .ok (.iconst 0, 1) := by decide +kernel
theorem dX7_areFoes_45 : decode cX7_areFoes 45 = .ok (.ireturn, 1) := by decide +kernel
set_option maxRecDepth 20000 in
theorem ggX7_countFoes_X7_areFoes : GoodIn wsX7_countFoes wsX7_areFoes := goodIn_r _ [5, 6, 7, 8, 9, 10, 4, 11, 12, 13, 14, 15, 16, 17, 18, 19, 20, 21, 22, 23, 24, 25, 26, 27, 28, 29, 30] (by decide +kernel) (by decide +kernel)
set_option maxRecDepth 20000 in
theorem gX7_countFoes_X7_areFoes : GoodIn wsX7_countFoes (wsV RX7 69 RX7 yX7_areFoes wsX7_areFoes) := goodIn_app (goodIn_of _ (by decide +kernel)) ggX7_countFoes_X7_areFoes
theorem dX7_countFoes_0 : decode cX7_countFoes 0 = .ok (.iconst 0, 1) := by decide +kernel
theorem dX7_countFoes_1 : decode cX7_countFoes 1 = .ok (.istore_n 1, 1) := by decide +kernel
theorem dX7_countFoes_2 : decode cX7_countFoes 2 = .ok (.iconst 0, 1) := by decide +kernel
theorem dX7_countFoes_3 : decode cX7_countFoes 3 = .ok (.istore_n 2, 1) := by decide +kernel
theorem dX7_countFoes_4 : decode cX7_countFoes 4 = .ok (.iload_n 2, 1) := by decide +kernel
theorem dX7_countFoes_5 : decode cX7_countFoes 5 = .ok (.bipush 16, 2) := by decide +kernel
theorem dX7_countFoes_7 : decode cX7_countFoes 7 = .ok (.if_icmp .ge 37, 3) := by decide +kernel
theorem dX7_countFoes_10 : decode cX7_countFoes 10 = .ok (.iload_n 2, 1) := by decide +kernel
theorem dX7_countFoes_11 : decode cX7_countFoes 11 = .ok (.iconst 1, 1) := by decide +kernel
theorem dX7_countFoes_12 : decode cX7_countFoes 12 = .ok (.iadd, 1) := by decide +kernel
theorem dX7_countFoes_13 : decode cX7_countFoes 13 = .ok (.istore_n 3, 1) := by decide +kernel
theorem dX7_countFoes_14 : decode cX7_countFoes 14 = .ok (.iload_n 3, 1) := by decide +kernel
theorem dX7_countFoes_15 : decode cX7_countFoes 15 = .ok (.bipush 16, 2) := by decide +kernel
theorem dX7_countFoes_17 : decode cX7_countFoes 17 = .ok (.if_icmp .ge 21, 3) := by decide +kernel
theorem dX7_countFoes_20 : decode cX7_countFoes 20 = .ok (.aload_n 0, 1) := by decide +kernel
theorem dX7_countFoes_21 : decode cX7_countFoes 21 = .ok (.iload_n 2, 1) := by decide +kernel
theorem dX7_countFoes_22 : decode cX7_countFoes 22 = .ok (.iload_n 3, 1) := by decide +kernel
theorem dX7_countFoes_23 : decode cX7_countFoes 23 = .ok (.invokevirtual 69, 3) := by decide +kernel
theorem dX7_countFoes_26 : decode cX7_countFoes 26 = .ok (.ifCond .eq 6, 3) := by decide +kernel
theorem dX7_countFoes_29 : decode cX7_countFoes 29 = .ok (.iinc 1 1, 3) := by decide +kernel
theorem dX7_countFoes_32 : decode cX7_countFoes 32 = .ok (.iinc 3 1, 3) := by decide +kernel
theorem dX7_countFoes_35 : decode cX7_countFoes 35 = .ok (.goto (-21), 3) := by decide +kernel
theorem dX7_countFoes_38 : decode cX7_countFoes 38 = .ok (.iinc 2 1, 3) := by decide +kernel
theorem dX7_countFoes_41 : decode cX7_countFoes 41 = .ok (.goto (-37), 3) := by decide +kernel
theorem dX7_countFoes_44 : decode cX7_countFoes 44 = .ok (.iload_n 1, 1) := by decide +kernel
theorem dX7_countFoes_45 : decode cX7_countFoes 45 = .ok (.ireturn, 1) := by decide +kernel
set_option maxRecDepth 20000 in
theorem ggX7_lineup_X7_lookAtAll : GoodIn wsX7_lineup wsX7_lookAtAll := goodIn_r _ [8, 2, 1, 9, 10, 11, 7, 12, 13, 14, 15, 16, 17, 18, 19, 20, 21, 22, 23, 24, 25, 26, 27, 28, 29, 30, 31, 32, 33, 34, 35, 36, 37, 38, 46, 47, 48, 49, 50, 51, 52, 53] (by decide +kernel) (by decide +kernel)
set_option maxRecDepth 20000 in
theorem gX7_lineup_X7_lookAtAll : GoodIn wsX7_lineup (wsV RX7 72 RX7 yX7_lookAtAll wsX7_lookAtAll) := goodIn_app (goodIn_of _ (by decide +kernel)) ggX7_lineup_X7_lookAtAll
set_option maxRecDepth 20000 in
theorem ggX7_lineup_X7_numbers : GoodIn wsX7_lineup wsX7_numbers := goodIn_r _ [42, 18, 19, 20, 7, 21, 22, 46, 47, 48, 49, 50, 51, 52, 53] (by decide +kernel) (by decide +kernel)
set_option maxRecDepth 20000 in
theorem gX7_lineup_X7_numbers : GoodIn wsX7_lineup (wsV RX7 75 RX7 yX7_numbers wsX7_numbers) := goodIn_app (goodIn_of _ (by decide +kernel)) ggX7_lineup_X7_numbers
set_option maxRecDepth 20000 in
theorem ggX7_lineup_X7_bestAmong : GoodIn wsX7_lineup wsX7_bestAmong := goodIn_r _ [45, 43, 44, 7] (by decide +kernel) (by decide +kernel)
set_option maxRecDepth 20000 in
theorem gX7_lineup_X7_bestAmong : GoodIn wsX7_lineup (va_wsS RX7 79 yX7_bestAmong wsX7_bestAmong) := goodIn_app (goodIn_of _ (by decide +kernel)) ggX7_lineup_X7_bestAmong
theorem dX7_lineup_0 : decode cX7_lineup 0 = .ok (.aload_n 0, 1) := by decide +kernel
theorem dX7_lineup_1 : decode cX7_lineup 1 = .ok (.invokevirtual 72, 3) := by decide +kernel
theorem dX7_lineup_4 : decode cX7_lineup 4 = .ok (.aload_n 0, 1) := by decide +kernel
theorem dX7_lineup_5 : decode cX7_lineup 5 = .ok (.getfield 30, 3) := by decide +kernel
theorem dX7_lineup_8 : decode cX7_lineup 8 = .ok (.aload_n 0, 1) := by decide +kernel
theorem dX7_lineup_9 : decode cX7_lineup 9 = .ok (.getfield 33, 3) := by decide +kernel
theorem dX7_lineup_12 : decode cX7_lineup 12 = .ok (.aload_n 0, 1) := by decide +kernel
theorem dX7_lineup_13 : decode cX7_lineup 13 = .ok (.invokevirtual 75, 3) := by decide +kernel
theorem dX7_lineup_16 : decode cX7_lineup 16 = .ok (.iconst 0, 1) := by decide +kernel
theorem dX7_lineup_17 : decode cX7_lineup 17 = .ok (.invokestatic 79, 3) := by decide +kernel
theorem dX7_lineup_20 : decode cX7_lineup 20 = .ok (.ldc 83, 2) := by decide +kernel
theorem dX7_lineup_22 : decode cX7_lineup 22 = .ok (.iand, 1) := by decide +kernel
theorem dX7_lineup_23 : decode cX7_lineup 23 = .ok (.ireturn, 1) := by decide +kernel
set_option maxRecDepth 20000 in
theorem ggX7_bound_X7_lookAtAll : GoodIn wsX7_bound wsX7_lookAtAll := goodIn_r _ [7, 2, 1, 8, 9, 10, 6, 11, 12, 13, 14, 15, 16, 17, 18, 19, 20, 21, 22, 23, 24, 25, 26, 27, 28, 29, 30, 31, 32, 33, 34, 35, 36, 37, 49, 50, 51, 52, 53, 54, 55, 56] (by decide +kernel) (by decide +kernel)
set_option maxRecDepth 20000 in
theorem gX7_bound_X7_lookAtAll : GoodIn wsX7_bound (wsV RX7 72 RX7 yX7_lookAtAll wsX7_lookAtAll) := goodIn_app (goodIn_of _ (by decide +kernel)) ggX7_bound_X7_lookAtAll
set_option maxRecDepth 20000 in
theorem ggX7_bound_X7_numbersOn : GoodIn wsX7_bound wsX7_numbersOn := goodIn_r _ [41, 42, 43, 44, 6, 45, 26, 17, 18, 19, 20, 21, 49, 50, 51, 52, 53, 54, 55, 56] (by decide +kernel) (by decide +kernel)
set_option maxRecDepth 20000 in
theorem gX7_bound_X7_numbersOn : GoodIn wsX7_bound (wsV RX7 84 RX7 yX7_numbersOn wsX7_numbersOn) := goodIn_app (goodIn_of _ (by decide +kernel)) ggX7_bound_X7_numbersOn
set_option maxRecDepth 20000 in
theorem ggX7_bound_X7_bestAmong : GoodIn wsX7_bound wsX7_bestAmong := goodIn_r _ [48, 46, 47, 6] (by decide +kernel) (by decide +kernel)
set_option maxRecDepth 20000 in
theorem gX7_bound_X7_bestAmong : GoodIn wsX7_bound (va_wsS RX7 79 yX7_bestAmong wsX7_bestAmong) := goodIn_app (goodIn_of _ (by decide +kernel)) ggX7_bound_X7_bestAmong
theorem dX7_bound_0 : decode cX7_bound 0 = .ok (.aload_n 0, 1) := by decide +kernel
theorem dX7_bound_1 : decode cX7_bound 1 = .ok (.invokevirtual 72, 3) := by decide +kernel
theorem dX7_bound_4 : decode cX7_bound 4 = .ok (.iconst 0, 1) := by decide +kernel
theorem dX7_bound_5 : decode cX7_bound 5 = .ok (.istore_n 1, 1) := by decide +kernel
theorem dX7_bound_6 : decode cX7_bound 6 = .ok (.iconst 0, 1) := by decide +kernel
theorem dX7_bound_7 : decode cX7_bound 7 = .ok (.istore_n 2, 1) := by decide +kernel
theorem dX7_bound_8 : decode cX7_bound 8 = .ok (.iload_n 2, 1) := by decide +kernel
theorem dX7_bound_9 : decode cX7_bound 9 = .ok (.iconst 4, 1) := by decide +kernel
theorem dX7_bound_10 : decode cX7_bound 10 = .ok (.if_icmp .ge 32, 3) := by decide +kernel
theorem dX7_bound_13 : decode cX7_bound 13 = .ok (.iload_n 1, 1) := by decide +kernel
theorem dX7_bound_14 : decode cX7_bound 14 = .ok (.aload_n 0, 1) := by decide +kernel
theorem dX7_bound_15 : decode cX7_bound 15 = .ok (.getfield 30, 3) := by decide +kernel
theorem dX7_bound_18 : decode cX7_bound 18 = .ok (.aload_n 0, 1) := by decide +kernel
theorem dX7_bound_19 : decode cX7_bound 19 = .ok (.getfield 33, 3) := by decide +kernel
theorem dX7_bound_22 : decode cX7_bound 22 = .ok (.aload_n 0, 1) := by decide +kernel
theorem dX7_bound_23 : decode cX7_bound 23 = .ok (.iload_n 2, 1) := by decide +kernel
theorem dX7_bound_24 : decode cX7_bound 24 = .ok (.invokevirtual 84, 3) := by decide +kernel
theorem dX7_bound_27 : decode cX7_bound 27 = .ok (.iconst 0, 1) := by decide +kernel
theorem dX7_bound_28 : decode cX7_bound 28 = .ok (.invokestatic 79, 3) := by decide +kernel
theorem dX7_bound_31 : decode cX7_bound 31 = .ok (.bipush 16, 2) := by decide +kernel
theorem dX7_bound_33 : decode cX7_bound 33 = .ok (.ishr, 1) := by decide +kernel
theorem dX7_bound_34 : decode cX7_bound 34 = .ok (.iadd, 1) := by decide +kernel
theorem dX7_bound_35 : decode cX7_bound 35 = .ok (.istore_n 1, 1) := by decide +kernel
theorem dX7_bound_36 : decode cX7_bound 36 = .ok (.iinc 2 1, 3) := by decide +kernel
theorem dX7_bound_39 : decode cX7_bound 39 = .ok (.goto (-31), 3) := by decide +kernel
theorem dX7_bound_42 : decode cX7_bound 42 = .ok (.iload_n 1, 1) := by decide +kernel
theorem dX7_bound_43 : decode cX7_bound 43 = .ok (.ireturn, 1) := by decide +kernel
set_option maxRecDepth 20000 in
theorem ggX7_lookAtAll_X7_pleasing : GoodIn wsX7_lookAtAll wsX7_pleasing := goodIn_r _ [7, 8, 9, 10, 6, 11, 12, 13, 14, 15, 16, 17, 34, 35, 36, 37, 38, 39, 40, 41] (by decide +kernel) (by decide +kernel)
set_option maxRecDepth 20000 in
theorem gX7_lookAtAll_X7_pleasing : GoodIn wsX7_lookAtAll (wsV RX7 52 RX7 yX7_pleasing wsX7_pleasing) := goodIn_app (goodIn_of _ (by decide +kernel)) ggX7_lookAtAll_X7_pleasing
set_option maxRecDepth 20000 in
theorem ggX7_lookAtAll_X7_areFoes : GoodIn wsX7_lookAtAll wsX7_areFoes := goodIn_r _ [21, 22, 17, 23, 24, 25, 6, 26, 27, 28, 13, 14, 15, 16, 29, 30, 31, 32, 33, 34, 35, 36, 37, 38, 39, 40, 41] (by decide +kernel) (by decide +kernel)
set_option maxRecDepth 20000 in
theorem gX7_lookAtAll_X7_areFoes : GoodIn wsX7_lookAtAll (wsV RX7 69 RX7 yX7_areFoes wsX7_areFoes) := goodIn_app (goodIn_of _ (by decide +kernel)) ggX7_lookAtAll_X7_areFoes
theorem dX7_lookAtAll_0 : decode cX7_lookAtAll 0 = .ok (.iconst 0, 1) := by decide +kernel
theorem dX7_lookAtAll_1 : decode cX7_lookAtAll 1 = .ok (.istore_n 1, 1) := by decide +kernel
theorem dX7_lookAtAll_2 : decode cX7_lookAtAll 2 = .ok (.iload_n 1, 1) := by decide +kernel
theorem dX7_lookAtAll_3 : decode cX7_lookAtAll 3 = .ok (.bipush 16, 2) := by decide +kernel
theorem dX7_lookAtAll_5 : decode cX7_lookAtAll 5 = .ok (.if_icmp .ge 67, 3) := by decide +kernel
theorem dX7_lookAtAll_8 : decode cX7_lookAtAll 8 = .ok (.aload_n 0, 1) := by decide +kernel
theorem dX7_lookAtAll_9 : decode cX7_lookAtAll 9 = .ok (.getfield 33, 3) := by decide +kernel
theorem dX7_lookAtAll_12 : decode cX7_lookAtAll 12 = .ok (.iload_n 1, 1) := by decide +kernel
theorem dX7_lookAtAll_13 : decode cX7_lookAtAll 13 = .ok (.aload_n 0, 1) := by decide +kernel
theorem dX7_lookAtAll_14 : decode cX7_lookAtAll 14 = .ok (.iload_n 1, 1) := by decide +kernel
theorem dX7_lookAtAll_15 : decode cX7_lookAtAll 15 = .ok (.invokevirtual 52, 3) := by decide +kernel
theorem dX7_lookAtAll_18 : decode cX7_lookAtAll 18 = .ok (.iastore, 1) := by decide +kernel
theorem dX7_lookAtAll_19 : decode cX7_lookAtAll 19 = .ok (.aload_n 0, 1) := by decide +kernel
theorem dX7_lookAtAll_20 : decode cX7_lookAtAll 20 = .ok (.getfield 30, 3) := by decide +kernel
theorem dX7_lookAtAll_23 : decode cX7_lookAtAll 23 = .ok (.iload_n 1, 1) := by decide +kernel
theorem dX7_lookAtAll_24 : decode cX7_lookAtAll 24 = .ok (.iconst 0, 1) := by decide +kernel
theorem dX7_lookAtAll_25 : decode cX7_lookAtAll 25 = .ok (.iastore, 1) := by decide +kernel
theorem dX7_lookAtAll_26 : decode cX7_lookAtAll 26 = .ok (.iconst 0, 1) := by decide +kernel
theorem dX7_lookAtAll_27 : decode cX7_lookAtAll 27 = .ok (.istore_n 2, 1) := by decide +kernel
theorem dX7_lookAtAll_28 : decode cX7_lookAtAll 28 = .ok (.iload_n 2, 1) := by decide +kernel
theorem dX7_lookAtAll_29 : decode cX7_lookAtAll 29 = .ok (.bipush 16, 2) := by decide +kernel
theorem dX7_lookAtAll_31 : decode cX7_lookAtAll 31 = .ok (.if_icmp .ge 35, 3) := by decide +kernel
theorem dX7_lookAtAll_34 : decode cX7_lookAtAll 34 = .ok (.iload_n 2, 1) := by decide +kernel
theorem dX7_lookAtAll_35 : decode cX7_lookAtAll 35 = .ok (.iload_n 1, 1) := by decide +kernel
theorem dX7_lookAtAll_36 : decode cX7_lookAtAll 36 = .ok (.if_icmp .eq 24, 3) := by decide +kernel
theorem dX7_lookAtAll_39 : decode cX7_lookAtAll 39 = .ok (.aload_n 0, 1) := by decide +kernel
theorem dX7_lookAtAll_40 : decode cX7_lookAtAll 40 = .ok (.iload_n 1, 1) := by decide +kernel
theorem dX7_lookAtAll_41 : decode cX7_lookAtAll 41 = .ok (.iload_n 2, 1) := by decide +kernel
theorem dX7_lookAtAll_42 : decode cX7_lookAtAll 42 = .ok (.invokevirtual 69, 3) := by decide +kernel
theorem dX7_lookAtAll_45 : decode cX7_lookAtAll 45 = .ok (.ifCond .eq 15, 3) := by decide +kernel
theorem dX7_lookAtAll_48 : decode cX7_lookAtAll 48 = .ok (.aload_n 0, 1) := by decide +kernel
theorem dX7_lookAtAll_49 : decode cX7_lookAtAll 49 = .ok (.getfield 30, 3) := by decide +kernel
theorem dX7_lookAtAll_52 : decode cX7_lookAtAll 52 = .ok (.iload_n 1, 1) := by decide +kernel
theorem dX7_lookAtAll_53 : decode cX7_lookAtAll 53 = .ok (.dup2, 1) := by decide +kernel
theorem dX7_lookAtAll_54 : decode cX7_lookAtAll 54 = .ok (.iaload, 1) := by decide +kernel
theorem dX7_lookAtAll_55 : decode cX7_lookAtAll 55 = .ok (.iconst 1, 1) := by decide +kernel
theorem dX7_lookAtAll_56 : decode cX7_lookAtAll 56 = .ok (.iload_n 2, 1) := by decide +kernel
theorem dX7_lookAtAll_57 : decode cX7_lookAtAll 57 = .ok (.ishl, 1) := by decide +kernel
theorem dX7_lookAtAll_58 : decode cX7_lookAtAll 58 = .ok (.ior, 1) := by decide +kernel
theorem dX7_lookAtAll_59 : decode cX7_lookAtAll 59 = .ok (.iastore, 1) := by decide +kernel
theorem dX7_lookAtAll_60 : decode cX7_lookAtAll 60 = .ok (.iinc 2 1, 3) := by decide +kernel
theorem dX7_lookAtAll_63 : decode cX7_lookAtAll 63 = .ok (.goto (-35), 3) := by decide +kernel
theorem dX7_lookAtAll_66 : decode cX7_lookAtAll 66 = .ok (.iinc 1 1, 3) := by decide +kernel
theorem dX7_lookAtAll_69 : decode cX7_lookAtAll 69 = .ok (.goto (-67), 3) := by decide +kernel
theorem dX7_lookAtAll_72 : decode cX7_lookAtAll 72 = .ok (.return_, 1) := by decide +kernel
set_option maxRecDepth 20000 in
theorem ggX7_bestAmong_X7_bestAmong : GoodIn wsX7_bestAmong wsX7_bestAmong := goodIn_r _ [0, 1, 2, 3] (by decide +kernel) (by decide +kernel)
set_option maxRecDepth 20000 in
theorem gX7_bestAmong_X7_bestAmong : GoodIn wsX7_bestAmong (va_wsS RX7 79 yX7_bestAmong wsX7_bestAmong) := goodIn_app (goodIn_of _ (by decide +kernel)) ggX7_bestAmong_X7_bestAmong
theorem dX7_bestAmong_0 : decode cX7_bestAmong 0 = .ok (.iload_n 3, 1) := by decide +kernel
theorem dX7_bestAmong_1 : decode cX7_bestAmong 1 = .ok (.ifCond .lt 15, 3) := by decide +kernel
theorem dX7_bestAmong_4 : decode cX7_bestAmong 4 = .ok (.iload_n 3, 1) := by decide +kernel
theorem dX7_bestAmong_5 : decode cX7_bestAmong 5 = .ok (.aload_n 0, 1) := by decide +kernel
theorem dX7_bestAmong_6 : decode cX7_bestAmong 6 = .ok (.arraylength, 1) := by decide +kernel
theorem dX7_bestAmong_7 : decode cX7_bestAmong 7 = .ok (.if_icmp .ge 9, 3) := by decide +kernel
theorem dX7_bestAmong_10 : decode cX7_bestAmong 10 = .ok (.iload_n 3, 1) := by decide +kernel
theorem dX7_bestAmong_11 : decode cX7_bestAmong 11 = .ok (.aload_n 1, 1) := by decide +kernel
theorem dX7_bestAmong_12 : decode cX7_bestAmong 12 = .ok (.arraylength, 1) := by decide +kernel
theorem dX7_bestAmong_13 : decode cX7_bestAmong 13 = .ok (.if_icmp .lt 5, 3) := by decide +kernel
theorem dX7_bestAmong_16 : decode cX7_bestAmong 16 = .ok (.iconst 0, 1) := by decide +kernel
theorem dX7_bestAmong_17 : decode cX7_bestAmong 17 = .ok (.ireturn, 1) := by decide +kernel
theorem dX7_bestAmong_18 : decode cX7_bestAmong 18 = .ok (.iload_n 2, 1) := by decide +kernel
theorem dX7_bestAmong_19 : decode cX7_bestAmong 19 = .ok (.iload_n 3, 1) := by decide +kernel
theorem dX7_bestAmong_20 : decode cX7_bestAmong 20 = .ok (.ishr, 1) := by decide +kernel
theorem dX7_bestAmong_21 : decode cX7_bestAmong 21 = .ok (.iconst 1, 1) := by decide +kernel
theorem dX7_bestAmong_22 : decode cX7_bestAmong 22 = .ok (.iand, 1) := by decide +kernel
theorem dX7_bestAmong_23 : decode cX7_bestAmong 23 = .ok (.ifCond .ne 13, 3) := by decide +kernel
theorem dX7_bestAmong_26 : decode cX7_bestAmong 26 = .ok (.aload_n 0, 1) := by decide +kernel
theorem dX7_bestAmong_27 : decode cX7_bestAmong 27 = .ok (.aload_n 1, 1) := by decide +kernel
theorem dX7_bestAmong_28 : decode cX7_bestAmong 28 = .ok (.iload_n 2, 1) := by decide +kernel
theorem dX7_bestAmong_29 : decode cX7_bestAmong 29 = .ok (.iload_n 3, 1) := by decide +kernel
theorem dX7_bestAmong_30 : decode cX7_bestAmong 30 = .ok (.iconst 1, 1) := by decide +kernel
theorem dX7_bestAmong_31 : decode cX7_bestAmong 31 = .ok (.iadd, 1) := by decide +kernel
theorem dX7_bestAmong_32 : decode cX7_bestAmong 32 = .ok (.invokestatic 79, 3) := by decide +kernel
theorem dX7_bestAmong_35 : decode cX7_bestAmong 35 = .ok (.ireturn, 1) := by decide +kernel
theorem dX7_bestAmong_36 : decode cX7_bestAmong 36 = .ok (.aload_n 1, 1) := by decide +kernel
theorem dX7_bestAmong_37 : decode cX7_bestAmong 37 = .ok (.iload_n 3, 1) := by decide +kernel
theorem dX7_bestAmong_38 : decode cX7_bestAmong 38 = .ok (.iaload, 1) := by decide +kernel
theorem dX7_bestAmong_39 : decode cX7_bestAmong 39 = .ok (.bipush 16, 2) := by decide +kernel
theorem dX7_bestAmong_41 : decode cX7_bestAmong 41 = .ok (.ishl, 1) := by decide +kernel
theorem dX7_bestAmong_42 : decode cX7_bestAmong 42 = .ok (.iconst 1, 1) := by decide +kernel
theorem dX7_bestAmong_43 : decode cX7_bestAmong 43 = .ok (.iload_n 3, 1) := by decide +kernel
theorem dX7_bestAmong_44 : decode cX7_bestAmong 44 = .ok (.ishl, 1) := by decide +kernel
theorem dX7_bestAmong_45 : decode cX7_bestAmong 45 = .ok (.iadd, 1) := by decide +kernel
theorem dX7_bestAmong_46 : decode cX7_bestAmong 46 = .ok (.istore 4, 2) := by decide +kernel
theorem dX7_bestAmong_48 : decode cX7_bestAmong 48 = .ok (.iload 4, 2) := by decide +kernel
theorem dX7_bestAmong_50 : decode cX7_bestAmong 50 = .ok (.aload_n 0, 1) := by decide +kernel
theorem dX7_bestAmong_51 : decode cX7_bestAmong 51 = .ok (.aload_n 1, 1) := by decide +kernel
theorem dX7_bestAmong_52 : decode cX7_bestAmong 52 = .ok (.iload_n 2, 1) := by decide +kernel
theorem dX7_bestAmong_53 : decode cX7_bestAmong 53 = .ok (.aload_n 0, 1) := by decide +kernel
theorem dX7_bestAmong_54 : decode cX7_bestAmong 54 = .ok (.iload_n 3, 1) := by decide +kernel
theorem dX7_bestAmong_55 : decode cX7_bestAmong 55 = .ok (.iaload, 1) := by decide +kernel
theorem dX7_bestAmong_56 : decode cX7_bestAmong 56 = .ok (.iconst (-1), 1) := by decide +kernel
theorem dX7_bestAmong_57 : decode cX7_bestAmong 57 = .ok (.ixor, 1) := by decide +kernel
theorem dX7_bestAmong_58 : decode cX7_bestAmong 58 = .ok (.iand, 1) := by decide +kernel
theorem dX7_bestAmong_59 : decode cX7_bestAmong 59 = .ok (.iload_n 3, 1) := by decide +kernel
theorem dX7_bestAmong_60 : decode cX7_bestAmong 60 = .ok (.iconst 1, 1) := by decide +kernel
theorem dX7_bestAmong_61 : decode cX7_bestAmong 61 = .ok (.iadd, 1) := by decide +kernel
theorem dX7_bestAmong_62 : decode cX7_bestAmong 62 = .ok (.invokestatic 79, 3) := by decide +kernel
theorem dX7_bestAmong_65 : decode cX7_bestAmong 65 = .ok (.iadd, 1) := by decide +kernel
theorem dX7_bestAmong_66 : decode cX7_bestAmong 66 = .ok (.istore 5, 2) := by decide +kernel
theorem dX7_bestAmong_68 : decode cX7_bestAmong 68 = .ok (.iload_n 2, 1) := by decide +kernel
theorem dX7_bestAmong_69 : decode cX7_bestAmong 69 = .ok (.aload_n 0, 1) := by decide +kernel
theorem dX7_bestAmong_70 : decode cX7_bestAmong 70 = .ok (.iload_n 3, 1) := by decide +kernel
theorem dX7_bestAmong_71 : decode cX7_bestAmong 71 = .ok (.iaload, 1) := by decide +kernel
theorem dX7_bestAmong_72 : decode cX7_bestAmong 72 = .ok (.iand, 1) := by decide +kernel
theorem dX7_bestAmong_73 : decode cX7_bestAmong 73 = .ok (.ifCond .ne 6, 3) := by decide +kernel
theorem dX7_bestAmong_76 : decode cX7_bestAmong 76 = .ok (.iload 5, 2) := by decide +kernel
theorem dX7_bestAmong_78 : decode cX7_bestAmong 78 = .ok (.ireturn, 1) := by decide +kernel
theorem dX7_bestAmong_79 : decode cX7_bestAmong 79 = .ok (.aload_n 0, 1) := by decide +kernel
theorem dX7_bestAmong_80 : decode cX7_bestAmong 80 = .ok (.aload_n 1, 1) := by decide +kernel
theorem dX7_bestAmong_81 : decode cX7_bestAmong 81 = .ok (.iload_n 2, 1) := by decide +kernel
theorem dX7_bestAmong_82 : decode cX7_bestAmong 82 = .ok (.iconst 1, 1) := by decide +kernel
theorem dX7_bestAmong_83 : decode cX7_bestAmong 83 = .ok (.iload_n 3, 1) := by decide +kernel
theorem dX7_bestAmong_84 : decode cX7_bestAmong 84 = .ok (.ishl, 1) := by decide +kernel
theorem dX7_bestAmong_85 : decode cX7_bestAmong 85 = .ok (.iconst (-1), 1) := by decide +kernel
theorem dX7_bestAmong_86 : decode cX7_bestAmong 86 = .ok (.ixor, 1) := by decide +kernel
theorem dX7_bestAmong_87 : decode cX7_bestAmong 87 = .ok (.iand, 1) := by decide +kernel
theorem dX7_bestAmong_88 : decode cX7_bestAmong 88 = .ok (.iload_n 3, 1) := by decide +kernel
theorem dX7_bestAmong_89 : decode cX7_bestAmong 89 = .ok (.iconst 1, 1) := by decide +kernel
theorem dX7_bestAmong_90 : decode cX7_bestAmong 90 = .ok (.iadd, 1) := by decide +kernel
theorem dX7_bestAmong_91 : decode cX7_bestAmong 91 = .ok (.invokestatic 79, 3) := by decide +kernel
theorem dX7_bestAmong_94 : decode cX7_bestAmong 94 = .ok (.istore 6, 2) := by decide +kernel
theorem dX7_bestAmong_96 : decode cX7_bestAmong 96 = .ok (.iload 5, 2) := by decide +kernel
theorem dX7_bestAmong_98 : decode cX7_bestAmong 98 = .ok (.bipush 16, 2) := by decide +kernel
theorem dX7_bestAmong_100 : decode cX7_bestAmong 100 = .ok (.ishr, 1) := by decide +kernel
theorem dX7_bestAmong_101 : decode cX7_bestAmong 101 = .ok (.iload 6, 2) := by decide +kernel
theorem dX7_bestAmong_103 : decode cX7_bestAmong 103 = .ok (.bipush 16, 2) := by decide +kernel
theorem dX7_bestAmong_105 : decode cX7_bestAmong 105 = .ok (.ishr, 1) := by decide +kernel
theorem dX7_bestAmong_106 : decode cX7_bestAmong 106 = .ok (.if_icmp .lt 8, 3) := by decide +kernel
theorem dX7_bestAmong_109 : decode cX7_bestAmong 109 = .ok (.iload 5, 2) := by decide +kernel
theorem dX7_bestAmong_111 : decode cX7_bestAmong 111 = .ok (.goto 5, 3) := by decide +kernel
theorem dX7_bestAmong_114 : decode cX7_bestAmong 114 = .ok (.iload 6, 2) := by decide +kernel
theorem dX7_bestAmong_116 : decode cX7_bestAmong 116 = .ok (.ireturn, 1) := by decide +kernel
set_option maxRecDepth 20000 in
theorem ggX7_sumUp_X7_has : GoodIn wsX7_sumUp wsX7_has := goodIn_r _ [9, 10, 11, 12, 13, 14, 15, 16, 17, 18] (by decide +kernel) (by decide +kernel)
set_option maxRecDepth 20000 in
theorem gX7_sumUp_X7_has : GoodIn wsX7_sumUp (wsV RX7 40 RX7 yX7_has wsX7_has) := goodIn_app (goodIn_of _ (by decide +kernel)) ggX7_sumUp_X7_has
theorem dX7_sumUp_0 : decode cX7_sumUp 0 = .ok (.lload_n 1, 1) := by decide +kernel
theorem dX7_sumUp_1 : decode cX7_sumUp 1 = .ok (.lstore_n 3, 1) := by decide +kernel
theorem dX7_sumUp_2 : decode cX7_sumUp 2 = .ok (.iconst 0, 1) := by decide +kernel
theorem dX7_sumUp_3 : decode cX7_sumUp 3 = .ok (.istore 5, 2) := by decide +kernel
theorem dX7_sumUp_5 : decode cX7_sumUp 5 = .ok (.iload 5, 2) := by decide +kernel
theorem dX7_sumUp_7 : decode cX7_sumUp 7 = .ok (.bipush 16, 2) := by decide +kernel
theorem dX7_sumUp_9 : decode cX7_sumUp 9 = .ok (.if_icmp .ge 46, 3) := by decide +kernel
theorem dX7_sumUp_12 : decode cX7_sumUp 12 = .ok (.aload_n 0, 1) := by decide +kernel
theorem dX7_sumUp_13 : decode cX7_sumUp 13 = .ok (.iload 5, 2) := by decide +kernel
theorem dX7_sumUp_15 : decode cX7_sumUp 15 = .ok (.invokevirtual 40, 3) := by decide +kernel
theorem dX7_sumUp_18 : decode cX7_sumUp 18 = .ok (.ifCond .eq 31, 3) := by decide +kernel
theorem dX7_sumUp_21 : decode cX7_sumUp 21 = .ok (.ldc2_w 87, 3) := by decide +kernel
theorem dX7_sumUp_24 : decode cX7_sumUp 24 = .ok (.lload_n 3, 1) := by decide +kernel
theorem dX7_sumUp_25 : decode cX7_sumUp 25 = .ok (.lmul, 1) := by decide +kernel
theorem dX7_sumUp_26 : decode cX7_sumUp 26 = .ok (.aload_n 0, 1) := by decide +kernel
theorem dX7_sumUp_27 : decode cX7_sumUp 27 = .ok (.getfield 15, 3) := by decide +kernel
theorem dX7_sumUp_30 : decode cX7_sumUp 30 = .ok (.iload 5, 2) := by decide +kernel
theorem dX7_sumUp_32 : decode cX7_sumUp 32 = .ok (.iaload, 1) := by decide +kernel
theorem dX7_sumUp_33 : decode cX7_sumUp 33 = .ok (.i2l, 1) := by decide +kernel
theorem dX7_sumUp_34 : decode cX7_sumUp 34 = .ok (.ladd, 1) := by decide +kernel
theorem dX7_sumUp_35 : decode cX7_sumUp 35 = .ok (.ldc2_w 89, 3) := by decide +kernel
theorem dX7_sumUp_38 : decode cX7_sumUp 38 = .ok (.aload_n 0, 1) := by decide +kernel
theorem dX7_sumUp_39 : decode cX7_sumUp 39 = .ok (.getfield 9, 3) := by decide +kernel
theorem dX7_sumUp_42 : decode cX7_sumUp 42 = .ok (.iload 5, 2) := by decide +kernel
theorem dX7_sumUp_44 : decode cX7_sumUp 44 = .ok (.iaload, 1) := by decide +kernel
theorem dX7_sumUp_45 : decode cX7_sumUp 45 = .ok (.i2l, 1) := by decide +kernel
theorem dX7_sumUp_46 : decode cX7_sumUp 46 = .ok (.lmul, 1) := by decide +kernel
theorem dX7_sumUp_47 : decode cX7_sumUp 47 = .ok (.ladd, 1) := by decide +kernel
theorem dX7_sumUp_48 : decode cX7_sumUp 48 = .ok (.lstore_n 3, 1) := by decide +kernel
theorem dX7_sumUp_49 : decode cX7_sumUp 49 = .ok (.iinc 5 1, 3) := by decide +kernel
theorem dX7_sumUp_52 : decode cX7_sumUp 52 = .ok (.goto (-47), 3) := by decide +kernel
theorem dX7_sumUp_55 : decode cX7_sumUp 55 = .ok (.lload_n 3, 1) := by decide +kernel
theorem dX7_sumUp_56 : decode cX7_sumUp 56 = .ok (.lreturn, 1) := by decide +kernel
