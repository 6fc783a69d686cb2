set_option maxRecDepth 20000 in
theorem ggX3_init_X11_fillRow : GoodIn wsX3_init wsX11_fillRow := goodIn_r _ [10] (by decide +kernel) (by decide +kernel)
set_option maxRecDepth 20000 in
theorem gX3_init_X11_fillRow_n21 : GoodIn wsX3_init (wsX11_fillRow) := ggX3_init_X11_fillRow
theorem dX3_init_0 : decode cX3_init 0 = .ok (.aload_n 0, 1) := by decide +kernel
theorem dX3_init_1 : decode cX3_init 1 = .ok (.invokespecial 3, 3) := by decide +kernel
theorem dX3_init_4 : decode cX3_init 4 = .ok (.aload_n 0, 1) := by decide +kernel
theorem dX3_init_5 : decode cX3_init 5 = .ok (.iconst 3, 1) := by decide +kernel
theorem dX3_init_6 : decode cX3_init 6 = .ok (.newarray .int, 2) := by decide +kernel
theorem dX3_init_8 : decode cX3_init 8 = .ok (.putfield 9, 3) := by decide +kernel
theorem dX3_init_11 : decode cX3_init 11 = .ok (.aload_n 0, 1) := by decide +kernel
theorem dX3_init_12 : decode cX3_init 12 = .ok (.bipush 12, 2) := by decide +kernel
theorem dX3_init_14 : decode cX3_init 14 = .ok (.newarray .int, 2) := by decide +kernel
theorem dX3_init_16 : decode cX3_init 16 = .ok (.putfield 15, 3) := by decide +kernel
theorem dX3_init_19 : decode cX3_init 19 = .ok (.aload_n 0, 1) := by decide +kernel
theorem dX3_init_20 : decode cX3_init 20 = .ok (.iconst 4, 1) := by decide +kernel
theorem dX3_init_21 : decode cX3_init 21 = .ok (.newarray .int, 2) := by decide +kernel
theorem dX3_init_23 : decode cX3_init 23 = .ok (.putfield 18, 3) := by decide +kernel
theorem dX3_init_26 : decode cX3_init 26 = .ok (.aload_n 0, 1) := by decide +kernel
theorem dX3_init_27 : decode cX3_init 27 = .ok (.getfield 15, 3) := by decide +kernel
theorem dX3_init_30 : decode cX3_init 30 = .ok (.bipush 10, 2) := by decide +kernel
theorem dX3_init_32 : decode cX3_init 32 = .ok (.invokestatic 21, 3) := by decide +kernel
theorem dX3_init_35 : decode cX3_init 35 = .ok (.return_, 1) := by decide +kernel
set_option maxRecDepth 20000 in
theorem ggX3_copyFrom_X11_copyRow : GoodIn wsX3_copyFrom wsX11_copyRow := goodIn_r _ [6, 7, 8, 9, 10, 11, 12, 13, 14] (by decide +kernel) (by decide +kernel)
set_option maxRecDepth 20000 in
theorem gX3_copyFrom_X11_copyRow_n25 : GoodIn wsX3_copyFrom (wsX11_copyRow) := ggX3_copyFrom_X11_copyRow
theorem dX3_copyFrom_0 : decode cX3_copyFrom 0 = .ok (.aload_n 1, 1) := by decide +kernel
theorem dX3_copyFrom_1 : decode cX3_copyFrom 1 = .ok (.getfield 9, 3) := by decide +kernel
theorem dX3_copyFrom_4 : decode cX3_copyFrom 4 = .ok (.aload_n 0, 1) := by decide +kernel
theorem dX3_copyFrom_5 : decode cX3_copyFrom 5 = .ok (.getfield 9, 3) := by decide +kernel
theorem dX3_copyFrom_8 : decode cX3_copyFrom 8 = .ok (.invokestatic 25, 3) := by decide +kernel
theorem dX3_copyFrom_11 : decode cX3_copyFrom 11 = .ok (.aload_n 1, 1) := by decide +kernel
theorem dX3_copyFrom_12 : decode cX3_copyFrom 12 = .ok (.getfield 15, 3) := by decide +kernel
theorem dX3_copyFrom_15 : decode cX3_copyFrom 15 = .ok (.aload_n 0, 1) := by decide +kernel
theorem dX3_copyFrom_16 : decode cX3_copyFrom 16 = .ok (.getfield 15, 3) := by decide +kernel
theorem dX3_copyFrom_19 : decode cX3_copyFrom 19 = .ok (.invokestatic 25, 3) := by decide +kernel
theorem dX3_copyFrom_22 : decode cX3_copyFrom 22 = .ok (.aload_n 1, 1) := by decide +kernel
theorem dX3_copyFrom_23 : decode cX3_copyFrom 23 = .ok (.getfield 18, 3) := by decide +kernel
theorem dX3_copyFrom_26 : decode cX3_copyFrom 26 = .ok (.aload_n 0, 1) := by decide +kernel
theorem dX3_copyFrom_27 : decode cX3_copyFrom 27 = .ok (.getfield 18, 3) := by decide +kernel
theorem dX3_copyFrom_30 : decode cX3_copyFrom 30 = .ok (.invokestatic 25, 3) := by decide +kernel
theorem dX3_copyFrom_33 : decode cX3_copyFrom 33 = .ok (.return_, 1) := by decide +kernel
set_option maxRecDepth 20000 in
theorem ggX3_minutesOut_X11_sumOf : GoodIn wsX3_minutesOut wsX11_sumOf := goodIn_r _ [5] (by decide +kernel) (by decide +kernel)
set_option maxRecDepth 20000 in
theorem gX3_minutesOut_X11_sumOf_n29 : GoodIn wsX3_minutesOut (wsX11_sumOf) := ggX3_minutesOut_X11_sumOf
set_option maxRecDepth 20000 in
theorem ggX3_minutesOut_X3_firstTooFull : GoodIn wsX3_minutesOut wsX3_firstTooFull := goodIn_r _ [10, 11, 12, 13, 9, 14, 1, 15, 16, 17, 18, 2, 19, 20, 21, 22, 23, 24, 25, 26, 27, 28, 29, 30, 31, 32, 33] (by decide +kernel) (by decide +kernel)
set_option maxRecDepth 20000 in
theorem gX3_minutesOut_X3_firstTooFull : GoodIn wsX3_minutesOut (wsV RX3 33 RX3 yX3_firstTooFull wsX3_firstTooFull) := goodIn_app (goodIn_of _ (by decide +kernel)) ggX3_minutesOut_X3_firstTooFull
theorem dX3_minutesOut_0 : decode cX3_minutesOut 0 = .ok (.aload_n 0, 1) := by decide +kernel
theorem dX3_minutesOut_1 : decode cX3_minutesOut 1 = .ok (.getfield 18, 3) := by decide +kernel
theorem dX3_minutesOut_4 : decode cX3_minutesOut 4 = .ok (.invokestatic 29, 3) := by decide +kernel
theorem dX3_minutesOut_7 : decode cX3_minutesOut 7 = .ok (.ifCond .ne 5, 3) := by decide +kernel
theorem dX3_minutesOut_10 : decode cX3_minutesOut 10 = .ok (.iconst 0, 1) := by decide +kernel
theorem dX3_minutesOut_11 : decode cX3_minutesOut 11 = .ok (.ireturn, 1) := by decide +kernel
theorem dX3_minutesOut_12 : decode cX3_minutesOut 12 = .ok (.aload_n 0, 1) := by decide +kernel
theorem dX3_minutesOut_13 : decode cX3_minutesOut 13 = .ok (.getfield 9, 3) := by decide +kernel
theorem dX3_minutesOut_16 : decode cX3_minutesOut 16 = .ok (.invokestatic 29, 3) := by decide +kernel
theorem dX3_minutesOut_19 : decode cX3_minutesOut 19 = .ok (.ifCond .ne 5, 3) := by decide +kernel
theorem dX3_minutesOut_22 : decode cX3_minutesOut 22 = .ok (.iconst (-1), 1) := by decide +kernel
theorem dX3_minutesOut_23 : decode cX3_minutesOut 23 = .ok (.ireturn, 1) := by decide +kernel
theorem dX3_minutesOut_24 : decode cX3_minutesOut 24 = .ok (.iconst 0, 1) := by decide +kernel
theorem dX3_minutesOut_25 : decode cX3_minutesOut 25 = .ok (.istore_n 1, 1) := by decide +kernel
theorem dX3_minutesOut_26 : decode cX3_minutesOut 26 = .ok (.sipush 8192, 3) := by decide +kernel
theorem dX3_minutesOut_29 : decode cX3_minutesOut 29 = .ok (.istore_n 2, 1) := by decide +kernel
theorem dX3_minutesOut_30 : decode cX3_minutesOut 30 = .ok (.iload_n 2, 1) := by decide +kernel
theorem dX3_minutesOut_31 : decode cX3_minutesOut 31 = .ok (.ifCond .le 26, 3) := by decide +kernel
theorem dX3_minutesOut_34 : decode cX3_minutesOut 34 = .ok (.aload_n 0, 1) := by decide +kernel
theorem dX3_minutesOut_35 : decode cX3_minutesOut 35 = .ok (.iload_n 1, 1) := by decide +kernel
theorem dX3_minutesOut_36 : decode cX3_minutesOut 36 = .ok (.iload_n 2, 1) := by decide +kernel
theorem dX3_minutesOut_37 : decode cX3_minutesOut 37 = .ok (.iadd, 1) := by decide +kernel
theorem dX3_minutesOut_38 : decode cX3_minutesOut 38 = .ok (.iconst 1, 1) := by decide +kernel
theorem dX3_minutesOut_39 : decode cX3_minutesOut 39 = .ok (.isub, 1) := by decide +kernel
theorem dX3_minutesOut_40 : decode cX3_minutesOut 40 = .ok (.invokevirtual 33, 3) := by decide +kernel
theorem dX3_minutesOut_43 : decode cX3_minutesOut 43 = .ok (.ifCond .eq 7, 3) := by decide +kernel
theorem dX3_minutesOut_46 : decode cX3_minutesOut 46 = .ok (.iload_n 1, 1) := by decide +kernel
theorem dX3_minutesOut_47 : decode cX3_minutesOut 47 = .ok (.iload_n 2, 1) := by decide +kernel
theorem dX3_minutesOut_48 : decode cX3_minutesOut 48 = .ok (.iadd, 1) := by decide +kernel
theorem dX3_minutesOut_49 : decode cX3_minutesOut 49 = .ok (.istore_n 1, 1) := by decide +kernel
theorem dX3_minutesOut_50 : decode cX3_minutesOut 50 = .ok (.iload_n 2, 1) := by decide +kernel
theorem dX3_minutesOut_51 : decode cX3_minutesOut 51 = .ok (.iconst 2, 1) := by decide +kernel
theorem dX3_minutesOut_52 : decode cX3_minutesOut 52 = .ok (.idiv, 1) := by decide +kernel
theorem dX3_minutesOut_53 : decode cX3_minutesOut 53 = .ok (.istore_n 2, 1) := by decide +kernel
theorem dX3_minutesOut_54 : decode cX3_minutesOut 54 = .ok (.goto (-24), 3) := by decide +kernel
theorem dX3_minutesOut_57 : decode cX3_minutesOut 57 = .ok (.iload_n 1, 1) := by decide +kernel
theorem dX3_minutesOut_58 : decode cX3_minutesOut 58 = .ok (.ireturn, 1) := by decide +kernel
set_option maxRecDepth 20000 in
theorem ggX3_firstTooFull_X3_crowdOf : GoodIn wsX3_firstTooFull wsX3_crowdOf := goodIn_r _ [5, 6, 24, 25, 26] (by decide +kernel) (by decide +kernel)
set_option maxRecDepth 20000 in
theorem gX3_firstTooFull_X3_crowdOf : GoodIn wsX3_firstTooFull (wsV RX3 37 RX3 yX3_crowdOf wsX3_crowdOf) := goodIn_app (goodIn_of _ (by decide +kernel)) ggX3_firstTooFull_X3_crowdOf
set_option maxRecDepth 20000 in
theorem ggX3_firstTooFull_X3_roomFor : GoodIn wsX3_firstTooFull wsX3_roomFor := goodIn_r _ [10, 11, 12, 13, 14, 15, 16, 17, 18, 4, 19, 20, 21, 22, 23, 24, 25, 26] (by decide +kernel) (by decide +kernel)
set_option maxRecDepth 20000 in
theorem gX3_firstTooFull_X3_roomFor : GoodIn wsX3_firstTooFull (wsV RX3 40 RX3 yX3_roomFor wsX3_roomFor) := goodIn_app (goodIn_of _ (by decide +kernel)) ggX3_firstTooFull_X3_roomFor
theorem dX3_firstTooFull_0 : decode cX3_firstTooFull 0 = .ok (.iconst 1, 1) := by decide +kernel
theorem dX3_firstTooFull_1 : decode cX3_firstTooFull 1 = .ok (.istore_n 2, 1) := by decide +kernel
theorem dX3_firstTooFull_2 : decode cX3_firstTooFull 2 = .ok (.iload_n 2, 1) := by decide +kernel
theorem dX3_firstTooFull_3 : decode cX3_firstTooFull 3 = .ok (.bipush 16, 2) := by decide +kernel
theorem dX3_firstTooFull_5 : decode cX3_firstTooFull 5 = .ok (.if_icmp .ge 25, 3) := by decide +kernel
theorem dX3_firstTooFull_8 : decode cX3_firstTooFull 8 = .ok (.aload_n 0, 1) := by decide +kernel
theorem dX3_firstTooFull_9 : decode cX3_firstTooFull 9 = .ok (.iload_n 2, 1) := by decide +kernel
theorem dX3_firstTooFull_10 : decode cX3_firstTooFull 10 = .ok (.invokevirtual 37, 3) := by decide +kernel
theorem dX3_firstTooFull_13 : decode cX3_firstTooFull 13 = .ok (.aload_n 0, 1) := by decide +kernel
theorem dX3_firstTooFull_14 : decode cX3_firstTooFull 14 = .ok (.iload_n 2, 1) := by decide +kernel
theorem dX3_firstTooFull_15 : decode cX3_firstTooFull 15 = .ok (.iload_n 1, 1) := by decide +kernel
theorem dX3_firstTooFull_16 : decode cX3_firstTooFull 16 = .ok (.invokevirtual 40, 3) := by decide +kernel
theorem dX3_firstTooFull_19 : decode cX3_firstTooFull 19 = .ok (.if_icmp .le 5, 3) := by decide +kernel
theorem dX3_firstTooFull_22 : decode cX3_firstTooFull 22 = .ok (.iload_n 2, 1) := by decide +kernel
theorem dX3_firstTooFull_23 : decode cX3_firstTooFull 23 = .ok (.ireturn, 1) := by decide +kernel
theorem dX3_firstTooFull_24 : decode cX3_firstTooFull 24 = .ok (.iinc 2 1, 3) := by decide +kernel
theorem dX3_firstTooFull_27 : decode cX3_firstTooFull 27 = .ok (.goto (-25), 3) := by decide +kernel
theorem dX3_firstTooFull_30 : decode cX3_firstTooFull 30 = .ok (.iconst 0, 1) := by decide +kernel
theorem dX3_firstTooFull_31 : decode cX3_firstTooFull 31 = .ok (.ireturn, 1) := by decide +kernel
theorem dX3_crowdOf_0 : decode cX3_crowdOf 0 = .ok (.iconst 0, 1) := by decide +kernel
theorem dX3_crowdOf_1 : decode cX3_crowdOf 1 = .ok (.istore_n 2, 1) := by decide +kernel
theorem dX3_crowdOf_2 : decode cX3_crowdOf 2 = .ok (.iconst 0, 1) := by decide +kernel
theorem dX3_crowdOf_3 : decode cX3_crowdOf 3 = .ok (.istore_n 3, 1) := by decide +kernel
theorem dX3_crowdOf_4 : decode cX3_crowdOf 4 = .ok (.iload_n 3, 1) := by decide +kernel
theorem dX3_crowdOf_5 : decode cX3_crowdOf 5 = .ok (.iconst 4, 1) := by decide +kernel
theorem dX3_crowdOf_6 : decode cX3_crowdOf 6 = .ok (.if_icmp .ge 26, 3) := by decide +kernel
theorem dX3_crowdOf_9 : decode cX3_crowdOf 9 = .ok (.iload_n 1, 1) := by decide +kernel
theorem dX3_crowdOf_10 : decode cX3_crowdOf 10 = .ok (.iload_n 3, 1) := by decide +kernel
theorem dX3_crowdOf_11 : decode cX3_crowdOf 11 = .ok (.ishr, 1) := by decide +kernel
theorem dX3_crowdOf_12 : decode cX3_crowdOf 12 = .ok (.iconst 1, 1) := by decide +kernel
theorem dX3_crowdOf_13 : decode cX3_crowdOf 13 = .ok (.iand, 1) := by decide +kernel
theorem dX3_crowdOf_14 : decode cX3_crowdOf 14 = .ok (.ifCond .eq 12, 3) := by decide +kernel
theorem dX3_crowdOf_17 : decode cX3_crowdOf 17 = .ok (.iload_n 2, 1) := by decide +kernel
theorem dX3_crowdOf_18 : decode cX3_crowdOf 18 = .ok (.aload_n 0, 1) := by decide +kernel
theorem dX3_crowdOf_19 : decode cX3_crowdOf 19 = .ok (.getfield 18, 3) := by decide +kernel
theorem dX3_crowdOf_22 : decode cX3_crowdOf 22 = .ok (.iload_n 3, 1) := by decide +kernel
theorem dX3_crowdOf_23 : decode cX3_crowdOf 23 = .ok (.iaload, 1) := by decide +kernel
theorem dX3_crowdOf_24 : decode cX3_crowdOf 24 = .ok (.iadd, 1) := by decide +kernel
theorem dX3_crowdOf_25 : decode cX3_crowdOf 25 = .ok (.istore_n 2, 1) := by decide +kernel
theorem dX3_crowdOf_26 : decode cX3_crowdOf 26 = .ok (.iinc 3 1, 3) := by decide +kernel
theorem dX3_crowdOf_29 : decode cX3_crowdOf 29 = .ok (.goto (-25), 3) := by decide +kernel
theorem dX3_crowdOf_32 : decode cX3_crowdOf 32 = .ok (.iload_n 2, 1) := by decide +kernel
theorem dX3_crowdOf_33 : decode cX3_crowdOf 33 = .ok (.ireturn, 1) := by decide +kernel
set_option maxRecDepth 20000 in
theorem ggX3_roomFor_X3_leastReach : GoodIn wsX3_roomFor wsX3_leastReach := goodIn_r _ [10, 11, 12, 13, 4, 14, 15, 16, 17] (by decide +kernel) (by decide +kernel)
set_option maxRecDepth 20000 in
theorem gX3_roomFor_X3_leastReach : GoodIn wsX3_roomFor (wsV RX3 44 RX3 yX3_leastReach wsX3_leastReach) := goodIn_app (goodIn_of _ (by decide +kernel)) ggX3_roomFor_X3_leastReach
theorem dX3_roomFor_0 : decode cX3_roomFor 0 = .ok (.iconst 0, 1) := by decide +kernel
theorem dX3_roomFor_1 : decode cX3_roomFor 1 = .ok (.istore_n 3, 1) := by decide +kernel
theorem dX3_roomFor_2 : decode cX3_roomFor 2 = .ok (.iconst 0, 1) := by decide +kernel
theorem dX3_roomFor_3 : decode cX3_roomFor 3 = .ok (.istore 4, 2) := by decide +kernel
theorem dX3_roomFor_5 : decode cX3_roomFor 5 = .ok (.iload 4, 2) := by decide +kernel
theorem dX3_roomFor_7 : decode cX3_roomFor 7 = .ok (.iconst 3, 1) := by decide +kernel
theorem dX3_roomFor_8 : decode cX3_roomFor 8 = .ok (.if_icmp .ge 33, 3) := by decide +kernel
theorem dX3_roomFor_11 : decode cX3_roomFor 11 = .ok (.iload_n 3, 1) := by decide +kernel
theorem dX3_roomFor_12 : decode cX3_roomFor 12 = .ok (.aload_n 0, 1) := by decide +kernel
theorem dX3_roomFor_13 : decode cX3_roomFor 13 = .ok (.getfield 9, 3) := by decide +kernel
theorem dX3_roomFor_16 : decode cX3_roomFor 16 = .ok (.iload 4, 2) := by decide +kernel
theorem dX3_roomFor_18 : decode cX3_roomFor 18 = .ok (.iaload, 1) := by decide +kernel
theorem dX3_roomFor_19 : decode cX3_roomFor 19 = .ok (.iconst 0, 1) := by decide +kernel
theorem dX3_roomFor_20 : decode cX3_roomFor 20 = .ok (.iload_n 2, 1) := by decide +kernel
theorem dX3_roomFor_21 : decode cX3_roomFor 21 = .ok (.aload_n 0, 1) := by decide +kernel
theorem dX3_roomFor_22 : decode cX3_roomFor 22 = .ok (.iload 4, 2) := by decide +kernel
theorem dX3_roomFor_24 : decode cX3_roomFor 24 = .ok (.iload_n 1, 1) := by decide +kernel
theorem dX3_roomFor_25 : decode cX3_roomFor 25 = .ok (.invokevirtual 44, 3) := by decide +kernel
theorem dX3_roomFor_28 : decode cX3_roomFor 28 = .ok (.isub, 1) := by decide +kernel
theorem dX3_roomFor_29 : decode cX3_roomFor 29 = .ok (.invokestatic 47, 3) := by decide +kernel
theorem dX3_roomFor_32 : decode cX3_roomFor 32 = .ok (.imul, 1) := by decide +kernel
theorem dX3_roomFor_33 : decode cX3_roomFor 33 = .ok (.iadd, 1) := by decide +kernel
theorem dX3_roomFor_34 : decode cX3_roomFor 34 = .ok (.istore_n 3, 1) := by decide +kernel
theorem dX3_roomFor_35 : decode cX3_roomFor 35 = .ok (.iinc 4 1, 3) := by decide +kernel
theorem dX3_roomFor_38 : decode cX3_roomFor 38 = .ok (.goto (-33), 3) := by decide +kernel
theorem dX3_roomFor_41 : decode cX3_roomFor 41 = .ok (.iload_n 3, 1) := by decide +kernel
theorem dX3_roomFor_42 : decode cX3_roomFor 42 = .ok (.ireturn, 1) := by decide +kernel
theorem dX3_leastReach_0 : decode cX3_leastReach 0 = .ok (.sipush 8192, 3) := by decide +kernel
theorem dX3_leastReach_3 : decode cX3_leastReach 3 = .ok (.istore_n 3, 1) := by decide +kernel
theorem dX3_leastReach_4 : decode cX3_leastReach 4 = .ok (.iconst 0, 1) := by decide +kernel
theorem dX3_leastReach_5 : decode cX3_leastReach 5 = .ok (.istore 4, 2) := by decide +kernel
theorem dX3_leastReach_7 : decode cX3_leastReach 7 = .ok (.iload 4, 2) := by decide +kernel
theorem dX3_leastReach_9 : decode cX3_leastReach 9 = .ok (.iconst 4, 1) := by decide +kernel
theorem dX3_leastReach_10 : decode cX3_leastReach 10 = .ok (.if_icmp .ge 53, 3) := by decide +kernel
theorem dX3_leastReach_13 : decode cX3_leastReach 13 = .ok (.iload_n 1, 1) := by decide +kernel
theorem dX3_leastReach_14 : decode cX3_leastReach 14 = .ok (.iconst 4, 1) := by decide +kernel
theorem dX3_leastReach_15 : decode cX3_leastReach 15 = .ok (.imul, 1) := by decide +kernel
theorem dX3_leastReach_16 : decode cX3_leastReach 16 = .ok (.iload 4, 2) := by decide +kernel
theorem dX3_leastReach_18 : decode cX3_leastReach 18 = .ok (.iadd, 1) := by decide +kernel
theorem dX3_leastReach_19 : decode cX3_leastReach 19 = .ok (.istore 5, 2) := by decide +kernel
theorem dX3_leastReach_21 : decode cX3_leastReach 21 = .ok (.iload_n 2, 1) := by decide +kernel
theorem dX3_leastReach_22 : decode cX3_leastReach 22 = .ok (.iload 4, 2) := by decide +kernel
theorem dX3_leastReach_24 : decode cX3_leastReach 24 = .ok (.ishr, 1) := by decide +kernel
theorem dX3_leastReach_25 : decode cX3_leastReach 25 = .ok (.iconst 1, 1) := by decide +kernel
theorem dX3_leastReach_26 : decode cX3_leastReach 26 = .ok (.iand, 1) := by decide +kernel
theorem dX3_leastReach_27 : decode cX3_leastReach 27 = .ok (.ifCond .eq 30, 3) := by decide +kernel
theorem dX3_leastReach_30 : decode cX3_leastReach 30 = .ok (.iload 5, 2) := by decide +kernel
theorem dX3_leastReach_32 : decode cX3_leastReach 32 = .ok (.ifCond .lt 25, 3) := by decide +kernel
theorem dX3_leastReach_35 : decode cX3_leastReach 35 = .ok (.iload 5, 2) := by decide +kernel
theorem dX3_leastReach_37 : decode cX3_leastReach 37 = .ok (.aload_n 0, 1) := by decide +kernel
theorem dX3_leastReach_38 : decode cX3_leastReach 38 = .ok (.getfield 15, 3) := by decide +kernel
theorem dX3_leastReach_41 : decode cX3_leastReach 41 = .ok (.arraylength, 1) := by decide +kernel
theorem dX3_leastReach_42 : decode cX3_leastReach 42 = .ok (.if_icmp .ge 15, 3) := by decide +kernel
theorem dX3_leastReach_45 : decode cX3_leastReach 45 = .ok (.iload_n 3, 1) := by decide +kernel
theorem dX3_leastReach_46 : decode cX3_leastReach 46 = .ok (.aload_n 0, 1) := by decide +kernel
theorem dX3_leastReach_47 : decode cX3_leastReach 47 = .ok (.getfield 15, 3) := by decide +kernel
theorem dX3_leastReach_50 : decode cX3_leastReach 50 = .ok (.iload 5, 2) := by decide +kernel
theorem dX3_leastReach_52 : decode cX3_leastReach 52 = .ok (.iaload, 1) := by decide +kernel
theorem dX3_leastReach_53 : decode cX3_leastReach 53 = .ok (.invokestatic 52, 3) := by decide +kernel
theorem dX3_leastReach_56 : decode cX3_leastReach 56 = .ok (.istore_n 3, 1) := by decide +kernel
theorem dX3_leastReach_57 : decode cX3_leastReach 57 = .ok (.iinc 4 1, 3) := by decide +kernel
theorem dX3_leastReach_60 : decode cX3_leastReach 60 = .ok (.goto (-53), 3) := by decide +kernel
theorem dX3_leastReach_63 : decode cX3_leastReach 63 = .ok (.iload_n 3, 1) := by decide +kernel
theorem dX3_leastReach_64 : decode cX3_leastReach 64 = .ok (.ireturn, 1) := by decide +kernel
