set_option maxRecDepth 20000 in
theorem ggX8_init_X11_fillRow : GoodIn wsX8_init wsX11_fillRow := goodIn_r _ [13] (by decide +kernel) (by decide +kernel)
set_option maxRecDepth 20000 in
theorem gX8_init_X11_fillRow_n29 : GoodIn wsX8_init (wsX11_fillRow) := ggX8_init_X11_fillRow
theorem dX8_init_0 : decode cX8_init 0 = .ok (.aload_n 0, 1) := by decide +kernel
theorem dX8_init_1 : decode cX8_init 1 = .ok (.invokespecial 3, 3) := by decide +kernel
theorem dX8_init_4 : decode cX8_init 4 = .ok (.aload_n 0, 1) := by decide +kernel
theorem dX8_init_5 : decode cX8_init 5 = .ok (.iconst 4, 1) := by decide +kernel
theorem dX8_init_6 : decode cX8_init 6 = .ok (.newarray .int, 2) := by decide +kernel
theorem dX8_init_8 : decode cX8_init 8 = .ok (.putfield 9, 3) := by decide +kernel
theorem dX8_init_11 : decode cX8_init 11 = .ok (.aload_n 0, 1) := by decide +kernel
theorem dX8_init_12 : decode cX8_init 12 = .ok (.bipush 48, 2) := by decide +kernel
theorem dX8_init_14 : decode cX8_init 14 = .ok (.newarray .int, 2) := by decide +kernel
theorem dX8_init_16 : decode cX8_init 16 = .ok (.putfield 15, 3) := by decide +kernel
theorem dX8_init_19 : decode cX8_init 19 = .ok (.aload_n 0, 1) := by decide +kernel
theorem dX8_init_20 : decode cX8_init 20 = .ok (.lconst 0, 1) := by decide +kernel
theorem dX8_init_21 : decode cX8_init 21 = .ok (.putfield 18, 3) := by decide +kernel
theorem dX8_init_24 : decode cX8_init 24 = .ok (.aload_n 0, 1) := by decide +kernel
theorem dX8_init_25 : decode cX8_init 25 = .ok (.bipush 12, 2) := by decide +kernel
theorem dX8_init_27 : decode cX8_init 27 = .ok (.newarray .long, 2) := by decide +kernel
theorem dX8_init_29 : decode cX8_init 29 = .ok (.putfield 22, 3) := by decide +kernel
theorem dX8_init_32 : decode cX8_init 32 = .ok (.aload_n 0, 1) := by decide +kernel
theorem dX8_init_33 : decode cX8_init 33 = .ok (.bipush 12, 2) := by decide +kernel
theorem dX8_init_35 : decode cX8_init 35 = .ok (.newarray .long, 2) := by decide +kernel
theorem dX8_init_37 : decode cX8_init 37 = .ok (.putfield 26, 3) := by decide +kernel
theorem dX8_init_40 : decode cX8_init 40 = .ok (.aload_n 0, 1) := by decide +kernel
theorem dX8_init_41 : decode cX8_init 41 = .ok (.getfield 9, 3) := by decide +kernel
theorem dX8_init_44 : decode cX8_init 44 = .ok (.bipush 20, 2) := by decide +kernel
theorem dX8_init_46 : decode cX8_init 46 = .ok (.invokestatic 29, 3) := by decide +kernel
theorem dX8_init_49 : decode cX8_init 49 = .ok (.aload_n 0, 1) := by decide +kernel
theorem dX8_init_50 : decode cX8_init 50 = .ok (.getfield 15, 3) := by decide +kernel
theorem dX8_init_53 : decode cX8_init 53 = .ok (.iconst (-1), 1) := by decide +kernel
theorem dX8_init_54 : decode cX8_init 54 = .ok (.invokestatic 29, 3) := by decide +kernel
theorem dX8_init_57 : decode cX8_init 57 = .ok (.return_, 1) := by decide +kernel
set_option maxRecDepth 20000 in
theorem ggX8_copyFrom_X11_copyRow : GoodIn wsX8_copyFrom wsX11_copyRow := goodIn_r _ [8, 9, 10, 11, 12, 13, 14, 15, 16] (by decide +kernel) (by decide +kernel)
set_option maxRecDepth 20000 in
theorem gX8_copyFrom_X11_copyRow_n33 : GoodIn wsX8_copyFrom (wsX11_copyRow) := ggX8_copyFrom_X11_copyRow
set_option maxRecDepth 20000 in
theorem ggX8_copyFrom_X11_copyRow_ : GoodIn wsX8_copyFrom wsX11_copyRow_ := goodIn_r _ [18, 9, 10, 11, 12, 13, 14, 15, 16] (by decide +kernel) (by decide +kernel)
set_option maxRecDepth 20000 in
theorem gX8_copyFrom_X11_copyRow__n37 : GoodIn wsX8_copyFrom (wsX11_copyRow_) := ggX8_copyFrom_X11_copyRow_
theorem dX8_copyFrom_0 : decode cX8_copyFrom 0 = .ok (.aload_n 1, 1) := by decide +kernel
theorem dX8_copyFrom_1 : decode cX8_copyFrom 1 = .ok (.getfield 9, 3) := by decide +kernel
theorem dX8_copyFrom_4 : decode cX8_copyFrom 4 = .ok (.aload_n 0, 1) := by decide +kernel
theorem dX8_copyFrom_5 : decode cX8_copyFrom 5 = .ok (.getfield 9, 3) := by decide +kernel
theorem dX8_copyFrom_8 : decode cX8_copyFrom 8 = .ok (.invokestatic 33, 3) := by decide +kernel
theorem dX8_copyFrom_11 : decode cX8_copyFrom 11 = .ok (.aload_n 1, 1) := by decide +kernel
theorem dX8_copyFrom_12 : decode cX8_copyFrom 12 = .ok (.getfield 15, 3) := by decide +kernel
theorem dX8_copyFrom_15 : decode cX8_copyFrom 15 = .ok (.aload_n 0, 1) := by decide +kernel
theorem dX8_copyFrom_16 : decode cX8_copyFrom 16 = .ok (.getfield 15, 3) := by decide +kernel
theorem dX8_copyFrom_19 : decode cX8_copyFrom 19 = .ok (.invokestatic 33, 3) := by decide +kernel
theorem dX8_copyFrom_22 : decode cX8_copyFrom 22 = .ok (.aload_n 0, 1) := by decide +kernel
theorem dX8_copyFrom_23 : decode cX8_copyFrom 23 = .ok (.aload_n 1, 1) := by decide +kernel
theorem dX8_copyFrom_24 : decode cX8_copyFrom 24 = .ok (.getfield 18, 3) := by decide +kernel
theorem dX8_copyFrom_27 : decode cX8_copyFrom 27 = .ok (.putfield 18, 3) := by decide +kernel
theorem dX8_copyFrom_30 : decode cX8_copyFrom 30 = .ok (.aload_n 1, 1) := by decide +kernel
theorem dX8_copyFrom_31 : decode cX8_copyFrom 31 = .ok (.getfield 22, 3) := by decide +kernel
theorem dX8_copyFrom_34 : decode cX8_copyFrom 34 = .ok (.aload_n 0, 1) := by decide +kernel
theorem dX8_copyFrom_35 : decode cX8_copyFrom 35 = .ok (.getfield 22, 3) := by decide +kernel
theorem dX8_copyFrom_38 : decode cX8_copyFrom 38 = .ok (.invokestatic 37, 3) := by decide +kernel
theorem dX8_copyFrom_41 : decode cX8_copyFrom 41 = .ok (.aload_n 1, 1) := by decide +kernel
theorem dX8_copyFrom_42 : decode cX8_copyFrom 42 = .ok (.getfield 26, 3) := by decide +kernel
theorem dX8_copyFrom_45 : decode cX8_copyFrom 45 = .ok (.aload_n 0, 1) := by decide +kernel
theorem dX8_copyFrom_46 : decode cX8_copyFrom 46 = .ok (.getfield 26, 3) := by decide +kernel
theorem dX8_copyFrom_49 : decode cX8_copyFrom 49 = .ok (.invokestatic 37, 3) := by decide +kernel
theorem dX8_copyFrom_52 : decode cX8_copyFrom 52 = .ok (.return_, 1) := by decide +kernel
theorem dX8_isTicket_0 : decode cX8_isTicket 0 = .ok (.iload_n 0, 1) := by decide +kernel
theorem dX8_isTicket_1 : decode cX8_isTicket 1 = .ok (.ifCond .lt 22, 3) := by decide +kernel
theorem dX8_isTicket_4 : decode cX8_isTicket 4 = .ok (.iload_n 0, 1) := by decide +kernel
theorem dX8_isTicket_5 : decode cX8_isTicket 5 = .ok (.bipush 12, 2) := by decide +kernel
theorem dX8_isTicket_7 : decode cX8_isTicket 7 = .ok (.if_icmp .ge 16, 3) := by decide +kernel
theorem dX8_isTicket_10 : decode cX8_isTicket 10 = .ok (.iload_n 1, 1) := by decide +kernel
theorem dX8_isTicket_11 : decode cX8_isTicket 11 = .ok (.ifCond .lt 12, 3) := by decide +kernel
theorem dX8_isTicket_14 : decode cX8_isTicket 14 = .ok (.iload_n 1, 1) := by decide +kernel
theorem dX8_isTicket_15 : decode cX8_isTicket 15 = .ok (.iconst 4, 1) := by decide +kernel
theorem dX8_isTicket_16 : decode cX8_isTicket 16 = .ok (.if_icmp .ge 7, 3) := by decide +kernel
theorem dX8_isTicket_19 : decode cX8_isTicket 19 = .ok (.iconst 1, 1) := by decide +kernel
theorem dX8_isTicket_20 : decode cX8_isTicket 20 = .ok (.goto 4, 3) := by decide +kernel
theorem dX8_isTicket_23 : decode cX8_isTicket 23 = .ok (.iconst 0, 1) := by decide +kernel
theorem dX8_isTicket_24 : decode cX8_isTicket 24 = .ok (.ireturn, 1) := by decide +kernel
set_option maxRecDepth 20000 in
theorem ggX8_hasTicket_X8_isTicket : GoodIn wsX8_hasTicket wsX8_isTicket := goodIn_r _ [5] (by decide +kernel) (by decide +kernel)
set_option maxRecDepth 20000 in
theorem gX8_hasTicket_X8_isTicket : GoodIn wsX8_hasTicket (va_wsS RX8 40 yX8_isTicket wsX8_isTicket) := goodIn_app (goodIn_of _ (by decide +kernel)) ggX8_hasTicket_X8_isTicket
theorem dX8_hasTicket_0 : decode cX8_hasTicket 0 = .ok (.iload_n 1, 1) := by decide +kernel
theorem dX8_hasTicket_1 : decode cX8_hasTicket 1 = .ok (.iload_n 2, 1) := by decide +kernel
theorem dX8_hasTicket_2 : decode cX8_hasTicket 2 = .ok (.invokestatic 40, 3) := by decide +kernel
theorem dX8_hasTicket_5 : decode cX8_hasTicket 5 = .ok (.ifCond .eq 21, 3) := by decide +kernel
theorem dX8_hasTicket_8 : decode cX8_hasTicket 8 = .ok (.aload_n 0, 1) := by decide +kernel
theorem dX8_hasTicket_9 : decode cX8_hasTicket 9 = .ok (.getfield 15, 3) := by decide +kernel
theorem dX8_hasTicket_12 : decode cX8_hasTicket 12 = .ok (.iload_n 1, 1) := by decide +kernel
theorem dX8_hasTicket_13 : decode cX8_hasTicket 13 = .ok (.iconst 4, 1) := by decide +kernel
theorem dX8_hasTicket_14 : decode cX8_hasTicket 14 = .ok (.imul, 1) := by decide +kernel
theorem dX8_hasTicket_15 : decode cX8_hasTicket 15 = .ok (.iload_n 2, 1) := by decide +kernel
theorem dX8_hasTicket_16 : decode cX8_hasTicket 16 = .ok (.iadd, 1) := by decide +kernel
theorem dX8_hasTicket_17 : decode cX8_hasTicket 17 = .ok (.iaload, 1) := by decide +kernel
theorem dX8_hasTicket_18 : decode cX8_hasTicket 18 = .ok (.iconst (-1), 1) := by decide +kernel
theorem dX8_hasTicket_19 : decode cX8_hasTicket 19 = .ok (.if_icmp .eq 7, 3) := by decide +kernel
theorem dX8_hasTicket_22 : decode cX8_hasTicket 22 = .ok (.iconst 1, 1) := by decide +kernel
theorem dX8_hasTicket_23 : decode cX8_hasTicket 23 = .ok (.goto 4, 3) := by decide +kernel
theorem dX8_hasTicket_26 : decode cX8_hasTicket 26 = .ok (.iconst 0, 1) := by decide +kernel
theorem dX8_hasTicket_27 : decode cX8_hasTicket 27 = .ok (.ireturn, 1) := by decide +kernel
theorem dX8_coinsFor_0 : decode cX8_coinsFor 0 = .ok (.iload_n 2, 1) := by decide +kernel
theorem dX8_coinsFor_1 : decode cX8_coinsFor 1 = .ok (.bipush 6, 2) := by decide +kernel
theorem dX8_coinsFor_3 : decode cX8_coinsFor 3 = .ok (.if_icmp .lt 12, 3) := by decide +kernel
theorem dX8_coinsFor_6 : decode cX8_coinsFor 6 = .ok (.iload_n 1, 1) := by decide +kernel
theorem dX8_coinsFor_7 : decode cX8_coinsFor 7 = .ok (.ifCond .lt 8, 3) := by decide +kernel
theorem dX8_coinsFor_10 : decode cX8_coinsFor 10 = .ok (.iload_n 1, 1) := by decide +kernel
theorem dX8_coinsFor_11 : decode cX8_coinsFor 11 = .ok (.iconst 4, 1) := by decide +kernel
theorem dX8_coinsFor_12 : decode cX8_coinsFor 12 = .ok (.if_icmp .lt 5, 3) := by decide +kernel
theorem dX8_coinsFor_15 : decode cX8_coinsFor 15 = .ok (.iconst 0, 1) := by decide +kernel
theorem dX8_coinsFor_16 : decode cX8_coinsFor 16 = .ok (.ireturn, 1) := by decide +kernel
theorem dX8_coinsFor_17 : decode cX8_coinsFor 17 = .ok (.iload_n 2, 1) := by decide +kernel
theorem dX8_coinsFor_18 : decode cX8_coinsFor 18 = .ok (.bipush 13, 2) := by decide +kernel
theorem dX8_coinsFor_20 : decode cX8_coinsFor 20 = .ok (.if_icmp .gt 14, 3) := by decide +kernel
theorem dX8_coinsFor_23 : decode cX8_coinsFor 23 = .ok (.aload_n 0, 1) := by decide +kernel
theorem dX8_coinsFor_24 : decode cX8_coinsFor 24 = .ok (.getfield 9, 3) := by decide +kernel
theorem dX8_coinsFor_27 : decode cX8_coinsFor 27 = .ok (.iload_n 1, 1) := by decide +kernel
theorem dX8_coinsFor_28 : decode cX8_coinsFor 28 = .ok (.iaload, 1) := by decide +kernel
theorem dX8_coinsFor_29 : decode cX8_coinsFor 29 = .ok (.iconst 1, 1) := by decide +kernel
theorem dX8_coinsFor_30 : decode cX8_coinsFor 30 = .ok (.iadd, 1) := by decide +kernel
theorem dX8_coinsFor_31 : decode cX8_coinsFor 31 = .ok (.iconst 2, 1) := by decide +kernel
theorem dX8_coinsFor_32 : decode cX8_coinsFor 32 = .ok (.idiv, 1) := by decide +kernel
theorem dX8_coinsFor_33 : decode cX8_coinsFor 33 = .ok (.ireturn, 1) := by decide +kernel
theorem dX8_coinsFor_34 : decode cX8_coinsFor 34 = .ok (.iload_n 2, 1) := by decide +kernel
theorem dX8_coinsFor_35 : decode cX8_coinsFor 35 = .ok (.bipush 65, 2) := by decide +kernel
theorem dX8_coinsFor_37 : decode cX8_coinsFor 37 = .ok (.if_icmp .ge 12, 3) := by decide +kernel
theorem dX8_coinsFor_40 : decode cX8_coinsFor 40 = .ok (.aload_n 0, 1) := by decide +kernel
theorem dX8_coinsFor_41 : decode cX8_coinsFor 41 = .ok (.getfield 9, 3) := by decide +kernel
theorem dX8_coinsFor_44 : decode cX8_coinsFor 44 = .ok (.iload_n 1, 1) := by decide +kernel
theorem dX8_coinsFor_45 : decode cX8_coinsFor 45 = .ok (.iaload, 1) := by decide +kernel
theorem dX8_coinsFor_46 : decode cX8_coinsFor 46 = .ok (.goto 15, 3) := by decide +kernel
theorem dX8_coinsFor_49 : decode cX8_coinsFor 49 = .ok (.aload_n 0, 1) := by decide +kernel
theorem dX8_coinsFor_50 : decode cX8_coinsFor 50 = .ok (.getfield 9, 3) := by decide +kernel
theorem dX8_coinsFor_53 : decode cX8_coinsFor 53 = .ok (.iload_n 1, 1) := by decide +kernel
theorem dX8_coinsFor_54 : decode cX8_coinsFor 54 = .ok (.iaload, 1) := by decide +kernel
theorem dX8_coinsFor_55 : decode cX8_coinsFor 55 = .ok (.iconst 4, 1) := by decide +kernel
theorem dX8_coinsFor_56 : decode cX8_coinsFor 56 = .ok (.imul, 1) := by decide +kernel
theorem dX8_coinsFor_57 : decode cX8_coinsFor 57 = .ok (.iconst 2, 1) := by decide +kernel
theorem dX8_coinsFor_58 : decode cX8_coinsFor 58 = .ok (.iadd, 1) := by decide +kernel
theorem dX8_coinsFor_59 : decode cX8_coinsFor 59 = .ok (.iconst 5, 1) := by decide +kernel
theorem dX8_coinsFor_60 : decode cX8_coinsFor 60 = .ok (.idiv, 1) := by decide +kernel
theorem dX8_coinsFor_61 : decode cX8_coinsFor 61 = .ok (.ireturn, 1) := by decide +kernel
set_option maxRecDepth 20000 in
theorem ggX8_sell_X8_coinsFor : GoodIn wsX8_sell wsX8_coinsFor := goodIn_r _ [8, 9, 13, 14, 15, 16, 17] (by decide +kernel) (by decide +kernel)
set_option maxRecDepth 20000 in
theorem gX8_sell_X8_coinsFor : GoodIn wsX8_sell (wsV RX8 44 RX8 yX8_coinsFor wsX8_coinsFor) := goodIn_app (goodIn_of _ (by decide +kernel)) ggX8_sell_X8_coinsFor
set_option maxRecDepth 20000 in
theorem ggX8_sell_X8_isTicket : GoodIn wsX8_sell wsX8_isTicket := goodIn_r _ [12] (by decide +kernel) (by decide +kernel)
set_option maxRecDepth 20000 in
theorem gX8_sell_X8_isTicket : GoodIn wsX8_sell (va_wsS RX8 40 yX8_isTicket wsX8_isTicket) := goodIn_app (goodIn_of _ (by decide +kernel)) ggX8_sell_X8_isTicket
theorem dX8_sell_0 : decode cX8_sell 0 = .ok (.aload_n 0, 1) := by decide +kernel
theorem dX8_sell_1 : decode cX8_sell 1 = .ok (.iload_n 2, 1) := by decide +kernel
theorem dX8_sell_2 : decode cX8_sell 2 = .ok (.iload_n 3, 1) := by decide +kernel
theorem dX8_sell_3 : decode cX8_sell 3 = .ok (.invokevirtual 44, 3) := by decide +kernel
theorem dX8_sell_6 : decode cX8_sell 6 = .ok (.istore 4, 2) := by decide +kernel
theorem dX8_sell_8 : decode cX8_sell 8 = .ok (.iload_n 1, 1) := by decide +kernel
theorem dX8_sell_9 : decode cX8_sell 9 = .ok (.iload_n 2, 1) := by decide +kernel
theorem dX8_sell_10 : decode cX8_sell 10 = .ok (.invokestatic 40, 3) := by decide +kernel
theorem dX8_sell_13 : decode cX8_sell 13 = .ok (.ifCond .eq 39, 3) := by decide +kernel
theorem dX8_sell_16 : decode cX8_sell 16 = .ok (.aload_n 0, 1) := by decide +kernel
theorem dX8_sell_17 : decode cX8_sell 17 = .ok (.getfield 15, 3) := by decide +kernel
theorem dX8_sell_20 : decode cX8_sell 20 = .ok (.iload_n 1, 1) := by decide +kernel
theorem dX8_sell_21 : decode cX8_sell 21 = .ok (.iconst 4, 1) := by decide +kernel
theorem dX8_sell_22 : decode cX8_sell 22 = .ok (.imul, 1) := by decide +kernel
theorem dX8_sell_23 : decode cX8_sell 23 = .ok (.iload_n 2, 1) := by decide +kernel
theorem dX8_sell_24 : decode cX8_sell 24 = .ok (.iadd, 1) := by decide +kernel
theorem dX8_sell_25 : decode cX8_sell 25 = .ok (.iload 4, 2) := by decide +kernel
theorem dX8_sell_27 : decode cX8_sell 27 = .ok (.iastore, 1) := by decide +kernel
theorem dX8_sell_28 : decode cX8_sell 28 = .ok (.aload_n 0, 1) := by decide +kernel
theorem dX8_sell_29 : decode cX8_sell 29 = .ok (.getfield 22, 3) := by decide +kernel
theorem dX8_sell_32 : decode cX8_sell 32 = .ok (.iload_n 1, 1) := by decide +kernel
theorem dX8_sell_33 : decode cX8_sell 33 = .ok (.dup2, 1) := by decide +kernel
theorem dX8_sell_34 : decode cX8_sell 34 = .ok (.laload, 1) := by decide +kernel
theorem dX8_sell_35 : decode cX8_sell 35 = .ok (.iload 4, 2) := by decide +kernel
theorem dX8_sell_37 : decode cX8_sell 37 = .ok (.i2l, 1) := by decide +kernel
theorem dX8_sell_38 : decode cX8_sell 38 = .ok (.lsub, 1) := by decide +kernel
theorem dX8_sell_39 : decode cX8_sell 39 = .ok (.lastore, 1) := by decide +kernel
theorem dX8_sell_40 : decode cX8_sell 40 = .ok (.aload_n 0, 1) := by decide +kernel
theorem dX8_sell_41 : decode cX8_sell 41 = .ok (.dup, 1) := by decide +kernel
theorem dX8_sell_42 : decode cX8_sell 42 = .ok (.getfield 18, 3) := by decide +kernel
theorem dX8_sell_45 : decode cX8_sell 45 = .ok (.iload 4, 2) := by decide +kernel
theorem dX8_sell_47 : decode cX8_sell 47 = .ok (.i2l, 1) := by decide +kernel
theorem dX8_sell_48 : decode cX8_sell 48 = .ok (.ladd, 1) := by decide +kernel
theorem dX8_sell_49 : decode cX8_sell 49 = .ok (.putfield 18, 3) := by decide +kernel
theorem dX8_sell_52 : decode cX8_sell 52 = .ok (.iload 4, 2) := by decide +kernel
theorem dX8_sell_54 : decode cX8_sell 54 = .ok (.ireturn, 1) := by decide +kernel
set_option maxRecDepth 20000 in
theorem ggX8_takeBack_X8_isTicket : GoodIn wsX8_takeBack wsX8_isTicket := goodIn_r _ [7] (by decide +kernel) (by decide +kernel)
set_option maxRecDepth 20000 in
theorem gX8_takeBack_X8_isTicket : GoodIn wsX8_takeBack (va_wsS RX8 40 yX8_isTicket wsX8_isTicket) := goodIn_app (goodIn_of _ (by decide +kernel)) ggX8_takeBack_X8_isTicket
theorem dX8_takeBack_0 : decode cX8_takeBack 0 = .ok (.iload_n 1, 1) := by decide +kernel
theorem dX8_takeBack_1 : decode cX8_takeBack 1 = .ok (.iload_n 2, 1) := by decide +kernel
theorem dX8_takeBack_2 : decode cX8_takeBack 2 = .ok (.invokestatic 40, 3) := by decide +kernel
theorem dX8_takeBack_5 : decode cX8_takeBack 5 = .ok (.ifCond .ne 5, 3) := by decide +kernel
theorem dX8_takeBack_8 : decode cX8_takeBack 8 = .ok (.iconst 0, 1) := by decide +kernel
theorem dX8_takeBack_9 : decode cX8_takeBack 9 = .ok (.ireturn, 1) := by decide +kernel
theorem dX8_takeBack_10 : decode cX8_takeBack 10 = .ok (.aload_n 0, 1) := by decide +kernel
theorem dX8_takeBack_11 : decode cX8_takeBack 11 = .ok (.getfield 15, 3) := by decide +kernel
theorem dX8_takeBack_14 : decode cX8_takeBack 14 = .ok (.iload_n 1, 1) := by decide +kernel
theorem dX8_takeBack_15 : decode cX8_takeBack 15 = .ok (.iconst 4, 1) := by decide +kernel
theorem dX8_takeBack_16 : decode cX8_takeBack 16 = .ok (.imul, 1) := by decide +kernel
theorem dX8_takeBack_17 : decode cX8_takeBack 17 = .ok (.iload_n 2, 1) := by decide +kernel
theorem dX8_takeBack_18 : decode cX8_takeBack 18 = .ok (.iadd, 1) := by decide +kernel
theorem dX8_takeBack_19 : decode cX8_takeBack 19 = .ok (.iaload, 1) := by decide +kernel
theorem dX8_takeBack_20 : decode cX8_takeBack 20 = .ok (.bipush 9, 2) := by decide +kernel
theorem dX8_takeBack_22 : decode cX8_takeBack 22 = .ok (.imul, 1) := by decide +kernel
theorem dX8_takeBack_23 : decode cX8_takeBack 23 = .ok (.bipush 10, 2) := by decide +kernel
theorem dX8_takeBack_25 : decode cX8_takeBack 25 = .ok (.idiv, 1) := by decide +kernel
theorem dX8_takeBack_26 : decode cX8_takeBack 26 = .ok (.istore_n 3, 1) := by decide +kernel
theorem dX8_takeBack_27 : decode cX8_takeBack 27 = .ok (.aload_n 0, 1) := by decide +kernel
theorem dX8_takeBack_28 : decode cX8_takeBack 28 = .ok (.getfield 15, 3) := by decide +kernel
theorem dX8_takeBack_31 : decode cX8_takeBack 31 = .ok (.iload_n 1, 1) := by decide +kernel
theorem dX8_takeBack_32 : decode cX8_takeBack 32 = .ok (.iconst 4, 1) := by decide +kernel
theorem dX8_takeBack_33 : decode cX8_takeBack 33 = .ok (.imul, 1) := by decide +kernel
theorem dX8_takeBack_34 : decode cX8_takeBack 34 = .ok (.iload_n 2, 1) := by decide +kernel
theorem dX8_takeBack_35 : decode cX8_takeBack 35 = .ok (.iadd, 1) := by decide +kernel
theorem dX8_takeBack_36 : decode cX8_takeBack 36 = .ok (.iconst (-1), 1) := by decide +kernel
theorem dX8_takeBack_37 : decode cX8_takeBack 37 = .ok (.iastore, 1) := by decide +kernel
theorem dX8_takeBack_38 : decode cX8_takeBack 38 = .ok (.aload_n 0, 1) := by decide +kernel
theorem dX8_takeBack_39 : decode cX8_takeBack 39 = .ok (.getfield 22, 3) := by decide +kernel
theorem dX8_takeBack_42 : decode cX8_takeBack 42 = .ok (.iload_n 1, 1) := by decide +kernel
theorem dX8_takeBack_43 : decode cX8_takeBack 43 = .ok (.dup2, 1) := by decide +kernel
theorem dX8_takeBack_44 : decode cX8_takeBack 44 = .ok (.laload, 1) := by decide +kernel
theorem dX8_takeBack_45 : decode cX8_takeBack 45 = .ok (.iload_n 3, 1) := by decide +kernel
theorem dX8_takeBack_46 : decode cX8_takeBack 46 = .ok (.i2l, 1) := by decide +kernel
theorem dX8_takeBack_47 : decode cX8_takeBack 47 = .ok (.ladd, 1) := by decide +kernel
theorem dX8_takeBack_48 : decode cX8_takeBack 48 = .ok (.lastore, 1) := by decide +kernel
theorem dX8_takeBack_49 : decode cX8_takeBack 49 = .ok (.aload_n 0, 1) := by decide +kernel
theorem dX8_takeBack_50 : decode cX8_takeBack 50 = .ok (.dup, 1) := by decide +kernel
theorem dX8_takeBack_51 : decode cX8_takeBack 51 = .ok (.getfield 18, 3) := by decide +kernel
theorem dX8_takeBack_54 : decode cX8_takeBack 54 = .ok (.iload_n 3, 1) := by decide +kernel
theorem dX8_takeBack_55 : decode cX8_takeBack 55 = .ok (.i2l, 1) := by decide +kernel
theorem dX8_takeBack_56 : decode cX8_takeBack 56 = .ok (.lsub, 1) := by decide +kernel
theorem dX8_takeBack_57 : decode cX8_takeBack 57 = .ok (.putfield 18, 3) := by decide +kernel
theorem dX8_takeBack_60 : decode cX8_takeBack 60 = .ok (.iload_n 3, 1) := by decide +kernel
theorem dX8_takeBack_61 : decode cX8_takeBack 61 = .ok (.ireturn, 1) := by decide +kernel
set_option maxRecDepth 20000 in
theorem ggX8_handOver_X8_isTicket : GoodIn wsX8_handOver wsX8_isTicket := goodIn_r _ [6] (by decide +kernel) (by decide +kernel)
set_option maxRecDepth 20000 in
theorem gX8_handOver_X8_isTicket : GoodIn wsX8_handOver (va_wsS RX8 40 yX8_isTicket wsX8_isTicket) := goodIn_app (goodIn_of _ (by decide +kernel)) ggX8_handOver_X8_isTicket
theorem dX8_handOver_0 : decode cX8_handOver 0 = .ok (.iload_n 1, 1) := by decide +kernel
theorem dX8_handOver_1 : decode cX8_handOver 1 = .ok (.iload_n 3, 1) := by decide +kernel
theorem dX8_handOver_2 : decode cX8_handOver 2 = .ok (.invokestatic 40, 3) := by decide +kernel
theorem dX8_handOver_5 : decode cX8_handOver 5 = .ok (.ifCond .eq 11, 3) := by decide +kernel
theorem dX8_handOver_8 : decode cX8_handOver 8 = .ok (.iload_n 2, 1) := by decide +kernel
theorem dX8_handOver_9 : decode cX8_handOver 9 = .ok (.iload_n 3, 1) := by decide +kernel
theorem dX8_handOver_10 : decode cX8_handOver 10 = .ok (.invokestatic 40, 3) := by decide +kernel
theorem dX8_handOver_13 : decode cX8_handOver 13 = .ok (.ifCond .ne 5, 3) := by decide +kernel
theorem dX8_handOver_16 : decode cX8_handOver 16 = .ok (.iconst 0, 1) := by decide +kernel
theorem dX8_handOver_17 : decode cX8_handOver 17 = .ok (.ireturn, 1) := by decide +kernel
theorem dX8_handOver_18 : decode cX8_handOver 18 = .ok (.aload_n 0, 1) := by decide +kernel
theorem dX8_handOver_19 : decode cX8_handOver 19 = .ok (.getfield 15, 3) := by decide +kernel
theorem dX8_handOver_22 : decode cX8_handOver 22 = .ok (.iload_n 1, 1) := by decide +kernel
theorem dX8_handOver_23 : decode cX8_handOver 23 = .ok (.iconst 4, 1) := by decide +kernel
theorem dX8_handOver_24 : decode cX8_handOver 24 = .ok (.imul, 1) := by decide +kernel
theorem dX8_handOver_25 : decode cX8_handOver 25 = .ok (.iload_n 3, 1) := by decide +kernel
theorem dX8_handOver_26 : decode cX8_handOver 26 = .ok (.iadd, 1) := by decide +kernel
theorem dX8_handOver_27 : decode cX8_handOver 27 = .ok (.iaload, 1) := by decide +kernel
theorem dX8_handOver_28 : decode cX8_handOver 28 = .ok (.istore 4, 2) := by decide +kernel
theorem dX8_handOver_30 : decode cX8_handOver 30 = .ok (.aload_n 0, 1) := by decide +kernel
theorem dX8_handOver_31 : decode cX8_handOver 31 = .ok (.getfield 15, 3) := by decide +kernel
theorem dX8_handOver_34 : decode cX8_handOver 34 = .ok (.iload_n 1, 1) := by decide +kernel
theorem dX8_handOver_35 : decode cX8_handOver 35 = .ok (.iconst 4, 1) := by decide +kernel
theorem dX8_handOver_36 : decode cX8_handOver 36 = .ok (.imul, 1) := by decide +kernel
theorem dX8_handOver_37 : decode cX8_handOver 37 = .ok (.iload_n 3, 1) := by decide +kernel
theorem dX8_handOver_38 : decode cX8_handOver 38 = .ok (.iadd, 1) := by decide +kernel
theorem dX8_handOver_39 : decode cX8_handOver 39 = .ok (.iconst (-1), 1) := by decide +kernel
theorem dX8_handOver_40 : decode cX8_handOver 40 = .ok (.iastore, 1) := by decide +kernel
theorem dX8_handOver_41 : decode cX8_handOver 41 = .ok (.aload_n 0, 1) := by decide +kernel
theorem dX8_handOver_42 : decode cX8_handOver 42 = .ok (.getfield 15, 3) := by decide +kernel
theorem dX8_handOver_45 : decode cX8_handOver 45 = .ok (.iload_n 2, 1) := by decide +kernel
theorem dX8_handOver_46 : decode cX8_handOver 46 = .ok (.iconst 4, 1) := by decide +kernel
theorem dX8_handOver_47 : decode cX8_handOver 47 = .ok (.imul, 1) := by decide +kernel
theorem dX8_handOver_48 : decode cX8_handOver 48 = .ok (.iload_n 3, 1) := by decide +kernel
theorem dX8_handOver_49 : decode cX8_handOver 49 = .ok (.iadd, 1) := by decide +kernel
theorem dX8_handOver_50 : decode cX8_handOver 50 = .ok (.iload 4, 2) := by decide +kernel
theorem dX8_handOver_52 : decode cX8_handOver 52 = .ok (.iastore, 1) := by decide +kernel
theorem dX8_handOver_53 : decode cX8_handOver 53 = .ok (.aload_n 0, 1) := by decide +kernel
theorem dX8_handOver_54 : decode cX8_handOver 54 = .ok (.getfield 22, 3) := by decide +kernel
theorem dX8_handOver_57 : decode cX8_handOver 57 = .ok (.iload_n 1, 1) := by decide +kernel
theorem dX8_handOver_58 : decode cX8_handOver 58 = .ok (.dup2, 1) := by decide +kernel
theorem dX8_handOver_59 : decode cX8_handOver 59 = .ok (.laload, 1) := by decide +kernel
theorem dX8_handOver_60 : decode cX8_handOver 60 = .ok (.iload 4, 2) := by decide +kernel
theorem dX8_handOver_62 : decode cX8_handOver 62 = .ok (.i2l, 1) := by decide +kernel
theorem dX8_handOver_63 : decode cX8_handOver 63 = .ok (.ladd, 1) := by decide +kernel
theorem dX8_handOver_64 : decode cX8_handOver 64 = .ok (.lastore, 1) := by decide +kernel
theorem dX8_handOver_65 : decode cX8_handOver 65 = .ok (.aload_n 0, 1) := by decide +kernel
theorem dX8_handOver_66 : decode cX8_handOver 66 = .ok (.getfield 22, 3) := by decide +kernel
theorem dX8_handOver_69 : decode cX8_handOver 69 = .ok (.iload_n 2, 1) := by decide +kernel
theorem dX8_handOver_70 : decode cX8_handOver 70 = .ok (.dup2, 1) := by decide +kernel
theorem dX8_handOver_71 : decode cX8_handOver 71 = .ok (.laload, 1) := by decide +kernel
theorem dX8_handOver_72 : decode cX8_handOver 72 = .ok (.iload 4, 2) := by decide +kernel
theorem dX8_handOver_74 : decode cX8_handOver 74 = .ok (.i2l, 1) := by decide +kernel
theorem dX8_handOver_75 : decode cX8_handOver 75 = .ok (.lsub, 1) := by decide +kernel
theorem dX8_handOver_76 : decode cX8_handOver 76 = .ok (.lastore, 1) := by decide +kernel
theorem dX8_handOver_77 : decode cX8_handOver 77 = .ok (.iload 4, 2) := by decide +kernel
theorem dX8_handOver_79 : decode cX8_handOver 79 = .ok (.ireturn, 1) := by decide +kernel
set_option maxRecDepth 20000 in
theorem ggX8_payMembers_X7_membersOf : GoodIn wsX8_payMembers wsX7_membersOf := goodIn_r _ [6, 7, 8, 9, 10, 5, 11, 30, 31, 32, 33, 34, 35, 36, 37] (by decide +kernel) (by decide +kernel)
set_option maxRecDepth 20000 in
theorem gX8_payMembers_X7_membersOf : GoodIn wsX8_payMembers (wsV RX8 48 RX7 yX7_membersOf wsX7_membersOf) := goodIn_app (goodIn_of _ (by decide +kernel)) ggX8_payMembers_X7_membersOf
set_option maxRecDepth 20000 in
theorem ggX8_payMembers_J6_bitCount_0f7a4 : GoodIn wsX8_payMembers wsJ6_bitCount_0f7a4 := goodIn_r _ [15, 16, 17, 18] (by decide +kernel) (by decide +kernel)
set_option maxRecDepth 20000 in
theorem gX8_payMembers_J6_bitCount_0f7a4 : GoodIn wsX8_payMembers (va_wsS RX8 54 yJ6_bitCount_0f7a4 wsJ6_bitCount_0f7a4) := goodIn_app (goodIn_of _ (by decide +kernel)) ggX8_payMembers_J6_bitCount_0f7a4
set_option maxRecDepth 20000 in
theorem ggX8_payMembers_X8_payAct : GoodIn wsX8_payMembers wsX8_payAct := goodIn_r _ [23, 24, 25, 26, 27, 28, 29] (by decide +kernel) (by decide +kernel)
set_option maxRecDepth 20000 in
theorem gX8_payMembers_X8_payAct : GoodIn wsX8_payMembers (wsV RX8 59 RX8 yX8_payAct wsX8_payAct) := goodIn_app (goodIn_of _ (by decide +kernel)) ggX8_payMembers_X8_payAct
theorem dX8_payMembers_0 : decode cX8_payMembers 0 = .ok (.iconst 0, 1) := by decide +kernel
theorem dX8_payMembers_1 : decode cX8_payMembers 1 = .ok (.istore_n 3, 1) := by decide +kernel
theorem dX8_payMembers_2 : decode cX8_payMembers 2 = .ok (.iconst 0, 1) := by decide +kernel
theorem dX8_payMembers_3 : decode cX8_payMembers 3 = .ok (.istore 4, 2) := by decide +kernel
theorem dX8_payMembers_5 : decode cX8_payMembers 5 = .ok (.iload 4, 2) := by decide +kernel
theorem dX8_payMembers_7 : decode cX8_payMembers 7 = .ok (.bipush 16, 2) := by decide +kernel
theorem dX8_payMembers_9 : decode cX8_payMembers 9 = .ok (.if_icmp .ge 28, 3) := by decide +kernel
theorem dX8_payMembers_12 : decode cX8_payMembers 12 = .ok (.iload_n 3, 1) := by decide +kernel
theorem dX8_payMembers_13 : decode cX8_payMembers 13 = .ok (.iload_n 2, 1) := by decide +kernel
theorem dX8_payMembers_14 : decode cX8_payMembers 14 = .ok (.iload 4, 2) := by decide +kernel
theorem dX8_payMembers_16 : decode cX8_payMembers 16 = .ok (.ishr, 1) := by decide +kernel
theorem dX8_payMembers_17 : decode cX8_payMembers 17 = .ok (.iconst 1, 1) := by decide +kernel
theorem dX8_payMembers_18 : decode cX8_payMembers 18 = .ok (.iand, 1) := by decide +kernel
theorem dX8_payMembers_19 : decode cX8_payMembers 19 = .ok (.aload_n 1, 1) := by decide +kernel
theorem dX8_payMembers_20 : decode cX8_payMembers 20 = .ok (.iload 4, 2) := by decide +kernel
theorem dX8_payMembers_22 : decode cX8_payMembers 22 = .ok (.invokevirtual 48, 3) := by decide +kernel
theorem dX8_payMembers_25 : decode cX8_payMembers 25 = .ok (.invokestatic 54, 3) := by decide +kernel
theorem dX8_payMembers_28 : decode cX8_payMembers 28 = .ok (.imul, 1) := by decide +kernel
theorem dX8_payMembers_29 : decode cX8_payMembers 29 = .ok (.iadd, 1) := by decide +kernel
theorem dX8_payMembers_30 : decode cX8_payMembers 30 = .ok (.istore_n 3, 1) := by decide +kernel
theorem dX8_payMembers_31 : decode cX8_payMembers 31 = .ok (.iinc 4 1, 3) := by decide +kernel
theorem dX8_payMembers_34 : decode cX8_payMembers 34 = .ok (.goto (-29), 3) := by decide +kernel
theorem dX8_payMembers_37 : decode cX8_payMembers 37 = .ok (.aload_n 0, 1) := by decide +kernel
theorem dX8_payMembers_38 : decode cX8_payMembers 38 = .ok (.getfield 18, 3) := by decide +kernel
theorem dX8_payMembers_41 : decode cX8_payMembers 41 = .ok (.lconst 0, 1) := by decide +kernel
theorem dX8_payMembers_42 : decode cX8_payMembers 42 = .ok (.lcmp, 1) := by decide +kernel
theorem dX8_payMembers_43 : decode cX8_payMembers 43 = .ok (.ifCond .le 7, 3) := by decide +kernel
theorem dX8_payMembers_46 : decode cX8_payMembers 46 = .ok (.iload_n 3, 1) := by decide +kernel
theorem dX8_payMembers_47 : decode cX8_payMembers 47 = .ok (.ifCond .gt 5, 3) := by decide +kernel
theorem dX8_payMembers_50 : decode cX8_payMembers 50 = .ok (.iconst 0, 1) := by decide +kernel
theorem dX8_payMembers_51 : decode cX8_payMembers 51 = .ok (.ireturn, 1) := by decide +kernel
theorem dX8_payMembers_52 : decode cX8_payMembers 52 = .ok (.aload_n 0, 1) := by decide +kernel
theorem dX8_payMembers_53 : decode cX8_payMembers 53 = .ok (.getfield 18, 3) := by decide +kernel
theorem dX8_payMembers_56 : decode cX8_payMembers 56 = .ok (.iload_n 3, 1) := by decide +kernel
theorem dX8_payMembers_57 : decode cX8_payMembers 57 = .ok (.i2l, 1) := by decide +kernel
theorem dX8_payMembers_58 : decode cX8_payMembers 58 = .ok (.ldiv, 1) := by decide +kernel
theorem dX8_payMembers_59 : decode cX8_payMembers 59 = .ok (.lstore 4, 2) := by decide +kernel
theorem dX8_payMembers_61 : decode cX8_payMembers 61 = .ok (.aload_n 0, 1) := by decide +kernel
theorem dX8_payMembers_62 : decode cX8_payMembers 62 = .ok (.dup, 1) := by decide +kernel
theorem dX8_payMembers_63 : decode cX8_payMembers 63 = .ok (.getfield 18, 3) := by decide +kernel
theorem dX8_payMembers_66 : decode cX8_payMembers 66 = .ok (.lload 4, 2) := by decide +kernel
theorem dX8_payMembers_68 : decode cX8_payMembers 68 = .ok (.iload_n 3, 1) := by decide +kernel
theorem dX8_payMembers_69 : decode cX8_payMembers 69 = .ok (.i2l, 1) := by decide +kernel
theorem dX8_payMembers_70 : decode cX8_payMembers 70 = .ok (.lmul, 1) := by decide +kernel
theorem dX8_payMembers_71 : decode cX8_payMembers 71 = .ok (.lsub, 1) := by decide +kernel
theorem dX8_payMembers_72 : decode cX8_payMembers 72 = .ok (.putfield 18, 3) := by decide +kernel
theorem dX8_payMembers_75 : decode cX8_payMembers 75 = .ok (.iconst 0, 1) := by decide +kernel
theorem dX8_payMembers_76 : decode cX8_payMembers 76 = .ok (.istore 6, 2) := by decide +kernel
theorem dX8_payMembers_78 : decode cX8_payMembers 78 = .ok (.iload 6, 2) := by decide +kernel
theorem dX8_payMembers_80 : decode cX8_payMembers 80 = .ok (.bipush 16, 2) := by decide +kernel
theorem dX8_payMembers_82 : decode cX8_payMembers 82 = .ok (.if_icmp .ge 34, 3) := by decide +kernel
theorem dX8_payMembers_85 : decode cX8_payMembers 85 = .ok (.aload_n 0, 1) := by decide +kernel
theorem dX8_payMembers_86 : decode cX8_payMembers 86 = .ok (.iload_n 2, 1) := by decide +kernel
theorem dX8_payMembers_87 : decode cX8_payMembers 87 = .ok (.iload 6, 2) := by decide +kernel
theorem dX8_payMembers_89 : decode cX8_payMembers 89 = .ok (.ishr, 1) := by decide +kernel
theorem dX8_payMembers_90 : decode cX8_payMembers 90 = .ok (.iconst 1, 1) := by decide +kernel
theorem dX8_payMembers_91 : decode cX8_payMembers 91 = .ok (.iand, 1) := by decide +kernel
theorem dX8_payMembers_92 : decode cX8_payMembers 92 = .ok (.ifCond .ne 7, 3) := by decide +kernel
theorem dX8_payMembers_95 : decode cX8_payMembers 95 = .ok (.iconst 0, 1) := by decide +kernel
theorem dX8_payMembers_96 : decode cX8_payMembers 96 = .ok (.goto 9, 3) := by decide +kernel
theorem dX8_payMembers_99 : decode cX8_payMembers 99 = .ok (.aload_n 1, 1) := by decide +kernel
theorem dX8_payMembers_100 : decode cX8_payMembers 100 = .ok (.iload 6, 2) := by decide +kernel
theorem dX8_payMembers_102 : decode cX8_payMembers 102 = .ok (.invokevirtual 48, 3) := by decide +kernel
theorem dX8_payMembers_105 : decode cX8_payMembers 105 = .ok (.lload 4, 2) := by decide +kernel
theorem dX8_payMembers_107 : decode cX8_payMembers 107 = .ok (.invokevirtual 59, 3) := by decide +kernel
theorem dX8_payMembers_110 : decode cX8_payMembers 110 = .ok (.iinc 6 1, 3) := by decide +kernel
theorem dX8_payMembers_113 : decode cX8_payMembers 113 = .ok (.goto (-35), 3) := by decide +kernel
theorem dX8_payMembers_116 : decode cX8_payMembers 116 = .ok (.lload 4, 2) := by decide +kernel
theorem dX8_payMembers_118 : decode cX8_payMembers 118 = .ok (.l2i, 1) := by decide +kernel
theorem dX8_payMembers_119 : decode cX8_payMembers 119 = .ok (.ireturn, 1) := by decide +kernel
theorem dX8_payAct_0 : decode cX8_payAct 0 = .ok (.iconst 0, 1) := by decide +kernel
theorem dX8_payAct_1 : decode cX8_payAct 1 = .ok (.istore 4, 2) := by decide +kernel
theorem dX8_payAct_3 : decode cX8_payAct 3 = .ok (.iload 4, 2) := by decide +kernel
theorem dX8_payAct_5 : decode cX8_payAct 5 = .ok (.bipush 12, 2) := by decide +kernel
theorem dX8_payAct_7 : decode cX8_payAct 7 = .ok (.if_icmp .ge 29, 3) := by decide +kernel
theorem dX8_payAct_10 : decode cX8_payAct 10 = .ok (.iload_n 1, 1) := by decide +kernel
theorem dX8_payAct_11 : decode cX8_payAct 11 = .ok (.iload 4, 2) := by decide +kernel
theorem dX8_payAct_13 : decode cX8_payAct 13 = .ok (.ishr, 1) := by decide +kernel
theorem dX8_payAct_14 : decode cX8_payAct 14 = .ok (.iconst 1, 1) := by decide +kernel
theorem dX8_payAct_15 : decode cX8_payAct 15 = .ok (.iand, 1) := by decide +kernel
theorem dX8_payAct_16 : decode cX8_payAct 16 = .ok (.ifCond .eq 14, 3) := by decide +kernel
theorem dX8_payAct_19 : decode cX8_payAct 19 = .ok (.aload_n 0, 1) := by decide +kernel
theorem dX8_payAct_20 : decode cX8_payAct 20 = .ok (.getfield 26, 3) := by decide +kernel
theorem dX8_payAct_23 : decode cX8_payAct 23 = .ok (.iload 4, 2) := by decide +kernel
theorem dX8_payAct_25 : decode cX8_payAct 25 = .ok (.dup2, 1) := by decide +kernel
theorem dX8_payAct_26 : decode cX8_payAct 26 = .ok (.laload, 1) := by decide +kernel
theorem dX8_payAct_27 : decode cX8_payAct 27 = .ok (.lload_n 2, 1) := by decide +kernel
theorem dX8_payAct_28 : decode cX8_payAct 28 = .ok (.ladd, 1) := by decide +kernel
theorem dX8_payAct_29 : decode cX8_payAct 29 = .ok (.lastore, 1) := by decide +kernel
theorem dX8_payAct_30 : decode cX8_payAct 30 = .ok (.iinc 4 1, 3) := by decide +kernel
theorem dX8_payAct_33 : decode cX8_payAct 33 = .ok (.goto (-30), 3) := by decide +kernel
theorem dX8_payAct_36 : decode cX8_payAct 36 = .ok (.return_, 1) := by decide +kernel
theorem dX8_sumOfAll_0 : decode cX8_sumOfAll 0 = .ok (.aload_n 0, 1) := by decide +kernel
theorem dX8_sumOfAll_1 : decode cX8_sumOfAll 1 = .ok (.getfield 18, 3) := by decide +kernel
theorem dX8_sumOfAll_4 : decode cX8_sumOfAll 4 = .ok (.lstore_n 1, 1) := by decide +kernel
theorem dX8_sumOfAll_5 : decode cX8_sumOfAll 5 = .ok (.iconst 0, 1) := by decide +kernel
theorem dX8_sumOfAll_6 : decode cX8_sumOfAll 6 = .ok (.istore_n 3, 1) := by decide +kernel
theorem dX8_sumOfAll_7 : decode cX8_sumOfAll 7 = .ok (.iload_n 3, 1) := by decide +kernel
theorem dX8_sumOfAll_8 : decode cX8_sumOfAll 8 = .ok (.bipush 12, 2) := by decide +kernel
theorem dX8_sumOfAll_10 : decode cX8_sumOfAll 10 = .ok (.if_icmp .ge 18, 3) := by decide +kernel
theorem dX8_sumOfAll_13 : decode cX8_sumOfAll 13 = .ok (.lload_n 1, 1) := by decide +kernel
theorem dX8_sumOfAll_14 : decode cX8_sumOfAll 14 = .ok (.aload_n 0, 1) := by decide +kernel
theorem dX8_sumOfAll_15 : decode cX8_sumOfAll 15 = .ok (.getfield 22, 3) := by decide +kernel
theorem dX8_sumOfAll_18 : decode cX8_sumOfAll 18 = .ok (.iload_n 3, 1) := by decide +kernel
theorem dX8_sumOfAll_19 : decode cX8_sumOfAll 19 = .ok (.laload, 1) := by decide +kernel
theorem dX8_sumOfAll_20 : decode cX8_sumOfAll 20 = .ok (.ladd, 1) := by decide +kernel
theorem dX8_sumOfAll_21 : decode cX8_sumOfAll 21 = .ok (.lstore_n 1, 1) := by decide +kernel
theorem dX8_sumOfAll_22 : decode cX8_sumOfAll 22 = .ok (.iinc 3 1, 3) := by decide +kernel
theorem dX8_sumOfAll_25 : decode cX8_sumOfAll 25 = .ok (.goto (-18), 3) := by decide +kernel
theorem dX8_sumOfAll_28 : decode cX8_sumOfAll 28 = .ok (.iconst 0, 1) := by decide +kernel
theorem dX8_sumOfAll_29 : decode cX8_sumOfAll 29 = .ok (.istore_n 3, 1) := by decide +kernel
theorem dX8_sumOfAll_30 : decode cX8_sumOfAll 30 = .ok (.iload_n 3, 1) := by decide +kernel
theorem dX8_sumOfAll_31 : decode cX8_sumOfAll 31 = .ok (.bipush 12, 2) := by decide +kernel
theorem dX8_sumOfAll_33 : decode cX8_sumOfAll 33 = .ok (.if_icmp .ge 18, 3) := by decide +kernel
theorem dX8_sumOfAll_36 : decode cX8_sumOfAll 36 = .ok (.lload_n 1, 1) := by decide +kernel
theorem dX8_sumOfAll_37 : decode cX8_sumOfAll 37 = .ok (.aload_n 0, 1) := by decide +kernel
theorem dX8_sumOfAll_38 : decode cX8_sumOfAll 38 = .ok (.getfield 26, 3) := by decide +kernel
theorem dX8_sumOfAll_41 : decode cX8_sumOfAll 41 = .ok (.iload_n 3, 1) := by decide +kernel
theorem dX8_sumOfAll_42 : decode cX8_sumOfAll 42 = .ok (.laload, 1) := by decide +kernel
theorem dX8_sumOfAll_43 : decode cX8_sumOfAll 43 = .ok (.ladd, 1) := by decide +kernel
theorem dX8_sumOfAll_44 : decode cX8_sumOfAll 44 = .ok (.lstore_n 1, 1) := by decide +kernel
theorem dX8_sumOfAll_45 : decode cX8_sumOfAll 45 = .ok (.iinc 3 1, 3) := by decide +kernel
theorem dX8_sumOfAll_48 : decode cX8_sumOfAll 48 = .ok (.goto (-18), 3) := by decide +kernel
theorem dX8_sumOfAll_51 : decode cX8_sumOfAll 51 = .ok (.lload_n 1, 1) := by decide +kernel
theorem dX8_sumOfAll_52 : decode cX8_sumOfAll 52 = .ok (.lreturn, 1) := by decide +kernel
