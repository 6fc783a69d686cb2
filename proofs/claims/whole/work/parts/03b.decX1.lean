theorem dX1_init_0 : decode cX1_init 0 = .ok (.aload_n 0, 1) := by decide +kernel
theorem dX1_init_1 : decode cX1_init 1 = .ok (.invokespecial 1, 3) := by decide +kernel
theorem dX1_init_4 : decode cX1_init 4 = .ok (.aload_n 0, 1) := by decide +kernel
theorem dX1_init_5 : decode cX1_init 5 = .ok (.sipush 2026, 3) := by decide +kernel
theorem dX1_init_8 : decode cX1_init 8 = .ok (.putfield 7, 3) := by decide +kernel
theorem dX1_init_11 : decode cX1_init 11 = .ok (.aload_n 0, 1) := by decide +kernel
theorem dX1_init_12 : decode cX1_init 12 = .ok (.bipush 6, 2) := by decide +kernel
theorem dX1_init_14 : decode cX1_init 14 = .ok (.putfield 13, 3) := by decide +kernel
theorem dX1_init_17 : decode cX1_init 17 = .ok (.aload_n 0, 1) := by decide +kernel
theorem dX1_init_18 : decode cX1_init 18 = .ok (.iconst 1, 1) := by decide +kernel
theorem dX1_init_19 : decode cX1_init 19 = .ok (.putfield 16, 3) := by decide +kernel
theorem dX1_init_22 : decode cX1_init 22 = .ok (.return_, 1) := by decide +kernel
set_option maxRecDepth 20000 in
theorem ggX1_copyFrom_X1_startOn : GoodIn wsX1_copyFrom wsX1_startOn := goodIn_r _ [8, 1, 2, 3, 9, 10, 11] (by decide +kernel) (by decide +kernel)
set_option maxRecDepth 20000 in
theorem gX1_copyFrom_X1_startOn : GoodIn wsX1_copyFrom (wsV RX1 19 RX1 yX1_startOn wsX1_startOn) := goodIn_app (goodIn_of _ (by decide +kernel)) ggX1_copyFrom_X1_startOn
theorem dX1_copyFrom_0 : decode cX1_copyFrom 0 = .ok (.aload_n 0, 1) := by decide +kernel
theorem dX1_copyFrom_1 : decode cX1_copyFrom 1 = .ok (.aload_n 1, 1) := by decide +kernel
theorem dX1_copyFrom_2 : decode cX1_copyFrom 2 = .ok (.getfield 7, 3) := by decide +kernel
theorem dX1_copyFrom_5 : decode cX1_copyFrom 5 = .ok (.aload_n 1, 1) := by decide +kernel
theorem dX1_copyFrom_6 : decode cX1_copyFrom 6 = .ok (.getfield 13, 3) := by decide +kernel
theorem dX1_copyFrom_9 : decode cX1_copyFrom 9 = .ok (.aload_n 1, 1) := by decide +kernel
theorem dX1_copyFrom_10 : decode cX1_copyFrom 10 = .ok (.getfield 16, 3) := by decide +kernel
theorem dX1_copyFrom_13 : decode cX1_copyFrom 13 = .ok (.invokevirtual 19, 3) := by decide +kernel
theorem dX1_copyFrom_16 : decode cX1_copyFrom 16 = .ok (.return_, 1) := by decide +kernel
theorem dX1_startOn_0 : decode cX1_startOn 0 = .ok (.aload_n 0, 1) := by decide +kernel
theorem dX1_startOn_1 : decode cX1_startOn 1 = .ok (.iload_n 1, 1) := by decide +kernel
theorem dX1_startOn_2 : decode cX1_startOn 2 = .ok (.putfield 7, 3) := by decide +kernel
theorem dX1_startOn_5 : decode cX1_startOn 5 = .ok (.aload_n 0, 1) := by decide +kernel
theorem dX1_startOn_6 : decode cX1_startOn 6 = .ok (.iload_n 2, 1) := by decide +kernel
theorem dX1_startOn_7 : decode cX1_startOn 7 = .ok (.putfield 13, 3) := by decide +kernel
theorem dX1_startOn_10 : decode cX1_startOn 10 = .ok (.aload_n 0, 1) := by decide +kernel
theorem dX1_startOn_11 : decode cX1_startOn 11 = .ok (.iload_n 3, 1) := by decide +kernel
theorem dX1_startOn_12 : decode cX1_startOn 12 = .ok (.putfield 16, 3) := by decide +kernel
theorem dX1_startOn_15 : decode cX1_startOn 15 = .ok (.return_, 1) := by decide +kernel
set_option maxRecDepth 20000 in
theorem ggX1_isDate_X1_daysIn : GoodIn wsX1_isDate wsX1_daysIn := goodIn_r _ [4, 5, 6, 3, 7] (by decide +kernel) (by decide +kernel)
set_option maxRecDepth 20000 in
theorem gX1_isDate_X1_daysIn : GoodIn wsX1_isDate (va_wsS RX1 23 yX1_daysIn wsX1_daysIn) := goodIn_app (goodIn_of _ (by decide +kernel)) ggX1_isDate_X1_daysIn
theorem dX1_isDate_0 : decode cX1_isDate 0 = .ok (.iload_n 0, 1) := by decide +kernel
theorem dX1_isDate_1 : decode cX1_isDate 1 = .ok (.iconst 1, 1) := by decide +kernel
theorem dX1_isDate_2 : decode cX1_isDate 2 = .ok (.if_icmp .lt 39, 3) := by decide +kernel
theorem dX1_isDate_5 : decode cX1_isDate 5 = .ok (.iload_n 0, 1) := by decide +kernel
theorem dX1_isDate_6 : decode cX1_isDate 6 = .ok (.sipush 9990, 3) := by decide +kernel
theorem dX1_isDate_9 : decode cX1_isDate 9 = .ok (.if_icmp .gt 32, 3) := by decide +kernel
theorem dX1_isDate_12 : decode cX1_isDate 12 = .ok (.iload_n 1, 1) := by decide +kernel
theorem dX1_isDate_13 : decode cX1_isDate 13 = .ok (.iconst 1, 1) := by decide +kernel
theorem dX1_isDate_14 : decode cX1_isDate 14 = .ok (.if_icmp .lt 27, 3) := by decide +kernel
theorem dX1_isDate_17 : decode cX1_isDate 17 = .ok (.iload_n 1, 1) := by decide +kernel
theorem dX1_isDate_18 : decode cX1_isDate 18 = .ok (.bipush 12, 2) := by decide +kernel
theorem dX1_isDate_20 : decode cX1_isDate 20 = .ok (.if_icmp .gt 21, 3) := by decide +kernel
theorem dX1_isDate_23 : decode cX1_isDate 23 = .ok (.iload_n 2, 1) := by decide +kernel
theorem dX1_isDate_24 : decode cX1_isDate 24 = .ok (.iconst 1, 1) := by decide +kernel
theorem dX1_isDate_25 : decode cX1_isDate 25 = .ok (.if_icmp .lt 16, 3) := by decide +kernel
theorem dX1_isDate_28 : decode cX1_isDate 28 = .ok (.iload_n 2, 1) := by decide +kernel
theorem dX1_isDate_29 : decode cX1_isDate 29 = .ok (.iload_n 0, 1) := by decide +kernel
theorem dX1_isDate_30 : decode cX1_isDate 30 = .ok (.iload_n 1, 1) := by decide +kernel
theorem dX1_isDate_31 : decode cX1_isDate 31 = .ok (.invokestatic 23, 3) := by decide +kernel
theorem dX1_isDate_34 : decode cX1_isDate 34 = .ok (.if_icmp .gt 7, 3) := by decide +kernel
theorem dX1_isDate_37 : decode cX1_isDate 37 = .ok (.iconst 1, 1) := by decide +kernel
theorem dX1_isDate_38 : decode cX1_isDate 38 = .ok (.goto 4, 3) := by decide +kernel
theorem dX1_isDate_41 : decode cX1_isDate 41 = .ok (.iconst 0, 1) := by decide +kernel
theorem dX1_isDate_42 : decode cX1_isDate 42 = .ok (.ireturn, 1) := by decide +kernel
theorem dX1_isLeap_0 : decode cX1_isLeap 0 = .ok (.iload_n 0, 1) := by decide +kernel
theorem dX1_isLeap_1 : decode cX1_isLeap 1 = .ok (.iconst 4, 1) := by decide +kernel
theorem dX1_isLeap_2 : decode cX1_isLeap 2 = .ok (.irem, 1) := by decide +kernel
theorem dX1_isLeap_3 : decode cX1_isLeap 3 = .ok (.ifCond .ne 22, 3) := by decide +kernel
theorem dX1_isLeap_6 : decode cX1_isLeap 6 = .ok (.iload_n 0, 1) := by decide +kernel
theorem dX1_isLeap_7 : decode cX1_isLeap 7 = .ok (.bipush 100, 2) := by decide +kernel
theorem dX1_isLeap_9 : decode cX1_isLeap 9 = .ok (.irem, 1) := by decide +kernel
theorem dX1_isLeap_10 : decode cX1_isLeap 10 = .ok (.ifCond .ne 11, 3) := by decide +kernel
theorem dX1_isLeap_13 : decode cX1_isLeap 13 = .ok (.iload_n 0, 1) := by decide +kernel
theorem dX1_isLeap_14 : decode cX1_isLeap 14 = .ok (.sipush 400, 3) := by decide +kernel
theorem dX1_isLeap_17 : decode cX1_isLeap 17 = .ok (.irem, 1) := by decide +kernel
theorem dX1_isLeap_18 : decode cX1_isLeap 18 = .ok (.ifCond .ne 7, 3) := by decide +kernel
theorem dX1_isLeap_21 : decode cX1_isLeap 21 = .ok (.iconst 1, 1) := by decide +kernel
theorem dX1_isLeap_22 : decode cX1_isLeap 22 = .ok (.goto 4, 3) := by decide +kernel
theorem dX1_isLeap_25 : decode cX1_isLeap 25 = .ok (.iconst 0, 1) := by decide +kernel
theorem dX1_isLeap_26 : decode cX1_isLeap 26 = .ok (.ireturn, 1) := by decide +kernel
set_option maxRecDepth 20000 in
theorem ggX1_daysIn_X1_isLeap : GoodIn wsX1_daysIn wsX1_isLeap := goodIn_r _ [4] (by decide +kernel) (by decide +kernel)
set_option maxRecDepth 20000 in
theorem gX1_daysIn_X1_isLeap : GoodIn wsX1_daysIn (va_wsS RX1 27 yX1_isLeap wsX1_isLeap) := goodIn_app (goodIn_of _ (by decide +kernel)) ggX1_daysIn_X1_isLeap
theorem dX1_daysIn_0 : decode cX1_daysIn 0 = .ok (.iload_n 1, 1) := by decide +kernel
theorem dX1_daysIn_1 : decode cX1_daysIn 1 = .ok (.iconst 2, 1) := by decide +kernel
theorem dX1_daysIn_2 : decode cX1_daysIn 2 = .ok (.if_icmp .ne 18, 3) := by decide +kernel
theorem dX1_daysIn_5 : decode cX1_daysIn 5 = .ok (.iload_n 0, 1) := by decide +kernel
theorem dX1_daysIn_6 : decode cX1_daysIn 6 = .ok (.invokestatic 27, 3) := by decide +kernel
theorem dX1_daysIn_9 : decode cX1_daysIn 9 = .ok (.ifCond .eq 8, 3) := by decide +kernel
theorem dX1_daysIn_12 : decode cX1_daysIn 12 = .ok (.bipush 29, 2) := by decide +kernel
theorem dX1_daysIn_14 : decode cX1_daysIn 14 = .ok (.goto 5, 3) := by decide +kernel
theorem dX1_daysIn_17 : decode cX1_daysIn 17 = .ok (.bipush 28, 2) := by decide +kernel
theorem dX1_daysIn_19 : decode cX1_daysIn 19 = .ok (.ireturn, 1) := by decide +kernel
theorem dX1_daysIn_20 : decode cX1_daysIn 20 = .ok (.iload_n 1, 1) := by decide +kernel
theorem dX1_daysIn_21 : decode cX1_daysIn 21 = .ok (.iconst 4, 1) := by decide +kernel
theorem dX1_daysIn_22 : decode cX1_daysIn 22 = .ok (.if_icmp .eq 21, 3) := by decide +kernel
theorem dX1_daysIn_25 : decode cX1_daysIn 25 = .ok (.iload_n 1, 1) := by decide +kernel
theorem dX1_daysIn_26 : decode cX1_daysIn 26 = .ok (.bipush 6, 2) := by decide +kernel
theorem dX1_daysIn_28 : decode cX1_daysIn 28 = .ok (.if_icmp .eq 15, 3) := by decide +kernel
theorem dX1_daysIn_31 : decode cX1_daysIn 31 = .ok (.iload_n 1, 1) := by decide +kernel
theorem dX1_daysIn_32 : decode cX1_daysIn 32 = .ok (.bipush 9, 2) := by decide +kernel
theorem dX1_daysIn_34 : decode cX1_daysIn 34 = .ok (.if_icmp .eq 9, 3) := by decide +kernel
theorem dX1_daysIn_37 : decode cX1_daysIn 37 = .ok (.iload_n 1, 1) := by decide +kernel
theorem dX1_daysIn_38 : decode cX1_daysIn 38 = .ok (.bipush 11, 2) := by decide +kernel
theorem dX1_daysIn_40 : decode cX1_daysIn 40 = .ok (.if_icmp .ne 8, 3) := by decide +kernel
theorem dX1_daysIn_43 : decode cX1_daysIn 43 = .ok (.bipush 30, 2) := by decide +kernel
theorem dX1_daysIn_45 : decode cX1_daysIn 45 = .ok (.goto 5, 3) := by decide +kernel
theorem dX1_daysIn_48 : decode cX1_daysIn 48 = .ok (.bipush 31, 2) := by decide +kernel
theorem dX1_daysIn_50 : decode cX1_daysIn 50 = .ok (.ireturn, 1) := by decide +kernel
set_option maxRecDepth 20000 in
theorem ggX1_partOf_X1_weekdayOf : GoodIn wsX1_partOf wsX1_weekdayOf := goodIn_r _ [8, 1, 2, 3, 9, 10, 7, 11, 12, 13, 14, 15, 16, 17] (by decide +kernel) (by decide +kernel)
set_option maxRecDepth 20000 in
theorem gX1_partOf_X1_weekdayOf : GoodIn wsX1_partOf (wsV RX1 31 RX1 yX1_weekdayOf wsX1_weekdayOf) := goodIn_app (goodIn_of _ (by decide +kernel)) ggX1_partOf_X1_weekdayOf
set_option maxRecDepth 20000 in
theorem ggX1_partOf_X1_daysIn : GoodIn wsX1_partOf wsX1_daysIn := goodIn_r _ [11, 12, 13, 7, 14] (by decide +kernel) (by decide +kernel)
set_option maxRecDepth 20000 in
theorem gX1_partOf_X1_daysIn : GoodIn wsX1_partOf (va_wsS RX1 23 yX1_daysIn wsX1_daysIn) := goodIn_app (goodIn_of _ (by decide +kernel)) ggX1_partOf_X1_daysIn
theorem dX1_partOf_0 : decode cX1_partOf 0 = .ok (.iload_n 2, 1) := by decide +kernel
theorem dX1_partOf_1 : decode cX1_partOf 1 = .ok (.iconst 3, 1) := by decide +kernel
theorem dX1_partOf_2 : decode cX1_partOf 2 = .ok (.if_icmp .ne 9, 3) := by decide +kernel
theorem dX1_partOf_5 : decode cX1_partOf 5 = .ok (.aload_n 0, 1) := by decide +kernel
theorem dX1_partOf_6 : decode cX1_partOf 6 = .ok (.iload_n 1, 1) := by decide +kernel
theorem dX1_partOf_7 : decode cX1_partOf 7 = .ok (.invokevirtual 31, 3) := by decide +kernel
theorem dX1_partOf_10 : decode cX1_partOf 10 = .ok (.ireturn, 1) := by decide +kernel
theorem dX1_partOf_11 : decode cX1_partOf 11 = .ok (.aload_n 0, 1) := by decide +kernel
theorem dX1_partOf_12 : decode cX1_partOf 12 = .ok (.getfield 7, 3) := by decide +kernel
theorem dX1_partOf_15 : decode cX1_partOf 15 = .ok (.aload_n 0, 1) := by decide +kernel
theorem dX1_partOf_16 : decode cX1_partOf 16 = .ok (.getfield 13, 3) := by decide +kernel
theorem dX1_partOf_19 : decode cX1_partOf 19 = .ok (.invokestatic 23, 3) := by decide +kernel
theorem dX1_partOf_22 : decode cX1_partOf 22 = .ok (.istore_n 3, 1) := by decide +kernel
theorem dX1_partOf_23 : decode cX1_partOf 23 = .ok (.aload_n 0, 1) := by decide +kernel
theorem dX1_partOf_24 : decode cX1_partOf 24 = .ok (.getfield 16, 3) := by decide +kernel
theorem dX1_partOf_27 : decode cX1_partOf 27 = .ok (.iload_n 1, 1) := by decide +kernel
theorem dX1_partOf_28 : decode cX1_partOf 28 = .ok (.iadd, 1) := by decide +kernel
theorem dX1_partOf_29 : decode cX1_partOf 29 = .ok (.iload_n 3, 1) := by decide +kernel
theorem dX1_partOf_30 : decode cX1_partOf 30 = .ok (.if_icmp .le 7, 3) := by decide +kernel
theorem dX1_partOf_33 : decode cX1_partOf 33 = .ok (.iconst 1, 1) := by decide +kernel
theorem dX1_partOf_34 : decode cX1_partOf 34 = .ok (.goto 4, 3) := by decide +kernel
theorem dX1_partOf_37 : decode cX1_partOf 37 = .ok (.iconst 0, 1) := by decide +kernel
theorem dX1_partOf_38 : decode cX1_partOf 38 = .ok (.istore 4, 2) := by decide +kernel
theorem dX1_partOf_40 : decode cX1_partOf 40 = .ok (.iload 4, 2) := by decide +kernel
theorem dX1_partOf_42 : decode cX1_partOf 42 = .ok (.ifCond .eq 16, 3) := by decide +kernel
theorem dX1_partOf_45 : decode cX1_partOf 45 = .ok (.aload_n 0, 1) := by decide +kernel
theorem dX1_partOf_46 : decode cX1_partOf 46 = .ok (.getfield 13, 3) := by decide +kernel
theorem dX1_partOf_49 : decode cX1_partOf 49 = .ok (.bipush 12, 2) := by decide +kernel
theorem dX1_partOf_51 : decode cX1_partOf 51 = .ok (.if_icmp .ne 7, 3) := by decide +kernel
theorem dX1_partOf_54 : decode cX1_partOf 54 = .ok (.iconst 1, 1) := by decide +kernel
theorem dX1_partOf_55 : decode cX1_partOf 55 = .ok (.goto 4, 3) := by decide +kernel
theorem dX1_partOf_58 : decode cX1_partOf 58 = .ok (.iconst 0, 1) := by decide +kernel
theorem dX1_partOf_59 : decode cX1_partOf 59 = .ok (.istore 5, 2) := by decide +kernel
theorem dX1_partOf_61 : decode cX1_partOf 61 = .ok (.iload_n 2, 1) := by decide +kernel
theorem dX1_partOf_62 : decode cX1_partOf 62 = .ok (.ifCond .ne 22, 3) := by decide +kernel
theorem dX1_partOf_65 : decode cX1_partOf 65 = .ok (.iload 5, 2) := by decide +kernel
theorem dX1_partOf_67 : decode cX1_partOf 67 = .ok (.ifCond .eq 12, 3) := by decide +kernel
theorem dX1_partOf_70 : decode cX1_partOf 70 = .ok (.aload_n 0, 1) := by decide +kernel
theorem dX1_partOf_71 : decode cX1_partOf 71 = .ok (.getfield 7, 3) := by decide +kernel
theorem dX1_partOf_74 : decode cX1_partOf 74 = .ok (.iconst 1, 1) := by decide +kernel
theorem dX1_partOf_75 : decode cX1_partOf 75 = .ok (.iadd, 1) := by decide +kernel
theorem dX1_partOf_76 : decode cX1_partOf 76 = .ok (.goto 7, 3) := by decide +kernel
theorem dX1_partOf_79 : decode cX1_partOf 79 = .ok (.aload_n 0, 1) := by decide +kernel
theorem dX1_partOf_80 : decode cX1_partOf 80 = .ok (.getfield 7, 3) := by decide +kernel
theorem dX1_partOf_83 : decode cX1_partOf 83 = .ok (.ireturn, 1) := by decide +kernel
theorem dX1_partOf_84 : decode cX1_partOf 84 = .ok (.iload_n 2, 1) := by decide +kernel
theorem dX1_partOf_85 : decode cX1_partOf 85 = .ok (.iconst 1, 1) := by decide +kernel
theorem dX1_partOf_86 : decode cX1_partOf 86 = .ok (.if_icmp .ne 31, 3) := by decide +kernel
theorem dX1_partOf_89 : decode cX1_partOf 89 = .ok (.iload 5, 2) := by decide +kernel
theorem dX1_partOf_91 : decode cX1_partOf 91 = .ok (.ifCond .eq 7, 3) := by decide +kernel
theorem dX1_partOf_94 : decode cX1_partOf 94 = .ok (.iconst 1, 1) := by decide +kernel
theorem dX1_partOf_95 : decode cX1_partOf 95 = .ok (.goto 21, 3) := by decide +kernel
theorem dX1_partOf_98 : decode cX1_partOf 98 = .ok (.iload 4, 2) := by decide +kernel
theorem dX1_partOf_100 : decode cX1_partOf 100 = .ok (.ifCond .eq 12, 3) := by decide +kernel
theorem dX1_partOf_103 : decode cX1_partOf 103 = .ok (.aload_n 0, 1) := by decide +kernel
theorem dX1_partOf_104 : decode cX1_partOf 104 = .ok (.getfield 13, 3) := by decide +kernel
theorem dX1_partOf_107 : decode cX1_partOf 107 = .ok (.iconst 1, 1) := by decide +kernel
theorem dX1_partOf_108 : decode cX1_partOf 108 = .ok (.iadd, 1) := by decide +kernel
theorem dX1_partOf_109 : decode cX1_partOf 109 = .ok (.goto 7, 3) := by decide +kernel
theorem dX1_partOf_112 : decode cX1_partOf 112 = .ok (.aload_n 0, 1) := by decide +kernel
theorem dX1_partOf_113 : decode cX1_partOf 113 = .ok (.getfield 13, 3) := by decide +kernel
theorem dX1_partOf_116 : decode cX1_partOf 116 = .ok (.ireturn, 1) := by decide +kernel
theorem dX1_partOf_117 : decode cX1_partOf 117 = .ok (.iload 4, 2) := by decide +kernel
theorem dX1_partOf_119 : decode cX1_partOf 119 = .ok (.ifCond .eq 14, 3) := by decide +kernel
theorem dX1_partOf_122 : decode cX1_partOf 122 = .ok (.aload_n 0, 1) := by decide +kernel
theorem dX1_partOf_123 : decode cX1_partOf 123 = .ok (.getfield 16, 3) := by decide +kernel
theorem dX1_partOf_126 : decode cX1_partOf 126 = .ok (.iload_n 1, 1) := by decide +kernel
theorem dX1_partOf_127 : decode cX1_partOf 127 = .ok (.iadd, 1) := by decide +kernel
theorem dX1_partOf_128 : decode cX1_partOf 128 = .ok (.iload_n 3, 1) := by decide +kernel
theorem dX1_partOf_129 : decode cX1_partOf 129 = .ok (.isub, 1) := by decide +kernel
theorem dX1_partOf_130 : decode cX1_partOf 130 = .ok (.goto 9, 3) := by decide +kernel
theorem dX1_partOf_133 : decode cX1_partOf 133 = .ok (.aload_n 0, 1) := by decide +kernel
theorem dX1_partOf_134 : decode cX1_partOf 134 = .ok (.getfield 16, 3) := by decide +kernel
theorem dX1_partOf_137 : decode cX1_partOf 137 = .ok (.iload_n 1, 1) := by decide +kernel
theorem dX1_partOf_138 : decode cX1_partOf 138 = .ok (.iadd, 1) := by decide +kernel
theorem dX1_partOf_139 : decode cX1_partOf 139 = .ok (.ireturn, 1) := by decide +kernel
set_option maxRecDepth 20000 in
theorem ggX1_weekdayOf_X1_daysIn : GoodIn wsX1_weekdayOf wsX1_daysIn := goodIn_r _ [7, 8, 9, 6, 10] (by decide +kernel) (by decide +kernel)
set_option maxRecDepth 20000 in
theorem gX1_weekdayOf_X1_daysIn : GoodIn wsX1_weekdayOf (va_wsS RX1 23 yX1_daysIn wsX1_daysIn) := goodIn_app (goodIn_of _ (by decide +kernel)) ggX1_weekdayOf_X1_daysIn
theorem dX1_weekdayOf_0 : decode cX1_weekdayOf 0 = .ok (.aload_n 0, 1) := by decide +kernel
theorem dX1_weekdayOf_1 : decode cX1_weekdayOf 1 = .ok (.getfield 7, 3) := by decide +kernel
theorem dX1_weekdayOf_4 : decode cX1_weekdayOf 4 = .ok (.iconst 1, 1) := by decide +kernel
theorem dX1_weekdayOf_5 : decode cX1_weekdayOf 5 = .ok (.isub, 1) := by decide +kernel
theorem dX1_weekdayOf_6 : decode cX1_weekdayOf 6 = .ok (.istore_n 2, 1) := by decide +kernel
theorem dX1_weekdayOf_7 : decode cX1_weekdayOf 7 = .ok (.sipush 365, 3) := by decide +kernel
theorem dX1_weekdayOf_10 : decode cX1_weekdayOf 10 = .ok (.iload_n 2, 1) := by decide +kernel
theorem dX1_weekdayOf_11 : decode cX1_weekdayOf 11 = .ok (.imul, 1) := by decide +kernel
theorem dX1_weekdayOf_12 : decode cX1_weekdayOf 12 = .ok (.iload_n 2, 1) := by decide +kernel
theorem dX1_weekdayOf_13 : decode cX1_weekdayOf 13 = .ok (.iconst 4, 1) := by decide +kernel
theorem dX1_weekdayOf_14 : decode cX1_weekdayOf 14 = .ok (.idiv, 1) := by decide +kernel
theorem dX1_weekdayOf_15 : decode cX1_weekdayOf 15 = .ok (.iadd, 1) := by decide +kernel
theorem dX1_weekdayOf_16 : decode cX1_weekdayOf 16 = .ok (.iload_n 2, 1) := by decide +kernel
theorem dX1_weekdayOf_17 : decode cX1_weekdayOf 17 = .ok (.bipush 100, 2) := by decide +kernel
theorem dX1_weekdayOf_19 : decode cX1_weekdayOf 19 = .ok (.idiv, 1) := by decide +kernel
theorem dX1_weekdayOf_20 : decode cX1_weekdayOf 20 = .ok (.isub, 1) := by decide +kernel
theorem dX1_weekdayOf_21 : decode cX1_weekdayOf 21 = .ok (.iload_n 2, 1) := by decide +kernel
theorem dX1_weekdayOf_22 : decode cX1_weekdayOf 22 = .ok (.sipush 400, 3) := by decide +kernel
theorem dX1_weekdayOf_25 : decode cX1_weekdayOf 25 = .ok (.idiv, 1) := by decide +kernel
theorem dX1_weekdayOf_26 : decode cX1_weekdayOf 26 = .ok (.iadd, 1) := by decide +kernel
theorem dX1_weekdayOf_27 : decode cX1_weekdayOf 27 = .ok (.istore_n 3, 1) := by decide +kernel
theorem dX1_weekdayOf_28 : decode cX1_weekdayOf 28 = .ok (.iconst 1, 1) := by decide +kernel
theorem dX1_weekdayOf_29 : decode cX1_weekdayOf 29 = .ok (.istore 4, 2) := by decide +kernel
theorem dX1_weekdayOf_31 : decode cX1_weekdayOf 31 = .ok (.iload 4, 2) := by decide +kernel
theorem dX1_weekdayOf_33 : decode cX1_weekdayOf 33 = .ok (.aload_n 0, 1) := by decide +kernel
theorem dX1_weekdayOf_34 : decode cX1_weekdayOf 34 = .ok (.getfield 13, 3) := by decide +kernel
theorem dX1_weekdayOf_37 : decode cX1_weekdayOf 37 = .ok (.if_icmp .ge 21, 3) := by decide +kernel
theorem dX1_weekdayOf_40 : decode cX1_weekdayOf 40 = .ok (.iload_n 3, 1) := by decide +kernel
theorem dX1_weekdayOf_41 : decode cX1_weekdayOf 41 = .ok (.aload_n 0, 1) := by decide +kernel
theorem dX1_weekdayOf_42 : decode cX1_weekdayOf 42 = .ok (.getfield 7, 3) := by decide +kernel
theorem dX1_weekdayOf_45 : decode cX1_weekdayOf 45 = .ok (.iload 4, 2) := by decide +kernel
theorem dX1_weekdayOf_47 : decode cX1_weekdayOf 47 = .ok (.invokestatic 23, 3) := by decide +kernel
theorem dX1_weekdayOf_50 : decode cX1_weekdayOf 50 = .ok (.iadd, 1) := by decide +kernel
theorem dX1_weekdayOf_51 : decode cX1_weekdayOf 51 = .ok (.istore_n 3, 1) := by decide +kernel
theorem dX1_weekdayOf_52 : decode cX1_weekdayOf 52 = .ok (.iinc 4 1, 3) := by decide +kernel
theorem dX1_weekdayOf_55 : decode cX1_weekdayOf 55 = .ok (.goto (-24), 3) := by decide +kernel
theorem dX1_weekdayOf_58 : decode cX1_weekdayOf 58 = .ok (.iload_n 3, 1) := by decide +kernel
theorem dX1_weekdayOf_59 : decode cX1_weekdayOf 59 = .ok (.aload_n 0, 1) := by decide +kernel
theorem dX1_weekdayOf_60 : decode cX1_weekdayOf 60 = .ok (.getfield 16, 3) := by decide +kernel
theorem dX1_weekdayOf_63 : decode cX1_weekdayOf 63 = .ok (.iadd, 1) := by decide +kernel
theorem dX1_weekdayOf_64 : decode cX1_weekdayOf 64 = .ok (.iconst 1, 1) := by decide +kernel
theorem dX1_weekdayOf_65 : decode cX1_weekdayOf 65 = .ok (.isub, 1) := by decide +kernel
theorem dX1_weekdayOf_66 : decode cX1_weekdayOf 66 = .ok (.iload_n 1, 1) := by decide +kernel
theorem dX1_weekdayOf_67 : decode cX1_weekdayOf 67 = .ok (.iadd, 1) := by decide +kernel
theorem dX1_weekdayOf_68 : decode cX1_weekdayOf 68 = .ok (.bipush 7, 2) := by decide +kernel
theorem dX1_weekdayOf_70 : decode cX1_weekdayOf 70 = .ok (.irem, 1) := by decide +kernel
theorem dX1_weekdayOf_71 : decode cX1_weekdayOf 71 = .ok (.iconst 1, 1) := by decide +kernel
theorem dX1_weekdayOf_72 : decode cX1_weekdayOf 72 = .ok (.iadd, 1) := by decide +kernel
theorem dX1_weekdayOf_73 : decode cX1_weekdayOf 73 = .ok (.ireturn, 1) := by decide +kernel
