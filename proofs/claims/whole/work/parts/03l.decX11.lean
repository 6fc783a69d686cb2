set_option maxRecDepth 20000 in
theorem ggX11_init_X5_init : GoodIn wsX11_init wsX5_init := goodIn_r _ [22, 23, 2, 3, 24, 25, 26, 27, 28, 29, 30, 31, 32, 33, 34, 35, 36, 37, 38, 39, 40, 41, 42, 43, 44, 45, 46, 47, 48, 49, 50, 51, 52, 53, 54, 55, 56, 57, 58, 59, 60, 61, 62, 63, 64, 65, 66, 67, 68, 69, 70, 71, 72, 73, 74, 75, 76, 77, 78, 79, 80, 81, 82, 83, 84, 85, 86, 87, 88, 89, 90, 91, 92, 93, 94, 95, 96, 97, 98, 99, 100, 101, 102, 103, 104, 105, 106, 107, 108, 109, 110, 111, 112, 113, 114, 115, 116, 117, 118, 119, 120, 121, 122, 123, 124, 125, 126, 127, 128, 129, 130, 131, 178, 179, 180, 152, 153, 154, 155, 156, 157, 158, 159, 181, 182, 183, 184, 185, 186, 187, 188, 189, 190, 191, 192, 193, 194, 195, 196, 197, 198, 199, 200, 201, 202, 203, 204, 205, 206, 207, 208, 209, 210, 211, 212, 213, 214, 215, 216, 217, 218, 219] (by decide +kernel) (by decide +kernel)
set_option maxRecDepth 20000 in
theorem gX11_init_X5_init_n11 : GoodIn wsX11_init (wsX5_init) := ggX11_init_X5_init
set_option maxRecDepth 20000 in
theorem ggX11_init_X2_init : GoodIn wsX11_init wsX2_init := goodIn_r _ [134, 135, 2, 3, 68, 136, 137, 138, 139, 166, 167, 168, 169] (by decide +kernel) (by decide +kernel)
set_option maxRecDepth 20000 in
theorem gX11_init_X2_init : GoodIn wsX11_init (wsX2_init) := ggX11_init_X2_init
set_option maxRecDepth 20000 in
theorem ggX11_init_X9_init : GoodIn wsX11_init wsX9_init := goodIn_r _ [142, 143, 2, 3, 144, 68, 145, 146, 147, 148, 149, 150, 151, 170, 171, 172, 173, 174, 175, 176, 177] (by decide +kernel) (by decide +kernel)
set_option maxRecDepth 20000 in
theorem gX11_init_X9_init : GoodIn wsX11_init (wsX9_init) := ggX11_init_X9_init
theorem dX11_init_0 : decode cX11_init 0 = .ok (.aload_n 0, 1) := by decide +kernel
theorem dX11_init_1 : decode cX11_init 1 = .ok (.invokespecial 3, 3) := by decide +kernel
theorem dX11_init_4 : decode cX11_init 4 = .ok (.aload_n 0, 1) := by decide +kernel
theorem dX11_init_5 : decode cX11_init 5 = .ok (.new 9, 3) := by decide +kernel
theorem dX11_init_8 : decode cX11_init 8 = .ok (.dup, 1) := by decide +kernel
theorem dX11_init_9 : decode cX11_init 9 = .ok (.invokespecial 11, 3) := by decide +kernel
theorem dX11_init_12 : decode cX11_init 12 = .ok (.putfield 12, 3) := by decide +kernel
theorem dX11_init_15 : decode cX11_init 15 = .ok (.aload_n 0, 1) := by decide +kernel
theorem dX11_init_16 : decode cX11_init 16 = .ok (.bipush 8, 2) := by decide +kernel
theorem dX11_init_18 : decode cX11_init 18 = .ok (.anewarray 9, 3) := by decide +kernel
theorem dX11_init_21 : decode cX11_init 21 = .ok (.putfield 16, 3) := by decide +kernel
theorem dX11_init_24 : decode cX11_init 24 = .ok (.aload_n 0, 1) := by decide +kernel
theorem dX11_init_25 : decode cX11_init 25 = .ok (.new 20, 3) := by decide +kernel
theorem dX11_init_28 : decode cX11_init 28 = .ok (.dup, 1) := by decide +kernel
theorem dX11_init_29 : decode cX11_init 29 = .ok (.aload_n 0, 1) := by decide +kernel
theorem dX11_init_30 : decode cX11_init 30 = .ok (.getfield 12, 3) := by decide +kernel
theorem dX11_init_33 : decode cX11_init 33 = .ok (.getfield 22, 3) := by decide +kernel
theorem dX11_init_36 : decode cX11_init 36 = .ok (.aload_n 0, 1) := by decide +kernel
theorem dX11_init_37 : decode cX11_init 37 = .ok (.getfield 12, 3) := by decide +kernel
theorem dX11_init_40 : decode cX11_init 40 = .ok (.getfield 26, 3) := by decide +kernel
theorem dX11_init_43 : decode cX11_init 43 = .ok (.invokespecial 30, 3) := by decide +kernel
theorem dX11_init_46 : decode cX11_init 46 = .ok (.putfield 33, 3) := by decide +kernel
theorem dX11_init_49 : decode cX11_init 49 = .ok (.aload_n 0, 1) := by decide +kernel
theorem dX11_init_50 : decode cX11_init 50 = .ok (.new 37, 3) := by decide +kernel
theorem dX11_init_53 : decode cX11_init 53 = .ok (.dup, 1) := by decide +kernel
theorem dX11_init_54 : decode cX11_init 54 = .ok (.aload_n 0, 1) := by decide +kernel
theorem dX11_init_55 : decode cX11_init 55 = .ok (.getfield 12, 3) := by decide +kernel
theorem dX11_init_58 : decode cX11_init 58 = .ok (.getfield 22, 3) := by decide +kernel
theorem dX11_init_61 : decode cX11_init 61 = .ok (.aload_n 0, 1) := by decide +kernel
theorem dX11_init_62 : decode cX11_init 62 = .ok (.getfield 12, 3) := by decide +kernel
theorem dX11_init_65 : decode cX11_init 65 = .ok (.getfield 26, 3) := by decide +kernel
theorem dX11_init_68 : decode cX11_init 68 = .ok (.invokespecial 39, 3) := by decide +kernel
theorem dX11_init_71 : decode cX11_init 71 = .ok (.putfield 40, 3) := by decide +kernel
theorem dX11_init_74 : decode cX11_init 74 = .ok (.aload_n 0, 1) := by decide +kernel
theorem dX11_init_75 : decode cX11_init 75 = .ok (.iconst 0, 1) := by decide +kernel
theorem dX11_init_76 : decode cX11_init 76 = .ok (.putfield 44, 3) := by decide +kernel
theorem dX11_init_79 : decode cX11_init 79 = .ok (.aload_n 0, 1) := by decide +kernel
theorem dX11_init_80 : decode cX11_init 80 = .ok (.iconst 0, 1) := by decide +kernel
theorem dX11_init_81 : decode cX11_init 81 = .ok (.putfield 48, 3) := by decide +kernel
theorem dX11_init_84 : decode cX11_init 84 = .ok (.iconst 0, 1) := by decide +kernel
theorem dX11_init_85 : decode cX11_init 85 = .ok (.istore_n 1, 1) := by decide +kernel
theorem dX11_init_86 : decode cX11_init 86 = .ok (.iload_n 1, 1) := by decide +kernel
theorem dX11_init_87 : decode cX11_init 87 = .ok (.bipush 8, 2) := by decide +kernel
theorem dX11_init_89 : decode cX11_init 89 = .ok (.if_icmp .ge 22, 3) := by decide +kernel
theorem dX11_init_92 : decode cX11_init 92 = .ok (.aload_n 0, 1) := by decide +kernel
theorem dX11_init_93 : decode cX11_init 93 = .ok (.getfield 16, 3) := by decide +kernel
theorem dX11_init_96 : decode cX11_init 96 = .ok (.iload_n 1, 1) := by decide +kernel
theorem dX11_init_97 : decode cX11_init 97 = .ok (.new 9, 3) := by decide +kernel
theorem dX11_init_100 : decode cX11_init 100 = .ok (.dup, 1) := by decide +kernel
theorem dX11_init_101 : decode cX11_init 101 = .ok (.invokespecial 11, 3) := by decide +kernel
theorem dX11_init_104 : decode cX11_init 104 = .ok (.aastore, 1) := by decide +kernel
theorem dX11_init_105 : decode cX11_init 105 = .ok (.iinc 1 1, 3) := by decide +kernel
theorem dX11_init_108 : decode cX11_init 108 = .ok (.goto (-22), 3) := by decide +kernel
theorem dX11_init_111 : decode cX11_init 111 = .ok (.return_, 1) := by decide +kernel
set_option maxRecDepth 20000 in
theorem ggX11_setDate_X1_isDate : GoodIn wsX11_setDate wsX1_isDate := goodIn_r _ [8, 9, 10, 7, 11, 12, 13, 14] (by decide +kernel) (by decide +kernel)
set_option maxRecDepth 20000 in
theorem gX11_setDate_X1_isDate : GoodIn wsX11_setDate (va_wsS RX11 51 yX1_isDate wsX1_isDate) := goodIn_app (goodIn_of _ (by decide +kernel)) ggX11_setDate_X1_isDate
set_option maxRecDepth 20000 in
theorem ggX11_setDate_X11_beginChange : GoodIn wsX11_setDate wsX11_beginChange := goodIn_r _ [19, 20, 21, 22, 23, 18, 24, 25, 26, 3, 27, 28, 29, 30, 31, 32, 33, 34, 35, 36, 37, 38, 39, 40, 41, 42, 43, 44, 45, 46, 47, 7, 48, 49, 50, 51, 52, 53, 54, 55, 56, 57, 58, 59, 60, 61, 62, 63, 64, 65, 66, 67, 68, 69, 70, 71, 72, 73, 74, 75, 76, 77, 78, 79, 80, 81, 82, 83, 84, 85, 86, 87, 88, 89, 90, 91, 92, 93, 94, 95, 96, 97, 98, 99, 100, 101, 102, 103, 104, 105, 106, 107, 108, 109, 110, 111, 112, 113, 114, 115, 116, 117, 118, 119, 120, 121, 122, 123, 124, 125, 126, 127, 128, 129, 130, 131, 132, 133, 134, 140, 141, 142, 143, 144, 145, 146, 147, 148, 149, 150, 151, 152, 153, 154, 155, 156, 157, 158, 159, 160, 161, 162, 163, 164, 165, 166, 167, 168, 169, 170, 171, 172, 173, 174, 175, 176, 177, 178, 179, 180, 181, 182, 183, 184, 185, 186, 187, 188, 189, 190, 191, 192, 193, 194, 195, 196, 197, 198, 199, 200, 201, 202, 203] (by decide +kernel) (by decide +kernel)
set_option maxRecDepth 20000 in
theorem gX11_setDate_X11_beginChange : GoodIn wsX11_setDate (wsV RX11 64 RX11 yX11_beginChange wsX11_beginChange) := goodIn_app (goodIn_of _ (by decide +kernel)) ggX11_setDate_X11_beginChange
set_option maxRecDepth 20000 in
theorem ggX11_setDate_X1_startOn : GoodIn wsX11_setDate wsX1_startOn := goodIn_r _ [55, 49, 50, 51, 154, 155, 156] (by decide +kernel) (by decide +kernel)
set_option maxRecDepth 20000 in
theorem gX11_setDate_X1_startOn : GoodIn wsX11_setDate (wsV RX11 71 RX1 yX1_startOn wsX1_startOn) := goodIn_app (goodIn_of _ (by decide +kernel)) ggX11_setDate_X1_startOn
set_option maxRecDepth 20000 in
theorem ggX11_setDate_X1_weekdayOf : GoodIn wsX11_setDate wsX1_weekdayOf := goodIn_r _ [139, 49, 50, 51, 9, 10, 7, 11, 12, 13, 14, 154, 155, 156] (by decide +kernel) (by decide +kernel)
set_option maxRecDepth 20000 in
theorem gX11_setDate_X1_weekdayOf : GoodIn wsX11_setDate (wsV RX11 75 RX1 yX1_weekdayOf wsX1_weekdayOf) := goodIn_app (goodIn_of _ (by decide +kernel)) ggX11_setDate_X1_weekdayOf
theorem dX11_setDate_0 : decode cX11_setDate 0 = .ok (.iload_n 1, 1) := by decide +kernel
theorem dX11_setDate_1 : decode cX11_setDate 1 = .ok (.iload_n 2, 1) := by decide +kernel
theorem dX11_setDate_2 : decode cX11_setDate 2 = .ok (.iload_n 3, 1) := by decide +kernel
theorem dX11_setDate_3 : decode cX11_setDate 3 = .ok (.invokestatic 51, 3) := by decide +kernel
theorem dX11_setDate_6 : decode cX11_setDate 6 = .ok (.ifCond .ne 13, 3) := by decide +kernel
theorem dX11_setDate_9 : decode cX11_setDate 9 = .ok (.new 57, 3) := by decide +kernel
theorem dX11_setDate_12 : decode cX11_setDate 12 = .ok (.dup, 1) := by decide +kernel
theorem dX11_setDate_13 : decode cX11_setDate 13 = .ok (.ldc 59, 2) := by decide +kernel
theorem dX11_setDate_15 : decode cX11_setDate 15 = .ok (.invokespecial 61, 3) := by decide +kernel
theorem dX11_setDate_18 : decode cX11_setDate 18 = .ok (.athrow, 1) := by decide +kernel
theorem dX11_setDate_19 : decode cX11_setDate 19 = .ok (.aload_n 0, 1) := by decide +kernel
theorem dX11_setDate_20 : decode cX11_setDate 20 = .ok (.invokevirtual 64, 3) := by decide +kernel
theorem dX11_setDate_23 : decode cX11_setDate 23 = .ok (.aload_n 0, 1) := by decide +kernel
theorem dX11_setDate_24 : decode cX11_setDate 24 = .ok (.getfield 12, 3) := by decide +kernel
theorem dX11_setDate_27 : decode cX11_setDate 27 = .ok (.getfield 67, 3) := by decide +kernel
theorem dX11_setDate_30 : decode cX11_setDate 30 = .ok (.iload_n 1, 1) := by decide +kernel
theorem dX11_setDate_31 : decode cX11_setDate 31 = .ok (.iload_n 2, 1) := by decide +kernel
theorem dX11_setDate_32 : decode cX11_setDate 32 = .ok (.iload_n 3, 1) := by decide +kernel
theorem dX11_setDate_33 : decode cX11_setDate 33 = .ok (.invokevirtual 71, 3) := by decide +kernel
theorem dX11_setDate_36 : decode cX11_setDate 36 = .ok (.aload_n 0, 1) := by decide +kernel
theorem dX11_setDate_37 : decode cX11_setDate 37 = .ok (.getfield 12, 3) := by decide +kernel
theorem dX11_setDate_40 : decode cX11_setDate 40 = .ok (.getfield 67, 3) := by decide +kernel
theorem dX11_setDate_43 : decode cX11_setDate 43 = .ok (.iconst 0, 1) := by decide +kernel
theorem dX11_setDate_44 : decode cX11_setDate 44 = .ok (.invokevirtual 75, 3) := by decide +kernel
theorem dX11_setDate_47 : decode cX11_setDate 47 = .ok (.ireturn, 1) := by decide +kernel
set_option maxRecDepth 20000 in
theorem ggX11_setOpen_X11_needPlace : GoodIn wsX11_setOpen wsX11_needPlace := goodIn_ca (goodIn_r _ [6, 7, 8] (by decide +kernel) (by decide +kernel)) (goodIn_sub (fun _ h => List.mem_cons_of_mem _ (List.mem_append_right _ h)) (by decide +kernel))
set_option maxRecDepth 20000 in
theorem gX11_setOpen_X11_needPlace : GoodIn wsX11_setOpen (va_wsS RX11 79 yX11_needPlace wsX11_needPlace) := goodIn_app (goodIn_of _ (by decide +kernel)) ggX11_setOpen_X11_needPlace
set_option maxRecDepth 20000 in
theorem ggX11_setOpen_X11_beginChange : GoodIn wsX11_setOpen wsX11_beginChange := goodIn_r _ [12, 13, 14, 15, 16, 5, 17, 18, 19, 1, 20, 21, 22, 23, 24, 25, 26, 27, 28, 29, 30, 31, 32, 33, 34, 35, 36, 37, 38, 39, 40, 41, 42, 43, 44, 45, 46, 47, 48, 49, 50, 51, 52, 53, 54, 55, 56, 57, 58, 59, 60, 61, 62, 63, 64, 65, 66, 67, 68, 69, 70, 71, 72, 73, 74, 75, 76, 77, 78, 79, 80, 81, 82, 83, 84, 85, 86, 87, 88, 89, 90, 91, 92, 93, 94, 95, 96, 97, 98, 99, 100, 101, 102, 103, 104, 105, 106, 107, 108, 109, 110, 111, 112, 113, 114, 115, 116, 117, 118, 119, 120, 121, 122, 123, 124, 125, 126, 127, 128, 137, 138, 139, 140, 141, 142, 143, 144, 145, 146, 147, 148, 149, 150, 151, 152, 153, 154, 155, 156, 157, 158, 159, 160, 161, 162, 163, 164, 165, 166, 167, 168, 169, 170, 171, 172, 173, 174, 175, 176, 177, 178, 179, 180, 181, 182, 183, 184, 185, 186, 187, 188, 189, 190, 191, 192, 193, 194, 195, 196, 197, 198, 199, 200] (by decide +kernel) (by decide +kernel)
set_option maxRecDepth 20000 in
theorem gX11_setOpen_X11_beginChange : GoodIn wsX11_setOpen (wsV RX11 64 RX11 yX11_beginChange wsX11_beginChange) := goodIn_app (goodIn_of _ (by decide +kernel)) ggX11_setOpen_X11_beginChange
set_option maxRecDepth 20000 in
theorem ggX11_setOpen_X4_uncover : GoodIn wsX11_setOpen wsX4_uncover := goodIn_r _ [132, 55, 133, 134, 135, 53, 136, 154, 155, 156, 157] (by decide +kernel) (by decide +kernel)
set_option maxRecDepth 20000 in
theorem gX11_setOpen_X4_uncover : GoodIn wsX11_setOpen (wsV RX11 83 RX4 yX4_uncover wsX4_uncover) := goodIn_app (goodIn_of _ (by decide +kernel)) ggX11_setOpen_X4_uncover
theorem dX11_setOpen_0 : decode cX11_setOpen 0 = .ok (.iload_n 1, 1) := by decide +kernel
theorem dX11_setOpen_1 : decode cX11_setOpen 1 = .ok (.iconst 4, 1) := by decide +kernel
theorem dX11_setOpen_2 : decode cX11_setOpen 2 = .ok (.invokestatic 79, 3) := by decide +kernel
theorem dX11_setOpen_5 : decode cX11_setOpen 5 = .ok (.aload_n 0, 1) := by decide +kernel
theorem dX11_setOpen_6 : decode cX11_setOpen 6 = .ok (.invokevirtual 64, 3) := by decide +kernel
theorem dX11_setOpen_9 : decode cX11_setOpen 9 = .ok (.aload_n 0, 1) := by decide +kernel
theorem dX11_setOpen_10 : decode cX11_setOpen 10 = .ok (.getfield 12, 3) := by decide +kernel
theorem dX11_setOpen_13 : decode cX11_setOpen 13 = .ok (.getfield 22, 3) := by decide +kernel
theorem dX11_setOpen_16 : decode cX11_setOpen 16 = .ok (.iload_n 1, 1) := by decide +kernel
theorem dX11_setOpen_17 : decode cX11_setOpen 17 = .ok (.iload_n 2, 1) := by decide +kernel
theorem dX11_setOpen_18 : decode cX11_setOpen 18 = .ok (.invokevirtual 83, 3) := by decide +kernel
theorem dX11_setOpen_21 : decode cX11_setOpen 21 = .ok (.ireturn, 1) := by decide +kernel
set_option maxRecDepth 20000 in
theorem ggX11_setWay_X11_needPlace : GoodIn wsX11_setWay wsX11_needPlace := goodIn_ca (goodIn_r _ [6, 7, 8] (by decide +kernel) (by decide +kernel)) (goodIn_sub (fun _ h => List.mem_cons_of_mem _ (List.mem_append_left _ (List.mem_append_right _ h))) (by decide +kernel))
set_option maxRecDepth 20000 in
theorem gX11_setWay_X11_needPlace : GoodIn wsX11_setWay (va_wsS RX11 79 yX11_needPlace wsX11_needPlace) := goodIn_app (goodIn_of _ (by decide +kernel)) ggX11_setWay_X11_needPlace
set_option maxRecDepth 20000 in
theorem ggX11_setWay_X11_needOthers : GoodIn wsX11_setWay wsX11_needOthers := goodIn_ca (goodIn_r _ [11, 12, 13] (by decide +kernel) (by decide +kernel)) (goodIn_sub (fun _ h => List.mem_cons_of_mem _ (List.mem_append_right _ h)) (by decide +kernel))
set_option maxRecDepth 20000 in
theorem gX11_setWay_X11_needOthers : GoodIn wsX11_setWay (va_wsS RX11 89 yX11_needOthers wsX11_needOthers) := goodIn_app (goodIn_of _ (by decide +kernel)) ggX11_setWay_X11_needOthers
set_option maxRecDepth 20000 in
theorem ggX11_setWay_X11_needRange : GoodIn wsX11_setWay wsX11_needRange := goodIn_ca (goodIn_r _ [16, 12, 13] (by decide +kernel) (by decide +kernel)) (goodIn_sub (fun _ h => List.mem_cons_of_mem _ (List.mem_append_right _ h)) (by decide +kernel))
set_option maxRecDepth 20000 in
theorem gX11_setWay_X11_needRange : GoodIn wsX11_setWay (va_wsS RX11 92 yX11_needRange wsX11_needRange) := goodIn_app (goodIn_of _ (by decide +kernel)) ggX11_setWay_X11_needRange
set_option maxRecDepth 20000 in
theorem ggX11_setWay_X11_beginChange : GoodIn wsX11_setWay wsX11_beginChange := goodIn_r _ [20, 21, 22, 23, 24, 5, 25, 26, 27, 1, 28, 29, 30, 31, 32, 33, 34, 35, 36, 37, 38, 39, 40, 41, 42, 43, 44, 45, 46, 47, 48, 49, 50, 51, 52, 53, 54, 55, 56, 57, 58, 59, 60, 61, 62, 63, 64, 65, 66, 67, 68, 69, 70, 71, 72, 73, 74, 75, 76, 77, 78, 79, 80, 81, 82, 83, 84, 85, 86, 87, 88, 89, 90, 91, 92, 93, 94, 95, 96, 97, 98, 99, 100, 101, 102, 103, 104, 105, 106, 107, 108, 109, 110, 111, 112, 113, 114, 115, 116, 117, 118, 119, 120, 121, 122, 123, 124, 125, 126, 127, 128, 129, 130, 131, 132, 133, 134, 135, 136, 152, 153, 154, 155, 156, 157, 158, 159, 160, 161, 162, 163, 164, 165, 166, 167, 168, 169, 170, 171, 172, 173, 174, 175, 176, 177, 178, 179, 180, 181, 182, 183, 184, 185, 186, 187, 188, 189, 190, 191, 192, 193, 194, 195, 196, 197, 198, 199, 200, 201, 202, 203, 204, 205, 206, 207, 208, 209, 210, 211, 212, 213, 214, 215] (by decide +kernel) (by decide +kernel)
set_option maxRecDepth 20000 in
theorem gX11_setWay_X11_beginChange : GoodIn wsX11_setWay (wsV RX11 64 RX11 yX11_beginChange wsX11_beginChange) := goodIn_app (goodIn_of _ (by decide +kernel)) ggX11_setWay_X11_beginChange
set_option maxRecDepth 20000 in
theorem ggX11_setWay_X4_layWay : GoodIn wsX11_setWay wsX4_layWay := goodIn_r _ [140, 64, 141, 5, 142, 143, 144, 145, 61, 146, 65, 147, 30, 31, 32, 67, 68, 29, 69, 70, 71, 72, 169, 170, 171, 172] (by decide +kernel) (by decide +kernel)
set_option maxRecDepth 20000 in
theorem gX11_setWay_X4_layWay : GoodIn wsX11_setWay (wsV RX11 95 RX4 yX4_layWay wsX4_layWay) := goodIn_app (goodIn_of _ (by decide +kernel)) ggX11_setWay_X4_layWay
set_option maxRecDepth 20000 in
theorem ggX11_setWay_X4_minutesBetween : GoodIn wsX11_setWay wsX4_minutesBetween := goodIn_r _ [151, 65, 169, 170, 171, 172] (by decide +kernel) (by decide +kernel)
set_option maxRecDepth 20000 in
theorem gX11_setWay_X4_minutesBetween : GoodIn wsX11_setWay (wsV RX11 98 RX4 yX4_minutesBetween wsX4_minutesBetween) := goodIn_app (goodIn_of _ (by decide +kernel)) ggX11_setWay_X4_minutesBetween
theorem dX11_setWay_0 : decode cX11_setWay 0 = .ok (.iload_n 1, 1) := by decide +kernel
theorem dX11_setWay_1 : decode cX11_setWay 1 = .ok (.iconst 4, 1) := by decide +kernel
theorem dX11_setWay_2 : decode cX11_setWay 2 = .ok (.invokestatic 79, 3) := by decide +kernel
theorem dX11_setWay_5 : decode cX11_setWay 5 = .ok (.iload_n 2, 1) := by decide +kernel
theorem dX11_setWay_6 : decode cX11_setWay 6 = .ok (.iconst 4, 1) := by decide +kernel
theorem dX11_setWay_7 : decode cX11_setWay 7 = .ok (.invokestatic 79, 3) := by decide +kernel
theorem dX11_setWay_10 : decode cX11_setWay 10 = .ok (.iload_n 1, 1) := by decide +kernel
theorem dX11_setWay_11 : decode cX11_setWay 11 = .ok (.iload_n 2, 1) := by decide +kernel
theorem dX11_setWay_12 : decode cX11_setWay 12 = .ok (.invokestatic 89, 3) := by decide +kernel
theorem dX11_setWay_15 : decode cX11_setWay 15 = .ok (.iload_n 3, 1) := by decide +kernel
theorem dX11_setWay_16 : decode cX11_setWay 16 = .ok (.iconst 1, 1) := by decide +kernel
theorem dX11_setWay_17 : decode cX11_setWay 17 = .ok (.bipush 60, 2) := by decide +kernel
theorem dX11_setWay_19 : decode cX11_setWay 19 = .ok (.invokestatic 92, 3) := by decide +kernel
theorem dX11_setWay_22 : decode cX11_setWay 22 = .ok (.aload_n 0, 1) := by decide +kernel
theorem dX11_setWay_23 : decode cX11_setWay 23 = .ok (.invokevirtual 64, 3) := by decide +kernel
theorem dX11_setWay_26 : decode cX11_setWay 26 = .ok (.aload_n 0, 1) := by decide +kernel
theorem dX11_setWay_27 : decode cX11_setWay 27 = .ok (.getfield 12, 3) := by decide +kernel
theorem dX11_setWay_30 : decode cX11_setWay 30 = .ok (.getfield 22, 3) := by decide +kernel
theorem dX11_setWay_33 : decode cX11_setWay 33 = .ok (.iload_n 1, 1) := by decide +kernel
theorem dX11_setWay_34 : decode cX11_setWay 34 = .ok (.iload_n 2, 1) := by decide +kernel
theorem dX11_setWay_35 : decode cX11_setWay 35 = .ok (.iload_n 3, 1) := by decide +kernel
theorem dX11_setWay_36 : decode cX11_setWay 36 = .ok (.invokevirtual 95, 3) := by decide +kernel
theorem dX11_setWay_39 : decode cX11_setWay 39 = .ok (.aload_n 0, 1) := by decide +kernel
theorem dX11_setWay_40 : decode cX11_setWay 40 = .ok (.getfield 12, 3) := by decide +kernel
theorem dX11_setWay_43 : decode cX11_setWay 43 = .ok (.getfield 22, 3) := by decide +kernel
theorem dX11_setWay_46 : decode cX11_setWay 46 = .ok (.iload_n 1, 1) := by decide +kernel
theorem dX11_setWay_47 : decode cX11_setWay 47 = .ok (.iload_n 2, 1) := by decide +kernel
theorem dX11_setWay_48 : decode cX11_setWay 48 = .ok (.invokevirtual 98, 3) := by decide +kernel
theorem dX11_setWay_51 : decode cX11_setWay 51 = .ok (.ireturn, 1) := by decide +kernel
set_option maxRecDepth 20000 in
theorem ggX11_act_X11_needPlace : GoodIn wsX11_act wsX11_needPlace := goodIn_ca (goodIn_r _ [8, 9, 10] (by decide +kernel) (by decide +kernel)) (goodIn_sub (fun _ h => List.mem_cons_of_mem _ (List.mem_append_left _ (List.mem_append_right _ h))) (by decide +kernel))
set_option maxRecDepth 20000 in
theorem gX11_act_X11_needPlace : GoodIn wsX11_act (va_wsS RX11 79 yX11_needPlace wsX11_needPlace) := goodIn_app (goodIn_of _ (by decide +kernel)) ggX11_act_X11_needPlace
set_option maxRecDepth 20000 in
theorem ggX11_act_X11_needRange : GoodIn wsX11_act wsX11_needRange := goodIn_ca (goodIn_r _ [13, 14, 15] (by decide +kernel) (by decide +kernel)) (goodIn_sub (fun _ h => List.mem_cons_of_mem _ (List.mem_append_right _ h)) (by decide +kernel))
set_option maxRecDepth 20000 in
theorem gX11_act_X11_needRange : GoodIn wsX11_act (va_wsS RX11 92 yX11_needRange wsX11_needRange) := goodIn_app (goodIn_of _ (by decide +kernel)) ggX11_act_X11_needRange
set_option maxRecDepth 20000 in
theorem ggX11_act_X7_freeNumber : GoodIn wsX11_act wsX7_freeNumber := goodIn_r _ [20, 21, 22, 23, 19, 24, 25, 164, 165, 166, 167, 168, 169, 170, 171] (by decide +kernel) (by decide +kernel)
set_option maxRecDepth 20000 in
theorem gX11_act_X7_freeNumber : GoodIn wsX11_act (wsV RX11 102 RX7 yX7_freeNumber wsX7_freeNumber) := goodIn_app (goodIn_of _ (by decide +kernel)) ggX11_act_X7_freeNumber
set_option maxRecDepth 20000 in
theorem ggX11_act_X11_beginChange : GoodIn wsX11_act wsX11_beginChange := goodIn_r _ [29, 30, 31, 32, 33, 7, 34, 35, 36, 3, 37, 38, 39, 40, 41, 42, 43, 44, 45, 46, 47, 48, 49, 50, 51, 52, 53, 54, 55, 56, 57, 58, 59, 60, 61, 62, 63, 64, 65, 66, 67, 68, 69, 70, 71, 72, 73, 74, 75, 76, 77, 78, 79, 80, 81, 82, 83, 84, 19, 85, 86, 87, 88, 89, 25, 90, 91, 92, 93, 94, 95, 96, 97, 98, 99, 100, 101, 102, 103, 104, 105, 106, 107, 108, 109, 110, 111, 112, 113, 114, 115, 116, 117, 118, 119, 120, 121, 122, 123, 124, 125, 126, 127, 128, 129, 130, 131, 132, 133, 134, 135, 136, 137, 138, 139, 140, 141, 142, 143, 150, 151, 152, 153, 154, 155, 156, 157, 158, 159, 160, 161, 162, 163, 172, 173, 174, 175, 176, 177, 178, 164, 165, 166, 167, 168, 169, 170, 171, 179, 180, 181, 182, 183, 184, 185, 186, 187, 188, 189, 190, 191, 192, 193, 194, 195, 196, 197, 198, 199, 200, 201, 202, 203, 204, 205, 206, 207, 208, 209, 210, 211, 212, 213] (by decide +kernel) (by decide +kernel)
set_option maxRecDepth 20000 in
theorem gX11_act_X11_beginChange : GoodIn wsX11_act (wsV RX11 64 RX11 yX11_beginChange wsX11_beginChange) := goodIn_app (goodIn_of _ (by decide +kernel)) ggX11_act_X11_beginChange
set_option maxRecDepth 20000 in
theorem ggX11_act_X7_add : GoodIn wsX11_act wsX7_add := goodIn_r _ [147, 86, 87, 88, 89, 25, 148, 7, 149, 164, 165, 166, 167, 168, 169, 170, 171] (by decide +kernel) (by decide +kernel)
set_option maxRecDepth 20000 in
theorem gX11_act_X7_add : GoodIn wsX11_act (wsV RX11 113 RX7 yX7_add wsX7_add) := goodIn_app (goodIn_of _ (by decide +kernel)) ggX11_act_X7_add
theorem dX11_act_0 : decode cX11_act 0 = .ok (.iload_n 1, 1) := by decide +kernel
theorem dX11_act_1 : decode cX11_act 1 = .ok (.iconst 4, 1) := by decide +kernel
theorem dX11_act_2 : decode cX11_act 2 = .ok (.invokestatic 79, 3) := by decide +kernel
theorem dX11_act_5 : decode cX11_act 5 = .ok (.iload_n 2, 1) := by decide +kernel
theorem dX11_act_6 : decode cX11_act 6 = .ok (.iconst 0, 1) := by decide +kernel
theorem dX11_act_7 : decode cX11_act 7 = .ok (.sipush 5759, 3) := by decide +kernel
theorem dX11_act_10 : decode cX11_act 10 = .ok (.invokestatic 92, 3) := by decide +kernel
theorem dX11_act_13 : decode cX11_act 13 = .ok (.iload_n 3, 1) := by decide +kernel
theorem dX11_act_14 : decode cX11_act 14 = .ok (.bipush 10, 2) := by decide +kernel
theorem dX11_act_16 : decode cX11_act 16 = .ok (.sipush 240, 3) := by decide +kernel
theorem dX11_act_19 : decode cX11_act 19 = .ok (.invokestatic 92, 3) := by decide +kernel
theorem dX11_act_22 : decode cX11_act 22 = .ok (.iload 4, 2) := by decide +kernel
theorem dX11_act_24 : decode cX11_act 24 = .ok (.iconst 0, 1) := by decide +kernel
theorem dX11_act_25 : decode cX11_act 25 = .ok (.bipush 60, 2) := by decide +kernel
theorem dX11_act_27 : decode cX11_act 27 = .ok (.invokestatic 92, 3) := by decide +kernel
theorem dX11_act_30 : decode cX11_act 30 = .ok (.iload 5, 2) := by decide +kernel
theorem dX11_act_32 : decode cX11_act 32 = .ok (.iconst 1, 1) := by decide +kernel
theorem dX11_act_33 : decode cX11_act 33 = .ok (.sipush 4095, 3) := by decide +kernel
theorem dX11_act_36 : decode cX11_act 36 = .ok (.invokestatic 92, 3) := by decide +kernel
theorem dX11_act_39 : decode cX11_act 39 = .ok (.iload_n 2, 1) := by decide +kernel
theorem dX11_act_40 : decode cX11_act 40 = .ok (.iload 4, 2) := by decide +kernel
theorem dX11_act_42 : decode cX11_act 42 = .ok (.isub, 1) := by decide +kernel
theorem dX11_act_43 : decode cX11_act 43 = .ok (.iconst 0, 1) := by decide +kernel
theorem dX11_act_44 : decode cX11_act 44 = .ok (.sipush 5760, 3) := by decide +kernel
theorem dX11_act_47 : decode cX11_act 47 = .ok (.invokestatic 92, 3) := by decide +kernel
theorem dX11_act_50 : decode cX11_act 50 = .ok (.iload_n 2, 1) := by decide +kernel
theorem dX11_act_51 : decode cX11_act 51 = .ok (.iload_n 3, 1) := by decide +kernel
theorem dX11_act_52 : decode cX11_act 52 = .ok (.iadd, 1) := by decide +kernel
theorem dX11_act_53 : decode cX11_act 53 = .ok (.iconst 0, 1) := by decide +kernel
theorem dX11_act_54 : decode cX11_act 54 = .ok (.sipush 5760, 3) := by decide +kernel
theorem dX11_act_57 : decode cX11_act 57 = .ok (.invokestatic 92, 3) := by decide +kernel
theorem dX11_act_60 : decode cX11_act 60 = .ok (.aload_n 0, 1) := by decide +kernel
theorem dX11_act_61 : decode cX11_act 61 = .ok (.getfield 12, 3) := by decide +kernel
theorem dX11_act_64 : decode cX11_act 64 = .ok (.getfield 26, 3) := by decide +kernel
theorem dX11_act_67 : decode cX11_act 67 = .ok (.invokevirtual 102, 3) := by decide +kernel
theorem dX11_act_70 : decode cX11_act 70 = .ok (.istore 6, 2) := by decide +kernel
theorem dX11_act_72 : decode cX11_act 72 = .ok (.iload 6, 2) := by decide +kernel
theorem dX11_act_74 : decode cX11_act 74 = .ok (.iconst (-1), 1) := by decide +kernel
theorem dX11_act_75 : decode cX11_act 75 = .ok (.if_icmp .ne 13, 3) := by decide +kernel
theorem dX11_act_78 : decode cX11_act 78 = .ok (.new 108, 3) := by decide +kernel
theorem dX11_act_81 : decode cX11_act 81 = .ok (.dup, 1) := by decide +kernel
theorem dX11_act_82 : decode cX11_act 82 = .ok (.ldc 110, 2) := by decide +kernel
theorem dX11_act_84 : decode cX11_act 84 = .ok (.invokespecial 112, 3) := by decide +kernel
theorem dX11_act_87 : decode cX11_act 87 = .ok (.athrow, 1) := by decide +kernel
theorem dX11_act_88 : decode cX11_act 88 = .ok (.aload_n 0, 1) := by decide +kernel
theorem dX11_act_89 : decode cX11_act 89 = .ok (.invokevirtual 64, 3) := by decide +kernel
theorem dX11_act_92 : decode cX11_act 92 = .ok (.aload_n 0, 1) := by decide +kernel
theorem dX11_act_93 : decode cX11_act 93 = .ok (.getfield 12, 3) := by decide +kernel
theorem dX11_act_96 : decode cX11_act 96 = .ok (.getfield 26, 3) := by decide +kernel
theorem dX11_act_99 : decode cX11_act 99 = .ok (.iload 6, 2) := by decide +kernel
theorem dX11_act_101 : decode cX11_act 101 = .ok (.iload_n 1, 1) := by decide +kernel
theorem dX11_act_102 : decode cX11_act 102 = .ok (.iload_n 2, 1) := by decide +kernel
theorem dX11_act_103 : decode cX11_act 103 = .ok (.iload_n 3, 1) := by decide +kernel
theorem dX11_act_104 : decode cX11_act 104 = .ok (.iload 4, 2) := by decide +kernel
theorem dX11_act_106 : decode cX11_act 106 = .ok (.iload 5, 2) := by decide +kernel
theorem dX11_act_108 : decode cX11_act 108 = .ok (.invokevirtual 113, 3) := by decide +kernel
theorem dX11_act_111 : decode cX11_act 111 = .ok (.iload 6, 2) := by decide +kernel
theorem dX11_act_113 : decode cX11_act 113 = .ok (.ireturn, 1) := by decide +kernel
set_option maxRecDepth 20000 in
theorem ggX11_drop_X11_needAct : GoodIn wsX11_drop wsX11_needAct := goodIn_ca (goodIn_r _ [7, 8, 9, 1, 2, 10, 11, 12, 13, 14, 15, 149, 150, 151, 152, 153, 154, 155, 156, 157, 158, 159, 160, 161, 162, 163, 164, 165, 166, 167, 168, 169, 170] (by decide +kernel) (by decide +kernel)) (goodIn_sub (fun _ h => List.mem_cons_of_mem _ (List.mem_append_right _ h)) (by decide +kernel))
set_option maxRecDepth 20000 in
theorem gX11_drop_X11_needAct : GoodIn wsX11_drop (wsV RX11 117 RX11 yX11_needAct wsX11_needAct) := goodIn_app (goodIn_of _ (by decide +kernel)) ggX11_drop_X11_needAct
set_option maxRecDepth 20000 in
theorem ggX11_drop_X11_beginChange : GoodIn wsX11_drop wsX11_beginChange := goodIn_r _ [19, 20, 21, 22, 23, 6, 24, 25, 26, 1, 27, 28, 29, 30, 31, 32, 33, 34, 35, 36, 37, 38, 39, 40, 41, 42, 43, 44, 45, 46, 47, 48, 49, 50, 51, 52, 53, 54, 55, 56, 57, 58, 59, 60, 61, 62, 63, 64, 65, 66, 67, 68, 69, 70, 71, 72, 73, 74, 13, 75, 76, 77, 78, 79, 15, 80, 81, 82, 83, 84, 85, 86, 87, 88, 89, 90, 91, 92, 93, 94, 95, 96, 97, 98, 99, 100, 101, 102, 103, 104, 105, 106, 107, 108, 109, 110, 111, 112, 113, 114, 115, 116, 117, 118, 119, 120, 121, 122, 123, 124, 125, 126, 127, 128, 129, 130, 131, 132, 133, 149, 150, 151, 152, 153, 154, 155, 156, 157, 158, 159, 160, 161, 162, 171, 172, 173, 174, 175, 176, 177, 163, 164, 165, 166, 167, 168, 169, 170, 178, 179, 180, 181, 182, 183, 184, 185, 186, 187, 188, 189, 190, 191, 192, 193, 194, 195, 196, 197, 198, 199, 200, 201, 202, 203, 204, 205, 206, 207, 208, 209, 210, 211, 212] (by decide +kernel) (by decide +kernel)
set_option maxRecDepth 20000 in
theorem gX11_drop_X11_beginChange : GoodIn wsX11_drop (wsV RX11 64 RX11 yX11_beginChange wsX11_beginChange) := goodIn_app (goodIn_of _ (by decide +kernel)) ggX11_drop_X11_beginChange
set_option maxRecDepth 20000 in
theorem ggX11_drop_X7_pleasing : GoodIn wsX11_drop wsX7_pleasing := goodIn_r _ [137, 138, 139, 140, 13, 141, 80, 142, 11, 12, 14, 15, 163, 164, 165, 166, 167, 168, 169, 170] (by decide +kernel) (by decide +kernel)
set_option maxRecDepth 20000 in
theorem gX11_drop_X7_pleasing : GoodIn wsX11_drop (wsV RX11 121 RX7 yX7_pleasing wsX7_pleasing) := goodIn_app (goodIn_of _ (by decide +kernel)) ggX11_drop_X7_pleasing
set_option maxRecDepth 20000 in
theorem ggX11_drop_X7_remove : GoodIn wsX11_drop wsX7_remove := goodIn_r _ [146, 15, 80, 147, 6, 148, 163, 164, 165, 166, 167, 168, 169, 170] (by decide +kernel) (by decide +kernel)
set_option maxRecDepth 20000 in
theorem gX11_drop_X7_remove : GoodIn wsX11_drop (wsV RX11 124 RX7 yX7_remove wsX7_remove) := goodIn_app (goodIn_of _ (by decide +kernel)) ggX11_drop_X7_remove
theorem dX11_drop_0 : decode cX11_drop 0 = .ok (.aload_n 0, 1) := by decide +kernel
theorem dX11_drop_1 : decode cX11_drop 1 = .ok (.iload_n 1, 1) := by decide +kernel
theorem dX11_drop_2 : decode cX11_drop 2 = .ok (.invokevirtual 117, 3) := by decide +kernel
theorem dX11_drop_5 : decode cX11_drop 5 = .ok (.aload_n 0, 1) := by decide +kernel
theorem dX11_drop_6 : decode cX11_drop 6 = .ok (.invokevirtual 64, 3) := by decide +kernel
theorem dX11_drop_9 : decode cX11_drop 9 = .ok (.aload_n 0, 1) := by decide +kernel
theorem dX11_drop_10 : decode cX11_drop 10 = .ok (.getfield 12, 3) := by decide +kernel
theorem dX11_drop_13 : decode cX11_drop 13 = .ok (.getfield 26, 3) := by decide +kernel
theorem dX11_drop_16 : decode cX11_drop 16 = .ok (.iload_n 1, 1) := by decide +kernel
theorem dX11_drop_17 : decode cX11_drop 17 = .ok (.invokevirtual 121, 3) := by decide +kernel
theorem dX11_drop_20 : decode cX11_drop 20 = .ok (.istore_n 2, 1) := by decide +kernel
theorem dX11_drop_21 : decode cX11_drop 21 = .ok (.aload_n 0, 1) := by decide +kernel
theorem dX11_drop_22 : decode cX11_drop 22 = .ok (.getfield 12, 3) := by decide +kernel
theorem dX11_drop_25 : decode cX11_drop 25 = .ok (.getfield 26, 3) := by decide +kernel
theorem dX11_drop_28 : decode cX11_drop 28 = .ok (.iload_n 1, 1) := by decide +kernel
theorem dX11_drop_29 : decode cX11_drop 29 = .ok (.invokevirtual 124, 3) := by decide +kernel
theorem dX11_drop_32 : decode cX11_drop 32 = .ok (.iload_n 2, 1) := by decide +kernel
theorem dX11_drop_33 : decode cX11_drop 33 = .ok (.ireturn, 1) := by decide +kernel
set_option maxRecDepth 20000 in
theorem ggX11_wish_X11_needPlace : GoodIn wsX11_wish wsX11_needPlace := goodIn_ca (goodIn_r _ [7, 8, 9] (by decide +kernel) (by decide +kernel)) (goodIn_sub (fun _ h => List.mem_cons_of_mem _ (List.mem_append_left _ (List.mem_append_right _ h))) (by decide +kernel))
set_option maxRecDepth 20000 in
theorem gX11_wish_X11_needPlace : GoodIn wsX11_wish (va_wsS RX11 79 yX11_needPlace wsX11_needPlace) := goodIn_app (goodIn_of _ (by decide +kernel)) ggX11_wish_X11_needPlace
set_option maxRecDepth 20000 in
theorem ggX11_wish_X11_needAct : GoodIn wsX11_wish wsX11_needAct := goodIn_ca (goodIn_r _ [13, 8, 9, 1, 2, 14, 15, 16, 17, 18, 19, 146, 147, 148, 149, 150, 151, 152, 153, 154, 155, 156, 157, 158, 159, 160, 161, 162, 163, 164, 165, 166, 167] (by decide +kernel) (by decide +kernel)) (goodIn_sub (fun _ h => List.mem_cons_of_mem _ (List.mem_append_left _ (List.mem_append_right _ h))) (by decide +kernel))
set_option maxRecDepth 20000 in
theorem gX11_wish_X11_needAct : GoodIn wsX11_wish (wsV RX11 117 RX11 yX11_needAct wsX11_needAct) := goodIn_app (goodIn_of _ (by decide +kernel)) ggX11_wish_X11_needAct
set_option maxRecDepth 20000 in
theorem ggX11_wish_X11_needRange : GoodIn wsX11_wish wsX11_needRange := goodIn_ca (goodIn_r _ [22, 23, 24] (by decide +kernel) (by decide +kernel)) (goodIn_sub (fun _ h => List.mem_cons_of_mem _ (List.mem_append_right _ h)) (by decide +kernel))
set_option maxRecDepth 20000 in
theorem gX11_wish_X11_needRange : GoodIn wsX11_wish (va_wsS RX11 92 yX11_needRange wsX11_needRange) := goodIn_app (goodIn_of _ (by decide +kernel)) ggX11_wish_X11_needRange
set_option maxRecDepth 20000 in
theorem ggX11_wish_X11_beginChange : GoodIn wsX11_wish wsX11_beginChange := goodIn_r _ [28, 29, 30, 31, 32, 6, 33, 34, 35, 1, 36, 37, 38, 39, 40, 41, 42, 43, 44, 45, 46, 47, 48, 49, 50, 51, 52, 53, 54, 55, 56, 57, 58, 59, 60, 61, 62, 63, 64, 65, 66, 67, 68, 69, 70, 71, 72, 73, 74, 75, 76, 77, 78, 79, 80, 81, 82, 83, 17, 84, 85, 86, 87, 88, 19, 89, 90, 91, 92, 93, 94, 95, 96, 97, 98, 99, 100, 101, 102, 103, 104, 105, 106, 107, 108, 109, 110, 111, 112, 113, 114, 115, 116, 117, 118, 119, 120, 121, 122, 123, 124, 125, 126, 127, 128, 129, 130, 131, 132, 133, 134, 135, 136, 137, 138, 139, 140, 141, 142, 146, 147, 148, 149, 150, 151, 152, 153, 154, 155, 156, 157, 158, 159, 168, 169, 170, 171, 172, 173, 174, 160, 161, 162, 163, 164, 165, 166, 167, 175, 176, 177, 178, 179, 180, 181, 182, 183, 184, 185, 186, 187, 188, 189, 190, 191, 192, 193, 194, 195, 196, 197, 198, 199, 200, 201, 202, 203, 204, 205, 206, 207, 208, 209] (by decide +kernel) (by decide +kernel)
set_option maxRecDepth 20000 in
theorem gX11_wish_X11_beginChange : GoodIn wsX11_wish (wsV RX11 64 RX11 yX11_beginChange wsX11_beginChange) := goodIn_app (goodIn_of _ (by decide +kernel)) ggX11_wish_X11_beginChange
set_option maxRecDepth 20000 in
theorem ggX11_wish_X11_replace : GoodIn wsX11_wish wsX11_replace := goodIn_r _ [145] (by decide +kernel) (by decide +kernel)
set_option maxRecDepth 20000 in
theorem gX11_wish_X11_replace : GoodIn wsX11_wish (va_wsS RX11 131 yX11_replace wsX11_replace) := goodIn_app (goodIn_of _ (by decide +kernel)) ggX11_wish_X11_replace
theorem dX11_wish_0 : decode cX11_wish 0 = .ok (.iload_n 1, 1) := by decide +kernel
theorem dX11_wish_1 : decode cX11_wish 1 = .ok (.bipush 12, 2) := by decide +kernel
theorem dX11_wish_3 : decode cX11_wish 3 = .ok (.invokestatic 79, 3) := by decide +kernel
theorem dX11_wish_6 : decode cX11_wish 6 = .ok (.aload_n 0, 1) := by decide +kernel
theorem dX11_wish_7 : decode cX11_wish 7 = .ok (.iload_n 2, 1) := by decide +kernel
theorem dX11_wish_8 : decode cX11_wish 8 = .ok (.invokevirtual 117, 3) := by decide +kernel
theorem dX11_wish_11 : decode cX11_wish 11 = .ok (.iload_n 3, 1) := by decide +kernel
theorem dX11_wish_12 : decode cX11_wish 12 = .ok (.iconst 0, 1) := by decide +kernel
theorem dX11_wish_13 : decode cX11_wish 13 = .ok (.bipush 9, 2) := by decide +kernel
theorem dX11_wish_15 : decode cX11_wish 15 = .ok (.invokestatic 92, 3) := by decide +kernel
theorem dX11_wish_18 : decode cX11_wish 18 = .ok (.aload_n 0, 1) := by decide +kernel
theorem dX11_wish_19 : decode cX11_wish 19 = .ok (.invokevirtual 64, 3) := by decide +kernel
theorem dX11_wish_22 : decode cX11_wish 22 = .ok (.aload_n 0, 1) := by decide +kernel
theorem dX11_wish_23 : decode cX11_wish 23 = .ok (.getfield 12, 3) := by decide +kernel
theorem dX11_wish_26 : decode cX11_wish 26 = .ok (.getfield 26, 3) := by decide +kernel
theorem dX11_wish_29 : decode cX11_wish 29 = .ok (.getfield 127, 3) := by decide +kernel
theorem dX11_wish_32 : decode cX11_wish 32 = .ok (.iload_n 1, 1) := by decide +kernel
theorem dX11_wish_33 : decode cX11_wish 33 = .ok (.bipush 16, 2) := by decide +kernel
theorem dX11_wish_35 : decode cX11_wish 35 = .ok (.imul, 1) := by decide +kernel
theorem dX11_wish_36 : decode cX11_wish 36 = .ok (.iload_n 2, 1) := by decide +kernel
theorem dX11_wish_37 : decode cX11_wish 37 = .ok (.iadd, 1) := by decide +kernel
theorem dX11_wish_38 : decode cX11_wish 38 = .ok (.iload_n 3, 1) := by decide +kernel
theorem dX11_wish_39 : decode cX11_wish 39 = .ok (.invokestatic 131, 3) := by decide +kernel
theorem dX11_wish_42 : decode cX11_wish 42 = .ok (.ireturn, 1) := by decide +kernel
set_option maxRecDepth 20000 in
theorem ggX11_setGate_X11_needPlace : GoodIn wsX11_setGate wsX11_needPlace := goodIn_ca (goodIn_r _ [7, 8, 9] (by decide +kernel) (by decide +kernel)) (goodIn_sub (fun _ h => List.mem_cons_of_mem _ (List.mem_append_left _ (List.mem_append_right _ h))) (by decide +kernel))
set_option maxRecDepth 20000 in
theorem gX11_setGate_X11_needPlace : GoodIn wsX11_setGate (va_wsS RX11 79 yX11_needPlace wsX11_needPlace) := goodIn_app (goodIn_of _ (by decide +kernel)) ggX11_setGate_X11_needPlace
set_option maxRecDepth 20000 in
theorem ggX11_setGate_X11_needRange : GoodIn wsX11_setGate wsX11_needRange := goodIn_ca (goodIn_r _ [12, 13, 14] (by decide +kernel) (by decide +kernel)) (goodIn_sub (fun _ h => List.mem_cons_of_mem _ (List.mem_append_right _ h)) (by decide +kernel))
set_option maxRecDepth 20000 in
theorem gX11_setGate_X11_needRange : GoodIn wsX11_setGate (va_wsS RX11 92 yX11_needRange wsX11_needRange) := goodIn_app (goodIn_of _ (by decide +kernel)) ggX11_setGate_X11_needRange
set_option maxRecDepth 20000 in
theorem ggX11_setGate_X11_beginChange : GoodIn wsX11_setGate wsX11_beginChange := goodIn_r _ [18, 19, 20, 21, 22, 6, 23, 24, 25, 1, 26, 27, 28, 29, 30, 31, 32, 33, 34, 35, 36, 37, 38, 39, 40, 41, 42, 43, 44, 45, 46, 47, 48, 49, 50, 51, 52, 53, 54, 55, 56, 57, 58, 59, 60, 61, 62, 63, 64, 65, 66, 67, 68, 69, 70, 71, 72, 73, 74, 75, 76, 77, 78, 79, 80, 81, 82, 83, 84, 85, 86, 87, 88, 89, 90, 91, 92, 93, 94, 95, 96, 97, 98, 99, 100, 101, 102, 103, 104, 105, 106, 107, 108, 109, 110, 111, 112, 113, 114, 115, 116, 117, 118, 119, 120, 121, 122, 123, 124, 125, 126, 127, 128, 129, 130, 131, 132, 133, 134, 138, 139, 140, 141, 142, 143, 144, 145, 146, 147, 148, 149, 150, 151, 155, 156, 157, 158, 159, 160, 161, 162, 163, 164, 165, 166, 167, 168, 169, 152, 153, 154, 170, 171, 172, 173, 174, 175, 176, 177, 178, 179, 180, 181, 182, 183, 184, 185, 186, 187, 188, 189, 190, 191, 192, 193, 194, 195, 196, 197, 198, 199, 200, 201] (by decide +kernel) (by decide +kernel)
set_option maxRecDepth 20000 in
theorem gX11_setGate_X11_beginChange : GoodIn wsX11_setGate (wsV RX11 64 RX11 yX11_beginChange wsX11_beginChange) := goodIn_app (goodIn_of _ (by decide +kernel)) ggX11_setGate_X11_beginChange
set_option maxRecDepth 20000 in
theorem ggX11_setGate_X11_replace : GoodIn wsX11_setGate wsX11_replace := goodIn_r _ [137] (by decide +kernel) (by decide +kernel)
set_option maxRecDepth 20000 in
theorem gX11_setGate_X11_replace : GoodIn wsX11_setGate (va_wsS RX11 131 yX11_replace wsX11_replace) := goodIn_app (goodIn_of _ (by decide +kernel)) ggX11_setGate_X11_replace
theorem dX11_setGate_0 : decode cX11_setGate 0 = .ok (.iload_n 1, 1) := by decide +kernel
theorem dX11_setGate_1 : decode cX11_setGate 1 = .ok (.iconst 3, 1) := by decide +kernel
theorem dX11_setGate_2 : decode cX11_setGate 2 = .ok (.invokestatic 79, 3) := by decide +kernel
theorem dX11_setGate_5 : decode cX11_setGate 5 = .ok (.iload_n 2, 1) := by decide +kernel
theorem dX11_setGate_6 : decode cX11_setGate 6 = .ok (.iconst 0, 1) := by decide +kernel
theorem dX11_setGate_7 : decode cX11_setGate 7 = .ok (.bipush 50, 2) := by decide +kernel
theorem dX11_setGate_9 : decode cX11_setGate 9 = .ok (.invokestatic 92, 3) := by decide +kernel
theorem dX11_setGate_12 : decode cX11_setGate 12 = .ok (.aload_n 0, 1) := by decide +kernel
theorem dX11_setGate_13 : decode cX11_setGate 13 = .ok (.invokevirtual 64, 3) := by decide +kernel
theorem dX11_setGate_16 : decode cX11_setGate 16 = .ok (.aload_n 0, 1) := by decide +kernel
theorem dX11_setGate_17 : decode cX11_setGate 17 = .ok (.getfield 12, 3) := by decide +kernel
theorem dX11_setGate_20 : decode cX11_setGate 20 = .ok (.getfield 135, 3) := by decide +kernel
theorem dX11_setGate_23 : decode cX11_setGate 23 = .ok (.getfield 139, 3) := by decide +kernel
theorem dX11_setGate_26 : decode cX11_setGate 26 = .ok (.iload_n 1, 1) := by decide +kernel
theorem dX11_setGate_27 : decode cX11_setGate 27 = .ok (.iload_n 2, 1) := by decide +kernel
theorem dX11_setGate_28 : decode cX11_setGate 28 = .ok (.invokestatic 131, 3) := by decide +kernel
theorem dX11_setGate_31 : decode cX11_setGate 31 = .ok (.ireturn, 1) := by decide +kernel
set_option maxRecDepth 20000 in
theorem ggX11_setReach_X11_needPlace : GoodIn wsX11_setReach wsX11_needPlace := goodIn_ca (goodIn_r _ [7, 8, 9] (by decide +kernel) (by decide +kernel)) (goodIn_sub (fun _ h => List.mem_cons_of_mem _ (List.mem_append_left _ (List.mem_append_right _ h))) (by decide +kernel))
set_option maxRecDepth 20000 in
theorem gX11_setReach_X11_needPlace : GoodIn wsX11_setReach (va_wsS RX11 79 yX11_needPlace wsX11_needPlace) := goodIn_app (goodIn_of _ (by decide +kernel)) ggX11_setReach_X11_needPlace
set_option maxRecDepth 20000 in
theorem ggX11_setReach_X11_needRange : GoodIn wsX11_setReach wsX11_needRange := goodIn_ca (goodIn_r _ [12, 13, 14] (by decide +kernel) (by decide +kernel)) (goodIn_sub (fun _ h => List.mem_cons_of_mem _ (List.mem_append_right _ h)) (by decide +kernel))
set_option maxRecDepth 20000 in
theorem gX11_setReach_X11_needRange : GoodIn wsX11_setReach (va_wsS RX11 92 yX11_needRange wsX11_needRange) := goodIn_app (goodIn_of _ (by decide +kernel)) ggX11_setReach_X11_needRange
set_option maxRecDepth 20000 in
theorem ggX11_setReach_X11_beginChange : GoodIn wsX11_setReach wsX11_beginChange := goodIn_r _ [18, 19, 20, 21, 22, 6, 23, 24, 25, 1, 26, 27, 28, 29, 30, 31, 32, 33, 34, 35, 36, 37, 38, 39, 40, 41, 42, 43, 44, 45, 46, 47, 48, 49, 50, 51, 52, 53, 54, 55, 56, 57, 58, 59, 60, 61, 62, 63, 64, 65, 66, 67, 68, 69, 70, 71, 72, 73, 74, 75, 76, 77, 78, 79, 80, 81, 82, 83, 84, 85, 86, 87, 88, 89, 90, 91, 92, 93, 94, 95, 96, 97, 98, 99, 100, 101, 102, 103, 104, 105, 106, 107, 108, 109, 110, 111, 112, 113, 114, 115, 116, 117, 118, 119, 120, 121, 122, 123, 124, 125, 126, 127, 128, 129, 130, 131, 132, 133, 134, 138, 139, 140, 141, 142, 143, 144, 145, 146, 147, 148, 149, 150, 151, 155, 156, 157, 158, 159, 160, 161, 162, 163, 164, 165, 166, 167, 168, 169, 152, 153, 154, 170, 171, 172, 173, 174, 175, 176, 177, 178, 179, 180, 181, 182, 183, 184, 185, 186, 187, 188, 189, 190, 191, 192, 193, 194, 195, 196, 197, 198, 199, 200, 201] (by decide +kernel) (by decide +kernel)
set_option maxRecDepth 20000 in
theorem gX11_setReach_X11_beginChange : GoodIn wsX11_setReach (wsV RX11 64 RX11 yX11_beginChange wsX11_beginChange) := goodIn_app (goodIn_of _ (by decide +kernel)) ggX11_setReach_X11_beginChange
set_option maxRecDepth 20000 in
theorem ggX11_setReach_X11_replace : GoodIn wsX11_setReach wsX11_replace := goodIn_r _ [137] (by decide +kernel) (by decide +kernel)
set_option maxRecDepth 20000 in
theorem gX11_setReach_X11_replace : GoodIn wsX11_setReach (va_wsS RX11 131 yX11_replace wsX11_replace) := goodIn_app (goodIn_of _ (by decide +kernel)) ggX11_setReach_X11_replace
theorem dX11_setReach_0 : decode cX11_setReach 0 = .ok (.iload_n 1, 1) := by decide +kernel
theorem dX11_setReach_1 : decode cX11_setReach 1 = .ok (.iconst 3, 1) := by decide +kernel
theorem dX11_setReach_2 : decode cX11_setReach 2 = .ok (.invokestatic 79, 3) := by decide +kernel
theorem dX11_setReach_5 : decode cX11_setReach 5 = .ok (.iload_n 2, 1) := by decide +kernel
theorem dX11_setReach_6 : decode cX11_setReach 6 = .ok (.iconst 4, 1) := by decide +kernel
theorem dX11_setReach_7 : decode cX11_setReach 7 = .ok (.invokestatic 79, 3) := by decide +kernel
theorem dX11_setReach_10 : decode cX11_setReach 10 = .ok (.iload_n 3, 1) := by decide +kernel
theorem dX11_setReach_11 : decode cX11_setReach 11 = .ok (.iconst 1, 1) := by decide +kernel
theorem dX11_setReach_12 : decode cX11_setReach 12 = .ok (.bipush 30, 2) := by decide +kernel
theorem dX11_setReach_14 : decode cX11_setReach 14 = .ok (.invokestatic 92, 3) := by decide +kernel
theorem dX11_setReach_17 : decode cX11_setReach 17 = .ok (.aload_n 0, 1) := by decide +kernel
theorem dX11_setReach_18 : decode cX11_setReach 18 = .ok (.invokevirtual 64, 3) := by decide +kernel
theorem dX11_setReach_21 : decode cX11_setReach 21 = .ok (.aload_n 0, 1) := by decide +kernel
theorem dX11_setReach_22 : decode cX11_setReach 22 = .ok (.getfield 12, 3) := by decide +kernel
theorem dX11_setReach_25 : decode cX11_setReach 25 = .ok (.getfield 135, 3) := by decide +kernel
theorem dX11_setReach_28 : decode cX11_setReach 28 = .ok (.getfield 144, 3) := by decide +kernel
theorem dX11_setReach_31 : decode cX11_setReach 31 = .ok (.iload_n 1, 1) := by decide +kernel
theorem dX11_setReach_32 : decode cX11_setReach 32 = .ok (.iconst 4, 1) := by decide +kernel
theorem dX11_setReach_33 : decode cX11_setReach 33 = .ok (.imul, 1) := by decide +kernel
theorem dX11_setReach_34 : decode cX11_setReach 34 = .ok (.iload_n 2, 1) := by decide +kernel
theorem dX11_setReach_35 : decode cX11_setReach 35 = .ok (.iadd, 1) := by decide +kernel
theorem dX11_setReach_36 : decode cX11_setReach 36 = .ok (.iload_n 3, 1) := by decide +kernel
theorem dX11_setReach_37 : decode cX11_setReach 37 = .ok (.invokestatic 131, 3) := by decide +kernel
theorem dX11_setReach_40 : decode cX11_setReach 40 = .ok (.ireturn, 1) := by decide +kernel
set_option maxRecDepth 20000 in
theorem ggX11_setCrowd_X11_needPlace : GoodIn wsX11_setCrowd wsX11_needPlace := goodIn_ca (goodIn_r _ [7, 8, 9] (by decide +kernel) (by decide +kernel)) (goodIn_sub (fun _ h => List.mem_cons_of_mem _ (List.mem_append_left _ (List.mem_append_right _ h))) (by decide +kernel))
set_option maxRecDepth 20000 in
theorem gX11_setCrowd_X11_needPlace : GoodIn wsX11_setCrowd (va_wsS RX11 79 yX11_needPlace wsX11_needPlace) := goodIn_app (goodIn_of _ (by decide +kernel)) ggX11_setCrowd_X11_needPlace
set_option maxRecDepth 20000 in
theorem ggX11_setCrowd_X11_needRange : GoodIn wsX11_setCrowd wsX11_needRange := goodIn_ca (goodIn_r _ [12, 13, 14] (by decide +kernel) (by decide +kernel)) (goodIn_sub (fun _ h => List.mem_cons_of_mem _ (List.mem_append_right _ h)) (by decide +kernel))
set_option maxRecDepth 20000 in
theorem gX11_setCrowd_X11_needRange : GoodIn wsX11_setCrowd (va_wsS RX11 92 yX11_needRange wsX11_needRange) := goodIn_app (goodIn_of _ (by decide +kernel)) ggX11_setCrowd_X11_needRange
set_option maxRecDepth 20000 in
theorem ggX11_setCrowd_X11_beginChange : GoodIn wsX11_setCrowd wsX11_beginChange := goodIn_r _ [18, 19, 20, 21, 22, 6, 23, 24, 25, 1, 26, 27, 28, 29, 30, 31, 32, 33, 34, 35, 36, 37, 38, 39, 40, 41, 42, 43, 44, 45, 46, 47, 48, 49, 50, 51, 52, 53, 54, 55, 56, 57, 58, 59, 60, 61, 62, 63, 64, 65, 66, 67, 68, 69, 70, 71, 72, 73, 74, 75, 76, 77, 78, 79, 80, 81, 82, 83, 84, 85, 86, 87, 88, 89, 90, 91, 92, 93, 94, 95, 96, 97, 98, 99, 100, 101, 102, 103, 104, 105, 106, 107, 108, 109, 110, 111, 112, 113, 114, 115, 116, 117, 118, 119, 120, 121, 122, 123, 124, 125, 126, 127, 128, 129, 130, 131, 132, 133, 134, 138, 139, 140, 141, 142, 143, 144, 145, 146, 147, 148, 149, 150, 151, 155, 156, 157, 158, 159, 160, 161, 162, 163, 164, 165, 166, 167, 168, 169, 152, 153, 154, 170, 171, 172, 173, 174, 175, 176, 177, 178, 179, 180, 181, 182, 183, 184, 185, 186, 187, 188, 189, 190, 191, 192, 193, 194, 195, 196, 197, 198, 199, 200, 201] (by decide +kernel) (by decide +kernel)
set_option maxRecDepth 20000 in
theorem gX11_setCrowd_X11_beginChange : GoodIn wsX11_setCrowd (wsV RX11 64 RX11 yX11_beginChange wsX11_beginChange) := goodIn_app (goodIn_of _ (by decide +kernel)) ggX11_setCrowd_X11_beginChange
set_option maxRecDepth 20000 in
theorem ggX11_setCrowd_X11_replace : GoodIn wsX11_setCrowd wsX11_replace := goodIn_r _ [137] (by decide +kernel) (by decide +kernel)
set_option maxRecDepth 20000 in
theorem gX11_setCrowd_X11_replace : GoodIn wsX11_setCrowd (va_wsS RX11 131 yX11_replace wsX11_replace) := goodIn_app (goodIn_of _ (by decide +kernel)) ggX11_setCrowd_X11_replace
theorem dX11_setCrowd_0 : decode cX11_setCrowd 0 = .ok (.iload_n 1, 1) := by decide +kernel
theorem dX11_setCrowd_1 : decode cX11_setCrowd 1 = .ok (.iconst 4, 1) := by decide +kernel
theorem dX11_setCrowd_2 : decode cX11_setCrowd 2 = .ok (.invokestatic 79, 3) := by decide +kernel
theorem dX11_setCrowd_5 : decode cX11_setCrowd 5 = .ok (.iload_n 2, 1) := by decide +kernel
theorem dX11_setCrowd_6 : decode cX11_setCrowd 6 = .ok (.iconst 0, 1) := by decide +kernel
theorem dX11_setCrowd_7 : decode cX11_setCrowd 7 = .ok (.sipush 2000, 3) := by decide +kernel
theorem dX11_setCrowd_10 : decode cX11_setCrowd 10 = .ok (.invokestatic 92, 3) := by decide +kernel
theorem dX11_setCrowd_13 : decode cX11_setCrowd 13 = .ok (.aload_n 0, 1) := by decide +kernel
theorem dX11_setCrowd_14 : decode cX11_setCrowd 14 = .ok (.invokevirtual 64, 3) := by decide +kernel
theorem dX11_setCrowd_17 : decode cX11_setCrowd 17 = .ok (.aload_n 0, 1) := by decide +kernel
theorem dX11_setCrowd_18 : decode cX11_setCrowd 18 = .ok (.getfield 12, 3) := by decide +kernel
theorem dX11_setCrowd_21 : decode cX11_setCrowd 21 = .ok (.getfield 135, 3) := by decide +kernel
theorem dX11_setCrowd_24 : decode cX11_setCrowd 24 = .ok (.getfield 147, 3) := by decide +kernel
theorem dX11_setCrowd_27 : decode cX11_setCrowd 27 = .ok (.iload_n 1, 1) := by decide +kernel
theorem dX11_setCrowd_28 : decode cX11_setCrowd 28 = .ok (.iload_n 2, 1) := by decide +kernel
theorem dX11_setCrowd_29 : decode cX11_setCrowd 29 = .ok (.invokestatic 131, 3) := by decide +kernel
theorem dX11_setCrowd_32 : decode cX11_setCrowd 32 = .ok (.ireturn, 1) := by decide +kernel
set_option maxRecDepth 20000 in
theorem ggX11_setServing_X11_needRange : GoodIn wsX11_setServing wsX11_needRange := goodIn_ca (goodIn_r _ [7, 8, 9] (by decide +kernel) (by decide +kernel)) (goodIn_sub (fun _ h => List.mem_cons_of_mem _ (List.mem_append_right _ h)) (by decide +kernel))
set_option maxRecDepth 20000 in
theorem gX11_setServing_X11_needRange : GoodIn wsX11_setServing (va_wsS RX11 92 yX11_needRange wsX11_needRange) := goodIn_app (goodIn_of _ (by decide +kernel)) ggX11_setServing_X11_needRange
set_option maxRecDepth 20000 in
theorem ggX11_setServing_X11_beginChange : GoodIn wsX11_setServing wsX11_beginChange := goodIn_r _ [13, 14, 15, 16, 17, 6, 18, 19, 20, 1, 21, 22, 23, 24, 25, 26, 27, 28, 29, 30, 31, 32, 33, 34, 35, 36, 37, 38, 39, 40, 41, 42, 43, 44, 45, 46, 47, 48, 49, 50, 51, 52, 53, 54, 55, 56, 57, 58, 59, 60, 61, 62, 63, 64, 65, 66, 67, 68, 69, 70, 71, 72, 73, 74, 75, 76, 77, 78, 79, 80, 81, 82, 83, 84, 85, 86, 87, 88, 89, 90, 91, 92, 93, 94, 95, 96, 97, 98, 99, 100, 101, 102, 103, 104, 105, 106, 107, 108, 109, 110, 111, 112, 113, 114, 115, 116, 117, 118, 119, 120, 121, 122, 123, 124, 125, 126, 127, 128, 129, 130, 131, 132, 133, 134, 135, 136, 137, 138, 139, 140, 141, 142, 143, 151, 152, 153, 154, 155, 156, 157, 158, 159, 160, 161, 162, 163, 164, 165, 166, 167, 168, 144, 145, 146, 147, 148, 149, 150, 169, 170, 171, 172, 173, 174, 175, 176, 177, 178, 179, 180, 181, 182, 183, 184, 185, 186, 187, 188, 189, 190, 191, 192, 193] (by decide +kernel) (by decide +kernel)
set_option maxRecDepth 20000 in
theorem gX11_setServing_X11_beginChange : GoodIn wsX11_setServing (wsV RX11 64 RX11 yX11_beginChange wsX11_beginChange) := goodIn_app (goodIn_of _ (by decide +kernel)) ggX11_setServing_X11_beginChange
theorem dX11_setServing_0 : decode cX11_setServing 0 = .ok (.iload_n 1, 1) := by decide +kernel
theorem dX11_setServing_1 : decode cX11_setServing 1 = .ok (.iconst 1, 1) := by decide +kernel
theorem dX11_setServing_2 : decode cX11_setServing 2 = .ok (.bipush 10, 2) := by decide +kernel
theorem dX11_setServing_4 : decode cX11_setServing 4 = .ok (.invokestatic 92, 3) := by decide +kernel
theorem dX11_setServing_7 : decode cX11_setServing 7 = .ok (.aload_n 0, 1) := by decide +kernel
theorem dX11_setServing_8 : decode cX11_setServing 8 = .ok (.invokevirtual 64, 3) := by decide +kernel
theorem dX11_setServing_11 : decode cX11_setServing 11 = .ok (.aload_n 0, 1) := by decide +kernel
theorem dX11_setServing_12 : decode cX11_setServing 12 = .ok (.getfield 12, 3) := by decide +kernel
theorem dX11_setServing_15 : decode cX11_setServing 15 = .ok (.getfield 150, 3) := by decide +kernel
theorem dX11_setServing_18 : decode cX11_setServing 18 = .ok (.getfield 154, 3) := by decide +kernel
theorem dX11_setServing_21 : decode cX11_setServing 21 = .ok (.istore_n 2, 1) := by decide +kernel
theorem dX11_setServing_22 : decode cX11_setServing 22 = .ok (.aload_n 0, 1) := by decide +kernel
theorem dX11_setServing_23 : decode cX11_setServing 23 = .ok (.getfield 12, 3) := by decide +kernel
theorem dX11_setServing_26 : decode cX11_setServing 26 = .ok (.getfield 150, 3) := by decide +kernel
theorem dX11_setServing_29 : decode cX11_setServing 29 = .ok (.iload_n 1, 1) := by decide +kernel
theorem dX11_setServing_30 : decode cX11_setServing 30 = .ok (.putfield 154, 3) := by decide +kernel
theorem dX11_setServing_33 : decode cX11_setServing 33 = .ok (.iload_n 2, 1) := by decide +kernel
theorem dX11_setServing_34 : decode cX11_setServing 34 = .ok (.ireturn, 1) := by decide +kernel
set_option maxRecDepth 20000 in
theorem ggX11_join_X11_needPlace : GoodIn wsX11_join wsX11_needPlace := goodIn_ca (goodIn_r _ [8, 9, 10] (by decide +kernel) (by decide +kernel)) (goodIn_sub (fun _ h => List.mem_cons_of_mem _ (List.mem_append_right _ h)) (by decide +kernel))
set_option maxRecDepth 20000 in
theorem gX11_join_X11_needPlace : GoodIn wsX11_join (va_wsS RX11 79 yX11_needPlace wsX11_needPlace) := goodIn_app (goodIn_of _ (by decide +kernel)) ggX11_join_X11_needPlace
set_option maxRecDepth 20000 in
theorem ggX11_join_X0_barOf : GoodIn wsX11_join wsX0_barOf := goodIn_r _ [15, 16, 165, 166, 167, 168, 169, 170, 171] (by decide +kernel) (by decide +kernel)
set_option maxRecDepth 20000 in
theorem gX11_join_X0_barOf : GoodIn wsX11_join (wsV RX11 159 RX0 yX0_barOf wsX0_barOf) := goodIn_app (goodIn_of _ (by decide +kernel)) ggX11_join_X0_barOf
set_option maxRecDepth 20000 in
theorem ggX11_join_X11_beginChange : GoodIn wsX11_join wsX11_beginChange := goodIn_r _ [20, 21, 22, 23, 24, 7, 25, 26, 27, 3, 28, 29, 30, 31, 32, 33, 34, 35, 36, 37, 38, 39, 40, 41, 42, 43, 44, 45, 46, 47, 48, 49, 50, 51, 52, 53, 54, 55, 56, 57, 58, 59, 60, 61, 62, 63, 64, 65, 66, 67, 68, 69, 70, 71, 72, 73, 74, 75, 76, 77, 78, 79, 80, 81, 82, 83, 84, 85, 86, 87, 88, 89, 90, 91, 92, 93, 94, 14, 95, 96, 97, 16, 98, 99, 100, 101, 102, 103, 104, 105, 106, 107, 108, 109, 110, 111, 112, 113, 114, 115, 116, 117, 118, 119, 120, 121, 122, 123, 124, 125, 126, 127, 128, 129, 130, 131, 132, 133, 134, 151, 152, 153, 154, 155, 156, 157, 158, 159, 160, 161, 162, 163, 164, 172, 173, 174, 175, 176, 177, 178, 179, 180, 181, 182, 183, 184, 185, 186, 187, 188, 189, 165, 166, 167, 168, 169, 170, 171, 190, 191, 192, 193, 194, 195, 196, 197, 198, 199, 200, 201, 202, 203, 204, 205, 206, 207, 208, 209, 210, 211, 212, 213, 214] (by decide +kernel) (by decide +kernel)
set_option maxRecDepth 20000 in
theorem gX11_join_X11_beginChange : GoodIn wsX11_join (wsV RX11 64 RX11 yX11_beginChange wsX11_beginChange) := goodIn_app (goodIn_of _ (by decide +kernel)) ggX11_join_X11_beginChange
set_option maxRecDepth 20000 in
theorem ggX11_join_X0_enter : GoodIn wsX11_join wsX0_enter := goodIn_r _ [138, 98, 99, 96, 97, 139, 30, 31, 32, 16, 140, 141, 142, 14, 143, 144, 12, 13, 15, 145, 7, 146, 165, 166, 167, 168, 169, 170, 171] (by decide +kernel) (by decide +kernel)
set_option maxRecDepth 20000 in
theorem gX11_join_X0_enter : GoodIn wsX11_join (wsV RX11 164 RX0 yX0_enter wsX0_enter) := goodIn_app (goodIn_of _ (by decide +kernel)) ggX11_join_X0_enter
set_option maxRecDepth 20000 in
theorem ggX11_join_X0_minutesTill : GoodIn wsX11_join wsX0_minutesTill := goodIn_r _ [150, 97, 96, 98, 99, 144, 12, 13, 14, 15, 16, 165, 166, 167, 168, 169, 170, 171] (by decide +kernel) (by decide +kernel)
set_option maxRecDepth 20000 in
theorem gX11_join_X0_minutesTill : GoodIn wsX11_join (wsV RX11 167 RX0 yX0_minutesTill wsX0_minutesTill) := goodIn_app (goodIn_of _ (by decide +kernel)) ggX11_join_X0_minutesTill
theorem dX11_join_0 : decode cX11_join 0 = .ok (.iload_n 1, 1) := by decide +kernel
theorem dX11_join_1 : decode cX11_join 1 = .ok (.iconst 3, 1) := by decide +kernel
theorem dX11_join_2 : decode cX11_join 2 = .ok (.invokestatic 79, 3) := by decide +kernel
theorem dX11_join_5 : decode cX11_join 5 = .ok (.iload_n 2, 1) := by decide +kernel
theorem dX11_join_6 : decode cX11_join 6 = .ok (.bipush 12, 2) := by decide +kernel
theorem dX11_join_8 : decode cX11_join 8 = .ok (.invokestatic 79, 3) := by decide +kernel
theorem dX11_join_11 : decode cX11_join 11 = .ok (.aload_n 0, 1) := by decide +kernel
theorem dX11_join_12 : decode cX11_join 12 = .ok (.getfield 12, 3) := by decide +kernel
theorem dX11_join_15 : decode cX11_join 15 = .ok (.getfield 150, 3) := by decide +kernel
theorem dX11_join_18 : decode cX11_join 18 = .ok (.iload_n 2, 1) := by decide +kernel
theorem dX11_join_19 : decode cX11_join 19 = .ok (.invokevirtual 159, 3) := by decide +kernel
theorem dX11_join_22 : decode cX11_join 22 = .ok (.iconst (-1), 1) := by decide +kernel
theorem dX11_join_23 : decode cX11_join 23 = .ok (.if_icmp .eq 13, 3) := by decide +kernel
theorem dX11_join_26 : decode cX11_join 26 = .ok (.new 108, 3) := by decide +kernel
theorem dX11_join_29 : decode cX11_join 29 = .ok (.dup, 1) := by decide +kernel
theorem dX11_join_30 : decode cX11_join 30 = .ok (.ldc 162, 2) := by decide +kernel
theorem dX11_join_32 : decode cX11_join 32 = .ok (.invokespecial 112, 3) := by decide +kernel
theorem dX11_join_35 : decode cX11_join 35 = .ok (.athrow, 1) := by decide +kernel
theorem dX11_join_36 : decode cX11_join 36 = .ok (.aload_n 0, 1) := by decide +kernel
theorem dX11_join_37 : decode cX11_join 37 = .ok (.invokevirtual 64, 3) := by decide +kernel
theorem dX11_join_40 : decode cX11_join 40 = .ok (.aload_n 0, 1) := by decide +kernel
theorem dX11_join_41 : decode cX11_join 41 = .ok (.getfield 12, 3) := by decide +kernel
theorem dX11_join_44 : decode cX11_join 44 = .ok (.getfield 150, 3) := by decide +kernel
theorem dX11_join_47 : decode cX11_join 47 = .ok (.iload_n 1, 1) := by decide +kernel
theorem dX11_join_48 : decode cX11_join 48 = .ok (.iload_n 2, 1) := by decide +kernel
theorem dX11_join_49 : decode cX11_join 49 = .ok (.invokevirtual 164, 3) := by decide +kernel
theorem dX11_join_52 : decode cX11_join 52 = .ok (.aload_n 0, 1) := by decide +kernel
theorem dX11_join_53 : decode cX11_join 53 = .ok (.getfield 12, 3) := by decide +kernel
theorem dX11_join_56 : decode cX11_join 56 = .ok (.getfield 150, 3) := by decide +kernel
theorem dX11_join_59 : decode cX11_join 59 = .ok (.iload_n 2, 1) := by decide +kernel
theorem dX11_join_60 : decode cX11_join 60 = .ok (.invokevirtual 167, 3) := by decide +kernel
theorem dX11_join_63 : decode cX11_join 63 = .ok (.ireturn, 1) := by decide +kernel
set_option maxRecDepth 20000 in
theorem ggX11_leave_X11_needPlace : GoodIn wsX11_leave wsX11_needPlace := goodIn_ca (goodIn_r _ [8, 9, 10] (by decide +kernel) (by decide +kernel)) (goodIn_sub (fun _ h => List.mem_cons_of_mem _ (List.mem_append_right _ h)) (by decide +kernel))
set_option maxRecDepth 20000 in
theorem gX11_leave_X11_needPlace : GoodIn wsX11_leave (va_wsS RX11 79 yX11_needPlace wsX11_needPlace) := goodIn_app (goodIn_of _ (by decide +kernel)) ggX11_leave_X11_needPlace
set_option maxRecDepth 20000 in
theorem ggX11_leave_X0_barOf : GoodIn wsX11_leave wsX0_barOf := goodIn_r _ [15, 16, 160, 161, 162, 163, 164, 165, 166] (by decide +kernel) (by decide +kernel)
set_option maxRecDepth 20000 in
theorem gX11_leave_X0_barOf : GoodIn wsX11_leave (wsV RX11 159 RX0 yX0_barOf wsX0_barOf) := goodIn_app (goodIn_of _ (by decide +kernel)) ggX11_leave_X0_barOf
set_option maxRecDepth 20000 in
theorem ggX11_leave_X11_beginChange : GoodIn wsX11_leave wsX11_beginChange := goodIn_r _ [20, 21, 22, 23, 24, 7, 25, 26, 27, 3, 28, 29, 30, 31, 32, 33, 34, 35, 36, 37, 38, 39, 40, 41, 42, 43, 44, 45, 46, 47, 48, 49, 50, 51, 52, 53, 54, 55, 56, 57, 58, 59, 60, 61, 62, 63, 64, 65, 66, 67, 68, 69, 70, 71, 72, 73, 74, 75, 76, 77, 78, 79, 80, 81, 82, 83, 84, 85, 86, 87, 88, 89, 90, 91, 92, 93, 94, 14, 95, 96, 97, 16, 98, 99, 100, 101, 102, 103, 104, 105, 106, 107, 108, 109, 110, 111, 112, 113, 114, 115, 116, 117, 118, 119, 120, 121, 122, 123, 124, 125, 126, 127, 128, 129, 130, 131, 132, 133, 134, 146, 147, 148, 149, 150, 151, 152, 153, 154, 155, 156, 157, 158, 159, 167, 168, 169, 170, 171, 172, 173, 174, 175, 176, 177, 178, 179, 180, 181, 182, 183, 184, 160, 161, 162, 163, 164, 165, 166, 185, 186, 187, 188, 189, 190, 191, 192, 193, 194, 195, 196, 197, 198, 199, 200, 201, 202, 203, 204, 205, 206, 207, 208, 209] (by decide +kernel) (by decide +kernel)
set_option maxRecDepth 20000 in
theorem gX11_leave_X11_beginChange : GoodIn wsX11_leave (wsV RX11 64 RX11 yX11_beginChange wsX11_beginChange) := goodIn_app (goodIn_of _ (by decide +kernel)) ggX11_leave_X11_beginChange
set_option maxRecDepth 20000 in
theorem ggX11_leave_X0_takeOut : GoodIn wsX11_leave wsX0_takeOut := goodIn_r _ [138, 98, 99, 97, 96, 16, 139, 12, 13, 14, 15, 140, 141, 142, 143, 144, 7, 145, 160, 161, 162, 163, 164, 165, 166] (by decide +kernel) (by decide +kernel)
set_option maxRecDepth 20000 in
theorem gX11_leave_X0_takeOut : GoodIn wsX11_leave (wsV RX11 172 RX0 yX0_takeOut wsX0_takeOut) := goodIn_app (goodIn_of _ (by decide +kernel)) ggX11_leave_X0_takeOut
theorem dX11_leave_0 : decode cX11_leave 0 = .ok (.iload_n 1, 1) := by decide +kernel
theorem dX11_leave_1 : decode cX11_leave 1 = .ok (.bipush 12, 2) := by decide +kernel
theorem dX11_leave_3 : decode cX11_leave 3 = .ok (.invokestatic 79, 3) := by decide +kernel
theorem dX11_leave_6 : decode cX11_leave 6 = .ok (.aload_n 0, 1) := by decide +kernel
theorem dX11_leave_7 : decode cX11_leave 7 = .ok (.getfield 12, 3) := by decide +kernel
theorem dX11_leave_10 : decode cX11_leave 10 = .ok (.getfield 150, 3) := by decide +kernel
theorem dX11_leave_13 : decode cX11_leave 13 = .ok (.iload_n 1, 1) := by decide +kernel
theorem dX11_leave_14 : decode cX11_leave 14 = .ok (.invokevirtual 159, 3) := by decide +kernel
theorem dX11_leave_17 : decode cX11_leave 17 = .ok (.istore_n 2, 1) := by decide +kernel
theorem dX11_leave_18 : decode cX11_leave 18 = .ok (.iload_n 2, 1) := by decide +kernel
theorem dX11_leave_19 : decode cX11_leave 19 = .ok (.iconst (-1), 1) := by decide +kernel
theorem dX11_leave_20 : decode cX11_leave 20 = .ok (.if_icmp .ne 13, 3) := by decide +kernel
theorem dX11_leave_23 : decode cX11_leave 23 = .ok (.new 108, 3) := by decide +kernel
theorem dX11_leave_26 : decode cX11_leave 26 = .ok (.dup, 1) := by decide +kernel
theorem dX11_leave_27 : decode cX11_leave 27 = .ok (.ldc 170, 2) := by decide +kernel
theorem dX11_leave_29 : decode cX11_leave 29 = .ok (.invokespecial 112, 3) := by decide +kernel
theorem dX11_leave_32 : decode cX11_leave 32 = .ok (.athrow, 1) := by decide +kernel
theorem dX11_leave_33 : decode cX11_leave 33 = .ok (.aload_n 0, 1) := by decide +kernel
theorem dX11_leave_34 : decode cX11_leave 34 = .ok (.invokevirtual 64, 3) := by decide +kernel
theorem dX11_leave_37 : decode cX11_leave 37 = .ok (.aload_n 0, 1) := by decide +kernel
theorem dX11_leave_38 : decode cX11_leave 38 = .ok (.getfield 12, 3) := by decide +kernel
theorem dX11_leave_41 : decode cX11_leave 41 = .ok (.getfield 150, 3) := by decide +kernel
theorem dX11_leave_44 : decode cX11_leave 44 = .ok (.iload_n 1, 1) := by decide +kernel
theorem dX11_leave_45 : decode cX11_leave 45 = .ok (.invokevirtual 172, 3) := by decide +kernel
theorem dX11_leave_48 : decode cX11_leave 48 = .ok (.iload_n 2, 1) := by decide +kernel
theorem dX11_leave_49 : decode cX11_leave 49 = .ok (.ireturn, 1) := by decide +kernel
set_option maxRecDepth 20000 in
theorem ggX11_pass_X11_needRange : GoodIn wsX11_pass wsX11_needRange := goodIn_ca (goodIn_r _ [7, 8, 9] (by decide +kernel) (by decide +kernel)) (goodIn_sub (fun _ h => List.mem_cons_of_mem _ (List.mem_append_right _ h)) (by decide +kernel))
set_option maxRecDepth 20000 in
theorem gX11_pass_X11_needRange : GoodIn wsX11_pass (va_wsS RX11 92 yX11_needRange wsX11_needRange) := goodIn_app (goodIn_of _ (by decide +kernel)) ggX11_pass_X11_needRange
set_option maxRecDepth 20000 in
theorem ggX11_pass_X11_beginChange : GoodIn wsX11_pass wsX11_beginChange := goodIn_r _ [13, 14, 15, 16, 17, 6, 18, 19, 20, 1, 21, 22, 23, 24, 25, 26, 27, 28, 29, 30, 31, 32, 33, 34, 35, 36, 37, 38, 39, 40, 41, 42, 43, 44, 45, 46, 47, 48, 49, 50, 51, 52, 53, 54, 55, 56, 57, 58, 59, 60, 61, 62, 63, 64, 65, 66, 67, 68, 69, 70, 71, 72, 73, 74, 75, 76, 77, 78, 79, 80, 81, 82, 83, 84, 85, 86, 87, 88, 89, 90, 91, 92, 93, 94, 95, 96, 97, 98, 99, 100, 101, 102, 103, 104, 105, 106, 107, 108, 109, 110, 111, 112, 113, 114, 115, 116, 117, 118, 119, 120, 121, 122, 123, 124, 125, 126, 127, 128, 129, 148, 149, 150, 151, 152, 153, 154, 155, 156, 157, 158, 159, 160, 161, 169, 170, 171, 172, 173, 174, 175, 176, 177, 178, 179, 180, 181, 182, 183, 184, 185, 186, 162, 163, 164, 165, 166, 167, 168, 187, 188, 189, 190, 191, 192, 193, 194, 195, 196, 197, 198, 199, 200, 201, 202, 203, 204, 205, 206, 207, 208, 209, 210, 211] (by decide +kernel) (by decide +kernel)
set_option maxRecDepth 20000 in
theorem gX11_pass_X11_beginChange : GoodIn wsX11_pass (wsV RX11 64 RX11 yX11_beginChange wsX11_beginChange) := goodIn_app (goodIn_of _ (by decide +kernel)) ggX11_pass_X11_beginChange
set_option maxRecDepth 20000 in
theorem ggX11_pass_X0_passMinute : GoodIn wsX11_pass wsX0_passMinute := goodIn_r _ [133, 93, 95, 134, 135, 136, 88, 137, 91, 90, 138, 139, 140, 141, 92, 142, 143, 144, 145, 94, 146, 6, 147, 162, 163, 164, 165, 166, 167, 168] (by decide +kernel) (by decide +kernel)
set_option maxRecDepth 20000 in
theorem gX11_pass_X0_passMinute : GoodIn wsX11_pass (wsV RX11 178 RX0 yX0_passMinute wsX0_passMinute) := goodIn_app (goodIn_of _ (by decide +kernel)) ggX11_pass_X0_passMinute
theorem dX11_pass_0 : decode cX11_pass 0 = .ok (.iload_n 1, 1) := by decide +kernel
theorem dX11_pass_1 : decode cX11_pass 1 = .ok (.iconst 1, 1) := by decide +kernel
theorem dX11_pass_2 : decode cX11_pass 2 = .ok (.bipush 60, 2) := by decide +kernel
theorem dX11_pass_4 : decode cX11_pass 4 = .ok (.invokestatic 92, 3) := by decide +kernel
theorem dX11_pass_7 : decode cX11_pass 7 = .ok (.aload_n 0, 1) := by decide +kernel
theorem dX11_pass_8 : decode cX11_pass 8 = .ok (.invokevirtual 64, 3) := by decide +kernel
theorem dX11_pass_11 : decode cX11_pass 11 = .ok (.aload_n 0, 1) := by decide +kernel
theorem dX11_pass_12 : decode cX11_pass 12 = .ok (.getfield 12, 3) := by decide +kernel
theorem dX11_pass_15 : decode cX11_pass 15 = .ok (.getfield 150, 3) := by decide +kernel
theorem dX11_pass_18 : decode cX11_pass 18 = .ok (.getfield 175, 3) := by decide +kernel
theorem dX11_pass_21 : decode cX11_pass 21 = .ok (.istore_n 2, 1) := by decide +kernel
theorem dX11_pass_22 : decode cX11_pass 22 = .ok (.iconst 0, 1) := by decide +kernel
theorem dX11_pass_23 : decode cX11_pass 23 = .ok (.istore_n 3, 1) := by decide +kernel
theorem dX11_pass_24 : decode cX11_pass 24 = .ok (.iload_n 3, 1) := by decide +kernel
theorem dX11_pass_25 : decode cX11_pass 25 = .ok (.iload_n 1, 1) := by decide +kernel
theorem dX11_pass_26 : decode cX11_pass 26 = .ok (.if_icmp .ge 19, 3) := by decide +kernel
theorem dX11_pass_29 : decode cX11_pass 29 = .ok (.aload_n 0, 1) := by decide +kernel
theorem dX11_pass_30 : decode cX11_pass 30 = .ok (.getfield 12, 3) := by decide +kernel
theorem dX11_pass_33 : decode cX11_pass 33 = .ok (.getfield 150, 3) := by decide +kernel
theorem dX11_pass_36 : decode cX11_pass 36 = .ok (.invokevirtual 178, 3) := by decide +kernel
theorem dX11_pass_39 : decode cX11_pass 39 = .ok (.iinc 3 1, 3) := by decide +kernel
theorem dX11_pass_42 : decode cX11_pass 42 = .ok (.goto (-18), 3) := by decide +kernel
theorem dX11_pass_45 : decode cX11_pass 45 = .ok (.aload_n 0, 1) := by decide +kernel
theorem dX11_pass_46 : decode cX11_pass 46 = .ok (.getfield 12, 3) := by decide +kernel
theorem dX11_pass_49 : decode cX11_pass 49 = .ok (.getfield 150, 3) := by decide +kernel
theorem dX11_pass_52 : decode cX11_pass 52 = .ok (.getfield 175, 3) := by decide +kernel
theorem dX11_pass_55 : decode cX11_pass 55 = .ok (.iload_n 2, 1) := by decide +kernel
theorem dX11_pass_56 : decode cX11_pass 56 = .ok (.isub, 1) := by decide +kernel
theorem dX11_pass_57 : decode cX11_pass 57 = .ok (.ireturn, 1) := by decide +kernel
set_option maxRecDepth 20000 in
theorem ggX11_setNeed_X11_needPlace : GoodIn wsX11_setNeed wsX11_needPlace := goodIn_ca (goodIn_r _ [7, 8, 9] (by decide +kernel) (by decide +kernel)) (goodIn_sub (fun _ h => List.mem_cons_of_mem _ (List.mem_append_left _ (List.mem_append_right _ h))) (by decide +kernel))
set_option maxRecDepth 20000 in
theorem gX11_setNeed_X11_needPlace : GoodIn wsX11_setNeed (va_wsS RX11 79 yX11_needPlace wsX11_needPlace) := goodIn_app (goodIn_of _ (by decide +kernel)) ggX11_setNeed_X11_needPlace
set_option maxRecDepth 20000 in
theorem ggX11_setNeed_X11_needRange : GoodIn wsX11_setNeed wsX11_needRange := goodIn_ca (goodIn_r _ [12, 13, 14] (by decide +kernel) (by decide +kernel)) (goodIn_sub (fun _ h => List.mem_cons_of_mem _ (List.mem_append_right _ h)) (by decide +kernel))
set_option maxRecDepth 20000 in
theorem gX11_setNeed_X11_needRange : GoodIn wsX11_setNeed (va_wsS RX11 92 yX11_needRange wsX11_needRange) := goodIn_app (goodIn_of _ (by decide +kernel)) ggX11_setNeed_X11_needRange
set_option maxRecDepth 20000 in
theorem ggX11_setNeed_X11_beginChange : GoodIn wsX11_setNeed wsX11_beginChange := goodIn_r _ [18, 19, 20, 21, 22, 6, 23, 24, 25, 1, 26, 27, 28, 29, 30, 31, 32, 33, 34, 35, 36, 37, 38, 39, 40, 41, 42, 43, 44, 45, 46, 47, 48, 49, 50, 51, 52, 53, 54, 55, 56, 57, 58, 59, 60, 61, 62, 63, 64, 65, 66, 67, 68, 69, 70, 71, 72, 73, 74, 75, 76, 77, 78, 79, 80, 81, 82, 83, 84, 85, 86, 87, 88, 89, 90, 91, 92, 93, 94, 95, 96, 97, 98, 99, 100, 101, 102, 103, 104, 105, 106, 107, 108, 109, 110, 111, 112, 113, 114, 115, 116, 117, 118, 119, 120, 121, 122, 123, 124, 125, 126, 127, 128, 129, 130, 131, 132, 133, 134, 138, 139, 140, 141, 142, 143, 144, 145, 146, 147, 148, 149, 150, 151, 156, 157, 158, 159, 160, 161, 162, 163, 164, 165, 166, 167, 168, 169, 170, 171, 172, 173, 174, 175, 176, 177, 178, 179, 180, 152, 153, 154, 155, 181, 182, 183, 184, 185, 186, 187, 188, 189, 190, 191, 192, 193, 194, 195, 196, 197, 198, 199, 200, 201] (by decide +kernel) (by decide +kernel)
set_option maxRecDepth 20000 in
theorem gX11_setNeed_X11_beginChange : GoodIn wsX11_setNeed (wsV RX11 64 RX11 yX11_beginChange wsX11_beginChange) := goodIn_app (goodIn_of _ (by decide +kernel)) ggX11_setNeed_X11_beginChange
set_option maxRecDepth 20000 in
theorem ggX11_setNeed_X11_replace : GoodIn wsX11_setNeed wsX11_replace := goodIn_r _ [137] (by decide +kernel) (by decide +kernel)
set_option maxRecDepth 20000 in
theorem gX11_setNeed_X11_replace : GoodIn wsX11_setNeed (va_wsS RX11 131 yX11_replace wsX11_replace) := goodIn_app (goodIn_of _ (by decide +kernel)) ggX11_setNeed_X11_replace
theorem dX11_setNeed_0 : decode cX11_setNeed 0 = .ok (.iload_n 1, 1) := by decide +kernel
theorem dX11_setNeed_1 : decode cX11_setNeed 1 = .ok (.bipush 24, 2) := by decide +kernel
theorem dX11_setNeed_3 : decode cX11_setNeed 3 = .ok (.invokestatic 79, 3) := by decide +kernel
theorem dX11_setNeed_6 : decode cX11_setNeed 6 = .ok (.iload_n 2, 1) := by decide +kernel
theorem dX11_setNeed_7 : decode cX11_setNeed 7 = .ok (.iconst 0, 1) := by decide +kernel
theorem dX11_setNeed_8 : decode cX11_setNeed 8 = .ok (.bipush 9, 2) := by decide +kernel
theorem dX11_setNeed_10 : decode cX11_setNeed 10 = .ok (.invokestatic 92, 3) := by decide +kernel
theorem dX11_setNeed_13 : decode cX11_setNeed 13 = .ok (.aload_n 0, 1) := by decide +kernel
theorem dX11_setNeed_14 : decode cX11_setNeed 14 = .ok (.invokevirtual 64, 3) := by decide +kernel
theorem dX11_setNeed_17 : decode cX11_setNeed 17 = .ok (.aload_n 0, 1) := by decide +kernel
theorem dX11_setNeed_18 : decode cX11_setNeed 18 = .ok (.getfield 12, 3) := by decide +kernel
theorem dX11_setNeed_21 : decode cX11_setNeed 21 = .ok (.getfield 181, 3) := by decide +kernel
theorem dX11_setNeed_24 : decode cX11_setNeed 24 = .ok (.getfield 185, 3) := by decide +kernel
theorem dX11_setNeed_27 : decode cX11_setNeed 27 = .ok (.iload_n 1, 1) := by decide +kernel
theorem dX11_setNeed_28 : decode cX11_setNeed 28 = .ok (.iload_n 2, 1) := by decide +kernel
theorem dX11_setNeed_29 : decode cX11_setNeed 29 = .ok (.invokestatic 131, 3) := by decide +kernel
theorem dX11_setNeed_32 : decode cX11_setNeed 32 = .ok (.ireturn, 1) := by decide +kernel
set_option maxRecDepth 20000 in
theorem ggX11_setShift_X11_needRange : GoodIn wsX11_setShift wsX11_needRange := goodIn_ca (goodIn_r _ [7, 8, 9] (by decide +kernel) (by decide +kernel)) (goodIn_sub (fun _ h => List.mem_cons_of_mem _ (List.mem_append_right _ h)) (by decide +kernel))
set_option maxRecDepth 20000 in
theorem gX11_setShift_X11_needRange : GoodIn wsX11_setShift (va_wsS RX11 92 yX11_needRange wsX11_needRange) := goodIn_app (goodIn_of _ (by decide +kernel)) ggX11_setShift_X11_needRange
set_option maxRecDepth 20000 in
theorem ggX11_setShift_X11_beginChange : GoodIn wsX11_setShift wsX11_beginChange := goodIn_r _ [13, 14, 15, 16, 17, 6, 18, 19, 20, 1, 21, 22, 23, 24, 25, 26, 27, 28, 29, 30, 31, 32, 33, 34, 35, 36, 37, 38, 39, 40, 41, 42, 43, 44, 45, 46, 47, 48, 49, 50, 51, 52, 53, 54, 55, 56, 57, 58, 59, 60, 61, 62, 63, 64, 65, 66, 67, 68, 69, 70, 71, 72, 73, 74, 75, 76, 77, 78, 79, 80, 81, 82, 83, 84, 85, 86, 87, 88, 89, 90, 91, 92, 93, 94, 95, 96, 97, 98, 99, 100, 101, 102, 103, 104, 105, 106, 107, 108, 109, 110, 111, 112, 113, 114, 115, 116, 117, 118, 119, 120, 121, 122, 123, 124, 125, 126, 127, 128, 129, 130, 131, 132, 133, 134, 135, 136, 137, 138, 139, 140, 141, 142, 143, 148, 149, 150, 151, 152, 153, 154, 155, 156, 157, 158, 159, 160, 161, 162, 163, 164, 165, 166, 167, 168, 169, 170, 171, 172, 144, 145, 146, 147, 173, 174, 175, 176, 177, 178, 179, 180, 181, 182, 183, 184, 185, 186, 187, 188, 189, 190, 191, 192, 193] (by decide +kernel) (by decide +kernel)
set_option maxRecDepth 20000 in
theorem gX11_setShift_X11_beginChange : GoodIn wsX11_setShift (wsV RX11 64 RX11 yX11_beginChange wsX11_beginChange) := goodIn_app (goodIn_of _ (by decide +kernel)) ggX11_setShift_X11_beginChange
theorem dX11_setShift_0 : decode cX11_setShift 0 = .ok (.iload_n 1, 1) := by decide +kernel
theorem dX11_setShift_1 : decode cX11_setShift 1 = .ok (.iconst 2, 1) := by decide +kernel
theorem dX11_setShift_2 : decode cX11_setShift 2 = .ok (.bipush 10, 2) := by decide +kernel
theorem dX11_setShift_4 : decode cX11_setShift 4 = .ok (.invokestatic 92, 3) := by decide +kernel
theorem dX11_setShift_7 : decode cX11_setShift 7 = .ok (.aload_n 0, 1) := by decide +kernel
theorem dX11_setShift_8 : decode cX11_setShift 8 = .ok (.invokevirtual 64, 3) := by decide +kernel
theorem dX11_setShift_11 : decode cX11_setShift 11 = .ok (.aload_n 0, 1) := by decide +kernel
theorem dX11_setShift_12 : decode cX11_setShift 12 = .ok (.getfield 12, 3) := by decide +kernel
theorem dX11_setShift_15 : decode cX11_setShift 15 = .ok (.getfield 181, 3) := by decide +kernel
theorem dX11_setShift_18 : decode cX11_setShift 18 = .ok (.getfield 190, 3) := by decide +kernel
theorem dX11_setShift_21 : decode cX11_setShift 21 = .ok (.istore_n 2, 1) := by decide +kernel
theorem dX11_setShift_22 : decode cX11_setShift 22 = .ok (.aload_n 0, 1) := by decide +kernel
theorem dX11_setShift_23 : decode cX11_setShift 23 = .ok (.getfield 12, 3) := by decide +kernel
theorem dX11_setShift_26 : decode cX11_setShift 26 = .ok (.getfield 181, 3) := by decide +kernel
theorem dX11_setShift_29 : decode cX11_setShift 29 = .ok (.iload_n 1, 1) := by decide +kernel
theorem dX11_setShift_30 : decode cX11_setShift 30 = .ok (.putfield 190, 3) := by decide +kernel
theorem dX11_setShift_33 : decode cX11_setShift 33 = .ok (.iload_n 2, 1) := by decide +kernel
theorem dX11_setShift_34 : decode cX11_setShift 34 = .ok (.ireturn, 1) := by decide +kernel
set_option maxRecDepth 20000 in
theorem ggX11_setLoad_X11_needPlace : GoodIn wsX11_setLoad wsX11_needPlace := goodIn_ca (goodIn_r _ [7, 8, 9] (by decide +kernel) (by decide +kernel)) (goodIn_sub (fun _ h => List.mem_cons_of_mem _ (List.mem_append_left _ (List.mem_append_right _ h))) (by decide +kernel))
set_option maxRecDepth 20000 in
theorem gX11_setLoad_X11_needPlace : GoodIn wsX11_setLoad (va_wsS RX11 79 yX11_needPlace wsX11_needPlace) := goodIn_app (goodIn_of _ (by decide +kernel)) ggX11_setLoad_X11_needPlace
set_option maxRecDepth 20000 in
theorem ggX11_setLoad_X11_needRange : GoodIn wsX11_setLoad wsX11_needRange := goodIn_ca (goodIn_r _ [12, 13, 14] (by decide +kernel) (by decide +kernel)) (goodIn_sub (fun _ h => List.mem_cons_of_mem _ (List.mem_append_right _ h)) (by decide +kernel))
set_option maxRecDepth 20000 in
theorem gX11_setLoad_X11_needRange : GoodIn wsX11_setLoad (va_wsS RX11 92 yX11_needRange wsX11_needRange) := goodIn_app (goodIn_of _ (by decide +kernel)) ggX11_setLoad_X11_needRange
set_option maxRecDepth 20000 in
theorem ggX11_setLoad_X11_beginChange : GoodIn wsX11_setLoad wsX11_beginChange := goodIn_r _ [18, 19, 20, 21, 22, 6, 23, 24, 25, 1, 26, 27, 28, 29, 30, 31, 32, 33, 34, 35, 36, 37, 38, 39, 40, 41, 42, 43, 44, 45, 46, 47, 48, 49, 50, 51, 52, 53, 54, 55, 56, 57, 58, 59, 60, 61, 62, 63, 64, 65, 66, 67, 68, 69, 70, 71, 72, 73, 74, 75, 76, 77, 78, 79, 80, 81, 82, 83, 84, 85, 86, 87, 88, 89, 90, 91, 92, 93, 94, 95, 96, 97, 98, 99, 100, 101, 102, 103, 104, 105, 106, 107, 108, 109, 110, 111, 112, 113, 114, 115, 116, 117, 118, 119, 120, 121, 122, 123, 124, 125, 126, 127, 128, 129, 130, 131, 132, 133, 134, 135, 136, 137, 138, 139, 140, 141, 142, 143, 144, 145, 146, 147, 148, 157, 158, 159, 160, 161, 162, 163, 164, 165, 166, 167, 168, 169, 170, 171, 172, 173, 174, 175, 176, 177, 178, 179, 180, 181, 182, 183, 184, 185, 149, 150, 151, 152, 153, 154, 155, 156, 186, 187, 188, 189, 190, 191, 192, 193, 194, 195, 196, 197, 198] (by decide +kernel) (by decide +kernel)
set_option maxRecDepth 20000 in
theorem gX11_setLoad_X11_beginChange : GoodIn wsX11_setLoad (wsV RX11 64 RX11 yX11_beginChange wsX11_beginChange) := goodIn_app (goodIn_of _ (by decide +kernel)) ggX11_setLoad_X11_beginChange
theorem dX11_setLoad_0 : decode cX11_setLoad 0 = .ok (.iload_n 1, 1) := by decide +kernel
theorem dX11_setLoad_1 : decode cX11_setLoad 1 = .ok (.bipush 24, 2) := by decide +kernel
theorem dX11_setLoad_3 : decode cX11_setLoad 3 = .ok (.invokestatic 79, 3) := by decide +kernel
theorem dX11_setLoad_6 : decode cX11_setLoad 6 = .ok (.iload_n 2, 1) := by decide +kernel
theorem dX11_setLoad_7 : decode cX11_setLoad 7 = .ok (.bipush 24, 2) := by decide +kernel
theorem dX11_setLoad_9 : decode cX11_setLoad 9 = .ok (.invokestatic 79, 3) := by decide +kernel
theorem dX11_setLoad_12 : decode cX11_setLoad 12 = .ok (.iload_n 2, 1) := by decide +kernel
theorem dX11_setLoad_13 : decode cX11_setLoad 13 = .ok (.iload_n 1, 1) := by decide +kernel
theorem dX11_setLoad_14 : decode cX11_setLoad 14 = .ok (.bipush 23, 2) := by decide +kernel
theorem dX11_setLoad_16 : decode cX11_setLoad 16 = .ok (.invokestatic 92, 3) := by decide +kernel
theorem dX11_setLoad_19 : decode cX11_setLoad 19 = .ok (.iload_n 3, 1) := by decide +kernel
theorem dX11_setLoad_20 : decode cX11_setLoad 20 = .ok (.iconst 0, 1) := by decide +kernel
theorem dX11_setLoad_21 : decode cX11_setLoad 21 = .ok (.sipush 500, 3) := by decide +kernel
theorem dX11_setLoad_24 : decode cX11_setLoad 24 = .ok (.invokestatic 92, 3) := by decide +kernel
theorem dX11_setLoad_27 : decode cX11_setLoad 27 = .ok (.aload_n 0, 1) := by decide +kernel
theorem dX11_setLoad_28 : decode cX11_setLoad 28 = .ok (.invokevirtual 64, 3) := by decide +kernel
theorem dX11_setLoad_31 : decode cX11_setLoad 31 = .ok (.aload_n 0, 1) := by decide +kernel
theorem dX11_setLoad_32 : decode cX11_setLoad 32 = .ok (.getfield 12, 3) := by decide +kernel
theorem dX11_setLoad_35 : decode cX11_setLoad 35 = .ok (.getfield 193, 3) := by decide +kernel
theorem dX11_setLoad_38 : decode cX11_setLoad 38 = .ok (.getfield 197, 3) := by decide +kernel
theorem dX11_setLoad_41 : decode cX11_setLoad 41 = .ok (.iload_n 1, 1) := by decide +kernel
theorem dX11_setLoad_42 : decode cX11_setLoad 42 = .ok (.iaload, 1) := by decide +kernel
theorem dX11_setLoad_43 : decode cX11_setLoad 43 = .ok (.istore 4, 2) := by decide +kernel
theorem dX11_setLoad_45 : decode cX11_setLoad 45 = .ok (.iload_n 1, 1) := by decide +kernel
theorem dX11_setLoad_46 : decode cX11_setLoad 46 = .ok (.istore 5, 2) := by decide +kernel
theorem dX11_setLoad_48 : decode cX11_setLoad 48 = .ok (.iload 5, 2) := by decide +kernel
theorem dX11_setLoad_50 : decode cX11_setLoad 50 = .ok (.iload_n 2, 1) := by decide +kernel
theorem dX11_setLoad_51 : decode cX11_setLoad 51 = .ok (.if_icmp .gt 23, 3) := by decide +kernel
theorem dX11_setLoad_54 : decode cX11_setLoad 54 = .ok (.aload_n 0, 1) := by decide +kernel
theorem dX11_setLoad_55 : decode cX11_setLoad 55 = .ok (.getfield 12, 3) := by decide +kernel
theorem dX11_setLoad_58 : decode cX11_setLoad 58 = .ok (.getfield 193, 3) := by decide +kernel
theorem dX11_setLoad_61 : decode cX11_setLoad 61 = .ok (.getfield 197, 3) := by decide +kernel
theorem dX11_setLoad_64 : decode cX11_setLoad 64 = .ok (.iload 5, 2) := by decide +kernel
theorem dX11_setLoad_66 : decode cX11_setLoad 66 = .ok (.iload_n 3, 1) := by decide +kernel
theorem dX11_setLoad_67 : decode cX11_setLoad 67 = .ok (.iastore, 1) := by decide +kernel
theorem dX11_setLoad_68 : decode cX11_setLoad 68 = .ok (.iinc 5 1, 3) := by decide +kernel
theorem dX11_setLoad_71 : decode cX11_setLoad 71 = .ok (.goto (-23), 3) := by decide +kernel
theorem dX11_setLoad_74 : decode cX11_setLoad 74 = .ok (.iload 4, 2) := by decide +kernel
theorem dX11_setLoad_76 : decode cX11_setLoad 76 = .ok (.ireturn, 1) := by decide +kernel
set_option maxRecDepth 20000 in
theorem ggX11_setGenerator_X11_needPlace : GoodIn wsX11_setGenerator wsX11_needPlace := goodIn_ca (goodIn_r _ [9, 10, 11] (by decide +kernel) (by decide +kernel)) (goodIn_sub (fun _ h => List.mem_cons_of_mem _ (List.mem_append_left _ (List.mem_append_right _ h))) (by decide +kernel))
set_option maxRecDepth 20000 in
theorem gX11_setGenerator_X11_needPlace : GoodIn wsX11_setGenerator (va_wsS RX11 79 yX11_needPlace wsX11_needPlace) := goodIn_app (goodIn_of _ (by decide +kernel)) ggX11_setGenerator_X11_needPlace
set_option maxRecDepth 20000 in
theorem ggX11_setGenerator_X11_needRange : GoodIn wsX11_setGenerator wsX11_needRange := goodIn_ca (goodIn_r _ [14, 15, 16] (by decide +kernel) (by decide +kernel)) (goodIn_sub (fun _ h => List.mem_cons_of_mem _ (List.mem_append_right _ h)) (by decide +kernel))
set_option maxRecDepth 20000 in
theorem gX11_setGenerator_X11_needRange : GoodIn wsX11_setGenerator (va_wsS RX11 92 yX11_needRange wsX11_needRange) := goodIn_app (goodIn_of _ (by decide +kernel)) ggX11_setGenerator_X11_needRange
set_option maxRecDepth 20000 in
theorem ggX11_setGenerator_X11_beginChange : GoodIn wsX11_setGenerator wsX11_beginChange := goodIn_r _ [20, 21, 22, 23, 24, 8, 25, 26, 27, 1, 28, 29, 30, 31, 32, 33, 34, 35, 36, 37, 38, 39, 40, 41, 42, 43, 44, 45, 46, 47, 48, 49, 50, 51, 52, 53, 54, 55, 56, 57, 58, 59, 60, 61, 62, 63, 64, 65, 66, 67, 68, 69, 70, 71, 72, 73, 74, 75, 76, 77, 78, 79, 80, 81, 82, 83, 84, 85, 86, 87, 88, 89, 90, 91, 92, 93, 94, 95, 96, 97, 98, 99, 100, 101, 102, 103, 104, 105, 106, 107, 108, 109, 110, 111, 112, 113, 114, 115, 116, 117, 118, 119, 120, 121, 122, 123, 124, 125, 126, 127, 128, 129, 130, 131, 132, 133, 134, 135, 136, 140, 141, 142, 143, 144, 145, 146, 147, 148, 149, 150, 151, 152, 153, 162, 163, 164, 165, 166, 167, 168, 169, 170, 171, 172, 173, 174, 175, 176, 177, 178, 179, 180, 181, 182, 183, 184, 185, 186, 187, 188, 189, 190, 154, 155, 156, 157, 158, 159, 160, 161, 191, 192, 193, 194, 195, 196, 197, 198, 199, 200, 201, 202, 203] (by decide +kernel) (by decide +kernel)
set_option maxRecDepth 20000 in
theorem gX11_setGenerator_X11_beginChange : GoodIn wsX11_setGenerator (wsV RX11 64 RX11 yX11_beginChange wsX11_beginChange) := goodIn_app (goodIn_of _ (by decide +kernel)) ggX11_setGenerator_X11_beginChange
set_option maxRecDepth 20000 in
theorem ggX11_setGenerator_X11_replace : GoodIn wsX11_setGenerator wsX11_replace := goodIn_r _ [139] (by decide +kernel) (by decide +kernel)
set_option maxRecDepth 20000 in
theorem gX11_setGenerator_X11_replace : GoodIn wsX11_setGenerator (va_wsS RX11 131 yX11_replace wsX11_replace) := goodIn_app (goodIn_of _ (by decide +kernel)) ggX11_setGenerator_X11_replace
theorem dX11_setGenerator_0 : decode cX11_setGenerator 0 = .ok (.iload_n 1, 1) := by decide +kernel
theorem dX11_setGenerator_1 : decode cX11_setGenerator 1 = .ok (.iconst 4, 1) := by decide +kernel
theorem dX11_setGenerator_2 : decode cX11_setGenerator 2 = .ok (.invokestatic 79, 3) := by decide +kernel
theorem dX11_setGenerator_5 : decode cX11_setGenerator 5 = .ok (.iload_n 2, 1) := by decide +kernel
theorem dX11_setGenerator_6 : decode cX11_setGenerator 6 = .ok (.iconst 0, 1) := by decide +kernel
theorem dX11_setGenerator_7 : decode cX11_setGenerator 7 = .ok (.sipush 200, 3) := by decide +kernel
theorem dX11_setGenerator_10 : decode cX11_setGenerator 10 = .ok (.invokestatic 92, 3) := by decide +kernel
theorem dX11_setGenerator_13 : decode cX11_setGenerator 13 = .ok (.iload_n 3, 1) := by decide +kernel
theorem dX11_setGenerator_14 : decode cX11_setGenerator 14 = .ok (.iconst 0, 1) := by decide +kernel
theorem dX11_setGenerator_15 : decode cX11_setGenerator 15 = .ok (.bipush 100, 2) := by decide +kernel
theorem dX11_setGenerator_17 : decode cX11_setGenerator 17 = .ok (.invokestatic 92, 3) := by decide +kernel
theorem dX11_setGenerator_20 : decode cX11_setGenerator 20 = .ok (.iload 4, 2) := by decide +kernel
theorem dX11_setGenerator_22 : decode cX11_setGenerator 22 = .ok (.iconst 0, 1) := by decide +kernel
theorem dX11_setGenerator_23 : decode cX11_setGenerator 23 = .ok (.bipush 100, 2) := by decide +kernel
theorem dX11_setGenerator_25 : decode cX11_setGenerator 25 = .ok (.invokestatic 92, 3) := by decide +kernel
theorem dX11_setGenerator_28 : decode cX11_setGenerator 28 = .ok (.aload_n 0, 1) := by decide +kernel
theorem dX11_setGenerator_29 : decode cX11_setGenerator 29 = .ok (.invokevirtual 64, 3) := by decide +kernel
theorem dX11_setGenerator_32 : decode cX11_setGenerator 32 = .ok (.aload_n 0, 1) := by decide +kernel
theorem dX11_setGenerator_33 : decode cX11_setGenerator 33 = .ok (.getfield 12, 3) := by decide +kernel
theorem dX11_setGenerator_36 : decode cX11_setGenerator 36 = .ok (.getfield 193, 3) := by decide +kernel
theorem dX11_setGenerator_39 : decode cX11_setGenerator 39 = .ok (.getfield 202, 3) := by decide +kernel
theorem dX11_setGenerator_42 : decode cX11_setGenerator 42 = .ok (.iload_n 1, 1) := by decide +kernel
theorem dX11_setGenerator_43 : decode cX11_setGenerator 43 = .ok (.iload_n 3, 1) := by decide +kernel
theorem dX11_setGenerator_44 : decode cX11_setGenerator 44 = .ok (.invokestatic 131, 3) := by decide +kernel
theorem dX11_setGenerator_47 : decode cX11_setGenerator 47 = .ok (.pop, 1) := by decide +kernel
theorem dX11_setGenerator_48 : decode cX11_setGenerator 48 = .ok (.aload_n 0, 1) := by decide +kernel
theorem dX11_setGenerator_49 : decode cX11_setGenerator 49 = .ok (.getfield 12, 3) := by decide +kernel
theorem dX11_setGenerator_52 : decode cX11_setGenerator 52 = .ok (.getfield 193, 3) := by decide +kernel
theorem dX11_setGenerator_55 : decode cX11_setGenerator 55 = .ok (.getfield 205, 3) := by decide +kernel
theorem dX11_setGenerator_58 : decode cX11_setGenerator 58 = .ok (.iload_n 1, 1) := by decide +kernel
theorem dX11_setGenerator_59 : decode cX11_setGenerator 59 = .ok (.iload 4, 2) := by decide +kernel
theorem dX11_setGenerator_61 : decode cX11_setGenerator 61 = .ok (.invokestatic 131, 3) := by decide +kernel
theorem dX11_setGenerator_64 : decode cX11_setGenerator 64 = .ok (.pop, 1) := by decide +kernel
theorem dX11_setGenerator_65 : decode cX11_setGenerator 65 = .ok (.aload_n 0, 1) := by decide +kernel
theorem dX11_setGenerator_66 : decode cX11_setGenerator 66 = .ok (.getfield 12, 3) := by decide +kernel
theorem dX11_setGenerator_69 : decode cX11_setGenerator 69 = .ok (.getfield 193, 3) := by decide +kernel
theorem dX11_setGenerator_72 : decode cX11_setGenerator 72 = .ok (.getfield 208, 3) := by decide +kernel
theorem dX11_setGenerator_75 : decode cX11_setGenerator 75 = .ok (.iload_n 1, 1) := by decide +kernel
theorem dX11_setGenerator_76 : decode cX11_setGenerator 76 = .ok (.iload_n 2, 1) := by decide +kernel
theorem dX11_setGenerator_77 : decode cX11_setGenerator 77 = .ok (.invokestatic 131, 3) := by decide +kernel
theorem dX11_setGenerator_80 : decode cX11_setGenerator 80 = .ok (.ireturn, 1) := by decide +kernel
set_option maxRecDepth 20000 in
theorem ggX11_moveAll_X11_saveMoment : GoodIn wsX11_moveAll wsX11_saveMoment := goodIn_r _ [9, 10, 11, 12, 13, 14, 15, 16, 17, 18, 19, 20, 21, 22, 23, 24, 25, 26, 27, 28, 29, 30, 31, 32, 33, 34, 35, 36, 37, 38, 39, 40, 41, 42, 43, 44, 45, 46, 47, 48, 49, 50, 51, 52, 8, 53, 54, 55, 56, 57, 58, 59, 60, 61, 62, 63, 64, 65, 66, 67, 68, 69, 70, 71, 72, 73, 74, 75, 76, 77, 78, 79, 80, 81, 82, 83, 84, 85, 86, 87, 88, 89, 90, 91, 92, 93, 94, 95, 96, 97, 98, 99, 100, 101, 102, 103, 104, 105, 106, 107, 108, 109, 110, 111, 112, 113, 114, 115, 138, 139, 140, 141, 142, 143, 152, 153, 154, 155, 156, 157, 158, 159, 160, 161, 162, 163, 164, 165, 166, 167, 168, 169, 170, 171, 172, 173, 174, 175, 176, 177, 178, 179, 180, 181, 182, 183, 184, 185, 186, 187, 188, 189, 190, 191, 192, 193, 194, 195, 196, 197, 198, 199, 200, 201] (by decide +kernel) (by decide +kernel)
set_option maxRecDepth 20000 in
theorem gX11_moveAll_X11_saveMoment : GoodIn wsX11_moveAll (wsV RX11 217 RX11 yX11_saveMoment wsX11_saveMoment) := goodIn_app (goodIn_of _ (by decide +kernel)) ggX11_moveAll_X11_saveMoment
set_option maxRecDepth 20000 in
theorem ggX11_moveAll_X9_carryOut : GoodIn wsX11_moveAll wsX9_carryOut := goodIn_r _ [120, 121, 122, 123, 124, 125, 61, 126, 67, 68, 127, 8, 128, 129, 130, 131, 132, 63, 144, 145, 146, 147, 148, 149, 150, 151, 167, 168, 169, 170, 171, 172, 173, 174] (by decide +kernel) (by decide +kernel)
set_option maxRecDepth 20000 in
theorem gX11_moveAll_X9_carryOut : GoodIn wsX11_moveAll (wsV RX11 220 RX9 yX9_carryOut wsX9_carryOut) := goodIn_app (goodIn_of _ (by decide +kernel)) ggX11_moveAll_X9_carryOut
set_option maxRecDepth 20000 in
theorem ggX11_moveAll_X9_forget : GoodIn wsX11_moveAll wsX9_forget := goodIn_r _ [136, 137, 144, 145, 146, 147, 148, 149, 150, 151] (by decide +kernel) (by decide +kernel)
set_option maxRecDepth 20000 in
theorem gX11_moveAll_X9_forget : GoodIn wsX11_moveAll (wsV RX11 223 RX9 yX9_forget wsX9_forget) := goodIn_app (goodIn_of _ (by decide +kernel)) ggX11_moveAll_X9_forget
theorem dX11_moveAll_0 : decode cX11_moveAll 0 = .ok (.aload_n 0, 1) := by decide +kernel
theorem dX11_moveAll_1 : decode cX11_moveAll 1 = .ok (.getfield 40, 3) := by decide +kernel
theorem dX11_moveAll_4 : decode cX11_moveAll 4 = .ok (.getfield 211, 3) := by decide +kernel
theorem dX11_moveAll_7 : decode cX11_moveAll 7 = .ok (.ifCond .ne 13, 3) := by decide +kernel
theorem dX11_moveAll_10 : decode cX11_moveAll 10 = .ok (.new 108, 3) := by decide +kernel
theorem dX11_moveAll_13 : decode cX11_moveAll 13 = .ok (.dup, 1) := by decide +kernel
theorem dX11_moveAll_14 : decode cX11_moveAll 14 = .ok (.ldc 215, 2) := by decide +kernel
theorem dX11_moveAll_16 : decode cX11_moveAll 16 = .ok (.invokespecial 112, 3) := by decide +kernel
theorem dX11_moveAll_19 : decode cX11_moveAll 19 = .ok (.athrow, 1) := by decide +kernel
theorem dX11_moveAll_20 : decode cX11_moveAll 20 = .ok (.aload_n 0, 1) := by decide +kernel
theorem dX11_moveAll_21 : decode cX11_moveAll 21 = .ok (.invokevirtual 217, 3) := by decide +kernel
theorem dX11_moveAll_24 : decode cX11_moveAll 24 = .ok (.aload_n 0, 1) := by decide +kernel
theorem dX11_moveAll_25 : decode cX11_moveAll 25 = .ok (.getfield 40, 3) := by decide +kernel
theorem dX11_moveAll_28 : decode cX11_moveAll 28 = .ok (.invokevirtual 220, 3) := by decide +kernel
theorem dX11_moveAll_31 : decode cX11_moveAll 31 = .ok (.istore_n 1, 1) := by decide +kernel
theorem dX11_moveAll_32 : decode cX11_moveAll 32 = .ok (.aload_n 0, 1) := by decide +kernel
theorem dX11_moveAll_33 : decode cX11_moveAll 33 = .ok (.getfield 40, 3) := by decide +kernel
theorem dX11_moveAll_36 : decode cX11_moveAll 36 = .ok (.invokevirtual 223, 3) := by decide +kernel
theorem dX11_moveAll_39 : decode cX11_moveAll 39 = .ok (.iload_n 1, 1) := by decide +kernel
theorem dX11_moveAll_40 : decode cX11_moveAll 40 = .ok (.ireturn, 1) := by decide +kernel
set_option maxRecDepth 20000 in
theorem ggX11_setPrice_X11_needPlace : GoodIn wsX11_setPrice wsX11_needPlace := goodIn_ca (goodIn_r _ [7, 8, 9] (by decide +kernel) (by decide +kernel)) (goodIn_sub (fun _ h => List.mem_cons_of_mem _ (List.mem_append_left _ (List.mem_append_right _ h))) (by decide +kernel))
set_option maxRecDepth 20000 in
theorem gX11_setPrice_X11_needPlace : GoodIn wsX11_setPrice (va_wsS RX11 79 yX11_needPlace wsX11_needPlace) := goodIn_app (goodIn_of _ (by decide +kernel)) ggX11_setPrice_X11_needPlace
set_option maxRecDepth 20000 in
theorem ggX11_setPrice_X11_needRange : GoodIn wsX11_setPrice wsX11_needRange := goodIn_ca (goodIn_r _ [12, 13, 14] (by decide +kernel) (by decide +kernel)) (goodIn_sub (fun _ h => List.mem_cons_of_mem _ (List.mem_append_right _ h)) (by decide +kernel))
set_option maxRecDepth 20000 in
theorem gX11_setPrice_X11_needRange : GoodIn wsX11_setPrice (va_wsS RX11 92 yX11_needRange wsX11_needRange) := goodIn_app (goodIn_of _ (by decide +kernel)) ggX11_setPrice_X11_needRange
set_option maxRecDepth 20000 in
theorem ggX11_setPrice_X11_beginChange : GoodIn wsX11_setPrice wsX11_beginChange := goodIn_r _ [18, 19, 20, 21, 22, 6, 23, 24, 25, 1, 26, 27, 28, 29, 30, 31, 32, 33, 34, 35, 36, 37, 38, 39, 40, 41, 42, 43, 44, 45, 46, 47, 48, 49, 50, 51, 52, 53, 54, 55, 56, 57, 58, 59, 60, 61, 62, 63, 64, 65, 66, 67, 68, 69, 70, 71, 72, 73, 74, 75, 76, 77, 78, 79, 80, 81, 82, 83, 84, 85, 86, 87, 88, 89, 90, 91, 92, 93, 94, 95, 96, 97, 98, 99, 100, 101, 102, 103, 104, 105, 106, 107, 108, 109, 110, 111, 112, 113, 114, 115, 116, 117, 118, 119, 120, 121, 122, 123, 124, 125, 126, 127, 128, 129, 130, 131, 132, 133, 134, 138, 139, 140, 141, 142, 143, 144, 145, 146, 147, 148, 149, 150, 151, 157, 158, 159, 160, 161, 162, 163, 164, 165, 166, 167, 168, 169, 170, 171, 172, 173, 174, 175, 176, 177, 178, 179, 180, 181, 182, 183, 184, 185, 186, 187, 188, 189, 190, 191, 192, 193, 152, 153, 154, 155, 156, 194, 195, 196, 197, 198, 199, 200, 201] (by decide +kernel) (by decide +kernel)
set_option maxRecDepth 20000 in
theorem gX11_setPrice_X11_beginChange : GoodIn wsX11_setPrice (wsV RX11 64 RX11 yX11_beginChange wsX11_beginChange) := goodIn_app (goodIn_of _ (by decide +kernel)) ggX11_setPrice_X11_beginChange
set_option maxRecDepth 20000 in
theorem ggX11_setPrice_X11_replace : GoodIn wsX11_setPrice wsX11_replace := goodIn_r _ [137] (by decide +kernel) (by decide +kernel)
set_option maxRecDepth 20000 in
theorem gX11_setPrice_X11_replace : GoodIn wsX11_setPrice (va_wsS RX11 131 yX11_replace wsX11_replace) := goodIn_app (goodIn_of _ (by decide +kernel)) ggX11_setPrice_X11_replace
theorem dX11_setPrice_0 : decode cX11_setPrice 0 = .ok (.iload_n 1, 1) := by decide +kernel
theorem dX11_setPrice_1 : decode cX11_setPrice 1 = .ok (.iconst 4, 1) := by decide +kernel
theorem dX11_setPrice_2 : decode cX11_setPrice 2 = .ok (.invokestatic 79, 3) := by decide +kernel
theorem dX11_setPrice_5 : decode cX11_setPrice 5 = .ok (.iload_n 2, 1) := by decide +kernel
theorem dX11_setPrice_6 : decode cX11_setPrice 6 = .ok (.iconst 0, 1) := by decide +kernel
theorem dX11_setPrice_7 : decode cX11_setPrice 7 = .ok (.sipush 500, 3) := by decide +kernel
theorem dX11_setPrice_10 : decode cX11_setPrice 10 = .ok (.invokestatic 92, 3) := by decide +kernel
theorem dX11_setPrice_13 : decode cX11_setPrice 13 = .ok (.aload_n 0, 1) := by decide +kernel
theorem dX11_setPrice_14 : decode cX11_setPrice 14 = .ok (.invokevirtual 64, 3) := by decide +kernel
theorem dX11_setPrice_17 : decode cX11_setPrice 17 = .ok (.aload_n 0, 1) := by decide +kernel
theorem dX11_setPrice_18 : decode cX11_setPrice 18 = .ok (.getfield 12, 3) := by decide +kernel
theorem dX11_setPrice_21 : decode cX11_setPrice 21 = .ok (.getfield 226, 3) := by decide +kernel
theorem dX11_setPrice_24 : decode cX11_setPrice 24 = .ok (.getfield 230, 3) := by decide +kernel
theorem dX11_setPrice_27 : decode cX11_setPrice 27 = .ok (.iload_n 1, 1) := by decide +kernel
theorem dX11_setPrice_28 : decode cX11_setPrice 28 = .ok (.iload_n 2, 1) := by decide +kernel
theorem dX11_setPrice_29 : decode cX11_setPrice 29 = .ok (.invokestatic 131, 3) := by decide +kernel
theorem dX11_setPrice_32 : decode cX11_setPrice 32 = .ok (.ireturn, 1) := by decide +kernel
set_option maxRecDepth 20000 in
theorem ggX11_ticket_X11_needPlace : GoodIn wsX11_ticket wsX11_needPlace := goodIn_ca (goodIn_r _ [6, 7, 8] (by decide +kernel) (by decide +kernel)) (goodIn_sub (fun _ h => List.mem_cons_of_mem _ (List.mem_append_left _ (List.mem_append_left _ (List.mem_append_right _ h)))) (by decide +kernel))
set_option maxRecDepth 20000 in
theorem gX11_ticket_X11_needPlace : GoodIn wsX11_ticket (va_wsS RX11 79 yX11_needPlace wsX11_needPlace) := goodIn_app (goodIn_of _ (by decide +kernel)) ggX11_ticket_X11_needPlace
set_option maxRecDepth 20000 in
theorem ggX11_ticket_X11_needRange : GoodIn wsX11_ticket wsX11_needRange := goodIn_ca (goodIn_r _ [11, 12, 13] (by decide +kernel) (by decide +kernel)) (goodIn_sub (fun _ h => List.mem_cons_of_mem _ (List.mem_append_left _ (List.mem_append_right _ h))) (by decide +kernel))
set_option maxRecDepth 20000 in
theorem gX11_ticket_X11_needRange : GoodIn wsX11_ticket (va_wsS RX11 92 yX11_needRange wsX11_needRange) := goodIn_app (goodIn_of _ (by decide +kernel)) ggX11_ticket_X11_needRange
set_option maxRecDepth 20000 in
theorem ggX11_ticket_X11_needNoTicket : GoodIn wsX11_ticket wsX11_needNoTicket := goodIn_ca (goodIn_r _ [17, 18, 19, 1, 2, 20, 21, 22, 23, 24, 25, 26, 27, 28, 155, 156, 157, 158, 159, 160, 161, 162, 163, 164, 165, 166, 167, 168, 169, 170, 171, 172, 173] (by decide +kernel) (by decide +kernel)) (goodIn_sub (fun _ h => List.mem_cons_of_mem _ (List.mem_append_right _ h)) (by decide +kernel))
set_option maxRecDepth 20000 in
theorem gX11_ticket_X11_needNoTicket : GoodIn wsX11_ticket (wsV RX11 235 RX11 yX11_needNoTicket wsX11_needNoTicket) := goodIn_app (goodIn_of _ (by decide +kernel)) ggX11_ticket_X11_needNoTicket
set_option maxRecDepth 20000 in
theorem ggX11_ticket_X11_beginChange : GoodIn wsX11_ticket wsX11_beginChange := goodIn_r _ [32, 33, 34, 35, 36, 5, 37, 38, 39, 1, 40, 41, 42, 43, 44, 45, 46, 47, 48, 49, 50, 51, 52, 53, 54, 55, 56, 57, 58, 59, 60, 61, 62, 63, 64, 65, 66, 67, 68, 69, 70, 71, 72, 73, 74, 75, 76, 77, 78, 79, 80, 81, 82, 83, 84, 85, 86, 87, 88, 89, 90, 91, 92, 93, 94, 95, 96, 97, 98, 99, 100, 101, 102, 103, 104, 105, 106, 107, 108, 109, 110, 111, 112, 113, 114, 115, 116, 117, 118, 119, 120, 121, 122, 123, 124, 125, 126, 127, 128, 129, 130, 131, 132, 133, 23, 134, 135, 25, 136, 137, 138, 139, 140, 141, 142, 143, 144, 145, 146, 155, 156, 157, 158, 159, 160, 161, 162, 163, 164, 165, 166, 167, 168, 174, 175, 176, 177, 178, 179, 180, 181, 182, 183, 184, 185, 186, 187, 188, 189, 190, 191, 192, 193, 194, 195, 196, 197, 198, 199, 200, 201, 202, 203, 204, 205, 206, 207, 208, 209, 210, 169, 170, 171, 172, 173, 211, 212, 213, 214, 215, 216, 217, 218] (by decide +kernel) (by decide +kernel)
set_option maxRecDepth 20000 in
theorem gX11_ticket_X11_beginChange : GoodIn wsX11_ticket (wsV RX11 64 RX11 yX11_beginChange wsX11_beginChange) := goodIn_app (goodIn_of _ (by decide +kernel)) ggX11_ticket_X11_beginChange
set_option maxRecDepth 20000 in
theorem ggX11_ticket_X8_sell : GoodIn wsX11_ticket wsX8_sell := goodIn_r _ [150, 25, 137, 136, 151, 152, 153, 23, 154, 135, 26, 27, 28, 169, 170, 171, 172, 173] (by decide +kernel) (by decide +kernel)
set_option maxRecDepth 20000 in
theorem gX11_ticket_X8_sell : GoodIn wsX11_ticket (wsV RX11 238 RX8 yX8_sell wsX8_sell) := goodIn_app (goodIn_of _ (by decide +kernel)) ggX11_ticket_X8_sell
theorem dX11_ticket_0 : decode cX11_ticket 0 = .ok (.iload_n 1, 1) := by decide +kernel
theorem dX11_ticket_1 : decode cX11_ticket 1 = .ok (.bipush 12, 2) := by decide +kernel
theorem dX11_ticket_3 : decode cX11_ticket 3 = .ok (.invokestatic 79, 3) := by decide +kernel
theorem dX11_ticket_6 : decode cX11_ticket 6 = .ok (.iload_n 2, 1) := by decide +kernel
theorem dX11_ticket_7 : decode cX11_ticket 7 = .ok (.iconst 4, 1) := by decide +kernel
theorem dX11_ticket_8 : decode cX11_ticket 8 = .ok (.invokestatic 79, 3) := by decide +kernel
theorem dX11_ticket_11 : decode cX11_ticket 11 = .ok (.iload_n 3, 1) := by decide +kernel
theorem dX11_ticket_12 : decode cX11_ticket 12 = .ok (.iconst 0, 1) := by decide +kernel
theorem dX11_ticket_13 : decode cX11_ticket 13 = .ok (.bipush 120, 2) := by decide +kernel
theorem dX11_ticket_15 : decode cX11_ticket 15 = .ok (.invokestatic 92, 3) := by decide +kernel
theorem dX11_ticket_18 : decode cX11_ticket 18 = .ok (.aload_n 0, 1) := by decide +kernel
theorem dX11_ticket_19 : decode cX11_ticket 19 = .ok (.iload_n 1, 1) := by decide +kernel
theorem dX11_ticket_20 : decode cX11_ticket 20 = .ok (.iload_n 2, 1) := by decide +kernel
theorem dX11_ticket_21 : decode cX11_ticket 21 = .ok (.invokevirtual 235, 3) := by decide +kernel
theorem dX11_ticket_24 : decode cX11_ticket 24 = .ok (.aload_n 0, 1) := by decide +kernel
theorem dX11_ticket_25 : decode cX11_ticket 25 = .ok (.invokevirtual 64, 3) := by decide +kernel
theorem dX11_ticket_28 : decode cX11_ticket 28 = .ok (.aload_n 0, 1) := by decide +kernel
theorem dX11_ticket_29 : decode cX11_ticket 29 = .ok (.getfield 12, 3) := by decide +kernel
theorem dX11_ticket_32 : decode cX11_ticket 32 = .ok (.getfield 226, 3) := by decide +kernel
theorem dX11_ticket_35 : decode cX11_ticket 35 = .ok (.iload_n 1, 1) := by decide +kernel
theorem dX11_ticket_36 : decode cX11_ticket 36 = .ok (.iload_n 2, 1) := by decide +kernel
theorem dX11_ticket_37 : decode cX11_ticket 37 = .ok (.iload_n 3, 1) := by decide +kernel
theorem dX11_ticket_38 : decode cX11_ticket 38 = .ok (.invokevirtual 238, 3) := by decide +kernel
theorem dX11_ticket_41 : decode cX11_ticket 41 = .ok (.ireturn, 1) := by decide +kernel
set_option maxRecDepth 20000 in
theorem ggX11_refund_X11_needPlace : GoodIn wsX11_refund wsX11_needPlace := goodIn_ca (goodIn_r _ [6, 7, 8] (by decide +kernel) (by decide +kernel)) (goodIn_sub (fun _ h => List.mem_cons_of_mem _ (List.mem_append_left _ (List.mem_append_right _ h))) (by decide +kernel))
set_option maxRecDepth 20000 in
theorem gX11_refund_X11_needPlace : GoodIn wsX11_refund (va_wsS RX11 79 yX11_needPlace wsX11_needPlace) := goodIn_app (goodIn_of _ (by decide +kernel)) ggX11_refund_X11_needPlace
set_option maxRecDepth 20000 in
theorem ggX11_refund_X11_needTicket : GoodIn wsX11_refund wsX11_needTicket := goodIn_ca (goodIn_r _ [12, 13, 14, 1, 2, 15, 16, 17, 18, 19, 20, 21, 22, 23, 146, 147, 148, 149, 150, 151, 152, 153, 154, 155, 156, 157, 158, 159, 160, 161, 162, 163, 164] (by decide +kernel) (by decide +kernel)) (goodIn_sub (fun _ h => List.mem_cons_of_mem _ (List.mem_append_right _ h)) (by decide +kernel))
set_option maxRecDepth 20000 in
theorem gX11_refund_X11_needTicket : GoodIn wsX11_refund (wsV RX11 242 RX11 yX11_needTicket wsX11_needTicket) := goodIn_app (goodIn_of _ (by decide +kernel)) ggX11_refund_X11_needTicket
set_option maxRecDepth 20000 in
theorem ggX11_refund_X11_beginChange : GoodIn wsX11_refund wsX11_beginChange := goodIn_r _ [27, 28, 29, 30, 31, 5, 32, 33, 34, 1, 35, 36, 37, 38, 39, 40, 41, 42, 43, 44, 45, 46, 47, 48, 49, 50, 51, 52, 53, 54, 55, 56, 57, 58, 59, 60, 61, 62, 63, 64, 65, 66, 67, 68, 69, 70, 71, 72, 73, 74, 75, 76, 77, 78, 79, 80, 81, 82, 83, 84, 85, 86, 87, 88, 89, 90, 91, 92, 93, 94, 95, 96, 97, 98, 99, 100, 101, 102, 103, 104, 105, 106, 107, 108, 109, 110, 111, 112, 113, 114, 115, 116, 117, 118, 119, 120, 121, 122, 123, 124, 125, 126, 127, 128, 18, 129, 130, 20, 131, 132, 133, 134, 135, 136, 137, 138, 139, 140, 141, 146, 147, 148, 149, 150, 151, 152, 153, 154, 155, 156, 157, 158, 159, 165, 166, 167, 168, 169, 170, 171, 172, 173, 174, 175, 176, 177, 178, 179, 180, 181, 182, 183, 184, 185, 186, 187, 188, 189, 190, 191, 192, 193, 194, 195, 196, 197, 198, 199, 200, 201, 160, 161, 162, 163, 164, 202, 203, 204, 205, 206, 207, 208, 209] (by decide +kernel) (by decide +kernel)
set_option maxRecDepth 20000 in
theorem gX11_refund_X11_beginChange : GoodIn wsX11_refund (wsV RX11 64 RX11 yX11_beginChange wsX11_beginChange) := goodIn_app (goodIn_of _ (by decide +kernel)) ggX11_refund_X11_beginChange
set_option maxRecDepth 20000 in
theorem ggX11_refund_X8_takeBack : GoodIn wsX11_refund wsX8_takeBack := goodIn_r _ [145, 20, 132, 131, 21, 22, 18, 23, 160, 161, 162, 163, 164] (by decide +kernel) (by decide +kernel)
set_option maxRecDepth 20000 in
theorem gX11_refund_X8_takeBack : GoodIn wsX11_refund (wsV RX11 245 RX8 yX8_takeBack wsX8_takeBack) := goodIn_app (goodIn_of _ (by decide +kernel)) ggX11_refund_X8_takeBack
theorem dX11_refund_0 : decode cX11_refund 0 = .ok (.iload_n 1, 1) := by decide +kernel
theorem dX11_refund_1 : decode cX11_refund 1 = .ok (.bipush 12, 2) := by decide +kernel
theorem dX11_refund_3 : decode cX11_refund 3 = .ok (.invokestatic 79, 3) := by decide +kernel
theorem dX11_refund_6 : decode cX11_refund 6 = .ok (.iload_n 2, 1) := by decide +kernel
theorem dX11_refund_7 : decode cX11_refund 7 = .ok (.iconst 4, 1) := by decide +kernel
theorem dX11_refund_8 : decode cX11_refund 8 = .ok (.invokestatic 79, 3) := by decide +kernel
theorem dX11_refund_11 : decode cX11_refund 11 = .ok (.aload_n 0, 1) := by decide +kernel
theorem dX11_refund_12 : decode cX11_refund 12 = .ok (.iload_n 1, 1) := by decide +kernel
theorem dX11_refund_13 : decode cX11_refund 13 = .ok (.iload_n 2, 1) := by decide +kernel
theorem dX11_refund_14 : decode cX11_refund 14 = .ok (.invokevirtual 242, 3) := by decide +kernel
theorem dX11_refund_17 : decode cX11_refund 17 = .ok (.aload_n 0, 1) := by decide +kernel
theorem dX11_refund_18 : decode cX11_refund 18 = .ok (.invokevirtual 64, 3) := by decide +kernel
theorem dX11_refund_21 : decode cX11_refund 21 = .ok (.aload_n 0, 1) := by decide +kernel
theorem dX11_refund_22 : decode cX11_refund 22 = .ok (.getfield 12, 3) := by decide +kernel
theorem dX11_refund_25 : decode cX11_refund 25 = .ok (.getfield 226, 3) := by decide +kernel
theorem dX11_refund_28 : decode cX11_refund 28 = .ok (.iload_n 1, 1) := by decide +kernel
theorem dX11_refund_29 : decode cX11_refund 29 = .ok (.iload_n 2, 1) := by decide +kernel
theorem dX11_refund_30 : decode cX11_refund 30 = .ok (.invokevirtual 245, 3) := by decide +kernel
theorem dX11_refund_33 : decode cX11_refund 33 = .ok (.ireturn, 1) := by decide +kernel
set_option maxRecDepth 20000 in
theorem ggX11_resell_X11_needPlace : GoodIn wsX11_resell wsX11_needPlace := goodIn_ca (goodIn_r _ [6, 7, 8] (by decide +kernel) (by decide +kernel)) (goodIn_sub (fun _ h => List.mem_cons_of_mem _ (List.mem_append_left _ (List.mem_append_left _ (List.mem_append_right _ h)))) (by decide +kernel))
set_option maxRecDepth 20000 in
theorem gX11_resell_X11_needPlace : GoodIn wsX11_resell (va_wsS RX11 79 yX11_needPlace wsX11_needPlace) := goodIn_app (goodIn_of _ (by decide +kernel)) ggX11_resell_X11_needPlace
set_option maxRecDepth 20000 in
theorem ggX11_resell_X11_needTicket : GoodIn wsX11_resell wsX11_needTicket := goodIn_ca (goodIn_r _ [12, 13, 14, 1, 2, 15, 16, 17, 18, 19, 20, 21, 22, 23, 152, 153, 154, 155, 156, 157, 158, 159, 160, 161, 162, 163, 164, 165, 166, 167, 168, 169, 170] (by decide +kernel) (by decide +kernel)) (goodIn_sub (fun _ h => List.mem_cons_of_mem _ (List.mem_append_left _ (List.mem_append_right _ h))) (by decide +kernel))
set_option maxRecDepth 20000 in
theorem gX11_resell_X11_needTicket : GoodIn wsX11_resell (wsV RX11 242 RX11 yX11_needTicket wsX11_needTicket) := goodIn_app (goodIn_of _ (by decide +kernel)) ggX11_resell_X11_needTicket
set_option maxRecDepth 20000 in
theorem ggX11_resell_X11_needNoTicket : GoodIn wsX11_resell wsX11_needNoTicket := goodIn_ca (goodIn_r _ [27, 28, 29, 1, 2, 15, 16, 17, 18, 19, 20, 21, 22, 23, 152, 153, 154, 155, 156, 157, 158, 159, 160, 161, 162, 163, 164, 165, 166, 167, 168, 169, 170] (by decide +kernel) (by decide +kernel)) (goodIn_sub (fun _ h => List.mem_cons_of_mem _ (List.mem_append_right _ h)) (by decide +kernel))
set_option maxRecDepth 20000 in
theorem gX11_resell_X11_needNoTicket : GoodIn wsX11_resell (wsV RX11 235 RX11 yX11_needNoTicket wsX11_needNoTicket) := goodIn_app (goodIn_of _ (by decide +kernel)) ggX11_resell_X11_needNoTicket
set_option maxRecDepth 20000 in
theorem ggX11_resell_X11_beginChange : GoodIn wsX11_resell wsX11_beginChange := goodIn_r _ [33, 34, 35, 36, 37, 5, 38, 39, 40, 1, 41, 42, 43, 44, 45, 46, 47, 48, 49, 50, 51, 52, 53, 54, 55, 56, 57, 58, 59, 60, 61, 62, 63, 64, 65, 66, 67, 68, 69, 70, 71, 72, 73, 74, 75, 76, 77, 78, 79, 80, 81, 82, 83, 84, 85, 86, 87, 88, 89, 90, 91, 92, 93, 94, 95, 96, 97, 98, 99, 100, 101, 102, 103, 104, 105, 106, 107, 108, 109, 110, 111, 112, 113, 114, 115, 116, 117, 118, 119, 120, 121, 122, 123, 124, 125, 126, 127, 128, 129, 130, 131, 132, 133, 134, 18, 135, 136, 20, 137, 138, 139, 140, 141, 142, 143, 144, 145, 146, 147, 152, 153, 154, 155, 156, 157, 158, 159, 160, 161, 162, 163, 164, 165, 171, 172, 173, 174, 175, 176, 177, 178, 179, 180, 181, 182, 183, 184, 185, 186, 187, 188, 189, 190, 191, 192, 193, 194, 195, 196, 197, 198, 199, 200, 201, 202, 203, 204, 205, 206, 207, 166, 167, 168, 169, 170, 208, 209, 210, 211, 212, 213, 214, 215] (by decide +kernel) (by decide +kernel)
set_option maxRecDepth 20000 in
theorem gX11_resell_X11_beginChange : GoodIn wsX11_resell (wsV RX11 64 RX11 yX11_beginChange wsX11_beginChange) := goodIn_app (goodIn_of _ (by decide +kernel)) ggX11_resell_X11_beginChange
set_option maxRecDepth 20000 in
theorem ggX11_resell_X8_handOver : GoodIn wsX11_resell wsX8_handOver := goodIn_r _ [151, 20, 138, 21, 22, 18, 23, 166, 167, 168, 169, 170] (by decide +kernel) (by decide +kernel)
set_option maxRecDepth 20000 in
theorem gX11_resell_X8_handOver : GoodIn wsX11_resell (wsV RX11 248 RX8 yX8_handOver wsX8_handOver) := goodIn_app (goodIn_of _ (by decide +kernel)) ggX11_resell_X8_handOver
theorem dX11_resell_0 : decode cX11_resell 0 = .ok (.iload_n 1, 1) := by decide +kernel
theorem dX11_resell_1 : decode cX11_resell 1 = .ok (.bipush 12, 2) := by decide +kernel
theorem dX11_resell_3 : decode cX11_resell 3 = .ok (.invokestatic 79, 3) := by decide +kernel
theorem dX11_resell_6 : decode cX11_resell 6 = .ok (.iload_n 2, 1) := by decide +kernel
theorem dX11_resell_7 : decode cX11_resell 7 = .ok (.bipush 12, 2) := by decide +kernel
theorem dX11_resell_9 : decode cX11_resell 9 = .ok (.invokestatic 79, 3) := by decide +kernel
theorem dX11_resell_12 : decode cX11_resell 12 = .ok (.iload_n 3, 1) := by decide +kernel
theorem dX11_resell_13 : decode cX11_resell 13 = .ok (.iconst 4, 1) := by decide +kernel
theorem dX11_resell_14 : decode cX11_resell 14 = .ok (.invokestatic 79, 3) := by decide +kernel
theorem dX11_resell_17 : decode cX11_resell 17 = .ok (.aload_n 0, 1) := by decide +kernel
theorem dX11_resell_18 : decode cX11_resell 18 = .ok (.iload_n 1, 1) := by decide +kernel
theorem dX11_resell_19 : decode cX11_resell 19 = .ok (.iload_n 3, 1) := by decide +kernel
theorem dX11_resell_20 : decode cX11_resell 20 = .ok (.invokevirtual 242, 3) := by decide +kernel
theorem dX11_resell_23 : decode cX11_resell 23 = .ok (.aload_n 0, 1) := by decide +kernel
theorem dX11_resell_24 : decode cX11_resell 24 = .ok (.iload_n 2, 1) := by decide +kernel
theorem dX11_resell_25 : decode cX11_resell 25 = .ok (.iload_n 3, 1) := by decide +kernel
theorem dX11_resell_26 : decode cX11_resell 26 = .ok (.invokevirtual 235, 3) := by decide +kernel
theorem dX11_resell_29 : decode cX11_resell 29 = .ok (.aload_n 0, 1) := by decide +kernel
theorem dX11_resell_30 : decode cX11_resell 30 = .ok (.invokevirtual 64, 3) := by decide +kernel
theorem dX11_resell_33 : decode cX11_resell 33 = .ok (.aload_n 0, 1) := by decide +kernel
theorem dX11_resell_34 : decode cX11_resell 34 = .ok (.getfield 12, 3) := by decide +kernel
theorem dX11_resell_37 : decode cX11_resell 37 = .ok (.getfield 226, 3) := by decide +kernel
theorem dX11_resell_40 : decode cX11_resell 40 = .ok (.iload_n 1, 1) := by decide +kernel
theorem dX11_resell_41 : decode cX11_resell 41 = .ok (.iload_n 2, 1) := by decide +kernel
theorem dX11_resell_42 : decode cX11_resell 42 = .ok (.iload_n 3, 1) := by decide +kernel
theorem dX11_resell_43 : decode cX11_resell 43 = .ok (.invokevirtual 248, 3) := by decide +kernel
theorem dX11_resell_46 : decode cX11_resell 46 = .ok (.ireturn, 1) := by decide +kernel
set_option maxRecDepth 20000 in
theorem ggX11_payBands_X11_beginChange : GoodIn wsX11_payBands wsX11_beginChange := goodIn_r _ [8, 9, 10, 11, 12, 7, 13, 14, 15, 1, 16, 17, 18, 19, 20, 21, 22, 23, 24, 25, 26, 27, 28, 29, 30, 31, 32, 33, 34, 35, 36, 37, 38, 39, 40, 41, 42, 43, 44, 45, 46, 47, 48, 49, 50, 51, 52, 53, 54, 55, 56, 57, 58, 59, 60, 61, 62, 63, 64, 65, 66, 67, 68, 69, 70, 71, 72, 73, 74, 75, 76, 77, 78, 79, 80, 81, 82, 83, 84, 85, 86, 87, 88, 89, 90, 91, 92, 93, 94, 95, 96, 97, 98, 99, 100, 101, 102, 103, 104, 105, 106, 107, 108, 109, 110, 111, 112, 113, 114, 115, 116, 117, 118, 119, 120, 121, 122, 123, 124, 186, 187, 188, 189, 190, 191, 192, 193, 194, 195, 196, 197, 198, 199, 200, 201, 202, 203, 204, 205, 206, 207, 208, 209, 210, 211, 212, 213, 214, 215, 216, 217, 218, 219, 220, 221, 222, 223, 224, 225, 226, 227, 228, 229, 230, 231, 232, 233, 234, 235, 236, 237, 238, 239, 240, 241, 242, 243, 244, 245, 246, 247, 248, 249] (by decide +kernel) (by decide +kernel)
set_option maxRecDepth 20000 in
theorem gX11_payBands_X11_beginChange : GoodIn wsX11_payBands (wsV RX11 64 RX11 yX11_beginChange wsX11_beginChange) := goodIn_app (goodIn_of _ (by decide +kernel)) ggX11_payBands_X11_beginChange
set_option maxRecDepth 20000 in
theorem ggX11_payBands_X7_lineup : GoodIn wsX11_payBands wsX7_lineup := goodIn_r _ [128, 129, 130, 131, 132, 133, 134, 64, 135, 136, 137, 138, 139, 140, 141, 142, 143, 71, 144, 145, 146, 147, 70, 148, 149, 150, 151, 66, 152, 153, 154, 155, 67, 69, 156, 157, 158, 159, 68, 160, 161, 162, 163, 164, 165, 166, 207, 208, 209, 210, 211, 212, 213, 214] (by decide +kernel) (by decide +kernel)
set_option maxRecDepth 20000 in
theorem gX11_payBands_X7_lineup : GoodIn wsX11_payBands (wsV RX11 251 RX7 yX7_lineup wsX7_lineup) := goodIn_app (goodIn_of _ (by decide +kernel)) ggX11_payBands_X7_lineup
set_option maxRecDepth 20000 in
theorem ggX11_payBands_X8_payMembers : GoodIn wsX11_payBands wsX8_payMembers := goodIn_r _ [170, 114, 171, 172, 173, 64, 174, 70, 144, 145, 146, 147, 175, 176, 177, 178, 179, 180, 181, 182, 183, 184, 110, 185, 116, 237, 238, 239, 240, 241, 207, 208, 209, 210, 211, 212, 213, 214] (by decide +kernel) (by decide +kernel)
set_option maxRecDepth 20000 in
theorem gX11_payBands_X8_payMembers : GoodIn wsX11_payBands (wsV RX11 254 RX8 yX8_payMembers wsX8_payMembers) := goodIn_app (goodIn_of _ (by decide +kernel)) ggX11_payBands_X8_payMembers
theorem dX11_payBands_0 : decode cX11_payBands 0 = .ok (.aload_n 0, 1) := by decide +kernel
theorem dX11_payBands_1 : decode cX11_payBands 1 = .ok (.invokevirtual 64, 3) := by decide +kernel
theorem dX11_payBands_4 : decode cX11_payBands 4 = .ok (.aload_n 0, 1) := by decide +kernel
theorem dX11_payBands_5 : decode cX11_payBands 5 = .ok (.getfield 12, 3) := by decide +kernel
theorem dX11_payBands_8 : decode cX11_payBands 8 = .ok (.getfield 226, 3) := by decide +kernel
theorem dX11_payBands_11 : decode cX11_payBands 11 = .ok (.aload_n 0, 1) := by decide +kernel
theorem dX11_payBands_12 : decode cX11_payBands 12 = .ok (.getfield 12, 3) := by decide +kernel
theorem dX11_payBands_15 : decode cX11_payBands 15 = .ok (.getfield 26, 3) := by decide +kernel
theorem dX11_payBands_18 : decode cX11_payBands 18 = .ok (.aload_n 0, 1) := by decide +kernel
theorem dX11_payBands_19 : decode cX11_payBands 19 = .ok (.getfield 12, 3) := by decide +kernel
theorem dX11_payBands_22 : decode cX11_payBands 22 = .ok (.getfield 26, 3) := by decide +kernel
theorem dX11_payBands_25 : decode cX11_payBands 25 = .ok (.invokevirtual 251, 3) := by decide +kernel
theorem dX11_payBands_28 : decode cX11_payBands 28 = .ok (.invokevirtual 254, 3) := by decide +kernel
theorem dX11_payBands_31 : decode cX11_payBands 31 = .ok (.ireturn, 1) := by decide +kernel
set_option maxRecDepth 20000 in
theorem ggX11_lose_X11_needPlace : GoodIn wsX11_lose wsX11_needPlace := goodIn_ca (goodIn_r _ [7, 8, 9] (by decide +kernel) (by decide +kernel)) (goodIn_sub (fun _ h => List.mem_cons_of_mem _ (List.mem_append_left _ (List.mem_append_right _ h))) (by decide +kernel))
set_option maxRecDepth 20000 in
theorem gX11_lose_X11_needPlace : GoodIn wsX11_lose (va_wsS RX11 79 yX11_needPlace wsX11_needPlace) := goodIn_app (goodIn_of _ (by decide +kernel)) ggX11_lose_X11_needPlace
set_option maxRecDepth 20000 in
theorem ggX11_lose_X11_needRange : GoodIn wsX11_lose wsX11_needRange := goodIn_ca (goodIn_r _ [12, 13, 14] (by decide +kernel) (by decide +kernel)) (goodIn_sub (fun _ h => List.mem_cons_of_mem _ (List.mem_append_right _ h)) (by decide +kernel))
set_option maxRecDepth 20000 in
theorem gX11_lose_X11_needRange : GoodIn wsX11_lose (va_wsS RX11 92 yX11_needRange wsX11_needRange) := goodIn_app (goodIn_of _ (by decide +kernel)) ggX11_lose_X11_needRange
set_option maxRecDepth 20000 in
theorem ggX11_lose_X11_beginChange : GoodIn wsX11_lose wsX11_beginChange := goodIn_r _ [18, 19, 20, 21, 22, 6, 23, 24, 25, 1, 26, 27, 28, 29, 30, 31, 32, 33, 34, 35, 36, 37, 38, 39, 40, 41, 42, 43, 44, 45, 46, 47, 48, 49, 50, 51, 52, 53, 54, 55, 56, 57, 58, 59, 60, 61, 62, 63, 64, 65, 66, 67, 68, 69, 70, 71, 72, 73, 74, 75, 76, 77, 78, 79, 80, 81, 82, 83, 84, 85, 86, 87, 88, 89, 90, 91, 92, 93, 94, 95, 96, 97, 98, 99, 100, 101, 102, 103, 104, 105, 106, 107, 108, 109, 110, 111, 112, 113, 114, 115, 116, 117, 118, 119, 120, 121, 122, 123, 124, 125, 126, 127, 128, 129, 130, 131, 132, 133, 134, 142, 143, 144, 145, 146, 147, 148, 149, 150, 151, 152, 153, 154, 155, 160, 161, 162, 156, 157, 158, 159, 163, 164, 165, 166, 167, 168, 169, 170, 171, 172, 173, 174, 175, 176, 177, 178, 179, 180, 181, 182, 183, 184, 185, 186, 187, 188, 189, 190, 191, 192, 193, 194, 195, 196, 197, 198, 199, 200, 201, 202, 203, 204, 205] (by decide +kernel) (by decide +kernel)
set_option maxRecDepth 20000 in
theorem gX11_lose_X11_beginChange : GoodIn wsX11_lose (wsV RX11 64 RX11 yX11_beginChange wsX11_beginChange) := goodIn_app (goodIn_of _ (by decide +kernel)) ggX11_lose_X11_beginChange
set_option maxRecDepth 20000 in
theorem ggX11_lose_X11_replace : GoodIn wsX11_lose wsX11_replace := goodIn_r _ [137] (by decide +kernel) (by decide +kernel)
set_option maxRecDepth 20000 in
theorem gX11_lose_X11_replace : GoodIn wsX11_lose (va_wsS RX11 131 yX11_replace wsX11_replace) := goodIn_app (goodIn_of _ (by decide +kernel)) ggX11_lose_X11_replace
set_option maxRecDepth 20000 in
theorem ggX11_lose_X4_countLost : GoodIn wsX11_lose wsX4_countLost := goodIn_r _ [141, 64, 156, 157, 158, 159] (by decide +kernel) (by decide +kernel)
set_option maxRecDepth 20000 in
theorem gX11_lose_X4_countLost : GoodIn wsX11_lose (wsV RX11 261 RX4 yX4_countLost wsX4_countLost) := goodIn_app (goodIn_of _ (by decide +kernel)) ggX11_lose_X4_countLost
theorem dX11_lose_0 : decode cX11_lose 0 = .ok (.iload_n 2, 1) := by decide +kernel
theorem dX11_lose_1 : decode cX11_lose 1 = .ok (.iconst 4, 1) := by decide +kernel
theorem dX11_lose_2 : decode cX11_lose 2 = .ok (.invokestatic 79, 3) := by decide +kernel
theorem dX11_lose_5 : decode cX11_lose 5 = .ok (.iload_n 1, 1) := by decide +kernel
theorem dX11_lose_6 : decode cX11_lose 6 = .ok (.iconst 0, 1) := by decide +kernel
theorem dX11_lose_7 : decode cX11_lose 7 = .ok (.bipush 99, 2) := by decide +kernel
theorem dX11_lose_9 : decode cX11_lose 9 = .ok (.invokestatic 92, 3) := by decide +kernel
theorem dX11_lose_12 : decode cX11_lose 12 = .ok (.aload_n 0, 1) := by decide +kernel
theorem dX11_lose_13 : decode cX11_lose 13 = .ok (.invokevirtual 64, 3) := by decide +kernel
theorem dX11_lose_16 : decode cX11_lose 16 = .ok (.aload_n 0, 1) := by decide +kernel
theorem dX11_lose_17 : decode cX11_lose 17 = .ok (.getfield 12, 3) := by decide +kernel
theorem dX11_lose_20 : decode cX11_lose 20 = .ok (.getfield 22, 3) := by decide +kernel
theorem dX11_lose_23 : decode cX11_lose 23 = .ok (.getfield 258, 3) := by decide +kernel
theorem dX11_lose_26 : decode cX11_lose 26 = .ok (.iload_n 1, 1) := by decide +kernel
theorem dX11_lose_27 : decode cX11_lose 27 = .ok (.iload_n 2, 1) := by decide +kernel
theorem dX11_lose_28 : decode cX11_lose 28 = .ok (.invokestatic 131, 3) := by decide +kernel
theorem dX11_lose_31 : decode cX11_lose 31 = .ok (.pop, 1) := by decide +kernel
theorem dX11_lose_32 : decode cX11_lose 32 = .ok (.aload_n 0, 1) := by decide +kernel
theorem dX11_lose_33 : decode cX11_lose 33 = .ok (.getfield 12, 3) := by decide +kernel
theorem dX11_lose_36 : decode cX11_lose 36 = .ok (.getfield 22, 3) := by decide +kernel
theorem dX11_lose_39 : decode cX11_lose 39 = .ok (.invokevirtual 261, 3) := by decide +kernel
theorem dX11_lose_42 : decode cX11_lose 42 = .ok (.ireturn, 1) := by decide +kernel
set_option maxRecDepth 20000 in
theorem ggX11_find_X11_needPlace : GoodIn wsX11_find wsX11_needPlace := goodIn_ca (goodIn_r _ [9, 10, 11] (by decide +kernel) (by decide +kernel)) (goodIn_sub (fun _ h => List.mem_cons_of_mem _ (List.mem_append_right _ h)) (by decide +kernel))
set_option maxRecDepth 20000 in
theorem gX11_find_X11_needPlace : GoodIn wsX11_find (va_wsS RX11 79 yX11_needPlace wsX11_needPlace) := goodIn_app (goodIn_of _ (by decide +kernel)) ggX11_find_X11_needPlace
set_option maxRecDepth 20000 in
theorem ggX11_find_X4_firstLost : GoodIn wsX11_find wsX4_firstLost := goodIn_r _ [16, 17, 153, 154, 155, 156] (by decide +kernel) (by decide +kernel)
set_option maxRecDepth 20000 in
theorem gX11_find_X4_firstLost : GoodIn wsX11_find (wsV RX11 264 RX4 yX4_firstLost wsX4_firstLost) := goodIn_app (goodIn_of _ (by decide +kernel)) ggX11_find_X4_firstLost
set_option maxRecDepth 20000 in
theorem ggX11_find_X11_beginChange : GoodIn wsX11_find wsX11_beginChange := goodIn_r _ [21, 22, 23, 24, 25, 8, 26, 27, 28, 3, 29, 30, 31, 32, 33, 34, 35, 36, 37, 38, 39, 40, 41, 42, 43, 44, 45, 46, 47, 48, 49, 50, 51, 52, 53, 54, 55, 56, 57, 58, 59, 60, 61, 15, 62, 63, 64, 65, 17, 66, 67, 68, 69, 70, 71, 72, 73, 74, 75, 76, 77, 78, 79, 80, 81, 82, 83, 84, 85, 86, 87, 88, 89, 90, 91, 92, 93, 94, 95, 96, 97, 98, 99, 100, 101, 102, 103, 104, 105, 106, 107, 108, 109, 110, 111, 112, 113, 114, 115, 116, 117, 118, 119, 120, 121, 122, 123, 124, 125, 126, 127, 128, 129, 130, 131, 132, 133, 134, 135, 139, 140, 141, 142, 143, 144, 145, 146, 147, 148, 149, 150, 151, 152, 157, 158, 159, 153, 154, 155, 156, 160, 161, 162, 163, 164, 165, 166, 167, 168, 169, 170, 171, 172, 173, 174, 175, 176, 177, 178, 179, 180, 181, 182, 183, 184, 185, 186, 187, 188, 189, 190, 191, 192, 193, 194, 195, 196, 197, 198, 199, 200, 201, 202] (by decide +kernel) (by decide +kernel)
set_option maxRecDepth 20000 in
theorem gX11_find_X11_beginChange : GoodIn wsX11_find (wsV RX11 64 RX11 yX11_beginChange wsX11_beginChange) := goodIn_app (goodIn_of _ (by decide +kernel)) ggX11_find_X11_beginChange
set_option maxRecDepth 20000 in
theorem ggX11_find_X11_replace : GoodIn wsX11_find wsX11_replace := goodIn_r _ [138] (by decide +kernel) (by decide +kernel)
set_option maxRecDepth 20000 in
theorem gX11_find_X11_replace : GoodIn wsX11_find (va_wsS RX11 131 yX11_replace wsX11_replace) := goodIn_app (goodIn_of _ (by decide +kernel)) ggX11_find_X11_replace
theorem dX11_find_0 : decode cX11_find 0 = .ok (.iload_n 1, 1) := by decide +kernel
theorem dX11_find_1 : decode cX11_find 1 = .ok (.iconst (-1), 1) := by decide +kernel
theorem dX11_find_2 : decode cX11_find 2 = .ok (.if_icmp .eq 8, 3) := by decide +kernel
theorem dX11_find_5 : decode cX11_find 5 = .ok (.iload_n 1, 1) := by decide +kernel
theorem dX11_find_6 : decode cX11_find 6 = .ok (.iconst 4, 1) := by decide +kernel
theorem dX11_find_7 : decode cX11_find 7 = .ok (.invokestatic 79, 3) := by decide +kernel
theorem dX11_find_10 : decode cX11_find 10 = .ok (.aload_n 0, 1) := by decide +kernel
theorem dX11_find_11 : decode cX11_find 11 = .ok (.getfield 12, 3) := by decide +kernel
theorem dX11_find_14 : decode cX11_find 14 = .ok (.getfield 22, 3) := by decide +kernel
theorem dX11_find_17 : decode cX11_find 17 = .ok (.iload_n 1, 1) := by decide +kernel
theorem dX11_find_18 : decode cX11_find 18 = .ok (.invokevirtual 264, 3) := by decide +kernel
theorem dX11_find_21 : decode cX11_find 21 = .ok (.istore_n 2, 1) := by decide +kernel
theorem dX11_find_22 : decode cX11_find 22 = .ok (.iload_n 2, 1) := by decide +kernel
theorem dX11_find_23 : decode cX11_find 23 = .ok (.iconst (-1), 1) := by decide +kernel
theorem dX11_find_24 : decode cX11_find 24 = .ok (.if_icmp .ne 14, 3) := by decide +kernel
theorem dX11_find_27 : decode cX11_find 27 = .ok (.new 267, 3) := by decide +kernel
theorem dX11_find_30 : decode cX11_find 30 = .ok (.dup, 1) := by decide +kernel
theorem dX11_find_31 : decode cX11_find 31 = .ok (.ldc_w 269, 3) := by decide +kernel
theorem dX11_find_34 : decode cX11_find 34 = .ok (.invokespecial 271, 3) := by decide +kernel
theorem dX11_find_37 : decode cX11_find 37 = .ok (.athrow, 1) := by decide +kernel
theorem dX11_find_38 : decode cX11_find 38 = .ok (.aload_n 0, 1) := by decide +kernel
theorem dX11_find_39 : decode cX11_find 39 = .ok (.invokevirtual 64, 3) := by decide +kernel
theorem dX11_find_42 : decode cX11_find 42 = .ok (.aload_n 0, 1) := by decide +kernel
theorem dX11_find_43 : decode cX11_find 43 = .ok (.getfield 12, 3) := by decide +kernel
theorem dX11_find_46 : decode cX11_find 46 = .ok (.getfield 22, 3) := by decide +kernel
theorem dX11_find_49 : decode cX11_find 49 = .ok (.getfield 258, 3) := by decide +kernel
theorem dX11_find_52 : decode cX11_find 52 = .ok (.iload_n 2, 1) := by decide +kernel
theorem dX11_find_53 : decode cX11_find 53 = .ok (.iconst (-1), 1) := by decide +kernel
theorem dX11_find_54 : decode cX11_find 54 = .ok (.invokestatic 131, 3) := by decide +kernel
theorem dX11_find_57 : decode cX11_find 57 = .ok (.pop, 1) := by decide +kernel
theorem dX11_find_58 : decode cX11_find 58 = .ok (.iload_n 2, 1) := by decide +kernel
theorem dX11_find_59 : decode cX11_find 59 = .ok (.ireturn, 1) := by decide +kernel
set_option maxRecDepth 20000 in
theorem ggX11_undo_J9_floorMod_7cf53 : GoodIn wsX11_undo wsJ9_floorMod_7cf53 := goodIn_r _ [11] (by decide +kernel) (by decide +kernel)
set_option maxRecDepth 20000 in
theorem gX11_undo_J9_floorMod_7cf53 : GoodIn wsX11_undo (va_wsS RX11 274 yJ9_floorMod_7cf53 wsJ9_floorMod_7cf53) := goodIn_app (goodIn_of _ (by decide +kernel)) ggX11_undo_J9_floorMod_7cf53
set_option maxRecDepth 20000 in
theorem ggX11_undo_X5_copyFrom : GoodIn wsX11_undo wsX5_copyFrom := goodIn_r _ [16, 17, 18, 19, 20, 21, 22, 23, 24, 25, 26, 27, 28, 29, 30, 31, 32, 33, 34, 35, 36, 37, 38, 39, 40, 41, 42, 43, 44, 45, 46, 47, 48, 49, 50, 51, 52, 53, 54, 55, 56, 57, 58, 59, 60, 61, 62, 63, 64, 65, 66, 67, 68, 69, 70, 71, 72, 73, 74, 75, 76, 77, 78, 79, 80, 81, 82, 83, 84, 85, 86, 87, 88, 89, 90, 91, 92, 93, 94, 95, 96, 97, 98, 99, 100, 101, 102, 103, 104, 105, 106, 107, 108, 109, 110, 111, 112, 113, 114, 127, 128, 129, 130, 131, 132, 133, 134, 135, 136, 137, 138, 139, 140, 141, 142, 143, 144, 145, 146, 147, 148, 149, 150, 151, 152, 153, 154, 155, 156, 157, 158, 159, 160, 161, 162, 163, 164, 165, 166, 167, 168, 169, 170, 171, 172, 173, 174, 175, 176] (by decide +kernel) (by decide +kernel)
set_option maxRecDepth 20000 in
theorem gX11_undo_X5_copyFrom : GoodIn wsX11_undo (wsV RX11 279 RX5 yX5_copyFrom wsX5_copyFrom) := goodIn_app (goodIn_of _ (by decide +kernel)) ggX11_undo_X5_copyFrom
set_option maxRecDepth 20000 in
theorem ggX11_undo_X9_forget : GoodIn wsX11_undo wsX9_forget := goodIn_r _ [119, 120, 177, 178, 179, 180, 181, 182, 183, 184] (by decide +kernel) (by decide +kernel)
set_option maxRecDepth 20000 in
theorem gX11_undo_X9_forget : GoodIn wsX11_undo (wsV RX11 223 RX9 yX9_forget wsX9_forget) := goodIn_app (goodIn_of _ (by decide +kernel)) ggX11_undo_X9_forget
theorem dX11_undo_0 : decode cX11_undo 0 = .ok (.aload_n 0, 1) := by decide +kernel
theorem dX11_undo_1 : decode cX11_undo 1 = .ok (.getfield 48, 3) := by decide +kernel
theorem dX11_undo_4 : decode cX11_undo 4 = .ok (.ifCond .ne 14, 3) := by decide +kernel
theorem dX11_undo_7 : decode cX11_undo 7 = .ok (.new 108, 3) := by decide +kernel
theorem dX11_undo_10 : decode cX11_undo 10 = .ok (.dup, 1) := by decide +kernel
theorem dX11_undo_11 : decode cX11_undo 11 = .ok (.ldc_w 272, 3) := by decide +kernel
theorem dX11_undo_14 : decode cX11_undo 14 = .ok (.invokespecial 112, 3) := by decide +kernel
theorem dX11_undo_17 : decode cX11_undo 17 = .ok (.athrow, 1) := by decide +kernel
theorem dX11_undo_18 : decode cX11_undo 18 = .ok (.aload_n 0, 1) := by decide +kernel
theorem dX11_undo_19 : decode cX11_undo 19 = .ok (.aload_n 0, 1) := by decide +kernel
theorem dX11_undo_20 : decode cX11_undo 20 = .ok (.getfield 44, 3) := by decide +kernel
theorem dX11_undo_23 : decode cX11_undo 23 = .ok (.iconst 1, 1) := by decide +kernel
theorem dX11_undo_24 : decode cX11_undo 24 = .ok (.isub, 1) := by decide +kernel
theorem dX11_undo_25 : decode cX11_undo 25 = .ok (.bipush 8, 2) := by decide +kernel
theorem dX11_undo_27 : decode cX11_undo 27 = .ok (.invokestatic 274, 3) := by decide +kernel
theorem dX11_undo_30 : decode cX11_undo 30 = .ok (.putfield 44, 3) := by decide +kernel
theorem dX11_undo_33 : decode cX11_undo 33 = .ok (.aload_n 0, 1) := by decide +kernel
theorem dX11_undo_34 : decode cX11_undo 34 = .ok (.getfield 12, 3) := by decide +kernel
theorem dX11_undo_37 : decode cX11_undo 37 = .ok (.aload_n 0, 1) := by decide +kernel
theorem dX11_undo_38 : decode cX11_undo 38 = .ok (.getfield 16, 3) := by decide +kernel
theorem dX11_undo_41 : decode cX11_undo 41 = .ok (.aload_n 0, 1) := by decide +kernel
theorem dX11_undo_42 : decode cX11_undo 42 = .ok (.getfield 44, 3) := by decide +kernel
theorem dX11_undo_45 : decode cX11_undo 45 = .ok (.aaload, 1) := by decide +kernel
theorem dX11_undo_46 : decode cX11_undo 46 = .ok (.invokevirtual 279, 3) := by decide +kernel
theorem dX11_undo_49 : decode cX11_undo 49 = .ok (.aload_n 0, 1) := by decide +kernel
theorem dX11_undo_50 : decode cX11_undo 50 = .ok (.dup, 1) := by decide +kernel
theorem dX11_undo_51 : decode cX11_undo 51 = .ok (.getfield 48, 3) := by decide +kernel
theorem dX11_undo_54 : decode cX11_undo 54 = .ok (.iconst 1, 1) := by decide +kernel
theorem dX11_undo_55 : decode cX11_undo 55 = .ok (.isub, 1) := by decide +kernel
theorem dX11_undo_56 : decode cX11_undo 56 = .ok (.putfield 48, 3) := by decide +kernel
theorem dX11_undo_59 : decode cX11_undo 59 = .ok (.aload_n 0, 1) := by decide +kernel
theorem dX11_undo_60 : decode cX11_undo 60 = .ok (.getfield 40, 3) := by decide +kernel
theorem dX11_undo_63 : decode cX11_undo 63 = .ok (.invokevirtual 223, 3) := by decide +kernel
theorem dX11_undo_66 : decode cX11_undo 66 = .ok (.aload_n 0, 1) := by decide +kernel
theorem dX11_undo_67 : decode cX11_undo 67 = .ok (.getfield 48, 3) := by decide +kernel
theorem dX11_undo_70 : decode cX11_undo 70 = .ok (.ireturn, 1) := by decide +kernel
set_option maxRecDepth 20000 in
theorem ggX11_dateAt_X11_needRange : GoodIn wsX11_dateAt wsX11_needRange := goodIn_ca (goodIn_r _ [6, 7, 8] (by decide +kernel) (by decide +kernel)) (goodIn_sub (fun _ h => List.mem_cons_of_mem _ (List.mem_append_right _ h)) (by decide +kernel))
set_option maxRecDepth 20000 in
theorem gX11_dateAt_X11_needRange : GoodIn wsX11_dateAt (va_wsS RX11 92 yX11_needRange wsX11_needRange) := goodIn_app (goodIn_of _ (by decide +kernel)) ggX11_dateAt_X11_needRange
set_option maxRecDepth 20000 in
theorem ggX11_dateAt_X1_partOf : GoodIn wsX11_dateAt wsX1_partOf := goodIn_r _ [13, 14, 15, 16, 17, 18, 19, 12, 20, 21, 22, 23, 24, 25, 26, 41, 42, 43] (by decide +kernel) (by decide +kernel)
set_option maxRecDepth 20000 in
theorem gX11_dateAt_X1_partOf : GoodIn wsX11_dateAt (wsV RX11 283 RX1 yX1_partOf wsX1_partOf) := goodIn_app (goodIn_of _ (by decide +kernel)) ggX11_dateAt_X1_partOf
theorem dX11_dateAt_0 : decode cX11_dateAt 0 = .ok (.iload_n 1, 1) := by decide +kernel
theorem dX11_dateAt_1 : decode cX11_dateAt 1 = .ok (.iconst 0, 1) := by decide +kernel
theorem dX11_dateAt_2 : decode cX11_dateAt 2 = .ok (.sipush 5759, 3) := by decide +kernel
theorem dX11_dateAt_5 : decode cX11_dateAt 5 = .ok (.invokestatic 92, 3) := by decide +kernel
theorem dX11_dateAt_8 : decode cX11_dateAt 8 = .ok (.iload_n 2, 1) := by decide +kernel
theorem dX11_dateAt_9 : decode cX11_dateAt 9 = .ok (.iconst 0, 1) := by decide +kernel
theorem dX11_dateAt_10 : decode cX11_dateAt 10 = .ok (.iconst 5, 1) := by decide +kernel
theorem dX11_dateAt_11 : decode cX11_dateAt 11 = .ok (.invokestatic 92, 3) := by decide +kernel
theorem dX11_dateAt_14 : decode cX11_dateAt 14 = .ok (.iload_n 2, 1) := by decide +kernel
theorem dX11_dateAt_15 : decode cX11_dateAt 15 = .ok (.iconst 4, 1) := by decide +kernel
theorem dX11_dateAt_16 : decode cX11_dateAt 16 = .ok (.if_icmp .ne 12, 3) := by decide +kernel
theorem dX11_dateAt_19 : decode cX11_dateAt 19 = .ok (.iload_n 1, 1) := by decide +kernel
theorem dX11_dateAt_20 : decode cX11_dateAt 20 = .ok (.sipush 1440, 3) := by decide +kernel
theorem dX11_dateAt_23 : decode cX11_dateAt 23 = .ok (.irem, 1) := by decide +kernel
theorem dX11_dateAt_24 : decode cX11_dateAt 24 = .ok (.bipush 60, 2) := by decide +kernel
theorem dX11_dateAt_26 : decode cX11_dateAt 26 = .ok (.idiv, 1) := by decide +kernel
theorem dX11_dateAt_27 : decode cX11_dateAt 27 = .ok (.ireturn, 1) := by decide +kernel
theorem dX11_dateAt_28 : decode cX11_dateAt 28 = .ok (.iload_n 2, 1) := by decide +kernel
theorem dX11_dateAt_29 : decode cX11_dateAt 29 = .ok (.iconst 5, 1) := by decide +kernel
theorem dX11_dateAt_30 : decode cX11_dateAt 30 = .ok (.if_icmp .ne 8, 3) := by decide +kernel
theorem dX11_dateAt_33 : decode cX11_dateAt 33 = .ok (.iload_n 1, 1) := by decide +kernel
theorem dX11_dateAt_34 : decode cX11_dateAt 34 = .ok (.bipush 60, 2) := by decide +kernel
theorem dX11_dateAt_36 : decode cX11_dateAt 36 = .ok (.irem, 1) := by decide +kernel
theorem dX11_dateAt_37 : decode cX11_dateAt 37 = .ok (.ireturn, 1) := by decide +kernel
theorem dX11_dateAt_38 : decode cX11_dateAt 38 = .ok (.aload_n 0, 1) := by decide +kernel
theorem dX11_dateAt_39 : decode cX11_dateAt 39 = .ok (.getfield 12, 3) := by decide +kernel
theorem dX11_dateAt_42 : decode cX11_dateAt 42 = .ok (.getfield 67, 3) := by decide +kernel
theorem dX11_dateAt_45 : decode cX11_dateAt 45 = .ok (.iload_n 1, 1) := by decide +kernel
theorem dX11_dateAt_46 : decode cX11_dateAt 46 = .ok (.sipush 1440, 3) := by decide +kernel
theorem dX11_dateAt_49 : decode cX11_dateAt 49 = .ok (.idiv, 1) := by decide +kernel
theorem dX11_dateAt_50 : decode cX11_dateAt 50 = .ok (.iload_n 2, 1) := by decide +kernel
theorem dX11_dateAt_51 : decode cX11_dateAt 51 = .ok (.invokevirtual 283, 3) := by decide +kernel
theorem dX11_dateAt_54 : decode cX11_dateAt 54 = .ok (.ireturn, 1) := by decide +kernel
set_option maxRecDepth 20000 in
theorem ggX11_walk_X11_needPlace : GoodIn wsX11_walk wsX11_needPlace := goodIn_ca (goodIn_r _ [6, 7, 8] (by decide +kernel) (by decide +kernel)) (goodIn_sub (fun _ h => List.mem_cons_of_mem _ (List.mem_append_right _ h)) (by decide +kernel))
set_option maxRecDepth 20000 in
theorem gX11_walk_X11_needPlace : GoodIn wsX11_walk (va_wsS RX11 79 yX11_needPlace wsX11_needPlace) := goodIn_app (goodIn_of _ (by decide +kernel)) ggX11_walk_X11_needPlace
set_option maxRecDepth 20000 in
theorem ggX11_walk_X4_minutesBetween : GoodIn wsX11_walk wsX4_minutesBetween := goodIn_r _ [13, 14, 29, 30, 31, 32] (by decide +kernel) (by decide +kernel)
set_option maxRecDepth 20000 in
theorem gX11_walk_X4_minutesBetween : GoodIn wsX11_walk (wsV RX11 98 RX4 yX4_minutesBetween wsX4_minutesBetween) := goodIn_app (goodIn_of _ (by decide +kernel)) ggX11_walk_X4_minutesBetween
theorem dX11_walk_0 : decode cX11_walk 0 = .ok (.iload_n 1, 1) := by decide +kernel
theorem dX11_walk_1 : decode cX11_walk 1 = .ok (.iconst 4, 1) := by decide +kernel
theorem dX11_walk_2 : decode cX11_walk 2 = .ok (.invokestatic 79, 3) := by decide +kernel
theorem dX11_walk_5 : decode cX11_walk 5 = .ok (.iload_n 2, 1) := by decide +kernel
theorem dX11_walk_6 : decode cX11_walk 6 = .ok (.iconst 4, 1) := by decide +kernel
theorem dX11_walk_7 : decode cX11_walk 7 = .ok (.invokestatic 79, 3) := by decide +kernel
theorem dX11_walk_10 : decode cX11_walk 10 = .ok (.aload_n 0, 1) := by decide +kernel
theorem dX11_walk_11 : decode cX11_walk 11 = .ok (.getfield 12, 3) := by decide +kernel
theorem dX11_walk_14 : decode cX11_walk 14 = .ok (.getfield 22, 3) := by decide +kernel
theorem dX11_walk_17 : decode cX11_walk 17 = .ok (.iload_n 1, 1) := by decide +kernel
theorem dX11_walk_18 : decode cX11_walk 18 = .ok (.iload_n 2, 1) := by decide +kernel
theorem dX11_walk_19 : decode cX11_walk 19 = .ok (.invokevirtual 98, 3) := by decide +kernel
theorem dX11_walk_22 : decode cX11_walk 22 = .ok (.ireturn, 1) := by decide +kernel
set_option maxRecDepth 20000 in
theorem ggX11_actAt_X11_needAct : GoodIn wsX11_actAt wsX11_needAct := goodIn_ca (goodIn_r _ [7, 8, 9, 1, 2, 10, 11, 12, 13, 14, 15, 69, 70, 71, 72, 73, 74, 75, 76, 77, 78, 79, 80, 81, 82, 83, 84, 85, 86, 87, 88, 89, 90] (by decide +kernel) (by decide +kernel)) (goodIn_sub (fun _ h => List.mem_cons_of_mem _ (List.mem_append_left _ (List.mem_append_right _ h))) (by decide +kernel))
set_option maxRecDepth 20000 in
theorem gX11_actAt_X11_needAct : GoodIn wsX11_actAt (wsV RX11 117 RX11 yX11_needAct wsX11_needAct) := goodIn_app (goodIn_of _ (by decide +kernel)) ggX11_actAt_X11_needAct
set_option maxRecDepth 20000 in
theorem ggX11_actAt_X11_needRange : GoodIn wsX11_actAt wsX11_needRange := goodIn_ca (goodIn_r _ [18, 19, 20] (by decide +kernel) (by decide +kernel)) (goodIn_sub (fun _ h => List.mem_cons_of_mem _ (List.mem_append_right _ h)) (by decide +kernel))
set_option maxRecDepth 20000 in
theorem gX11_actAt_X11_needRange : GoodIn wsX11_actAt (va_wsS RX11 92 yX11_needRange wsX11_needRange) := goodIn_app (goodIn_of _ (by decide +kernel)) ggX11_actAt_X11_needRange
set_option maxRecDepth 20000 in
theorem ggX11_actAt_X7_lineup : GoodIn wsX11_actAt wsX7_lineup := goodIn_r _ [24, 25, 26, 27, 28, 29, 30, 13, 31, 32, 33, 34, 35, 36, 37, 38, 39, 40, 41, 11, 12, 14, 15, 42, 43, 44, 45, 46, 47, 48, 49, 50, 51, 52, 53, 54, 55, 56, 57, 58, 59, 60, 61, 62, 63, 64, 83, 84, 85, 86, 87, 88, 89, 90] (by decide +kernel) (by decide +kernel)
set_option maxRecDepth 20000 in
theorem gX11_actAt_X7_lineup : GoodIn wsX11_actAt (wsV RX11 251 RX7 yX7_lineup wsX7_lineup) := goodIn_app (goodIn_of _ (by decide +kernel)) ggX11_actAt_X7_lineup
set_option maxRecDepth 20000 in
theorem ggX11_actAt_X7_partOf : GoodIn wsX11_actAt wsX7_partOf := goodIn_r _ [68, 46, 51, 57, 52, 15, 41, 11, 12, 13, 14, 32, 33, 34, 35, 36, 37, 38, 39, 40, 83, 84, 85, 86, 87, 88, 89, 90] (by decide +kernel) (by decide +kernel)
set_option maxRecDepth 20000 in
theorem gX11_actAt_X7_partOf : GoodIn wsX11_actAt (wsV RX11 286 RX7 yX7_partOf wsX7_partOf) := goodIn_app (goodIn_of _ (by decide +kernel)) ggX11_actAt_X7_partOf
theorem dX11_actAt_0 : decode cX11_actAt 0 = .ok (.aload_n 0, 1) := by decide +kernel
theorem dX11_actAt_1 : decode cX11_actAt 1 = .ok (.iload_n 1, 1) := by decide +kernel
theorem dX11_actAt_2 : decode cX11_actAt 2 = .ok (.invokevirtual 117, 3) := by decide +kernel
theorem dX11_actAt_5 : decode cX11_actAt 5 = .ok (.iload_n 2, 1) := by decide +kernel
theorem dX11_actAt_6 : decode cX11_actAt 6 = .ok (.iconst 0, 1) := by decide +kernel
theorem dX11_actAt_7 : decode cX11_actAt 7 = .ok (.bipush 6, 2) := by decide +kernel
theorem dX11_actAt_9 : decode cX11_actAt 9 = .ok (.invokestatic 92, 3) := by decide +kernel
theorem dX11_actAt_12 : decode cX11_actAt 12 = .ok (.iload_n 2, 1) := by decide +kernel
theorem dX11_actAt_13 : decode cX11_actAt 13 = .ok (.bipush 6, 2) := by decide +kernel
theorem dX11_actAt_15 : decode cX11_actAt 15 = .ok (.if_icmp .ne 18, 3) := by decide +kernel
theorem dX11_actAt_18 : decode cX11_actAt 18 = .ok (.aload_n 0, 1) := by decide +kernel
theorem dX11_actAt_19 : decode cX11_actAt 19 = .ok (.getfield 12, 3) := by decide +kernel
theorem dX11_actAt_22 : decode cX11_actAt 22 = .ok (.getfield 26, 3) := by decide +kernel
theorem dX11_actAt_25 : decode cX11_actAt 25 = .ok (.invokevirtual 251, 3) := by decide +kernel
theorem dX11_actAt_28 : decode cX11_actAt 28 = .ok (.iload_n 1, 1) := by decide +kernel
theorem dX11_actAt_29 : decode cX11_actAt 29 = .ok (.ishr, 1) := by decide +kernel
theorem dX11_actAt_30 : decode cX11_actAt 30 = .ok (.iconst 1, 1) := by decide +kernel
theorem dX11_actAt_31 : decode cX11_actAt 31 = .ok (.iand, 1) := by decide +kernel
theorem dX11_actAt_32 : decode cX11_actAt 32 = .ok (.ireturn, 1) := by decide +kernel
theorem dX11_actAt_33 : decode cX11_actAt 33 = .ok (.aload_n 0, 1) := by decide +kernel
theorem dX11_actAt_34 : decode cX11_actAt 34 = .ok (.getfield 12, 3) := by decide +kernel
theorem dX11_actAt_37 : decode cX11_actAt 37 = .ok (.getfield 26, 3) := by decide +kernel
theorem dX11_actAt_40 : decode cX11_actAt 40 = .ok (.iload_n 1, 1) := by decide +kernel
theorem dX11_actAt_41 : decode cX11_actAt 41 = .ok (.iload_n 2, 1) := by decide +kernel
theorem dX11_actAt_42 : decode cX11_actAt 42 = .ok (.invokevirtual 286, 3) := by decide +kernel
theorem dX11_actAt_45 : decode cX11_actAt 45 = .ok (.ireturn, 1) := by decide +kernel
set_option maxRecDepth 20000 in
theorem ggX11_acts_X7_numbers : GoodIn wsX11_acts wsX7_numbers := goodIn_r _ [7, 8, 9, 10, 6, 11, 12, 34, 35, 36, 37, 38, 39, 40, 41] (by decide +kernel) (by decide +kernel)
set_option maxRecDepth 20000 in
theorem gX11_acts_X7_numbers : GoodIn wsX11_acts (wsV RX11 287 RX7 yX7_numbers wsX7_numbers) := goodIn_app (goodIn_of _ (by decide +kernel)) ggX11_acts_X7_numbers
set_option maxRecDepth 20000 in
theorem ggX11_acts_J6_bitCount_0f7a4 : GoodIn wsX11_acts wsJ6_bitCount_0f7a4 := goodIn_r _ [16, 17, 18, 19] (by decide +kernel) (by decide +kernel)
set_option maxRecDepth 20000 in
theorem gX11_acts_J6_bitCount_0f7a4 : GoodIn wsX11_acts (va_wsS RX11 290 yJ6_bitCount_0f7a4 wsJ6_bitCount_0f7a4) := goodIn_app (goodIn_of _ (by decide +kernel)) ggX11_acts_J6_bitCount_0f7a4
theorem dX11_acts_0 : decode cX11_acts 0 = .ok (.aload_n 0, 1) := by decide +kernel
theorem dX11_acts_1 : decode cX11_acts 1 = .ok (.getfield 12, 3) := by decide +kernel
theorem dX11_acts_4 : decode cX11_acts 4 = .ok (.getfield 26, 3) := by decide +kernel
theorem dX11_acts_7 : decode cX11_acts 7 = .ok (.invokevirtual 287, 3) := by decide +kernel
theorem dX11_acts_10 : decode cX11_acts 10 = .ok (.invokestatic 290, 3) := by decide +kernel
theorem dX11_acts_13 : decode cX11_acts 13 = .ok (.ireturn, 1) := by decide +kernel
set_option maxRecDepth 20000 in
theorem ggX11_firstIn_X11_needPlace : GoodIn wsX11_firstIn wsX11_needPlace := goodIn_ca (goodIn_r _ [8, 9, 10] (by decide +kernel) (by decide +kernel)) (goodIn_sub (fun _ h => List.mem_cons_of_mem _ (List.mem_append_right _ h)) (by decide +kernel))
set_option maxRecDepth 20000 in
theorem gX11_firstIn_X11_needPlace : GoodIn wsX11_firstIn (va_wsS RX11 79 yX11_needPlace wsX11_needPlace) := goodIn_app (goodIn_of _ (by decide +kernel)) ggX11_firstIn_X11_needPlace
set_option maxRecDepth 20000 in
theorem ggX11_firstIn_X7_earliest : GoodIn wsX11_firstIn wsX7_earliest := goodIn_r _ [15, 16, 17, 18, 19, 14, 20, 21, 22, 23, 24, 25, 26, 27, 28, 29, 30, 45, 46, 47, 48, 49, 50, 51, 52] (by decide +kernel) (by decide +kernel)
set_option maxRecDepth 20000 in
theorem gX11_firstIn_X7_earliest : GoodIn wsX11_firstIn (wsV RX11 297 RX7 yX7_earliest wsX7_earliest) := goodIn_app (goodIn_of _ (by decide +kernel)) ggX11_firstIn_X7_earliest
theorem dX11_firstIn_0 : decode cX11_firstIn 0 = .ok (.iload_n 1, 1) := by decide +kernel
theorem dX11_firstIn_1 : decode cX11_firstIn 1 = .ok (.iconst 4, 1) := by decide +kernel
theorem dX11_firstIn_2 : decode cX11_firstIn 2 = .ok (.invokestatic 79, 3) := by decide +kernel
theorem dX11_firstIn_5 : decode cX11_firstIn 5 = .ok (.iload_n 2, 1) := by decide +kernel
theorem dX11_firstIn_6 : decode cX11_firstIn 6 = .ok (.iload_n 3, 1) := by decide +kernel
theorem dX11_firstIn_7 : decode cX11_firstIn 7 = .ok (.if_icmp .le 14, 3) := by decide +kernel
theorem dX11_firstIn_10 : decode cX11_firstIn 10 = .ok (.new 57, 3) := by decide +kernel
theorem dX11_firstIn_13 : decode cX11_firstIn 13 = .ok (.dup, 1) := by decide +kernel
theorem dX11_firstIn_14 : decode cX11_firstIn 14 = .ok (.ldc_w 295, 3) := by decide +kernel
theorem dX11_firstIn_17 : decode cX11_firstIn 17 = .ok (.invokespecial 61, 3) := by decide +kernel
theorem dX11_firstIn_20 : decode cX11_firstIn 20 = .ok (.athrow, 1) := by decide +kernel
theorem dX11_firstIn_21 : decode cX11_firstIn 21 = .ok (.aload_n 0, 1) := by decide +kernel
theorem dX11_firstIn_22 : decode cX11_firstIn 22 = .ok (.getfield 12, 3) := by decide +kernel
theorem dX11_firstIn_25 : decode cX11_firstIn 25 = .ok (.getfield 26, 3) := by decide +kernel
theorem dX11_firstIn_28 : decode cX11_firstIn 28 = .ok (.iload_n 1, 1) := by decide +kernel
theorem dX11_firstIn_29 : decode cX11_firstIn 29 = .ok (.iload_n 2, 1) := by decide +kernel
theorem dX11_firstIn_30 : decode cX11_firstIn 30 = .ok (.iload_n 3, 1) := by decide +kernel
theorem dX11_firstIn_31 : decode cX11_firstIn 31 = .ok (.invokevirtual 297, 3) := by decide +kernel
theorem dX11_firstIn_34 : decode cX11_firstIn 34 = .ok (.ireturn, 1) := by decide +kernel
set_option maxRecDepth 20000 in
theorem ggX11_clash_X11_needAct : GoodIn wsX11_clash wsX11_needAct := goodIn_ca (goodIn_r _ [7, 8, 9, 1, 2, 10, 11, 12, 13, 14, 15, 38, 39, 40, 41, 42, 43, 44, 45, 46, 47, 48, 49, 50, 51, 52, 53, 54, 55, 56, 57, 58, 59] (by decide +kernel) (by decide +kernel)) (goodIn_sub (fun _ h => List.mem_cons_of_mem _ (List.mem_append_left _ (List.mem_append_right _ h))) (by decide +kernel))
set_option maxRecDepth 20000 in
theorem gX11_clash_X11_needAct : GoodIn wsX11_clash (wsV RX11 117 RX11 yX11_needAct wsX11_needAct) := goodIn_app (goodIn_of _ (by decide +kernel)) ggX11_clash_X11_needAct
set_option maxRecDepth 20000 in
theorem ggX11_clash_X11_needOthers : GoodIn wsX11_clash wsX11_needOthers := goodIn_ca (goodIn_r _ [18, 19, 20] (by decide +kernel) (by decide +kernel)) (goodIn_sub (fun _ h => List.mem_cons_of_mem _ (List.mem_append_right _ h)) (by decide +kernel))
set_option maxRecDepth 20000 in
theorem gX11_clash_X11_needOthers : GoodIn wsX11_clash (va_wsS RX11 89 yX11_needOthers wsX11_needOthers) := goodIn_app (goodIn_of _ (by decide +kernel)) ggX11_clash_X11_needOthers
set_option maxRecDepth 20000 in
theorem ggX11_clash_X7_areFoes : GoodIn wsX11_clash wsX7_areFoes := goodIn_r _ [24, 25, 15, 26, 27, 28, 13, 29, 30, 31, 32, 11, 12, 14, 33, 34, 35, 36, 37, 52, 53, 54, 55, 56, 57, 58, 59] (by decide +kernel) (by decide +kernel)
set_option maxRecDepth 20000 in
theorem gX11_clash_X7_areFoes : GoodIn wsX11_clash (wsV RX11 300 RX7 yX7_areFoes wsX7_areFoes) := goodIn_app (goodIn_of _ (by decide +kernel)) ggX11_clash_X7_areFoes
theorem dX11_clash_0 : decode cX11_clash 0 = .ok (.aload_n 0, 1) := by decide +kernel
theorem dX11_clash_1 : decode cX11_clash 1 = .ok (.iload_n 1, 1) := by decide +kernel
theorem dX11_clash_2 : decode cX11_clash 2 = .ok (.invokevirtual 117, 3) := by decide +kernel
theorem dX11_clash_5 : decode cX11_clash 5 = .ok (.aload_n 0, 1) := by decide +kernel
theorem dX11_clash_6 : decode cX11_clash 6 = .ok (.iload_n 2, 1) := by decide +kernel
theorem dX11_clash_7 : decode cX11_clash 7 = .ok (.invokevirtual 117, 3) := by decide +kernel
theorem dX11_clash_10 : decode cX11_clash 10 = .ok (.iload_n 1, 1) := by decide +kernel
theorem dX11_clash_11 : decode cX11_clash 11 = .ok (.iload_n 2, 1) := by decide +kernel
theorem dX11_clash_12 : decode cX11_clash 12 = .ok (.invokestatic 89, 3) := by decide +kernel
theorem dX11_clash_15 : decode cX11_clash 15 = .ok (.aload_n 0, 1) := by decide +kernel
theorem dX11_clash_16 : decode cX11_clash 16 = .ok (.getfield 12, 3) := by decide +kernel
theorem dX11_clash_19 : decode cX11_clash 19 = .ok (.getfield 26, 3) := by decide +kernel
theorem dX11_clash_22 : decode cX11_clash 22 = .ok (.iload_n 1, 1) := by decide +kernel
theorem dX11_clash_23 : decode cX11_clash 23 = .ok (.iload_n 2, 1) := by decide +kernel
theorem dX11_clash_24 : decode cX11_clash 24 = .ok (.invokevirtual 300, 3) := by decide +kernel
theorem dX11_clash_27 : decode cX11_clash 27 = .ok (.ireturn, 1) := by decide +kernel
set_option maxRecDepth 20000 in
theorem ggX11_clashes_X7_countFoes : GoodIn wsX11_clashes wsX7_countFoes := goodIn_r _ [7, 8, 9, 10, 6, 11, 12, 13, 14, 15, 16, 17, 18, 19, 20, 21, 22, 23, 24, 25, 26, 27, 28, 43, 44, 45, 46, 47, 48, 49, 50] (by decide +kernel) (by decide +kernel)
set_option maxRecDepth 20000 in
theorem gX11_clashes_X7_countFoes : GoodIn wsX11_clashes (wsV RX11 304 RX7 yX7_countFoes wsX7_countFoes) := goodIn_app (goodIn_of _ (by decide +kernel)) ggX11_clashes_X7_countFoes
theorem dX11_clashes_0 : decode cX11_clashes 0 = .ok (.aload_n 0, 1) := by decide +kernel
theorem dX11_clashes_1 : decode cX11_clashes 1 = .ok (.getfield 12, 3) := by decide +kernel
theorem dX11_clashes_4 : decode cX11_clashes 4 = .ok (.getfield 26, 3) := by decide +kernel
theorem dX11_clashes_7 : decode cX11_clashes 7 = .ok (.invokevirtual 304, 3) := by decide +kernel
theorem dX11_clashes_10 : decode cX11_clashes 10 = .ok (.ireturn, 1) := by decide +kernel
set_option maxRecDepth 20000 in
theorem ggX11_pleased_X7_bound : GoodIn wsX11_pleased wsX7_bound := goodIn_r _ [7, 8, 9, 10, 11, 12, 6, 13, 14, 15, 16, 17, 18, 19, 20, 21, 22, 23, 24, 25, 26, 27, 28, 29, 30, 31, 32, 33, 34, 35, 36, 37, 38, 39, 40, 41, 42, 43, 44, 45, 46, 47, 48, 49, 50, 51, 52, 53, 54, 82, 83, 84, 85, 86, 87, 88, 89] (by decide +kernel) (by decide +kernel)
set_option maxRecDepth 20000 in
theorem gX11_pleased_X7_bound : GoodIn wsX11_pleased (wsV RX11 307 RX7 yX7_bound wsX7_bound) := goodIn_app (goodIn_of _ (by decide +kernel)) ggX11_pleased_X7_bound
set_option maxRecDepth 20000 in
theorem ggX11_pleased_X7_lineup : GoodIn wsX11_pleased wsX7_lineup := goodIn_r _ [58, 8, 9, 59, 10, 11, 12, 6, 13, 14, 15, 16, 17, 18, 19, 20, 21, 22, 23, 24, 25, 26, 27, 28, 29, 30, 31, 32, 33, 34, 35, 36, 37, 38, 39, 40, 41, 42, 43, 60, 61, 62, 63, 52, 53, 54, 82, 83, 84, 85, 86, 87, 88, 89] (by decide +kernel) (by decide +kernel)
set_option maxRecDepth 20000 in
theorem gX11_pleased_X7_lineup : GoodIn wsX11_pleased (wsV RX11 251 RX7 yX7_lineup wsX7_lineup) := goodIn_app (goodIn_of _ (by decide +kernel)) ggX11_pleased_X7_lineup
set_option maxRecDepth 20000 in
theorem ggX11_pleased_X7_pleasingOfAll : GoodIn wsX11_pleased wsX7_pleasingOfAll := goodIn_r _ [67, 14, 15, 16, 6, 17, 18, 19, 20, 21, 22, 23, 24, 25, 26, 27, 82, 83, 84, 85, 86, 87, 88, 89] (by decide +kernel) (by decide +kernel)
set_option maxRecDepth 20000 in
theorem gX11_pleased_X7_pleasingOfAll : GoodIn wsX11_pleased (wsV RX11 310 RX7 yX7_pleasingOfAll wsX7_pleasingOfAll) := goodIn_app (goodIn_of _ (by decide +kernel)) ggX11_pleased_X7_pleasingOfAll
theorem dX11_pleased_0 : decode cX11_pleased 0 = .ok (.iload_n 1, 1) := by decide +kernel
theorem dX11_pleased_1 : decode cX11_pleased 1 = .ok (.ifCond .eq 14, 3) := by decide +kernel
theorem dX11_pleased_4 : decode cX11_pleased 4 = .ok (.aload_n 0, 1) := by decide +kernel
theorem dX11_pleased_5 : decode cX11_pleased 5 = .ok (.getfield 12, 3) := by decide +kernel
theorem dX11_pleased_8 : decode cX11_pleased 8 = .ok (.getfield 26, 3) := by decide +kernel
theorem dX11_pleased_11 : decode cX11_pleased 11 = .ok (.invokevirtual 307, 3) := by decide +kernel
theorem dX11_pleased_14 : decode cX11_pleased 14 = .ok (.ireturn, 1) := by decide +kernel
theorem dX11_pleased_15 : decode cX11_pleased 15 = .ok (.aload_n 0, 1) := by decide +kernel
theorem dX11_pleased_16 : decode cX11_pleased 16 = .ok (.getfield 12, 3) := by decide +kernel
theorem dX11_pleased_19 : decode cX11_pleased 19 = .ok (.getfield 26, 3) := by decide +kernel
theorem dX11_pleased_22 : decode cX11_pleased 22 = .ok (.aload_n 0, 1) := by decide +kernel
theorem dX11_pleased_23 : decode cX11_pleased 23 = .ok (.getfield 12, 3) := by decide +kernel
theorem dX11_pleased_26 : decode cX11_pleased 26 = .ok (.getfield 26, 3) := by decide +kernel
theorem dX11_pleased_29 : decode cX11_pleased 29 = .ok (.invokevirtual 251, 3) := by decide +kernel
theorem dX11_pleased_32 : decode cX11_pleased 32 = .ok (.invokevirtual 310, 3) := by decide +kernel
theorem dX11_pleased_35 : decode cX11_pleased 35 = .ok (.ireturn, 1) := by decide +kernel
set_option maxRecDepth 20000 in
theorem ggX11_evening_X11_needPlace : GoodIn wsX11_evening wsX11_needPlace := goodIn_ca (goodIn_r _ [5, 6, 7] (by decide +kernel) (by decide +kernel)) (goodIn_sub (fun _ h => List.mem_cons_of_mem _ (List.mem_append_right _ h)) (by decide +kernel))
set_option maxRecDepth 20000 in
theorem gX11_evening_X11_needPlace : GoodIn wsX11_evening (va_wsS RX11 79 yX11_needPlace wsX11_needPlace) := goodIn_app (goodIn_of _ (by decide +kernel)) ggX11_evening_X11_needPlace
set_option maxRecDepth 20000 in
theorem ggX11_evening_X2_planFor : GoodIn wsX11_evening wsX2_planFor := goodIn_r _ [12, 13, 14, 15, 16, 4, 17, 18, 19, 20, 21, 22, 23, 24, 25, 26, 27, 28, 29, 30, 31, 32, 33, 34, 35, 36, 37, 38, 39, 40, 11, 41, 42, 43, 44, 45, 46, 47, 48, 49, 50, 51, 52, 53, 54, 55, 56, 57, 58, 59, 60, 61, 62, 63, 64, 65, 66, 67, 68, 69, 100, 101, 102, 103, 104, 105, 106, 107, 108, 109, 110, 111, 112, 113, 114, 115] (by decide +kernel) (by decide +kernel)
set_option maxRecDepth 20000 in
theorem gX11_evening_X2_planFor : GoodIn wsX11_evening (wsV RX11 313 RX2 yX2_planFor wsX2_planFor) := goodIn_app (goodIn_of _ (by decide +kernel)) ggX11_evening_X2_planFor
set_option maxRecDepth 20000 in
theorem ggX11_evening_X2_weightOn : GoodIn wsX11_evening wsX2_weightOn := goodIn_r _ [73, 15, 13, 74, 75, 76, 11, 77, 14, 78, 79, 80, 81, 82, 83, 84, 85, 47, 48, 49, 21, 50, 23, 24, 25, 26, 27, 28, 33, 34, 35, 36, 37, 86, 87, 88, 89, 90, 91, 92, 93, 42, 43, 44, 45, 46, 51, 30, 31, 32, 52, 53, 54, 55, 56, 57, 58, 59, 60, 61, 62, 63, 64, 65, 66, 67, 100, 101, 102, 103, 104, 105, 106, 107, 108, 109, 110, 111, 112, 113, 114, 115] (by decide +kernel) (by decide +kernel)
set_option maxRecDepth 20000 in
theorem gX11_evening_X2_weightOn : GoodIn wsX11_evening (wsV RX11 316 RX2 yX2_weightOn wsX2_weightOn) := goodIn_app (goodIn_of _ (by decide +kernel)) ggX11_evening_X2_weightOn
theorem dX11_evening_0 : decode cX11_evening 0 = .ok (.iload_n 1, 1) := by decide +kernel
theorem dX11_evening_1 : decode cX11_evening 1 = .ok (.bipush 12, 2) := by decide +kernel
theorem dX11_evening_3 : decode cX11_evening 3 = .ok (.invokestatic 79, 3) := by decide +kernel
theorem dX11_evening_6 : decode cX11_evening 6 = .ok (.iload_n 2, 1) := by decide +kernel
theorem dX11_evening_7 : decode cX11_evening 7 = .ok (.iconst 4, 1) := by decide +kernel
theorem dX11_evening_8 : decode cX11_evening 8 = .ok (.invokestatic 79, 3) := by decide +kernel
theorem dX11_evening_11 : decode cX11_evening 11 = .ok (.aload_n 0, 1) := by decide +kernel
theorem dX11_evening_12 : decode cX11_evening 12 = .ok (.getfield 33, 3) := by decide +kernel
theorem dX11_evening_15 : decode cX11_evening 15 = .ok (.iload_n 1, 1) := by decide +kernel
theorem dX11_evening_16 : decode cX11_evening 16 = .ok (.invokevirtual 313, 3) := by decide +kernel
theorem dX11_evening_19 : decode cX11_evening 19 = .ok (.aload_n 0, 1) := by decide +kernel
theorem dX11_evening_20 : decode cX11_evening 20 = .ok (.getfield 33, 3) := by decide +kernel
theorem dX11_evening_23 : decode cX11_evening 23 = .ok (.iload_n 2, 1) := by decide +kernel
theorem dX11_evening_24 : decode cX11_evening 24 = .ok (.invokevirtual 316, 3) := by decide +kernel
theorem dX11_evening_27 : decode cX11_evening 27 = .ok (.ireturn, 1) := by decide +kernel
set_option maxRecDepth 20000 in
theorem ggX11_eveningAct_X11_needPlace : GoodIn wsX11_eveningAct wsX11_needPlace := goodIn_ca (goodIn_r _ [7, 8, 9] (by decide +kernel) (by decide +kernel)) (goodIn_sub (fun _ h => List.mem_cons_of_mem _ (List.mem_append_right _ h)) (by decide +kernel))
set_option maxRecDepth 20000 in
theorem gX11_eveningAct_X11_needPlace : GoodIn wsX11_eveningAct (va_wsS RX11 79 yX11_needPlace wsX11_needPlace) := goodIn_app (goodIn_of _ (by decide +kernel)) ggX11_eveningAct_X11_needPlace
set_option maxRecDepth 20000 in
theorem ggX11_eveningAct_X2_planFor : GoodIn wsX11_eveningAct wsX2_planFor := goodIn_r _ [14, 15, 16, 17, 18, 6, 19, 20, 21, 22, 23, 24, 25, 26, 27, 28, 29, 30, 31, 32, 33, 34, 35, 36, 37, 38, 39, 40, 41, 42, 13, 43, 44, 45, 46, 47, 48, 49, 50, 51, 52, 53, 54, 55, 56, 57, 58, 59, 60, 61, 62, 63, 64, 65, 66, 67, 68, 69, 70, 71, 102, 103, 104, 105, 106, 107, 108, 109, 110, 111, 112, 113, 114, 115, 116, 117] (by decide +kernel) (by decide +kernel)
set_option maxRecDepth 20000 in
theorem gX11_eveningAct_X2_planFor : GoodIn wsX11_eveningAct (wsV RX11 313 RX2 yX2_planFor wsX2_planFor) := goodIn_app (goodIn_of _ (by decide +kernel)) ggX11_eveningAct_X2_planFor
set_option maxRecDepth 20000 in
theorem ggX11_eveningAct_X2_actOn : GoodIn wsX11_eveningAct wsX2_actOn := goodIn_r _ [75, 76, 77, 78, 13, 79, 16, 17, 80, 81, 82, 83, 84, 85, 86, 87, 49, 50, 51, 23, 52, 25, 26, 27, 28, 29, 30, 88, 89, 90, 91, 15, 92, 93, 94, 95, 35, 36, 37, 38, 39, 44, 45, 46, 47, 48, 53, 32, 33, 34, 54, 55, 56, 57, 58, 59, 60, 61, 62, 63, 64, 65, 66, 67, 68, 69, 102, 103, 104, 105, 106, 107, 108, 109, 110, 111, 112, 113, 114, 115, 116, 117] (by decide +kernel) (by decide +kernel)
set_option maxRecDepth 20000 in
theorem gX11_eveningAct_X2_actOn : GoodIn wsX11_eveningAct (wsV RX11 319 RX2 yX2_actOn wsX2_actOn) := goodIn_app (goodIn_of _ (by decide +kernel)) ggX11_eveningAct_X2_actOn
theorem dX11_eveningAct_0 : decode cX11_eveningAct 0 = .ok (.iload_n 1, 1) := by decide +kernel
theorem dX11_eveningAct_1 : decode cX11_eveningAct 1 = .ok (.bipush 12, 2) := by decide +kernel
theorem dX11_eveningAct_3 : decode cX11_eveningAct 3 = .ok (.invokestatic 79, 3) := by decide +kernel
theorem dX11_eveningAct_6 : decode cX11_eveningAct 6 = .ok (.iload_n 2, 1) := by decide +kernel
theorem dX11_eveningAct_7 : decode cX11_eveningAct 7 = .ok (.iconst 4, 1) := by decide +kernel
theorem dX11_eveningAct_8 : decode cX11_eveningAct 8 = .ok (.invokestatic 79, 3) := by decide +kernel
theorem dX11_eveningAct_11 : decode cX11_eveningAct 11 = .ok (.aload_n 0, 1) := by decide +kernel
theorem dX11_eveningAct_12 : decode cX11_eveningAct 12 = .ok (.getfield 33, 3) := by decide +kernel
theorem dX11_eveningAct_15 : decode cX11_eveningAct 15 = .ok (.iload_n 1, 1) := by decide +kernel
theorem dX11_eveningAct_16 : decode cX11_eveningAct 16 = .ok (.invokevirtual 313, 3) := by decide +kernel
theorem dX11_eveningAct_19 : decode cX11_eveningAct 19 = .ok (.aload_n 0, 1) := by decide +kernel
theorem dX11_eveningAct_20 : decode cX11_eveningAct 20 = .ok (.getfield 33, 3) := by decide +kernel
theorem dX11_eveningAct_23 : decode cX11_eveningAct 23 = .ok (.iload_n 2, 1) := by decide +kernel
theorem dX11_eveningAct_24 : decode cX11_eveningAct 24 = .ok (.iload_n 3, 1) := by decide +kernel
theorem dX11_eveningAct_25 : decode cX11_eveningAct 25 = .ok (.invokevirtual 319, 3) := by decide +kernel
theorem dX11_eveningAct_28 : decode cX11_eveningAct 28 = .ok (.istore 4, 2) := by decide +kernel
theorem dX11_eveningAct_30 : decode cX11_eveningAct 30 = .ok (.iload 4, 2) := by decide +kernel
theorem dX11_eveningAct_32 : decode cX11_eveningAct 32 = .ok (.iconst (-1), 1) := by decide +kernel
theorem dX11_eveningAct_33 : decode cX11_eveningAct 33 = .ok (.if_icmp .ne 14, 3) := by decide +kernel
theorem dX11_eveningAct_36 : decode cX11_eveningAct 36 = .ok (.new 267, 3) := by decide +kernel
theorem dX11_eveningAct_39 : decode cX11_eveningAct 39 = .ok (.dup, 1) := by decide +kernel
theorem dX11_eveningAct_40 : decode cX11_eveningAct 40 = .ok (.ldc_w 322, 3) := by decide +kernel
theorem dX11_eveningAct_43 : decode cX11_eveningAct 43 = .ok (.invokespecial 271, 3) := by decide +kernel
theorem dX11_eveningAct_46 : decode cX11_eveningAct 46 = .ok (.athrow, 1) := by decide +kernel
theorem dX11_eveningAct_47 : decode cX11_eveningAct 47 = .ok (.iload 4, 2) := by decide +kernel
theorem dX11_eveningAct_49 : decode cX11_eveningAct 49 = .ok (.ireturn, 1) := by decide +kernel
set_option maxRecDepth 20000 in
theorem ggX11_price_X11_needPlace : GoodIn wsX11_price wsX11_needPlace := goodIn_ca (goodIn_r _ [5, 6, 7] (by decide +kernel) (by decide +kernel)) (goodIn_sub (fun _ h => List.mem_cons_of_mem _ (List.mem_append_right _ h)) (by decide +kernel))
set_option maxRecDepth 20000 in
theorem gX11_price_X11_needPlace : GoodIn wsX11_price (va_wsS RX11 79 yX11_needPlace wsX11_needPlace) := goodIn_app (goodIn_of _ (by decide +kernel)) ggX11_price_X11_needPlace
set_option maxRecDepth 20000 in
theorem ggX11_price_X11_needAct : GoodIn wsX11_price wsX11_needAct := goodIn_ca (goodIn_r _ [11, 6, 7, 12, 13, 14, 15, 16, 17, 18, 19, 81, 82, 83, 84, 85, 86, 87, 88, 89, 90, 91, 92, 93, 94, 95, 96, 97, 98, 99, 100, 101, 102] (by decide +kernel) (by decide +kernel)) (goodIn_sub (fun _ h => List.mem_cons_of_mem _ (List.mem_append_right _ h)) (by decide +kernel))
set_option maxRecDepth 20000 in
theorem gX11_price_X11_needAct : GoodIn wsX11_price (wsV RX11 117 RX11 yX11_needAct wsX11_needAct) := goodIn_app (goodIn_of _ (by decide +kernel)) ggX11_price_X11_needAct
set_option maxRecDepth 20000 in
theorem ggX11_price_X2_planFor : GoodIn wsX11_price wsX2_planFor := goodIn_r _ [24, 25, 26, 27, 28, 4, 29, 30, 31, 32, 17, 33, 34, 35, 15, 16, 18, 19, 36, 37, 38, 39, 40, 41, 42, 43, 44, 45, 46, 47, 23, 48, 49, 50, 51, 52, 53, 54, 55, 56, 57, 58, 59, 60, 61, 62, 63, 64, 65, 66, 67, 68, 69, 70, 71, 72, 73, 74, 75, 76, 103, 104, 105, 106, 95, 96, 97, 98, 99, 100, 101, 102, 107, 108, 109, 110] (by decide +kernel) (by decide +kernel)
set_option maxRecDepth 20000 in
theorem gX11_price_X2_planFor : GoodIn wsX11_price (wsV RX11 313 RX2 yX2_planFor wsX2_planFor) := goodIn_app (goodIn_of _ (by decide +kernel)) ggX11_price_X2_planFor
set_option maxRecDepth 20000 in
theorem ggX11_price_X2_priceOf : GoodIn wsX11_price wsX2_priceOf := goodIn_r _ [80, 26, 103, 104, 105, 106] (by decide +kernel) (by decide +kernel)
set_option maxRecDepth 20000 in
theorem gX11_price_X2_priceOf : GoodIn wsX11_price (wsV RX11 324 RX2 yX2_priceOf wsX2_priceOf) := goodIn_app (goodIn_of _ (by decide +kernel)) ggX11_price_X2_priceOf
theorem dX11_price_0 : decode cX11_price 0 = .ok (.iload_n 1, 1) := by decide +kernel
theorem dX11_price_1 : decode cX11_price 1 = .ok (.bipush 12, 2) := by decide +kernel
theorem dX11_price_3 : decode cX11_price 3 = .ok (.invokestatic 79, 3) := by decide +kernel
theorem dX11_price_6 : decode cX11_price 6 = .ok (.aload_n 0, 1) := by decide +kernel
theorem dX11_price_7 : decode cX11_price 7 = .ok (.iload_n 2, 1) := by decide +kernel
theorem dX11_price_8 : decode cX11_price 8 = .ok (.invokevirtual 117, 3) := by decide +kernel
theorem dX11_price_11 : decode cX11_price 11 = .ok (.aload_n 0, 1) := by decide +kernel
theorem dX11_price_12 : decode cX11_price 12 = .ok (.getfield 33, 3) := by decide +kernel
theorem dX11_price_15 : decode cX11_price 15 = .ok (.iload_n 1, 1) := by decide +kernel
theorem dX11_price_16 : decode cX11_price 16 = .ok (.invokevirtual 313, 3) := by decide +kernel
theorem dX11_price_19 : decode cX11_price 19 = .ok (.aload_n 0, 1) := by decide +kernel
theorem dX11_price_20 : decode cX11_price 20 = .ok (.getfield 33, 3) := by decide +kernel
theorem dX11_price_23 : decode cX11_price 23 = .ok (.iload_n 2, 1) := by decide +kernel
theorem dX11_price_24 : decode cX11_price 24 = .ok (.invokevirtual 324, 3) := by decide +kernel
theorem dX11_price_27 : decode cX11_price 27 = .ok (.ireturn, 1) := by decide +kernel
set_option maxRecDepth 20000 in
theorem ggX11_listeners_X11_needPlace : GoodIn wsX11_listeners wsX11_needPlace := goodIn_ca (goodIn_r _ [5, 6, 7] (by decide +kernel) (by decide +kernel)) (goodIn_sub (fun _ h => List.mem_cons_of_mem _ (List.mem_append_left _ (List.mem_append_right _ h))) (by decide +kernel))
set_option maxRecDepth 20000 in
theorem gX11_listeners_X11_needPlace : GoodIn wsX11_listeners (va_wsS RX11 79 yX11_needPlace wsX11_needPlace) := goodIn_app (goodIn_of _ (by decide +kernel)) ggX11_listeners_X11_needPlace
set_option maxRecDepth 20000 in
theorem ggX11_listeners_X11_needRange : GoodIn wsX11_listeners wsX11_needRange := goodIn_ca (goodIn_r _ [10, 11, 12] (by decide +kernel) (by decide +kernel)) (goodIn_sub (fun _ h => List.mem_cons_of_mem _ (List.mem_append_right _ h)) (by decide +kernel))
set_option maxRecDepth 20000 in
theorem gX11_listeners_X11_needRange : GoodIn wsX11_listeners (va_wsS RX11 92 yX11_needRange wsX11_needRange) := goodIn_app (goodIn_of _ (by decide +kernel)) ggX11_listeners_X11_needRange
set_option maxRecDepth 20000 in
theorem ggX11_listeners_X2_planFor : GoodIn wsX11_listeners wsX2_planFor := goodIn_r _ [17, 18, 19, 20, 21, 4, 22, 23, 24, 25, 26, 27, 28, 29, 30, 31, 32, 33, 34, 35, 36, 37, 38, 39, 40, 41, 42, 43, 44, 45, 16, 46, 47, 48, 49, 50, 51, 52, 53, 54, 55, 56, 57, 58, 59, 60, 61, 62, 63, 64, 65, 66, 67, 68, 69, 70, 71, 72, 73, 74, 110, 111, 112, 113, 114, 115, 116, 117, 118, 119, 120, 121, 122, 123, 124, 125] (by decide +kernel) (by decide +kernel)
set_option maxRecDepth 20000 in
theorem gX11_listeners_X2_planFor : GoodIn wsX11_listeners (wsV RX11 313 RX2 yX2_planFor wsX2_planFor) := goodIn_app (goodIn_of _ (by decide +kernel)) ggX11_listeners_X2_planFor
set_option maxRecDepth 20000 in
theorem ggX11_listeners_X2_isAt : GoodIn wsX11_listeners wsX2_isAt := goodIn_r _ [78, 20, 79, 80, 81, 16, 82, 19, 83, 84, 85, 86, 87, 88, 89, 90, 52, 53, 54, 26, 55, 28, 29, 30, 31, 32, 33, 62, 63, 64, 65, 66, 91, 92, 93, 94, 95, 58, 59, 60, 61, 96, 97, 98, 99, 18, 100, 101, 102, 103, 38, 39, 40, 41, 42, 47, 48, 49, 50, 51, 56, 35, 36, 37, 57, 67, 68, 69, 70, 71, 72, 110, 111, 112, 113, 114, 115, 116, 117, 118, 119, 120, 121, 122, 123, 124, 125] (by decide +kernel) (by decide +kernel)
set_option maxRecDepth 20000 in
theorem gX11_listeners_X2_isAt : GoodIn wsX11_listeners (wsV RX11 327 RX2 yX2_isAt wsX2_isAt) := goodIn_app (goodIn_of _ (by decide +kernel)) ggX11_listeners_X2_isAt
theorem dX11_listeners_0 : decode cX11_listeners 0 = .ok (.iload_n 1, 1) := by decide +kernel
theorem dX11_listeners_1 : decode cX11_listeners 1 = .ok (.iconst 4, 1) := by decide +kernel
theorem dX11_listeners_2 : decode cX11_listeners 2 = .ok (.invokestatic 79, 3) := by decide +kernel
theorem dX11_listeners_5 : decode cX11_listeners 5 = .ok (.iload_n 2, 1) := by decide +kernel
theorem dX11_listeners_6 : decode cX11_listeners 6 = .ok (.iconst 0, 1) := by decide +kernel
theorem dX11_listeners_7 : decode cX11_listeners 7 = .ok (.sipush 5759, 3) := by decide +kernel
theorem dX11_listeners_10 : decode cX11_listeners 10 = .ok (.invokestatic 92, 3) := by decide +kernel
theorem dX11_listeners_13 : decode cX11_listeners 13 = .ok (.iconst 0, 1) := by decide +kernel
theorem dX11_listeners_14 : decode cX11_listeners 14 = .ok (.istore_n 3, 1) := by decide +kernel
theorem dX11_listeners_15 : decode cX11_listeners 15 = .ok (.iconst 0, 1) := by decide +kernel
theorem dX11_listeners_16 : decode cX11_listeners 16 = .ok (.istore 4, 2) := by decide +kernel
theorem dX11_listeners_18 : decode cX11_listeners 18 = .ok (.iload 4, 2) := by decide +kernel
theorem dX11_listeners_20 : decode cX11_listeners 20 = .ok (.bipush 12, 2) := by decide +kernel
theorem dX11_listeners_22 : decode cX11_listeners 22 = .ok (.if_icmp .ge 33, 3) := by decide +kernel
theorem dX11_listeners_25 : decode cX11_listeners 25 = .ok (.aload_n 0, 1) := by decide +kernel
theorem dX11_listeners_26 : decode cX11_listeners 26 = .ok (.getfield 33, 3) := by decide +kernel
theorem dX11_listeners_29 : decode cX11_listeners 29 = .ok (.iload 4, 2) := by decide +kernel
theorem dX11_listeners_31 : decode cX11_listeners 31 = .ok (.invokevirtual 313, 3) := by decide +kernel
theorem dX11_listeners_34 : decode cX11_listeners 34 = .ok (.aload_n 0, 1) := by decide +kernel
theorem dX11_listeners_35 : decode cX11_listeners 35 = .ok (.getfield 33, 3) := by decide +kernel
theorem dX11_listeners_38 : decode cX11_listeners 38 = .ok (.iload_n 1, 1) := by decide +kernel
theorem dX11_listeners_39 : decode cX11_listeners 39 = .ok (.iload_n 2, 1) := by decide +kernel
theorem dX11_listeners_40 : decode cX11_listeners 40 = .ok (.invokevirtual 327, 3) := by decide +kernel
theorem dX11_listeners_43 : decode cX11_listeners 43 = .ok (.ifCond .eq 6, 3) := by decide +kernel
theorem dX11_listeners_46 : decode cX11_listeners 46 = .ok (.iinc 3 1, 3) := by decide +kernel
theorem dX11_listeners_49 : decode cX11_listeners 49 = .ok (.iinc 4 1, 3) := by decide +kernel
theorem dX11_listeners_52 : decode cX11_listeners 52 = .ok (.goto (-34), 3) := by decide +kernel
theorem dX11_listeners_55 : decode cX11_listeners 55 = .ok (.iload_n 3, 1) := by decide +kernel
theorem dX11_listeners_56 : decode cX11_listeners 56 = .ok (.ireturn, 1) := by decide +kernel
set_option maxRecDepth 20000 in
theorem ggX11_outBy_X3_minutesOut : GoodIn wsX11_outBy wsX3_minutesOut := goodIn_r _ [7, 8, 9, 10, 11, 12, 13, 14, 15, 6, 16, 17, 18, 19, 20, 21, 22, 23, 24, 25, 26, 27, 28, 29, 30, 31, 32, 33, 34, 35, 36, 51, 52, 53] (by decide +kernel) (by decide +kernel)
set_option maxRecDepth 20000 in
theorem gX11_outBy_X3_minutesOut : GoodIn wsX11_outBy (wsV RX11 330 RX3 yX3_minutesOut wsX3_minutesOut) := goodIn_app (goodIn_of _ (by decide +kernel)) ggX11_outBy_X3_minutesOut
theorem dX11_outBy_0 : decode cX11_outBy 0 = .ok (.aload_n 0, 1) := by decide +kernel
theorem dX11_outBy_1 : decode cX11_outBy 1 = .ok (.getfield 12, 3) := by decide +kernel
theorem dX11_outBy_4 : decode cX11_outBy 4 = .ok (.getfield 135, 3) := by decide +kernel
theorem dX11_outBy_7 : decode cX11_outBy 7 = .ok (.invokevirtual 330, 3) := by decide +kernel
theorem dX11_outBy_10 : decode cX11_outBy 10 = .ok (.ireturn, 1) := by decide +kernel
set_option maxRecDepth 20000 in
theorem ggX11_cut_X3_minutesOut : GoodIn wsX11_cut wsX3_minutesOut := goodIn_r _ [7, 8, 9, 10, 11, 12, 13, 14, 15, 6, 16, 17, 18, 19, 20, 21, 22, 23, 24, 25, 26, 27, 28, 29, 30, 31, 32, 33, 34, 35, 36, 52, 53, 54] (by decide +kernel) (by decide +kernel)
set_option maxRecDepth 20000 in
theorem gX11_cut_X3_minutesOut : GoodIn wsX11_cut (wsV RX11 330 RX3 yX3_minutesOut wsX3_minutesOut) := goodIn_app (goodIn_of _ (by decide +kernel)) ggX11_cut_X3_minutesOut
set_option maxRecDepth 20000 in
theorem ggX11_cut_X3_firstTooFull : GoodIn wsX11_cut wsX3_firstTooFull := goodIn_r _ [16, 17, 18, 19, 6, 20, 8, 21, 22, 23, 24, 9, 25, 26, 27, 28, 29, 30, 31, 32, 33, 34, 35, 36, 52, 53, 54] (by decide +kernel) (by decide +kernel)
set_option maxRecDepth 20000 in
theorem gX11_cut_X3_firstTooFull : GoodIn wsX11_cut (wsV RX11 333 RX3 yX3_firstTooFull wsX3_firstTooFull) := goodIn_app (goodIn_of _ (by decide +kernel)) ggX11_cut_X3_firstTooFull
theorem dX11_cut_0 : decode cX11_cut 0 = .ok (.aload_n 0, 1) := by decide +kernel
theorem dX11_cut_1 : decode cX11_cut 1 = .ok (.getfield 12, 3) := by decide +kernel
theorem dX11_cut_4 : decode cX11_cut 4 = .ok (.getfield 135, 3) := by decide +kernel
theorem dX11_cut_7 : decode cX11_cut 7 = .ok (.invokevirtual 330, 3) := by decide +kernel
theorem dX11_cut_10 : decode cX11_cut 10 = .ok (.istore_n 1, 1) := by decide +kernel
theorem dX11_cut_11 : decode cX11_cut 11 = .ok (.iload_n 1, 1) := by decide +kernel
theorem dX11_cut_12 : decode cX11_cut 12 = .ok (.ifCond .gt 7, 3) := by decide +kernel
theorem dX11_cut_15 : decode cX11_cut 15 = .ok (.iconst 0, 1) := by decide +kernel
theorem dX11_cut_16 : decode cX11_cut 16 = .ok (.goto 16, 3) := by decide +kernel
theorem dX11_cut_19 : decode cX11_cut 19 = .ok (.aload_n 0, 1) := by decide +kernel
theorem dX11_cut_20 : decode cX11_cut 20 = .ok (.getfield 12, 3) := by decide +kernel
theorem dX11_cut_23 : decode cX11_cut 23 = .ok (.getfield 135, 3) := by decide +kernel
theorem dX11_cut_26 : decode cX11_cut 26 = .ok (.iload_n 1, 1) := by decide +kernel
theorem dX11_cut_27 : decode cX11_cut 27 = .ok (.iconst 1, 1) := by decide +kernel
theorem dX11_cut_28 : decode cX11_cut 28 = .ok (.isub, 1) := by decide +kernel
theorem dX11_cut_29 : decode cX11_cut 29 = .ok (.invokevirtual 333, 3) := by decide +kernel
theorem dX11_cut_32 : decode cX11_cut 32 = .ok (.ireturn, 1) := by decide +kernel
set_option maxRecDepth 20000 in
theorem ggX11_line_X11_needPlace : GoodIn wsX11_line wsX11_needPlace := goodIn_ca (goodIn_r _ [6, 7, 8] (by decide +kernel) (by decide +kernel)) (goodIn_sub (fun _ h => List.mem_cons_of_mem _ (List.mem_append_right _ h)) (by decide +kernel))
set_option maxRecDepth 20000 in
theorem gX11_line_X11_needPlace : GoodIn wsX11_line (va_wsS RX11 79 yX11_needPlace wsX11_needPlace) := goodIn_app (goodIn_of _ (by decide +kernel)) ggX11_line_X11_needPlace
set_option maxRecDepth 20000 in
theorem ggX11_line_X0_lengthOf : GoodIn wsX11_line wsX0_lengthOf := goodIn_r _ [13, 14, 29, 30, 31, 32, 33, 34, 35] (by decide +kernel) (by decide +kernel)
set_option maxRecDepth 20000 in
theorem gX11_line_X0_lengthOf : GoodIn wsX11_line (wsV RX11 336 RX0 yX0_lengthOf wsX0_lengthOf) := goodIn_app (goodIn_of _ (by decide +kernel)) ggX11_line_X0_lengthOf
theorem dX11_line_0 : decode cX11_line 0 = .ok (.iload_n 1, 1) := by decide +kernel
theorem dX11_line_1 : decode cX11_line 1 = .ok (.iconst 3, 1) := by decide +kernel
theorem dX11_line_2 : decode cX11_line 2 = .ok (.invokestatic 79, 3) := by decide +kernel
theorem dX11_line_5 : decode cX11_line 5 = .ok (.aload_n 0, 1) := by decide +kernel
theorem dX11_line_6 : decode cX11_line 6 = .ok (.getfield 12, 3) := by decide +kernel
theorem dX11_line_9 : decode cX11_line 9 = .ok (.getfield 150, 3) := by decide +kernel
theorem dX11_line_12 : decode cX11_line 12 = .ok (.iload_n 1, 1) := by decide +kernel
theorem dX11_line_13 : decode cX11_line 13 = .ok (.invokevirtual 336, 3) := by decide +kernel
theorem dX11_line_16 : decode cX11_line 16 = .ok (.ireturn, 1) := by decide +kernel
set_option maxRecDepth 20000 in
theorem ggX11_front_X11_needPlace : GoodIn wsX11_front wsX11_needPlace := goodIn_ca (goodIn_r _ [9, 10, 11] (by decide +kernel) (by decide +kernel)) (goodIn_sub (fun _ h => List.mem_cons_of_mem _ (List.mem_append_right _ h)) (by decide +kernel))
set_option maxRecDepth 20000 in
theorem gX11_front_X11_needPlace : GoodIn wsX11_front (va_wsS RX11 79 yX11_needPlace wsX11_needPlace) := goodIn_app (goodIn_of _ (by decide +kernel)) ggX11_front_X11_needPlace
set_option maxRecDepth 20000 in
theorem ggX11_front_X0_firstOf : GoodIn wsX11_front wsX0_firstOf := goodIn_r _ [16, 17, 18, 19, 20, 21, 15, 22, 23, 38, 39, 40, 41, 42, 43, 44] (by decide +kernel) (by decide +kernel)
set_option maxRecDepth 20000 in
theorem gX11_front_X0_firstOf : GoodIn wsX11_front (wsV RX11 339 RX0 yX0_firstOf wsX0_firstOf) := goodIn_app (goodIn_of _ (by decide +kernel)) ggX11_front_X0_firstOf
theorem dX11_front_0 : decode cX11_front 0 = .ok (.iload_n 1, 1) := by decide +kernel
theorem dX11_front_1 : decode cX11_front 1 = .ok (.iconst 3, 1) := by decide +kernel
theorem dX11_front_2 : decode cX11_front 2 = .ok (.invokestatic 79, 3) := by decide +kernel
theorem dX11_front_5 : decode cX11_front 5 = .ok (.aload_n 0, 1) := by decide +kernel
theorem dX11_front_6 : decode cX11_front 6 = .ok (.getfield 12, 3) := by decide +kernel
theorem dX11_front_9 : decode cX11_front 9 = .ok (.getfield 150, 3) := by decide +kernel
theorem dX11_front_12 : decode cX11_front 12 = .ok (.iload_n 1, 1) := by decide +kernel
theorem dX11_front_13 : decode cX11_front 13 = .ok (.invokevirtual 339, 3) := by decide +kernel
theorem dX11_front_16 : decode cX11_front 16 = .ok (.istore_n 3, 1) := by decide +kernel
theorem dX11_front_17 : decode cX11_front 17 = .ok (.iload_n 3, 1) := by decide +kernel
theorem dX11_front_18 : decode cX11_front 18 = .ok (.iconst (-1), 1) := by decide +kernel
theorem dX11_front_19 : decode cX11_front 19 = .ok (.if_icmp .ne 14, 3) := by decide +kernel
theorem dX11_front_22 : decode cX11_front 22 = .ok (.new 267, 3) := by decide +kernel
theorem dX11_front_25 : decode cX11_front 25 = .ok (.dup, 1) := by decide +kernel
theorem dX11_front_26 : decode cX11_front 26 = .ok (.ldc_w 342, 3) := by decide +kernel
theorem dX11_front_29 : decode cX11_front 29 = .ok (.invokespecial 271, 3) := by decide +kernel
theorem dX11_front_32 : decode cX11_front 32 = .ok (.athrow, 1) := by decide +kernel
theorem dX11_front_33 : decode cX11_front 33 = .ok (.iload_n 2, 1) := by decide +kernel
theorem dX11_front_34 : decode cX11_front 34 = .ok (.ifCond .eq 18, 3) := by decide +kernel
theorem dX11_front_37 : decode cX11_front 37 = .ok (.aload_n 0, 1) := by decide +kernel
theorem dX11_front_38 : decode cX11_front 38 = .ok (.getfield 12, 3) := by decide +kernel
theorem dX11_front_41 : decode cX11_front 41 = .ok (.getfield 150, 3) := by decide +kernel
theorem dX11_front_44 : decode cX11_front 44 = .ok (.getfield 344, 3) := by decide +kernel
theorem dX11_front_47 : decode cX11_front 47 = .ok (.iload_n 1, 1) := by decide +kernel
theorem dX11_front_48 : decode cX11_front 48 = .ok (.iaload, 1) := by decide +kernel
theorem dX11_front_49 : decode cX11_front 49 = .ok (.goto 4, 3) := by decide +kernel
theorem dX11_front_52 : decode cX11_front 52 = .ok (.iload_n 3, 1) := by decide +kernel
theorem dX11_front_53 : decode cX11_front 53 = .ok (.ireturn, 1) := by decide +kernel
set_option maxRecDepth 20000 in
theorem ggX11_waitOf_X11_needPlace : GoodIn wsX11_waitOf wsX11_needPlace := goodIn_ca (goodIn_r _ [6, 7, 8] (by decide +kernel) (by decide +kernel)) (goodIn_sub (fun _ h => List.mem_cons_of_mem _ (List.mem_append_right _ h)) (by decide +kernel))
set_option maxRecDepth 20000 in
theorem gX11_waitOf_X11_needPlace : GoodIn wsX11_waitOf (va_wsS RX11 79 yX11_needPlace wsX11_needPlace) := goodIn_app (goodIn_of _ (by decide +kernel)) ggX11_waitOf_X11_needPlace
set_option maxRecDepth 20000 in
theorem ggX11_waitOf_X0_minutesTill : GoodIn wsX11_waitOf wsX0_minutesTill := goodIn_r _ [13, 14, 15, 16, 17, 18, 19, 20, 12, 21, 22, 37, 38, 39, 40, 41, 42, 43] (by decide +kernel) (by decide +kernel)
set_option maxRecDepth 20000 in
theorem gX11_waitOf_X0_minutesTill : GoodIn wsX11_waitOf (wsV RX11 167 RX0 yX0_minutesTill wsX0_minutesTill) := goodIn_app (goodIn_of _ (by decide +kernel)) ggX11_waitOf_X0_minutesTill
theorem dX11_waitOf_0 : decode cX11_waitOf 0 = .ok (.iload_n 1, 1) := by decide +kernel
theorem dX11_waitOf_1 : decode cX11_waitOf 1 = .ok (.bipush 12, 2) := by decide +kernel
theorem dX11_waitOf_3 : decode cX11_waitOf 3 = .ok (.invokestatic 79, 3) := by decide +kernel
theorem dX11_waitOf_6 : decode cX11_waitOf 6 = .ok (.aload_n 0, 1) := by decide +kernel
theorem dX11_waitOf_7 : decode cX11_waitOf 7 = .ok (.getfield 12, 3) := by decide +kernel
theorem dX11_waitOf_10 : decode cX11_waitOf 10 = .ok (.getfield 150, 3) := by decide +kernel
theorem dX11_waitOf_13 : decode cX11_waitOf 13 = .ok (.iload_n 1, 1) := by decide +kernel
theorem dX11_waitOf_14 : decode cX11_waitOf 14 = .ok (.invokevirtual 167, 3) := by decide +kernel
theorem dX11_waitOf_17 : decode cX11_waitOf 17 = .ok (.ireturn, 1) := by decide +kernel
set_option maxRecDepth 20000 in
theorem ggX11_waits_X0_sumInOneLine : GoodIn wsX11_waits wsX0_sumInOneLine := goodIn_r _ [7, 8, 9, 10, 11, 12, 13, 14, 15, 6, 16, 17, 18, 19, 20, 21, 22, 23, 24, 25, 48, 49, 50, 51, 52, 53, 54] (by decide +kernel) (by decide +kernel)
set_option maxRecDepth 20000 in
theorem gX11_waits_X0_sumInOneLine : GoodIn wsX11_waits (wsV RX11 347 RX0 yX0_sumInOneLine wsX0_sumInOneLine) := goodIn_app (goodIn_of _ (by decide +kernel)) ggX11_waits_X0_sumInOneLine
set_option maxRecDepth 20000 in
theorem ggX11_waits_X0_sumInLines : GoodIn wsX11_waits wsX0_sumInLines := goodIn_r _ [29, 21, 30, 31, 32, 6, 33, 10, 11, 9, 12, 17, 18, 19, 20, 48, 49, 50, 51, 52, 53, 54] (by decide +kernel) (by decide +kernel)
set_option maxRecDepth 20000 in
theorem gX11_waits_X0_sumInLines : GoodIn wsX11_waits (wsV RX11 350 RX0 yX0_sumInLines wsX0_sumInLines) := goodIn_app (goodIn_of _ (by decide +kernel)) ggX11_waits_X0_sumInLines
theorem dX11_waits_0 : decode cX11_waits 0 = .ok (.iload_n 1, 1) := by decide +kernel
theorem dX11_waits_1 : decode cX11_waits 1 = .ok (.ifCond .eq 16, 3) := by decide +kernel
theorem dX11_waits_4 : decode cX11_waits 4 = .ok (.aload_n 0, 1) := by decide +kernel
theorem dX11_waits_5 : decode cX11_waits 5 = .ok (.getfield 12, 3) := by decide +kernel
theorem dX11_waits_8 : decode cX11_waits 8 = .ok (.getfield 150, 3) := by decide +kernel
theorem dX11_waits_11 : decode cX11_waits 11 = .ok (.invokevirtual 347, 3) := by decide +kernel
theorem dX11_waits_14 : decode cX11_waits 14 = .ok (.goto 13, 3) := by decide +kernel
theorem dX11_waits_17 : decode cX11_waits 17 = .ok (.aload_n 0, 1) := by decide +kernel
theorem dX11_waits_18 : decode cX11_waits 18 = .ok (.getfield 12, 3) := by decide +kernel
theorem dX11_waits_21 : decode cX11_waits 21 = .ok (.getfield 150, 3) := by decide +kernel
theorem dX11_waits_24 : decode cX11_waits 24 = .ok (.invokevirtual 350, 3) := by decide +kernel
theorem dX11_waits_27 : decode cX11_waits 27 = .ok (.ireturn, 1) := by decide +kernel
theorem dX11_served_0 : decode cX11_served 0 = .ok (.aload_n 0, 1) := by decide +kernel
theorem dX11_served_1 : decode cX11_served 1 = .ok (.getfield 12, 3) := by decide +kernel
theorem dX11_served_4 : decode cX11_served 4 = .ok (.getfield 150, 3) := by decide +kernel
theorem dX11_served_7 : decode cX11_served 7 = .ok (.getfield 175, 3) := by decide +kernel
theorem dX11_served_10 : decode cX11_served 10 = .ok (.ireturn, 1) := by decide +kernel
set_option maxRecDepth 20000 in
theorem ggX11_helpers_X11_needPlace : GoodIn wsX11_helpers wsX11_needPlace := goodIn_ca (goodIn_r _ [7, 8, 9] (by decide +kernel) (by decide +kernel)) (goodIn_sub (fun _ h => List.mem_cons_of_mem _ (List.mem_append_right _ h)) (by decide +kernel))
set_option maxRecDepth 20000 in
theorem gX11_helpers_X11_needPlace : GoodIn wsX11_helpers (va_wsS RX11 79 yX11_needPlace wsX11_needPlace) := goodIn_app (goodIn_of _ (by decide +kernel)) ggX11_helpers_X11_needPlace
set_option maxRecDepth 20000 in
theorem ggX11_helpers_X10_planStarts : GoodIn wsX11_helpers wsX10_planStarts := goodIn_r _ [14, 15, 16, 17, 18, 19, 20, 21, 22, 6, 23, 24, 25, 26, 13, 27, 28, 29, 30, 51, 52, 53, 54] (by decide +kernel) (by decide +kernel)
set_option maxRecDepth 20000 in
theorem gX11_helpers_X10_planStarts : GoodIn wsX11_helpers (wsV RX11 353 RX10 yX10_planStarts wsX10_planStarts) := goodIn_app (goodIn_of _ (by decide +kernel)) ggX11_helpers_X10_planStarts
set_option maxRecDepth 20000 in
theorem ggX11_helpers_X10_sumOfStarts : GoodIn wsX11_helpers wsX10_sumOfStarts := goodIn_r _ [34, 15, 35, 6, 36, 51, 52, 53, 54] (by decide +kernel) (by decide +kernel)
set_option maxRecDepth 20000 in
theorem gX11_helpers_X10_sumOfStarts : GoodIn wsX11_helpers (wsV RX11 356 RX10 yX10_sumOfStarts wsX10_sumOfStarts) := goodIn_app (goodIn_of _ (by decide +kernel)) ggX11_helpers_X10_sumOfStarts
theorem dX11_helpers_0 : decode cX11_helpers 0 = .ok (.iload_n 1, 1) := by decide +kernel
theorem dX11_helpers_1 : decode cX11_helpers 1 = .ok (.iconst (-1), 1) := by decide +kernel
theorem dX11_helpers_2 : decode cX11_helpers 2 = .ok (.if_icmp .eq 9, 3) := by decide +kernel
theorem dX11_helpers_5 : decode cX11_helpers 5 = .ok (.iload_n 1, 1) := by decide +kernel
theorem dX11_helpers_6 : decode cX11_helpers 6 = .ok (.bipush 24, 2) := by decide +kernel
theorem dX11_helpers_8 : decode cX11_helpers 8 = .ok (.invokestatic 79, 3) := by decide +kernel
theorem dX11_helpers_11 : decode cX11_helpers 11 = .ok (.aload_n 0, 1) := by decide +kernel
theorem dX11_helpers_12 : decode cX11_helpers 12 = .ok (.getfield 12, 3) := by decide +kernel
theorem dX11_helpers_15 : decode cX11_helpers 15 = .ok (.getfield 181, 3) := by decide +kernel
theorem dX11_helpers_18 : decode cX11_helpers 18 = .ok (.invokevirtual 353, 3) := by decide +kernel
theorem dX11_helpers_21 : decode cX11_helpers 21 = .ok (.iload_n 1, 1) := by decide +kernel
theorem dX11_helpers_22 : decode cX11_helpers 22 = .ok (.iconst (-1), 1) := by decide +kernel
theorem dX11_helpers_23 : decode cX11_helpers 23 = .ok (.if_icmp .ne 16, 3) := by decide +kernel
theorem dX11_helpers_26 : decode cX11_helpers 26 = .ok (.aload_n 0, 1) := by decide +kernel
theorem dX11_helpers_27 : decode cX11_helpers 27 = .ok (.getfield 12, 3) := by decide +kernel
theorem dX11_helpers_30 : decode cX11_helpers 30 = .ok (.getfield 181, 3) := by decide +kernel
theorem dX11_helpers_33 : decode cX11_helpers 33 = .ok (.invokevirtual 356, 3) := by decide +kernel
theorem dX11_helpers_36 : decode cX11_helpers 36 = .ok (.goto 15, 3) := by decide +kernel
theorem dX11_helpers_39 : decode cX11_helpers 39 = .ok (.aload_n 0, 1) := by decide +kernel
theorem dX11_helpers_40 : decode cX11_helpers 40 = .ok (.getfield 12, 3) := by decide +kernel
theorem dX11_helpers_43 : decode cX11_helpers 43 = .ok (.getfield 181, 3) := by decide +kernel
theorem dX11_helpers_46 : decode cX11_helpers 46 = .ok (.getfield 359, 3) := by decide +kernel
theorem dX11_helpers_49 : decode cX11_helpers 49 = .ok (.iload_n 1, 1) := by decide +kernel
theorem dX11_helpers_50 : decode cX11_helpers 50 = .ok (.iaload, 1) := by decide +kernel
theorem dX11_helpers_51 : decode cX11_helpers 51 = .ok (.ireturn, 1) := by decide +kernel
set_option maxRecDepth 20000 in
theorem ggX11_proof_X10_neediestHours : GoodIn wsX11_proof wsX10_neediestHours := goodIn_r _ [7, 8, 9, 10, 11, 12, 13, 14, 15, 16, 17, 18, 19, 20, 6, 21, 36, 37, 38, 39] (by decide +kernel) (by decide +kernel)
set_option maxRecDepth 20000 in
theorem gX11_proof_X10_neediestHours : GoodIn wsX11_proof (wsV RX11 360 RX10 yX10_neediestHours wsX10_neediestHours) := goodIn_app (goodIn_of _ (by decide +kernel)) ggX11_proof_X10_neediestHours
theorem dX11_proof_0 : decode cX11_proof 0 = .ok (.aload_n 0, 1) := by decide +kernel
theorem dX11_proof_1 : decode cX11_proof 1 = .ok (.getfield 12, 3) := by decide +kernel
theorem dX11_proof_4 : decode cX11_proof 4 = .ok (.getfield 181, 3) := by decide +kernel
theorem dX11_proof_7 : decode cX11_proof 7 = .ok (.invokevirtual 360, 3) := by decide +kernel
theorem dX11_proof_10 : decode cX11_proof 10 = .ok (.ireturn, 1) := by decide +kernel
set_option maxRecDepth 20000 in
theorem ggX11_cost_X6_planCosts : GoodIn wsX11_cost wsX6_planCosts := goodIn_r _ [7, 8, 9, 10, 11, 12, 13, 14, 15, 16, 6, 17, 18, 19, 20, 21, 22, 23, 24, 25, 26, 27, 28, 29, 30, 31, 32, 33, 34, 53, 54, 55, 56, 57, 58, 59, 60] (by decide +kernel) (by decide +kernel)
set_option maxRecDepth 20000 in
theorem gX11_cost_X6_planCosts : GoodIn wsX11_cost (wsV RX11 363 RX6 yX6_planCosts wsX6_planCosts) := goodIn_app (goodIn_of _ (by decide +kernel)) ggX11_cost_X6_planCosts
set_option maxRecDepth 20000 in
theorem ggX11_cost_X6_leastCost : GoodIn wsX11_cost wsX6_leastCost := goodIn_r _ [38, 14, 25, 53, 54, 55, 56, 57, 58, 59, 60] (by decide +kernel) (by decide +kernel)
set_option maxRecDepth 20000 in
theorem gX11_cost_X6_leastCost : GoodIn wsX11_cost (wsV RX11 366 RX6 yX6_leastCost wsX6_leastCost) := goodIn_app (goodIn_of _ (by decide +kernel)) ggX11_cost_X6_leastCost
theorem dX11_cost_0 : decode cX11_cost 0 = .ok (.aload_n 0, 1) := by decide +kernel
theorem dX11_cost_1 : decode cX11_cost 1 = .ok (.getfield 12, 3) := by decide +kernel
theorem dX11_cost_4 : decode cX11_cost 4 = .ok (.getfield 193, 3) := by decide +kernel
theorem dX11_cost_7 : decode cX11_cost 7 = .ok (.invokevirtual 363, 3) := by decide +kernel
theorem dX11_cost_10 : decode cX11_cost 10 = .ok (.aload_n 0, 1) := by decide +kernel
theorem dX11_cost_11 : decode cX11_cost 11 = .ok (.getfield 12, 3) := by decide +kernel
theorem dX11_cost_14 : decode cX11_cost 14 = .ok (.getfield 193, 3) := by decide +kernel
theorem dX11_cost_17 : decode cX11_cost 17 = .ok (.invokevirtual 366, 3) := by decide +kernel
theorem dX11_cost_20 : decode cX11_cost 20 = .ok (.ireturn, 1) := by decide +kernel
set_option maxRecDepth 20000 in
theorem ggX11_isOn_X11_needPlace : GoodIn wsX11_isOn wsX11_needPlace := goodIn_ca (goodIn_r _ [8, 9, 10] (by decide +kernel) (by decide +kernel)) (goodIn_sub (fun _ h => List.mem_cons_of_mem _ (List.mem_append_right _ h)) (by decide +kernel))
set_option maxRecDepth 20000 in
theorem gX11_isOn_X11_needPlace : GoodIn wsX11_isOn (va_wsS RX11 79 yX11_needPlace wsX11_needPlace) := goodIn_app (goodIn_of _ (by decide +kernel)) ggX11_isOn_X11_needPlace
set_option maxRecDepth 20000 in
theorem ggX11_isOn_X6_planCosts : GoodIn wsX11_isOn wsX6_planCosts := goodIn_r _ [15, 16, 17, 18, 19, 20, 21, 22, 23, 24, 14, 25, 26, 7, 27, 28, 29, 30, 31, 32, 33, 34, 35, 36, 37, 38, 39, 40, 41, 64, 65, 66, 67, 68, 69, 70, 71] (by decide +kernel) (by decide +kernel)
set_option maxRecDepth 20000 in
theorem gX11_isOn_X6_planCosts : GoodIn wsX11_isOn (wsV RX11 363 RX6 yX6_planCosts wsX6_planCosts) := goodIn_app (goodIn_of _ (by decide +kernel)) ggX11_isOn_X6_planCosts
set_option maxRecDepth 20000 in
theorem ggX11_isOn_X6_leastCost : GoodIn wsX11_isOn wsX6_leastCost := goodIn_r _ [45, 22, 32, 64, 65, 66, 67, 68, 69, 70, 71] (by decide +kernel) (by decide +kernel)
set_option maxRecDepth 20000 in
theorem gX11_isOn_X6_leastCost : GoodIn wsX11_isOn (wsV RX11 366 RX6 yX6_leastCost wsX6_leastCost) := goodIn_app (goodIn_of _ (by decide +kernel)) ggX11_isOn_X6_leastCost
set_option maxRecDepth 20000 in
theorem ggX11_isOn_X6_setAt : GoodIn wsX11_isOn wsX6_setAt := goodIn_r _ [49, 28, 29, 30, 14, 31, 32, 33, 34, 35, 36, 17, 37, 21, 19, 22, 38, 39, 40, 41, 64, 65, 66, 67, 68, 69, 70, 71] (by decide +kernel) (by decide +kernel)
set_option maxRecDepth 20000 in
theorem gX11_isOn_X6_setAt : GoodIn wsX11_isOn (wsV RX11 371 RX6 yX6_setAt wsX6_setAt) := goodIn_app (goodIn_of _ (by decide +kernel)) ggX11_isOn_X6_setAt
theorem dX11_isOn_0 : decode cX11_isOn 0 = .ok (.iload_n 1, 1) := by decide +kernel
theorem dX11_isOn_1 : decode cX11_isOn 1 = .ok (.bipush 24, 2) := by decide +kernel
theorem dX11_isOn_3 : decode cX11_isOn 3 = .ok (.invokestatic 79, 3) := by decide +kernel
theorem dX11_isOn_6 : decode cX11_isOn 6 = .ok (.aload_n 0, 1) := by decide +kernel
theorem dX11_isOn_7 : decode cX11_isOn 7 = .ok (.getfield 12, 3) := by decide +kernel
theorem dX11_isOn_10 : decode cX11_isOn 10 = .ok (.getfield 193, 3) := by decide +kernel
theorem dX11_isOn_13 : decode cX11_isOn 13 = .ok (.invokevirtual 363, 3) := by decide +kernel
theorem dX11_isOn_16 : decode cX11_isOn 16 = .ok (.aload_n 0, 1) := by decide +kernel
theorem dX11_isOn_17 : decode cX11_isOn 17 = .ok (.getfield 12, 3) := by decide +kernel
theorem dX11_isOn_20 : decode cX11_isOn 20 = .ok (.getfield 193, 3) := by decide +kernel
theorem dX11_isOn_23 : decode cX11_isOn 23 = .ok (.invokevirtual 366, 3) := by decide +kernel
theorem dX11_isOn_26 : decode cX11_isOn 26 = .ok (.iconst (-1), 1) := by decide +kernel
theorem dX11_isOn_27 : decode cX11_isOn 27 = .ok (.if_icmp .ne 14, 3) := by decide +kernel
theorem dX11_isOn_30 : decode cX11_isOn 30 = .ok (.new 267, 3) := by decide +kernel
theorem dX11_isOn_33 : decode cX11_isOn 33 = .ok (.dup, 1) := by decide +kernel
theorem dX11_isOn_34 : decode cX11_isOn 34 = .ok (.ldc_w 369, 3) := by decide +kernel
theorem dX11_isOn_37 : decode cX11_isOn 37 = .ok (.invokespecial 271, 3) := by decide +kernel
theorem dX11_isOn_40 : decode cX11_isOn 40 = .ok (.athrow, 1) := by decide +kernel
theorem dX11_isOn_41 : decode cX11_isOn 41 = .ok (.aload_n 0, 1) := by decide +kernel
theorem dX11_isOn_42 : decode cX11_isOn 42 = .ok (.getfield 12, 3) := by decide +kernel
theorem dX11_isOn_45 : decode cX11_isOn 45 = .ok (.getfield 193, 3) := by decide +kernel
theorem dX11_isOn_48 : decode cX11_isOn 48 = .ok (.iload_n 1, 1) := by decide +kernel
theorem dX11_isOn_49 : decode cX11_isOn 49 = .ok (.invokevirtual 371, 3) := by decide +kernel
theorem dX11_isOn_52 : decode cX11_isOn 52 = .ok (.ireturn, 1) := by decide +kernel
set_option maxRecDepth 20000 in
theorem ggX11_rain_X11_needRange : GoodIn wsX11_rain wsX11_needRange := goodIn_ca (goodIn_r _ [7, 8, 9] (by decide +kernel) (by decide +kernel)) (goodIn_sub (fun _ h => List.mem_cons_of_mem _ (List.mem_append_right _ h)) (by decide +kernel))
set_option maxRecDepth 20000 in
theorem gX11_rain_X11_needRange : GoodIn wsX11_rain (va_wsS RX11 92 yX11_needRange wsX11_needRange) := goodIn_app (goodIn_of _ (by decide +kernel)) ggX11_rain_X11_needRange
set_option maxRecDepth 20000 in
theorem ggX11_rain_X9_countMet : GoodIn wsX11_rain wsX9_countMet := goodIn_r _ [14, 15, 16, 17, 13, 18, 19, 20, 21, 22, 23, 24, 25, 26, 27, 28, 29, 30, 31, 32, 33, 34, 35, 36, 37, 38, 39, 40, 41, 42, 43, 44, 45, 46, 47, 84, 85, 86, 87, 88, 89, 90, 91, 92, 93, 94, 95, 96, 97, 98, 99, 100, 101, 102, 103] (by decide +kernel) (by decide +kernel)
set_option maxRecDepth 20000 in
theorem gX11_rain_X9_countMet : GoodIn wsX11_rain (wsV RX11 374 RX9 yX9_countMet wsX9_countMet) := goodIn_app (goodIn_of _ (by decide +kernel)) ggX11_rain_X9_countMet
set_option maxRecDepth 20000 in
theorem ggX11_rain_X9_make : GoodIn wsX11_rain wsX9_make := goodIn_r _ [51, 52, 53, 54, 55, 56, 57, 6, 58, 15, 16, 17, 13, 18, 19, 20, 21, 22, 23, 24, 25, 26, 27, 28, 29, 30, 31, 32, 33, 34, 35, 36, 37, 38, 39, 40, 41, 42, 43, 44, 45, 46, 47, 59, 60, 61, 62, 63, 64, 65, 66, 67, 68, 69, 70, 71, 72, 73, 74, 75, 76, 77, 84, 85, 86, 87, 88, 89, 90, 91, 92, 93, 94, 95, 96, 97, 98, 99, 100, 101, 102, 103] (by decide +kernel) (by decide +kernel)
set_option maxRecDepth 20000 in
theorem gX11_rain_X9_make : GoodIn wsX11_rain (wsV RX11 379 RX9 yX9_make wsX9_make) := goodIn_app (goodIn_of _ (by decide +kernel)) ggX11_rain_X9_make
theorem dX11_rain_0 : decode cX11_rain 0 = .ok (.iload_n 1, 1) := by decide +kernel
theorem dX11_rain_1 : decode cX11_rain 1 = .ok (.iconst 0, 1) := by decide +kernel
theorem dX11_rain_2 : decode cX11_rain 2 = .ok (.sipush 5759, 3) := by decide +kernel
theorem dX11_rain_5 : decode cX11_rain 5 = .ok (.invokestatic 92, 3) := by decide +kernel
theorem dX11_rain_8 : decode cX11_rain 8 = .ok (.iload_n 2, 1) := by decide +kernel
theorem dX11_rain_9 : decode cX11_rain 9 = .ok (.iload_n 1, 1) := by decide +kernel
theorem dX11_rain_10 : decode cX11_rain 10 = .ok (.iconst 1, 1) := by decide +kernel
theorem dX11_rain_11 : decode cX11_rain 11 = .ok (.iadd, 1) := by decide +kernel
theorem dX11_rain_12 : decode cX11_rain 12 = .ok (.sipush 5760, 3) := by decide +kernel
theorem dX11_rain_15 : decode cX11_rain 15 = .ok (.invokestatic 92, 3) := by decide +kernel
theorem dX11_rain_18 : decode cX11_rain 18 = .ok (.aload_n 0, 1) := by decide +kernel
theorem dX11_rain_19 : decode cX11_rain 19 = .ok (.getfield 40, 3) := by decide +kernel
theorem dX11_rain_22 : decode cX11_rain 22 = .ok (.iload_n 1, 1) := by decide +kernel
theorem dX11_rain_23 : decode cX11_rain 23 = .ok (.iload_n 2, 1) := by decide +kernel
theorem dX11_rain_24 : decode cX11_rain 24 = .ok (.invokevirtual 374, 3) := by decide +kernel
theorem dX11_rain_27 : decode cX11_rain 27 = .ok (.bipush 6, 2) := by decide +kernel
theorem dX11_rain_29 : decode cX11_rain 29 = .ok (.if_icmp .le 14, 3) := by decide +kernel
theorem dX11_rain_32 : decode cX11_rain 32 = .ok (.new 108, 3) := by decide +kernel
theorem dX11_rain_35 : decode cX11_rain 35 = .ok (.dup, 1) := by decide +kernel
theorem dX11_rain_36 : decode cX11_rain 36 = .ok (.ldc_w 377, 3) := by decide +kernel
theorem dX11_rain_39 : decode cX11_rain 39 = .ok (.invokespecial 112, 3) := by decide +kernel
theorem dX11_rain_42 : decode cX11_rain 42 = .ok (.athrow, 1) := by decide +kernel
theorem dX11_rain_43 : decode cX11_rain 43 = .ok (.aload_n 0, 1) := by decide +kernel
theorem dX11_rain_44 : decode cX11_rain 44 = .ok (.getfield 40, 3) := by decide +kernel
theorem dX11_rain_47 : decode cX11_rain 47 = .ok (.iload_n 1, 1) := by decide +kernel
theorem dX11_rain_48 : decode cX11_rain 48 = .ok (.iload_n 2, 1) := by decide +kernel
theorem dX11_rain_49 : decode cX11_rain 49 = .ok (.invokevirtual 379, 3) := by decide +kernel
theorem dX11_rain_52 : decode cX11_rain 52 = .ok (.ireturn, 1) := by decide +kernel
set_option maxRecDepth 20000 in
theorem ggX11_movedTo_X11_needAct : GoodIn wsX11_movedTo wsX11_needAct := goodIn_ca (goodIn_r _ [8, 9, 10, 11, 12, 13, 14, 15, 16, 17, 18, 19, 20, 21, 22, 23, 24, 33, 34, 35, 36, 37, 38, 39, 40, 41, 42, 43, 44, 45, 46, 47, 48] (by decide +kernel) (by decide +kernel)) (goodIn_sub (fun _ h => List.mem_cons_of_mem _ (List.mem_append_right _ h)) (by decide +kernel))
set_option maxRecDepth 20000 in
theorem gX11_movedTo_X11_needAct : GoodIn wsX11_movedTo (wsV RX11 117 RX11 yX11_needAct wsX11_needAct) := goodIn_app (goodIn_of _ (by decide +kernel)) ggX11_movedTo_X11_needAct
theorem dX11_movedTo_0 : decode cX11_movedTo 0 = .ok (.aload_n 0, 1) := by decide +kernel
theorem dX11_movedTo_1 : decode cX11_movedTo 1 = .ok (.iload_n 1, 1) := by decide +kernel
theorem dX11_movedTo_2 : decode cX11_movedTo 2 = .ok (.invokevirtual 117, 3) := by decide +kernel
theorem dX11_movedTo_5 : decode cX11_movedTo 5 = .ok (.aload_n 0, 1) := by decide +kernel
theorem dX11_movedTo_6 : decode cX11_movedTo 6 = .ok (.getfield 40, 3) := by decide +kernel
theorem dX11_movedTo_9 : decode cX11_movedTo 9 = .ok (.getfield 211, 3) := by decide +kernel
theorem dX11_movedTo_12 : decode cX11_movedTo 12 = .ok (.ifCond .eq 15, 3) := by decide +kernel
theorem dX11_movedTo_15 : decode cX11_movedTo 15 = .ok (.aload_n 0, 1) := by decide +kernel
theorem dX11_movedTo_16 : decode cX11_movedTo 16 = .ok (.getfield 40, 3) := by decide +kernel
theorem dX11_movedTo_19 : decode cX11_movedTo 19 = .ok (.getfield 382, 3) := by decide +kernel
theorem dX11_movedTo_22 : decode cX11_movedTo 22 = .ok (.iload_n 1, 1) := by decide +kernel
theorem dX11_movedTo_23 : decode cX11_movedTo 23 = .ok (.iaload, 1) := by decide +kernel
theorem dX11_movedTo_24 : decode cX11_movedTo 24 = .ok (.goto 4, 3) := by decide +kernel
theorem dX11_movedTo_27 : decode cX11_movedTo 27 = .ok (.iconst (-1), 1) := by decide +kernel
theorem dX11_movedTo_28 : decode cX11_movedTo 28 = .ok (.ireturn, 1) := by decide +kernel
set_option maxRecDepth 20000 in
theorem ggX11_ticketAt_X11_needPlace : GoodIn wsX11_ticketAt wsX11_needPlace := goodIn_ca (goodIn_r _ [7, 8, 9] (by decide +kernel) (by decide +kernel)) (goodIn_sub (fun _ h => List.mem_cons_of_mem _ (List.mem_append_right _ h)) (by decide +kernel))
set_option maxRecDepth 20000 in
theorem gX11_ticketAt_X11_needPlace : GoodIn wsX11_ticketAt (va_wsS RX11 79 yX11_needPlace wsX11_needPlace) := goodIn_app (goodIn_of _ (by decide +kernel)) ggX11_ticketAt_X11_needPlace
theorem dX11_ticketAt_0 : decode cX11_ticketAt 0 = .ok (.iload_n 1, 1) := by decide +kernel
theorem dX11_ticketAt_1 : decode cX11_ticketAt 1 = .ok (.bipush 12, 2) := by decide +kernel
theorem dX11_ticketAt_3 : decode cX11_ticketAt 3 = .ok (.invokestatic 79, 3) := by decide +kernel
theorem dX11_ticketAt_6 : decode cX11_ticketAt 6 = .ok (.iload_n 2, 1) := by decide +kernel
theorem dX11_ticketAt_7 : decode cX11_ticketAt 7 = .ok (.iconst 4, 1) := by decide +kernel
theorem dX11_ticketAt_8 : decode cX11_ticketAt 8 = .ok (.invokestatic 79, 3) := by decide +kernel
theorem dX11_ticketAt_11 : decode cX11_ticketAt 11 = .ok (.aload_n 0, 1) := by decide +kernel
theorem dX11_ticketAt_12 : decode cX11_ticketAt 12 = .ok (.getfield 12, 3) := by decide +kernel
theorem dX11_ticketAt_15 : decode cX11_ticketAt 15 = .ok (.getfield 226, 3) := by decide +kernel
theorem dX11_ticketAt_18 : decode cX11_ticketAt 18 = .ok (.getfield 385, 3) := by decide +kernel
theorem dX11_ticketAt_21 : decode cX11_ticketAt 21 = .ok (.iload_n 1, 1) := by decide +kernel
theorem dX11_ticketAt_22 : decode cX11_ticketAt 22 = .ok (.iconst 4, 1) := by decide +kernel
theorem dX11_ticketAt_23 : decode cX11_ticketAt 23 = .ok (.imul, 1) := by decide +kernel
theorem dX11_ticketAt_24 : decode cX11_ticketAt 24 = .ok (.iload_n 2, 1) := by decide +kernel
theorem dX11_ticketAt_25 : decode cX11_ticketAt 25 = .ok (.iadd, 1) := by decide +kernel
theorem dX11_ticketAt_26 : decode cX11_ticketAt 26 = .ok (.iaload, 1) := by decide +kernel
theorem dX11_ticketAt_27 : decode cX11_ticketAt 27 = .ok (.ireturn, 1) := by decide +kernel
set_option maxRecDepth 20000 in
theorem ggX11_balance_X11_needRange : GoodIn wsX11_balance wsX11_needRange := goodIn_ca (goodIn_r _ [9, 10, 11] (by decide +kernel) (by decide +kernel)) (goodIn_sub (fun _ h => List.mem_cons_of_mem _ (List.mem_append_left _ (List.mem_append_right _ h))) (by decide +kernel))
set_option maxRecDepth 20000 in
theorem gX11_balance_X11_needRange : GoodIn wsX11_balance (va_wsS RX11 92 yX11_needRange wsX11_needRange) := goodIn_app (goodIn_of _ (by decide +kernel)) ggX11_balance_X11_needRange
set_option maxRecDepth 20000 in
theorem ggX11_balance_X11_needPlace : GoodIn wsX11_balance wsX11_needPlace := goodIn_ca (goodIn_r _ [14, 15, 16] (by decide +kernel) (by decide +kernel)) (goodIn_sub (fun _ h => List.mem_cons_of_mem _ (List.mem_append_right _ h)) (by decide +kernel))
set_option maxRecDepth 20000 in
theorem gX11_balance_X11_needPlace : GoodIn wsX11_balance (va_wsS RX11 79 yX11_needPlace wsX11_needPlace) := goodIn_app (goodIn_of _ (by decide +kernel)) ggX11_balance_X11_needPlace
theorem dX11_balance_0 : decode cX11_balance 0 = .ok (.iload_n 1, 1) := by decide +kernel
theorem dX11_balance_1 : decode cX11_balance 1 = .ok (.iconst 0, 1) := by decide +kernel
theorem dX11_balance_2 : decode cX11_balance 2 = .ok (.iconst 2, 1) := by decide +kernel
theorem dX11_balance_3 : decode cX11_balance 3 = .ok (.invokestatic 92, 3) := by decide +kernel
theorem dX11_balance_6 : decode cX11_balance 6 = .ok (.iload_n 1, 1) := by decide +kernel
theorem dX11_balance_7 : decode cX11_balance 7 = .ok (.ifCond .ne 20, 3) := by decide +kernel
theorem dX11_balance_10 : decode cX11_balance 10 = .ok (.iload_n 2, 1) := by decide +kernel
theorem dX11_balance_11 : decode cX11_balance 11 = .ok (.iconst 0, 1) := by decide +kernel
theorem dX11_balance_12 : decode cX11_balance 12 = .ok (.iconst 0, 1) := by decide +kernel
theorem dX11_balance_13 : decode cX11_balance 13 = .ok (.invokestatic 92, 3) := by decide +kernel
theorem dX11_balance_16 : decode cX11_balance 16 = .ok (.aload_n 0, 1) := by decide +kernel
theorem dX11_balance_17 : decode cX11_balance 17 = .ok (.getfield 12, 3) := by decide +kernel
theorem dX11_balance_20 : decode cX11_balance 20 = .ok (.getfield 226, 3) := by decide +kernel
theorem dX11_balance_23 : decode cX11_balance 23 = .ok (.getfield 388, 3) := by decide +kernel
theorem dX11_balance_26 : decode cX11_balance 26 = .ok (.lreturn, 1) := by decide +kernel
theorem dX11_balance_27 : decode cX11_balance 27 = .ok (.iload_n 1, 1) := by decide +kernel
theorem dX11_balance_28 : decode cX11_balance 28 = .ok (.iconst 1, 1) := by decide +kernel
theorem dX11_balance_29 : decode cX11_balance 29 = .ok (.if_icmp .ne 22, 3) := by decide +kernel
theorem dX11_balance_32 : decode cX11_balance 32 = .ok (.iload_n 2, 1) := by decide +kernel
theorem dX11_balance_33 : decode cX11_balance 33 = .ok (.bipush 12, 2) := by decide +kernel
theorem dX11_balance_35 : decode cX11_balance 35 = .ok (.invokestatic 79, 3) := by decide +kernel
theorem dX11_balance_38 : decode cX11_balance 38 = .ok (.aload_n 0, 1) := by decide +kernel
theorem dX11_balance_39 : decode cX11_balance 39 = .ok (.getfield 12, 3) := by decide +kernel
theorem dX11_balance_42 : decode cX11_balance 42 = .ok (.getfield 226, 3) := by decide +kernel
theorem dX11_balance_45 : decode cX11_balance 45 = .ok (.getfield 392, 3) := by decide +kernel
theorem dX11_balance_48 : decode cX11_balance 48 = .ok (.iload_n 2, 1) := by decide +kernel
theorem dX11_balance_49 : decode cX11_balance 49 = .ok (.laload, 1) := by decide +kernel
theorem dX11_balance_50 : decode cX11_balance 50 = .ok (.lreturn, 1) := by decide +kernel
theorem dX11_balance_51 : decode cX11_balance 51 = .ok (.iload_n 2, 1) := by decide +kernel
theorem dX11_balance_52 : decode cX11_balance 52 = .ok (.bipush 12, 2) := by decide +kernel
theorem dX11_balance_54 : decode cX11_balance 54 = .ok (.invokestatic 79, 3) := by decide +kernel
theorem dX11_balance_57 : decode cX11_balance 57 = .ok (.aload_n 0, 1) := by decide +kernel
theorem dX11_balance_58 : decode cX11_balance 58 = .ok (.getfield 12, 3) := by decide +kernel
theorem dX11_balance_61 : decode cX11_balance 61 = .ok (.getfield 226, 3) := by decide +kernel
theorem dX11_balance_64 : decode cX11_balance 64 = .ok (.getfield 396, 3) := by decide +kernel
theorem dX11_balance_67 : decode cX11_balance 67 = .ok (.iload_n 2, 1) := by decide +kernel
theorem dX11_balance_68 : decode cX11_balance 68 = .ok (.laload, 1) := by decide +kernel
theorem dX11_balance_69 : decode cX11_balance 69 = .ok (.lreturn, 1) := by decide +kernel
set_option maxRecDepth 20000 in
theorem ggX11_lost_X4_countLost : GoodIn wsX11_lost wsX4_countLost := goodIn_r _ [7, 8, 23, 24, 25, 26] (by decide +kernel) (by decide +kernel)
set_option maxRecDepth 20000 in
theorem gX11_lost_X4_countLost : GoodIn wsX11_lost (wsV RX11 261 RX4 yX4_countLost wsX4_countLost) := goodIn_app (goodIn_of _ (by decide +kernel)) ggX11_lost_X4_countLost
theorem dX11_lost_0 : decode cX11_lost 0 = .ok (.aload_n 0, 1) := by decide +kernel
theorem dX11_lost_1 : decode cX11_lost 1 = .ok (.getfield 12, 3) := by decide +kernel
theorem dX11_lost_4 : decode cX11_lost 4 = .ok (.getfield 22, 3) := by decide +kernel
theorem dX11_lost_7 : decode cX11_lost 7 = .ok (.invokevirtual 261, 3) := by decide +kernel
theorem dX11_lost_10 : decode cX11_lost 10 = .ok (.ireturn, 1) := by decide +kernel
set_option maxRecDepth 20000 in
theorem ggX11_meanEvening_X11_needPlace : GoodIn wsX11_meanEvening wsX11_needPlace := goodIn_ca (goodIn_r _ [6, 7, 8] (by decide +kernel) (by decide +kernel)) (goodIn_sub (fun _ h => List.mem_cons_of_mem _ (List.mem_append_right _ h)) (by decide +kernel))
set_option maxRecDepth 20000 in
theorem gX11_meanEvening_X11_needPlace : GoodIn wsX11_meanEvening (va_wsS RX11 79 yX11_needPlace wsX11_needPlace) := goodIn_app (goodIn_of _ (by decide +kernel)) ggX11_meanEvening_X11_needPlace
set_option maxRecDepth 20000 in
theorem ggX11_meanEvening_X2_planFor : GoodIn wsX11_meanEvening wsX2_planFor := goodIn_r _ [13, 14, 15, 16, 17, 5, 18, 19, 20, 21, 22, 23, 24, 25, 26, 27, 28, 29, 30, 31, 32, 33, 34, 35, 36, 37, 38, 39, 40, 41, 12, 42, 43, 44, 45, 46, 47, 48, 49, 50, 51, 52, 53, 54, 55, 56, 57, 58, 59, 60, 61, 62, 63, 64, 65, 66, 67, 68, 69, 70, 101, 102, 103, 104, 105, 106, 107, 108, 109, 110, 111, 112, 113, 114, 115, 116] (by decide +kernel) (by decide +kernel)
set_option maxRecDepth 20000 in
theorem gX11_meanEvening_X2_planFor : GoodIn wsX11_meanEvening (wsV RX11 313 RX2 yX2_planFor wsX2_planFor) := goodIn_app (goodIn_of _ (by decide +kernel)) ggX11_meanEvening_X2_planFor
set_option maxRecDepth 20000 in
theorem ggX11_meanEvening_X2_weightOn : GoodIn wsX11_meanEvening wsX2_weightOn := goodIn_r _ [74, 16, 14, 75, 76, 77, 12, 78, 15, 79, 80, 81, 82, 83, 84, 85, 86, 48, 49, 50, 22, 51, 24, 25, 26, 27, 28, 29, 34, 35, 36, 37, 38, 87, 88, 89, 90, 91, 92, 93, 94, 43, 44, 45, 46, 47, 52, 31, 32, 33, 53, 54, 55, 56, 57, 58, 59, 60, 61, 62, 63, 64, 65, 66, 67, 68, 101, 102, 103, 104, 105, 106, 107, 108, 109, 110, 111, 112, 113, 114, 115, 116] (by decide +kernel) (by decide +kernel)
set_option maxRecDepth 20000 in
theorem gX11_meanEvening_X2_weightOn : GoodIn wsX11_meanEvening (wsV RX11 316 RX2 yX2_weightOn wsX2_weightOn) := goodIn_app (goodIn_of _ (by decide +kernel)) ggX11_meanEvening_X2_weightOn
theorem dX11_meanEvening_0 : decode cX11_meanEvening 0 = .ok (.iload_n 1, 1) := by decide +kernel
theorem dX11_meanEvening_1 : decode cX11_meanEvening 1 = .ok (.iconst 4, 1) := by decide +kernel
theorem dX11_meanEvening_2 : decode cX11_meanEvening 2 = .ok (.invokestatic 79, 3) := by decide +kernel
theorem dX11_meanEvening_5 : decode cX11_meanEvening 5 = .ok (.iconst 0, 1) := by decide +kernel
theorem dX11_meanEvening_6 : decode cX11_meanEvening 6 = .ok (.istore_n 2, 1) := by decide +kernel
theorem dX11_meanEvening_7 : decode cX11_meanEvening 7 = .ok (.iconst 0, 1) := by decide +kernel
theorem dX11_meanEvening_8 : decode cX11_meanEvening 8 = .ok (.istore_n 3, 1) := by decide +kernel
theorem dX11_meanEvening_9 : decode cX11_meanEvening 9 = .ok (.iload_n 3, 1) := by decide +kernel
theorem dX11_meanEvening_10 : decode cX11_meanEvening 10 = .ok (.bipush 12, 2) := by decide +kernel
theorem dX11_meanEvening_12 : decode cX11_meanEvening 12 = .ok (.if_icmp .ge 28, 3) := by decide +kernel
theorem dX11_meanEvening_15 : decode cX11_meanEvening 15 = .ok (.aload_n 0, 1) := by decide +kernel
theorem dX11_meanEvening_16 : decode cX11_meanEvening 16 = .ok (.getfield 33, 3) := by decide +kernel
theorem dX11_meanEvening_19 : decode cX11_meanEvening 19 = .ok (.iload_n 3, 1) := by decide +kernel
theorem dX11_meanEvening_20 : decode cX11_meanEvening 20 = .ok (.invokevirtual 313, 3) := by decide +kernel
theorem dX11_meanEvening_23 : decode cX11_meanEvening 23 = .ok (.iload_n 2, 1) := by decide +kernel
theorem dX11_meanEvening_24 : decode cX11_meanEvening 24 = .ok (.aload_n 0, 1) := by decide +kernel
theorem dX11_meanEvening_25 : decode cX11_meanEvening 25 = .ok (.getfield 33, 3) := by decide +kernel
theorem dX11_meanEvening_28 : decode cX11_meanEvening 28 = .ok (.iload_n 1, 1) := by decide +kernel
theorem dX11_meanEvening_29 : decode cX11_meanEvening 29 = .ok (.invokevirtual 316, 3) := by decide +kernel
theorem dX11_meanEvening_32 : decode cX11_meanEvening 32 = .ok (.iadd, 1) := by decide +kernel
theorem dX11_meanEvening_33 : decode cX11_meanEvening 33 = .ok (.istore_n 2, 1) := by decide +kernel
theorem dX11_meanEvening_34 : decode cX11_meanEvening 34 = .ok (.iinc 3 1, 3) := by decide +kernel
theorem dX11_meanEvening_37 : decode cX11_meanEvening 37 = .ok (.goto (-28), 3) := by decide +kernel
theorem dX11_meanEvening_40 : decode cX11_meanEvening 40 = .ok (.iload_n 2, 1) := by decide +kernel
theorem dX11_meanEvening_41 : decode cX11_meanEvening 41 = .ok (.i2d, 1) := by decide +kernel
theorem dX11_meanEvening_42 : decode cX11_meanEvening 42 = .ok (.ldc2_w 399, 3) := by decide +kernel
theorem dX11_meanEvening_45 : decode cX11_meanEvening 45 = .ok (.ddiv, 1) := by decide +kernel
theorem dX11_meanEvening_46 : decode cX11_meanEvening 46 = .ok (.dreturn, 1) := by decide +kernel
set_option maxRecDepth 20000 in
theorem ggX11_lineupShare_X7_numbers : GoodIn wsX11_lineupShare wsX7_numbers := goodIn_r _ [7, 8, 9, 10, 6, 11, 12, 74, 75, 76, 77, 78, 79, 80, 81] (by decide +kernel) (by decide +kernel)
set_option maxRecDepth 20000 in
theorem gX11_lineupShare_X7_numbers : GoodIn wsX11_lineupShare (wsV RX11 287 RX7 yX7_numbers wsX7_numbers) := goodIn_app (goodIn_of _ (by decide +kernel)) ggX11_lineupShare_X7_numbers
set_option maxRecDepth 20000 in
theorem ggX11_lineupShare_J6_bitCount_0f7a4 : GoodIn wsX11_lineupShare wsJ6_bitCount_0f7a4 := goodIn_r _ [16, 17, 18, 19] (by decide +kernel) (by decide +kernel)
set_option maxRecDepth 20000 in
theorem gX11_lineupShare_J6_bitCount_0f7a4 : GoodIn wsX11_lineupShare (va_wsS RX11 290 yJ6_bitCount_0f7a4 wsJ6_bitCount_0f7a4) := goodIn_app (goodIn_of _ (by decide +kernel)) ggX11_lineupShare_J6_bitCount_0f7a4
set_option maxRecDepth 20000 in
theorem ggX11_lineupShare_X7_lineup : GoodIn wsX11_lineupShare wsX7_lineup := goodIn_r _ [23, 24, 25, 26, 27, 28, 29, 6, 30, 31, 32, 33, 34, 35, 36, 37, 38, 39, 8, 9, 10, 11, 12, 40, 41, 42, 43, 44, 45, 46, 47, 48, 49, 50, 51, 52, 53, 54, 55, 56, 4, 5, 7, 57, 58, 59, 74, 75, 76, 77, 78, 79, 80, 81] (by decide +kernel) (by decide +kernel)
set_option maxRecDepth 20000 in
theorem gX11_lineupShare_X7_lineup : GoodIn wsX11_lineupShare (wsV RX11 251 RX7 yX7_lineup wsX7_lineup) := goodIn_app (goodIn_of _ (by decide +kernel)) ggX11_lineupShare_X7_lineup
theorem dX11_lineupShare_0 : decode cX11_lineupShare 0 = .ok (.aload_n 0, 1) := by decide +kernel
theorem dX11_lineupShare_1 : decode cX11_lineupShare 1 = .ok (.getfield 12, 3) := by decide +kernel
theorem dX11_lineupShare_4 : decode cX11_lineupShare 4 = .ok (.getfield 26, 3) := by decide +kernel
theorem dX11_lineupShare_7 : decode cX11_lineupShare 7 = .ok (.invokevirtual 287, 3) := by decide +kernel
theorem dX11_lineupShare_10 : decode cX11_lineupShare 10 = .ok (.invokestatic 290, 3) := by decide +kernel
theorem dX11_lineupShare_13 : decode cX11_lineupShare 13 = .ok (.istore_n 1, 1) := by decide +kernel
theorem dX11_lineupShare_14 : decode cX11_lineupShare 14 = .ok (.iload_n 1, 1) := by decide +kernel
theorem dX11_lineupShare_15 : decode cX11_lineupShare 15 = .ok (.ifCond .ne 5, 3) := by decide +kernel
theorem dX11_lineupShare_18 : decode cX11_lineupShare 18 = .ok (.fconst 0, 1) := by decide +kernel
theorem dX11_lineupShare_19 : decode cX11_lineupShare 19 = .ok (.freturn, 1) := by decide +kernel
theorem dX11_lineupShare_20 : decode cX11_lineupShare 20 = .ok (.aload_n 0, 1) := by decide +kernel
theorem dX11_lineupShare_21 : decode cX11_lineupShare 21 = .ok (.getfield 12, 3) := by decide +kernel
theorem dX11_lineupShare_24 : decode cX11_lineupShare 24 = .ok (.getfield 26, 3) := by decide +kernel
theorem dX11_lineupShare_27 : decode cX11_lineupShare 27 = .ok (.invokevirtual 251, 3) := by decide +kernel
theorem dX11_lineupShare_30 : decode cX11_lineupShare 30 = .ok (.invokestatic 290, 3) := by decide +kernel
theorem dX11_lineupShare_33 : decode cX11_lineupShare 33 = .ok (.i2f, 1) := by decide +kernel
theorem dX11_lineupShare_34 : decode cX11_lineupShare 34 = .ok (.iload_n 1, 1) := by decide +kernel
theorem dX11_lineupShare_35 : decode cX11_lineupShare 35 = .ok (.i2f, 1) := by decide +kernel
theorem dX11_lineupShare_36 : decode cX11_lineupShare 36 = .ok (.fdiv, 1) := by decide +kernel
theorem dX11_lineupShare_37 : decode cX11_lineupShare 37 = .ok (.freturn, 1) := by decide +kernel
set_option maxRecDepth 20000 in
theorem ggX11_checksum_X7_sumUp : GoodIn wsX11_checksum wsX7_sumUp := goodIn_r _ [11, 12, 13, 14, 15, 16, 17, 18, 10, 19, 20, 40, 41, 42, 43, 44, 45, 46, 47] (by decide +kernel) (by decide +kernel)
set_option maxRecDepth 20000 in
theorem gX11_checksum_X7_sumUp : GoodIn wsX11_checksum (wsV RX11 403 RX7 yX7_sumUp wsX7_sumUp) := goodIn_app (goodIn_of _ (by decide +kernel)) ggX11_checksum_X7_sumUp
theorem dX11_checksum_0 : decode cX11_checksum 0 = .ok (.aload_n 0, 1) := by decide +kernel
theorem dX11_checksum_1 : decode cX11_checksum 1 = .ok (.getfield 12, 3) := by decide +kernel
theorem dX11_checksum_4 : decode cX11_checksum 4 = .ok (.getfield 26, 3) := by decide +kernel
theorem dX11_checksum_7 : decode cX11_checksum 7 = .ok (.ldc2_w 401, 3) := by decide +kernel
theorem dX11_checksum_10 : decode cX11_checksum 10 = .ok (.invokevirtual 403, 3) := by decide +kernel
theorem dX11_checksum_13 : decode cX11_checksum 13 = .ok (.lstore_n 1, 1) := by decide +kernel
theorem dX11_checksum_14 : decode cX11_checksum 14 = .ok (.iconst 0, 1) := by decide +kernel
theorem dX11_checksum_15 : decode cX11_checksum 15 = .ok (.istore_n 3, 1) := by decide +kernel
theorem dX11_checksum_16 : decode cX11_checksum 16 = .ok (.iload_n 3, 1) := by decide +kernel
theorem dX11_checksum_17 : decode cX11_checksum 17 = .ok (.bipush 12, 2) := by decide +kernel
theorem dX11_checksum_19 : decode cX11_checksum 19 = .ok (.if_icmp .ge 28, 3) := by decide +kernel
theorem dX11_checksum_22 : decode cX11_checksum 22 = .ok (.ldc2_w 407, 3) := by decide +kernel
theorem dX11_checksum_25 : decode cX11_checksum 25 = .ok (.lload_n 1, 1) := by decide +kernel
theorem dX11_checksum_26 : decode cX11_checksum 26 = .ok (.lmul, 1) := by decide +kernel
theorem dX11_checksum_27 : decode cX11_checksum 27 = .ok (.aload_n 0, 1) := by decide +kernel
theorem dX11_checksum_28 : decode cX11_checksum 28 = .ok (.getfield 12, 3) := by decide +kernel
theorem dX11_checksum_31 : decode cX11_checksum 31 = .ok (.getfield 226, 3) := by decide +kernel
theorem dX11_checksum_34 : decode cX11_checksum 34 = .ok (.getfield 392, 3) := by decide +kernel
theorem dX11_checksum_37 : decode cX11_checksum 37 = .ok (.iload_n 3, 1) := by decide +kernel
theorem dX11_checksum_38 : decode cX11_checksum 38 = .ok (.laload, 1) := by decide +kernel
theorem dX11_checksum_39 : decode cX11_checksum 39 = .ok (.ladd, 1) := by decide +kernel
theorem dX11_checksum_40 : decode cX11_checksum 40 = .ok (.lstore_n 1, 1) := by decide +kernel
theorem dX11_checksum_41 : decode cX11_checksum 41 = .ok (.iinc 3 1, 3) := by decide +kernel
theorem dX11_checksum_44 : decode cX11_checksum 44 = .ok (.goto (-28), 3) := by decide +kernel
theorem dX11_checksum_47 : decode cX11_checksum 47 = .ok (.lload_n 1, 1) := by decide +kernel
theorem dX11_checksum_48 : decode cX11_checksum 48 = .ok (.lreturn, 1) := by decide +kernel
set_option maxRecDepth 20000 in
theorem ggX11_errors_X7_lineup : GoodIn wsX11_errors wsX7_lineup := goodIn_r _ [9, 10, 11, 12, 13, 14, 15, 8, 16, 17, 18, 19, 20, 21, 22, 23, 24, 25, 26, 27, 28, 29, 30, 31, 32, 33, 34, 35, 36, 37, 38, 39, 40, 41, 42, 43, 44, 45, 46, 47, 48, 49, 50, 51, 52, 53, 272, 273, 274, 275, 276, 277, 278, 279] (by decide +kernel) (by decide +kernel)
set_option maxRecDepth 20000 in
theorem gX11_errors_X7_lineup : GoodIn wsX11_errors (wsV RX11 251 RX7 yX7_lineup wsX7_lineup) := goodIn_app (goodIn_of _ (by decide +kernel)) ggX11_errors_X7_lineup
set_option maxRecDepth 20000 in
theorem ggX11_errors_X7_pleasingOfAll : GoodIn wsX11_errors wsX7_pleasingOfAll := goodIn_r _ [57, 17, 18, 19, 8, 20, 21, 22, 23, 24, 25, 26, 27, 28, 29, 30, 272, 273, 274, 275, 276, 277, 278, 279] (by decide +kernel) (by decide +kernel)
set_option maxRecDepth 20000 in
theorem gX11_errors_X7_pleasingOfAll : GoodIn wsX11_errors (wsV RX11 310 RX7 yX7_pleasingOfAll wsX7_pleasingOfAll) := goodIn_app (goodIn_of _ (by decide +kernel)) ggX11_errors_X7_pleasingOfAll
set_option maxRecDepth 20000 in
theorem ggX11_errors_X7_bound : GoodIn wsX11_errors wsX7_bound := goodIn_r _ [61, 10, 11, 13, 14, 15, 8, 16, 17, 18, 19, 20, 21, 22, 23, 24, 25, 26, 27, 28, 29, 30, 31, 32, 33, 34, 35, 36, 37, 38, 39, 40, 41, 42, 43, 44, 45, 46, 62, 63, 64, 65, 66, 67, 68, 69, 51, 52, 53, 272, 273, 274, 275, 276, 277, 278, 279] (by decide +kernel) (by decide +kernel)
set_option maxRecDepth 20000 in
theorem gX11_errors_X7_bound : GoodIn wsX11_errors (wsV RX11 307 RX7 yX7_bound wsX7_bound) := goodIn_app (goodIn_of _ (by decide +kernel)) ggX11_errors_X7_bound
set_option maxRecDepth 20000 in
theorem ggX11_errors_X11_holds : GoodIn wsX11_errors wsX11_holds := goodIn_r _ [73] (by decide +kernel) (by decide +kernel)
set_option maxRecDepth 20000 in
theorem gX11_errors_X11_holds : GoodIn wsX11_errors (va_wsS RX11 409 yX11_holds wsX11_holds) := goodIn_app (goodIn_of _ (by decide +kernel)) ggX11_errors_X11_holds
set_option maxRecDepth 20000 in
theorem ggX11_errors_X11_areEveningsRight : GoodIn wsX11_errors wsX11_areEveningsRight := goodIn_r _ [77, 78, 79, 80, 81, 82, 83, 84, 85, 86, 87, 72, 88, 89, 90, 91, 8, 92, 40, 26, 27, 28, 29, 30, 93, 94, 95, 96, 97, 22, 23, 24, 25, 98, 99, 100, 101, 102, 103, 104, 105, 106, 107, 108, 109, 110, 111, 112, 43, 44, 45, 46, 113, 67, 68, 69, 35, 114, 115, 116, 117, 118, 119, 120, 121, 122, 123, 124, 125, 126, 127, 128, 129, 130, 131, 132, 133, 134, 135, 136, 137, 138, 139, 140, 141, 142, 143, 144, 145, 146, 258, 259, 260, 261, 262, 263, 280, 281, 282, 283, 272, 273, 274, 275, 276, 277, 278, 279, 284, 285, 286, 287] (by decide +kernel) (by decide +kernel)
set_option maxRecDepth 20000 in
theorem gX11_errors_X11_areEveningsRight : GoodIn wsX11_errors (wsV RX11 413 RX11 yX11_areEveningsRight wsX11_areEveningsRight) := goodIn_app (goodIn_of _ (by decide +kernel)) ggX11_errors_X11_areEveningsRight
set_option maxRecDepth 20000 in
theorem ggX11_errors_X11_isOutInTime : GoodIn wsX11_errors wsX11_isOutInTime := goodIn_r _ [150, 1, 151, 152, 153, 154, 155, 156, 157, 158, 159, 72, 160, 161, 162, 163, 164, 165, 166, 167, 168, 169, 170, 171, 172, 173, 135, 136, 137, 174, 175, 176, 177, 178, 179, 180, 181, 182, 258, 259, 260, 261, 262, 263, 264, 265, 266, 267, 268, 269, 270, 271, 288, 289, 290] (by decide +kernel) (by decide +kernel)
set_option maxRecDepth 20000 in
theorem gX11_errors_X11_isOutInTime : GoodIn wsX11_errors (wsV RX11 417 RX11 yX11_isOutInTime wsX11_isOutInTime) := goodIn_app (goodIn_of _ (by decide +kernel)) ggX11_errors_X11_isOutInTime
set_option maxRecDepth 20000 in
theorem ggX11_errors_X0_sumInOneLine : GoodIn wsX11_errors wsX0_sumInOneLine := goodIn_r _ [187, 188, 189, 190, 191, 192, 193, 194, 195, 186, 196, 197, 198, 199, 200, 201, 202, 203, 204, 205, 291, 292, 293, 294, 295, 296, 297] (by decide +kernel) (by decide +kernel)
set_option maxRecDepth 20000 in
theorem gX11_errors_X0_sumInOneLine : GoodIn wsX11_errors (wsV RX11 347 RX0 yX0_sumInOneLine wsX0_sumInOneLine) := goodIn_app (goodIn_of _ (by decide +kernel)) ggX11_errors_X0_sumInOneLine
set_option maxRecDepth 20000 in
theorem ggX11_errors_X0_sumInLines : GoodIn wsX11_errors wsX0_sumInLines := goodIn_r _ [209, 201, 210, 211, 212, 186, 213, 190, 191, 189, 192, 197, 198, 199, 200, 291, 292, 293, 294, 295, 296, 297] (by decide +kernel) (by decide +kernel)
set_option maxRecDepth 20000 in
theorem gX11_errors_X0_sumInLines : GoodIn wsX11_errors (wsV RX11 350 RX0 yX0_sumInLines wsX0_sumInLines) := goodIn_app (goodIn_of _ (by decide +kernel)) ggX11_errors_X0_sumInLines
set_option maxRecDepth 20000 in
theorem ggX11_errors_X11_isProofRight : GoodIn wsX11_errors wsX11_isProofRight := goodIn_r _ [217, 1, 218, 219, 220, 221, 222, 223, 224, 225, 226, 227, 180, 136, 181, 87, 72, 88, 228, 229, 230, 231, 232, 135, 137, 233, 234, 235, 236, 159, 160, 237, 238, 239, 240, 241, 242, 243, 244, 245, 246, 247, 248, 249, 258, 259, 260, 261, 262, 263, 264, 265, 266, 267, 268, 269, 270, 271, 298, 299, 300, 301] (by decide +kernel) (by decide +kernel)
set_option maxRecDepth 20000 in
theorem gX11_errors_X11_isProofRight : GoodIn wsX11_errors (wsV RX11 420 RX11 yX11_isProofRight wsX11_isProofRight) := goodIn_app (goodIn_of _ (by decide +kernel)) ggX11_errors_X11_isProofRight
set_option maxRecDepth 20000 in
theorem ggX11_errors_X8_sumOfAll : GoodIn wsX11_errors wsX8_sumOfAll := goodIn_r _ [254, 255, 256, 257, 302, 303, 304, 305, 306] (by decide +kernel) (by decide +kernel)
set_option maxRecDepth 20000 in
theorem gX11_errors_X8_sumOfAll : GoodIn wsX11_errors (wsV RX11 423 RX8 yX8_sumOfAll wsX8_sumOfAll) := goodIn_app (goodIn_of _ (by decide +kernel)) ggX11_errors_X8_sumOfAll
theorem dX11_errors_0 : decode cX11_errors 0 = .ok (.iconst 0, 1) := by decide +kernel
theorem dX11_errors_1 : decode cX11_errors 1 = .ok (.istore_n 1, 1) := by decide +kernel
theorem dX11_errors_2 : decode cX11_errors 2 = .ok (.iload_n 1, 1) := by decide +kernel
theorem dX11_errors_3 : decode cX11_errors 3 = .ok (.aload_n 0, 1) := by decide +kernel
theorem dX11_errors_4 : decode cX11_errors 4 = .ok (.getfield 12, 3) := by decide +kernel
theorem dX11_errors_7 : decode cX11_errors 7 = .ok (.getfield 26, 3) := by decide +kernel
theorem dX11_errors_10 : decode cX11_errors 10 = .ok (.aload_n 0, 1) := by decide +kernel
theorem dX11_errors_11 : decode cX11_errors 11 = .ok (.getfield 12, 3) := by decide +kernel
theorem dX11_errors_14 : decode cX11_errors 14 = .ok (.getfield 26, 3) := by decide +kernel
theorem dX11_errors_17 : decode cX11_errors 17 = .ok (.invokevirtual 251, 3) := by decide +kernel
theorem dX11_errors_20 : decode cX11_errors 20 = .ok (.invokevirtual 310, 3) := by decide +kernel
theorem dX11_errors_23 : decode cX11_errors 23 = .ok (.aload_n 0, 1) := by decide +kernel
theorem dX11_errors_24 : decode cX11_errors 24 = .ok (.getfield 12, 3) := by decide +kernel
theorem dX11_errors_27 : decode cX11_errors 27 = .ok (.getfield 26, 3) := by decide +kernel
theorem dX11_errors_30 : decode cX11_errors 30 = .ok (.invokevirtual 307, 3) := by decide +kernel
theorem dX11_errors_33 : decode cX11_errors 33 = .ok (.if_icmp .gt 7, 3) := by decide +kernel
theorem dX11_errors_36 : decode cX11_errors 36 = .ok (.iconst 1, 1) := by decide +kernel
theorem dX11_errors_37 : decode cX11_errors 37 = .ok (.goto 4, 3) := by decide +kernel
theorem dX11_errors_40 : decode cX11_errors 40 = .ok (.iconst 0, 1) := by decide +kernel
theorem dX11_errors_41 : decode cX11_errors 41 = .ok (.invokestatic 409, 3) := by decide +kernel
theorem dX11_errors_44 : decode cX11_errors 44 = .ok (.iadd, 1) := by decide +kernel
theorem dX11_errors_45 : decode cX11_errors 45 = .ok (.istore_n 1, 1) := by decide +kernel
theorem dX11_errors_46 : decode cX11_errors 46 = .ok (.iload_n 1, 1) := by decide +kernel
theorem dX11_errors_47 : decode cX11_errors 47 = .ok (.aload_n 0, 1) := by decide +kernel
theorem dX11_errors_48 : decode cX11_errors 48 = .ok (.invokevirtual 413, 3) := by decide +kernel
theorem dX11_errors_51 : decode cX11_errors 51 = .ok (.invokestatic 409, 3) := by decide +kernel
theorem dX11_errors_54 : decode cX11_errors 54 = .ok (.iadd, 1) := by decide +kernel
theorem dX11_errors_55 : decode cX11_errors 55 = .ok (.istore_n 1, 1) := by decide +kernel
theorem dX11_errors_56 : decode cX11_errors 56 = .ok (.iload_n 1, 1) := by decide +kernel
theorem dX11_errors_57 : decode cX11_errors 57 = .ok (.aload_n 0, 1) := by decide +kernel
theorem dX11_errors_58 : decode cX11_errors 58 = .ok (.invokevirtual 417, 3) := by decide +kernel
theorem dX11_errors_61 : decode cX11_errors 61 = .ok (.invokestatic 409, 3) := by decide +kernel
theorem dX11_errors_64 : decode cX11_errors 64 = .ok (.iadd, 1) := by decide +kernel
theorem dX11_errors_65 : decode cX11_errors 65 = .ok (.istore_n 1, 1) := by decide +kernel
theorem dX11_errors_66 : decode cX11_errors 66 = .ok (.iload_n 1, 1) := by decide +kernel
theorem dX11_errors_67 : decode cX11_errors 67 = .ok (.aload_n 0, 1) := by decide +kernel
theorem dX11_errors_68 : decode cX11_errors 68 = .ok (.getfield 12, 3) := by decide +kernel
theorem dX11_errors_71 : decode cX11_errors 71 = .ok (.getfield 150, 3) := by decide +kernel
theorem dX11_errors_74 : decode cX11_errors 74 = .ok (.invokevirtual 347, 3) := by decide +kernel
theorem dX11_errors_77 : decode cX11_errors 77 = .ok (.aload_n 0, 1) := by decide +kernel
theorem dX11_errors_78 : decode cX11_errors 78 = .ok (.getfield 12, 3) := by decide +kernel
theorem dX11_errors_81 : decode cX11_errors 81 = .ok (.getfield 150, 3) := by decide +kernel
theorem dX11_errors_84 : decode cX11_errors 84 = .ok (.invokevirtual 350, 3) := by decide +kernel
theorem dX11_errors_87 : decode cX11_errors 87 = .ok (.if_icmp .gt 7, 3) := by decide +kernel
theorem dX11_errors_90 : decode cX11_errors 90 = .ok (.iconst 1, 1) := by decide +kernel
theorem dX11_errors_91 : decode cX11_errors 91 = .ok (.goto 4, 3) := by decide +kernel
theorem dX11_errors_94 : decode cX11_errors 94 = .ok (.iconst 0, 1) := by decide +kernel
theorem dX11_errors_95 : decode cX11_errors 95 = .ok (.invokestatic 409, 3) := by decide +kernel
theorem dX11_errors_98 : decode cX11_errors 98 = .ok (.iadd, 1) := by decide +kernel
theorem dX11_errors_99 : decode cX11_errors 99 = .ok (.istore_n 1, 1) := by decide +kernel
theorem dX11_errors_100 : decode cX11_errors 100 = .ok (.iload_n 1, 1) := by decide +kernel
theorem dX11_errors_101 : decode cX11_errors 101 = .ok (.aload_n 0, 1) := by decide +kernel
theorem dX11_errors_102 : decode cX11_errors 102 = .ok (.invokevirtual 420, 3) := by decide +kernel
theorem dX11_errors_105 : decode cX11_errors 105 = .ok (.invokestatic 409, 3) := by decide +kernel
theorem dX11_errors_108 : decode cX11_errors 108 = .ok (.iadd, 1) := by decide +kernel
theorem dX11_errors_109 : decode cX11_errors 109 = .ok (.istore_n 1, 1) := by decide +kernel
theorem dX11_errors_110 : decode cX11_errors 110 = .ok (.iload_n 1, 1) := by decide +kernel
theorem dX11_errors_111 : decode cX11_errors 111 = .ok (.aload_n 0, 1) := by decide +kernel
theorem dX11_errors_112 : decode cX11_errors 112 = .ok (.getfield 12, 3) := by decide +kernel
theorem dX11_errors_115 : decode cX11_errors 115 = .ok (.getfield 226, 3) := by decide +kernel
theorem dX11_errors_118 : decode cX11_errors 118 = .ok (.invokevirtual 423, 3) := by decide +kernel
theorem dX11_errors_121 : decode cX11_errors 121 = .ok (.lconst 0, 1) := by decide +kernel
theorem dX11_errors_122 : decode cX11_errors 122 = .ok (.lcmp, 1) := by decide +kernel
theorem dX11_errors_123 : decode cX11_errors 123 = .ok (.ifCond .ne 7, 3) := by decide +kernel
theorem dX11_errors_126 : decode cX11_errors 126 = .ok (.iconst 1, 1) := by decide +kernel
theorem dX11_errors_127 : decode cX11_errors 127 = .ok (.goto 4, 3) := by decide +kernel
theorem dX11_errors_130 : decode cX11_errors 130 = .ok (.iconst 0, 1) := by decide +kernel
theorem dX11_errors_131 : decode cX11_errors 131 = .ok (.invokestatic 409, 3) := by decide +kernel
theorem dX11_errors_134 : decode cX11_errors 134 = .ok (.iadd, 1) := by decide +kernel
theorem dX11_errors_135 : decode cX11_errors 135 = .ok (.istore_n 1, 1) := by decide +kernel
theorem dX11_errors_136 : decode cX11_errors 136 = .ok (.iload_n 1, 1) := by decide +kernel
theorem dX11_errors_137 : decode cX11_errors 137 = .ok (.ireturn, 1) := by decide +kernel
theorem dX11_holds_0 : decode cX11_holds 0 = .ok (.iload_n 0, 1) := by decide +kernel
theorem dX11_holds_1 : decode cX11_holds 1 = .ok (.ifCond .eq 7, 3) := by decide +kernel
theorem dX11_holds_4 : decode cX11_holds 4 = .ok (.iconst 0, 1) := by decide +kernel
theorem dX11_holds_5 : decode cX11_holds 5 = .ok (.goto 4, 3) := by decide +kernel
theorem dX11_holds_8 : decode cX11_holds 8 = .ok (.iconst 1, 1) := by decide +kernel
theorem dX11_holds_9 : decode cX11_holds 9 = .ok (.ireturn, 1) := by decide +kernel
set_option maxRecDepth 20000 in
theorem ggX11_areEveningsRight_X2_planFor : GoodIn wsX11_areEveningsRight wsX2_planFor := goodIn_r _ [6, 7, 8, 9, 10, 11, 12, 13, 14, 15, 16, 17, 18, 19, 20, 21, 22, 23, 24, 25, 26, 27, 28, 29, 30, 31, 32, 33, 34, 35, 5, 36, 37, 38, 39, 40, 41, 42, 43, 44, 45, 46, 47, 48, 49, 50, 51, 52, 53, 54, 55, 56, 57, 58, 59, 60, 61, 62, 63, 64, 96, 97, 98, 99, 100, 101, 102, 103, 104, 105, 106, 107, 108, 109, 110, 111] (by decide +kernel) (by decide +kernel)
set_option maxRecDepth 20000 in
theorem gX11_areEveningsRight_X2_planFor : GoodIn wsX11_areEveningsRight (wsV RX11 313 RX2 yX2_planFor wsX2_planFor) := goodIn_app (goodIn_of _ (by decide +kernel)) ggX11_areEveningsRight_X2_planFor
set_option maxRecDepth 20000 in
theorem ggX11_areEveningsRight_X2_weightOn : GoodIn wsX11_areEveningsRight wsX2_weightOn := goodIn_r _ [68, 9, 7, 69, 70, 71, 5, 72, 8, 73, 74, 75, 76, 77, 78, 79, 80, 42, 43, 44, 16, 45, 18, 19, 20, 21, 22, 23, 28, 29, 30, 31, 32, 81, 82, 83, 84, 85, 86, 87, 88, 37, 38, 39, 40, 41, 46, 25, 26, 27, 47, 48, 49, 50, 51, 52, 53, 54, 55, 56, 57, 58, 59, 60, 61, 62, 96, 97, 98, 99, 100, 101, 102, 103, 104, 105, 106, 107, 108, 109, 110, 111] (by decide +kernel) (by decide +kernel)
set_option maxRecDepth 20000 in
theorem gX11_areEveningsRight_X2_weightOn : GoodIn wsX11_areEveningsRight (wsV RX11 316 RX2 yX2_weightOn wsX2_weightOn) := goodIn_app (goodIn_of _ (by decide +kernel)) ggX11_areEveningsRight_X2_weightOn
set_option maxRecDepth 20000 in
theorem ggX11_areEveningsRight_X2_greatestPrice : GoodIn wsX11_areEveningsRight wsX2_greatestPrice := goodIn_r _ [76, 9, 8, 77, 78, 79, 80, 42, 43, 44, 16, 45, 18, 19, 20, 21, 22, 23, 96, 97, 98, 99, 100, 101, 102, 103, 104, 105, 106, 107] (by decide +kernel) (by decide +kernel)
set_option maxRecDepth 20000 in
theorem gX11_areEveningsRight_X2_greatestPrice : GoodIn wsX11_areEveningsRight (wsV RX11 427 RX2 yX2_greatestPrice wsX2_greatestPrice) := goodIn_app (goodIn_of _ (by decide +kernel)) ggX11_areEveningsRight_X2_greatestPrice
theorem dX11_areEveningsRight_0 : decode cX11_areEveningsRight 0 = .ok (.iconst 0, 1) := by decide +kernel
theorem dX11_areEveningsRight_1 : decode cX11_areEveningsRight 1 = .ok (.istore_n 1, 1) := by decide +kernel
theorem dX11_areEveningsRight_2 : decode cX11_areEveningsRight 2 = .ok (.iload_n 1, 1) := by decide +kernel
theorem dX11_areEveningsRight_3 : decode cX11_areEveningsRight 3 = .ok (.bipush 12, 2) := by decide +kernel
theorem dX11_areEveningsRight_5 : decode cX11_areEveningsRight 5 = .ok (.if_icmp .ge 51, 3) := by decide +kernel
theorem dX11_areEveningsRight_8 : decode cX11_areEveningsRight 8 = .ok (.aload_n 0, 1) := by decide +kernel
theorem dX11_areEveningsRight_9 : decode cX11_areEveningsRight 9 = .ok (.getfield 33, 3) := by decide +kernel
theorem dX11_areEveningsRight_12 : decode cX11_areEveningsRight 12 = .ok (.iload_n 1, 1) := by decide +kernel
theorem dX11_areEveningsRight_13 : decode cX11_areEveningsRight 13 = .ok (.invokevirtual 313, 3) := by decide +kernel
theorem dX11_areEveningsRight_16 : decode cX11_areEveningsRight 16 = .ok (.iconst 0, 1) := by decide +kernel
theorem dX11_areEveningsRight_17 : decode cX11_areEveningsRight 17 = .ok (.istore_n 2, 1) := by decide +kernel
theorem dX11_areEveningsRight_18 : decode cX11_areEveningsRight 18 = .ok (.iload_n 2, 1) := by decide +kernel
theorem dX11_areEveningsRight_19 : decode cX11_areEveningsRight 19 = .ok (.iconst 4, 1) := by decide +kernel
theorem dX11_areEveningsRight_20 : decode cX11_areEveningsRight 20 = .ok (.if_icmp .ge 30, 3) := by decide +kernel
theorem dX11_areEveningsRight_23 : decode cX11_areEveningsRight 23 = .ok (.aload_n 0, 1) := by decide +kernel
theorem dX11_areEveningsRight_24 : decode cX11_areEveningsRight 24 = .ok (.getfield 33, 3) := by decide +kernel
theorem dX11_areEveningsRight_27 : decode cX11_areEveningsRight 27 = .ok (.iload_n 2, 1) := by decide +kernel
theorem dX11_areEveningsRight_28 : decode cX11_areEveningsRight 28 = .ok (.invokevirtual 316, 3) := by decide +kernel
theorem dX11_areEveningsRight_31 : decode cX11_areEveningsRight 31 = .ok (.aload_n 0, 1) := by decide +kernel
theorem dX11_areEveningsRight_32 : decode cX11_areEveningsRight 32 = .ok (.getfield 33, 3) := by decide +kernel
theorem dX11_areEveningsRight_35 : decode cX11_areEveningsRight 35 = .ok (.iload_n 2, 1) := by decide +kernel
theorem dX11_areEveningsRight_36 : decode cX11_areEveningsRight 36 = .ok (.invokevirtual 427, 3) := by decide +kernel
theorem dX11_areEveningsRight_39 : decode cX11_areEveningsRight 39 = .ok (.if_icmp .eq 5, 3) := by decide +kernel
theorem dX11_areEveningsRight_42 : decode cX11_areEveningsRight 42 = .ok (.iconst 0, 1) := by decide +kernel
theorem dX11_areEveningsRight_43 : decode cX11_areEveningsRight 43 = .ok (.ireturn, 1) := by decide +kernel
theorem dX11_areEveningsRight_44 : decode cX11_areEveningsRight 44 = .ok (.iinc 2 1, 3) := by decide +kernel
theorem dX11_areEveningsRight_47 : decode cX11_areEveningsRight 47 = .ok (.goto (-29), 3) := by decide +kernel
theorem dX11_areEveningsRight_50 : decode cX11_areEveningsRight 50 = .ok (.iinc 1 1, 3) := by decide +kernel
theorem dX11_areEveningsRight_53 : decode cX11_areEveningsRight 53 = .ok (.goto (-51), 3) := by decide +kernel
theorem dX11_areEveningsRight_56 : decode cX11_areEveningsRight 56 = .ok (.iconst 1, 1) := by decide +kernel
theorem dX11_areEveningsRight_57 : decode cX11_areEveningsRight 57 = .ok (.ireturn, 1) := by decide +kernel
set_option maxRecDepth 20000 in
theorem ggX11_isOutInTime_X3_minutesOut : GoodIn wsX11_isOutInTime wsX3_minutesOut := goodIn_r _ [7, 8, 9, 10, 11, 12, 13, 14, 15, 6, 16, 17, 18, 19, 20, 21, 22, 23, 24, 25, 26, 27, 28, 29, 30, 31, 32, 33, 34, 35, 36, 52, 53, 54] (by decide +kernel) (by decide +kernel)
set_option maxRecDepth 20000 in
theorem gX11_isOutInTime_X3_minutesOut : GoodIn wsX11_isOutInTime (wsV RX11 330 RX3 yX3_minutesOut wsX3_minutesOut) := goodIn_app (goodIn_of _ (by decide +kernel)) ggX11_isOutInTime_X3_minutesOut
set_option maxRecDepth 20000 in
theorem ggX11_isOutInTime_X3_firstTooFull : GoodIn wsX11_isOutInTime wsX3_firstTooFull := goodIn_r _ [16, 17, 18, 19, 6, 20, 8, 21, 22, 23, 24, 9, 25, 26, 27, 28, 29, 30, 31, 32, 33, 34, 35, 36, 52, 53, 54] (by decide +kernel) (by decide +kernel)
set_option maxRecDepth 20000 in
theorem gX11_isOutInTime_X3_firstTooFull : GoodIn wsX11_isOutInTime (wsV RX11 333 RX3 yX3_firstTooFull wsX3_firstTooFull) := goodIn_app (goodIn_of _ (by decide +kernel)) ggX11_isOutInTime_X3_firstTooFull
theorem dX11_isOutInTime_0 : decode cX11_isOutInTime 0 = .ok (.aload_n 0, 1) := by decide +kernel
theorem dX11_isOutInTime_1 : decode cX11_isOutInTime 1 = .ok (.getfield 12, 3) := by decide +kernel
theorem dX11_isOutInTime_4 : decode cX11_isOutInTime 4 = .ok (.getfield 135, 3) := by decide +kernel
theorem dX11_isOutInTime_7 : decode cX11_isOutInTime 7 = .ok (.invokevirtual 330, 3) := by decide +kernel
theorem dX11_isOutInTime_10 : decode cX11_isOutInTime 10 = .ok (.istore_n 1, 1) := by decide +kernel
theorem dX11_isOutInTime_11 : decode cX11_isOutInTime 11 = .ok (.iload_n 1, 1) := by decide +kernel
theorem dX11_isOutInTime_12 : decode cX11_isOutInTime 12 = .ok (.iconst (-1), 1) := by decide +kernel
theorem dX11_isOutInTime_13 : decode cX11_isOutInTime 13 = .ok (.if_icmp .eq 17, 3) := by decide +kernel
theorem dX11_isOutInTime_16 : decode cX11_isOutInTime 16 = .ok (.aload_n 0, 1) := by decide +kernel
theorem dX11_isOutInTime_17 : decode cX11_isOutInTime 17 = .ok (.getfield 12, 3) := by decide +kernel
theorem dX11_isOutInTime_20 : decode cX11_isOutInTime 20 = .ok (.getfield 135, 3) := by decide +kernel
theorem dX11_isOutInTime_23 : decode cX11_isOutInTime 23 = .ok (.iload_n 1, 1) := by decide +kernel
theorem dX11_isOutInTime_24 : decode cX11_isOutInTime 24 = .ok (.invokevirtual 333, 3) := by decide +kernel
theorem dX11_isOutInTime_27 : decode cX11_isOutInTime 27 = .ok (.ifCond .ne 7, 3) := by decide +kernel
theorem dX11_isOutInTime_30 : decode cX11_isOutInTime 30 = .ok (.iconst 1, 1) := by decide +kernel
theorem dX11_isOutInTime_31 : decode cX11_isOutInTime 31 = .ok (.goto 4, 3) := by decide +kernel
theorem dX11_isOutInTime_34 : decode cX11_isOutInTime 34 = .ok (.iconst 0, 1) := by decide +kernel
theorem dX11_isOutInTime_35 : decode cX11_isOutInTime 35 = .ok (.ireturn, 1) := by decide +kernel
set_option maxRecDepth 20000 in
theorem ggX11_isProofRight_X10_planStarts : GoodIn wsX11_isProofRight wsX10_planStarts := goodIn_r _ [7, 8, 9, 10, 11, 12, 13, 14, 15, 16, 17, 18, 19, 20, 6, 21, 22, 23, 24, 58, 59, 60, 61] (by decide +kernel) (by decide +kernel)
set_option maxRecDepth 20000 in
theorem gX11_isProofRight_X10_planStarts : GoodIn wsX11_isProofRight (wsV RX11 353 RX10 yX10_planStarts wsX10_planStarts) := goodIn_app (goodIn_of _ (by decide +kernel)) ggX11_isProofRight_X10_planStarts
set_option maxRecDepth 20000 in
theorem ggX11_isProofRight_X10_sumOfStarts : GoodIn wsX11_isProofRight wsX10_sumOfStarts := goodIn_r _ [28, 8, 29, 16, 30, 58, 59, 60, 61] (by decide +kernel) (by decide +kernel)
set_option maxRecDepth 20000 in
theorem gX11_isProofRight_X10_sumOfStarts : GoodIn wsX11_isProofRight (wsV RX11 356 RX10 yX10_sumOfStarts wsX10_sumOfStarts) := goodIn_app (goodIn_of _ (by decide +kernel)) ggX11_isProofRight_X10_sumOfStarts
set_option maxRecDepth 20000 in
theorem ggX11_isProofRight_X10_neediestHours : GoodIn wsX11_isProofRight wsX10_neediestHours := goodIn_r _ [34, 35, 22, 23, 13, 24, 9, 10, 15, 16, 17, 36, 37, 38, 6, 39, 58, 59, 60, 61] (by decide +kernel) (by decide +kernel)
set_option maxRecDepth 20000 in
theorem gX11_isProofRight_X10_neediestHours : GoodIn wsX11_isProofRight (wsV RX11 360 RX10 yX10_neediestHours wsX10_neediestHours) := goodIn_app (goodIn_of _ (by decide +kernel)) ggX11_isProofRight_X10_neediestHours
set_option maxRecDepth 20000 in
theorem ggX11_isProofRight_X10_needOf : GoodIn wsX11_isProofRight wsX10_needOf := goodIn_r _ [43, 9, 58, 59, 60, 61] (by decide +kernel) (by decide +kernel)
set_option maxRecDepth 20000 in
theorem gX11_isProofRight_X10_needOf : GoodIn wsX11_isProofRight (wsV RX11 430 RX10 yX10_needOf wsX10_needOf) := goodIn_app (goodIn_of _ (by decide +kernel)) ggX11_isProofRight_X10_needOf
theorem dX11_isProofRight_0 : decode cX11_isProofRight 0 = .ok (.aload_n 0, 1) := by decide +kernel
theorem dX11_isProofRight_1 : decode cX11_isProofRight 1 = .ok (.getfield 12, 3) := by decide +kernel
theorem dX11_isProofRight_4 : decode cX11_isProofRight 4 = .ok (.getfield 181, 3) := by decide +kernel
theorem dX11_isProofRight_7 : decode cX11_isProofRight 7 = .ok (.invokevirtual 353, 3) := by decide +kernel
theorem dX11_isProofRight_10 : decode cX11_isProofRight 10 = .ok (.aload_n 0, 1) := by decide +kernel
theorem dX11_isProofRight_11 : decode cX11_isProofRight 11 = .ok (.getfield 12, 3) := by decide +kernel
theorem dX11_isProofRight_14 : decode cX11_isProofRight 14 = .ok (.getfield 181, 3) := by decide +kernel
theorem dX11_isProofRight_17 : decode cX11_isProofRight 17 = .ok (.invokevirtual 356, 3) := by decide +kernel
theorem dX11_isProofRight_20 : decode cX11_isProofRight 20 = .ok (.aload_n 0, 1) := by decide +kernel
theorem dX11_isProofRight_21 : decode cX11_isProofRight 21 = .ok (.getfield 12, 3) := by decide +kernel
theorem dX11_isProofRight_24 : decode cX11_isProofRight 24 = .ok (.getfield 181, 3) := by decide +kernel
theorem dX11_isProofRight_27 : decode cX11_isProofRight 27 = .ok (.aload_n 0, 1) := by decide +kernel
theorem dX11_isProofRight_28 : decode cX11_isProofRight 28 = .ok (.getfield 12, 3) := by decide +kernel
theorem dX11_isProofRight_31 : decode cX11_isProofRight 31 = .ok (.getfield 181, 3) := by decide +kernel
theorem dX11_isProofRight_34 : decode cX11_isProofRight 34 = .ok (.invokevirtual 360, 3) := by decide +kernel
theorem dX11_isProofRight_37 : decode cX11_isProofRight 37 = .ok (.invokevirtual 430, 3) := by decide +kernel
theorem dX11_isProofRight_40 : decode cX11_isProofRight 40 = .ok (.if_icmp .ne 7, 3) := by decide +kernel
theorem dX11_isProofRight_43 : decode cX11_isProofRight 43 = .ok (.iconst 1, 1) := by decide +kernel
theorem dX11_isProofRight_44 : decode cX11_isProofRight 44 = .ok (.goto 4, 3) := by decide +kernel
theorem dX11_isProofRight_47 : decode cX11_isProofRight 47 = .ok (.iconst 0, 1) := by decide +kernel
theorem dX11_isProofRight_48 : decode cX11_isProofRight 48 = .ok (.ireturn, 1) := by decide +kernel
set_option maxRecDepth 20000 in
theorem ggX11_beginChange_X11_saveMoment : GoodIn wsX11_beginChange wsX11_saveMoment := goodIn_r _ [6, 7, 8, 9, 10, 11, 12, 13, 14, 15, 16, 17, 18, 19, 20, 21, 22, 23, 24, 25, 26, 27, 28, 29, 30, 31, 32, 33, 34, 35, 36, 37, 38, 39, 40, 41, 42, 43, 44, 45, 46, 47, 48, 49, 5, 50, 51, 52, 53, 54, 55, 56, 57, 58, 59, 60, 61, 62, 63, 64, 65, 66, 67, 68, 69, 70, 71, 72, 73, 74, 75, 76, 77, 78, 79, 80, 81, 82, 83, 84, 85, 86, 87, 88, 89, 90, 91, 92, 93, 94, 95, 96, 97, 98, 99, 100, 101, 102, 103, 104, 105, 106, 107, 108, 109, 110, 111, 112, 119, 120, 121, 122, 123, 124, 125, 126, 127, 128, 129, 130, 131, 132, 133, 134, 135, 136, 137, 138, 139, 140, 141, 142, 143, 144, 145, 146, 147, 148, 149, 150, 151, 152, 153, 154, 155, 156, 157, 158, 159, 160, 161, 162, 163, 164, 165, 166, 167, 168, 169, 170, 171, 172, 173, 174] (by decide +kernel) (by decide +kernel)
set_option maxRecDepth 20000 in
theorem gX11_beginChange_X11_saveMoment : GoodIn wsX11_beginChange (wsV RX11 217 RX11 yX11_saveMoment wsX11_saveMoment) := goodIn_app (goodIn_of _ (by decide +kernel)) ggX11_beginChange_X11_saveMoment
set_option maxRecDepth 20000 in
theorem ggX11_beginChange_X9_forget : GoodIn wsX11_beginChange wsX9_forget := goodIn_r _ [117, 118, 175, 176, 177, 178, 179, 180, 181, 182] (by decide +kernel) (by decide +kernel)
set_option maxRecDepth 20000 in
theorem gX11_beginChange_X9_forget : GoodIn wsX11_beginChange (wsV RX11 223 RX9 yX9_forget wsX9_forget) := goodIn_app (goodIn_of _ (by decide +kernel)) ggX11_beginChange_X9_forget
theorem dX11_beginChange_0 : decode cX11_beginChange 0 = .ok (.aload_n 0, 1) := by decide +kernel
theorem dX11_beginChange_1 : decode cX11_beginChange 1 = .ok (.invokevirtual 217, 3) := by decide +kernel
theorem dX11_beginChange_4 : decode cX11_beginChange 4 = .ok (.aload_n 0, 1) := by decide +kernel
theorem dX11_beginChange_5 : decode cX11_beginChange 5 = .ok (.getfield 40, 3) := by decide +kernel
theorem dX11_beginChange_8 : decode cX11_beginChange 8 = .ok (.invokevirtual 223, 3) := by decide +kernel
theorem dX11_beginChange_11 : decode cX11_beginChange 11 = .ok (.return_, 1) := by decide +kernel
set_option maxRecDepth 20000 in
theorem ggX11_saveMoment_X5_copyFrom : GoodIn wsX11_saveMoment wsX5_copyFrom := goodIn_r _ [13, 14, 15, 16, 17, 18, 19, 20, 21, 22, 23, 24, 25, 26, 27, 28, 29, 30, 31, 32, 33, 34, 35, 36, 37, 38, 39, 40, 41, 42, 43, 44, 45, 5, 6, 7, 8, 46, 47, 48, 49, 50, 51, 52, 53, 54, 55, 56, 57, 58, 59, 60, 61, 62, 63, 64, 65, 66, 67, 68, 69, 70, 71, 72, 73, 74, 75, 76, 77, 78, 79, 80, 81, 82, 83, 84, 85, 86, 87, 88, 89, 90, 91, 92, 93, 94, 95, 96, 97, 98, 99, 100, 101, 102, 103, 104, 105, 106, 107, 114, 115, 116, 117, 118, 119, 120, 121, 122, 123, 124, 125, 126, 127, 128, 129, 130, 131, 132, 133, 134, 135, 136, 137, 138, 139, 140, 141, 142, 143, 144, 145, 146, 147, 148, 149, 150, 151, 152, 153, 154, 155, 156, 157, 158, 159, 160, 161, 162, 163] (by decide +kernel) (by decide +kernel)
set_option maxRecDepth 20000 in
theorem gX11_saveMoment_X5_copyFrom : GoodIn wsX11_saveMoment (wsV RX11 279 RX5 yX5_copyFrom wsX5_copyFrom) := goodIn_app (goodIn_of _ (by decide +kernel)) ggX11_saveMoment_X5_copyFrom
theorem dX11_saveMoment_0 : decode cX11_saveMoment 0 = .ok (.aload_n 0, 1) := by decide +kernel
theorem dX11_saveMoment_1 : decode cX11_saveMoment 1 = .ok (.getfield 16, 3) := by decide +kernel
theorem dX11_saveMoment_4 : decode cX11_saveMoment 4 = .ok (.aload_n 0, 1) := by decide +kernel
theorem dX11_saveMoment_5 : decode cX11_saveMoment 5 = .ok (.getfield 44, 3) := by decide +kernel
theorem dX11_saveMoment_8 : decode cX11_saveMoment 8 = .ok (.aaload, 1) := by decide +kernel
theorem dX11_saveMoment_9 : decode cX11_saveMoment 9 = .ok (.aload_n 0, 1) := by decide +kernel
theorem dX11_saveMoment_10 : decode cX11_saveMoment 10 = .ok (.getfield 12, 3) := by decide +kernel
theorem dX11_saveMoment_13 : decode cX11_saveMoment 13 = .ok (.invokevirtual 279, 3) := by decide +kernel
theorem dX11_saveMoment_16 : decode cX11_saveMoment 16 = .ok (.aload_n 0, 1) := by decide +kernel
theorem dX11_saveMoment_17 : decode cX11_saveMoment 17 = .ok (.aload_n 0, 1) := by decide +kernel
theorem dX11_saveMoment_18 : decode cX11_saveMoment 18 = .ok (.getfield 44, 3) := by decide +kernel
theorem dX11_saveMoment_21 : decode cX11_saveMoment 21 = .ok (.iconst 1, 1) := by decide +kernel
theorem dX11_saveMoment_22 : decode cX11_saveMoment 22 = .ok (.iadd, 1) := by decide +kernel
theorem dX11_saveMoment_23 : decode cX11_saveMoment 23 = .ok (.bipush 8, 2) := by decide +kernel
theorem dX11_saveMoment_25 : decode cX11_saveMoment 25 = .ok (.irem, 1) := by decide +kernel
theorem dX11_saveMoment_26 : decode cX11_saveMoment 26 = .ok (.putfield 44, 3) := by decide +kernel
theorem dX11_saveMoment_29 : decode cX11_saveMoment 29 = .ok (.aload_n 0, 1) := by decide +kernel
theorem dX11_saveMoment_30 : decode cX11_saveMoment 30 = .ok (.aload_n 0, 1) := by decide +kernel
theorem dX11_saveMoment_31 : decode cX11_saveMoment 31 = .ok (.getfield 48, 3) := by decide +kernel
theorem dX11_saveMoment_34 : decode cX11_saveMoment 34 = .ok (.iconst 1, 1) := by decide +kernel
theorem dX11_saveMoment_35 : decode cX11_saveMoment 35 = .ok (.iadd, 1) := by decide +kernel
theorem dX11_saveMoment_36 : decode cX11_saveMoment 36 = .ok (.bipush 8, 2) := by decide +kernel
theorem dX11_saveMoment_38 : decode cX11_saveMoment 38 = .ok (.invokestatic 433, 3) := by decide +kernel
theorem dX11_saveMoment_41 : decode cX11_saveMoment 41 = .ok (.putfield 48, 3) := by decide +kernel
theorem dX11_saveMoment_44 : decode cX11_saveMoment 44 = .ok (.return_, 1) := by decide +kernel
theorem dX11_needPlace_0 : decode cX11_needPlace 0 = .ok (.iload_n 0, 1) := by decide +kernel
theorem dX11_needPlace_1 : decode cX11_needPlace 1 = .ok (.ifCond .lt 8, 3) := by decide +kernel
theorem dX11_needPlace_4 : decode cX11_needPlace 4 = .ok (.iload_n 0, 1) := by decide +kernel
theorem dX11_needPlace_5 : decode cX11_needPlace 5 = .ok (.iload_n 1, 1) := by decide +kernel
theorem dX11_needPlace_6 : decode cX11_needPlace 6 = .ok (.if_icmp .lt 14, 3) := by decide +kernel
theorem dX11_needPlace_9 : decode cX11_needPlace 9 = .ok (.new 436, 3) := by decide +kernel
theorem dX11_needPlace_12 : decode cX11_needPlace 12 = .ok (.dup, 1) := by decide +kernel
theorem dX11_needPlace_13 : decode cX11_needPlace 13 = .ok (.ldc_w 438, 3) := by decide +kernel
theorem dX11_needPlace_16 : decode cX11_needPlace 16 = .ok (.invokespecial 440, 3) := by decide +kernel
theorem dX11_needPlace_19 : decode cX11_needPlace 19 = .ok (.athrow, 1) := by decide +kernel
theorem dX11_needPlace_20 : decode cX11_needPlace 20 = .ok (.return_, 1) := by decide +kernel
theorem dX11_needRange_0 : decode cX11_needRange 0 = .ok (.iload_n 0, 1) := by decide +kernel
theorem dX11_needRange_1 : decode cX11_needRange 1 = .ok (.iload_n 1, 1) := by decide +kernel
theorem dX11_needRange_2 : decode cX11_needRange 2 = .ok (.if_icmp .lt 8, 3) := by decide +kernel
theorem dX11_needRange_5 : decode cX11_needRange 5 = .ok (.iload_n 0, 1) := by decide +kernel
theorem dX11_needRange_6 : decode cX11_needRange 6 = .ok (.iload_n 2, 1) := by decide +kernel
theorem dX11_needRange_7 : decode cX11_needRange 7 = .ok (.if_icmp .le 14, 3) := by decide +kernel
theorem dX11_needRange_10 : decode cX11_needRange 10 = .ok (.new 57, 3) := by decide +kernel
theorem dX11_needRange_13 : decode cX11_needRange 13 = .ok (.dup, 1) := by decide +kernel
theorem dX11_needRange_14 : decode cX11_needRange 14 = .ok (.ldc_w 441, 3) := by decide +kernel
theorem dX11_needRange_17 : decode cX11_needRange 17 = .ok (.invokespecial 61, 3) := by decide +kernel
theorem dX11_needRange_20 : decode cX11_needRange 20 = .ok (.athrow, 1) := by decide +kernel
theorem dX11_needRange_21 : decode cX11_needRange 21 = .ok (.return_, 1) := by decide +kernel
theorem dX11_needOthers_0 : decode cX11_needOthers 0 = .ok (.iload_n 0, 1) := by decide +kernel
theorem dX11_needOthers_1 : decode cX11_needOthers 1 = .ok (.iload_n 1, 1) := by decide +kernel
theorem dX11_needOthers_2 : decode cX11_needOthers 2 = .ok (.if_icmp .ne 14, 3) := by decide +kernel
theorem dX11_needOthers_5 : decode cX11_needOthers 5 = .ok (.new 57, 3) := by decide +kernel
theorem dX11_needOthers_8 : decode cX11_needOthers 8 = .ok (.dup, 1) := by decide +kernel
theorem dX11_needOthers_9 : decode cX11_needOthers 9 = .ok (.ldc_w 443, 3) := by decide +kernel
theorem dX11_needOthers_12 : decode cX11_needOthers 12 = .ok (.invokespecial 61, 3) := by decide +kernel
theorem dX11_needOthers_15 : decode cX11_needOthers 15 = .ok (.athrow, 1) := by decide +kernel
theorem dX11_needOthers_16 : decode cX11_needOthers 16 = .ok (.return_, 1) := by decide +kernel
set_option maxRecDepth 20000 in
theorem ggX11_needAct_X7_has : GoodIn wsX11_needAct wsX7_has := goodIn_r _ [9, 10, 25, 26, 27, 28, 29, 30, 31, 32] (by decide +kernel) (by decide +kernel)
set_option maxRecDepth 20000 in
theorem gX11_needAct_X7_has : GoodIn wsX11_needAct (wsV RX11 445 RX7 yX7_has wsX7_has) := goodIn_app (goodIn_of _ (by decide +kernel)) ggX11_needAct_X7_has
theorem dX11_needAct_0 : decode cX11_needAct 0 = .ok (.aload_n 0, 1) := by decide +kernel
theorem dX11_needAct_1 : decode cX11_needAct 1 = .ok (.getfield 12, 3) := by decide +kernel
theorem dX11_needAct_4 : decode cX11_needAct 4 = .ok (.getfield 26, 3) := by decide +kernel
theorem dX11_needAct_7 : decode cX11_needAct 7 = .ok (.iload_n 1, 1) := by decide +kernel
theorem dX11_needAct_8 : decode cX11_needAct 8 = .ok (.invokevirtual 445, 3) := by decide +kernel
theorem dX11_needAct_11 : decode cX11_needAct 11 = .ok (.ifCond .ne 14, 3) := by decide +kernel
theorem dX11_needAct_14 : decode cX11_needAct 14 = .ok (.new 436, 3) := by decide +kernel
theorem dX11_needAct_17 : decode cX11_needAct 17 = .ok (.dup, 1) := by decide +kernel
theorem dX11_needAct_18 : decode cX11_needAct 18 = .ok (.ldc_w 449, 3) := by decide +kernel
theorem dX11_needAct_21 : decode cX11_needAct 21 = .ok (.invokespecial 440, 3) := by decide +kernel
theorem dX11_needAct_24 : decode cX11_needAct 24 = .ok (.athrow, 1) := by decide +kernel
theorem dX11_needAct_25 : decode cX11_needAct 25 = .ok (.return_, 1) := by decide +kernel
set_option maxRecDepth 20000 in
theorem ggX11_needTicket_X8_hasTicket : GoodIn wsX11_needTicket wsX8_hasTicket := goodIn_r _ [9, 10, 11, 12, 8, 13, 28, 29, 30, 31, 32] (by decide +kernel) (by decide +kernel)
set_option maxRecDepth 20000 in
theorem gX11_needTicket_X8_hasTicket : GoodIn wsX11_needTicket (wsV RX11 451 RX8 yX8_hasTicket wsX8_hasTicket) := goodIn_app (goodIn_of _ (by decide +kernel)) ggX11_needTicket_X8_hasTicket
theorem dX11_needTicket_0 : decode cX11_needTicket 0 = .ok (.aload_n 0, 1) := by decide +kernel
theorem dX11_needTicket_1 : decode cX11_needTicket 1 = .ok (.getfield 12, 3) := by decide +kernel
theorem dX11_needTicket_4 : decode cX11_needTicket 4 = .ok (.getfield 226, 3) := by decide +kernel
theorem dX11_needTicket_7 : decode cX11_needTicket 7 = .ok (.iload_n 1, 1) := by decide +kernel
theorem dX11_needTicket_8 : decode cX11_needTicket 8 = .ok (.iload_n 2, 1) := by decide +kernel
theorem dX11_needTicket_9 : decode cX11_needTicket 9 = .ok (.invokevirtual 451, 3) := by decide +kernel
theorem dX11_needTicket_12 : decode cX11_needTicket 12 = .ok (.ifCond .ne 14, 3) := by decide +kernel
theorem dX11_needTicket_15 : decode cX11_needTicket 15 = .ok (.new 267, 3) := by decide +kernel
theorem dX11_needTicket_18 : decode cX11_needTicket 18 = .ok (.dup, 1) := by decide +kernel
theorem dX11_needTicket_19 : decode cX11_needTicket 19 = .ok (.ldc_w 454, 3) := by decide +kernel
theorem dX11_needTicket_22 : decode cX11_needTicket 22 = .ok (.invokespecial 271, 3) := by decide +kernel
theorem dX11_needTicket_25 : decode cX11_needTicket 25 = .ok (.athrow, 1) := by decide +kernel
theorem dX11_needTicket_26 : decode cX11_needTicket 26 = .ok (.return_, 1) := by decide +kernel
set_option maxRecDepth 20000 in
theorem ggX11_needNoTicket_X8_hasTicket : GoodIn wsX11_needNoTicket wsX8_hasTicket := goodIn_r _ [9, 10, 11, 12, 8, 13, 28, 29, 30, 31, 32] (by decide +kernel) (by decide +kernel)
set_option maxRecDepth 20000 in
theorem gX11_needNoTicket_X8_hasTicket : GoodIn wsX11_needNoTicket (wsV RX11 451 RX8 yX8_hasTicket wsX8_hasTicket) := goodIn_app (goodIn_of _ (by decide +kernel)) ggX11_needNoTicket_X8_hasTicket
theorem dX11_needNoTicket_0 : decode cX11_needNoTicket 0 = .ok (.aload_n 0, 1) := by decide +kernel
theorem dX11_needNoTicket_1 : decode cX11_needNoTicket 1 = .ok (.getfield 12, 3) := by decide +kernel
theorem dX11_needNoTicket_4 : decode cX11_needNoTicket 4 = .ok (.getfield 226, 3) := by decide +kernel
theorem dX11_needNoTicket_7 : decode cX11_needNoTicket 7 = .ok (.iload_n 1, 1) := by decide +kernel
theorem dX11_needNoTicket_8 : decode cX11_needNoTicket 8 = .ok (.iload_n 2, 1) := by decide +kernel
theorem dX11_needNoTicket_9 : decode cX11_needNoTicket 9 = .ok (.invokevirtual 451, 3) := by decide +kernel
theorem dX11_needNoTicket_12 : decode cX11_needNoTicket 12 = .ok (.ifCond .eq 14, 3) := by decide +kernel
theorem dX11_needNoTicket_15 : decode cX11_needNoTicket 15 = .ok (.new 108, 3) := by decide +kernel
theorem dX11_needNoTicket_18 : decode cX11_needNoTicket 18 = .ok (.dup, 1) := by decide +kernel
theorem dX11_needNoTicket_19 : decode cX11_needNoTicket 19 = .ok (.ldc_w 456, 3) := by decide +kernel
theorem dX11_needNoTicket_22 : decode cX11_needNoTicket 22 = .ok (.invokespecial 112, 3) := by decide +kernel
theorem dX11_needNoTicket_25 : decode cX11_needNoTicket 25 = .ok (.athrow, 1) := by decide +kernel
theorem dX11_needNoTicket_26 : decode cX11_needNoTicket 26 = .ok (.return_, 1) := by decide +kernel
theorem dX11_replace_0 : decode cX11_replace 0 = .ok (.iload_n 1, 1) := by decide +kernel
theorem dX11_replace_1 : decode cX11_replace 1 = .ok (.ifCond .lt 9, 3) := by decide +kernel
theorem dX11_replace_4 : decode cX11_replace 4 = .ok (.iload_n 1, 1) := by decide +kernel
theorem dX11_replace_5 : decode cX11_replace 5 = .ok (.aload_n 0, 1) := by decide +kernel
theorem dX11_replace_6 : decode cX11_replace 6 = .ok (.arraylength, 1) := by decide +kernel
theorem dX11_replace_7 : decode cX11_replace 7 = .ok (.if_icmp .lt 5, 3) := by decide +kernel
theorem dX11_replace_10 : decode cX11_replace 10 = .ok (.iconst (-1), 1) := by decide +kernel
theorem dX11_replace_11 : decode cX11_replace 11 = .ok (.ireturn, 1) := by decide +kernel
theorem dX11_replace_12 : decode cX11_replace 12 = .ok (.aload_n 0, 1) := by decide +kernel
theorem dX11_replace_13 : decode cX11_replace 13 = .ok (.iload_n 1, 1) := by decide +kernel
theorem dX11_replace_14 : decode cX11_replace 14 = .ok (.iaload, 1) := by decide +kernel
theorem dX11_replace_15 : decode cX11_replace 15 = .ok (.istore_n 3, 1) := by decide +kernel
theorem dX11_replace_16 : decode cX11_replace 16 = .ok (.aload_n 0, 1) := by decide +kernel
theorem dX11_replace_17 : decode cX11_replace 17 = .ok (.iload_n 1, 1) := by decide +kernel
theorem dX11_replace_18 : decode cX11_replace 18 = .ok (.iload_n 2, 1) := by decide +kernel
theorem dX11_replace_19 : decode cX11_replace 19 = .ok (.iastore, 1) := by decide +kernel
theorem dX11_replace_20 : decode cX11_replace 20 = .ok (.iload_n 3, 1) := by decide +kernel
theorem dX11_replace_21 : decode cX11_replace 21 = .ok (.ireturn, 1) := by decide +kernel
theorem dX11_copyRow_0 : decode cX11_copyRow 0 = .ok (.aload_n 0, 1) := by decide +kernel
theorem dX11_copyRow_1 : decode cX11_copyRow 1 = .ok (.iconst 0, 1) := by decide +kernel
theorem dX11_copyRow_2 : decode cX11_copyRow 2 = .ok (.aload_n 1, 1) := by decide +kernel
theorem dX11_copyRow_3 : decode cX11_copyRow 3 = .ok (.iconst 0, 1) := by decide +kernel
theorem dX11_copyRow_4 : decode cX11_copyRow 4 = .ok (.aload_n 0, 1) := by decide +kernel
theorem dX11_copyRow_5 : decode cX11_copyRow 5 = .ok (.arraylength, 1) := by decide +kernel
theorem dX11_copyRow_6 : decode cX11_copyRow 6 = .ok (.aload_n 1, 1) := by decide +kernel
theorem dX11_copyRow_7 : decode cX11_copyRow 7 = .ok (.arraylength, 1) := by decide +kernel
theorem dX11_copyRow_8 : decode cX11_copyRow 8 = .ok (.invokestatic 433, 3) := by decide +kernel
theorem dX11_copyRow_11 : decode cX11_copyRow 11 = .ok (.invokestatic 458, 3) := by decide +kernel
theorem dX11_copyRow_14 : decode cX11_copyRow 14 = .ok (.return_, 1) := by decide +kernel
theorem dX11_copyRow__0 : decode cX11_copyRow_ 0 = .ok (.aload_n 0, 1) := by decide +kernel
theorem dX11_copyRow__1 : decode cX11_copyRow_ 1 = .ok (.iconst 0, 1) := by decide +kernel
theorem dX11_copyRow__2 : decode cX11_copyRow_ 2 = .ok (.aload_n 1, 1) := by decide +kernel
theorem dX11_copyRow__3 : decode cX11_copyRow_ 3 = .ok (.iconst 0, 1) := by decide +kernel
theorem dX11_copyRow__4 : decode cX11_copyRow_ 4 = .ok (.aload_n 0, 1) := by decide +kernel
theorem dX11_copyRow__5 : decode cX11_copyRow_ 5 = .ok (.arraylength, 1) := by decide +kernel
theorem dX11_copyRow__6 : decode cX11_copyRow_ 6 = .ok (.aload_n 1, 1) := by decide +kernel
theorem dX11_copyRow__7 : decode cX11_copyRow_ 7 = .ok (.arraylength, 1) := by decide +kernel
theorem dX11_copyRow__8 : decode cX11_copyRow_ 8 = .ok (.invokestatic 433, 3) := by decide +kernel
theorem dX11_copyRow__11 : decode cX11_copyRow_ 11 = .ok (.invokestatic 458, 3) := by decide +kernel
theorem dX11_copyRow__14 : decode cX11_copyRow_ 14 = .ok (.return_, 1) := by decide +kernel
theorem dX11_fillRow_0 : decode cX11_fillRow 0 = .ok (.iconst 0, 1) := by decide +kernel
theorem dX11_fillRow_1 : decode cX11_fillRow 1 = .ok (.istore_n 2, 1) := by decide +kernel
theorem dX11_fillRow_2 : decode cX11_fillRow 2 = .ok (.iload_n 2, 1) := by decide +kernel
theorem dX11_fillRow_3 : decode cX11_fillRow 3 = .ok (.aload_n 0, 1) := by decide +kernel
theorem dX11_fillRow_4 : decode cX11_fillRow 4 = .ok (.arraylength, 1) := by decide +kernel
theorem dX11_fillRow_5 : decode cX11_fillRow 5 = .ok (.if_icmp .ge 13, 3) := by decide +kernel
theorem dX11_fillRow_8 : decode cX11_fillRow 8 = .ok (.aload_n 0, 1) := by decide +kernel
theorem dX11_fillRow_9 : decode cX11_fillRow 9 = .ok (.iload_n 2, 1) := by decide +kernel
theorem dX11_fillRow_10 : decode cX11_fillRow 10 = .ok (.iload_n 1, 1) := by decide +kernel
theorem dX11_fillRow_11 : decode cX11_fillRow 11 = .ok (.iastore, 1) := by decide +kernel
theorem dX11_fillRow_12 : decode cX11_fillRow 12 = .ok (.iinc 2 1, 3) := by decide +kernel
theorem dX11_fillRow_15 : decode cX11_fillRow 15 = .ok (.goto (-13), 3) := by decide +kernel
theorem dX11_fillRow_18 : decode cX11_fillRow 18 = .ok (.return_, 1) := by decide +kernel
theorem dX11_sumOf_0 : decode cX11_sumOf 0 = .ok (.iconst 0, 1) := by decide +kernel
theorem dX11_sumOf_1 : decode cX11_sumOf 1 = .ok (.istore_n 1, 1) := by decide +kernel
theorem dX11_sumOf_2 : decode cX11_sumOf 2 = .ok (.iconst 0, 1) := by decide +kernel
theorem dX11_sumOf_3 : decode cX11_sumOf 3 = .ok (.istore_n 2, 1) := by decide +kernel
theorem dX11_sumOf_4 : decode cX11_sumOf 4 = .ok (.iload_n 2, 1) := by decide +kernel
theorem dX11_sumOf_5 : decode cX11_sumOf 5 = .ok (.aload_n 0, 1) := by decide +kernel
theorem dX11_sumOf_6 : decode cX11_sumOf 6 = .ok (.arraylength, 1) := by decide +kernel
theorem dX11_sumOf_7 : decode cX11_sumOf 7 = .ok (.if_icmp .ge 15, 3) := by decide +kernel
theorem dX11_sumOf_10 : decode cX11_sumOf 10 = .ok (.iload_n 1, 1) := by decide +kernel
theorem dX11_sumOf_11 : decode cX11_sumOf 11 = .ok (.aload_n 0, 1) := by decide +kernel
theorem dX11_sumOf_12 : decode cX11_sumOf 12 = .ok (.iload_n 2, 1) := by decide +kernel
theorem dX11_sumOf_13 : decode cX11_sumOf 13 = .ok (.iaload, 1) := by decide +kernel
theorem dX11_sumOf_14 : decode cX11_sumOf 14 = .ok (.iadd, 1) := by decide +kernel
theorem dX11_sumOf_15 : decode cX11_sumOf 15 = .ok (.istore_n 1, 1) := by decide +kernel
theorem dX11_sumOf_16 : decode cX11_sumOf 16 = .ok (.iinc 2 1, 3) := by decide +kernel
theorem dX11_sumOf_19 : decode cX11_sumOf 19 = .ok (.goto (-15), 3) := by decide +kernel
theorem dX11_sumOf_22 : decode cX11_sumOf 22 = .ok (.iload_n 1, 1) := by decide +kernel
theorem dX11_sumOf_23 : decode cX11_sumOf 23 = .ok (.ireturn, 1) := by decide +kernel
