set_option maxRecDepth 20000 in
theorem ggL_setDate_X11_setDate : GoodIn wsL_setDate wsX11_setDate := goodIn_ca (goodIn_r _ [6, 7, 8, 9, 10, 11, 12, 13, 14, 15, 16, 17, 18, 19, 20, 21, 22, 23, 5, 24, 25, 26, 27, 28, 29, 30, 31, 32, 33, 34, 35, 36, 37, 38, 39, 40, 41, 42, 43, 44, 45, 46, 47, 48, 49, 50, 51, 52, 53, 54, 55, 56, 57, 58, 59, 60, 61, 62, 63, 64, 65, 66, 67, 68, 69, 70, 71, 72, 73, 74, 75, 76, 77, 78, 79, 80, 81, 82, 83, 84, 85, 86, 87, 88, 89, 90, 91, 92, 93, 94, 95, 96, 97, 98, 99, 100, 101, 102, 103, 104, 105, 106, 107, 108, 109, 110, 111, 112, 113, 114, 115, 116, 117, 118, 119, 120, 121, 122, 123, 124, 125, 126, 127, 128, 129, 130, 131, 132, 133, 134, 135, 136, 137, 138, 139, 140, 141, 142, 143, 144, 145, 146, 147, 148, 149, 150, 151, 152, 153, 154, 155, 156, 157, 158, 159, 160, 161, 162, 163, 164, 165, 166, 167, 168, 169, 170, 171, 172, 173, 174, 175, 176, 177, 178, 179, 180, 181, 182, 183, 184, 185, 186, 187, 188, 189, 190, 191, 192, 193, 194, 195, 196, 197, 198, 199, 200, 201, 202, 203, 204, 205, 206, 207, 208] (by decide +kernel) (by decide +kernel)) (goodIn_sub (fun _ h => List.mem_cons_of_mem _ (List.mem_append_right _ h)) (by decide +kernel))
set_option maxRecDepth 20000 in
theorem gL_setDate_X11_setDate : GoodIn wsL_setDate (wsV RL 7 RX11 yX11_setDate wsX11_setDate) := goodIn_app (goodIn_of _ (by decide +kernel)) ggL_setDate_X11_setDate
theorem dL_setDate_0 : decode cL_setDate 0 = .ok (.aload 4, 2) := by decide +kernel
theorem dL_setDate_2 : decode cL_setDate 2 = .ok (.iconst 0, 1) := by decide +kernel
theorem dL_setDate_3 : decode cL_setDate 3 = .ok (.aload_n 0, 1) := by decide +kernel
theorem dL_setDate_4 : decode cL_setDate 4 = .ok (.iload_n 1, 1) := by decide +kernel
theorem dL_setDate_5 : decode cL_setDate 5 = .ok (.iload_n 2, 1) := by decide +kernel
theorem dL_setDate_6 : decode cL_setDate 6 = .ok (.iload_n 3, 1) := by decide +kernel
theorem dL_setDate_7 : decode cL_setDate 7 = .ok (.invokevirtual 7, 3) := by decide +kernel
theorem dL_setDate_10 : decode cL_setDate 10 = .ok (.i2l, 1) := by decide +kernel
theorem dL_setDate_11 : decode cL_setDate 11 = .ok (.lastore, 1) := by decide +kernel
theorem dL_setDate_12 : decode cL_setDate 12 = .ok (.goto 7, 3) := by decide +kernel
theorem dL_setDate_15 : decode cL_setDate 15 = .ok (.astore 5, 2) := by decide +kernel
theorem dL_setDate_17 : decode cL_setDate 17 = .ok (.iconst 1, 1) := by decide +kernel
theorem dL_setDate_18 : decode cL_setDate 18 = .ok (.ireturn, 1) := by decide +kernel
theorem dL_setDate_19 : decode cL_setDate 19 = .ok (.iconst 0, 1) := by decide +kernel
theorem dL_setDate_20 : decode cL_setDate 20 = .ok (.ireturn, 1) := by decide +kernel
set_option maxRecDepth 20000 in
theorem ggL_setOpen_X11_setOpen : GoodIn wsL_setOpen wsX11_setOpen := goodIn_ca (goodIn_r _ [6, 7, 8, 9, 10, 5, 11, 12, 13, 14, 15, 16, 17, 18, 19, 20, 21, 22, 23, 24, 25, 26, 27, 28, 29, 30, 31, 32, 33, 34, 35, 36, 37, 38, 39, 40, 41, 42, 43, 44, 45, 46, 47, 48, 49, 50, 51, 52, 53, 54, 55, 56, 57, 58, 59, 60, 61, 62, 63, 64, 65, 66, 67, 68, 69, 70, 71, 72, 73, 74, 75, 76, 77, 78, 79, 80, 81, 82, 83, 84, 85, 86, 87, 88, 89, 90, 91, 92, 93, 94, 95, 96, 97, 98, 99, 100, 101, 102, 103, 104, 105, 106, 107, 108, 109, 110, 111, 112, 113, 114, 115, 116, 117, 118, 119, 120, 121, 122, 123, 124, 125, 126, 127, 128, 129, 130, 131, 132, 133, 134, 135, 136, 137, 138, 139, 140, 141, 142, 143, 144, 145, 146, 147, 148, 149, 150, 151, 152, 153, 154, 155, 156, 157, 158, 159, 160, 161, 162, 163, 164, 165, 166, 167, 168, 169, 170, 171, 172, 173, 174, 175, 176, 177, 178, 179, 180, 181, 182, 183, 184, 185, 186, 187, 188, 189, 190, 191, 192, 193, 194, 195, 196, 197, 198, 199, 200, 201, 202, 203, 204, 205] (by decide +kernel) (by decide +kernel)) (goodIn_sub (fun _ h => List.mem_cons_of_mem _ (List.mem_append_right _ h)) (by decide +kernel))
set_option maxRecDepth 20000 in
theorem gL_setOpen_X11_setOpen : GoodIn wsL_setOpen (wsV RL 15 RX11 yX11_setOpen wsX11_setOpen) := goodIn_app (goodIn_of _ (by decide +kernel)) ggL_setOpen_X11_setOpen
theorem dL_setOpen_0 : decode cL_setOpen 0 = .ok (.aload_n 3, 1) := by decide +kernel
theorem dL_setOpen_1 : decode cL_setOpen 1 = .ok (.iconst 0, 1) := by decide +kernel
theorem dL_setOpen_2 : decode cL_setOpen 2 = .ok (.aload_n 0, 1) := by decide +kernel
theorem dL_setOpen_3 : decode cL_setOpen 3 = .ok (.iload_n 1, 1) := by decide +kernel
theorem dL_setOpen_4 : decode cL_setOpen 4 = .ok (.iload_n 2, 1) := by decide +kernel
theorem dL_setOpen_5 : decode cL_setOpen 5 = .ok (.invokevirtual 15, 3) := by decide +kernel
theorem dL_setOpen_8 : decode cL_setOpen 8 = .ok (.ifCond .eq 7, 3) := by decide +kernel
theorem dL_setOpen_11 : decode cL_setOpen 11 = .ok (.lconst 1, 1) := by decide +kernel
theorem dL_setOpen_12 : decode cL_setOpen 12 = .ok (.goto 4, 3) := by decide +kernel
theorem dL_setOpen_15 : decode cL_setOpen 15 = .ok (.lconst 0, 1) := by decide +kernel
theorem dL_setOpen_16 : decode cL_setOpen 16 = .ok (.lastore, 1) := by decide +kernel
theorem dL_setOpen_17 : decode cL_setOpen 17 = .ok (.goto 7, 3) := by decide +kernel
theorem dL_setOpen_20 : decode cL_setOpen 20 = .ok (.astore 4, 2) := by decide +kernel
theorem dL_setOpen_22 : decode cL_setOpen 22 = .ok (.iconst 1, 1) := by decide +kernel
theorem dL_setOpen_23 : decode cL_setOpen 23 = .ok (.ireturn, 1) := by decide +kernel
theorem dL_setOpen_24 : decode cL_setOpen 24 = .ok (.iconst 0, 1) := by decide +kernel
theorem dL_setOpen_25 : decode cL_setOpen 25 = .ok (.ireturn, 1) := by decide +kernel
set_option maxRecDepth 20000 in
theorem ggL_setWay_X11_setWay : GoodIn wsL_setWay wsX11_setWay := goodIn_ca (goodIn_ca (goodIn_r _ [7, 8, 9, 10, 11, 6, 12, 13, 14, 15, 16, 17, 18, 19, 20, 21, 22, 23, 24, 25, 26, 27, 28, 29, 30, 31, 32, 33, 34, 35, 36, 37, 38, 39, 40, 41, 42, 43, 44, 45, 46, 47, 48, 49, 50, 51, 52, 53, 54, 55, 56, 57, 58, 59, 60, 61, 62, 63, 64, 65, 66, 67, 68, 69, 70, 71, 72, 73, 74, 75, 76, 77, 78, 79, 80, 81, 82, 83, 84, 85, 86, 87, 88, 89, 90, 91, 92, 93, 94, 95, 96, 97, 98, 99, 100, 101, 102, 103, 104, 105, 106, 107, 108, 109, 110, 111, 112, 113, 114, 115, 116, 117, 118, 119, 120, 121, 122, 123, 124, 125, 126, 127, 128, 129, 130, 131, 132, 133, 134, 135, 136, 137, 138, 139, 140, 141, 142, 143, 144, 145, 146, 147, 148, 149, 150, 151, 152, 153, 154, 155, 156, 157, 158, 159, 160, 161, 162, 163, 164, 165, 166, 167, 168, 169, 170, 171, 172, 173, 174, 175, 176, 177, 178, 179, 180, 181, 182, 183, 184, 185, 186, 187, 188, 189, 190, 191, 192, 193, 194, 195, 196, 197, 198, 199, 200, 201, 202, 203, 204, 205, 206, 207, 208, 209, 210, 211, 212, 213, 214, 215, 216, 217, 218, 219, 220, 221] (by decide +kernel) (by decide +kernel)) (goodIn_sub (fun _ h => List.mem_cons_of_mem _ (List.mem_append_left _ (List.mem_append_right _ h))) (by decide +kernel))) (goodIn_sub (fun _ h => List.mem_cons_of_mem _ (List.mem_append_right _ h)) (by decide +kernel))
set_option maxRecDepth 20000 in
theorem gL_setWay_X11_setWay : GoodIn wsL_setWay (wsV RL 21 RX11 yX11_setWay wsX11_setWay) := goodIn_app (goodIn_of _ (by decide +kernel)) ggL_setWay_X11_setWay
theorem dL_setWay_0 : decode cL_setWay 0 = .ok (.aload 4, 2) := by decide +kernel
theorem dL_setWay_2 : decode cL_setWay 2 = .ok (.iconst 0, 1) := by decide +kernel
theorem dL_setWay_3 : decode cL_setWay 3 = .ok (.aload_n 0, 1) := by decide +kernel
theorem dL_setWay_4 : decode cL_setWay 4 = .ok (.iload_n 1, 1) := by decide +kernel
theorem dL_setWay_5 : decode cL_setWay 5 = .ok (.iload_n 2, 1) := by decide +kernel
theorem dL_setWay_6 : decode cL_setWay 6 = .ok (.iload_n 3, 1) := by decide +kernel
theorem dL_setWay_7 : decode cL_setWay 7 = .ok (.invokevirtual 21, 3) := by decide +kernel
theorem dL_setWay_10 : decode cL_setWay 10 = .ok (.i2l, 1) := by decide +kernel
theorem dL_setWay_11 : decode cL_setWay 11 = .ok (.lastore, 1) := by decide +kernel
theorem dL_setWay_12 : decode cL_setWay 12 = .ok (.goto 11, 3) := by decide +kernel
theorem dL_setWay_15 : decode cL_setWay 15 = .ok (.astore 5, 2) := by decide +kernel
theorem dL_setWay_17 : decode cL_setWay 17 = .ok (.iconst 1, 1) := by decide +kernel
theorem dL_setWay_18 : decode cL_setWay 18 = .ok (.ireturn, 1) := by decide +kernel
theorem dL_setWay_19 : decode cL_setWay 19 = .ok (.astore 5, 2) := by decide +kernel
theorem dL_setWay_21 : decode cL_setWay 21 = .ok (.iconst 2, 1) := by decide +kernel
theorem dL_setWay_22 : decode cL_setWay 22 = .ok (.ireturn, 1) := by decide +kernel
theorem dL_setWay_23 : decode cL_setWay 23 = .ok (.iconst 0, 1) := by decide +kernel
theorem dL_setWay_24 : decode cL_setWay 24 = .ok (.ireturn, 1) := by decide +kernel
set_option maxRecDepth 20000 in
theorem ggL_act_X11_act : GoodIn wsL_act wsX11_act := goodIn_ca (goodIn_ca (goodIn_ca (goodIn_r _ [8, 9, 10, 11, 12, 13, 14, 7, 15, 16, 17, 18, 19, 20, 21, 22, 23, 24, 25, 26, 27, 28, 29, 30, 31, 32, 33, 34, 35, 36, 37, 38, 39, 40, 41, 42, 43, 44, 45, 46, 47, 48, 49, 50, 51, 52, 53, 54, 55, 56, 57, 58, 59, 60, 61, 62, 63, 64, 65, 66, 67, 68, 69, 70, 71, 72, 73, 74, 75, 76, 77, 78, 79, 80, 81, 82, 83, 84, 85, 86, 87, 88, 89, 90, 91, 92, 93, 94, 95, 96, 97, 98, 99, 100, 101, 102, 103, 104, 105, 106, 107, 108, 109, 110, 111, 112, 113, 114, 115, 116, 117, 118, 119, 120, 121, 122, 123, 124, 125, 126, 127, 128, 129, 130, 131, 132, 133, 134, 135, 136, 137, 138, 139, 140, 141, 142, 143, 144, 145, 146, 147, 148, 149, 150, 151, 152, 153, 154, 155, 156, 157, 158, 159, 160, 161, 162, 163, 164, 165, 166, 167, 168, 169, 170, 171, 172, 173, 174, 175, 176, 177, 178, 179, 180, 181, 182, 183, 184, 185, 186, 187, 188, 189, 190, 191, 192, 193, 194, 195, 196, 197, 198, 199, 200, 201, 202, 203, 204, 205, 206, 207, 208, 209, 210, 211, 212, 213, 214, 215, 216, 217, 218, 219, 220] (by decide +kernel) (by decide +kernel)) (goodIn_sub (fun _ h => List.mem_cons_of_mem _ (List.mem_append_left _ (List.mem_append_left _ (List.mem_append_right _ h)))) (by decide +kernel))) (goodIn_sub (fun _ h => List.mem_cons_of_mem _ (List.mem_append_left _ (List.mem_append_right _ h))) (by decide +kernel))) (goodIn_sub (fun _ h => List.mem_cons_of_mem _ (List.mem_append_right _ h)) (by decide +kernel))
set_option maxRecDepth 20000 in
theorem gL_act_X11_act : GoodIn wsL_act (wsV RL 24 RX11 yX11_act wsX11_act) := goodIn_app (goodIn_of _ (by decide +kernel)) ggL_act_X11_act
theorem dL_act_0 : decode cL_act 0 = .ok (.aload 6, 2) := by decide +kernel
theorem dL_act_2 : decode cL_act 2 = .ok (.iconst 0, 1) := by decide +kernel
theorem dL_act_3 : decode cL_act 3 = .ok (.aload_n 0, 1) := by decide +kernel
theorem dL_act_4 : decode cL_act 4 = .ok (.iload_n 1, 1) := by decide +kernel
theorem dL_act_5 : decode cL_act 5 = .ok (.iload_n 2, 1) := by decide +kernel
theorem dL_act_6 : decode cL_act 6 = .ok (.iload_n 3, 1) := by decide +kernel
theorem dL_act_7 : decode cL_act 7 = .ok (.iload 4, 2) := by decide +kernel
theorem dL_act_9 : decode cL_act 9 = .ok (.iload 5, 2) := by decide +kernel
theorem dL_act_11 : decode cL_act 11 = .ok (.invokevirtual 24, 3) := by decide +kernel
theorem dL_act_14 : decode cL_act 14 = .ok (.i2l, 1) := by decide +kernel
theorem dL_act_15 : decode cL_act 15 = .ok (.lastore, 1) := by decide +kernel
theorem dL_act_16 : decode cL_act 16 = .ok (.goto 15, 3) := by decide +kernel
theorem dL_act_19 : decode cL_act 19 = .ok (.astore 7, 2) := by decide +kernel
theorem dL_act_21 : decode cL_act 21 = .ok (.iconst 1, 1) := by decide +kernel
theorem dL_act_22 : decode cL_act 22 = .ok (.ireturn, 1) := by decide +kernel
theorem dL_act_23 : decode cL_act 23 = .ok (.astore 7, 2) := by decide +kernel
theorem dL_act_25 : decode cL_act 25 = .ok (.iconst 2, 1) := by decide +kernel
theorem dL_act_26 : decode cL_act 26 = .ok (.ireturn, 1) := by decide +kernel
theorem dL_act_27 : decode cL_act 27 = .ok (.astore 7, 2) := by decide +kernel
theorem dL_act_29 : decode cL_act 29 = .ok (.iconst 3, 1) := by decide +kernel
theorem dL_act_30 : decode cL_act 30 = .ok (.ireturn, 1) := by decide +kernel
theorem dL_act_31 : decode cL_act 31 = .ok (.iconst 0, 1) := by decide +kernel
theorem dL_act_32 : decode cL_act 32 = .ok (.ireturn, 1) := by decide +kernel
set_option maxRecDepth 20000 in
theorem ggL_drop_X11_drop : GoodIn wsL_drop wsX11_drop := goodIn_ca (goodIn_r _ [6, 7, 8, 9, 10, 11, 5, 12, 13, 14, 15, 16, 17, 18, 19, 20, 21, 22, 23, 24, 25, 26, 27, 28, 29, 30, 31, 32, 33, 34, 35, 36, 37, 38, 39, 40, 41, 42, 43, 44, 45, 46, 47, 48, 49, 50, 51, 52, 53, 54, 55, 56, 57, 58, 59, 60, 61, 62, 63, 64, 65, 66, 67, 68, 69, 70, 71, 72, 73, 74, 75, 76, 77, 78, 79, 80, 81, 82, 83, 84, 85, 86, 87, 88, 89, 90, 91, 92, 93, 94, 95, 96, 97, 98, 99, 100, 101, 102, 103, 104, 105, 106, 107, 108, 109, 110, 111, 112, 113, 114, 115, 116, 117, 118, 119, 120, 121, 122, 123, 124, 125, 126, 127, 128, 129, 130, 131, 132, 133, 134, 135, 136, 137, 138, 139, 140, 141, 142, 143, 144, 145, 146, 147, 148, 149, 150, 151, 152, 153, 154, 155, 156, 157, 158, 159, 160, 161, 162, 163, 164, 165, 166, 167, 168, 169, 170, 171, 172, 173, 174, 175, 176, 177, 178, 179, 180, 181, 182, 183, 184, 185, 186, 187, 188, 189, 190, 191, 192, 193, 194, 195, 196, 197, 198, 199, 200, 201, 202, 203, 204, 205, 206, 207, 208, 209, 210, 211, 212, 213, 214, 215, 216, 217] (by decide +kernel) (by decide +kernel)) (goodIn_sub (fun _ h => List.mem_cons_of_mem _ (List.mem_append_right _ h)) (by decide +kernel))
set_option maxRecDepth 20000 in
theorem gL_drop_X11_drop : GoodIn wsL_drop (wsV RL 30 RX11 yX11_drop wsX11_drop) := goodIn_app (goodIn_of _ (by decide +kernel)) ggL_drop_X11_drop
theorem dL_drop_0 : decode cL_drop 0 = .ok (.aload_n 2, 1) := by decide +kernel
theorem dL_drop_1 : decode cL_drop 1 = .ok (.iconst 0, 1) := by decide +kernel
theorem dL_drop_2 : decode cL_drop 2 = .ok (.aload_n 0, 1) := by decide +kernel
theorem dL_drop_3 : decode cL_drop 3 = .ok (.iload_n 1, 1) := by decide +kernel
theorem dL_drop_4 : decode cL_drop 4 = .ok (.invokevirtual 30, 3) := by decide +kernel
theorem dL_drop_7 : decode cL_drop 7 = .ok (.i2l, 1) := by decide +kernel
theorem dL_drop_8 : decode cL_drop 8 = .ok (.lastore, 1) := by decide +kernel
theorem dL_drop_9 : decode cL_drop 9 = .ok (.goto 6, 3) := by decide +kernel
theorem dL_drop_12 : decode cL_drop 12 = .ok (.astore_n 3, 1) := by decide +kernel
theorem dL_drop_13 : decode cL_drop 13 = .ok (.iconst 1, 1) := by decide +kernel
theorem dL_drop_14 : decode cL_drop 14 = .ok (.ireturn, 1) := by decide +kernel
theorem dL_drop_15 : decode cL_drop 15 = .ok (.iconst 0, 1) := by decide +kernel
theorem dL_drop_16 : decode cL_drop 16 = .ok (.ireturn, 1) := by decide +kernel
set_option maxRecDepth 20000 in
theorem ggL_wish_X11_wish : GoodIn wsL_wish wsX11_wish := goodIn_ca (goodIn_ca (goodIn_r _ [7, 8, 9, 10, 11, 12, 6, 13, 14, 15, 16, 17, 18, 19, 20, 21, 22, 23, 24, 25, 26, 27, 28, 29, 30, 31, 32, 33, 34, 35, 36, 37, 38, 39, 40, 41, 42, 43, 44, 45, 46, 47, 48, 49, 50, 51, 52, 53, 54, 55, 56, 57, 58, 59, 60, 61, 62, 63, 64, 65, 66, 67, 68, 69, 70, 71, 72, 73, 74, 75, 76, 77, 78, 79, 80, 81, 82, 83, 84, 85, 86, 87, 88, 89, 90, 91, 92, 93, 94, 95, 96, 97, 98, 99, 100, 101, 102, 103, 104, 105, 106, 107, 108, 109, 110, 111, 112, 113, 114, 115, 116, 117, 118, 119, 120, 121, 122, 123, 124, 125, 126, 127, 128, 129, 130, 131, 132, 133, 134, 135, 136, 137, 138, 139, 140, 141, 142, 143, 144, 145, 146, 147, 148, 149, 150, 151, 152, 153, 154, 155, 156, 157, 158, 159, 160, 161, 162, 163, 164, 165, 166, 167, 168, 169, 170, 171, 172, 173, 174, 175, 176, 177, 178, 179, 180, 181, 182, 183, 184, 185, 186, 187, 188, 189, 190, 191, 192, 193, 194, 195, 196, 197, 198, 199, 200, 201, 202, 203, 204, 205, 206, 207, 208, 209, 210, 211, 212, 213, 214, 215] (by decide +kernel) (by decide +kernel)) (goodIn_sub (fun _ h => List.mem_cons_of_mem _ (List.mem_append_left _ (List.mem_append_right _ h))) (by decide +kernel))) (goodIn_sub (fun _ h => List.mem_cons_of_mem _ (List.mem_append_right _ h)) (by decide +kernel))
set_option maxRecDepth 20000 in
theorem gL_wish_X11_wish : GoodIn wsL_wish (wsV RL 34 RX11 yX11_wish wsX11_wish) := goodIn_app (goodIn_of _ (by decide +kernel)) ggL_wish_X11_wish
theorem dL_wish_0 : decode cL_wish 0 = .ok (.aload 4, 2) := by decide +kernel
theorem dL_wish_2 : decode cL_wish 2 = .ok (.iconst 0, 1) := by decide +kernel
theorem dL_wish_3 : decode cL_wish 3 = .ok (.aload_n 0, 1) := by decide +kernel
theorem dL_wish_4 : decode cL_wish 4 = .ok (.iload_n 1, 1) := by decide +kernel
theorem dL_wish_5 : decode cL_wish 5 = .ok (.iload_n 2, 1) := by decide +kernel
theorem dL_wish_6 : decode cL_wish 6 = .ok (.iload_n 3, 1) := by decide +kernel
theorem dL_wish_7 : decode cL_wish 7 = .ok (.invokevirtual 34, 3) := by decide +kernel
theorem dL_wish_10 : decode cL_wish 10 = .ok (.i2l, 1) := by decide +kernel
theorem dL_wish_11 : decode cL_wish 11 = .ok (.lastore, 1) := by decide +kernel
theorem dL_wish_12 : decode cL_wish 12 = .ok (.goto 11, 3) := by decide +kernel
theorem dL_wish_15 : decode cL_wish 15 = .ok (.astore 5, 2) := by decide +kernel
theorem dL_wish_17 : decode cL_wish 17 = .ok (.iconst 1, 1) := by decide +kernel
theorem dL_wish_18 : decode cL_wish 18 = .ok (.ireturn, 1) := by decide +kernel
theorem dL_wish_19 : decode cL_wish 19 = .ok (.astore 5, 2) := by decide +kernel
theorem dL_wish_21 : decode cL_wish 21 = .ok (.iconst 2, 1) := by decide +kernel
theorem dL_wish_22 : decode cL_wish 22 = .ok (.ireturn, 1) := by decide +kernel
theorem dL_wish_23 : decode cL_wish 23 = .ok (.iconst 0, 1) := by decide +kernel
theorem dL_wish_24 : decode cL_wish 24 = .ok (.ireturn, 1) := by decide +kernel
set_option maxRecDepth 20000 in
theorem ggL_setGate_X11_setGate : GoodIn wsL_setGate wsX11_setGate := goodIn_ca (goodIn_ca (goodIn_r _ [7, 8, 9, 10, 11, 12, 6, 13, 14, 15, 16, 17, 18, 19, 20, 21, 22, 23, 24, 25, 26, 27, 28, 29, 30, 31, 32, 33, 34, 35, 36, 37, 38, 39, 40, 41, 42, 43, 44, 45, 46, 47, 48, 49, 50, 51, 52, 53, 54, 55, 56, 57, 58, 59, 60, 61, 62, 63, 64, 65, 66, 67, 68, 69, 70, 71, 72, 73, 74, 75, 76, 77, 78, 79, 80, 81, 82, 83, 84, 85, 86, 87, 88, 89, 90, 91, 92, 93, 94, 95, 96, 97, 98, 99, 100, 101, 102, 103, 104, 105, 106, 107, 108, 109, 110, 111, 112, 113, 114, 115, 116, 117, 118, 119, 120, 121, 122, 123, 124, 125, 126, 127, 128, 129, 130, 131, 132, 133, 134, 135, 136, 137, 138, 139, 140, 141, 142, 143, 144, 145, 146, 147, 148, 149, 150, 151, 152, 153, 154, 155, 156, 157, 158, 159, 160, 161, 162, 163, 164, 165, 166, 167, 168, 169, 170, 171, 172, 173, 174, 175, 176, 177, 178, 179, 180, 181, 182, 183, 184, 185, 186, 187, 188, 189, 190, 191, 192, 193, 194, 195, 196, 197, 198, 199, 200, 201, 202, 203, 204, 205, 206, 207] (by decide +kernel) (by decide +kernel)) (goodIn_sub (fun _ h => List.mem_cons_of_mem _ (List.mem_append_left _ (List.mem_append_right _ h))) (by decide +kernel))) (goodIn_sub (fun _ h => List.mem_cons_of_mem _ (List.mem_append_right _ h)) (by decide +kernel))
set_option maxRecDepth 20000 in
theorem gL_setGate_X11_setGate : GoodIn wsL_setGate (wsV RL 37 RX11 yX11_setGate wsX11_setGate) := goodIn_app (goodIn_of _ (by decide +kernel)) ggL_setGate_X11_setGate
theorem dL_setGate_0 : decode cL_setGate 0 = .ok (.aload_n 3, 1) := by decide +kernel
theorem dL_setGate_1 : decode cL_setGate 1 = .ok (.iconst 0, 1) := by decide +kernel
theorem dL_setGate_2 : decode cL_setGate 2 = .ok (.aload_n 0, 1) := by decide +kernel
theorem dL_setGate_3 : decode cL_setGate 3 = .ok (.iload_n 1, 1) := by decide +kernel
theorem dL_setGate_4 : decode cL_setGate 4 = .ok (.iload_n 2, 1) := by decide +kernel
theorem dL_setGate_5 : decode cL_setGate 5 = .ok (.invokevirtual 37, 3) := by decide +kernel
theorem dL_setGate_8 : decode cL_setGate 8 = .ok (.i2l, 1) := by decide +kernel
theorem dL_setGate_9 : decode cL_setGate 9 = .ok (.lastore, 1) := by decide +kernel
theorem dL_setGate_10 : decode cL_setGate 10 = .ok (.goto 11, 3) := by decide +kernel
theorem dL_setGate_13 : decode cL_setGate 13 = .ok (.astore 4, 2) := by decide +kernel
theorem dL_setGate_15 : decode cL_setGate 15 = .ok (.iconst 1, 1) := by decide +kernel
theorem dL_setGate_16 : decode cL_setGate 16 = .ok (.ireturn, 1) := by decide +kernel
theorem dL_setGate_17 : decode cL_setGate 17 = .ok (.astore 4, 2) := by decide +kernel
theorem dL_setGate_19 : decode cL_setGate 19 = .ok (.iconst 2, 1) := by decide +kernel
theorem dL_setGate_20 : decode cL_setGate 20 = .ok (.ireturn, 1) := by decide +kernel
theorem dL_setGate_21 : decode cL_setGate 21 = .ok (.iconst 0, 1) := by decide +kernel
theorem dL_setGate_22 : decode cL_setGate 22 = .ok (.ireturn, 1) := by decide +kernel
set_option maxRecDepth 20000 in
theorem ggL_setReach_X11_setReach : GoodIn wsL_setReach wsX11_setReach := goodIn_ca (goodIn_ca (goodIn_r _ [7, 8, 9, 10, 11, 12, 6, 13, 14, 15, 16, 17, 18, 19, 20, 21, 22, 23, 24, 25, 26, 27, 28, 29, 30, 31, 32, 33, 34, 35, 36, 37, 38, 39, 40, 41, 42, 43, 44, 45, 46, 47, 48, 49, 50, 51, 52, 53, 54, 55, 56, 57, 58, 59, 60, 61, 62, 63, 64, 65, 66, 67, 68, 69, 70, 71, 72, 73, 74, 75, 76, 77, 78, 79, 80, 81, 82, 83, 84, 85, 86, 87, 88, 89, 90, 91, 92, 93, 94, 95, 96, 97, 98, 99, 100, 101, 102, 103, 104, 105, 106, 107, 108, 109, 110, 111, 112, 113, 114, 115, 116, 117, 118, 119, 120, 121, 122, 123, 124, 125, 126, 127, 128, 129, 130, 131, 132, 133, 134, 135, 136, 137, 138, 139, 140, 141, 142, 143, 144, 145, 146, 147, 148, 149, 150, 151, 152, 153, 154, 155, 156, 157, 158, 159, 160, 161, 162, 163, 164, 165, 166, 167, 168, 169, 170, 171, 172, 173, 174, 175, 176, 177, 178, 179, 180, 181, 182, 183, 184, 185, 186, 187, 188, 189, 190, 191, 192, 193, 194, 195, 196, 197, 198, 199, 200, 201, 202, 203, 204, 205, 206, 207] (by decide +kernel) (by decide +kernel)) (goodIn_sub (fun _ h => List.mem_cons_of_mem _ (List.mem_append_left _ (List.mem_append_right _ h))) (by decide +kernel))) (goodIn_sub (fun _ h => List.mem_cons_of_mem _ (List.mem_append_right _ h)) (by decide +kernel))
set_option maxRecDepth 20000 in
theorem gL_setReach_X11_setReach : GoodIn wsL_setReach (wsV RL 41 RX11 yX11_setReach wsX11_setReach) := goodIn_app (goodIn_of _ (by decide +kernel)) ggL_setReach_X11_setReach
theorem dL_setReach_0 : decode cL_setReach 0 = .ok (.aload 4, 2) := by decide +kernel
theorem dL_setReach_2 : decode cL_setReach 2 = .ok (.iconst 0, 1) := by decide +kernel
theorem dL_setReach_3 : decode cL_setReach 3 = .ok (.aload_n 0, 1) := by decide +kernel
theorem dL_setReach_4 : decode cL_setReach 4 = .ok (.iload_n 1, 1) := by decide +kernel
theorem dL_setReach_5 : decode cL_setReach 5 = .ok (.iload_n 2, 1) := by decide +kernel
theorem dL_setReach_6 : decode cL_setReach 6 = .ok (.iload_n 3, 1) := by decide +kernel
theorem dL_setReach_7 : decode cL_setReach 7 = .ok (.invokevirtual 41, 3) := by decide +kernel
theorem dL_setReach_10 : decode cL_setReach 10 = .ok (.i2l, 1) := by decide +kernel
theorem dL_setReach_11 : decode cL_setReach 11 = .ok (.lastore, 1) := by decide +kernel
theorem dL_setReach_12 : decode cL_setReach 12 = .ok (.goto 11, 3) := by decide +kernel
theorem dL_setReach_15 : decode cL_setReach 15 = .ok (.astore 5, 2) := by decide +kernel
theorem dL_setReach_17 : decode cL_setReach 17 = .ok (.iconst 1, 1) := by decide +kernel
theorem dL_setReach_18 : decode cL_setReach 18 = .ok (.ireturn, 1) := by decide +kernel
theorem dL_setReach_19 : decode cL_setReach 19 = .ok (.astore 5, 2) := by decide +kernel
theorem dL_setReach_21 : decode cL_setReach 21 = .ok (.iconst 2, 1) := by decide +kernel
theorem dL_setReach_22 : decode cL_setReach 22 = .ok (.ireturn, 1) := by decide +kernel
theorem dL_setReach_23 : decode cL_setReach 23 = .ok (.iconst 0, 1) := by decide +kernel
theorem dL_setReach_24 : decode cL_setReach 24 = .ok (.ireturn, 1) := by decide +kernel
set_option maxRecDepth 20000 in
theorem ggL_setCrowd_X11_setCrowd : GoodIn wsL_setCrowd wsX11_setCrowd := goodIn_ca (goodIn_ca (goodIn_r _ [7, 8, 9, 10, 11, 12, 6, 13, 14, 15, 16, 17, 18, 19, 20, 21, 22, 23, 24, 25, 26, 27, 28, 29, 30, 31, 32, 33, 34, 35, 36, 37, 38, 39, 40, 41, 42, 43, 44, 45, 46, 47, 48, 49, 50, 51, 52, 53, 54, 55, 56, 57, 58, 59, 60, 61, 62, 63, 64, 65, 66, 67, 68, 69, 70, 71, 72, 73, 74, 75, 76, 77, 78, 79, 80, 81, 82, 83, 84, 85, 86, 87, 88, 89, 90, 91, 92, 93, 94, 95, 96, 97, 98, 99, 100, 101, 102, 103, 104, 105, 106, 107, 108, 109, 110, 111, 112, 113, 114, 115, 116, 117, 118, 119, 120, 121, 122, 123, 124, 125, 126, 127, 128, 129, 130, 131, 132, 133, 134, 135, 136, 137, 138, 139, 140, 141, 142, 143, 144, 145, 146, 147, 148, 149, 150, 151, 152, 153, 154, 155, 156, 157, 158, 159, 160, 161, 162, 163, 164, 165, 166, 167, 168, 169, 170, 171, 172, 173, 174, 175, 176, 177, 178, 179, 180, 181, 182, 183, 184, 185, 186, 187, 188, 189, 190, 191, 192, 193, 194, 195, 196, 197, 198, 199, 200, 201, 202, 203, 204, 205, 206, 207] (by decide +kernel) (by decide +kernel)) (goodIn_sub (fun _ h => List.mem_cons_of_mem _ (List.mem_append_left _ (List.mem_append_right _ h))) (by decide +kernel))) (goodIn_sub (fun _ h => List.mem_cons_of_mem _ (List.mem_append_right _ h)) (by decide +kernel))
set_option maxRecDepth 20000 in
theorem gL_setCrowd_X11_setCrowd : GoodIn wsL_setCrowd (wsV RL 44 RX11 yX11_setCrowd wsX11_setCrowd) := goodIn_app (goodIn_of _ (by decide +kernel)) ggL_setCrowd_X11_setCrowd
theorem dL_setCrowd_0 : decode cL_setCrowd 0 = .ok (.aload_n 3, 1) := by decide +kernel
theorem dL_setCrowd_1 : decode cL_setCrowd 1 = .ok (.iconst 0, 1) := by decide +kernel
theorem dL_setCrowd_2 : decode cL_setCrowd 2 = .ok (.aload_n 0, 1) := by decide +kernel
theorem dL_setCrowd_3 : decode cL_setCrowd 3 = .ok (.iload_n 1, 1) := by decide +kernel
theorem dL_setCrowd_4 : decode cL_setCrowd 4 = .ok (.iload_n 2, 1) := by decide +kernel
theorem dL_setCrowd_5 : decode cL_setCrowd 5 = .ok (.invokevirtual 44, 3) := by decide +kernel
theorem dL_setCrowd_8 : decode cL_setCrowd 8 = .ok (.i2l, 1) := by decide +kernel
theorem dL_setCrowd_9 : decode cL_setCrowd 9 = .ok (.lastore, 1) := by decide +kernel
theorem dL_setCrowd_10 : decode cL_setCrowd 10 = .ok (.goto 11, 3) := by decide +kernel
theorem dL_setCrowd_13 : decode cL_setCrowd 13 = .ok (.astore 4, 2) := by decide +kernel
theorem dL_setCrowd_15 : decode cL_setCrowd 15 = .ok (.iconst 1, 1) := by decide +kernel
theorem dL_setCrowd_16 : decode cL_setCrowd 16 = .ok (.ireturn, 1) := by decide +kernel
theorem dL_setCrowd_17 : decode cL_setCrowd 17 = .ok (.astore 4, 2) := by decide +kernel
theorem dL_setCrowd_19 : decode cL_setCrowd 19 = .ok (.iconst 2, 1) := by decide +kernel
theorem dL_setCrowd_20 : decode cL_setCrowd 20 = .ok (.ireturn, 1) := by decide +kernel
theorem dL_setCrowd_21 : decode cL_setCrowd 21 = .ok (.iconst 0, 1) := by decide +kernel
theorem dL_setCrowd_22 : decode cL_setCrowd 22 = .ok (.ireturn, 1) := by decide +kernel
set_option maxRecDepth 20000 in
theorem ggL_setServing_X11_setServing : GoodIn wsL_setServing wsX11_setServing := goodIn_ca (goodIn_r _ [6, 7, 8, 9, 10, 11, 5, 12, 13, 14, 15, 16, 17, 18, 19, 20, 21, 22, 23, 24, 25, 26, 27, 28, 29, 30, 31, 32, 33, 34, 35, 36, 37, 38, 39, 40, 41, 42, 43, 44, 45, 46, 47, 48, 49, 50, 51, 52, 53, 54, 55, 56, 57, 58, 59, 60, 61, 62, 63, 64, 65, 66, 67, 68, 69, 70, 71, 72, 73, 74, 75, 76, 77, 78, 79, 80, 81, 82, 83, 84, 85, 86, 87, 88, 89, 90, 91, 92, 93, 94, 95, 96, 97, 98, 99, 100, 101, 102, 103, 104, 105, 106, 107, 108, 109, 110, 111, 112, 113, 114, 115, 116, 117, 118, 119, 120, 121, 122, 123, 124, 125, 126, 127, 128, 129, 130, 131, 132, 133, 134, 135, 136, 137, 138, 139, 140, 141, 142, 143, 144, 145, 146, 147, 148, 149, 150, 151, 152, 153, 154, 155, 156, 157, 158, 159, 160, 161, 162, 163, 164, 165, 166, 167, 168, 169, 170, 171, 172, 173, 174, 175, 176, 177, 178, 179, 180, 181, 182, 183, 184, 185, 186, 187, 188, 189, 190, 191, 192, 193, 194, 195, 196, 197, 198] (by decide +kernel) (by decide +kernel)) (goodIn_sub (fun _ h => List.mem_cons_of_mem _ (List.mem_append_right _ h)) (by decide +kernel))
set_option maxRecDepth 20000 in
theorem gL_setServing_X11_setServing : GoodIn wsL_setServing (wsV RL 47 RX11 yX11_setServing wsX11_setServing) := goodIn_app (goodIn_of _ (by decide +kernel)) ggL_setServing_X11_setServing
theorem dL_setServing_0 : decode cL_setServing 0 = .ok (.aload_n 2, 1) := by decide +kernel
theorem dL_setServing_1 : decode cL_setServing 1 = .ok (.iconst 0, 1) := by decide +kernel
theorem dL_setServing_2 : decode cL_setServing 2 = .ok (.aload_n 0, 1) := by decide +kernel
theorem dL_setServing_3 : decode cL_setServing 3 = .ok (.iload_n 1, 1) := by decide +kernel
theorem dL_setServing_4 : decode cL_setServing 4 = .ok (.invokevirtual 47, 3) := by decide +kernel
theorem dL_setServing_7 : decode cL_setServing 7 = .ok (.i2l, 1) := by decide +kernel
theorem dL_setServing_8 : decode cL_setServing 8 = .ok (.lastore, 1) := by decide +kernel
theorem dL_setServing_9 : decode cL_setServing 9 = .ok (.goto 6, 3) := by decide +kernel
theorem dL_setServing_12 : decode cL_setServing 12 = .ok (.astore_n 3, 1) := by decide +kernel
theorem dL_setServing_13 : decode cL_setServing 13 = .ok (.iconst 1, 1) := by decide +kernel
theorem dL_setServing_14 : decode cL_setServing 14 = .ok (.ireturn, 1) := by decide +kernel
theorem dL_setServing_15 : decode cL_setServing 15 = .ok (.iconst 0, 1) := by decide +kernel
theorem dL_setServing_16 : decode cL_setServing 16 = .ok (.ireturn, 1) := by decide +kernel
set_option maxRecDepth 20000 in
theorem ggL_join_X11_join : GoodIn wsL_join wsX11_join := goodIn_ca (goodIn_ca (goodIn_r _ [7, 8, 9, 10, 11, 12, 13, 6, 14, 15, 16, 17, 18, 19, 20, 21, 22, 23, 24, 25, 26, 27, 28, 29, 30, 31, 32, 33, 34, 35, 36, 37, 38, 39, 40, 41, 42, 43, 44, 45, 46, 47, 48, 49, 50, 51, 52, 53, 54, 55, 56, 57, 58, 59, 60, 61, 62, 63, 64, 65, 66, 67, 68, 69, 70, 71, 72, 73, 74, 75, 76, 77, 78, 79, 80, 81, 82, 83, 84, 85, 86, 87, 88, 89, 90, 91, 92, 93, 94, 95, 96, 97, 98, 99, 100, 101, 102, 103, 104, 105, 106, 107, 108, 109, 110, 111, 112, 113, 114, 115, 116, 117, 118, 119, 120, 121, 122, 123, 124, 125, 126, 127, 128, 129, 130, 131, 132, 133, 134, 135, 136, 137, 138, 139, 140, 141, 142, 143, 144, 145, 146, 147, 148, 149, 150, 151, 152, 153, 154, 155, 156, 157, 158, 159, 160, 161, 162, 163, 164, 165, 166, 167, 168, 169, 170, 171, 172, 173, 174, 175, 176, 177, 178, 179, 180, 181, 182, 183, 184, 185, 186, 187, 188, 189, 190, 191, 192, 193, 194, 195, 196, 197, 198, 199, 200, 201, 202, 203, 204, 205, 206, 207, 208, 209, 210, 211, 212, 213, 214, 215, 216, 217, 218, 219, 220] (by decide +kernel) (by decide +kernel)) (goodIn_sub (fun _ h => List.mem_cons_of_mem _ (List.mem_append_left _ (List.mem_append_right _ h))) (by decide +kernel))) (goodIn_sub (fun _ h => List.mem_cons_of_mem _ (List.mem_append_right _ h)) (by decide +kernel))
set_option maxRecDepth 20000 in
theorem gL_join_X11_join : GoodIn wsL_join (wsV RL 50 RX11 yX11_join wsX11_join) := goodIn_app (goodIn_of _ (by decide +kernel)) ggL_join_X11_join
theorem dL_join_0 : decode cL_join 0 = .ok (.aload_n 3, 1) := by decide +kernel
theorem dL_join_1 : decode cL_join 1 = .ok (.iconst 0, 1) := by decide +kernel
theorem dL_join_2 : decode cL_join 2 = .ok (.aload_n 0, 1) := by decide +kernel
theorem dL_join_3 : decode cL_join 3 = .ok (.iload_n 1, 1) := by decide +kernel
theorem dL_join_4 : decode cL_join 4 = .ok (.iload_n 2, 1) := by decide +kernel
theorem dL_join_5 : decode cL_join 5 = .ok (.invokevirtual 50, 3) := by decide +kernel
theorem dL_join_8 : decode cL_join 8 = .ok (.i2l, 1) := by decide +kernel
theorem dL_join_9 : decode cL_join 9 = .ok (.lastore, 1) := by decide +kernel
theorem dL_join_10 : decode cL_join 10 = .ok (.goto 11, 3) := by decide +kernel
theorem dL_join_13 : decode cL_join 13 = .ok (.astore 4, 2) := by decide +kernel
theorem dL_join_15 : decode cL_join 15 = .ok (.iconst 1, 1) := by decide +kernel
theorem dL_join_16 : decode cL_join 16 = .ok (.ireturn, 1) := by decide +kernel
theorem dL_join_17 : decode cL_join 17 = .ok (.astore 4, 2) := by decide +kernel
theorem dL_join_19 : decode cL_join 19 = .ok (.iconst 2, 1) := by decide +kernel
theorem dL_join_20 : decode cL_join 20 = .ok (.ireturn, 1) := by decide +kernel
theorem dL_join_21 : decode cL_join 21 = .ok (.iconst 0, 1) := by decide +kernel
theorem dL_join_22 : decode cL_join 22 = .ok (.ireturn, 1) := by decide +kernel
set_option maxRecDepth 20000 in
theorem ggL_leave_X11_leave : GoodIn wsL_leave wsX11_leave := goodIn_ca (goodIn_ca (goodIn_r _ [7, 8, 9, 10, 11, 12, 13, 6, 14, 15, 16, 17, 18, 19, 20, 21, 22, 23, 24, 25, 26, 27, 28, 29, 30, 31, 32, 33, 34, 35, 36, 37, 38, 39, 40, 41, 42, 43, 44, 45, 46, 47, 48, 49, 50, 51, 52, 53, 54, 55, 56, 57, 58, 59, 60, 61, 62, 63, 64, 65, 66, 67, 68, 69, 70, 71, 72, 73, 74, 75, 76, 77, 78, 79, 80, 81, 82, 83, 84, 85, 86, 87, 88, 89, 90, 91, 92, 93, 94, 95, 96, 97, 98, 99, 100, 101, 102, 103, 104, 105, 106, 107, 108, 109, 110, 111, 112, 113, 114, 115, 116, 117, 118, 119, 120, 121, 122, 123, 124, 125, 126, 127, 128, 129, 130, 131, 132, 133, 134, 135, 136, 137, 138, 139, 140, 141, 142, 143, 144, 145, 146, 147, 148, 149, 150, 151, 152, 153, 154, 155, 156, 157, 158, 159, 160, 161, 162, 163, 164, 165, 166, 167, 168, 169, 170, 171, 172, 173, 174, 175, 176, 177, 178, 179, 180, 181, 182, 183, 184, 185, 186, 187, 188, 189, 190, 191, 192, 193, 194, 195, 196, 197, 198, 199, 200, 201, 202, 203, 204, 205, 206, 207, 208, 209, 210, 211, 212, 213, 214, 215] (by decide +kernel) (by decide +kernel)) (goodIn_sub (fun _ h => List.mem_cons_of_mem _ (List.mem_append_left _ (List.mem_append_right _ h))) (by decide +kernel))) (goodIn_sub (fun _ h => List.mem_cons_of_mem _ (List.mem_append_right _ h)) (by decide +kernel))
set_option maxRecDepth 20000 in
theorem gL_leave_X11_leave : GoodIn wsL_leave (wsV RL 53 RX11 yX11_leave wsX11_leave) := goodIn_app (goodIn_of _ (by decide +kernel)) ggL_leave_X11_leave
theorem dL_leave_0 : decode cL_leave 0 = .ok (.aload_n 2, 1) := by decide +kernel
theorem dL_leave_1 : decode cL_leave 1 = .ok (.iconst 0, 1) := by decide +kernel
theorem dL_leave_2 : decode cL_leave 2 = .ok (.aload_n 0, 1) := by decide +kernel
theorem dL_leave_3 : decode cL_leave 3 = .ok (.iload_n 1, 1) := by decide +kernel
theorem dL_leave_4 : decode cL_leave 4 = .ok (.invokevirtual 53, 3) := by decide +kernel
theorem dL_leave_7 : decode cL_leave 7 = .ok (.i2l, 1) := by decide +kernel
theorem dL_leave_8 : decode cL_leave 8 = .ok (.lastore, 1) := by decide +kernel
theorem dL_leave_9 : decode cL_leave 9 = .ok (.goto 9, 3) := by decide +kernel
theorem dL_leave_12 : decode cL_leave 12 = .ok (.astore_n 3, 1) := by decide +kernel
theorem dL_leave_13 : decode cL_leave 13 = .ok (.iconst 1, 1) := by decide +kernel
theorem dL_leave_14 : decode cL_leave 14 = .ok (.ireturn, 1) := by decide +kernel
theorem dL_leave_15 : decode cL_leave 15 = .ok (.astore_n 3, 1) := by decide +kernel
theorem dL_leave_16 : decode cL_leave 16 = .ok (.iconst 2, 1) := by decide +kernel
theorem dL_leave_17 : decode cL_leave 17 = .ok (.ireturn, 1) := by decide +kernel
theorem dL_leave_18 : decode cL_leave 18 = .ok (.iconst 0, 1) := by decide +kernel
theorem dL_leave_19 : decode cL_leave 19 = .ok (.ireturn, 1) := by decide +kernel
set_option maxRecDepth 20000 in
theorem ggL_pass_X11_pass : GoodIn wsL_pass wsX11_pass := goodIn_ca (goodIn_r _ [6, 7, 8, 9, 10, 11, 5, 12, 13, 14, 15, 16, 17, 18, 19, 20, 21, 22, 23, 24, 25, 26, 27, 28, 29, 30, 31, 32, 33, 34, 35, 36, 37, 38, 39, 40, 41, 42, 43, 44, 45, 46, 47, 48, 49, 50, 51, 52, 53, 54, 55, 56, 57, 58, 59, 60, 61, 62, 63, 64, 65, 66, 67, 68, 69, 70, 71, 72, 73, 74, 75, 76, 77, 78, 79, 80, 81, 82, 83, 84, 85, 86, 87, 88, 89, 90, 91, 92, 93, 94, 95, 96, 97, 98, 99, 100, 101, 102, 103, 104, 105, 106, 107, 108, 109, 110, 111, 112, 113, 114, 115, 116, 117, 118, 119, 120, 121, 122, 123, 124, 125, 126, 127, 128, 129, 130, 131, 132, 133, 134, 135, 136, 137, 138, 139, 140, 141, 142, 143, 144, 145, 146, 147, 148, 149, 150, 151, 152, 153, 154, 155, 156, 157, 158, 159, 160, 161, 162, 163, 164, 165, 166, 167, 168, 169, 170, 171, 172, 173, 174, 175, 176, 177, 178, 179, 180, 181, 182, 183, 184, 185, 186, 187, 188, 189, 190, 191, 192, 193, 194, 195, 196, 197, 198, 199, 200, 201, 202, 203, 204, 205, 206, 207, 208, 209, 210, 211, 212, 213, 214, 215, 216] (by decide +kernel) (by decide +kernel)) (goodIn_sub (fun _ h => List.mem_cons_of_mem _ (List.mem_append_right _ h)) (by decide +kernel))
set_option maxRecDepth 20000 in
theorem gL_pass_X11_pass : GoodIn wsL_pass (wsV RL 56 RX11 yX11_pass wsX11_pass) := goodIn_app (goodIn_of _ (by decide +kernel)) ggL_pass_X11_pass
theorem dL_pass_0 : decode cL_pass 0 = .ok (.aload_n 2, 1) := by decide +kernel
theorem dL_pass_1 : decode cL_pass 1 = .ok (.iconst 0, 1) := by decide +kernel
theorem dL_pass_2 : decode cL_pass 2 = .ok (.aload_n 0, 1) := by decide +kernel
theorem dL_pass_3 : decode cL_pass 3 = .ok (.iload_n 1, 1) := by decide +kernel
theorem dL_pass_4 : decode cL_pass 4 = .ok (.invokevirtual 56, 3) := by decide +kernel
theorem dL_pass_7 : decode cL_pass 7 = .ok (.i2l, 1) := by decide +kernel
theorem dL_pass_8 : decode cL_pass 8 = .ok (.lastore, 1) := by decide +kernel
theorem dL_pass_9 : decode cL_pass 9 = .ok (.goto 6, 3) := by decide +kernel
theorem dL_pass_12 : decode cL_pass 12 = .ok (.astore_n 3, 1) := by decide +kernel
theorem dL_pass_13 : decode cL_pass 13 = .ok (.iconst 1, 1) := by decide +kernel
theorem dL_pass_14 : decode cL_pass 14 = .ok (.ireturn, 1) := by decide +kernel
theorem dL_pass_15 : decode cL_pass 15 = .ok (.iconst 0, 1) := by decide +kernel
theorem dL_pass_16 : decode cL_pass 16 = .ok (.ireturn, 1) := by decide +kernel
set_option maxRecDepth 20000 in
theorem ggL_setNeed_X11_setNeed : GoodIn wsL_setNeed wsX11_setNeed := goodIn_ca (goodIn_ca (goodIn_r _ [7, 8, 9, 10, 11, 12, 6, 13, 14, 15, 16, 17, 18, 19, 20, 21, 22, 23, 24, 25, 26, 27, 28, 29, 30, 31, 32, 33, 34, 35, 36, 37, 38, 39, 40, 41, 42, 43, 44, 45, 46, 47, 48, 49, 50, 51, 52, 53, 54, 55, 56, 57, 58, 59, 60, 61, 62, 63, 64, 65, 66, 67, 68, 69, 70, 71, 72, 73, 74, 75, 76, 77, 78, 79, 80, 81, 82, 83, 84, 85, 86, 87, 88, 89, 90, 91, 92, 93, 94, 95, 96, 97, 98, 99, 100, 101, 102, 103, 104, 105, 106, 107, 108, 109, 110, 111, 112, 113, 114, 115, 116, 117, 118, 119, 120, 121, 122, 123, 124, 125, 126, 127, 128, 129, 130, 131, 132, 133, 134, 135, 136, 137, 138, 139, 140, 141, 142, 143, 144, 145, 146, 147, 148, 149, 150, 151, 152, 153, 154, 155, 156, 157, 158, 159, 160, 161, 162, 163, 164, 165, 166, 167, 168, 169, 170, 171, 172, 173, 174, 175, 176, 177, 178, 179, 180, 181, 182, 183, 184, 185, 186, 187, 188, 189, 190, 191, 192, 193, 194, 195, 196, 197, 198, 199, 200, 201, 202, 203, 204, 205, 206, 207] (by decide +kernel) (by decide +kernel)) (goodIn_sub (fun _ h => List.mem_cons_of_mem _ (List.mem_append_left _ (List.mem_append_right _ h))) (by decide +kernel))) (goodIn_sub (fun _ h => List.mem_cons_of_mem _ (List.mem_append_right _ h)) (by decide +kernel))
set_option maxRecDepth 20000 in
theorem gL_setNeed_X11_setNeed : GoodIn wsL_setNeed (wsV RL 59 RX11 yX11_setNeed wsX11_setNeed) := goodIn_app (goodIn_of _ (by decide +kernel)) ggL_setNeed_X11_setNeed
theorem dL_setNeed_0 : decode cL_setNeed 0 = .ok (.aload_n 3, 1) := by decide +kernel
theorem dL_setNeed_1 : decode cL_setNeed 1 = .ok (.iconst 0, 1) := by decide +kernel
theorem dL_setNeed_2 : decode cL_setNeed 2 = .ok (.aload_n 0, 1) := by decide +kernel
theorem dL_setNeed_3 : decode cL_setNeed 3 = .ok (.iload_n 1, 1) := by decide +kernel
theorem dL_setNeed_4 : decode cL_setNeed 4 = .ok (.iload_n 2, 1) := by decide +kernel
theorem dL_setNeed_5 : decode cL_setNeed 5 = .ok (.invokevirtual 59, 3) := by decide +kernel
theorem dL_setNeed_8 : decode cL_setNeed 8 = .ok (.i2l, 1) := by decide +kernel
theorem dL_setNeed_9 : decode cL_setNeed 9 = .ok (.lastore, 1) := by decide +kernel
theorem dL_setNeed_10 : decode cL_setNeed 10 = .ok (.goto 11, 3) := by decide +kernel
theorem dL_setNeed_13 : decode cL_setNeed 13 = .ok (.astore 4, 2) := by decide +kernel
theorem dL_setNeed_15 : decode cL_setNeed 15 = .ok (.iconst 1, 1) := by decide +kernel
theorem dL_setNeed_16 : decode cL_setNeed 16 = .ok (.ireturn, 1) := by decide +kernel
theorem dL_setNeed_17 : decode cL_setNeed 17 = .ok (.astore 4, 2) := by decide +kernel
theorem dL_setNeed_19 : decode cL_setNeed 19 = .ok (.iconst 2, 1) := by decide +kernel
theorem dL_setNeed_20 : decode cL_setNeed 20 = .ok (.ireturn, 1) := by decide +kernel
theorem dL_setNeed_21 : decode cL_setNeed 21 = .ok (.iconst 0, 1) := by decide +kernel
theorem dL_setNeed_22 : decode cL_setNeed 22 = .ok (.ireturn, 1) := by decide +kernel
set_option maxRecDepth 20000 in
theorem ggL_setShift_X11_setShift : GoodIn wsL_setShift wsX11_setShift := goodIn_ca (goodIn_r _ [6, 7, 8, 9, 10, 11, 5, 12, 13, 14, 15, 16, 17, 18, 19, 20, 21, 22, 23, 24, 25, 26, 27, 28, 29, 30, 31, 32, 33, 34, 35, 36, 37, 38, 39, 40, 41, 42, 43, 44, 45, 46, 47, 48, 49, 50, 51, 52, 53, 54, 55, 56, 57, 58, 59, 60, 61, 62, 63, 64, 65, 66, 67, 68, 69, 70, 71, 72, 73, 74, 75, 76, 77, 78, 79, 80, 81, 82, 83, 84, 85, 86, 87, 88, 89, 90, 91, 92, 93, 94, 95, 96, 97, 98, 99, 100, 101, 102, 103, 104, 105, 106, 107, 108, 109, 110, 111, 112, 113, 114, 115, 116, 117, 118, 119, 120, 121, 122, 123, 124, 125, 126, 127, 128, 129, 130, 131, 132, 133, 134, 135, 136, 137, 138, 139, 140, 141, 142, 143, 144, 145, 146, 147, 148, 149, 150, 151, 152, 153, 154, 155, 156, 157, 158, 159, 160, 161, 162, 163, 164, 165, 166, 167, 168, 169, 170, 171, 172, 173, 174, 175, 176, 177, 178, 179, 180, 181, 182, 183, 184, 185, 186, 187, 188, 189, 190, 191, 192, 193, 194, 195, 196, 197, 198] (by decide +kernel) (by decide +kernel)) (goodIn_sub (fun _ h => List.mem_cons_of_mem _ (List.mem_append_right _ h)) (by decide +kernel))
set_option maxRecDepth 20000 in
theorem gL_setShift_X11_setShift : GoodIn wsL_setShift (wsV RL 62 RX11 yX11_setShift wsX11_setShift) := goodIn_app (goodIn_of _ (by decide +kernel)) ggL_setShift_X11_setShift
theorem dL_setShift_0 : decode cL_setShift 0 = .ok (.aload_n 2, 1) := by decide +kernel
theorem dL_setShift_1 : decode cL_setShift 1 = .ok (.iconst 0, 1) := by decide +kernel
theorem dL_setShift_2 : decode cL_setShift 2 = .ok (.aload_n 0, 1) := by decide +kernel
theorem dL_setShift_3 : decode cL_setShift 3 = .ok (.iload_n 1, 1) := by decide +kernel
theorem dL_setShift_4 : decode cL_setShift 4 = .ok (.invokevirtual 62, 3) := by decide +kernel
theorem dL_setShift_7 : decode cL_setShift 7 = .ok (.i2l, 1) := by decide +kernel
theorem dL_setShift_8 : decode cL_setShift 8 = .ok (.lastore, 1) := by decide +kernel
theorem dL_setShift_9 : decode cL_setShift 9 = .ok (.goto 6, 3) := by decide +kernel
theorem dL_setShift_12 : decode cL_setShift 12 = .ok (.astore_n 3, 1) := by decide +kernel
theorem dL_setShift_13 : decode cL_setShift 13 = .ok (.iconst 1, 1) := by decide +kernel
theorem dL_setShift_14 : decode cL_setShift 14 = .ok (.ireturn, 1) := by decide +kernel
theorem dL_setShift_15 : decode cL_setShift 15 = .ok (.iconst 0, 1) := by decide +kernel
theorem dL_setShift_16 : decode cL_setShift 16 = .ok (.ireturn, 1) := by decide +kernel
set_option maxRecDepth 20000 in
theorem ggL_setLoad_X11_setLoad : GoodIn wsL_setLoad wsX11_setLoad := goodIn_ca (goodIn_ca (goodIn_r _ [7, 8, 9, 10, 11, 12, 6, 13, 14, 15, 16, 17, 18, 19, 20, 21, 22, 23, 24, 25, 26, 27, 28, 29, 30, 31, 32, 33, 34, 35, 36, 37, 38, 39, 40, 41, 42, 43, 44, 45, 46, 47, 48, 49, 50, 51, 52, 53, 54, 55, 56, 57, 58, 59, 60, 61, 62, 63, 64, 65, 66, 67, 68, 69, 70, 71, 72, 73, 74, 75, 76, 77, 78, 79, 80, 81, 82, 83, 84, 85, 86, 87, 88, 89, 90, 91, 92, 93, 94, 95, 96, 97, 98, 99, 100, 101, 102, 103, 104, 105, 106, 107, 108, 109, 110, 111, 112, 113, 114, 115, 116, 117, 118, 119, 120, 121, 122, 123, 124, 125, 126, 127, 128, 129, 130, 131, 132, 133, 134, 135, 136, 137, 138, 139, 140, 141, 142, 143, 144, 145, 146, 147, 148, 149, 150, 151, 152, 153, 154, 155, 156, 157, 158, 159, 160, 161, 162, 163, 164, 165, 166, 167, 168, 169, 170, 171, 172, 173, 174, 175, 176, 177, 178, 179, 180, 181, 182, 183, 184, 185, 186, 187, 188, 189, 190, 191, 192, 193, 194, 195, 196, 197, 198, 199, 200, 201, 202, 203, 204] (by decide +kernel) (by decide +kernel)) (goodIn_sub (fun _ h => List.mem_cons_of_mem _ (List.mem_append_left _ (List.mem_append_right _ h))) (by decide +kernel))) (goodIn_sub (fun _ h => List.mem_cons_of_mem _ (List.mem_append_right _ h)) (by decide +kernel))
set_option maxRecDepth 20000 in
theorem gL_setLoad_X11_setLoad : GoodIn wsL_setLoad (wsV RL 65 RX11 yX11_setLoad wsX11_setLoad) := goodIn_app (goodIn_of _ (by decide +kernel)) ggL_setLoad_X11_setLoad
theorem dL_setLoad_0 : decode cL_setLoad 0 = .ok (.aload 4, 2) := by decide +kernel
theorem dL_setLoad_2 : decode cL_setLoad 2 = .ok (.iconst 0, 1) := by decide +kernel
theorem dL_setLoad_3 : decode cL_setLoad 3 = .ok (.aload_n 0, 1) := by decide +kernel
theorem dL_setLoad_4 : decode cL_setLoad 4 = .ok (.iload_n 1, 1) := by decide +kernel
theorem dL_setLoad_5 : decode cL_setLoad 5 = .ok (.iload_n 2, 1) := by decide +kernel
theorem dL_setLoad_6 : decode cL_setLoad 6 = .ok (.iload_n 3, 1) := by decide +kernel
theorem dL_setLoad_7 : decode cL_setLoad 7 = .ok (.invokevirtual 65, 3) := by decide +kernel
theorem dL_setLoad_10 : decode cL_setLoad 10 = .ok (.i2l, 1) := by decide +kernel
theorem dL_setLoad_11 : decode cL_setLoad 11 = .ok (.lastore, 1) := by decide +kernel
theorem dL_setLoad_12 : decode cL_setLoad 12 = .ok (.goto 11, 3) := by decide +kernel
theorem dL_setLoad_15 : decode cL_setLoad 15 = .ok (.astore 5, 2) := by decide +kernel
theorem dL_setLoad_17 : decode cL_setLoad 17 = .ok (.iconst 1, 1) := by decide +kernel
theorem dL_setLoad_18 : decode cL_setLoad 18 = .ok (.ireturn, 1) := by decide +kernel
theorem dL_setLoad_19 : decode cL_setLoad 19 = .ok (.astore 5, 2) := by decide +kernel
theorem dL_setLoad_21 : decode cL_setLoad 21 = .ok (.iconst 2, 1) := by decide +kernel
theorem dL_setLoad_22 : decode cL_setLoad 22 = .ok (.ireturn, 1) := by decide +kernel
theorem dL_setLoad_23 : decode cL_setLoad 23 = .ok (.iconst 0, 1) := by decide +kernel
theorem dL_setLoad_24 : decode cL_setLoad 24 = .ok (.ireturn, 1) := by decide +kernel
set_option maxRecDepth 20000 in
theorem ggL_setGenerator_X11_setGenerator : GoodIn wsL_setGenerator wsX11_setGenerator := goodIn_ca (goodIn_ca (goodIn_r _ [7, 8, 9, 10, 11, 12, 13, 14, 6, 15, 16, 17, 18, 19, 20, 21, 22, 23, 24, 25, 26, 27, 28, 29, 30, 31, 32, 33, 34, 35, 36, 37, 38, 39, 40, 41, 42, 43, 44, 45, 46, 47, 48, 49, 50, 51, 52, 53, 54, 55, 56, 57, 58, 59, 60, 61, 62, 63, 64, 65, 66, 67, 68, 69, 70, 71, 72, 73, 74, 75, 76, 77, 78, 79, 80, 81, 82, 83, 84, 85, 86, 87, 88, 89, 90, 91, 92, 93, 94, 95, 96, 97, 98, 99, 100, 101, 102, 103, 104, 105, 106, 107, 108, 109, 110, 111, 112, 113, 114, 115, 116, 117, 118, 119, 120, 121, 122, 123, 124, 125, 126, 127, 128, 129, 130, 131, 132, 133, 134, 135, 136, 137, 138, 139, 140, 141, 142, 143, 144, 145, 146, 147, 148, 149, 150, 151, 152, 153, 154, 155, 156, 157, 158, 159, 160, 161, 162, 163, 164, 165, 166, 167, 168, 169, 170, 171, 172, 173, 174, 175, 176, 177, 178, 179, 180, 181, 182, 183, 184, 185, 186, 187, 188, 189, 190, 191, 192, 193, 194, 195, 196, 197, 198, 199, 200, 201, 202, 203, 204, 205, 206, 207, 208, 209] (by decide +kernel) (by decide +kernel)) (goodIn_sub (fun _ h => List.mem_cons_of_mem _ (List.mem_append_left _ (List.mem_append_right _ h))) (by decide +kernel))) (goodIn_sub (fun _ h => List.mem_cons_of_mem _ (List.mem_append_right _ h)) (by decide +kernel))
set_option maxRecDepth 20000 in
theorem gL_setGenerator_X11_setGenerator : GoodIn wsL_setGenerator (wsV RL 68 RX11 yX11_setGenerator wsX11_setGenerator) := goodIn_app (goodIn_of _ (by decide +kernel)) ggL_setGenerator_X11_setGenerator
theorem dL_setGenerator_0 : decode cL_setGenerator 0 = .ok (.aload 5, 2) := by decide +kernel
theorem dL_setGenerator_2 : decode cL_setGenerator 2 = .ok (.iconst 0, 1) := by decide +kernel
theorem dL_setGenerator_3 : decode cL_setGenerator 3 = .ok (.aload_n 0, 1) := by decide +kernel
theorem dL_setGenerator_4 : decode cL_setGenerator 4 = .ok (.iload_n 1, 1) := by decide +kernel
theorem dL_setGenerator_5 : decode cL_setGenerator 5 = .ok (.iload_n 2, 1) := by decide +kernel
theorem dL_setGenerator_6 : decode cL_setGenerator 6 = .ok (.iload_n 3, 1) := by decide +kernel
theorem dL_setGenerator_7 : decode cL_setGenerator 7 = .ok (.iload 4, 2) := by decide +kernel
theorem dL_setGenerator_9 : decode cL_setGenerator 9 = .ok (.invokevirtual 68, 3) := by decide +kernel
theorem dL_setGenerator_12 : decode cL_setGenerator 12 = .ok (.i2l, 1) := by decide +kernel
theorem dL_setGenerator_13 : decode cL_setGenerator 13 = .ok (.lastore, 1) := by decide +kernel
theorem dL_setGenerator_14 : decode cL_setGenerator 14 = .ok (.goto 11, 3) := by decide +kernel
theorem dL_setGenerator_17 : decode cL_setGenerator 17 = .ok (.astore 6, 2) := by decide +kernel
theorem dL_setGenerator_19 : decode cL_setGenerator 19 = .ok (.iconst 1, 1) := by decide +kernel
theorem dL_setGenerator_20 : decode cL_setGenerator 20 = .ok (.ireturn, 1) := by decide +kernel
theorem dL_setGenerator_21 : decode cL_setGenerator 21 = .ok (.astore 6, 2) := by decide +kernel
theorem dL_setGenerator_23 : decode cL_setGenerator 23 = .ok (.iconst 2, 1) := by decide +kernel
theorem dL_setGenerator_24 : decode cL_setGenerator 24 = .ok (.ireturn, 1) := by decide +kernel
theorem dL_setGenerator_25 : decode cL_setGenerator 25 = .ok (.iconst 0, 1) := by decide +kernel
theorem dL_setGenerator_26 : decode cL_setGenerator 26 = .ok (.ireturn, 1) := by decide +kernel
set_option maxRecDepth 20000 in
theorem ggL_moveAll_X11_moveAll : GoodIn wsL_moveAll wsX11_moveAll := goodIn_ca (goodIn_r _ [6, 7, 8, 9, 10, 11, 12, 13, 5, 14, 15, 16, 17, 18, 19, 20, 21, 22, 23, 24, 25, 26, 27, 28, 29, 30, 31, 32, 33, 34, 35, 36, 37, 38, 39, 40, 41, 42, 43, 44, 45, 46, 47, 48, 49, 50, 51, 52, 53, 54, 55, 56, 57, 58, 59, 60, 61, 62, 63, 64, 65, 66, 67, 68, 69, 70, 71, 72, 73, 74, 75, 76, 77, 78, 79, 80, 81, 82, 83, 84, 85, 86, 87, 88, 89, 90, 91, 92, 93, 94, 95, 96, 97, 98, 99, 100, 101, 102, 103, 104, 105, 106, 107, 108, 109, 110, 111, 112, 113, 114, 115, 116, 117, 118, 119, 120, 121, 122, 123, 124, 125, 126, 127, 128, 129, 130, 131, 132, 133, 134, 135, 136, 137, 138, 139, 140, 141, 142, 143, 144, 145, 146, 147, 148, 149, 150, 151, 152, 153, 154, 155, 156, 157, 158, 159, 160, 161, 162, 163, 164, 165, 166, 167, 168, 169, 170, 171, 172, 173, 174, 175, 176, 177, 178, 179, 180, 181, 182, 183, 184, 185, 186, 187, 188, 189, 190, 191, 192, 193, 194, 195, 196, 197, 198, 199, 200, 201, 202, 203, 204, 205, 206] (by decide +kernel) (by decide +kernel)) (goodIn_sub (fun _ h => List.mem_cons_of_mem _ (List.mem_append_right _ h)) (by decide +kernel))
set_option maxRecDepth 20000 in
theorem gL_moveAll_X11_moveAll : GoodIn wsL_moveAll (wsV RL 72 RX11 yX11_moveAll wsX11_moveAll) := goodIn_app (goodIn_of _ (by decide +kernel)) ggL_moveAll_X11_moveAll
theorem dL_moveAll_0 : decode cL_moveAll 0 = .ok (.aload_n 1, 1) := by decide +kernel
theorem dL_moveAll_1 : decode cL_moveAll 1 = .ok (.iconst 0, 1) := by decide +kernel
theorem dL_moveAll_2 : decode cL_moveAll 2 = .ok (.aload_n 0, 1) := by decide +kernel
theorem dL_moveAll_3 : decode cL_moveAll 3 = .ok (.invokevirtual 72, 3) := by decide +kernel
theorem dL_moveAll_6 : decode cL_moveAll 6 = .ok (.i2l, 1) := by decide +kernel
theorem dL_moveAll_7 : decode cL_moveAll 7 = .ok (.lastore, 1) := by decide +kernel
theorem dL_moveAll_8 : decode cL_moveAll 8 = .ok (.goto 6, 3) := by decide +kernel
theorem dL_moveAll_11 : decode cL_moveAll 11 = .ok (.astore_n 2, 1) := by decide +kernel
theorem dL_moveAll_12 : decode cL_moveAll 12 = .ok (.iconst 1, 1) := by decide +kernel
theorem dL_moveAll_13 : decode cL_moveAll 13 = .ok (.ireturn, 1) := by decide +kernel
theorem dL_moveAll_14 : decode cL_moveAll 14 = .ok (.iconst 0, 1) := by decide +kernel
theorem dL_moveAll_15 : decode cL_moveAll 15 = .ok (.ireturn, 1) := by decide +kernel
set_option maxRecDepth 20000 in
theorem ggL_setPrice_X11_setPrice : GoodIn wsL_setPrice wsX11_setPrice := goodIn_ca (goodIn_ca (goodIn_r _ [7, 8, 9, 10, 11, 12, 6, 13, 14, 15, 16, 17, 18, 19, 20, 21, 22, 23, 24, 25, 26, 27, 28, 29, 30, 31, 32, 33, 34, 35, 36, 37, 38, 39, 40, 41, 42, 43, 44, 45, 46, 47, 48, 49, 50, 51, 52, 53, 54, 55, 56, 57, 58, 59, 60, 61, 62, 63, 64, 65, 66, 67, 68, 69, 70, 71, 72, 73, 74, 75, 76, 77, 78, 79, 80, 81, 82, 83, 84, 85, 86, 87, 88, 89, 90, 91, 92, 93, 94, 95, 96, 97, 98, 99, 100, 101, 102, 103, 104, 105, 106, 107, 108, 109, 110, 111, 112, 113, 114, 115, 116, 117, 118, 119, 120, 121, 122, 123, 124, 125, 126, 127, 128, 129, 130, 131, 132, 133, 134, 135, 136, 137, 138, 139, 140, 141, 142, 143, 144, 145, 146, 147, 148, 149, 150, 151, 152, 153, 154, 155, 156, 157, 158, 159, 160, 161, 162, 163, 164, 165, 166, 167, 168, 169, 170, 171, 172, 173, 174, 175, 176, 177, 178, 179, 180, 181, 182, 183, 184, 185, 186, 187, 188, 189, 190, 191, 192, 193, 194, 195, 196, 197, 198, 199, 200, 201, 202, 203, 204, 205, 206, 207] (by decide +kernel) (by decide +kernel)) (goodIn_sub (fun _ h => List.mem_cons_of_mem _ (List.mem_append_left _ (List.mem_append_right _ h))) (by decide +kernel))) (goodIn_sub (fun _ h => List.mem_cons_of_mem _ (List.mem_append_right _ h)) (by decide +kernel))
set_option maxRecDepth 20000 in
theorem gL_setPrice_X11_setPrice : GoodIn wsL_setPrice (wsV RL 76 RX11 yX11_setPrice wsX11_setPrice) := goodIn_app (goodIn_of _ (by decide +kernel)) ggL_setPrice_X11_setPrice
theorem dL_setPrice_0 : decode cL_setPrice 0 = .ok (.aload_n 3, 1) := by decide +kernel
theorem dL_setPrice_1 : decode cL_setPrice 1 = .ok (.iconst 0, 1) := by decide +kernel
theorem dL_setPrice_2 : decode cL_setPrice 2 = .ok (.aload_n 0, 1) := by decide +kernel
theorem dL_setPrice_3 : decode cL_setPrice 3 = .ok (.iload_n 1, 1) := by decide +kernel
theorem dL_setPrice_4 : decode cL_setPrice 4 = .ok (.iload_n 2, 1) := by decide +kernel
theorem dL_setPrice_5 : decode cL_setPrice 5 = .ok (.invokevirtual 76, 3) := by decide +kernel
theorem dL_setPrice_8 : decode cL_setPrice 8 = .ok (.i2l, 1) := by decide +kernel
theorem dL_setPrice_9 : decode cL_setPrice 9 = .ok (.lastore, 1) := by decide +kernel
theorem dL_setPrice_10 : decode cL_setPrice 10 = .ok (.goto 11, 3) := by decide +kernel
theorem dL_setPrice_13 : decode cL_setPrice 13 = .ok (.astore 4, 2) := by decide +kernel
theorem dL_setPrice_15 : decode cL_setPrice 15 = .ok (.iconst 1, 1) := by decide +kernel
theorem dL_setPrice_16 : decode cL_setPrice 16 = .ok (.ireturn, 1) := by decide +kernel
theorem dL_setPrice_17 : decode cL_setPrice 17 = .ok (.astore 4, 2) := by decide +kernel
theorem dL_setPrice_19 : decode cL_setPrice 19 = .ok (.iconst 2, 1) := by decide +kernel
theorem dL_setPrice_20 : decode cL_setPrice 20 = .ok (.ireturn, 1) := by decide +kernel
theorem dL_setPrice_21 : decode cL_setPrice 21 = .ok (.iconst 0, 1) := by decide +kernel
theorem dL_setPrice_22 : decode cL_setPrice 22 = .ok (.ireturn, 1) := by decide +kernel
set_option maxRecDepth 20000 in
theorem ggL_ticket_X11_ticket : GoodIn wsL_ticket wsX11_ticket := goodIn_ca (goodIn_ca (goodIn_ca (goodIn_r _ [8, 9, 10, 11, 12, 7, 13, 14, 15, 16, 17, 18, 19, 20, 21, 22, 23, 24, 25, 26, 27, 28, 29, 30, 31, 32, 33, 34, 35, 36, 37, 38, 39, 40, 41, 42, 43, 44, 45, 46, 47, 48, 49, 50, 51, 52, 53, 54, 55, 56, 57, 58, 59, 60, 61, 62, 63, 64, 65, 66, 67, 68, 69, 70, 71, 72, 73, 74, 75, 76, 77, 78, 79, 80, 81, 82, 83, 84, 85, 86, 87, 88, 89, 90, 91, 92, 93, 94, 95, 96, 97, 98, 99, 100, 101, 102, 103, 104, 105, 106, 107, 108, 109, 110, 111, 112, 113, 114, 115, 116, 117, 118, 119, 120, 121, 122, 123, 124, 125, 126, 127, 128, 129, 130, 131, 132, 133, 134, 135, 136, 137, 138, 139, 140, 141, 142, 143, 144, 145, 146, 147, 148, 149, 150, 151, 152, 153, 154, 155, 156, 157, 158, 159, 160, 161, 162, 163, 164, 165, 166, 167, 168, 169, 170, 171, 172, 173, 174, 175, 176, 177, 178, 179, 180, 181, 182, 183, 184, 185, 186, 187, 188, 189, 190, 191, 192, 193, 194, 195, 196, 197, 198, 199, 200, 201, 202, 203, 204, 205, 206, 207, 208, 209, 210, 211, 212, 213, 214, 215, 216, 217, 218, 219, 220, 221, 222, 223, 224, 225] (by decide +kernel) (by decide +kernel)) (goodIn_sub (fun _ h => List.mem_cons_of_mem _ (List.mem_append_left _ (List.mem_append_left _ (List.mem_append_right _ h)))) (by decide +kernel))) (goodIn_sub (fun _ h => List.mem_cons_of_mem _ (List.mem_append_left _ (List.mem_append_right _ h))) (by decide +kernel))) (goodIn_sub (fun _ h => List.mem_cons_of_mem _ (List.mem_append_right _ h)) (by decide +kernel))
set_option maxRecDepth 20000 in
theorem gL_ticket_X11_ticket : GoodIn wsL_ticket (wsV RL 79 RX11 yX11_ticket wsX11_ticket) := goodIn_app (goodIn_of _ (by decide +kernel)) ggL_ticket_X11_ticket
theorem dL_ticket_0 : decode cL_ticket 0 = .ok (.aload 4, 2) := by decide +kernel
theorem dL_ticket_2 : decode cL_ticket 2 = .ok (.iconst 0, 1) := by decide +kernel
theorem dL_ticket_3 : decode cL_ticket 3 = .ok (.aload_n 0, 1) := by decide +kernel
theorem dL_ticket_4 : decode cL_ticket 4 = .ok (.iload_n 1, 1) := by decide +kernel
theorem dL_ticket_5 : decode cL_ticket 5 = .ok (.iload_n 2, 1) := by decide +kernel
theorem dL_ticket_6 : decode cL_ticket 6 = .ok (.iload_n 3, 1) := by decide +kernel
theorem dL_ticket_7 : decode cL_ticket 7 = .ok (.invokevirtual 79, 3) := by decide +kernel
theorem dL_ticket_10 : decode cL_ticket 10 = .ok (.i2l, 1) := by decide +kernel
theorem dL_ticket_11 : decode cL_ticket 11 = .ok (.lastore, 1) := by decide +kernel
theorem dL_ticket_12 : decode cL_ticket 12 = .ok (.goto 15, 3) := by decide +kernel
theorem dL_ticket_15 : decode cL_ticket 15 = .ok (.astore 5, 2) := by decide +kernel
theorem dL_ticket_17 : decode cL_ticket 17 = .ok (.iconst 1, 1) := by decide +kernel
theorem dL_ticket_18 : decode cL_ticket 18 = .ok (.ireturn, 1) := by decide +kernel
theorem dL_ticket_19 : decode cL_ticket 19 = .ok (.astore 5, 2) := by decide +kernel
theorem dL_ticket_21 : decode cL_ticket 21 = .ok (.iconst 2, 1) := by decide +kernel
theorem dL_ticket_22 : decode cL_ticket 22 = .ok (.ireturn, 1) := by decide +kernel
theorem dL_ticket_23 : decode cL_ticket 23 = .ok (.astore 5, 2) := by decide +kernel
theorem dL_ticket_25 : decode cL_ticket 25 = .ok (.iconst 3, 1) := by decide +kernel
theorem dL_ticket_26 : decode cL_ticket 26 = .ok (.ireturn, 1) := by decide +kernel
theorem dL_ticket_27 : decode cL_ticket 27 = .ok (.iconst 0, 1) := by decide +kernel
theorem dL_ticket_28 : decode cL_ticket 28 = .ok (.ireturn, 1) := by decide +kernel
set_option maxRecDepth 20000 in
theorem ggL_refund_X11_refund : GoodIn wsL_refund wsX11_refund := goodIn_ca (goodIn_ca (goodIn_r _ [7, 8, 9, 10, 11, 6, 12, 13, 14, 15, 16, 17, 18, 19, 20, 21, 22, 23, 24, 25, 26, 27, 28, 29, 30, 31, 32, 33, 34, 35, 36, 37, 38, 39, 40, 41, 42, 43, 44, 45, 46, 47, 48, 49, 50, 51, 52, 53, 54, 55, 56, 57, 58, 59, 60, 61, 62, 63, 64, 65, 66, 67, 68, 69, 70, 71, 72, 73, 74, 75, 76, 77, 78, 79, 80, 81, 82, 83, 84, 85, 86, 87, 88, 89, 90, 91, 92, 93, 94, 95, 96, 97, 98, 99, 100, 101, 102, 103, 104, 105, 106, 107, 108, 109, 110, 111, 112, 113, 114, 115, 116, 117, 118, 119, 120, 121, 122, 123, 124, 125, 126, 127, 128, 129, 130, 131, 132, 133, 134, 135, 136, 137, 138, 139, 140, 141, 142, 143, 144, 145, 146, 147, 148, 149, 150, 151, 152, 153, 154, 155, 156, 157, 158, 159, 160, 161, 162, 163, 164, 165, 166, 167, 168, 169, 170, 171, 172, 173, 174, 175, 176, 177, 178, 179, 180, 181, 182, 183, 184, 185, 186, 187, 188, 189, 190, 191, 192, 193, 194, 195, 196, 197, 198, 199, 200, 201, 202, 203, 204, 205, 206, 207, 208, 209, 210, 211, 212, 213, 214, 215] (by decide +kernel) (by decide +kernel)) (goodIn_sub (fun _ h => List.mem_cons_of_mem _ (List.mem_append_left _ (List.mem_append_right _ h))) (by decide +kernel))) (goodIn_sub (fun _ h => List.mem_cons_of_mem _ (List.mem_append_right _ h)) (by decide +kernel))
set_option maxRecDepth 20000 in
theorem gL_refund_X11_refund : GoodIn wsL_refund (wsV RL 82 RX11 yX11_refund wsX11_refund) := goodIn_app (goodIn_of _ (by decide +kernel)) ggL_refund_X11_refund
theorem dL_refund_0 : decode cL_refund 0 = .ok (.aload_n 3, 1) := by decide +kernel
theorem dL_refund_1 : decode cL_refund 1 = .ok (.iconst 0, 1) := by decide +kernel
theorem dL_refund_2 : decode cL_refund 2 = .ok (.aload_n 0, 1) := by decide +kernel
theorem dL_refund_3 : decode cL_refund 3 = .ok (.iload_n 1, 1) := by decide +kernel
theorem dL_refund_4 : decode cL_refund 4 = .ok (.iload_n 2, 1) := by decide +kernel
theorem dL_refund_5 : decode cL_refund 5 = .ok (.invokevirtual 82, 3) := by decide +kernel
theorem dL_refund_8 : decode cL_refund 8 = .ok (.i2l, 1) := by decide +kernel
theorem dL_refund_9 : decode cL_refund 9 = .ok (.lastore, 1) := by decide +kernel
theorem dL_refund_10 : decode cL_refund 10 = .ok (.goto 11, 3) := by decide +kernel
theorem dL_refund_13 : decode cL_refund 13 = .ok (.astore 4, 2) := by decide +kernel
theorem dL_refund_15 : decode cL_refund 15 = .ok (.iconst 1, 1) := by decide +kernel
theorem dL_refund_16 : decode cL_refund 16 = .ok (.ireturn, 1) := by decide +kernel
theorem dL_refund_17 : decode cL_refund 17 = .ok (.astore 4, 2) := by decide +kernel
theorem dL_refund_19 : decode cL_refund 19 = .ok (.iconst 2, 1) := by decide +kernel
theorem dL_refund_20 : decode cL_refund 20 = .ok (.ireturn, 1) := by decide +kernel
theorem dL_refund_21 : decode cL_refund 21 = .ok (.iconst 0, 1) := by decide +kernel
theorem dL_refund_22 : decode cL_refund 22 = .ok (.ireturn, 1) := by decide +kernel
set_option maxRecDepth 20000 in
theorem ggL_resell_X11_resell : GoodIn wsL_resell wsX11_resell := goodIn_ca (goodIn_ca (goodIn_ca (goodIn_r _ [8, 9, 10, 11, 12, 7, 13, 14, 15, 16, 17, 18, 19, 20, 21, 22, 23, 24, 25, 26, 27, 28, 29, 30, 31, 32, 33, 34, 35, 36, 37, 38, 39, 40, 41, 42, 43, 44, 45, 46, 47, 48, 49, 50, 51, 52, 53, 54, 55, 56, 57, 58, 59, 60, 61, 62, 63, 64, 65, 66, 67, 68, 69, 70, 71, 72, 73, 74, 75, 76, 77, 78, 79, 80, 81, 82, 83, 84, 85, 86, 87, 88, 89, 90, 91, 92, 93, 94, 95, 96, 97, 98, 99, 100, 101, 102, 103, 104, 105, 106, 107, 108, 109, 110, 111, 112, 113, 114, 115, 116, 117, 118, 119, 120, 121, 122, 123, 124, 125, 126, 127, 128, 129, 130, 131, 132, 133, 134, 135, 136, 137, 138, 139, 140, 141, 142, 143, 144, 145, 146, 147, 148, 149, 150, 151, 152, 153, 154, 155, 156, 157, 158, 159, 160, 161, 162, 163, 164, 165, 166, 167, 168, 169, 170, 171, 172, 173, 174, 175, 176, 177, 178, 179, 180, 181, 182, 183, 184, 185, 186, 187, 188, 189, 190, 191, 192, 193, 194, 195, 196, 197, 198, 199, 200, 201, 202, 203, 204, 205, 206, 207, 208, 209, 210, 211, 212, 213, 214, 215, 216, 217, 218, 219, 220, 221, 222] (by decide +kernel) (by decide +kernel)) (goodIn_sub (fun _ h => List.mem_cons_of_mem _ (List.mem_append_left _ (List.mem_append_left _ (List.mem_append_right _ h)))) (by decide +kernel))) (goodIn_sub (fun _ h => List.mem_cons_of_mem _ (List.mem_append_left _ (List.mem_append_right _ h))) (by decide +kernel))) (goodIn_sub (fun _ h => List.mem_cons_of_mem _ (List.mem_append_right _ h)) (by decide +kernel))
set_option maxRecDepth 20000 in
theorem gL_resell_X11_resell : GoodIn wsL_resell (wsV RL 87 RX11 yX11_resell wsX11_resell) := goodIn_app (goodIn_of _ (by decide +kernel)) ggL_resell_X11_resell
theorem dL_resell_0 : decode cL_resell 0 = .ok (.aload 4, 2) := by decide +kernel
theorem dL_resell_2 : decode cL_resell 2 = .ok (.iconst 0, 1) := by decide +kernel
theorem dL_resell_3 : decode cL_resell 3 = .ok (.aload_n 0, 1) := by decide +kernel
theorem dL_resell_4 : decode cL_resell 4 = .ok (.iload_n 1, 1) := by decide +kernel
theorem dL_resell_5 : decode cL_resell 5 = .ok (.iload_n 2, 1) := by decide +kernel
theorem dL_resell_6 : decode cL_resell 6 = .ok (.iload_n 3, 1) := by decide +kernel
theorem dL_resell_7 : decode cL_resell 7 = .ok (.invokevirtual 87, 3) := by decide +kernel
theorem dL_resell_10 : decode cL_resell 10 = .ok (.i2l, 1) := by decide +kernel
theorem dL_resell_11 : decode cL_resell 11 = .ok (.lastore, 1) := by decide +kernel
theorem dL_resell_12 : decode cL_resell 12 = .ok (.goto 15, 3) := by decide +kernel
theorem dL_resell_15 : decode cL_resell 15 = .ok (.astore 5, 2) := by decide +kernel
theorem dL_resell_17 : decode cL_resell 17 = .ok (.iconst 1, 1) := by decide +kernel
theorem dL_resell_18 : decode cL_resell 18 = .ok (.ireturn, 1) := by decide +kernel
theorem dL_resell_19 : decode cL_resell 19 = .ok (.astore 5, 2) := by decide +kernel
theorem dL_resell_21 : decode cL_resell 21 = .ok (.iconst 2, 1) := by decide +kernel
theorem dL_resell_22 : decode cL_resell 22 = .ok (.ireturn, 1) := by decide +kernel
theorem dL_resell_23 : decode cL_resell 23 = .ok (.astore 5, 2) := by decide +kernel
theorem dL_resell_25 : decode cL_resell 25 = .ok (.iconst 3, 1) := by decide +kernel
theorem dL_resell_26 : decode cL_resell 26 = .ok (.ireturn, 1) := by decide +kernel
theorem dL_resell_27 : decode cL_resell 27 = .ok (.iconst 0, 1) := by decide +kernel
theorem dL_resell_28 : decode cL_resell 28 = .ok (.ireturn, 1) := by decide +kernel
set_option maxRecDepth 20000 in
theorem ggL_lose_X11_lose : GoodIn wsL_lose wsX11_lose := goodIn_ca (goodIn_ca (goodIn_r _ [7, 8, 9, 10, 11, 12, 6, 13, 14, 15, 16, 17, 18, 19, 20, 21, 22, 23, 24, 25, 26, 27, 28, 29, 30, 31, 32, 33, 34, 35, 36, 37, 38, 39, 40, 41, 42, 43, 44, 45, 46, 47, 48, 49, 50, 51, 52, 53, 54, 55, 56, 57, 58, 59, 60, 61, 62, 63, 64, 65, 66, 67, 68, 69, 70, 71, 72, 73, 74, 75, 76, 77, 78, 79, 80, 81, 82, 83, 84, 85, 86, 87, 88, 89, 90, 91, 92, 93, 94, 95, 96, 97, 98, 99, 100, 101, 102, 103, 104, 105, 106, 107, 108, 109, 110, 111, 112, 113, 114, 115, 116, 117, 118, 119, 120, 121, 122, 123, 124, 125, 126, 127, 128, 129, 130, 131, 132, 133, 134, 135, 136, 137, 138, 139, 140, 141, 142, 143, 144, 145, 146, 147, 148, 149, 150, 151, 152, 153, 154, 155, 156, 157, 158, 159, 160, 161, 162, 163, 164, 165, 166, 167, 168, 169, 170, 171, 172, 173, 174, 175, 176, 177, 178, 179, 180, 181, 182, 183, 184, 185, 186, 187, 188, 189, 190, 191, 192, 193, 194, 195, 196, 197, 198, 199, 200, 201, 202, 203, 204, 205, 206, 207, 208, 209, 210, 211] (by decide +kernel) (by decide +kernel)) (goodIn_sub (fun _ h => List.mem_cons_of_mem _ (List.mem_append_left _ (List.mem_append_right _ h))) (by decide +kernel))) (goodIn_sub (fun _ h => List.mem_cons_of_mem _ (List.mem_append_right _ h)) (by decide +kernel))
set_option maxRecDepth 20000 in
theorem gL_lose_X11_lose : GoodIn wsL_lose (wsV RL 90 RX11 yX11_lose wsX11_lose) := goodIn_app (goodIn_of _ (by decide +kernel)) ggL_lose_X11_lose
theorem dL_lose_0 : decode cL_lose 0 = .ok (.aload_n 3, 1) := by decide +kernel
theorem dL_lose_1 : decode cL_lose 1 = .ok (.iconst 0, 1) := by decide +kernel
theorem dL_lose_2 : decode cL_lose 2 = .ok (.aload_n 0, 1) := by decide +kernel
theorem dL_lose_3 : decode cL_lose 3 = .ok (.iload_n 1, 1) := by decide +kernel
theorem dL_lose_4 : decode cL_lose 4 = .ok (.iload_n 2, 1) := by decide +kernel
theorem dL_lose_5 : decode cL_lose 5 = .ok (.invokevirtual 90, 3) := by decide +kernel
theorem dL_lose_8 : decode cL_lose 8 = .ok (.i2l, 1) := by decide +kernel
theorem dL_lose_9 : decode cL_lose 9 = .ok (.lastore, 1) := by decide +kernel
theorem dL_lose_10 : decode cL_lose 10 = .ok (.goto 11, 3) := by decide +kernel
theorem dL_lose_13 : decode cL_lose 13 = .ok (.astore 4, 2) := by decide +kernel
theorem dL_lose_15 : decode cL_lose 15 = .ok (.iconst 1, 1) := by decide +kernel
theorem dL_lose_16 : decode cL_lose 16 = .ok (.ireturn, 1) := by decide +kernel
theorem dL_lose_17 : decode cL_lose 17 = .ok (.astore 4, 2) := by decide +kernel
theorem dL_lose_19 : decode cL_lose 19 = .ok (.iconst 2, 1) := by decide +kernel
theorem dL_lose_20 : decode cL_lose 20 = .ok (.ireturn, 1) := by decide +kernel
theorem dL_lose_21 : decode cL_lose 21 = .ok (.iconst 0, 1) := by decide +kernel
theorem dL_lose_22 : decode cL_lose 22 = .ok (.ireturn, 1) := by decide +kernel
set_option maxRecDepth 20000 in
theorem ggL_find_X11_find : GoodIn wsL_find wsX11_find := goodIn_ca (goodIn_ca (goodIn_r _ [7, 8, 9, 10, 11, 12, 13, 14, 6, 15, 16, 17, 18, 19, 20, 21, 22, 23, 24, 25, 26, 27, 28, 29, 30, 31, 32, 33, 34, 35, 36, 37, 38, 39, 40, 41, 42, 43, 44, 45, 46, 47, 48, 49, 50, 51, 52, 53, 54, 55, 56, 57, 58, 59, 60, 61, 62, 63, 64, 65, 66, 67, 68, 69, 70, 71, 72, 73, 74, 75, 76, 77, 78, 79, 80, 81, 82, 83, 84, 85, 86, 87, 88, 89, 90, 91, 92, 93, 94, 95, 96, 97, 98, 99, 100, 101, 102, 103, 104, 105, 106, 107, 108, 109, 110, 111, 112, 113, 114, 115, 116, 117, 118, 119, 120, 121, 122, 123, 124, 125, 126, 127, 128, 129, 130, 131, 132, 133, 134, 135, 136, 137, 138, 139, 140, 141, 142, 143, 144, 145, 146, 147, 148, 149, 150, 151, 152, 153, 154, 155, 156, 157, 158, 159, 160, 161, 162, 163, 164, 165, 166, 167, 168, 169, 170, 171, 172, 173, 174, 175, 176, 177, 178, 179, 180, 181, 182, 183, 184, 185, 186, 187, 188, 189, 190, 191, 192, 193, 194, 195, 196, 197, 198, 199, 200, 201, 202, 203, 204, 205, 206, 207, 208] (by decide +kernel) (by decide +kernel)) (goodIn_sub (fun _ h => List.mem_cons_of_mem _ (List.mem_append_left _ (List.mem_append_right _ h))) (by decide +kernel))) (goodIn_sub (fun _ h => List.mem_cons_of_mem _ (List.mem_append_right _ h)) (by decide +kernel))
set_option maxRecDepth 20000 in
theorem gL_find_X11_find : GoodIn wsL_find (wsV RL 93 RX11 yX11_find wsX11_find) := goodIn_app (goodIn_of _ (by decide +kernel)) ggL_find_X11_find
theorem dL_find_0 : decode cL_find 0 = .ok (.aload_n 2, 1) := by decide +kernel
theorem dL_find_1 : decode cL_find 1 = .ok (.iconst 0, 1) := by decide +kernel
theorem dL_find_2 : decode cL_find 2 = .ok (.aload_n 0, 1) := by decide +kernel
theorem dL_find_3 : decode cL_find 3 = .ok (.iload_n 1, 1) := by decide +kernel
theorem dL_find_4 : decode cL_find 4 = .ok (.invokevirtual 93, 3) := by decide +kernel
theorem dL_find_7 : decode cL_find 7 = .ok (.i2l, 1) := by decide +kernel
theorem dL_find_8 : decode cL_find 8 = .ok (.lastore, 1) := by decide +kernel
theorem dL_find_9 : decode cL_find 9 = .ok (.goto 9, 3) := by decide +kernel
theorem dL_find_12 : decode cL_find 12 = .ok (.astore_n 3, 1) := by decide +kernel
theorem dL_find_13 : decode cL_find 13 = .ok (.iconst 1, 1) := by decide +kernel
theorem dL_find_14 : decode cL_find 14 = .ok (.ireturn, 1) := by decide +kernel
theorem dL_find_15 : decode cL_find 15 = .ok (.astore_n 3, 1) := by decide +kernel
theorem dL_find_16 : decode cL_find 16 = .ok (.iconst 2, 1) := by decide +kernel
theorem dL_find_17 : decode cL_find 17 = .ok (.ireturn, 1) := by decide +kernel
theorem dL_find_18 : decode cL_find 18 = .ok (.iconst 0, 1) := by decide +kernel
theorem dL_find_19 : decode cL_find 19 = .ok (.ireturn, 1) := by decide +kernel
set_option maxRecDepth 20000 in
theorem ggL_undo_X11_undo : GoodIn wsL_undo wsX11_undo := goodIn_ca (goodIn_r _ [6, 7, 8, 9, 10, 11, 12, 13, 14, 15, 16, 17, 18, 19, 20, 21, 22, 23, 24, 25, 26, 27, 28, 29, 30, 31, 32, 33, 34, 35, 36, 37, 38, 39, 40, 41, 42, 43, 44, 45, 46, 47, 48, 49, 50, 51, 52, 5, 53, 54, 55, 56, 57, 58, 59, 60, 61, 62, 63, 64, 65, 66, 67, 68, 69, 70, 71, 72, 73, 74, 75, 76, 77, 78, 79, 80, 81, 82, 83, 84, 85, 86, 87, 88, 89, 90, 91, 92, 93, 94, 95, 96, 97, 98, 99, 100, 101, 102, 103, 104, 105, 106, 107, 108, 109, 110, 111, 112, 113, 114, 115, 116, 117, 118, 119, 120, 121, 122, 123, 124, 125, 126, 127, 128, 129, 130, 131, 132, 133, 134, 135, 136, 137, 138, 139, 140, 141, 142, 143, 144, 145, 146, 147, 148, 149, 150, 151, 152, 153, 154, 155, 156, 157, 158, 159, 160, 161, 162, 163, 164, 165, 166, 167, 168, 169, 170, 171, 172, 173, 174, 175, 176, 177, 178, 179, 180, 181, 182, 183, 184, 185, 186, 187, 188, 189] (by decide +kernel) (by decide +kernel)) (goodIn_sub (fun _ h => List.mem_cons_of_mem _ (List.mem_append_right _ h)) (by decide +kernel))
set_option maxRecDepth 20000 in
theorem gL_undo_X11_undo : GoodIn wsL_undo (wsV RL 96 RX11 yX11_undo wsX11_undo) := goodIn_app (goodIn_of _ (by decide +kernel)) ggL_undo_X11_undo
theorem dL_undo_0 : decode cL_undo 0 = .ok (.aload_n 1, 1) := by decide +kernel
theorem dL_undo_1 : decode cL_undo 1 = .ok (.iconst 0, 1) := by decide +kernel
theorem dL_undo_2 : decode cL_undo 2 = .ok (.aload_n 0, 1) := by decide +kernel
theorem dL_undo_3 : decode cL_undo 3 = .ok (.invokevirtual 96, 3) := by decide +kernel
theorem dL_undo_6 : decode cL_undo 6 = .ok (.i2l, 1) := by decide +kernel
theorem dL_undo_7 : decode cL_undo 7 = .ok (.lastore, 1) := by decide +kernel
theorem dL_undo_8 : decode cL_undo 8 = .ok (.goto 6, 3) := by decide +kernel
theorem dL_undo_11 : decode cL_undo 11 = .ok (.astore_n 2, 1) := by decide +kernel
theorem dL_undo_12 : decode cL_undo 12 = .ok (.iconst 1, 1) := by decide +kernel
theorem dL_undo_13 : decode cL_undo 13 = .ok (.ireturn, 1) := by decide +kernel
theorem dL_undo_14 : decode cL_undo 14 = .ok (.iconst 0, 1) := by decide +kernel
theorem dL_undo_15 : decode cL_undo 15 = .ok (.ireturn, 1) := by decide +kernel
set_option maxRecDepth 20000 in
theorem ggL_dateAt_X11_dateAt : GoodIn wsL_dateAt wsX11_dateAt := goodIn_ca (goodIn_r _ [6, 7, 8, 9, 10, 5, 11, 12, 13, 14, 15, 16, 17, 18, 19, 20, 21, 22, 23, 24, 25, 26, 27, 28, 29, 30, 31, 32, 33, 34, 35, 36, 37, 38, 39, 40, 41, 42, 43, 44, 45, 46, 47, 48] (by decide +kernel) (by decide +kernel)) (goodIn_sub (fun _ h => List.mem_cons_of_mem _ (List.mem_append_right _ h)) (by decide +kernel))
set_option maxRecDepth 20000 in
theorem gL_dateAt_X11_dateAt : GoodIn wsL_dateAt (wsV RL 99 RX11 yX11_dateAt wsX11_dateAt) := goodIn_app (goodIn_of _ (by decide +kernel)) ggL_dateAt_X11_dateAt
theorem dL_dateAt_0 : decode cL_dateAt 0 = .ok (.aload_n 3, 1) := by decide +kernel
theorem dL_dateAt_1 : decode cL_dateAt 1 = .ok (.iconst 0, 1) := by decide +kernel
theorem dL_dateAt_2 : decode cL_dateAt 2 = .ok (.aload_n 0, 1) := by decide +kernel
theorem dL_dateAt_3 : decode cL_dateAt 3 = .ok (.iload_n 1, 1) := by decide +kernel
theorem dL_dateAt_4 : decode cL_dateAt 4 = .ok (.iload_n 2, 1) := by decide +kernel
theorem dL_dateAt_5 : decode cL_dateAt 5 = .ok (.invokevirtual 99, 3) := by decide +kernel
theorem dL_dateAt_8 : decode cL_dateAt 8 = .ok (.i2l, 1) := by decide +kernel
theorem dL_dateAt_9 : decode cL_dateAt 9 = .ok (.lastore, 1) := by decide +kernel
theorem dL_dateAt_10 : decode cL_dateAt 10 = .ok (.goto 7, 3) := by decide +kernel
theorem dL_dateAt_13 : decode cL_dateAt 13 = .ok (.astore 4, 2) := by decide +kernel
theorem dL_dateAt_15 : decode cL_dateAt 15 = .ok (.iconst 1, 1) := by decide +kernel
theorem dL_dateAt_16 : decode cL_dateAt 16 = .ok (.ireturn, 1) := by decide +kernel
theorem dL_dateAt_17 : decode cL_dateAt 17 = .ok (.iconst 0, 1) := by decide +kernel
theorem dL_dateAt_18 : decode cL_dateAt 18 = .ok (.ireturn, 1) := by decide +kernel
set_option maxRecDepth 20000 in
theorem ggL_walk_X11_walk : GoodIn wsL_walk wsX11_walk := goodIn_ca (goodIn_r _ [6, 7, 8, 9, 10, 5, 11, 12, 13, 14, 15, 16, 17, 18, 19, 20, 21, 22, 23, 24, 25, 26, 27, 28, 29, 30, 31, 32, 33, 34, 35, 36, 37] (by decide +kernel) (by decide +kernel)) (goodIn_sub (fun _ h => List.mem_cons_of_mem _ (List.mem_append_right _ h)) (by decide +kernel))
set_option maxRecDepth 20000 in
theorem gL_walk_X11_walk : GoodIn wsL_walk (wsV RL 102 RX11 yX11_walk wsX11_walk) := goodIn_app (goodIn_of _ (by decide +kernel)) ggL_walk_X11_walk
theorem dL_walk_0 : decode cL_walk 0 = .ok (.aload_n 3, 1) := by decide +kernel
theorem dL_walk_1 : decode cL_walk 1 = .ok (.iconst 0, 1) := by decide +kernel
theorem dL_walk_2 : decode cL_walk 2 = .ok (.aload_n 0, 1) := by decide +kernel
theorem dL_walk_3 : decode cL_walk 3 = .ok (.iload_n 1, 1) := by decide +kernel
theorem dL_walk_4 : decode cL_walk 4 = .ok (.iload_n 2, 1) := by decide +kernel
theorem dL_walk_5 : decode cL_walk 5 = .ok (.invokevirtual 102, 3) := by decide +kernel
theorem dL_walk_8 : decode cL_walk 8 = .ok (.i2l, 1) := by decide +kernel
theorem dL_walk_9 : decode cL_walk 9 = .ok (.lastore, 1) := by decide +kernel
theorem dL_walk_10 : decode cL_walk 10 = .ok (.goto 7, 3) := by decide +kernel
theorem dL_walk_13 : decode cL_walk 13 = .ok (.astore 4, 2) := by decide +kernel
theorem dL_walk_15 : decode cL_walk 15 = .ok (.iconst 1, 1) := by decide +kernel
theorem dL_walk_16 : decode cL_walk 16 = .ok (.ireturn, 1) := by decide +kernel
theorem dL_walk_17 : decode cL_walk 17 = .ok (.iconst 0, 1) := by decide +kernel
theorem dL_walk_18 : decode cL_walk 18 = .ok (.ireturn, 1) := by decide +kernel
set_option maxRecDepth 20000 in
theorem ggL_actAt_X11_actAt : GoodIn wsL_actAt wsX11_actAt := goodIn_ca (goodIn_ca (goodIn_r _ [7, 8, 9, 10, 11, 12, 6, 13, 14, 15, 16, 17, 18, 19, 20, 21, 22, 23, 24, 25, 26, 27, 28, 29, 30, 31, 32, 33, 34, 35, 36, 37, 38, 39, 40, 41, 42, 43, 44, 45, 46, 47, 48, 49, 50, 51, 52, 53, 54, 55, 56, 57, 58, 59, 60, 61, 62, 63, 64, 65, 66, 67, 68, 69, 70, 71, 72, 73, 74, 75, 76, 77, 78, 79, 80, 81, 82, 83, 84, 85, 86, 87, 88, 89, 90, 91, 92, 93, 94, 95, 96] (by decide +kernel) (by decide +kernel)) (goodIn_sub (fun _ h => List.mem_cons_of_mem _ (List.mem_append_left _ (List.mem_append_right _ h))) (by decide +kernel))) (goodIn_sub (fun _ h => List.mem_cons_of_mem _ (List.mem_append_right _ h)) (by decide +kernel))
set_option maxRecDepth 20000 in
theorem gL_actAt_X11_actAt : GoodIn wsL_actAt (wsV RL 105 RX11 yX11_actAt wsX11_actAt) := goodIn_app (goodIn_of _ (by decide +kernel)) ggL_actAt_X11_actAt
theorem dL_actAt_0 : decode cL_actAt 0 = .ok (.aload_n 3, 1) := by decide +kernel
theorem dL_actAt_1 : decode cL_actAt 1 = .ok (.iconst 0, 1) := by decide +kernel
theorem dL_actAt_2 : decode cL_actAt 2 = .ok (.aload_n 0, 1) := by decide +kernel
theorem dL_actAt_3 : decode cL_actAt 3 = .ok (.iload_n 1, 1) := by decide +kernel
theorem dL_actAt_4 : decode cL_actAt 4 = .ok (.iload_n 2, 1) := by decide +kernel
theorem dL_actAt_5 : decode cL_actAt 5 = .ok (.invokevirtual 105, 3) := by decide +kernel
theorem dL_actAt_8 : decode cL_actAt 8 = .ok (.i2l, 1) := by decide +kernel
theorem dL_actAt_9 : decode cL_actAt 9 = .ok (.lastore, 1) := by decide +kernel
theorem dL_actAt_10 : decode cL_actAt 10 = .ok (.goto 11, 3) := by decide +kernel
theorem dL_actAt_13 : decode cL_actAt 13 = .ok (.astore 4, 2) := by decide +kernel
theorem dL_actAt_15 : decode cL_actAt 15 = .ok (.iconst 1, 1) := by decide +kernel
theorem dL_actAt_16 : decode cL_actAt 16 = .ok (.ireturn, 1) := by decide +kernel
theorem dL_actAt_17 : decode cL_actAt 17 = .ok (.astore 4, 2) := by decide +kernel
theorem dL_actAt_19 : decode cL_actAt 19 = .ok (.iconst 2, 1) := by decide +kernel
theorem dL_actAt_20 : decode cL_actAt 20 = .ok (.ireturn, 1) := by decide +kernel
theorem dL_actAt_21 : decode cL_actAt 21 = .ok (.iconst 0, 1) := by decide +kernel
theorem dL_actAt_22 : decode cL_actAt 22 = .ok (.ireturn, 1) := by decide +kernel
set_option maxRecDepth 20000 in
theorem ggL_firstIn_X11_firstIn : GoodIn wsL_firstIn wsX11_firstIn := goodIn_ca (goodIn_ca (goodIn_r _ [7, 8, 9, 10, 11, 12, 13, 6, 14, 15, 16, 17, 18, 19, 20, 21, 22, 23, 24, 25, 26, 27, 28, 29, 30, 31, 32, 33, 34, 35, 36, 37, 38, 39, 40, 41, 42, 43, 44, 45, 46, 47, 48, 49, 50, 51, 52, 53, 54, 55, 56, 57, 58] (by decide +kernel) (by decide +kernel)) (goodIn_sub (fun _ h => List.mem_cons_of_mem _ (List.mem_append_left _ (List.mem_append_right _ h))) (by decide +kernel))) (goodIn_sub (fun _ h => List.mem_cons_of_mem _ (List.mem_append_right _ h)) (by decide +kernel))
set_option maxRecDepth 20000 in
theorem gL_firstIn_X11_firstIn : GoodIn wsL_firstIn (wsV RL 108 RX11 yX11_firstIn wsX11_firstIn) := goodIn_app (goodIn_of _ (by decide +kernel)) ggL_firstIn_X11_firstIn
theorem dL_firstIn_0 : decode cL_firstIn 0 = .ok (.aload 4, 2) := by decide +kernel
theorem dL_firstIn_2 : decode cL_firstIn 2 = .ok (.iconst 0, 1) := by decide +kernel
theorem dL_firstIn_3 : decode cL_firstIn 3 = .ok (.aload_n 0, 1) := by decide +kernel
theorem dL_firstIn_4 : decode cL_firstIn 4 = .ok (.iload_n 1, 1) := by decide +kernel
theorem dL_firstIn_5 : decode cL_firstIn 5 = .ok (.iload_n 2, 1) := by decide +kernel
theorem dL_firstIn_6 : decode cL_firstIn 6 = .ok (.iload_n 3, 1) := by decide +kernel
theorem dL_firstIn_7 : decode cL_firstIn 7 = .ok (.invokevirtual 108, 3) := by decide +kernel
theorem dL_firstIn_10 : decode cL_firstIn 10 = .ok (.i2l, 1) := by decide +kernel
theorem dL_firstIn_11 : decode cL_firstIn 11 = .ok (.lastore, 1) := by decide +kernel
theorem dL_firstIn_12 : decode cL_firstIn 12 = .ok (.goto 11, 3) := by decide +kernel
theorem dL_firstIn_15 : decode cL_firstIn 15 = .ok (.astore 5, 2) := by decide +kernel
theorem dL_firstIn_17 : decode cL_firstIn 17 = .ok (.iconst 1, 1) := by decide +kernel
theorem dL_firstIn_18 : decode cL_firstIn 18 = .ok (.ireturn, 1) := by decide +kernel
theorem dL_firstIn_19 : decode cL_firstIn 19 = .ok (.astore 5, 2) := by decide +kernel
theorem dL_firstIn_21 : decode cL_firstIn 21 = .ok (.iconst 2, 1) := by decide +kernel
theorem dL_firstIn_22 : decode cL_firstIn 22 = .ok (.ireturn, 1) := by decide +kernel
theorem dL_firstIn_23 : decode cL_firstIn 23 = .ok (.iconst 0, 1) := by decide +kernel
theorem dL_firstIn_24 : decode cL_firstIn 24 = .ok (.ireturn, 1) := by decide +kernel
set_option maxRecDepth 20000 in
theorem ggL_clash_X11_clash : GoodIn wsL_clash wsX11_clash := goodIn_ca (goodIn_ca (goodIn_r _ [7, 8, 9, 10, 11, 12, 6, 13, 14, 15, 16, 17, 18, 19, 20, 21, 22, 23, 24, 25, 26, 27, 28, 29, 30, 31, 32, 33, 34, 35, 36, 37, 38, 39, 40, 41, 42, 43, 44, 45, 46, 47, 48, 49, 50, 51, 52, 53, 54, 55, 56, 57, 58, 59, 60, 61, 62, 63, 64, 65] (by decide +kernel) (by decide +kernel)) (goodIn_sub (fun _ h => List.mem_cons_of_mem _ (List.mem_append_left _ (List.mem_append_right _ h))) (by decide +kernel))) (goodIn_sub (fun _ h => List.mem_cons_of_mem _ (List.mem_append_right _ h)) (by decide +kernel))
set_option maxRecDepth 20000 in
theorem gL_clash_X11_clash : GoodIn wsL_clash (wsV RL 111 RX11 yX11_clash wsX11_clash) := goodIn_app (goodIn_of _ (by decide +kernel)) ggL_clash_X11_clash
theorem dL_clash_0 : decode cL_clash 0 = .ok (.aload_n 3, 1) := by decide +kernel
theorem dL_clash_1 : decode cL_clash 1 = .ok (.iconst 0, 1) := by decide +kernel
theorem dL_clash_2 : decode cL_clash 2 = .ok (.aload_n 0, 1) := by decide +kernel
theorem dL_clash_3 : decode cL_clash 3 = .ok (.iload_n 1, 1) := by decide +kernel
theorem dL_clash_4 : decode cL_clash 4 = .ok (.iload_n 2, 1) := by decide +kernel
theorem dL_clash_5 : decode cL_clash 5 = .ok (.invokevirtual 111, 3) := by decide +kernel
theorem dL_clash_8 : decode cL_clash 8 = .ok (.ifCond .eq 7, 3) := by decide +kernel
theorem dL_clash_11 : decode cL_clash 11 = .ok (.lconst 1, 1) := by decide +kernel
theorem dL_clash_12 : decode cL_clash 12 = .ok (.goto 4, 3) := by decide +kernel
theorem dL_clash_15 : decode cL_clash 15 = .ok (.lconst 0, 1) := by decide +kernel
theorem dL_clash_16 : decode cL_clash 16 = .ok (.lastore, 1) := by decide +kernel
theorem dL_clash_17 : decode cL_clash 17 = .ok (.goto 11, 3) := by decide +kernel
theorem dL_clash_20 : decode cL_clash 20 = .ok (.astore 4, 2) := by decide +kernel
theorem dL_clash_22 : decode cL_clash 22 = .ok (.iconst 1, 1) := by decide +kernel
theorem dL_clash_23 : decode cL_clash 23 = .ok (.ireturn, 1) := by decide +kernel
theorem dL_clash_24 : decode cL_clash 24 = .ok (.astore 4, 2) := by decide +kernel
theorem dL_clash_26 : decode cL_clash 26 = .ok (.iconst 2, 1) := by decide +kernel
theorem dL_clash_27 : decode cL_clash 27 = .ok (.ireturn, 1) := by decide +kernel
theorem dL_clash_28 : decode cL_clash 28 = .ok (.iconst 0, 1) := by decide +kernel
theorem dL_clash_29 : decode cL_clash 29 = .ok (.ireturn, 1) := by decide +kernel
set_option maxRecDepth 20000 in
theorem ggL_evening_X11_evening : GoodIn wsL_evening wsX11_evening := goodIn_ca (goodIn_r _ [6, 7, 8, 9, 5, 10, 11, 12, 13, 14, 15, 16, 17, 18, 19, 20, 21, 22, 23, 24, 25, 26, 27, 28, 29, 30, 31, 32, 33, 34, 35, 36, 37, 38, 39, 40, 41, 42, 43, 44, 45, 46, 47, 48, 49, 50, 51, 52, 53, 54, 55, 56, 57, 58, 59, 60, 61, 62, 63, 64, 65, 66, 67, 68, 69, 70, 71, 72, 73, 74, 75, 76, 77, 78, 79, 80, 81, 82, 83, 84, 85, 86, 87, 88, 89, 90, 91, 92, 93, 94, 95, 96, 97, 98, 99, 100, 101, 102, 103, 104, 105, 106, 107, 108, 109, 110, 111, 112, 113, 114, 115, 116, 117, 118, 119, 120] (by decide +kernel) (by decide +kernel)) (goodIn_sub (fun _ h => List.mem_cons_of_mem _ (List.mem_append_right _ h)) (by decide +kernel))
set_option maxRecDepth 20000 in
theorem gL_evening_X11_evening : GoodIn wsL_evening (wsV RL 115 RX11 yX11_evening wsX11_evening) := goodIn_app (goodIn_of _ (by decide +kernel)) ggL_evening_X11_evening
theorem dL_evening_0 : decode cL_evening 0 = .ok (.aload_n 3, 1) := by decide +kernel
theorem dL_evening_1 : decode cL_evening 1 = .ok (.iconst 0, 1) := by decide +kernel
theorem dL_evening_2 : decode cL_evening 2 = .ok (.aload_n 0, 1) := by decide +kernel
theorem dL_evening_3 : decode cL_evening 3 = .ok (.iload_n 1, 1) := by decide +kernel
theorem dL_evening_4 : decode cL_evening 4 = .ok (.iload_n 2, 1) := by decide +kernel
theorem dL_evening_5 : decode cL_evening 5 = .ok (.invokevirtual 115, 3) := by decide +kernel
theorem dL_evening_8 : decode cL_evening 8 = .ok (.i2l, 1) := by decide +kernel
theorem dL_evening_9 : decode cL_evening 9 = .ok (.lastore, 1) := by decide +kernel
theorem dL_evening_10 : decode cL_evening 10 = .ok (.goto 7, 3) := by decide +kernel
theorem dL_evening_13 : decode cL_evening 13 = .ok (.astore 4, 2) := by decide +kernel
theorem dL_evening_15 : decode cL_evening 15 = .ok (.iconst 1, 1) := by decide +kernel
theorem dL_evening_16 : decode cL_evening 16 = .ok (.ireturn, 1) := by decide +kernel
theorem dL_evening_17 : decode cL_evening 17 = .ok (.iconst 0, 1) := by decide +kernel
theorem dL_evening_18 : decode cL_evening 18 = .ok (.ireturn, 1) := by decide +kernel
set_option maxRecDepth 20000 in
theorem ggL_eveningAct_X11_eveningAct : GoodIn wsL_eveningAct wsX11_eveningAct := goodIn_ca (goodIn_ca (goodIn_r _ [7, 8, 9, 10, 11, 12, 6, 13, 14, 15, 16, 17, 18, 19, 20, 21, 22, 23, 24, 25, 26, 27, 28, 29, 30, 31, 32, 33, 34, 35, 36, 37, 38, 39, 40, 41, 42, 43, 44, 45, 46, 47, 48, 49, 50, 51, 52, 53, 54, 55, 56, 57, 58, 59, 60, 61, 62, 63, 64, 65, 66, 67, 68, 69, 70, 71, 72, 73, 74, 75, 76, 77, 78, 79, 80, 81, 82, 83, 84, 85, 86, 87, 88, 89, 90, 91, 92, 93, 94, 95, 96, 97, 98, 99, 100, 101, 102, 103, 104, 105, 106, 107, 108, 109, 110, 111, 112, 113, 114, 115, 116, 117, 118, 119, 120, 121, 122, 123] (by decide +kernel) (by decide +kernel)) (goodIn_sub (fun _ h => List.mem_cons_of_mem _ (List.mem_append_left _ (List.mem_append_right _ h))) (by decide +kernel))) (goodIn_sub (fun _ h => List.mem_cons_of_mem _ (List.mem_append_right _ h)) (by decide +kernel))
set_option maxRecDepth 20000 in
theorem gL_eveningAct_X11_eveningAct : GoodIn wsL_eveningAct (wsV RL 118 RX11 yX11_eveningAct wsX11_eveningAct) := goodIn_app (goodIn_of _ (by decide +kernel)) ggL_eveningAct_X11_eveningAct
theorem dL_eveningAct_0 : decode cL_eveningAct 0 = .ok (.aload 4, 2) := by decide +kernel
theorem dL_eveningAct_2 : decode cL_eveningAct 2 = .ok (.iconst 0, 1) := by decide +kernel
theorem dL_eveningAct_3 : decode cL_eveningAct 3 = .ok (.aload_n 0, 1) := by decide +kernel
theorem dL_eveningAct_4 : decode cL_eveningAct 4 = .ok (.iload_n 1, 1) := by decide +kernel
theorem dL_eveningAct_5 : decode cL_eveningAct 5 = .ok (.iload_n 2, 1) := by decide +kernel
theorem dL_eveningAct_6 : decode cL_eveningAct 6 = .ok (.iload_n 3, 1) := by decide +kernel
theorem dL_eveningAct_7 : decode cL_eveningAct 7 = .ok (.invokevirtual 118, 3) := by decide +kernel
theorem dL_eveningAct_10 : decode cL_eveningAct 10 = .ok (.i2l, 1) := by decide +kernel
theorem dL_eveningAct_11 : decode cL_eveningAct 11 = .ok (.lastore, 1) := by decide +kernel
theorem dL_eveningAct_12 : decode cL_eveningAct 12 = .ok (.goto 11, 3) := by decide +kernel
theorem dL_eveningAct_15 : decode cL_eveningAct 15 = .ok (.astore 5, 2) := by decide +kernel
theorem dL_eveningAct_17 : decode cL_eveningAct 17 = .ok (.iconst 1, 1) := by decide +kernel
theorem dL_eveningAct_18 : decode cL_eveningAct 18 = .ok (.ireturn, 1) := by decide +kernel
theorem dL_eveningAct_19 : decode cL_eveningAct 19 = .ok (.astore 5, 2) := by decide +kernel
theorem dL_eveningAct_21 : decode cL_eveningAct 21 = .ok (.iconst 2, 1) := by decide +kernel
theorem dL_eveningAct_22 : decode cL_eveningAct 22 = .ok (.ireturn, 1) := by decide +kernel
theorem dL_eveningAct_23 : decode cL_eveningAct 23 = .ok (.iconst 0, 1) := by decide +kernel
theorem dL_eveningAct_24 : decode cL_eveningAct 24 = .ok (.ireturn, 1) := by decide +kernel
set_option maxRecDepth 20000 in
theorem ggL_price_X11_price : GoodIn wsL_price wsX11_price := goodIn_ca (goodIn_r _ [6, 7, 8, 9, 5, 10, 11, 12, 13, 14, 15, 16, 17, 18, 19, 20, 21, 22, 23, 24, 25, 26, 27, 28, 29, 30, 31, 32, 33, 34, 35, 36, 37, 38, 39, 40, 41, 42, 43, 44, 45, 46, 47, 48, 49, 50, 51, 52, 53, 54, 55, 56, 57, 58, 59, 60, 61, 62, 63, 64, 65, 66, 67, 68, 69, 70, 71, 72, 73, 74, 75, 76, 77, 78, 79, 80, 81, 82, 83, 84, 85, 86, 87, 88, 89, 90, 91, 92, 93, 94, 95, 96, 97, 98, 99, 100, 101, 102, 103, 104, 105, 106, 107, 108, 109, 110, 111, 112, 113, 114, 115] (by decide +kernel) (by decide +kernel)) (goodIn_sub (fun _ h => List.mem_cons_of_mem _ (List.mem_append_right _ h)) (by decide +kernel))
set_option maxRecDepth 20000 in
theorem gL_price_X11_price : GoodIn wsL_price (wsV RL 121 RX11 yX11_price wsX11_price) := goodIn_app (goodIn_of _ (by decide +kernel)) ggL_price_X11_price
theorem dL_price_0 : decode cL_price 0 = .ok (.aload_n 3, 1) := by decide +kernel
theorem dL_price_1 : decode cL_price 1 = .ok (.iconst 0, 1) := by decide +kernel
theorem dL_price_2 : decode cL_price 2 = .ok (.aload_n 0, 1) := by decide +kernel
theorem dL_price_3 : decode cL_price 3 = .ok (.iload_n 1, 1) := by decide +kernel
theorem dL_price_4 : decode cL_price 4 = .ok (.iload_n 2, 1) := by decide +kernel
theorem dL_price_5 : decode cL_price 5 = .ok (.invokevirtual 121, 3) := by decide +kernel
theorem dL_price_8 : decode cL_price 8 = .ok (.i2l, 1) := by decide +kernel
theorem dL_price_9 : decode cL_price 9 = .ok (.lastore, 1) := by decide +kernel
theorem dL_price_10 : decode cL_price 10 = .ok (.goto 7, 3) := by decide +kernel
theorem dL_price_13 : decode cL_price 13 = .ok (.astore 4, 2) := by decide +kernel
theorem dL_price_15 : decode cL_price 15 = .ok (.iconst 1, 1) := by decide +kernel
theorem dL_price_16 : decode cL_price 16 = .ok (.ireturn, 1) := by decide +kernel
theorem dL_price_17 : decode cL_price 17 = .ok (.iconst 0, 1) := by decide +kernel
theorem dL_price_18 : decode cL_price 18 = .ok (.ireturn, 1) := by decide +kernel
set_option maxRecDepth 20000 in
theorem ggL_listeners_X11_listeners : GoodIn wsL_listeners wsX11_listeners := goodIn_ca (goodIn_ca (goodIn_r _ [7, 8, 9, 10, 6, 11, 12, 13, 14, 15, 16, 17, 18, 19, 20, 21, 22, 23, 24, 25, 26, 27, 28, 29, 30, 31, 32, 33, 34, 35, 36, 37, 38, 39, 40, 41, 42, 43, 44, 45, 46, 47, 48, 49, 50, 51, 52, 53, 54, 55, 56, 57, 58, 59, 60, 61, 62, 63, 64, 65, 66, 67, 68, 69, 70, 71, 72, 73, 74, 75, 76, 77, 78, 79, 80, 81, 82, 83, 84, 85, 86, 87, 88, 89, 90, 91, 92, 93, 94, 95, 96, 97, 98, 99, 100, 101, 102, 103, 104, 105, 106, 107, 108, 109, 110, 111, 112, 113, 114, 115, 116, 117, 118, 119, 120, 121, 122, 123, 124, 125, 126, 127, 128, 129, 130, 131] (by decide +kernel) (by decide +kernel)) (goodIn_sub (fun _ h => List.mem_cons_of_mem _ (List.mem_append_left _ (List.mem_append_right _ h))) (by decide +kernel))) (goodIn_sub (fun _ h => List.mem_cons_of_mem _ (List.mem_append_right _ h)) (by decide +kernel))
set_option maxRecDepth 20000 in
theorem gL_listeners_X11_listeners : GoodIn wsL_listeners (wsV RL 124 RX11 yX11_listeners wsX11_listeners) := goodIn_app (goodIn_of _ (by decide +kernel)) ggL_listeners_X11_listeners
theorem dL_listeners_0 : decode cL_listeners 0 = .ok (.aload_n 3, 1) := by decide +kernel
theorem dL_listeners_1 : decode cL_listeners 1 = .ok (.iconst 0, 1) := by decide +kernel
theorem dL_listeners_2 : decode cL_listeners 2 = .ok (.aload_n 0, 1) := by decide +kernel
theorem dL_listeners_3 : decode cL_listeners 3 = .ok (.iload_n 1, 1) := by decide +kernel
theorem dL_listeners_4 : decode cL_listeners 4 = .ok (.iload_n 2, 1) := by decide +kernel
theorem dL_listeners_5 : decode cL_listeners 5 = .ok (.invokevirtual 124, 3) := by decide +kernel
theorem dL_listeners_8 : decode cL_listeners 8 = .ok (.i2l, 1) := by decide +kernel
theorem dL_listeners_9 : decode cL_listeners 9 = .ok (.lastore, 1) := by decide +kernel
theorem dL_listeners_10 : decode cL_listeners 10 = .ok (.goto 11, 3) := by decide +kernel
theorem dL_listeners_13 : decode cL_listeners 13 = .ok (.astore 4, 2) := by decide +kernel
theorem dL_listeners_15 : decode cL_listeners 15 = .ok (.iconst 1, 1) := by decide +kernel
theorem dL_listeners_16 : decode cL_listeners 16 = .ok (.ireturn, 1) := by decide +kernel
theorem dL_listeners_17 : decode cL_listeners 17 = .ok (.astore 4, 2) := by decide +kernel
theorem dL_listeners_19 : decode cL_listeners 19 = .ok (.iconst 2, 1) := by decide +kernel
theorem dL_listeners_20 : decode cL_listeners 20 = .ok (.ireturn, 1) := by decide +kernel
theorem dL_listeners_21 : decode cL_listeners 21 = .ok (.iconst 0, 1) := by decide +kernel
theorem dL_listeners_22 : decode cL_listeners 22 = .ok (.ireturn, 1) := by decide +kernel
set_option maxRecDepth 20000 in
theorem ggL_line_X11_line : GoodIn wsL_line wsX11_line := goodIn_ca (goodIn_r _ [6, 7, 8, 9, 10, 5, 11, 12, 13, 14, 15, 16, 17, 18, 19, 20, 21, 22, 23, 24, 25, 26, 27, 28, 29, 30, 31, 32, 33, 34, 35, 36, 37, 38, 39, 40] (by decide +kernel) (by decide +kernel)) (goodIn_sub (fun _ h => List.mem_cons_of_mem _ (List.mem_append_right _ h)) (by decide +kernel))
set_option maxRecDepth 20000 in
theorem gL_line_X11_line : GoodIn wsL_line (wsV RL 127 RX11 yX11_line wsX11_line) := goodIn_app (goodIn_of _ (by decide +kernel)) ggL_line_X11_line
theorem dL_line_0 : decode cL_line 0 = .ok (.aload_n 2, 1) := by decide +kernel
theorem dL_line_1 : decode cL_line 1 = .ok (.iconst 0, 1) := by decide +kernel
theorem dL_line_2 : decode cL_line 2 = .ok (.aload_n 0, 1) := by decide +kernel
theorem dL_line_3 : decode cL_line 3 = .ok (.iload_n 1, 1) := by decide +kernel
theorem dL_line_4 : decode cL_line 4 = .ok (.invokevirtual 127, 3) := by decide +kernel
theorem dL_line_7 : decode cL_line 7 = .ok (.i2l, 1) := by decide +kernel
theorem dL_line_8 : decode cL_line 8 = .ok (.lastore, 1) := by decide +kernel
theorem dL_line_9 : decode cL_line 9 = .ok (.goto 6, 3) := by decide +kernel
theorem dL_line_12 : decode cL_line 12 = .ok (.astore_n 3, 1) := by decide +kernel
theorem dL_line_13 : decode cL_line 13 = .ok (.iconst 1, 1) := by decide +kernel
theorem dL_line_14 : decode cL_line 14 = .ok (.ireturn, 1) := by decide +kernel
theorem dL_line_15 : decode cL_line 15 = .ok (.iconst 0, 1) := by decide +kernel
theorem dL_line_16 : decode cL_line 16 = .ok (.ireturn, 1) := by decide +kernel
set_option maxRecDepth 20000 in
theorem ggL_front_X11_front : GoodIn wsL_front wsX11_front := goodIn_ca (goodIn_ca (goodIn_r _ [7, 8, 9, 10, 11, 12, 13, 14, 6, 15, 16, 17, 18, 19, 20, 21, 22, 23, 24, 25, 26, 27, 28, 29, 30, 31, 32, 33, 34, 35, 36, 37, 38, 39, 40, 41, 42, 43, 44, 45, 46, 47, 48, 49, 50] (by decide +kernel) (by decide +kernel)) (goodIn_sub (fun _ h => List.mem_cons_of_mem _ (List.mem_append_left _ (List.mem_append_right _ h))) (by decide +kernel))) (goodIn_sub (fun _ h => List.mem_cons_of_mem _ (List.mem_append_right _ h)) (by decide +kernel))
set_option maxRecDepth 20000 in
theorem gL_front_X11_front : GoodIn wsL_front (wsV RL 130 RX11 yX11_front wsX11_front) := goodIn_app (goodIn_of _ (by decide +kernel)) ggL_front_X11_front
theorem dL_front_0 : decode cL_front 0 = .ok (.aload_n 3, 1) := by decide +kernel
theorem dL_front_1 : decode cL_front 1 = .ok (.iconst 0, 1) := by decide +kernel
theorem dL_front_2 : decode cL_front 2 = .ok (.aload_n 0, 1) := by decide +kernel
theorem dL_front_3 : decode cL_front 3 = .ok (.iload_n 1, 1) := by decide +kernel
theorem dL_front_4 : decode cL_front 4 = .ok (.iload_n 2, 1) := by decide +kernel
theorem dL_front_5 : decode cL_front 5 = .ok (.invokevirtual 130, 3) := by decide +kernel
theorem dL_front_8 : decode cL_front 8 = .ok (.i2l, 1) := by decide +kernel
theorem dL_front_9 : decode cL_front 9 = .ok (.lastore, 1) := by decide +kernel
theorem dL_front_10 : decode cL_front 10 = .ok (.goto 11, 3) := by decide +kernel
theorem dL_front_13 : decode cL_front 13 = .ok (.astore 4, 2) := by decide +kernel
theorem dL_front_15 : decode cL_front 15 = .ok (.iconst 1, 1) := by decide +kernel
theorem dL_front_16 : decode cL_front 16 = .ok (.ireturn, 1) := by decide +kernel
theorem dL_front_17 : decode cL_front 17 = .ok (.astore 4, 2) := by decide +kernel
theorem dL_front_19 : decode cL_front 19 = .ok (.iconst 2, 1) := by decide +kernel
theorem dL_front_20 : decode cL_front 20 = .ok (.ireturn, 1) := by decide +kernel
theorem dL_front_21 : decode cL_front 21 = .ok (.iconst 0, 1) := by decide +kernel
theorem dL_front_22 : decode cL_front 22 = .ok (.ireturn, 1) := by decide +kernel
set_option maxRecDepth 20000 in
theorem ggL_waitOf_X11_waitOf : GoodIn wsL_waitOf wsX11_waitOf := goodIn_ca (goodIn_r _ [6, 7, 8, 9, 10, 5, 11, 12, 13, 14, 15, 16, 17, 18, 19, 20, 21, 22, 23, 24, 25, 26, 27, 28, 29, 30, 31, 32, 33, 34, 35, 36, 37, 38, 39, 40, 41, 42, 43, 44, 45, 46, 47, 48] (by decide +kernel) (by decide +kernel)) (goodIn_sub (fun _ h => List.mem_cons_of_mem _ (List.mem_append_right _ h)) (by decide +kernel))
set_option maxRecDepth 20000 in
theorem gL_waitOf_X11_waitOf : GoodIn wsL_waitOf (wsV RL 134 RX11 yX11_waitOf wsX11_waitOf) := goodIn_app (goodIn_of _ (by decide +kernel)) ggL_waitOf_X11_waitOf
theorem dL_waitOf_0 : decode cL_waitOf 0 = .ok (.aload_n 2, 1) := by decide +kernel
theorem dL_waitOf_1 : decode cL_waitOf 1 = .ok (.iconst 0, 1) := by decide +kernel
theorem dL_waitOf_2 : decode cL_waitOf 2 = .ok (.aload_n 0, 1) := by decide +kernel
theorem dL_waitOf_3 : decode cL_waitOf 3 = .ok (.iload_n 1, 1) := by decide +kernel
theorem dL_waitOf_4 : decode cL_waitOf 4 = .ok (.invokevirtual 134, 3) := by decide +kernel
theorem dL_waitOf_7 : decode cL_waitOf 7 = .ok (.i2l, 1) := by decide +kernel
theorem dL_waitOf_8 : decode cL_waitOf 8 = .ok (.lastore, 1) := by decide +kernel
theorem dL_waitOf_9 : decode cL_waitOf 9 = .ok (.goto 6, 3) := by decide +kernel
theorem dL_waitOf_12 : decode cL_waitOf 12 = .ok (.astore_n 3, 1) := by decide +kernel
theorem dL_waitOf_13 : decode cL_waitOf 13 = .ok (.iconst 1, 1) := by decide +kernel
theorem dL_waitOf_14 : decode cL_waitOf 14 = .ok (.ireturn, 1) := by decide +kernel
theorem dL_waitOf_15 : decode cL_waitOf 15 = .ok (.iconst 0, 1) := by decide +kernel
theorem dL_waitOf_16 : decode cL_waitOf 16 = .ok (.ireturn, 1) := by decide +kernel
set_option maxRecDepth 20000 in
theorem ggL_helpers_X11_helpers : GoodIn wsL_helpers wsX11_helpers := goodIn_ca (goodIn_r _ [6, 7, 8, 9, 10, 11, 5, 12, 13, 14, 15, 16, 17, 18, 19, 20, 21, 22, 23, 24, 25, 26, 27, 28, 29, 30, 31, 32, 33, 34, 35, 36, 37, 38, 39, 40, 41, 42, 43, 44, 45, 46, 47, 48, 49, 50, 51, 52, 53, 54, 55, 56, 57, 58, 59] (by decide +kernel) (by decide +kernel)) (goodIn_sub (fun _ h => List.mem_cons_of_mem _ (List.mem_append_right _ h)) (by decide +kernel))
set_option maxRecDepth 20000 in
theorem gL_helpers_X11_helpers : GoodIn wsL_helpers (wsV RL 137 RX11 yX11_helpers wsX11_helpers) := goodIn_app (goodIn_of _ (by decide +kernel)) ggL_helpers_X11_helpers
theorem dL_helpers_0 : decode cL_helpers 0 = .ok (.aload_n 2, 1) := by decide +kernel
theorem dL_helpers_1 : decode cL_helpers 1 = .ok (.iconst 0, 1) := by decide +kernel
theorem dL_helpers_2 : decode cL_helpers 2 = .ok (.aload_n 0, 1) := by decide +kernel
theorem dL_helpers_3 : decode cL_helpers 3 = .ok (.iload_n 1, 1) := by decide +kernel
theorem dL_helpers_4 : decode cL_helpers 4 = .ok (.invokevirtual 137, 3) := by decide +kernel
theorem dL_helpers_7 : decode cL_helpers 7 = .ok (.i2l, 1) := by decide +kernel
theorem dL_helpers_8 : decode cL_helpers 8 = .ok (.lastore, 1) := by decide +kernel
theorem dL_helpers_9 : decode cL_helpers 9 = .ok (.goto 6, 3) := by decide +kernel
theorem dL_helpers_12 : decode cL_helpers 12 = .ok (.astore_n 3, 1) := by decide +kernel
theorem dL_helpers_13 : decode cL_helpers 13 = .ok (.iconst 1, 1) := by decide +kernel
theorem dL_helpers_14 : decode cL_helpers 14 = .ok (.ireturn, 1) := by decide +kernel
theorem dL_helpers_15 : decode cL_helpers 15 = .ok (.iconst 0, 1) := by decide +kernel
theorem dL_helpers_16 : decode cL_helpers 16 = .ok (.ireturn, 1) := by decide +kernel
set_option maxRecDepth 20000 in
theorem ggL_isOn_X11_isOn : GoodIn wsL_isOn wsX11_isOn := goodIn_ca (goodIn_ca (goodIn_r _ [7, 8, 9, 10, 11, 12, 13, 6, 14, 15, 16, 17, 18, 19, 20, 21, 22, 23, 24, 25, 26, 27, 28, 29, 30, 31, 32, 33, 34, 35, 36, 37, 38, 39, 40, 41, 42, 43, 44, 45, 46, 47, 48, 49, 50, 51, 52, 53, 54, 55, 56, 57, 58, 59, 60, 61, 62, 63, 64, 65, 66, 67, 68, 69, 70, 71, 72, 73, 74, 75, 76, 77] (by decide +kernel) (by decide +kernel)) (goodIn_sub (fun _ h => List.mem_cons_of_mem _ (List.mem_append_left _ (List.mem_append_right _ h))) (by decide +kernel))) (goodIn_sub (fun _ h => List.mem_cons_of_mem _ (List.mem_append_right _ h)) (by decide +kernel))
set_option maxRecDepth 20000 in
theorem gL_isOn_X11_isOn : GoodIn wsL_isOn (wsV RL 140 RX11 yX11_isOn wsX11_isOn) := goodIn_app (goodIn_of _ (by decide +kernel)) ggL_isOn_X11_isOn
theorem dL_isOn_0 : decode cL_isOn 0 = .ok (.aload_n 2, 1) := by decide +kernel
theorem dL_isOn_1 : decode cL_isOn 1 = .ok (.iconst 0, 1) := by decide +kernel
theorem dL_isOn_2 : decode cL_isOn 2 = .ok (.aload_n 0, 1) := by decide +kernel
theorem dL_isOn_3 : decode cL_isOn 3 = .ok (.iload_n 1, 1) := by decide +kernel
theorem dL_isOn_4 : decode cL_isOn 4 = .ok (.invokevirtual 140, 3) := by decide +kernel
theorem dL_isOn_7 : decode cL_isOn 7 = .ok (.i2l, 1) := by decide +kernel
theorem dL_isOn_8 : decode cL_isOn 8 = .ok (.lastore, 1) := by decide +kernel
theorem dL_isOn_9 : decode cL_isOn 9 = .ok (.goto 9, 3) := by decide +kernel
theorem dL_isOn_12 : decode cL_isOn 12 = .ok (.astore_n 3, 1) := by decide +kernel
theorem dL_isOn_13 : decode cL_isOn 13 = .ok (.iconst 1, 1) := by decide +kernel
theorem dL_isOn_14 : decode cL_isOn 14 = .ok (.ireturn, 1) := by decide +kernel
theorem dL_isOn_15 : decode cL_isOn 15 = .ok (.astore_n 3, 1) := by decide +kernel
theorem dL_isOn_16 : decode cL_isOn 16 = .ok (.iconst 2, 1) := by decide +kernel
theorem dL_isOn_17 : decode cL_isOn 17 = .ok (.ireturn, 1) := by decide +kernel
theorem dL_isOn_18 : decode cL_isOn 18 = .ok (.iconst 0, 1) := by decide +kernel
theorem dL_isOn_19 : decode cL_isOn 19 = .ok (.ireturn, 1) := by decide +kernel
set_option maxRecDepth 20000 in
theorem ggL_rain_X11_rain : GoodIn wsL_rain wsX11_rain := goodIn_ca (goodIn_ca (goodIn_r _ [7, 8, 9, 10, 11, 12, 6, 13, 14, 15, 16, 17, 18, 19, 20, 21, 22, 23, 24, 25, 26, 27, 28, 29, 30, 31, 32, 33, 34, 35, 36, 37, 38, 39, 40, 41, 42, 43, 44, 45, 46, 47, 48, 49, 50, 51, 52, 53, 54, 55, 56, 57, 58, 59, 60, 61, 62, 63, 64, 65, 66, 67, 68, 69, 70, 71, 72, 73, 74, 75, 76, 77, 78, 79, 80, 81, 82, 83, 84, 85, 86, 87, 88, 89, 90, 91, 92, 93, 94, 95, 96, 97, 98, 99, 100, 101, 102, 103, 104, 105, 106, 107, 108, 109] (by decide +kernel) (by decide +kernel)) (goodIn_sub (fun _ h => List.mem_cons_of_mem _ (List.mem_append_left _ (List.mem_append_right _ h))) (by decide +kernel))) (goodIn_sub (fun _ h => List.mem_cons_of_mem _ (List.mem_append_right _ h)) (by decide +kernel))
set_option maxRecDepth 20000 in
theorem gL_rain_X11_rain : GoodIn wsL_rain (wsV RL 143 RX11 yX11_rain wsX11_rain) := goodIn_app (goodIn_of _ (by decide +kernel)) ggL_rain_X11_rain
theorem dL_rain_0 : decode cL_rain 0 = .ok (.aload_n 3, 1) := by decide +kernel
theorem dL_rain_1 : decode cL_rain 1 = .ok (.iconst 0, 1) := by decide +kernel
theorem dL_rain_2 : decode cL_rain 2 = .ok (.aload_n 0, 1) := by decide +kernel
theorem dL_rain_3 : decode cL_rain 3 = .ok (.iload_n 1, 1) := by decide +kernel
theorem dL_rain_4 : decode cL_rain 4 = .ok (.iload_n 2, 1) := by decide +kernel
theorem dL_rain_5 : decode cL_rain 5 = .ok (.invokevirtual 143, 3) := by decide +kernel
theorem dL_rain_8 : decode cL_rain 8 = .ok (.i2l, 1) := by decide +kernel
theorem dL_rain_9 : decode cL_rain 9 = .ok (.lastore, 1) := by decide +kernel
theorem dL_rain_10 : decode cL_rain 10 = .ok (.goto 11, 3) := by decide +kernel
theorem dL_rain_13 : decode cL_rain 13 = .ok (.astore 4, 2) := by decide +kernel
theorem dL_rain_15 : decode cL_rain 15 = .ok (.iconst 1, 1) := by decide +kernel
theorem dL_rain_16 : decode cL_rain 16 = .ok (.ireturn, 1) := by decide +kernel
theorem dL_rain_17 : decode cL_rain 17 = .ok (.astore 4, 2) := by decide +kernel
theorem dL_rain_19 : decode cL_rain 19 = .ok (.iconst 2, 1) := by decide +kernel
theorem dL_rain_20 : decode cL_rain 20 = .ok (.ireturn, 1) := by decide +kernel
theorem dL_rain_21 : decode cL_rain 21 = .ok (.iconst 0, 1) := by decide +kernel
theorem dL_rain_22 : decode cL_rain 22 = .ok (.ireturn, 1) := by decide +kernel
set_option maxRecDepth 20000 in
theorem ggL_movedTo_X11_movedTo : GoodIn wsL_movedTo wsX11_movedTo := goodIn_ca (goodIn_r _ [6, 7, 8, 9, 10, 11, 12, 5, 13, 14, 15, 16, 17, 18, 19, 20, 21, 22, 23, 24, 25, 26, 27, 28, 29, 30, 31, 32, 33, 34, 35, 36, 37, 38, 39, 40, 41, 42, 43, 44, 45, 46, 47, 48, 49, 50, 51, 52, 53] (by decide +kernel) (by decide +kernel)) (goodIn_sub (fun _ h => List.mem_cons_of_mem _ (List.mem_append_right _ h)) (by decide +kernel))
set_option maxRecDepth 20000 in
theorem gL_movedTo_X11_movedTo : GoodIn wsL_movedTo (wsV RL 146 RX11 yX11_movedTo wsX11_movedTo) := goodIn_app (goodIn_of _ (by decide +kernel)) ggL_movedTo_X11_movedTo
theorem dL_movedTo_0 : decode cL_movedTo 0 = .ok (.aload_n 2, 1) := by decide +kernel
theorem dL_movedTo_1 : decode cL_movedTo 1 = .ok (.iconst 0, 1) := by decide +kernel
theorem dL_movedTo_2 : decode cL_movedTo 2 = .ok (.aload_n 0, 1) := by decide +kernel
theorem dL_movedTo_3 : decode cL_movedTo 3 = .ok (.iload_n 1, 1) := by decide +kernel
theorem dL_movedTo_4 : decode cL_movedTo 4 = .ok (.invokevirtual 146, 3) := by decide +kernel
theorem dL_movedTo_7 : decode cL_movedTo 7 = .ok (.i2l, 1) := by decide +kernel
theorem dL_movedTo_8 : decode cL_movedTo 8 = .ok (.lastore, 1) := by decide +kernel
theorem dL_movedTo_9 : decode cL_movedTo 9 = .ok (.goto 6, 3) := by decide +kernel
theorem dL_movedTo_12 : decode cL_movedTo 12 = .ok (.astore_n 3, 1) := by decide +kernel
theorem dL_movedTo_13 : decode cL_movedTo 13 = .ok (.iconst 1, 1) := by decide +kernel
theorem dL_movedTo_14 : decode cL_movedTo 14 = .ok (.ireturn, 1) := by decide +kernel
theorem dL_movedTo_15 : decode cL_movedTo 15 = .ok (.iconst 0, 1) := by decide +kernel
theorem dL_movedTo_16 : decode cL_movedTo 16 = .ok (.ireturn, 1) := by decide +kernel
set_option maxRecDepth 20000 in
theorem ggL_ticketAt_X11_ticketAt : GoodIn wsL_ticketAt wsX11_ticketAt := goodIn_ca (goodIn_r _ [6, 7, 8, 9, 10, 11, 5, 12, 13, 14, 15, 16, 17, 18, 19, 20, 21, 22, 23, 24, 25, 26, 27, 28, 29, 30, 31, 32, 33] (by decide +kernel) (by decide +kernel)) (goodIn_sub (fun _ h => List.mem_cons_of_mem _ (List.mem_append_right _ h)) (by decide +kernel))
set_option maxRecDepth 20000 in
theorem gL_ticketAt_X11_ticketAt : GoodIn wsL_ticketAt (wsV RL 149 RX11 yX11_ticketAt wsX11_ticketAt) := goodIn_app (goodIn_of _ (by decide +kernel)) ggL_ticketAt_X11_ticketAt
theorem dL_ticketAt_0 : decode cL_ticketAt 0 = .ok (.aload_n 3, 1) := by decide +kernel
theorem dL_ticketAt_1 : decode cL_ticketAt 1 = .ok (.iconst 0, 1) := by decide +kernel
theorem dL_ticketAt_2 : decode cL_ticketAt 2 = .ok (.aload_n 0, 1) := by decide +kernel
theorem dL_ticketAt_3 : decode cL_ticketAt 3 = .ok (.iload_n 1, 1) := by decide +kernel
theorem dL_ticketAt_4 : decode cL_ticketAt 4 = .ok (.iload_n 2, 1) := by decide +kernel
theorem dL_ticketAt_5 : decode cL_ticketAt 5 = .ok (.invokevirtual 149, 3) := by decide +kernel
theorem dL_ticketAt_8 : decode cL_ticketAt 8 = .ok (.i2l, 1) := by decide +kernel
theorem dL_ticketAt_9 : decode cL_ticketAt 9 = .ok (.lastore, 1) := by decide +kernel
theorem dL_ticketAt_10 : decode cL_ticketAt 10 = .ok (.goto 7, 3) := by decide +kernel
theorem dL_ticketAt_13 : decode cL_ticketAt 13 = .ok (.astore 4, 2) := by decide +kernel
theorem dL_ticketAt_15 : decode cL_ticketAt 15 = .ok (.iconst 1, 1) := by decide +kernel
theorem dL_ticketAt_16 : decode cL_ticketAt 16 = .ok (.ireturn, 1) := by decide +kernel
theorem dL_ticketAt_17 : decode cL_ticketAt 17 = .ok (.iconst 0, 1) := by decide +kernel
theorem dL_ticketAt_18 : decode cL_ticketAt 18 = .ok (.ireturn, 1) := by decide +kernel
set_option maxRecDepth 20000 in
theorem ggL_balance_X11_balance : GoodIn wsL_balance wsX11_balance := goodIn_ca (goodIn_ca (goodIn_r _ [7, 8, 9, 10, 11, 12, 13, 14, 6, 15, 16, 17, 18, 19, 20, 21, 22, 23, 24, 25, 26, 27, 28, 29, 30, 31, 32, 33, 34, 35, 36, 37, 38, 39, 40, 41] (by decide +kernel) (by decide +kernel)) (goodIn_sub (fun _ h => List.mem_cons_of_mem _ (List.mem_append_left _ (List.mem_append_right _ h))) (by decide +kernel))) (goodIn_sub (fun _ h => List.mem_cons_of_mem _ (List.mem_append_right _ h)) (by decide +kernel))
set_option maxRecDepth 20000 in
theorem gL_balance_X11_balance : GoodIn wsL_balance (wsV RL 152 RX11 yX11_balance wsX11_balance) := goodIn_app (goodIn_of _ (by decide +kernel)) ggL_balance_X11_balance
theorem dL_balance_0 : decode cL_balance 0 = .ok (.aload_n 3, 1) := by decide +kernel
theorem dL_balance_1 : decode cL_balance 1 = .ok (.iconst 0, 1) := by decide +kernel
theorem dL_balance_2 : decode cL_balance 2 = .ok (.aload_n 0, 1) := by decide +kernel
theorem dL_balance_3 : decode cL_balance 3 = .ok (.iload_n 1, 1) := by decide +kernel
theorem dL_balance_4 : decode cL_balance 4 = .ok (.iload_n 2, 1) := by decide +kernel
theorem dL_balance_5 : decode cL_balance 5 = .ok (.invokevirtual 152, 3) := by decide +kernel
theorem dL_balance_8 : decode cL_balance 8 = .ok (.lastore, 1) := by decide +kernel
theorem dL_balance_9 : decode cL_balance 9 = .ok (.goto 11, 3) := by decide +kernel
theorem dL_balance_12 : decode cL_balance 12 = .ok (.astore 4, 2) := by decide +kernel
theorem dL_balance_14 : decode cL_balance 14 = .ok (.iconst 1, 1) := by decide +kernel
theorem dL_balance_15 : decode cL_balance 15 = .ok (.ireturn, 1) := by decide +kernel
theorem dL_balance_16 : decode cL_balance 16 = .ok (.astore 4, 2) := by decide +kernel
theorem dL_balance_18 : decode cL_balance 18 = .ok (.iconst 2, 1) := by decide +kernel
theorem dL_balance_19 : decode cL_balance 19 = .ok (.ireturn, 1) := by decide +kernel
theorem dL_balance_20 : decode cL_balance 20 = .ok (.iconst 0, 1) := by decide +kernel
theorem dL_balance_21 : decode cL_balance 21 = .ok (.ireturn, 1) := by decide +kernel
set_option maxRecDepth 20000 in
theorem ggL_meanEvening_X11_meanEvening : GoodIn wsL_meanEvening wsX11_meanEvening := goodIn_ca (goodIn_r _ [6, 7, 8, 9, 10, 5, 11, 12, 13, 14, 15, 16, 17, 18, 19, 20, 21, 22, 23, 24, 25, 26, 27, 28, 29, 30, 31, 32, 33, 34, 35, 36, 37, 38, 39, 40, 41, 42, 43, 44, 45, 46, 47, 48, 49, 50, 51, 52, 53, 54, 55, 56, 57, 58, 59, 60, 61, 62, 63, 64, 65, 66, 67, 68, 69, 70, 71, 72, 73, 74, 75, 76, 77, 78, 79, 80, 81, 82, 83, 84, 85, 86, 87, 88, 89, 90, 91, 92, 93, 94, 95, 96, 97, 98, 99, 100, 101, 102, 103, 104, 105, 106, 107, 108, 109, 110, 111, 112, 113, 114, 115, 116, 117, 118, 119, 120, 121] (by decide +kernel) (by decide +kernel)) (goodIn_sub (fun _ h => List.mem_cons_of_mem _ (List.mem_append_right _ h)) (by decide +kernel))
set_option maxRecDepth 20000 in
theorem gL_meanEvening_X11_meanEvening : GoodIn wsL_meanEvening (wsV RL 156 RX11 yX11_meanEvening wsX11_meanEvening) := goodIn_app (goodIn_of _ (by decide +kernel)) ggL_meanEvening_X11_meanEvening
theorem dL_meanEvening_0 : decode cL_meanEvening 0 = .ok (.aload_n 2, 1) := by decide +kernel
theorem dL_meanEvening_1 : decode cL_meanEvening 1 = .ok (.iconst 0, 1) := by decide +kernel
theorem dL_meanEvening_2 : decode cL_meanEvening 2 = .ok (.aload_n 0, 1) := by decide +kernel
theorem dL_meanEvening_3 : decode cL_meanEvening 3 = .ok (.iload_n 1, 1) := by decide +kernel
theorem dL_meanEvening_4 : decode cL_meanEvening 4 = .ok (.invokevirtual 156, 3) := by decide +kernel
theorem dL_meanEvening_7 : decode cL_meanEvening 7 = .ok (.dastore, 1) := by decide +kernel
theorem dL_meanEvening_8 : decode cL_meanEvening 8 = .ok (.goto 6, 3) := by decide +kernel
theorem dL_meanEvening_11 : decode cL_meanEvening 11 = .ok (.astore_n 3, 1) := by decide +kernel
theorem dL_meanEvening_12 : decode cL_meanEvening 12 = .ok (.iconst 1, 1) := by decide +kernel
theorem dL_meanEvening_13 : decode cL_meanEvening 13 = .ok (.ireturn, 1) := by decide +kernel
theorem dL_meanEvening_14 : decode cL_meanEvening 14 = .ok (.iconst 0, 1) := by decide +kernel
theorem dL_meanEvening_15 : decode cL_meanEvening 15 = .ok (.ireturn, 1) := by decide +kernel
