set_option maxRecDepth 20000 in
theorem ggX0_init_J7_fill_53178 : GoodIn wsX0_init wsJ7_fill_53178 := goodIn_r _ [19] (by decide +kernel) (by decide +kernel)
set_option maxRecDepth 20000 in
theorem gX0_init_J7_fill_53178 : GoodIn wsX0_init (va_wsS RX0 16 yJ7_fill_53178 wsJ7_fill_53178) := goodIn_app (goodIn_of _ (by decide +kernel)) ggX0_init_J7_fill_53178
theorem dX0_init_0 : decode cX0_init 0 = .ok (.aload_n 0, 1) := by decide +kernel
theorem dX0_init_1 : decode cX0_init 1 = .ok (.invokespecial 1, 3) := by decide +kernel
theorem dX0_init_4 : decode cX0_init 4 = .ok (.aload_n 0, 1) := by decide +kernel
theorem dX0_init_5 : decode cX0_init 5 = .ok (.sipush 1024, 3) := by decide +kernel
theorem dX0_init_8 : decode cX0_init 8 = .ok (.newarray .int, 2) := by decide +kernel
theorem dX0_init_10 : decode cX0_init 10 = .ok (.putfield 9, 3) := by decide +kernel
theorem dX0_init_13 : decode cX0_init 13 = .ok (.aload_n 0, 1) := by decide +kernel
theorem dX0_init_14 : decode cX0_init 14 = .ok (.bipush 48, 2) := by decide +kernel
theorem dX0_init_16 : decode cX0_init 16 = .ok (.newarray .int, 2) := by decide +kernel
theorem dX0_init_18 : decode cX0_init 18 = .ok (.putfield 13, 3) := by decide +kernel
theorem dX0_init_21 : decode cX0_init 21 = .ok (.aload_n 0, 1) := by decide +kernel
theorem dX0_init_22 : decode cX0_init 22 = .ok (.getfield 13, 3) := by decide +kernel
theorem dX0_init_25 : decode cX0_init 25 = .ok (.iconst (-1), 1) := by decide +kernel
theorem dX0_init_26 : decode cX0_init 26 = .ok (.invokestatic 16, 3) := by decide +kernel
theorem dX0_init_29 : decode cX0_init 29 = .ok (.aload_n 0, 1) := by decide +kernel
theorem dX0_init_30 : decode cX0_init 30 = .ok (.bipush 48, 2) := by decide +kernel
theorem dX0_init_32 : decode cX0_init 32 = .ok (.newarray .int, 2) := by decide +kernel
theorem dX0_init_34 : decode cX0_init 34 = .ok (.putfield 22, 3) := by decide +kernel
theorem dX0_init_37 : decode cX0_init 37 = .ok (.aload_n 0, 1) := by decide +kernel
theorem dX0_init_38 : decode cX0_init 38 = .ok (.bipush 48, 2) := by decide +kernel
theorem dX0_init_40 : decode cX0_init 40 = .ok (.newarray .boolean, 2) := by decide +kernel
theorem dX0_init_42 : decode cX0_init 42 = .ok (.putfield 25, 3) := by decide +kernel
theorem dX0_init_45 : decode cX0_init 45 = .ok (.aload_n 0, 1) := by decide +kernel
theorem dX0_init_46 : decode cX0_init 46 = .ok (.bipush 48, 2) := by decide +kernel
theorem dX0_init_48 : decode cX0_init 48 = .ok (.newarray .boolean, 2) := by decide +kernel
theorem dX0_init_50 : decode cX0_init 50 = .ok (.putfield 29, 3) := by decide +kernel
theorem dX0_init_53 : decode cX0_init 53 = .ok (.aload_n 0, 1) := by decide +kernel
theorem dX0_init_54 : decode cX0_init 54 = .ok (.bipush 48, 2) := by decide +kernel
theorem dX0_init_56 : decode cX0_init 56 = .ok (.newarray .boolean, 2) := by decide +kernel
theorem dX0_init_58 : decode cX0_init 58 = .ok (.putfield 32, 3) := by decide +kernel
theorem dX0_init_61 : decode cX0_init 61 = .ok (.aload_n 0, 1) := by decide +kernel
theorem dX0_init_62 : decode cX0_init 62 = .ok (.bipush 48, 2) := by decide +kernel
theorem dX0_init_64 : decode cX0_init 64 = .ok (.newarray .int, 2) := by decide +kernel
theorem dX0_init_66 : decode cX0_init 66 = .ok (.putfield 35, 3) := by decide +kernel
theorem dX0_init_69 : decode cX0_init 69 = .ok (.aload_n 0, 1) := by decide +kernel
theorem dX0_init_70 : decode cX0_init 70 = .ok (.iconst 0, 1) := by decide +kernel
theorem dX0_init_71 : decode cX0_init 71 = .ok (.putfield 38, 3) := by decide +kernel
theorem dX0_init_74 : decode cX0_init 74 = .ok (.aload_n 0, 1) := by decide +kernel
theorem dX0_init_75 : decode cX0_init 75 = .ok (.iconst 0, 1) := by decide +kernel
theorem dX0_init_76 : decode cX0_init 76 = .ok (.putfield 42, 3) := by decide +kernel
theorem dX0_init_79 : decode cX0_init 79 = .ok (.aload_n 0, 1) := by decide +kernel
theorem dX0_init_80 : decode cX0_init 80 = .ok (.iconst 0, 1) := by decide +kernel
theorem dX0_init_81 : decode cX0_init 81 = .ok (.putfield 45, 3) := by decide +kernel
theorem dX0_init_84 : decode cX0_init 84 = .ok (.return_, 1) := by decide +kernel
set_option maxRecDepth 20000 in
theorem ggX0_ask_X0_checkBlockLength : GoodIn wsX0_ask wsX0_checkBlockLength := goodIn_ca (goodIn_r _ [4, 5, 6] (by decide +kernel) (by decide +kernel)) (goodIn_sub (fun _ h => List.mem_cons_of_mem _ (List.mem_append_left _ (List.mem_append_right _ h))) (by decide +kernel))
set_option maxRecDepth 20000 in
theorem gX0_ask_X0_checkBlockLength : GoodIn wsX0_ask (va_wsS RX0 48 yX0_checkBlockLength wsX0_checkBlockLength) := goodIn_app (goodIn_of _ (by decide +kernel)) ggX0_ask_X0_checkBlockLength
set_option maxRecDepth 20000 in
theorem ggX0_ask_X0_leastUnused : GoodIn wsX0_ask wsX0_leastUnused := goodIn_ca (goodIn_r _ [10, 11, 98, 99, 100, 101, 102, 103, 104, 105, 106, 107] (by decide +kernel) (by decide +kernel)) (goodIn_sub (fun _ h => List.mem_cons_of_mem _ (List.mem_append_right _ h)) (by decide +kernel))
set_option maxRecDepth 20000 in
theorem gX0_ask_X0_leastUnused : GoodIn wsX0_ask (wsV RX0 52 RX0 yX0_leastUnused wsX0_leastUnused) := goodIn_app (goodIn_of _ (by decide +kernel)) ggX0_ask_X0_leastUnused
set_option maxRecDepth 20000 in
theorem ggX0_ask_X0_makeBlock : GoodIn wsX0_ask wsX0_makeBlock := goodIn_ca (goodIn_r _ [15, 11, 16, 17, 18, 19, 20, 21, 3, 22, 23, 24, 25, 26, 27, 28, 29, 30, 31, 32, 33, 34, 35, 36, 37, 38, 39, 40, 41, 42, 43, 44, 45, 46, 47, 48, 49, 50, 51, 52, 53, 54, 55, 56, 57, 58, 59, 60, 61, 62, 63, 64, 65, 66, 67, 68, 69, 70, 71, 72, 73, 74, 75, 76, 77, 78, 79, 80, 81, 82, 83, 84, 85, 86, 87, 88, 89, 90, 91, 92, 93, 94, 95, 96, 97, 98, 99, 100, 101, 102, 103, 104, 105, 106, 107, 108, 109, 110, 111, 112, 113, 114, 115, 116, 117] (by decide +kernel) (by decide +kernel)) (goodIn_sub (fun _ h => List.mem_cons_of_mem _ (List.mem_append_right _ h)) (by decide +kernel))
set_option maxRecDepth 20000 in
theorem gX0_ask_X0_makeBlock : GoodIn wsX0_ask (wsV RX0 56 RX0 yX0_makeBlock wsX0_makeBlock) := goodIn_app (goodIn_of _ (by decide +kernel)) ggX0_ask_X0_makeBlock
theorem dX0_ask_0 : decode cX0_ask 0 = .ok (.iload_n 1, 1) := by decide +kernel
theorem dX0_ask_1 : decode cX0_ask 1 = .ok (.invokestatic 48, 3) := by decide +kernel
theorem dX0_ask_4 : decode cX0_ask 4 = .ok (.aload_n 0, 1) := by decide +kernel
theorem dX0_ask_5 : decode cX0_ask 5 = .ok (.invokevirtual 52, 3) := by decide +kernel
theorem dX0_ask_8 : decode cX0_ask 8 = .ok (.istore_n 3, 1) := by decide +kernel
theorem dX0_ask_9 : decode cX0_ask 9 = .ok (.iload_n 3, 1) := by decide +kernel
theorem dX0_ask_10 : decode cX0_ask 10 = .ok (.iconst (-1), 1) := by decide +kernel
theorem dX0_ask_11 : decode cX0_ask 11 = .ok (.if_icmp .eq 13, 3) := by decide +kernel
theorem dX0_ask_14 : decode cX0_ask 14 = .ok (.aload_n 0, 1) := by decide +kernel
theorem dX0_ask_15 : decode cX0_ask 15 = .ok (.iload_n 3, 1) := by decide +kernel
theorem dX0_ask_16 : decode cX0_ask 16 = .ok (.iload_n 1, 1) := by decide +kernel
theorem dX0_ask_17 : decode cX0_ask 17 = .ok (.iload_n 2, 1) := by decide +kernel
theorem dX0_ask_18 : decode cX0_ask 18 = .ok (.invokevirtual 56, 3) := by decide +kernel
theorem dX0_ask_21 : decode cX0_ask 21 = .ok (.ifCond .ne 5, 3) := by decide +kernel
theorem dX0_ask_24 : decode cX0_ask 24 = .ok (.iconst (-1), 1) := by decide +kernel
theorem dX0_ask_25 : decode cX0_ask 25 = .ok (.ireturn, 1) := by decide +kernel
theorem dX0_ask_26 : decode cX0_ask 26 = .ok (.iload_n 3, 1) := by decide +kernel
theorem dX0_ask_27 : decode cX0_ask 27 = .ok (.ireturn, 1) := by decide +kernel
set_option maxRecDepth 20000 in
theorem ggX0_drop_X0_checkInUse : GoodIn wsX0_drop wsX0_checkInUse := goodIn_ca (goodIn_ca (goodIn_r _ [6, 7, 8, 9, 10, 11, 5, 12, 23, 24, 25, 26, 27, 28, 29, 30, 31, 32] (by decide +kernel) (by decide +kernel)) (goodIn_sub (fun _ h => List.mem_cons_of_mem _ (List.mem_append_left _ (List.mem_append_right _ h))) (by decide +kernel))) (goodIn_sub (fun _ h => List.mem_cons_of_mem _ (List.mem_append_right _ h)) (by decide +kernel))
set_option maxRecDepth 20000 in
theorem gX0_drop_X0_checkInUse : GoodIn wsX0_drop (wsV RX0 60 RX0 yX0_checkInUse wsX0_checkInUse) := goodIn_app (goodIn_of _ (by decide +kernel)) ggX0_drop_X0_checkInUse
set_option maxRecDepth 20000 in
theorem ggX0_drop_X0_takeBlock : GoodIn wsX0_drop wsX0_takeBlock := goodIn_ca (goodIn_r _ [16, 9, 1, 17, 18, 19, 5, 20, 21, 22, 23, 24, 25, 26, 27, 28, 29, 30, 31, 32] (by decide +kernel) (by decide +kernel)) (goodIn_sub (fun _ h => List.mem_cons_of_mem _ (List.mem_append_left _ (List.mem_append_right _ h))) (by decide +kernel))
set_option maxRecDepth 20000 in
theorem gX0_drop_X0_takeBlock : GoodIn wsX0_drop (wsV RX0 63 RX0 yX0_takeBlock wsX0_takeBlock) := goodIn_app (goodIn_of _ (by decide +kernel)) ggX0_drop_X0_takeBlock
theorem dX0_drop_0 : decode cX0_drop 0 = .ok (.aload_n 0, 1) := by decide +kernel
theorem dX0_drop_1 : decode cX0_drop 1 = .ok (.iload_n 1, 1) := by decide +kernel
theorem dX0_drop_2 : decode cX0_drop 2 = .ok (.invokevirtual 60, 3) := by decide +kernel
theorem dX0_drop_5 : decode cX0_drop 5 = .ok (.aload_n 0, 1) := by decide +kernel
theorem dX0_drop_6 : decode cX0_drop 6 = .ok (.getfield 22, 3) := by decide +kernel
theorem dX0_drop_9 : decode cX0_drop 9 = .ok (.iload_n 1, 1) := by decide +kernel
theorem dX0_drop_10 : decode cX0_drop 10 = .ok (.iaload, 1) := by decide +kernel
theorem dX0_drop_11 : decode cX0_drop 11 = .ok (.istore_n 2, 1) := by decide +kernel
theorem dX0_drop_12 : decode cX0_drop 12 = .ok (.aload_n 0, 1) := by decide +kernel
theorem dX0_drop_13 : decode cX0_drop 13 = .ok (.iload_n 1, 1) := by decide +kernel
theorem dX0_drop_14 : decode cX0_drop 14 = .ok (.iconst (-1), 1) := by decide +kernel
theorem dX0_drop_15 : decode cX0_drop 15 = .ok (.invokevirtual 63, 3) := by decide +kernel
theorem dX0_drop_18 : decode cX0_drop 18 = .ok (.iload_n 2, 1) := by decide +kernel
theorem dX0_drop_19 : decode cX0_drop 19 = .ok (.ireturn, 1) := by decide +kernel
set_option maxRecDepth 20000 in
theorem ggX0_resize_X0_checkInUse : GoodIn wsX0_resize wsX0_checkInUse := goodIn_ca (goodIn_ca (goodIn_r _ [7, 8, 9, 1, 10, 11, 6, 12, 109, 110, 111, 112, 113, 114, 115, 116, 117, 118] (by decide +kernel) (by decide +kernel)) (goodIn_sub (fun _ h => List.mem_cons_of_mem _ (List.mem_append_left _ (List.mem_append_right _ h))) (by decide +kernel))) (goodIn_sub (fun _ h => List.mem_cons_of_mem _ (List.mem_append_right _ h)) (by decide +kernel))
set_option maxRecDepth 20000 in
theorem gX0_resize_X0_checkInUse : GoodIn wsX0_resize (wsV RX0 60 RX0 yX0_checkInUse wsX0_checkInUse) := goodIn_app (goodIn_of _ (by decide +kernel)) ggX0_resize_X0_checkInUse
set_option maxRecDepth 20000 in
theorem ggX0_resize_X0_checkBlockLength : GoodIn wsX0_resize wsX0_checkBlockLength := goodIn_ca (goodIn_r _ [15, 8, 9] (by decide +kernel) (by decide +kernel)) (goodIn_sub (fun _ h => List.mem_cons_of_mem _ (List.mem_append_right _ h)) (by decide +kernel))
set_option maxRecDepth 20000 in
theorem gX0_resize_X0_checkBlockLength : GoodIn wsX0_resize (va_wsS RX0 48 yX0_checkBlockLength wsX0_checkBlockLength) := goodIn_app (goodIn_of _ (by decide +kernel)) ggX0_resize_X0_checkBlockLength
set_option maxRecDepth 20000 in
theorem ggX0_resize_X0_makeBlock : GoodIn wsX0_resize wsX0_makeBlock := goodIn_ca (goodIn_r _ [19, 1, 20, 21, 22, 23, 24, 25, 6, 26, 27, 28, 29, 30, 31, 32, 33, 34, 35, 36, 37, 38, 39, 40, 41, 42, 43, 44, 2, 45, 46, 47, 48, 49, 50, 51, 52, 53, 54, 55, 56, 57, 58, 59, 60, 61, 62, 63, 64, 65, 66, 67, 68, 69, 70, 71, 72, 73, 74, 75, 76, 77, 78, 79, 80, 81, 82, 83, 84, 85, 86, 87, 88, 89, 90, 91, 92, 93, 94, 95, 96, 97, 98, 99, 100, 109, 110, 111, 112, 113, 114, 115, 116, 117, 118, 119, 120, 121, 122, 123, 124, 125, 126, 127, 128] (by decide +kernel) (by decide +kernel)) (goodIn_sub (fun _ h => List.mem_cons_of_mem _ (List.mem_append_left _ (List.mem_append_right _ h))) (by decide +kernel))
set_option maxRecDepth 20000 in
theorem gX0_resize_X0_makeBlock : GoodIn wsX0_resize (wsV RX0 56 RX0 yX0_makeBlock wsX0_makeBlock) := goodIn_app (goodIn_of _ (by decide +kernel)) ggX0_resize_X0_makeBlock
set_option maxRecDepth 20000 in
theorem ggX0_resize_X0_freeBehind : GoodIn wsX0_resize wsX0_freeBehind := goodIn_ca (goodIn_r _ [104, 31, 36, 32, 33, 34, 6, 35, 1, 37, 38, 39, 40, 41, 42, 43, 44, 2, 109, 110, 111, 112, 113, 114, 115, 116, 117, 118] (by decide +kernel) (by decide +kernel)) (goodIn_sub (fun _ h => List.mem_cons_of_mem _ (List.mem_append_left _ (List.mem_append_right _ h))) (by decide +kernel))
set_option maxRecDepth 20000 in
theorem gX0_resize_X0_freeBehind : GoodIn wsX0_resize (wsV RX0 67 RX0 yX0_freeBehind wsX0_freeBehind) := goodIn_app (goodIn_of _ (by decide +kernel)) ggX0_resize_X0_freeBehind
set_option maxRecDepth 20000 in
theorem ggX0_resize_X0_setLength : GoodIn wsX0_resize wsX0_setLength := goodIn_ca (goodIn_r _ [83, 2, 57, 1, 41, 42, 43, 6, 44, 84, 85, 86, 87, 88, 89, 90, 91, 92, 93, 94, 95, 96, 109, 110, 111, 112, 113, 114, 115, 116, 117, 118, 119, 120, 121, 122, 123, 124, 125, 126, 127, 128] (by decide +kernel) (by decide +kernel)) (goodIn_sub (fun _ h => List.mem_cons_of_mem _ (List.mem_append_left _ (List.mem_append_right _ h))) (by decide +kernel))
set_option maxRecDepth 20000 in
theorem gX0_resize_X0_setLength : GoodIn wsX0_resize (wsV RX0 71 RX0 yX0_setLength wsX0_setLength) := goodIn_app (goodIn_of _ (by decide +kernel)) ggX0_resize_X0_setLength
set_option maxRecDepth 20000 in
theorem ggX0_resize_X0_isMovable : GoodIn wsX0_resize wsX0_isMovable := goodIn_ca (goodIn_r _ [52, 20, 21, 109, 110, 111, 112, 113, 114, 115, 116, 117, 118] (by decide +kernel) (by decide +kernel)) (goodIn_sub (fun _ h => List.mem_cons_of_mem _ (List.mem_append_left _ (List.mem_append_right _ h))) (by decide +kernel))
set_option maxRecDepth 20000 in
theorem gX0_resize_X0_isMovable : GoodIn wsX0_resize (wsV RX0 74 RX0 yX0_isMovable wsX0_isMovable) := goodIn_app (goodIn_of _ (by decide +kernel)) ggX0_resize_X0_isMovable
set_option maxRecDepth 20000 in
theorem ggX0_resize_X0_growElsewhere : GoodIn wsX0_resize wsX0_growElsewhere := goodIn_ca (goodIn_r _ [108, 23, 24, 25, 6, 26, 27, 28, 29, 30, 31, 32, 33, 34, 35, 1, 36, 37, 38, 39, 40, 41, 42, 43, 44, 2, 45, 46, 47, 48, 49, 50, 51, 52, 20, 21, 53, 54, 55, 56, 57, 58, 59, 60, 61, 62, 63, 64, 65, 66, 22, 67, 68, 69, 70, 71, 72, 73, 74, 75, 76, 77, 78, 79, 97, 98, 99, 100, 80, 81, 82, 83, 84, 85, 86, 87, 88, 89, 90, 91, 92, 93, 94, 95, 96, 109, 110, 111, 112, 113, 114, 115, 116, 117, 118, 119, 120, 121, 122, 123, 124, 125, 126, 127, 128] (by decide +kernel) (by decide +kernel)) (goodIn_sub (fun _ h => List.mem_cons_of_mem _ (List.mem_append_left _ (List.mem_append_right _ h))) (by decide +kernel))
set_option maxRecDepth 20000 in
theorem gX0_resize_X0_growElsewhere : GoodIn wsX0_resize (wsV RX0 78 RX0 yX0_growElsewhere wsX0_growElsewhere) := goodIn_app (goodIn_of _ (by decide +kernel)) ggX0_resize_X0_growElsewhere
theorem dX0_resize_0 : decode cX0_resize 0 = .ok (.aload_n 0, 1) := by decide +kernel
theorem dX0_resize_1 : decode cX0_resize 1 = .ok (.iload_n 1, 1) := by decide +kernel
theorem dX0_resize_2 : decode cX0_resize 2 = .ok (.invokevirtual 60, 3) := by decide +kernel
theorem dX0_resize_5 : decode cX0_resize 5 = .ok (.iload_n 2, 1) := by decide +kernel
theorem dX0_resize_6 : decode cX0_resize 6 = .ok (.invokestatic 48, 3) := by decide +kernel
theorem dX0_resize_9 : decode cX0_resize 9 = .ok (.aload_n 0, 1) := by decide +kernel
theorem dX0_resize_10 : decode cX0_resize 10 = .ok (.getfield 13, 3) := by decide +kernel
theorem dX0_resize_13 : decode cX0_resize 13 = .ok (.iload_n 1, 1) := by decide +kernel
theorem dX0_resize_14 : decode cX0_resize 14 = .ok (.iaload, 1) := by decide +kernel
theorem dX0_resize_15 : decode cX0_resize 15 = .ok (.bipush (-2), 2) := by decide +kernel
theorem dX0_resize_17 : decode cX0_resize 17 = .ok (.if_icmp .ne 11, 3) := by decide +kernel
theorem dX0_resize_20 : decode cX0_resize 20 = .ok (.aload_n 0, 1) := by decide +kernel
theorem dX0_resize_21 : decode cX0_resize 21 = .ok (.iload_n 1, 1) := by decide +kernel
theorem dX0_resize_22 : decode cX0_resize 22 = .ok (.iload_n 2, 1) := by decide +kernel
theorem dX0_resize_23 : decode cX0_resize 23 = .ok (.iconst 0, 1) := by decide +kernel
theorem dX0_resize_24 : decode cX0_resize 24 = .ok (.invokevirtual 56, 3) := by decide +kernel
theorem dX0_resize_27 : decode cX0_resize 27 = .ok (.ireturn, 1) := by decide +kernel
theorem dX0_resize_28 : decode cX0_resize 28 = .ok (.iload_n 2, 1) := by decide +kernel
theorem dX0_resize_29 : decode cX0_resize 29 = .ok (.aload_n 0, 1) := by decide +kernel
theorem dX0_resize_30 : decode cX0_resize 30 = .ok (.getfield 22, 3) := by decide +kernel
theorem dX0_resize_33 : decode cX0_resize 33 = .ok (.iload_n 1, 1) := by decide +kernel
theorem dX0_resize_34 : decode cX0_resize 34 = .ok (.iaload, 1) := by decide +kernel
theorem dX0_resize_35 : decode cX0_resize 35 = .ok (.isub, 1) := by decide +kernel
theorem dX0_resize_36 : decode cX0_resize 36 = .ok (.aload_n 0, 1) := by decide +kernel
theorem dX0_resize_37 : decode cX0_resize 37 = .ok (.iload_n 1, 1) := by decide +kernel
theorem dX0_resize_38 : decode cX0_resize 38 = .ok (.invokevirtual 67, 3) := by decide +kernel
theorem dX0_resize_41 : decode cX0_resize 41 = .ok (.if_icmp .gt 11, 3) := by decide +kernel
theorem dX0_resize_44 : decode cX0_resize 44 = .ok (.aload_n 0, 1) := by decide +kernel
theorem dX0_resize_45 : decode cX0_resize 45 = .ok (.iload_n 1, 1) := by decide +kernel
theorem dX0_resize_46 : decode cX0_resize 46 = .ok (.iload_n 2, 1) := by decide +kernel
theorem dX0_resize_47 : decode cX0_resize 47 = .ok (.invokevirtual 71, 3) := by decide +kernel
theorem dX0_resize_50 : decode cX0_resize 50 = .ok (.iconst 1, 1) := by decide +kernel
theorem dX0_resize_51 : decode cX0_resize 51 = .ok (.ireturn, 1) := by decide +kernel
theorem dX0_resize_52 : decode cX0_resize 52 = .ok (.aload_n 0, 1) := by decide +kernel
theorem dX0_resize_53 : decode cX0_resize 53 = .ok (.iload_n 1, 1) := by decide +kernel
theorem dX0_resize_54 : decode cX0_resize 54 = .ok (.invokevirtual 74, 3) := by decide +kernel
theorem dX0_resize_57 : decode cX0_resize 57 = .ok (.ifCond .eq 16, 3) := by decide +kernel
theorem dX0_resize_60 : decode cX0_resize 60 = .ok (.aload_n 0, 1) := by decide +kernel
theorem dX0_resize_61 : decode cX0_resize 61 = .ok (.iload_n 1, 1) := by decide +kernel
theorem dX0_resize_62 : decode cX0_resize 62 = .ok (.iload_n 2, 1) := by decide +kernel
theorem dX0_resize_63 : decode cX0_resize 63 = .ok (.invokevirtual 78, 3) := by decide +kernel
theorem dX0_resize_66 : decode cX0_resize 66 = .ok (.ifCond .eq 7, 3) := by decide +kernel
theorem dX0_resize_69 : decode cX0_resize 69 = .ok (.iconst 1, 1) := by decide +kernel
theorem dX0_resize_70 : decode cX0_resize 70 = .ok (.goto 4, 3) := by decide +kernel
theorem dX0_resize_73 : decode cX0_resize 73 = .ok (.iconst 0, 1) := by decide +kernel
theorem dX0_resize_74 : decode cX0_resize 74 = .ok (.ireturn, 1) := by decide +kernel
set_option maxRecDepth 20000 in
theorem ggX0_lock_X0_checkHasBlock : GoodIn wsX0_lock wsX0_checkHasBlock := goodIn_ca (goodIn_ca (goodIn_ca (goodIn_r _ [6, 7, 8, 9, 10, 11, 12, 5, 13, 14, 15, 16, 17, 18, 19, 20, 21, 22, 23, 24, 25, 26, 27, 28] (by decide +kernel) (by decide +kernel)) (goodIn_sub (fun _ h => List.mem_cons_of_mem _ (List.mem_append_left _ (List.mem_append_left _ (List.mem_append_right _ h)))) (by decide +kernel))) (goodIn_sub (fun _ h => List.mem_cons_of_mem _ (List.mem_append_left _ (List.mem_append_right _ h))) (by decide +kernel))) (goodIn_sub (fun _ h => List.mem_cons_of_mem _ (List.mem_append_right _ h)) (by decide +kernel))
set_option maxRecDepth 20000 in
theorem gX0_lock_X0_checkHasBlock : GoodIn wsX0_lock (wsV RX0 82 RX0 yX0_checkHasBlock wsX0_checkHasBlock) := goodIn_app (goodIn_of _ (by decide +kernel)) ggX0_lock_X0_checkHasBlock
theorem dX0_lock_0 : decode cX0_lock 0 = .ok (.aload_n 0, 1) := by decide +kernel
theorem dX0_lock_1 : decode cX0_lock 1 = .ok (.iload_n 1, 1) := by decide +kernel
theorem dX0_lock_2 : decode cX0_lock 2 = .ok (.invokevirtual 82, 3) := by decide +kernel
theorem dX0_lock_5 : decode cX0_lock 5 = .ok (.aload_n 0, 1) := by decide +kernel
theorem dX0_lock_6 : decode cX0_lock 6 = .ok (.getfield 29, 3) := by decide +kernel
theorem dX0_lock_9 : decode cX0_lock 9 = .ok (.iload_n 1, 1) := by decide +kernel
theorem dX0_lock_10 : decode cX0_lock 10 = .ok (.baload, 1) := by decide +kernel
theorem dX0_lock_11 : decode cX0_lock 11 = .ok (.istore_n 3, 1) := by decide +kernel
theorem dX0_lock_12 : decode cX0_lock 12 = .ok (.aload_n 0, 1) := by decide +kernel
theorem dX0_lock_13 : decode cX0_lock 13 = .ok (.getfield 29, 3) := by decide +kernel
theorem dX0_lock_16 : decode cX0_lock 16 = .ok (.iload_n 1, 1) := by decide +kernel
theorem dX0_lock_17 : decode cX0_lock 17 = .ok (.iload_n 2, 1) := by decide +kernel
theorem dX0_lock_18 : decode cX0_lock 18 = .ok (.bastore, 1) := by decide +kernel
theorem dX0_lock_19 : decode cX0_lock 19 = .ok (.iload_n 3, 1) := by decide +kernel
theorem dX0_lock_20 : decode cX0_lock 20 = .ok (.ireturn, 1) := by decide +kernel
set_option maxRecDepth 20000 in
theorem ggX0_losable_X0_checkHasBlock : GoodIn wsX0_losable wsX0_checkHasBlock := goodIn_ca (goodIn_ca (goodIn_ca (goodIn_r _ [6, 7, 8, 9, 10, 11, 12, 5, 13, 14, 15, 16, 17, 18, 19, 20, 21, 22, 23, 24, 25, 26, 27, 28] (by decide +kernel) (by decide +kernel)) (goodIn_sub (fun _ h => List.mem_cons_of_mem _ (List.mem_append_left _ (List.mem_append_left _ (List.mem_append_right _ h)))) (by decide +kernel))) (goodIn_sub (fun _ h => List.mem_cons_of_mem _ (List.mem_append_left _ (List.mem_append_right _ h))) (by decide +kernel))) (goodIn_sub (fun _ h => List.mem_cons_of_mem _ (List.mem_append_right _ h)) (by decide +kernel))
set_option maxRecDepth 20000 in
theorem gX0_losable_X0_checkHasBlock : GoodIn wsX0_losable (wsV RX0 82 RX0 yX0_checkHasBlock wsX0_checkHasBlock) := goodIn_app (goodIn_of _ (by decide +kernel)) ggX0_losable_X0_checkHasBlock
theorem dX0_losable_0 : decode cX0_losable 0 = .ok (.aload_n 0, 1) := by decide +kernel
theorem dX0_losable_1 : decode cX0_losable 1 = .ok (.iload_n 1, 1) := by decide +kernel
theorem dX0_losable_2 : decode cX0_losable 2 = .ok (.invokevirtual 82, 3) := by decide +kernel
theorem dX0_losable_5 : decode cX0_losable 5 = .ok (.aload_n 0, 1) := by decide +kernel
theorem dX0_losable_6 : decode cX0_losable 6 = .ok (.getfield 32, 3) := by decide +kernel
theorem dX0_losable_9 : decode cX0_losable 9 = .ok (.iload_n 1, 1) := by decide +kernel
theorem dX0_losable_10 : decode cX0_losable 10 = .ok (.baload, 1) := by decide +kernel
theorem dX0_losable_11 : decode cX0_losable 11 = .ok (.istore_n 3, 1) := by decide +kernel
theorem dX0_losable_12 : decode cX0_losable 12 = .ok (.aload_n 0, 1) := by decide +kernel
theorem dX0_losable_13 : decode cX0_losable 13 = .ok (.getfield 32, 3) := by decide +kernel
theorem dX0_losable_16 : decode cX0_losable 16 = .ok (.iload_n 1, 1) := by decide +kernel
theorem dX0_losable_17 : decode cX0_losable 17 = .ok (.iload_n 2, 1) := by decide +kernel
theorem dX0_losable_18 : decode cX0_losable 18 = .ok (.bastore, 1) := by decide +kernel
theorem dX0_losable_19 : decode cX0_losable 19 = .ok (.iload_n 3, 1) := by decide +kernel
theorem dX0_losable_20 : decode cX0_losable 20 = .ok (.ireturn, 1) := by decide +kernel
set_option maxRecDepth 20000 in
theorem ggX0_lose_X0_checkHasBlock : GoodIn wsX0_lose wsX0_checkHasBlock := goodIn_ca (goodIn_ca (goodIn_ca (goodIn_r _ [5, 6, 7, 8, 9, 10, 11, 4, 12, 13, 14, 15, 16, 17, 40, 41, 42, 43, 44, 45, 46, 47, 48, 49] (by decide +kernel) (by decide +kernel)) (goodIn_sub (fun _ h => List.mem_cons_of_mem _ (List.mem_append_left _ (List.mem_append_left _ (List.mem_append_right _ h)))) (by decide +kernel))) (goodIn_sub (fun _ h => List.mem_cons_of_mem _ (List.mem_append_left _ (List.mem_append_right _ h))) (by decide +kernel))) (goodIn_sub (fun _ h => List.mem_cons_of_mem _ (List.mem_append_right _ h)) (by decide +kernel))
set_option maxRecDepth 20000 in
theorem gX0_lose_X0_checkHasBlock : GoodIn wsX0_lose (wsV RX0 82 RX0 yX0_checkHasBlock wsX0_checkHasBlock) := goodIn_app (goodIn_of _ (by decide +kernel)) ggX0_lose_X0_checkHasBlock
set_option maxRecDepth 20000 in
theorem ggX0_lose_X0_isMovable : GoodIn wsX0_lose wsX0_isMovable := goodIn_ca (goodIn_r _ [21, 22, 23, 40, 41, 42, 43, 44, 45, 46, 47, 48, 49] (by decide +kernel) (by decide +kernel)) (goodIn_sub (fun _ h => List.mem_cons_of_mem _ (List.mem_append_left _ (List.mem_append_left _ (List.mem_append_right _ h)))) (by decide +kernel))
set_option maxRecDepth 20000 in
theorem gX0_lose_X0_isMovable : GoodIn wsX0_lose (wsV RX0 74 RX0 yX0_isMovable wsX0_isMovable) := goodIn_app (goodIn_of _ (by decide +kernel)) ggX0_lose_X0_isMovable
set_option maxRecDepth 20000 in
theorem ggX0_lose_X0_giveUp : GoodIn wsX0_lose wsX0_giveUp := goodIn_ca (goodIn_r _ [27, 28, 29, 30, 31, 4, 32, 8, 33, 34, 35, 36, 37, 38, 39, 40, 41, 42, 43, 44, 45, 46, 47, 48, 49] (by decide +kernel) (by decide +kernel)) (goodIn_sub (fun _ h => List.mem_cons_of_mem _ (List.mem_append_left _ (List.mem_append_left _ (List.mem_append_right _ h)))) (by decide +kernel))
set_option maxRecDepth 20000 in
theorem gX0_lose_X0_giveUp : GoodIn wsX0_lose (wsV RX0 85 RX0 yX0_giveUp wsX0_giveUp) := goodIn_app (goodIn_of _ (by decide +kernel)) ggX0_lose_X0_giveUp
theorem dX0_lose_0 : decode cX0_lose 0 = .ok (.aload_n 0, 1) := by decide +kernel
theorem dX0_lose_1 : decode cX0_lose 1 = .ok (.iload_n 1, 1) := by decide +kernel
theorem dX0_lose_2 : decode cX0_lose 2 = .ok (.invokevirtual 82, 3) := by decide +kernel
theorem dX0_lose_5 : decode cX0_lose 5 = .ok (.aload_n 0, 1) := by decide +kernel
theorem dX0_lose_6 : decode cX0_lose 6 = .ok (.iload_n 1, 1) := by decide +kernel
theorem dX0_lose_7 : decode cX0_lose 7 = .ok (.invokevirtual 74, 3) := by decide +kernel
theorem dX0_lose_10 : decode cX0_lose 10 = .ok (.ifCond .ne 5, 3) := by decide +kernel
theorem dX0_lose_13 : decode cX0_lose 13 = .ok (.iconst 0, 1) := by decide +kernel
theorem dX0_lose_14 : decode cX0_lose 14 = .ok (.ireturn, 1) := by decide +kernel
theorem dX0_lose_15 : decode cX0_lose 15 = .ok (.aload_n 0, 1) := by decide +kernel
theorem dX0_lose_16 : decode cX0_lose 16 = .ok (.iload_n 1, 1) := by decide +kernel
theorem dX0_lose_17 : decode cX0_lose 17 = .ok (.invokevirtual 85, 3) := by decide +kernel
theorem dX0_lose_20 : decode cX0_lose 20 = .ok (.iconst 1, 1) := by decide +kernel
theorem dX0_lose_21 : decode cX0_lose 21 = .ok (.ireturn, 1) := by decide +kernel
set_option maxRecDepth 20000 in
theorem ggX0_lift_X0_checkHasBlock : GoodIn wsX0_lift wsX0_checkHasBlock := goodIn_ca (goodIn_ca (goodIn_ca (goodIn_r _ [8, 1, 2, 3, 9, 10, 11, 7, 12, 13, 14, 15, 16, 17, 53, 54, 55, 56, 57, 58, 59, 60, 61, 62] (by decide +kernel) (by decide +kernel)) (goodIn_sub (fun _ h => List.mem_cons_of_mem _ (List.mem_append_left _ (List.mem_append_right _ h))) (by decide +kernel))) (goodIn_sub (fun _ h => List.mem_cons_of_mem _ (List.mem_append_left _ (List.mem_append_left _ (List.mem_append_right _ h)))) (by decide +kernel))) (goodIn_sub (fun _ h => List.mem_cons_of_mem _ (List.mem_append_right _ h)) (by decide +kernel))
set_option maxRecDepth 20000 in
theorem gX0_lift_X0_checkHasBlock : GoodIn wsX0_lift (wsV RX0 82 RX0 yX0_checkHasBlock wsX0_checkHasBlock) := goodIn_app (goodIn_of _ (by decide +kernel)) ggX0_lift_X0_checkHasBlock
set_option maxRecDepth 20000 in
theorem ggX0_lift_X0_isMovable : GoodIn wsX0_lift wsX0_isMovable := goodIn_ca (goodIn_r _ [21, 22, 23, 53, 54, 55, 56, 57, 58, 59, 60, 61, 62] (by decide +kernel) (by decide +kernel)) (goodIn_sub (fun _ h => List.mem_cons_of_mem _ (List.mem_append_left _ (List.mem_append_right _ h))) (by decide +kernel))
set_option maxRecDepth 20000 in
theorem gX0_lift_X0_isMovable : GoodIn wsX0_lift (wsV RX0 74 RX0 yX0_isMovable wsX0_isMovable) := goodIn_app (goodIn_of _ (by decide +kernel)) ggX0_lift_X0_isMovable
set_option maxRecDepth 20000 in
theorem ggX0_lift_X0_freeBehind : GoodIn wsX0_lift wsX0_freeBehind := goodIn_ca (goodIn_r _ [27, 28, 29, 30, 31, 32, 7, 33, 3, 34, 35, 36, 37, 38, 39, 40, 41, 42, 53, 54, 55, 56, 57, 58, 59, 60, 61, 62] (by decide +kernel) (by decide +kernel)) (goodIn_sub (fun _ h => List.mem_cons_of_mem _ (List.mem_append_left _ (List.mem_append_right _ h))) (by decide +kernel))
set_option maxRecDepth 20000 in
theorem gX0_lift_X0_freeBehind : GoodIn wsX0_lift (wsV RX0 67 RX0 yX0_freeBehind wsX0_freeBehind) := goodIn_app (goodIn_of _ (by decide +kernel)) ggX0_lift_X0_freeBehind
set_option maxRecDepth 20000 in
theorem ggX0_lift_X0_moveTo : GoodIn wsX0_lift wsX0_moveTo := goodIn_ca (goodIn_r _ [46, 3, 47, 42, 48, 49, 50, 51, 52, 53, 54, 55, 56, 57, 58, 59, 60, 61, 62] (by decide +kernel) (by decide +kernel)) (goodIn_sub (fun _ h => List.mem_cons_of_mem _ (List.mem_append_left _ (List.mem_append_right _ h))) (by decide +kernel))
set_option maxRecDepth 20000 in
theorem gX0_lift_X0_moveTo : GoodIn wsX0_lift (wsV RX0 95 RX0 yX0_moveTo wsX0_moveTo) := goodIn_app (goodIn_of _ (by decide +kernel)) ggX0_lift_X0_moveTo
theorem dX0_lift_0 : decode cX0_lift 0 = .ok (.aload_n 0, 1) := by decide +kernel
theorem dX0_lift_1 : decode cX0_lift 1 = .ok (.iload_n 1, 1) := by decide +kernel
theorem dX0_lift_2 : decode cX0_lift 2 = .ok (.invokevirtual 82, 3) := by decide +kernel
theorem dX0_lift_5 : decode cX0_lift 5 = .ok (.aload_n 0, 1) := by decide +kernel
theorem dX0_lift_6 : decode cX0_lift 6 = .ok (.iload_n 1, 1) := by decide +kernel
theorem dX0_lift_7 : decode cX0_lift 7 = .ok (.invokevirtual 74, 3) := by decide +kernel
theorem dX0_lift_10 : decode cX0_lift 10 = .ok (.ifCond .ne 13, 3) := by decide +kernel
theorem dX0_lift_13 : decode cX0_lift 13 = .ok (.new 88, 3) := by decide +kernel
theorem dX0_lift_16 : decode cX0_lift 16 = .ok (.dup, 1) := by decide +kernel
theorem dX0_lift_17 : decode cX0_lift 17 = .ok (.ldc 90, 2) := by decide +kernel
theorem dX0_lift_19 : decode cX0_lift 19 = .ok (.invokespecial 92, 3) := by decide +kernel
theorem dX0_lift_22 : decode cX0_lift 22 = .ok (.athrow, 1) := by decide +kernel
theorem dX0_lift_23 : decode cX0_lift 23 = .ok (.aload_n 0, 1) := by decide +kernel
theorem dX0_lift_24 : decode cX0_lift 24 = .ok (.iload_n 1, 1) := by decide +kernel
theorem dX0_lift_25 : decode cX0_lift 25 = .ok (.invokevirtual 67, 3) := by decide +kernel
theorem dX0_lift_28 : decode cX0_lift 28 = .ok (.istore_n 2, 1) := by decide +kernel
theorem dX0_lift_29 : decode cX0_lift 29 = .ok (.aload_n 0, 1) := by decide +kernel
theorem dX0_lift_30 : decode cX0_lift 30 = .ok (.iload_n 1, 1) := by decide +kernel
theorem dX0_lift_31 : decode cX0_lift 31 = .ok (.aload_n 0, 1) := by decide +kernel
theorem dX0_lift_32 : decode cX0_lift 32 = .ok (.getfield 13, 3) := by decide +kernel
theorem dX0_lift_35 : decode cX0_lift 35 = .ok (.iload_n 1, 1) := by decide +kernel
theorem dX0_lift_36 : decode cX0_lift 36 = .ok (.iaload, 1) := by decide +kernel
theorem dX0_lift_37 : decode cX0_lift 37 = .ok (.iload_n 2, 1) := by decide +kernel
theorem dX0_lift_38 : decode cX0_lift 38 = .ok (.iadd, 1) := by decide +kernel
theorem dX0_lift_39 : decode cX0_lift 39 = .ok (.invokevirtual 95, 3) := by decide +kernel
theorem dX0_lift_42 : decode cX0_lift 42 = .ok (.iload_n 2, 1) := by decide +kernel
theorem dX0_lift_43 : decode cX0_lift 43 = .ok (.ireturn, 1) := by decide +kernel
set_option maxRecDepth 20000 in
theorem ggX0_slide_X0_slideTogether : GoodIn wsX0_slide wsX0_slideTogether := goodIn_ca (goodIn_r _ [5, 6, 7, 8, 9, 10, 4, 11, 12, 13, 14, 15, 16, 17, 18, 19, 20, 21, 22, 23, 24, 25, 26, 27, 28, 29, 46, 47, 48, 49, 50, 51, 52, 53, 54, 55] (by decide +kernel) (by decide +kernel)) (goodIn_sub (fun _ h => List.mem_cons_of_mem _ (List.mem_append_right _ h)) (by decide +kernel))
set_option maxRecDepth 20000 in
theorem gX0_slide_X0_slideTogether : GoodIn wsX0_slide (wsV RX0 98 RX0 yX0_slideTogether wsX0_slideTogether) := goodIn_app (goodIn_of _ (by decide +kernel)) ggX0_slide_X0_slideTogether
set_option maxRecDepth 20000 in
theorem ggX0_slide_X0_greatestGap : GoodIn wsX0_slide wsX0_greatestGap := goodIn_ca (goodIn_r _ [33, 6, 34, 35, 36, 37, 38, 39, 40, 4, 41, 18, 7, 42, 43, 44, 45, 26, 27, 28, 29, 20, 46, 47, 48, 49, 50, 51, 52, 53, 54, 55] (by decide +kernel) (by decide +kernel)) (goodIn_sub (fun _ h => List.mem_cons_of_mem _ (List.mem_append_right _ h)) (by decide +kernel))
set_option maxRecDepth 20000 in
theorem gX0_slide_X0_greatestGap : GoodIn wsX0_slide (wsV RX0 101 RX0 yX0_greatestGap wsX0_greatestGap) := goodIn_app (goodIn_of _ (by decide +kernel)) ggX0_slide_X0_greatestGap
theorem dX0_slide_0 : decode cX0_slide 0 = .ok (.aload_n 0, 1) := by decide +kernel
theorem dX0_slide_1 : decode cX0_slide 1 = .ok (.invokevirtual 98, 3) := by decide +kernel
theorem dX0_slide_4 : decode cX0_slide 4 = .ok (.aload_n 0, 1) := by decide +kernel
theorem dX0_slide_5 : decode cX0_slide 5 = .ok (.invokevirtual 101, 3) := by decide +kernel
theorem dX0_slide_8 : decode cX0_slide 8 = .ok (.ireturn, 1) := by decide +kernel
set_option maxRecDepth 20000 in
theorem ggX0_clear_X0_greatestGap : GoodIn wsX0_clear wsX0_greatestGap := goodIn_ca (goodIn_r _ [7, 8, 9, 10, 11, 12, 13, 14, 15, 6, 16, 17, 18, 19, 20, 21, 22, 23, 24, 25, 26, 27, 66, 67, 68, 69, 70, 71, 72, 73, 74, 75] (by decide +kernel) (by decide +kernel)) (goodIn_sub (fun _ h => List.mem_cons_of_mem _ (List.mem_append_right _ h)) (by decide +kernel))
set_option maxRecDepth 20000 in
theorem gX0_clear_X0_greatestGap : GoodIn wsX0_clear (wsV RX0 101 RX0 yX0_greatestGap wsX0_greatestGap) := goodIn_app (goodIn_of _ (by decide +kernel)) ggX0_clear_X0_greatestGap
set_option maxRecDepth 20000 in
theorem ggX0_clear_X0_giveUpFirst : GoodIn wsX0_clear wsX0_giveUpFirst := goodIn_ca (goodIn_r _ [31, 8, 18, 32, 33, 34, 35, 6, 36, 37, 38, 39, 40, 41, 42, 43, 44, 45, 46, 47, 17, 27, 48, 49, 50, 51, 66, 67, 68, 69, 70, 71, 72, 73, 74, 75] (by decide +kernel) (by decide +kernel)) (goodIn_sub (fun _ h => List.mem_cons_of_mem _ (List.mem_append_right _ h)) (by decide +kernel))
set_option maxRecDepth 20000 in
theorem gX0_clear_X0_giveUpFirst : GoodIn wsX0_clear (wsV RX0 109 RX0 yX0_giveUpFirst wsX0_giveUpFirst) := goodIn_app (goodIn_of _ (by decide +kernel)) ggX0_clear_X0_giveUpFirst
set_option maxRecDepth 20000 in
theorem ggX0_clear_X0_slideTogether : GoodIn wsX0_clear wsX0_slideTogether := goodIn_ca (goodIn_r _ [55, 8, 18, 33, 34, 35, 6, 36, 37, 38, 56, 57, 58, 59, 17, 60, 27, 61, 62, 63, 64, 65, 23, 24, 25, 26, 66, 67, 68, 69, 70, 71, 72, 73, 74, 75] (by decide +kernel) (by decide +kernel)) (goodIn_sub (fun _ h => List.mem_cons_of_mem _ (List.mem_append_right _ h)) (by decide +kernel))
set_option maxRecDepth 20000 in
theorem gX0_clear_X0_slideTogether : GoodIn wsX0_clear (wsV RX0 98 RX0 yX0_slideTogether wsX0_slideTogether) := goodIn_app (goodIn_of _ (by decide +kernel)) ggX0_clear_X0_slideTogether
theorem dX0_clear_0 : decode cX0_clear 0 = .ok (.iload_n 1, 1) := by decide +kernel
theorem dX0_clear_1 : decode cX0_clear 1 = .ok (.ifCond .lt 10, 3) := by decide +kernel
theorem dX0_clear_4 : decode cX0_clear 4 = .ok (.iload_n 1, 1) := by decide +kernel
theorem dX0_clear_5 : decode cX0_clear 5 = .ok (.sipush 1024, 3) := by decide +kernel
theorem dX0_clear_8 : decode cX0_clear 8 = .ok (.if_icmp .le 13, 3) := by decide +kernel
theorem dX0_clear_11 : decode cX0_clear 11 = .ok (.new 104, 3) := by decide +kernel
theorem dX0_clear_14 : decode cX0_clear 14 = .ok (.dup, 1) := by decide +kernel
theorem dX0_clear_15 : decode cX0_clear 15 = .ok (.ldc 106, 2) := by decide +kernel
theorem dX0_clear_17 : decode cX0_clear 17 = .ok (.invokespecial 108, 3) := by decide +kernel
theorem dX0_clear_20 : decode cX0_clear 20 = .ok (.athrow, 1) := by decide +kernel
theorem dX0_clear_21 : decode cX0_clear 21 = .ok (.iconst 0, 1) := by decide +kernel
theorem dX0_clear_22 : decode cX0_clear 22 = .ok (.istore_n 2, 1) := by decide +kernel
theorem dX0_clear_23 : decode cX0_clear 23 = .ok (.iload_n 2, 1) := by decide +kernel
theorem dX0_clear_24 : decode cX0_clear 24 = .ok (.bipush 48, 2) := by decide +kernel
theorem dX0_clear_26 : decode cX0_clear 26 = .ok (.if_icmp .ge 29, 3) := by decide +kernel
theorem dX0_clear_29 : decode cX0_clear 29 = .ok (.aload_n 0, 1) := by decide +kernel
theorem dX0_clear_30 : decode cX0_clear 30 = .ok (.invokevirtual 101, 3) := by decide +kernel
theorem dX0_clear_33 : decode cX0_clear 33 = .ok (.iload_n 1, 1) := by decide +kernel
theorem dX0_clear_34 : decode cX0_clear 34 = .ok (.if_icmp .ge 21, 3) := by decide +kernel
theorem dX0_clear_37 : decode cX0_clear 37 = .ok (.aload_n 0, 1) := by decide +kernel
theorem dX0_clear_38 : decode cX0_clear 38 = .ok (.iconst (-1), 1) := by decide +kernel
theorem dX0_clear_39 : decode cX0_clear 39 = .ok (.invokevirtual 109, 3) := by decide +kernel
theorem dX0_clear_42 : decode cX0_clear 42 = .ok (.ifCond .eq 13, 3) := by decide +kernel
theorem dX0_clear_45 : decode cX0_clear 45 = .ok (.aload_n 0, 1) := by decide +kernel
theorem dX0_clear_46 : decode cX0_clear 46 = .ok (.invokevirtual 98, 3) := by decide +kernel
theorem dX0_clear_49 : decode cX0_clear 49 = .ok (.iinc 2 1, 3) := by decide +kernel
theorem dX0_clear_52 : decode cX0_clear 52 = .ok (.goto (-29), 3) := by decide +kernel
theorem dX0_clear_55 : decode cX0_clear 55 = .ok (.iload_n 2, 1) := by decide +kernel
theorem dX0_clear_56 : decode cX0_clear 56 = .ok (.ireturn, 1) := by decide +kernel
set_option maxRecDepth 20000 in
theorem ggX0_where_X0_checkHandle : GoodIn wsX0_where wsX0_checkHandle := goodIn_ca (goodIn_r _ [5, 6, 7] (by decide +kernel) (by decide +kernel)) (goodIn_sub (fun _ h => List.mem_cons_of_mem _ (List.mem_append_right _ h)) (by decide +kernel))
set_option maxRecDepth 20000 in
theorem gX0_where_X0_checkHandle : GoodIn wsX0_where (va_wsS RX0 112 yX0_checkHandle wsX0_checkHandle) := goodIn_app (goodIn_of _ (by decide +kernel)) ggX0_where_X0_checkHandle
theorem dX0_where_0 : decode cX0_where 0 = .ok (.iload_n 1, 1) := by decide +kernel
theorem dX0_where_1 : decode cX0_where 1 = .ok (.invokestatic 112, 3) := by decide +kernel
theorem dX0_where_4 : decode cX0_where 4 = .ok (.aload_n 0, 1) := by decide +kernel
theorem dX0_where_5 : decode cX0_where 5 = .ok (.getfield 13, 3) := by decide +kernel
theorem dX0_where_8 : decode cX0_where 8 = .ok (.iload_n 1, 1) := by decide +kernel
theorem dX0_where_9 : decode cX0_where 9 = .ok (.iaload, 1) := by decide +kernel
theorem dX0_where_10 : decode cX0_where 10 = .ok (.ireturn, 1) := by decide +kernel
set_option maxRecDepth 20000 in
theorem ggX0_size_X0_checkHandle : GoodIn wsX0_size wsX0_checkHandle := goodIn_ca (goodIn_r _ [5, 6, 7] (by decide +kernel) (by decide +kernel)) (goodIn_sub (fun _ h => List.mem_cons_of_mem _ (List.mem_append_right _ h)) (by decide +kernel))
set_option maxRecDepth 20000 in
theorem gX0_size_X0_checkHandle : GoodIn wsX0_size (va_wsS RX0 112 yX0_checkHandle wsX0_checkHandle) := goodIn_app (goodIn_of _ (by decide +kernel)) ggX0_size_X0_checkHandle
theorem dX0_size_0 : decode cX0_size 0 = .ok (.iload_n 1, 1) := by decide +kernel
theorem dX0_size_1 : decode cX0_size 1 = .ok (.invokestatic 112, 3) := by decide +kernel
theorem dX0_size_4 : decode cX0_size 4 = .ok (.aload_n 0, 1) := by decide +kernel
theorem dX0_size_5 : decode cX0_size 5 = .ok (.getfield 22, 3) := by decide +kernel
theorem dX0_size_8 : decode cX0_size 8 = .ok (.iload_n 1, 1) := by decide +kernel
theorem dX0_size_9 : decode cX0_size 9 = .ok (.iaload, 1) := by decide +kernel
theorem dX0_size_10 : decode cX0_size 10 = .ok (.ireturn, 1) := by decide +kernel
set_option maxRecDepth 20000 in
theorem ggX0_put_X0_checkHasBlock : GoodIn wsX0_put wsX0_checkHasBlock := goodIn_ca (goodIn_ca (goodIn_ca (goodIn_r _ [10, 11, 12, 4, 13, 14, 15, 9, 16, 1, 2, 17, 18, 19, 25, 26, 27, 28, 29, 30, 31, 32, 33, 34] (by decide +kernel) (by decide +kernel)) (goodIn_sub (fun _ h => List.mem_cons_of_mem _ (List.mem_append_left _ (List.mem_append_left _ (List.mem_append_right _ h)))) (by decide +kernel))) (goodIn_sub (fun _ h => List.mem_cons_of_mem _ (List.mem_append_left _ (List.mem_append_right _ h))) (by decide +kernel))) (goodIn_sub (fun _ h => List.mem_cons_of_mem _ (List.mem_append_left _ (List.mem_append_left _ (List.mem_append_left _ (List.mem_append_right _ h))))) (by decide +kernel))
set_option maxRecDepth 20000 in
theorem gX0_put_X0_checkHasBlock : GoodIn wsX0_put (wsV RX0 82 RX0 yX0_checkHasBlock wsX0_checkHasBlock) := goodIn_app (goodIn_of _ (by decide +kernel)) ggX0_put_X0_checkHasBlock
set_option maxRecDepth 20000 in
theorem ggX0_put_X0_checkByte : GoodIn wsX0_put wsX0_checkByte := goodIn_ca (goodIn_r _ [22, 23, 24] (by decide +kernel) (by decide +kernel)) (goodIn_sub (fun _ h => List.mem_cons_of_mem _ (List.mem_append_right _ h)) (by decide +kernel))
set_option maxRecDepth 20000 in
theorem gX0_put_X0_checkByte : GoodIn wsX0_put (va_wsS RX0 117 yX0_checkByte wsX0_checkByte) := goodIn_app (goodIn_of _ (by decide +kernel)) ggX0_put_X0_checkByte
theorem dX0_put_0 : decode cX0_put 0 = .ok (.iload_n 3, 1) := by decide +kernel
theorem dX0_put_1 : decode cX0_put 1 = .ok (.ifCond .lt 10, 3) := by decide +kernel
theorem dX0_put_4 : decode cX0_put 4 = .ok (.iload_n 3, 1) := by decide +kernel
theorem dX0_put_5 : decode cX0_put 5 = .ok (.sipush 255, 3) := by decide +kernel
theorem dX0_put_8 : decode cX0_put 8 = .ok (.if_icmp .le 13, 3) := by decide +kernel
theorem dX0_put_11 : decode cX0_put 11 = .ok (.new 104, 3) := by decide +kernel
theorem dX0_put_14 : decode cX0_put 14 = .ok (.dup, 1) := by decide +kernel
theorem dX0_put_15 : decode cX0_put 15 = .ok (.ldc 115, 2) := by decide +kernel
theorem dX0_put_17 : decode cX0_put 17 = .ok (.invokespecial 108, 3) := by decide +kernel
theorem dX0_put_20 : decode cX0_put 20 = .ok (.athrow, 1) := by decide +kernel
theorem dX0_put_21 : decode cX0_put 21 = .ok (.aload_n 0, 1) := by decide +kernel
theorem dX0_put_22 : decode cX0_put 22 = .ok (.iload_n 1, 1) := by decide +kernel
theorem dX0_put_23 : decode cX0_put 23 = .ok (.invokevirtual 82, 3) := by decide +kernel
theorem dX0_put_26 : decode cX0_put 26 = .ok (.iload_n 2, 1) := by decide +kernel
theorem dX0_put_27 : decode cX0_put 27 = .ok (.aload_n 0, 1) := by decide +kernel
theorem dX0_put_28 : decode cX0_put 28 = .ok (.getfield 22, 3) := by decide +kernel
theorem dX0_put_31 : decode cX0_put 31 = .ok (.iload_n 1, 1) := by decide +kernel
theorem dX0_put_32 : decode cX0_put 32 = .ok (.iaload, 1) := by decide +kernel
theorem dX0_put_33 : decode cX0_put 33 = .ok (.invokestatic 117, 3) := by decide +kernel
theorem dX0_put_36 : decode cX0_put 36 = .ok (.aload_n 0, 1) := by decide +kernel
theorem dX0_put_37 : decode cX0_put 37 = .ok (.getfield 13, 3) := by decide +kernel
theorem dX0_put_40 : decode cX0_put 40 = .ok (.iload_n 1, 1) := by decide +kernel
theorem dX0_put_41 : decode cX0_put 41 = .ok (.iaload, 1) := by decide +kernel
theorem dX0_put_42 : decode cX0_put 42 = .ok (.iload_n 2, 1) := by decide +kernel
theorem dX0_put_43 : decode cX0_put 43 = .ok (.iadd, 1) := by decide +kernel
theorem dX0_put_44 : decode cX0_put 44 = .ok (.istore 4, 2) := by decide +kernel
theorem dX0_put_46 : decode cX0_put 46 = .ok (.aload_n 0, 1) := by decide +kernel
theorem dX0_put_47 : decode cX0_put 47 = .ok (.getfield 9, 3) := by decide +kernel
theorem dX0_put_50 : decode cX0_put 50 = .ok (.iload 4, 2) := by decide +kernel
theorem dX0_put_52 : decode cX0_put 52 = .ok (.iaload, 1) := by decide +kernel
theorem dX0_put_53 : decode cX0_put 53 = .ok (.istore 5, 2) := by decide +kernel
theorem dX0_put_55 : decode cX0_put 55 = .ok (.aload_n 0, 1) := by decide +kernel
theorem dX0_put_56 : decode cX0_put 56 = .ok (.getfield 9, 3) := by decide +kernel
theorem dX0_put_59 : decode cX0_put 59 = .ok (.iload 4, 2) := by decide +kernel
theorem dX0_put_61 : decode cX0_put 61 = .ok (.iload_n 3, 1) := by decide +kernel
theorem dX0_put_62 : decode cX0_put 62 = .ok (.iastore, 1) := by decide +kernel
theorem dX0_put_63 : decode cX0_put 63 = .ok (.iload 5, 2) := by decide +kernel
theorem dX0_put_65 : decode cX0_put 65 = .ok (.ireturn, 1) := by decide +kernel
set_option maxRecDepth 20000 in
theorem ggX0_get_X0_checkHasBlock : GoodIn wsX0_get wsX0_checkHasBlock := goodIn_ca (goodIn_ca (goodIn_ca (goodIn_r _ [8, 9, 10, 3, 11, 12, 13, 7, 14, 15, 16, 17, 18, 19, 25, 26, 27, 28, 29, 30, 31, 32, 33, 34] (by decide +kernel) (by decide +kernel)) (goodIn_sub (fun _ h => List.mem_cons_of_mem _ (List.mem_append_left _ (List.mem_append_left _ (List.mem_append_left _ (List.mem_append_right _ h))))) (by decide +kernel))) (goodIn_sub (fun _ h => List.mem_cons_of_mem _ (List.mem_append_left _ (List.mem_append_left _ (List.mem_append_right _ h)))) (by decide +kernel))) (goodIn_sub (fun _ h => List.mem_cons_of_mem _ (List.mem_append_left _ (List.mem_append_right _ h))) (by decide +kernel))
set_option maxRecDepth 20000 in
theorem gX0_get_X0_checkHasBlock : GoodIn wsX0_get (wsV RX0 82 RX0 yX0_checkHasBlock wsX0_checkHasBlock) := goodIn_app (goodIn_of _ (by decide +kernel)) ggX0_get_X0_checkHasBlock
set_option maxRecDepth 20000 in
theorem ggX0_get_X0_checkByte : GoodIn wsX0_get wsX0_checkByte := goodIn_ca (goodIn_r _ [22, 23, 24] (by decide +kernel) (by decide +kernel)) (goodIn_sub (fun _ h => List.mem_cons_of_mem _ (List.mem_append_right _ h)) (by decide +kernel))
set_option maxRecDepth 20000 in
theorem gX0_get_X0_checkByte : GoodIn wsX0_get (va_wsS RX0 117 yX0_checkByte wsX0_checkByte) := goodIn_app (goodIn_of _ (by decide +kernel)) ggX0_get_X0_checkByte
theorem dX0_get_0 : decode cX0_get 0 = .ok (.aload_n 0, 1) := by decide +kernel
theorem dX0_get_1 : decode cX0_get 1 = .ok (.iload_n 1, 1) := by decide +kernel
theorem dX0_get_2 : decode cX0_get 2 = .ok (.invokevirtual 82, 3) := by decide +kernel
theorem dX0_get_5 : decode cX0_get 5 = .ok (.iload_n 2, 1) := by decide +kernel
theorem dX0_get_6 : decode cX0_get 6 = .ok (.aload_n 0, 1) := by decide +kernel
theorem dX0_get_7 : decode cX0_get 7 = .ok (.getfield 22, 3) := by decide +kernel
theorem dX0_get_10 : decode cX0_get 10 = .ok (.iload_n 1, 1) := by decide +kernel
theorem dX0_get_11 : decode cX0_get 11 = .ok (.iaload, 1) := by decide +kernel
theorem dX0_get_12 : decode cX0_get 12 = .ok (.invokestatic 117, 3) := by decide +kernel
theorem dX0_get_15 : decode cX0_get 15 = .ok (.aload_n 0, 1) := by decide +kernel
theorem dX0_get_16 : decode cX0_get 16 = .ok (.getfield 9, 3) := by decide +kernel
theorem dX0_get_19 : decode cX0_get 19 = .ok (.aload_n 0, 1) := by decide +kernel
theorem dX0_get_20 : decode cX0_get 20 = .ok (.getfield 13, 3) := by decide +kernel
theorem dX0_get_23 : decode cX0_get 23 = .ok (.iload_n 1, 1) := by decide +kernel
theorem dX0_get_24 : decode cX0_get 24 = .ok (.iaload, 1) := by decide +kernel
theorem dX0_get_25 : decode cX0_get 25 = .ok (.iload_n 2, 1) := by decide +kernel
theorem dX0_get_26 : decode cX0_get 26 = .ok (.iadd, 1) := by decide +kernel
theorem dX0_get_27 : decode cX0_get 27 = .ok (.iaload, 1) := by decide +kernel
theorem dX0_get_28 : decode cX0_get 28 = .ok (.ireturn, 1) := by decide +kernel
set_option maxRecDepth 20000 in
theorem ggX0_owner_X0_checkByte : GoodIn wsX0_owner wsX0_checkByte := goodIn_ca (goodIn_r _ [7, 8, 9] (by decide +kernel) (by decide +kernel)) (goodIn_sub (fun _ h => List.mem_cons_of_mem _ (List.mem_append_right _ h)) (by decide +kernel))
set_option maxRecDepth 20000 in
theorem gX0_owner_X0_checkByte : GoodIn wsX0_owner (va_wsS RX0 117 yX0_checkByte wsX0_checkByte) := goodIn_app (goodIn_of _ (by decide +kernel)) ggX0_owner_X0_checkByte
set_option maxRecDepth 20000 in
theorem ggX0_owner_X0_endOf : GoodIn wsX0_owner wsX0_endOf := goodIn_ca (goodIn_r _ [13, 3, 14, 15, 16, 17, 18, 19, 20, 21, 22, 23, 24] (by decide +kernel) (by decide +kernel)) (goodIn_sub (fun _ h => List.mem_cons_of_mem _ (List.mem_append_left _ (List.mem_append_right _ h))) (by decide +kernel))
set_option maxRecDepth 20000 in
theorem gX0_owner_X0_endOf : GoodIn wsX0_owner (wsV RX0 120 RX0 yX0_endOf wsX0_endOf) := goodIn_app (goodIn_of _ (by decide +kernel)) ggX0_owner_X0_endOf
theorem dX0_owner_0 : decode cX0_owner 0 = .ok (.iload_n 1, 1) := by decide +kernel
theorem dX0_owner_1 : decode cX0_owner 1 = .ok (.sipush 1024, 3) := by decide +kernel
theorem dX0_owner_4 : decode cX0_owner 4 = .ok (.invokestatic 117, 3) := by decide +kernel
theorem dX0_owner_7 : decode cX0_owner 7 = .ok (.iconst 0, 1) := by decide +kernel
theorem dX0_owner_8 : decode cX0_owner 8 = .ok (.istore_n 2, 1) := by decide +kernel
theorem dX0_owner_9 : decode cX0_owner 9 = .ok (.iload_n 2, 1) := by decide +kernel
theorem dX0_owner_10 : decode cX0_owner 10 = .ok (.aload_n 0, 1) := by decide +kernel
theorem dX0_owner_11 : decode cX0_owner 11 = .ok (.getfield 38, 3) := by decide +kernel
theorem dX0_owner_14 : decode cX0_owner 14 = .ok (.if_icmp .ge 37, 3) := by decide +kernel
theorem dX0_owner_17 : decode cX0_owner 17 = .ok (.aload_n 0, 1) := by decide +kernel
theorem dX0_owner_18 : decode cX0_owner 18 = .ok (.getfield 35, 3) := by decide +kernel
theorem dX0_owner_21 : decode cX0_owner 21 = .ok (.iload_n 2, 1) := by decide +kernel
theorem dX0_owner_22 : decode cX0_owner 22 = .ok (.iaload, 1) := by decide +kernel
theorem dX0_owner_23 : decode cX0_owner 23 = .ok (.istore_n 3, 1) := by decide +kernel
theorem dX0_owner_24 : decode cX0_owner 24 = .ok (.aload_n 0, 1) := by decide +kernel
theorem dX0_owner_25 : decode cX0_owner 25 = .ok (.getfield 13, 3) := by decide +kernel
theorem dX0_owner_28 : decode cX0_owner 28 = .ok (.iload_n 3, 1) := by decide +kernel
theorem dX0_owner_29 : decode cX0_owner 29 = .ok (.iaload, 1) := by decide +kernel
theorem dX0_owner_30 : decode cX0_owner 30 = .ok (.iload_n 1, 1) := by decide +kernel
theorem dX0_owner_31 : decode cX0_owner 31 = .ok (.if_icmp .gt 14, 3) := by decide +kernel
theorem dX0_owner_34 : decode cX0_owner 34 = .ok (.iload_n 1, 1) := by decide +kernel
theorem dX0_owner_35 : decode cX0_owner 35 = .ok (.aload_n 0, 1) := by decide +kernel
theorem dX0_owner_36 : decode cX0_owner 36 = .ok (.iload_n 3, 1) := by decide +kernel
theorem dX0_owner_37 : decode cX0_owner 37 = .ok (.invokevirtual 120, 3) := by decide +kernel
theorem dX0_owner_40 : decode cX0_owner 40 = .ok (.if_icmp .ge 5, 3) := by decide +kernel
theorem dX0_owner_43 : decode cX0_owner 43 = .ok (.iload_n 3, 1) := by decide +kernel
theorem dX0_owner_44 : decode cX0_owner 44 = .ok (.ireturn, 1) := by decide +kernel
theorem dX0_owner_45 : decode cX0_owner 45 = .ok (.iinc 2 1, 3) := by decide +kernel
theorem dX0_owner_48 : decode cX0_owner 48 = .ok (.goto (-39), 3) := by decide +kernel
theorem dX0_owner_51 : decode cX0_owner 51 = .ok (.iconst (-1), 1) := by decide +kernel
theorem dX0_owner_52 : decode cX0_owner 52 = .ok (.ireturn, 1) := by decide +kernel
set_option maxRecDepth 20000 in
theorem ggX0_told_X0_freeBytes : GoodIn wsX0_told wsX0_freeBytes := goodIn_ca (goodIn_r _ [9, 10, 11, 12, 13, 8, 14, 15, 16, 17, 18, 19, 20, 21, 22, 23, 24, 25, 42, 43, 44, 45, 46, 47, 48, 49, 50, 51] (by decide +kernel) (by decide +kernel)) (goodIn_sub (fun _ h => List.mem_cons_of_mem _ (List.mem_append_right _ h)) (by decide +kernel))
set_option maxRecDepth 20000 in
theorem gX0_told_X0_freeBytes : GoodIn wsX0_told (wsV RX0 123 RX0 yX0_freeBytes wsX0_freeBytes) := goodIn_app (goodIn_of _ (by decide +kernel)) ggX0_told_X0_freeBytes
set_option maxRecDepth 20000 in
theorem ggX0_told_X0_greatestGap : GoodIn wsX0_told wsX0_greatestGap := goodIn_ca (goodIn_r _ [29, 10, 30, 31, 32, 33, 11, 12, 13, 8, 14, 15, 16, 17, 18, 19, 20, 21, 22, 23, 24, 25, 42, 43, 44, 45, 46, 47, 48, 49, 50, 51] (by decide +kernel) (by decide +kernel)) (goodIn_sub (fun _ h => List.mem_cons_of_mem _ (List.mem_append_right _ h)) (by decide +kernel))
set_option maxRecDepth 20000 in
theorem gX0_told_X0_greatestGap : GoodIn wsX0_told (wsV RX0 101 RX0 yX0_greatestGap wsX0_greatestGap) := goodIn_app (goodIn_of _ (by decide +kernel)) ggX0_told_X0_greatestGap
set_option maxRecDepth 20000 in
theorem ggX0_told_X0_countGaps : GoodIn wsX0_told wsX0_countGaps := goodIn_ca (goodIn_r _ [37, 10, 11, 12, 13, 8, 14, 15, 16, 17, 18, 19, 20, 21, 22, 23, 24, 25, 42, 43, 44, 45, 46, 47, 48, 49, 50, 51] (by decide +kernel) (by decide +kernel)) (goodIn_sub (fun _ h => List.mem_cons_of_mem _ (List.mem_append_right _ h)) (by decide +kernel))
set_option maxRecDepth 20000 in
theorem gX0_told_X0_countGaps : GoodIn wsX0_told (wsV RX0 126 RX0 yX0_countGaps wsX0_countGaps) := goodIn_app (goodIn_of _ (by decide +kernel)) ggX0_told_X0_countGaps
set_option maxRecDepth 20000 in
theorem ggX0_told_X0_countHandles : GoodIn wsX0_told wsX0_countHandles := goodIn_ca (goodIn_r _ [41, 15, 42, 43, 44, 45, 46, 47, 48, 49, 50, 51] (by decide +kernel) (by decide +kernel)) (goodIn_sub (fun _ h => List.mem_cons_of_mem _ (List.mem_append_right _ h)) (by decide +kernel))
set_option maxRecDepth 20000 in
theorem gX0_told_X0_countHandles : GoodIn wsX0_told (wsV RX0 129 RX0 yX0_countHandles wsX0_countHandles) := goodIn_app (goodIn_of _ (by decide +kernel)) ggX0_told_X0_countHandles
theorem dX0_told_0 : decode cX0_told 0 = .ok (.iload_n 1, 1) := by decide +kernel
theorem dX0_told_1 : decode cX0_told 1 = .ok (.tableswitch 84 0 6 #[43, 48, 53, 58, 67, 74, 79], 43) := by decide +kernel
theorem dX0_told_44 : decode cX0_told 44 = .ok (.aload_n 0, 1) := by decide +kernel
theorem dX0_told_45 : decode cX0_told 45 = .ok (.invokevirtual 123, 3) := by decide +kernel
theorem dX0_told_48 : decode cX0_told 48 = .ok (.ireturn, 1) := by decide +kernel
theorem dX0_told_49 : decode cX0_told 49 = .ok (.aload_n 0, 1) := by decide +kernel
theorem dX0_told_50 : decode cX0_told 50 = .ok (.invokevirtual 101, 3) := by decide +kernel
theorem dX0_told_53 : decode cX0_told 53 = .ok (.ireturn, 1) := by decide +kernel
theorem dX0_told_54 : decode cX0_told 54 = .ok (.aload_n 0, 1) := by decide +kernel
theorem dX0_told_55 : decode cX0_told 55 = .ok (.invokevirtual 126, 3) := by decide +kernel
theorem dX0_told_58 : decode cX0_told 58 = .ok (.ireturn, 1) := by decide +kernel
theorem dX0_told_59 : decode cX0_told 59 = .ok (.bipush 48, 2) := by decide +kernel
theorem dX0_told_61 : decode cX0_told 61 = .ok (.aload_n 0, 1) := by decide +kernel
theorem dX0_told_62 : decode cX0_told 62 = .ok (.iconst (-1), 1) := by decide +kernel
theorem dX0_told_63 : decode cX0_told 63 = .ok (.invokevirtual 129, 3) := by decide +kernel
theorem dX0_told_66 : decode cX0_told 66 = .ok (.isub, 1) := by decide +kernel
theorem dX0_told_67 : decode cX0_told 67 = .ok (.ireturn, 1) := by decide +kernel
theorem dX0_told_68 : decode cX0_told 68 = .ok (.aload_n 0, 1) := by decide +kernel
theorem dX0_told_69 : decode cX0_told 69 = .ok (.bipush (-2), 2) := by decide +kernel
theorem dX0_told_71 : decode cX0_told 71 = .ok (.invokevirtual 129, 3) := by decide +kernel
theorem dX0_told_74 : decode cX0_told 74 = .ok (.ireturn, 1) := by decide +kernel
theorem dX0_told_75 : decode cX0_told 75 = .ok (.aload_n 0, 1) := by decide +kernel
theorem dX0_told_76 : decode cX0_told 76 = .ok (.getfield 42, 3) := by decide +kernel
theorem dX0_told_79 : decode cX0_told 79 = .ok (.ireturn, 1) := by decide +kernel
theorem dX0_told_80 : decode cX0_told 80 = .ok (.aload_n 0, 1) := by decide +kernel
theorem dX0_told_81 : decode cX0_told 81 = .ok (.getfield 45, 3) := by decide +kernel
theorem dX0_told_84 : decode cX0_told 84 = .ok (.ireturn, 1) := by decide +kernel
theorem dX0_told_85 : decode cX0_told 85 = .ok (.new 104, 3) := by decide +kernel
theorem dX0_told_88 : decode cX0_told 88 = .ok (.dup, 1) := by decide +kernel
theorem dX0_told_89 : decode cX0_told 89 = .ok (.ldc 132, 2) := by decide +kernel
theorem dX0_told_91 : decode cX0_told 91 = .ok (.invokespecial 108, 3) := by decide +kernel
theorem dX0_told_94 : decode cX0_told 94 = .ok (.athrow, 1) := by decide +kernel
theorem dX0_checkHandle_0 : decode cX0_checkHandle 0 = .ok (.iload_n 0, 1) := by decide +kernel
theorem dX0_checkHandle_1 : decode cX0_checkHandle 1 = .ok (.ifCond .lt 9, 3) := by decide +kernel
theorem dX0_checkHandle_4 : decode cX0_checkHandle 4 = .ok (.iload_n 0, 1) := by decide +kernel
theorem dX0_checkHandle_5 : decode cX0_checkHandle 5 = .ok (.bipush 48, 2) := by decide +kernel
theorem dX0_checkHandle_7 : decode cX0_checkHandle 7 = .ok (.if_icmp .lt 13, 3) := by decide +kernel
theorem dX0_checkHandle_10 : decode cX0_checkHandle 10 = .ok (.new 104, 3) := by decide +kernel
theorem dX0_checkHandle_13 : decode cX0_checkHandle 13 = .ok (.dup, 1) := by decide +kernel
theorem dX0_checkHandle_14 : decode cX0_checkHandle 14 = .ok (.ldc 134, 2) := by decide +kernel
theorem dX0_checkHandle_16 : decode cX0_checkHandle 16 = .ok (.invokespecial 108, 3) := by decide +kernel
theorem dX0_checkHandle_19 : decode cX0_checkHandle 19 = .ok (.athrow, 1) := by decide +kernel
theorem dX0_checkHandle_20 : decode cX0_checkHandle 20 = .ok (.return_, 1) := by decide +kernel
set_option maxRecDepth 20000 in
theorem ggX0_checkInUse_X0_checkHandle : GoodIn wsX0_checkInUse wsX0_checkHandle := goodIn_ca (goodIn_r _ [7, 1, 2] (by decide +kernel) (by decide +kernel)) (goodIn_sub (fun _ h => List.mem_cons_of_mem _ (List.mem_append_right _ h)) (by decide +kernel))
set_option maxRecDepth 20000 in
theorem gX0_checkInUse_X0_checkHandle : GoodIn wsX0_checkInUse (va_wsS RX0 112 yX0_checkHandle wsX0_checkHandle) := goodIn_app (goodIn_of _ (by decide +kernel)) ggX0_checkInUse_X0_checkHandle
theorem dX0_checkInUse_0 : decode cX0_checkInUse 0 = .ok (.iload_n 1, 1) := by decide +kernel
theorem dX0_checkInUse_1 : decode cX0_checkInUse 1 = .ok (.invokestatic 112, 3) := by decide +kernel
theorem dX0_checkInUse_4 : decode cX0_checkInUse 4 = .ok (.aload_n 0, 1) := by decide +kernel
theorem dX0_checkInUse_5 : decode cX0_checkInUse 5 = .ok (.getfield 13, 3) := by decide +kernel
theorem dX0_checkInUse_8 : decode cX0_checkInUse 8 = .ok (.iload_n 1, 1) := by decide +kernel
theorem dX0_checkInUse_9 : decode cX0_checkInUse 9 = .ok (.iaload, 1) := by decide +kernel
theorem dX0_checkInUse_10 : decode cX0_checkInUse 10 = .ok (.iconst (-1), 1) := by decide +kernel
theorem dX0_checkInUse_11 : decode cX0_checkInUse 11 = .ok (.if_icmp .ne 13, 3) := by decide +kernel
theorem dX0_checkInUse_14 : decode cX0_checkInUse 14 = .ok (.new 104, 3) := by decide +kernel
theorem dX0_checkInUse_17 : decode cX0_checkInUse 17 = .ok (.dup, 1) := by decide +kernel
theorem dX0_checkInUse_18 : decode cX0_checkInUse 18 = .ok (.ldc 136, 2) := by decide +kernel
theorem dX0_checkInUse_20 : decode cX0_checkInUse 20 = .ok (.invokespecial 108, 3) := by decide +kernel
theorem dX0_checkInUse_23 : decode cX0_checkInUse 23 = .ok (.athrow, 1) := by decide +kernel
theorem dX0_checkInUse_24 : decode cX0_checkInUse 24 = .ok (.return_, 1) := by decide +kernel
set_option maxRecDepth 20000 in
theorem ggX0_checkHasBlock_X0_checkInUse : GoodIn wsX0_checkHasBlock wsX0_checkInUse := goodIn_ca (goodIn_ca (goodIn_r _ [8, 9, 10, 3, 11, 12, 7, 13, 14, 15, 16, 17, 18, 19, 20, 21, 22, 23] (by decide +kernel) (by decide +kernel)) (goodIn_sub (fun _ h => List.mem_cons_of_mem _ (List.mem_append_left _ (List.mem_append_left _ (List.mem_append_right _ h)))) (by decide +kernel))) (goodIn_sub (fun _ h => List.mem_cons_of_mem _ (List.mem_append_right _ h)) (by decide +kernel))
set_option maxRecDepth 20000 in
theorem gX0_checkHasBlock_X0_checkInUse : GoodIn wsX0_checkHasBlock (wsV RX0 60 RX0 yX0_checkInUse wsX0_checkInUse) := goodIn_app (goodIn_of _ (by decide +kernel)) ggX0_checkHasBlock_X0_checkInUse
theorem dX0_checkHasBlock_0 : decode cX0_checkHasBlock 0 = .ok (.aload_n 0, 1) := by decide +kernel
theorem dX0_checkHasBlock_1 : decode cX0_checkHasBlock 1 = .ok (.iload_n 1, 1) := by decide +kernel
theorem dX0_checkHasBlock_2 : decode cX0_checkHasBlock 2 = .ok (.invokevirtual 60, 3) := by decide +kernel
theorem dX0_checkHasBlock_5 : decode cX0_checkHasBlock 5 = .ok (.aload_n 0, 1) := by decide +kernel
theorem dX0_checkHasBlock_6 : decode cX0_checkHasBlock 6 = .ok (.getfield 13, 3) := by decide +kernel
theorem dX0_checkHasBlock_9 : decode cX0_checkHasBlock 9 = .ok (.iload_n 1, 1) := by decide +kernel
theorem dX0_checkHasBlock_10 : decode cX0_checkHasBlock 10 = .ok (.iaload, 1) := by decide +kernel
theorem dX0_checkHasBlock_11 : decode cX0_checkHasBlock 11 = .ok (.bipush (-2), 2) := by decide +kernel
theorem dX0_checkHasBlock_13 : decode cX0_checkHasBlock 13 = .ok (.if_icmp .ne 13, 3) := by decide +kernel
theorem dX0_checkHasBlock_16 : decode cX0_checkHasBlock 16 = .ok (.new 88, 3) := by decide +kernel
theorem dX0_checkHasBlock_19 : decode cX0_checkHasBlock 19 = .ok (.dup, 1) := by decide +kernel
theorem dX0_checkHasBlock_20 : decode cX0_checkHasBlock 20 = .ok (.ldc 138, 2) := by decide +kernel
theorem dX0_checkHasBlock_22 : decode cX0_checkHasBlock 22 = .ok (.invokespecial 92, 3) := by decide +kernel
theorem dX0_checkHasBlock_25 : decode cX0_checkHasBlock 25 = .ok (.athrow, 1) := by decide +kernel
theorem dX0_checkHasBlock_26 : decode cX0_checkHasBlock 26 = .ok (.return_, 1) := by decide +kernel
theorem dX0_checkBlockLength_0 : decode cX0_checkBlockLength 0 = .ok (.iload_n 0, 1) := by decide +kernel
theorem dX0_checkBlockLength_1 : decode cX0_checkBlockLength 1 = .ok (.iconst 1, 1) := by decide +kernel
theorem dX0_checkBlockLength_2 : decode cX0_checkBlockLength 2 = .ok (.if_icmp .lt 10, 3) := by decide +kernel
theorem dX0_checkBlockLength_5 : decode cX0_checkBlockLength 5 = .ok (.iload_n 0, 1) := by decide +kernel
theorem dX0_checkBlockLength_6 : decode cX0_checkBlockLength 6 = .ok (.sipush 1024, 3) := by decide +kernel
theorem dX0_checkBlockLength_9 : decode cX0_checkBlockLength 9 = .ok (.if_icmp .le 13, 3) := by decide +kernel
theorem dX0_checkBlockLength_12 : decode cX0_checkBlockLength 12 = .ok (.new 104, 3) := by decide +kernel
theorem dX0_checkBlockLength_15 : decode cX0_checkBlockLength 15 = .ok (.dup, 1) := by decide +kernel
theorem dX0_checkBlockLength_16 : decode cX0_checkBlockLength 16 = .ok (.ldc 140, 2) := by decide +kernel
theorem dX0_checkBlockLength_18 : decode cX0_checkBlockLength 18 = .ok (.invokespecial 108, 3) := by decide +kernel
theorem dX0_checkBlockLength_21 : decode cX0_checkBlockLength 21 = .ok (.athrow, 1) := by decide +kernel
theorem dX0_checkBlockLength_22 : decode cX0_checkBlockLength 22 = .ok (.return_, 1) := by decide +kernel
theorem dX0_checkByte_0 : decode cX0_checkByte 0 = .ok (.iload_n 0, 1) := by decide +kernel
theorem dX0_checkByte_1 : decode cX0_checkByte 1 = .ok (.ifCond .lt 8, 3) := by decide +kernel
theorem dX0_checkByte_4 : decode cX0_checkByte 4 = .ok (.iload_n 0, 1) := by decide +kernel
theorem dX0_checkByte_5 : decode cX0_checkByte 5 = .ok (.iload_n 1, 1) := by decide +kernel
theorem dX0_checkByte_6 : decode cX0_checkByte 6 = .ok (.if_icmp .lt 13, 3) := by decide +kernel
theorem dX0_checkByte_9 : decode cX0_checkByte 9 = .ok (.new 142, 3) := by decide +kernel
theorem dX0_checkByte_12 : decode cX0_checkByte 12 = .ok (.dup, 1) := by decide +kernel
theorem dX0_checkByte_13 : decode cX0_checkByte 13 = .ok (.ldc 144, 2) := by decide +kernel
theorem dX0_checkByte_15 : decode cX0_checkByte 15 = .ok (.invokespecial 146, 3) := by decide +kernel
theorem dX0_checkByte_18 : decode cX0_checkByte 18 = .ok (.athrow, 1) := by decide +kernel
theorem dX0_checkByte_19 : decode cX0_checkByte 19 = .ok (.return_, 1) := by decide +kernel
theorem dX0_leastUnused_0 : decode cX0_leastUnused 0 = .ok (.iconst 0, 1) := by decide +kernel
theorem dX0_leastUnused_1 : decode cX0_leastUnused 1 = .ok (.istore_n 1, 1) := by decide +kernel
theorem dX0_leastUnused_2 : decode cX0_leastUnused 2 = .ok (.iload_n 1, 1) := by decide +kernel
theorem dX0_leastUnused_3 : decode cX0_leastUnused 3 = .ok (.bipush 48, 2) := by decide +kernel
theorem dX0_leastUnused_5 : decode cX0_leastUnused 5 = .ok (.if_icmp .ge 21, 3) := by decide +kernel
theorem dX0_leastUnused_8 : decode cX0_leastUnused 8 = .ok (.aload_n 0, 1) := by decide +kernel
theorem dX0_leastUnused_9 : decode cX0_leastUnused 9 = .ok (.getfield 13, 3) := by decide +kernel
theorem dX0_leastUnused_12 : decode cX0_leastUnused 12 = .ok (.iload_n 1, 1) := by decide +kernel
theorem dX0_leastUnused_13 : decode cX0_leastUnused 13 = .ok (.iaload, 1) := by decide +kernel
theorem dX0_leastUnused_14 : decode cX0_leastUnused 14 = .ok (.iconst (-1), 1) := by decide +kernel
theorem dX0_leastUnused_15 : decode cX0_leastUnused 15 = .ok (.if_icmp .ne 5, 3) := by decide +kernel
theorem dX0_leastUnused_18 : decode cX0_leastUnused 18 = .ok (.iload_n 1, 1) := by decide +kernel
theorem dX0_leastUnused_19 : decode cX0_leastUnused 19 = .ok (.ireturn, 1) := by decide +kernel
theorem dX0_leastUnused_20 : decode cX0_leastUnused 20 = .ok (.iinc 1 1, 3) := by decide +kernel
theorem dX0_leastUnused_23 : decode cX0_leastUnused 23 = .ok (.goto (-21), 3) := by decide +kernel
theorem dX0_leastUnused_26 : decode cX0_leastUnused 26 = .ok (.iconst (-1), 1) := by decide +kernel
theorem dX0_leastUnused_27 : decode cX0_leastUnused 27 = .ok (.ireturn, 1) := by decide +kernel
theorem dX0_countHandles_0 : decode cX0_countHandles 0 = .ok (.iconst 0, 1) := by decide +kernel
theorem dX0_countHandles_1 : decode cX0_countHandles 1 = .ok (.istore_n 2, 1) := by decide +kernel
theorem dX0_countHandles_2 : decode cX0_countHandles 2 = .ok (.iconst 0, 1) := by decide +kernel
theorem dX0_countHandles_3 : decode cX0_countHandles 3 = .ok (.istore_n 3, 1) := by decide +kernel
theorem dX0_countHandles_4 : decode cX0_countHandles 4 = .ok (.iload_n 3, 1) := by decide +kernel
theorem dX0_countHandles_5 : decode cX0_countHandles 5 = .ok (.bipush 48, 2) := by decide +kernel
theorem dX0_countHandles_7 : decode cX0_countHandles 7 = .ok (.if_icmp .ge 22, 3) := by decide +kernel
theorem dX0_countHandles_10 : decode cX0_countHandles 10 = .ok (.aload_n 0, 1) := by decide +kernel
theorem dX0_countHandles_11 : decode cX0_countHandles 11 = .ok (.getfield 13, 3) := by decide +kernel
theorem dX0_countHandles_14 : decode cX0_countHandles 14 = .ok (.iload_n 3, 1) := by decide +kernel
theorem dX0_countHandles_15 : decode cX0_countHandles 15 = .ok (.iaload, 1) := by decide +kernel
theorem dX0_countHandles_16 : decode cX0_countHandles 16 = .ok (.iload_n 1, 1) := by decide +kernel
theorem dX0_countHandles_17 : decode cX0_countHandles 17 = .ok (.if_icmp .ne 6, 3) := by decide +kernel
theorem dX0_countHandles_20 : decode cX0_countHandles 20 = .ok (.iinc 2 1, 3) := by decide +kernel
theorem dX0_countHandles_23 : decode cX0_countHandles 23 = .ok (.iinc 3 1, 3) := by decide +kernel
theorem dX0_countHandles_26 : decode cX0_countHandles 26 = .ok (.goto (-22), 3) := by decide +kernel
theorem dX0_countHandles_29 : decode cX0_countHandles 29 = .ok (.iload_n 2, 1) := by decide +kernel
theorem dX0_countHandles_30 : decode cX0_countHandles 30 = .ok (.ireturn, 1) := by decide +kernel
theorem dX0_isMovable_0 : decode cX0_isMovable 0 = .ok (.aload_n 0, 1) := by decide +kernel
theorem dX0_isMovable_1 : decode cX0_isMovable 1 = .ok (.getfield 25, 3) := by decide +kernel
theorem dX0_isMovable_4 : decode cX0_isMovable 4 = .ok (.iload_n 1, 1) := by decide +kernel
theorem dX0_isMovable_5 : decode cX0_isMovable 5 = .ok (.baload, 1) := by decide +kernel
theorem dX0_isMovable_6 : decode cX0_isMovable 6 = .ok (.ifCond .ne 16, 3) := by decide +kernel
theorem dX0_isMovable_9 : decode cX0_isMovable 9 = .ok (.aload_n 0, 1) := by decide +kernel
theorem dX0_isMovable_10 : decode cX0_isMovable 10 = .ok (.getfield 29, 3) := by decide +kernel
theorem dX0_isMovable_13 : decode cX0_isMovable 13 = .ok (.iload_n 1, 1) := by decide +kernel
theorem dX0_isMovable_14 : decode cX0_isMovable 14 = .ok (.baload, 1) := by decide +kernel
theorem dX0_isMovable_15 : decode cX0_isMovable 15 = .ok (.ifCond .ne 7, 3) := by decide +kernel
theorem dX0_isMovable_18 : decode cX0_isMovable 18 = .ok (.iconst 1, 1) := by decide +kernel
theorem dX0_isMovable_19 : decode cX0_isMovable 19 = .ok (.goto 4, 3) := by decide +kernel
theorem dX0_isMovable_22 : decode cX0_isMovable 22 = .ok (.iconst 0, 1) := by decide +kernel
theorem dX0_isMovable_23 : decode cX0_isMovable 23 = .ok (.ireturn, 1) := by decide +kernel
theorem dX0_endOf_0 : decode cX0_endOf 0 = .ok (.aload_n 0, 1) := by decide +kernel
theorem dX0_endOf_1 : decode cX0_endOf 1 = .ok (.getfield 13, 3) := by decide +kernel
theorem dX0_endOf_4 : decode cX0_endOf 4 = .ok (.iload_n 1, 1) := by decide +kernel
theorem dX0_endOf_5 : decode cX0_endOf 5 = .ok (.iaload, 1) := by decide +kernel
theorem dX0_endOf_6 : decode cX0_endOf 6 = .ok (.aload_n 0, 1) := by decide +kernel
theorem dX0_endOf_7 : decode cX0_endOf 7 = .ok (.getfield 22, 3) := by decide +kernel
theorem dX0_endOf_10 : decode cX0_endOf 10 = .ok (.iload_n 1, 1) := by decide +kernel
theorem dX0_endOf_11 : decode cX0_endOf 11 = .ok (.iaload, 1) := by decide +kernel
theorem dX0_endOf_12 : decode cX0_endOf 12 = .ok (.iadd, 1) := by decide +kernel
theorem dX0_endOf_13 : decode cX0_endOf 13 = .ok (.ireturn, 1) := by decide +kernel
set_option maxRecDepth 20000 in
theorem ggX0_gapBegin_X0_endOf : GoodIn wsX0_gapBegin wsX0_endOf := goodIn_ca (goodIn_r _ [6, 7, 8, 9, 10, 11, 12, 13, 14, 15, 16, 17, 18] (by decide +kernel) (by decide +kernel)) (goodIn_sub (fun _ h => List.mem_cons_of_mem _ (List.mem_append_right _ h)) (by decide +kernel))
set_option maxRecDepth 20000 in
theorem gX0_gapBegin_X0_endOf : GoodIn wsX0_gapBegin (wsV RX0 120 RX0 yX0_endOf wsX0_endOf) := goodIn_app (goodIn_of _ (by decide +kernel)) ggX0_gapBegin_X0_endOf
theorem dX0_gapBegin_0 : decode cX0_gapBegin 0 = .ok (.iload_n 1, 1) := by decide +kernel
theorem dX0_gapBegin_1 : decode cX0_gapBegin 1 = .ok (.ifCond .ne 7, 3) := by decide +kernel
theorem dX0_gapBegin_4 : decode cX0_gapBegin 4 = .ok (.iconst 0, 1) := by decide +kernel
theorem dX0_gapBegin_5 : decode cX0_gapBegin 5 = .ok (.goto 15, 3) := by decide +kernel
theorem dX0_gapBegin_8 : decode cX0_gapBegin 8 = .ok (.aload_n 0, 1) := by decide +kernel
theorem dX0_gapBegin_9 : decode cX0_gapBegin 9 = .ok (.aload_n 0, 1) := by decide +kernel
theorem dX0_gapBegin_10 : decode cX0_gapBegin 10 = .ok (.getfield 35, 3) := by decide +kernel
theorem dX0_gapBegin_13 : decode cX0_gapBegin 13 = .ok (.iload_n 1, 1) := by decide +kernel
theorem dX0_gapBegin_14 : decode cX0_gapBegin 14 = .ok (.iconst 1, 1) := by decide +kernel
theorem dX0_gapBegin_15 : decode cX0_gapBegin 15 = .ok (.isub, 1) := by decide +kernel
theorem dX0_gapBegin_16 : decode cX0_gapBegin 16 = .ok (.iaload, 1) := by decide +kernel
theorem dX0_gapBegin_17 : decode cX0_gapBegin 17 = .ok (.invokevirtual 120, 3) := by decide +kernel
theorem dX0_gapBegin_20 : decode cX0_gapBegin 20 = .ok (.ireturn, 1) := by decide +kernel
set_option maxRecDepth 20000 in
theorem ggX0_gapLength_X0_gapBegin : GoodIn wsX0_gapLength wsX0_gapBegin := goodIn_ca (goodIn_r _ [8, 3, 9, 10, 11, 7, 12, 2, 13, 14, 15, 16, 17, 18, 19, 20, 21, 22, 23] (by decide +kernel) (by decide +kernel)) (goodIn_sub (fun _ h => List.mem_cons_of_mem _ (List.mem_append_right _ h)) (by decide +kernel))
set_option maxRecDepth 20000 in
theorem gX0_gapLength_X0_gapBegin : GoodIn wsX0_gapLength (wsV RX0 147 RX0 yX0_gapBegin wsX0_gapBegin) := goodIn_app (goodIn_of _ (by decide +kernel)) ggX0_gapLength_X0_gapBegin
theorem dX0_gapLength_0 : decode cX0_gapLength 0 = .ok (.iload_n 1, 1) := by decide +kernel
theorem dX0_gapLength_1 : decode cX0_gapLength 1 = .ok (.aload_n 0, 1) := by decide +kernel
theorem dX0_gapLength_2 : decode cX0_gapLength 2 = .ok (.getfield 38, 3) := by decide +kernel
theorem dX0_gapLength_5 : decode cX0_gapLength 5 = .ok (.if_icmp .ne 9, 3) := by decide +kernel
theorem dX0_gapLength_8 : decode cX0_gapLength 8 = .ok (.sipush 1024, 3) := by decide +kernel
theorem dX0_gapLength_11 : decode cX0_gapLength 11 = .ok (.goto 14, 3) := by decide +kernel
theorem dX0_gapLength_14 : decode cX0_gapLength 14 = .ok (.aload_n 0, 1) := by decide +kernel
theorem dX0_gapLength_15 : decode cX0_gapLength 15 = .ok (.getfield 13, 3) := by decide +kernel
theorem dX0_gapLength_18 : decode cX0_gapLength 18 = .ok (.aload_n 0, 1) := by decide +kernel
theorem dX0_gapLength_19 : decode cX0_gapLength 19 = .ok (.getfield 35, 3) := by decide +kernel
theorem dX0_gapLength_22 : decode cX0_gapLength 22 = .ok (.iload_n 1, 1) := by decide +kernel
theorem dX0_gapLength_23 : decode cX0_gapLength 23 = .ok (.iaload, 1) := by decide +kernel
theorem dX0_gapLength_24 : decode cX0_gapLength 24 = .ok (.iaload, 1) := by decide +kernel
theorem dX0_gapLength_25 : decode cX0_gapLength 25 = .ok (.istore_n 2, 1) := by decide +kernel
theorem dX0_gapLength_26 : decode cX0_gapLength 26 = .ok (.iload_n 2, 1) := by decide +kernel
theorem dX0_gapLength_27 : decode cX0_gapLength 27 = .ok (.aload_n 0, 1) := by decide +kernel
theorem dX0_gapLength_28 : decode cX0_gapLength 28 = .ok (.iload_n 1, 1) := by decide +kernel
theorem dX0_gapLength_29 : decode cX0_gapLength 29 = .ok (.invokevirtual 147, 3) := by decide +kernel
theorem dX0_gapLength_32 : decode cX0_gapLength 32 = .ok (.isub, 1) := by decide +kernel
theorem dX0_gapLength_33 : decode cX0_gapLength 33 = .ok (.ireturn, 1) := by decide +kernel
set_option maxRecDepth 20000 in
theorem ggX0_firstGapOf_X0_gapLength : GoodIn wsX0_firstGapOf wsX0_gapLength := goodIn_ca (goodIn_r _ [6, 1, 7, 8, 9, 10, 11, 5, 12, 13, 14, 15, 16, 17, 18, 19, 20, 21, 22, 23, 24, 25, 26, 27] (by decide +kernel) (by decide +kernel)) (goodIn_sub (fun _ h => List.mem_cons_of_mem _ (List.mem_append_right _ h)) (by decide +kernel))
set_option maxRecDepth 20000 in
theorem gX0_firstGapOf_X0_gapLength : GoodIn wsX0_firstGapOf (wsV RX0 150 RX0 yX0_gapLength wsX0_gapLength) := goodIn_app (goodIn_of _ (by decide +kernel)) ggX0_firstGapOf_X0_gapLength
theorem dX0_firstGapOf_0 : decode cX0_firstGapOf 0 = .ok (.iconst 0, 1) := by decide +kernel
theorem dX0_firstGapOf_1 : decode cX0_firstGapOf 1 = .ok (.istore_n 2, 1) := by decide +kernel
theorem dX0_firstGapOf_2 : decode cX0_firstGapOf 2 = .ok (.iload_n 2, 1) := by decide +kernel
theorem dX0_firstGapOf_3 : decode cX0_firstGapOf 3 = .ok (.aload_n 0, 1) := by decide +kernel
theorem dX0_firstGapOf_4 : decode cX0_firstGapOf 4 = .ok (.getfield 38, 3) := by decide +kernel
theorem dX0_firstGapOf_7 : decode cX0_firstGapOf 7 = .ok (.if_icmp .gt 20, 3) := by decide +kernel
theorem dX0_firstGapOf_10 : decode cX0_firstGapOf 10 = .ok (.aload_n 0, 1) := by decide +kernel
theorem dX0_firstGapOf_11 : decode cX0_firstGapOf 11 = .ok (.iload_n 2, 1) := by decide +kernel
theorem dX0_firstGapOf_12 : decode cX0_firstGapOf 12 = .ok (.invokevirtual 150, 3) := by decide +kernel
theorem dX0_firstGapOf_15 : decode cX0_firstGapOf 15 = .ok (.iload_n 1, 1) := by decide +kernel
theorem dX0_firstGapOf_16 : decode cX0_firstGapOf 16 = .ok (.if_icmp .lt 5, 3) := by decide +kernel
theorem dX0_firstGapOf_19 : decode cX0_firstGapOf 19 = .ok (.iload_n 2, 1) := by decide +kernel
theorem dX0_firstGapOf_20 : decode cX0_firstGapOf 20 = .ok (.ireturn, 1) := by decide +kernel
theorem dX0_firstGapOf_21 : decode cX0_firstGapOf 21 = .ok (.iinc 2 1, 3) := by decide +kernel
theorem dX0_firstGapOf_24 : decode cX0_firstGapOf 24 = .ok (.goto (-22), 3) := by decide +kernel
theorem dX0_firstGapOf_27 : decode cX0_firstGapOf 27 = .ok (.iconst (-1), 1) := by decide +kernel
theorem dX0_firstGapOf_28 : decode cX0_firstGapOf 28 = .ok (.ireturn, 1) := by decide +kernel
set_option maxRecDepth 20000 in
theorem ggX0_greatestGap_X0_gapLength : GoodIn wsX0_greatestGap wsX0_gapLength := goodIn_ca (goodIn_r _ [10, 1, 11, 12, 13, 14, 15, 9, 16, 17, 18, 19, 20, 21, 22, 23, 24, 25, 26, 27, 28, 29, 30, 31] (by decide +kernel) (by decide +kernel)) (goodIn_sub (fun _ h => List.mem_cons_of_mem _ (List.mem_append_right _ h)) (by decide +kernel))
set_option maxRecDepth 20000 in
theorem gX0_greatestGap_X0_gapLength : GoodIn wsX0_greatestGap (wsV RX0 150 RX0 yX0_gapLength wsX0_gapLength) := goodIn_app (goodIn_of _ (by decide +kernel)) ggX0_greatestGap_X0_gapLength
theorem dX0_greatestGap_0 : decode cX0_greatestGap 0 = .ok (.iconst 0, 1) := by decide +kernel
theorem dX0_greatestGap_1 : decode cX0_greatestGap 1 = .ok (.istore_n 1, 1) := by decide +kernel
theorem dX0_greatestGap_2 : decode cX0_greatestGap 2 = .ok (.iconst 0, 1) := by decide +kernel
theorem dX0_greatestGap_3 : decode cX0_greatestGap 3 = .ok (.istore_n 2, 1) := by decide +kernel
theorem dX0_greatestGap_4 : decode cX0_greatestGap 4 = .ok (.iload_n 2, 1) := by decide +kernel
theorem dX0_greatestGap_5 : decode cX0_greatestGap 5 = .ok (.aload_n 0, 1) := by decide +kernel
theorem dX0_greatestGap_6 : decode cX0_greatestGap 6 = .ok (.getfield 38, 3) := by decide +kernel
theorem dX0_greatestGap_9 : decode cX0_greatestGap 9 = .ok (.if_icmp .gt 19, 3) := by decide +kernel
theorem dX0_greatestGap_12 : decode cX0_greatestGap 12 = .ok (.iload_n 1, 1) := by decide +kernel
theorem dX0_greatestGap_13 : decode cX0_greatestGap 13 = .ok (.aload_n 0, 1) := by decide +kernel
theorem dX0_greatestGap_14 : decode cX0_greatestGap 14 = .ok (.iload_n 2, 1) := by decide +kernel
theorem dX0_greatestGap_15 : decode cX0_greatestGap 15 = .ok (.invokevirtual 150, 3) := by decide +kernel
theorem dX0_greatestGap_18 : decode cX0_greatestGap 18 = .ok (.invokestatic 153, 3) := by decide +kernel
theorem dX0_greatestGap_21 : decode cX0_greatestGap 21 = .ok (.istore_n 1, 1) := by decide +kernel
theorem dX0_greatestGap_22 : decode cX0_greatestGap 22 = .ok (.iinc 2 1, 3) := by decide +kernel
theorem dX0_greatestGap_25 : decode cX0_greatestGap 25 = .ok (.goto (-21), 3) := by decide +kernel
theorem dX0_greatestGap_28 : decode cX0_greatestGap 28 = .ok (.iload_n 1, 1) := by decide +kernel
theorem dX0_greatestGap_29 : decode cX0_greatestGap 29 = .ok (.ireturn, 1) := by decide +kernel
set_option maxRecDepth 20000 in
theorem ggX0_countGaps_X0_gapLength : GoodIn wsX0_countGaps wsX0_gapLength := goodIn_ca (goodIn_r _ [6, 1, 7, 8, 9, 10, 11, 5, 12, 13, 14, 15, 16, 17, 18, 19, 20, 21, 22, 23, 24, 25, 26, 27] (by decide +kernel) (by decide +kernel)) (goodIn_sub (fun _ h => List.mem_cons_of_mem _ (List.mem_append_right _ h)) (by decide +kernel))
set_option maxRecDepth 20000 in
theorem gX0_countGaps_X0_gapLength : GoodIn wsX0_countGaps (wsV RX0 150 RX0 yX0_gapLength wsX0_gapLength) := goodIn_app (goodIn_of _ (by decide +kernel)) ggX0_countGaps_X0_gapLength
theorem dX0_countGaps_0 : decode cX0_countGaps 0 = .ok (.iconst 0, 1) := by decide +kernel
theorem dX0_countGaps_1 : decode cX0_countGaps 1 = .ok (.istore_n 1, 1) := by decide +kernel
theorem dX0_countGaps_2 : decode cX0_countGaps 2 = .ok (.iconst 0, 1) := by decide +kernel
theorem dX0_countGaps_3 : decode cX0_countGaps 3 = .ok (.istore_n 2, 1) := by decide +kernel
theorem dX0_countGaps_4 : decode cX0_countGaps 4 = .ok (.iload_n 2, 1) := by decide +kernel
theorem dX0_countGaps_5 : decode cX0_countGaps 5 = .ok (.aload_n 0, 1) := by decide +kernel
theorem dX0_countGaps_6 : decode cX0_countGaps 6 = .ok (.getfield 38, 3) := by decide +kernel
theorem dX0_countGaps_9 : decode cX0_countGaps 9 = .ok (.if_icmp .gt 20, 3) := by decide +kernel
theorem dX0_countGaps_12 : decode cX0_countGaps 12 = .ok (.aload_n 0, 1) := by decide +kernel
theorem dX0_countGaps_13 : decode cX0_countGaps 13 = .ok (.iload_n 2, 1) := by decide +kernel
theorem dX0_countGaps_14 : decode cX0_countGaps 14 = .ok (.invokevirtual 150, 3) := by decide +kernel
theorem dX0_countGaps_17 : decode cX0_countGaps 17 = .ok (.ifCond .le 6, 3) := by decide +kernel
theorem dX0_countGaps_20 : decode cX0_countGaps 20 = .ok (.iinc 1 1, 3) := by decide +kernel
theorem dX0_countGaps_23 : decode cX0_countGaps 23 = .ok (.iinc 2 1, 3) := by decide +kernel
theorem dX0_countGaps_26 : decode cX0_countGaps 26 = .ok (.goto (-22), 3) := by decide +kernel
theorem dX0_countGaps_29 : decode cX0_countGaps 29 = .ok (.iload_n 1, 1) := by decide +kernel
theorem dX0_countGaps_30 : decode cX0_countGaps 30 = .ok (.ireturn, 1) := by decide +kernel
set_option maxRecDepth 20000 in
theorem ggX0_freeBytes_X0_gapLength : GoodIn wsX0_freeBytes wsX0_gapLength := goodIn_ca (goodIn_r _ [6, 1, 7, 8, 9, 10, 11, 5, 12, 13, 14, 15, 16, 17, 18, 19, 20, 21, 22, 23, 24, 25, 26, 27] (by decide +kernel) (by decide +kernel)) (goodIn_sub (fun _ h => List.mem_cons_of_mem _ (List.mem_append_right _ h)) (by decide +kernel))
set_option maxRecDepth 20000 in
theorem gX0_freeBytes_X0_gapLength : GoodIn wsX0_freeBytes (wsV RX0 150 RX0 yX0_gapLength wsX0_gapLength) := goodIn_app (goodIn_of _ (by decide +kernel)) ggX0_freeBytes_X0_gapLength
theorem dX0_freeBytes_0 : decode cX0_freeBytes 0 = .ok (.iconst 0, 1) := by decide +kernel
theorem dX0_freeBytes_1 : decode cX0_freeBytes 1 = .ok (.istore_n 1, 1) := by decide +kernel
theorem dX0_freeBytes_2 : decode cX0_freeBytes 2 = .ok (.iconst 0, 1) := by decide +kernel
theorem dX0_freeBytes_3 : decode cX0_freeBytes 3 = .ok (.istore_n 2, 1) := by decide +kernel
theorem dX0_freeBytes_4 : decode cX0_freeBytes 4 = .ok (.iload_n 2, 1) := by decide +kernel
theorem dX0_freeBytes_5 : decode cX0_freeBytes 5 = .ok (.aload_n 0, 1) := by decide +kernel
theorem dX0_freeBytes_6 : decode cX0_freeBytes 6 = .ok (.getfield 38, 3) := by decide +kernel
theorem dX0_freeBytes_9 : decode cX0_freeBytes 9 = .ok (.if_icmp .gt 17, 3) := by decide +kernel
theorem dX0_freeBytes_12 : decode cX0_freeBytes 12 = .ok (.iload_n 1, 1) := by decide +kernel
theorem dX0_freeBytes_13 : decode cX0_freeBytes 13 = .ok (.aload_n 0, 1) := by decide +kernel
theorem dX0_freeBytes_14 : decode cX0_freeBytes 14 = .ok (.iload_n 2, 1) := by decide +kernel
theorem dX0_freeBytes_15 : decode cX0_freeBytes 15 = .ok (.invokevirtual 150, 3) := by decide +kernel
theorem dX0_freeBytes_18 : decode cX0_freeBytes 18 = .ok (.iadd, 1) := by decide +kernel
theorem dX0_freeBytes_19 : decode cX0_freeBytes 19 = .ok (.istore_n 1, 1) := by decide +kernel
theorem dX0_freeBytes_20 : decode cX0_freeBytes 20 = .ok (.iinc 2 1, 3) := by decide +kernel
theorem dX0_freeBytes_23 : decode cX0_freeBytes 23 = .ok (.goto (-19), 3) := by decide +kernel
theorem dX0_freeBytes_26 : decode cX0_freeBytes 26 = .ok (.iload_n 1, 1) := by decide +kernel
theorem dX0_freeBytes_27 : decode cX0_freeBytes 27 = .ok (.ireturn, 1) := by decide +kernel
set_option maxRecDepth 20000 in
theorem ggX0_freeBehind_X0_gapLength : GoodIn wsX0_freeBehind wsX0_gapLength := goodIn_ca (goodIn_r _ [7, 1, 8, 2, 9, 10, 11, 6, 12, 13, 14, 15, 16, 17, 18, 19, 20, 21, 22, 23, 24, 25, 26, 27] (by decide +kernel) (by decide +kernel)) (goodIn_sub (fun _ h => List.mem_cons_of_mem _ (List.mem_append_right _ h)) (by decide +kernel))
set_option maxRecDepth 20000 in
theorem gX0_freeBehind_X0_gapLength : GoodIn wsX0_freeBehind (wsV RX0 150 RX0 yX0_gapLength wsX0_gapLength) := goodIn_app (goodIn_of _ (by decide +kernel)) ggX0_freeBehind_X0_gapLength
theorem dX0_freeBehind_0 : decode cX0_freeBehind 0 = .ok (.iconst 0, 1) := by decide +kernel
theorem dX0_freeBehind_1 : decode cX0_freeBehind 1 = .ok (.istore_n 2, 1) := by decide +kernel
theorem dX0_freeBehind_2 : decode cX0_freeBehind 2 = .ok (.iload_n 2, 1) := by decide +kernel
theorem dX0_freeBehind_3 : decode cX0_freeBehind 3 = .ok (.aload_n 0, 1) := by decide +kernel
theorem dX0_freeBehind_4 : decode cX0_freeBehind 4 = .ok (.getfield 38, 3) := by decide +kernel
theorem dX0_freeBehind_7 : decode cX0_freeBehind 7 = .ok (.if_icmp .ge 27, 3) := by decide +kernel
theorem dX0_freeBehind_10 : decode cX0_freeBehind 10 = .ok (.aload_n 0, 1) := by decide +kernel
theorem dX0_freeBehind_11 : decode cX0_freeBehind 11 = .ok (.getfield 35, 3) := by decide +kernel
theorem dX0_freeBehind_14 : decode cX0_freeBehind 14 = .ok (.iload_n 2, 1) := by decide +kernel
theorem dX0_freeBehind_15 : decode cX0_freeBehind 15 = .ok (.iaload, 1) := by decide +kernel
theorem dX0_freeBehind_16 : decode cX0_freeBehind 16 = .ok (.iload_n 1, 1) := by decide +kernel
theorem dX0_freeBehind_17 : decode cX0_freeBehind 17 = .ok (.if_icmp .ne 11, 3) := by decide +kernel
theorem dX0_freeBehind_20 : decode cX0_freeBehind 20 = .ok (.aload_n 0, 1) := by decide +kernel
theorem dX0_freeBehind_21 : decode cX0_freeBehind 21 = .ok (.iload_n 2, 1) := by decide +kernel
theorem dX0_freeBehind_22 : decode cX0_freeBehind 22 = .ok (.iconst 1, 1) := by decide +kernel
theorem dX0_freeBehind_23 : decode cX0_freeBehind 23 = .ok (.iadd, 1) := by decide +kernel
theorem dX0_freeBehind_24 : decode cX0_freeBehind 24 = .ok (.invokevirtual 150, 3) := by decide +kernel
theorem dX0_freeBehind_27 : decode cX0_freeBehind 27 = .ok (.ireturn, 1) := by decide +kernel
