theorem dX0_freeBehind_28 : decode cX0_freeBehind 28 = .ok (.iinc 2 1, 3) := by decide +kernel
theorem dX0_freeBehind_31 : decode cX0_freeBehind 31 = .ok (.goto (-29), 3) := by decide +kernel
theorem dX0_freeBehind_34 : decode cX0_freeBehind 34 = .ok (.iconst 0, 1) := by decide +kernel
theorem dX0_freeBehind_35 : decode cX0_freeBehind 35 = .ok (.ireturn, 1) := by decide +kernel
theorem dX0_enterRow_0 : decode cX0_enterRow 0 = .ok (.aload_n 0, 1) := by decide +kernel
theorem dX0_enterRow_1 : decode cX0_enterRow 1 = .ok (.getfield 38, 3) := by decide +kernel
theorem dX0_enterRow_4 : decode cX0_enterRow 4 = .ok (.istore_n 2, 1) := by decide +kernel
theorem dX0_enterRow_5 : decode cX0_enterRow 5 = .ok (.iload_n 2, 1) := by decide +kernel
theorem dX0_enterRow_6 : decode cX0_enterRow 6 = .ok (.ifCond .le 45, 3) := by decide +kernel
theorem dX0_enterRow_9 : decode cX0_enterRow 9 = .ok (.aload_n 0, 1) := by decide +kernel
theorem dX0_enterRow_10 : decode cX0_enterRow 10 = .ok (.getfield 13, 3) := by decide +kernel
theorem dX0_enterRow_13 : decode cX0_enterRow 13 = .ok (.aload_n 0, 1) := by decide +kernel
theorem dX0_enterRow_14 : decode cX0_enterRow 14 = .ok (.getfield 35, 3) := by decide +kernel
theorem dX0_enterRow_17 : decode cX0_enterRow 17 = .ok (.iload_n 2, 1) := by decide +kernel
theorem dX0_enterRow_18 : decode cX0_enterRow 18 = .ok (.iconst 1, 1) := by decide +kernel
theorem dX0_enterRow_19 : decode cX0_enterRow 19 = .ok (.isub, 1) := by decide +kernel
theorem dX0_enterRow_20 : decode cX0_enterRow 20 = .ok (.iaload, 1) := by decide +kernel
theorem dX0_enterRow_21 : decode cX0_enterRow 21 = .ok (.iaload, 1) := by decide +kernel
theorem dX0_enterRow_22 : decode cX0_enterRow 22 = .ok (.aload_n 0, 1) := by decide +kernel
theorem dX0_enterRow_23 : decode cX0_enterRow 23 = .ok (.getfield 13, 3) := by decide +kernel
theorem dX0_enterRow_26 : decode cX0_enterRow 26 = .ok (.iload_n 1, 1) := by decide +kernel
theorem dX0_enterRow_27 : decode cX0_enterRow 27 = .ok (.iaload, 1) := by decide +kernel
theorem dX0_enterRow_28 : decode cX0_enterRow 28 = .ok (.if_icmp .le 23, 3) := by decide +kernel
theorem dX0_enterRow_31 : decode cX0_enterRow 31 = .ok (.aload_n 0, 1) := by decide +kernel
theorem dX0_enterRow_32 : decode cX0_enterRow 32 = .ok (.getfield 35, 3) := by decide +kernel
theorem dX0_enterRow_35 : decode cX0_enterRow 35 = .ok (.iload_n 2, 1) := by decide +kernel
theorem dX0_enterRow_36 : decode cX0_enterRow 36 = .ok (.aload_n 0, 1) := by decide +kernel
theorem dX0_enterRow_37 : decode cX0_enterRow 37 = .ok (.getfield 35, 3) := by decide +kernel
theorem dX0_enterRow_40 : decode cX0_enterRow 40 = .ok (.iload_n 2, 1) := by decide +kernel
theorem dX0_enterRow_41 : decode cX0_enterRow 41 = .ok (.iconst 1, 1) := by decide +kernel
theorem dX0_enterRow_42 : decode cX0_enterRow 42 = .ok (.isub, 1) := by decide +kernel
theorem dX0_enterRow_43 : decode cX0_enterRow 43 = .ok (.iaload, 1) := by decide +kernel
theorem dX0_enterRow_44 : decode cX0_enterRow 44 = .ok (.iastore, 1) := by decide +kernel
theorem dX0_enterRow_45 : decode cX0_enterRow 45 = .ok (.iinc 2 (-1), 3) := by decide +kernel
theorem dX0_enterRow_48 : decode cX0_enterRow 48 = .ok (.goto (-43), 3) := by decide +kernel
theorem dX0_enterRow_51 : decode cX0_enterRow 51 = .ok (.aload_n 0, 1) := by decide +kernel
theorem dX0_enterRow_52 : decode cX0_enterRow 52 = .ok (.getfield 35, 3) := by decide +kernel
theorem dX0_enterRow_55 : decode cX0_enterRow 55 = .ok (.iload_n 2, 1) := by decide +kernel
theorem dX0_enterRow_56 : decode cX0_enterRow 56 = .ok (.iload_n 1, 1) := by decide +kernel
theorem dX0_enterRow_57 : decode cX0_enterRow 57 = .ok (.iastore, 1) := by decide +kernel
theorem dX0_enterRow_58 : decode cX0_enterRow 58 = .ok (.aload_n 0, 1) := by decide +kernel
theorem dX0_enterRow_59 : decode cX0_enterRow 59 = .ok (.dup, 1) := by decide +kernel
theorem dX0_enterRow_60 : decode cX0_enterRow 60 = .ok (.getfield 38, 3) := by decide +kernel
theorem dX0_enterRow_63 : decode cX0_enterRow 63 = .ok (.iconst 1, 1) := by decide +kernel
theorem dX0_enterRow_64 : decode cX0_enterRow 64 = .ok (.iadd, 1) := by decide +kernel
theorem dX0_enterRow_65 : decode cX0_enterRow 65 = .ok (.putfield 38, 3) := by decide +kernel
theorem dX0_enterRow_68 : decode cX0_enterRow 68 = .ok (.return_, 1) := by decide +kernel
theorem dX0_leaveRow_0 : decode cX0_leaveRow 0 = .ok (.iconst 0, 1) := by decide +kernel
theorem dX0_leaveRow_1 : decode cX0_leaveRow 1 = .ok (.istore_n 2, 1) := by decide +kernel
theorem dX0_leaveRow_2 : decode cX0_leaveRow 2 = .ok (.iconst 0, 1) := by decide +kernel
theorem dX0_leaveRow_3 : decode cX0_leaveRow 3 = .ok (.istore_n 3, 1) := by decide +kernel
theorem dX0_leaveRow_4 : decode cX0_leaveRow 4 = .ok (.iload_n 3, 1) := by decide +kernel
theorem dX0_leaveRow_5 : decode cX0_leaveRow 5 = .ok (.aload_n 0, 1) := by decide +kernel
theorem dX0_leaveRow_6 : decode cX0_leaveRow 6 = .ok (.getfield 38, 3) := by decide +kernel
theorem dX0_leaveRow_9 : decode cX0_leaveRow 9 = .ok (.if_icmp .ge 34, 3) := by decide +kernel
theorem dX0_leaveRow_12 : decode cX0_leaveRow 12 = .ok (.aload_n 0, 1) := by decide +kernel
theorem dX0_leaveRow_13 : decode cX0_leaveRow 13 = .ok (.getfield 35, 3) := by decide +kernel
theorem dX0_leaveRow_16 : decode cX0_leaveRow 16 = .ok (.iload_n 3, 1) := by decide +kernel
theorem dX0_leaveRow_17 : decode cX0_leaveRow 17 = .ok (.iaload, 1) := by decide +kernel
theorem dX0_leaveRow_18 : decode cX0_leaveRow 18 = .ok (.iload_n 1, 1) := by decide +kernel
theorem dX0_leaveRow_19 : decode cX0_leaveRow 19 = .ok (.if_icmp .eq 18, 3) := by decide +kernel
theorem dX0_leaveRow_22 : decode cX0_leaveRow 22 = .ok (.aload_n 0, 1) := by decide +kernel
theorem dX0_leaveRow_23 : decode cX0_leaveRow 23 = .ok (.getfield 35, 3) := by decide +kernel
theorem dX0_leaveRow_26 : decode cX0_leaveRow 26 = .ok (.iload_n 2, 1) := by decide +kernel
theorem dX0_leaveRow_27 : decode cX0_leaveRow 27 = .ok (.aload_n 0, 1) := by decide +kernel
theorem dX0_leaveRow_28 : decode cX0_leaveRow 28 = .ok (.getfield 35, 3) := by decide +kernel
theorem dX0_leaveRow_31 : decode cX0_leaveRow 31 = .ok (.iload_n 3, 1) := by decide +kernel
theorem dX0_leaveRow_32 : decode cX0_leaveRow 32 = .ok (.iaload, 1) := by decide +kernel
theorem dX0_leaveRow_33 : decode cX0_leaveRow 33 = .ok (.iastore, 1) := by decide +kernel
theorem dX0_leaveRow_34 : decode cX0_leaveRow 34 = .ok (.iinc 2 1, 3) := by decide +kernel
theorem dX0_leaveRow_37 : decode cX0_leaveRow 37 = .ok (.iinc 3 1, 3) := by decide +kernel
theorem dX0_leaveRow_40 : decode cX0_leaveRow 40 = .ok (.goto (-36), 3) := by decide +kernel
theorem dX0_leaveRow_43 : decode cX0_leaveRow 43 = .ok (.aload_n 0, 1) := by decide +kernel
theorem dX0_leaveRow_44 : decode cX0_leaveRow 44 = .ok (.iload_n 2, 1) := by decide +kernel
theorem dX0_leaveRow_45 : decode cX0_leaveRow 45 = .ok (.putfield 38, 3) := by decide +kernel
theorem dX0_leaveRow_48 : decode cX0_leaveRow 48 = .ok (.return_, 1) := by decide +kernel
set_option maxRecDepth 20000 in
theorem ggX0_makeBlock_X0_findRoom : GoodIn wsX0_makeBlock wsX0_findRoom := goodIn_ca (goodIn_r _ [9, 10, 11, 12, 8, 13, 14, 15, 16, 17, 18, 1, 19, 20, 21, 22, 23, 24, 25, 26, 27, 28, 29, 30, 31, 32, 33, 34, 35, 36, 2, 3, 37, 38, 39, 40, 41, 42, 43, 44, 45, 46, 47, 48, 49, 50, 4, 51, 52, 53, 54, 55, 56, 57, 58, 59, 60, 61, 62, 63, 85, 86, 87, 88, 89, 90, 91, 92, 93, 94] (by decide +kernel) (by decide +kernel)) (goodIn_sub (fun _ h => List.mem_cons_of_mem _ (List.mem_append_right _ h)) (by decide +kernel))
set_option maxRecDepth 20000 in
theorem gX0_makeBlock_X0_findRoom : GoodIn wsX0_makeBlock (wsV RX0 159 RX0 yX0_findRoom wsX0_findRoom) := goodIn_app (goodIn_of _ (by decide +kernel)) ggX0_makeBlock_X0_findRoom
set_option maxRecDepth 20000 in
theorem ggX0_makeBlock_X0_setLength : GoodIn wsX0_makeBlock wsX0_setLength := goodIn_ca (goodIn_r _ [67, 28, 41, 1, 24, 25, 26, 8, 27, 68, 69, 70, 71, 72, 73, 74, 75, 76, 77, 78, 79, 80, 85, 86, 87, 88, 89, 90, 91, 92, 93, 94, 95, 96, 97, 98, 99, 100, 101, 102, 103, 104] (by decide +kernel) (by decide +kernel)) (goodIn_sub (fun _ h => List.mem_cons_of_mem _ (List.mem_append_right _ h)) (by decide +kernel))
set_option maxRecDepth 20000 in
theorem gX0_makeBlock_X0_setLength : GoodIn wsX0_makeBlock (wsV RX0 71 RX0 yX0_setLength wsX0_setLength) := goodIn_app (goodIn_of _ (by decide +kernel)) ggX0_makeBlock_X0_setLength
set_option maxRecDepth 20000 in
theorem ggX0_makeBlock_X0_enterRow : GoodIn wsX0_makeBlock wsX0_enterRow := goodIn_ca (goodIn_r _ [84, 14, 1, 19, 85, 86, 87, 88, 89, 90, 91, 92, 93, 94] (by decide +kernel) (by decide +kernel)) (goodIn_sub (fun _ h => List.mem_cons_of_mem _ (List.mem_append_right _ h)) (by decide +kernel))
set_option maxRecDepth 20000 in
theorem gX0_makeBlock_X0_enterRow : GoodIn wsX0_makeBlock (wsV RX0 162 RX0 yX0_enterRow wsX0_enterRow) := goodIn_app (goodIn_of _ (by decide +kernel)) ggX0_makeBlock_X0_enterRow
theorem dX0_makeBlock_0 : decode cX0_makeBlock 0 = .ok (.aload_n 0, 1) := by decide +kernel
theorem dX0_makeBlock_1 : decode cX0_makeBlock 1 = .ok (.iload_n 2, 1) := by decide +kernel
theorem dX0_makeBlock_2 : decode cX0_makeBlock 2 = .ok (.iconst (-1), 1) := by decide +kernel
theorem dX0_makeBlock_3 : decode cX0_makeBlock 3 = .ok (.invokevirtual 159, 3) := by decide +kernel
theorem dX0_makeBlock_6 : decode cX0_makeBlock 6 = .ok (.istore 4, 2) := by decide +kernel
theorem dX0_makeBlock_8 : decode cX0_makeBlock 8 = .ok (.iload 4, 2) := by decide +kernel
theorem dX0_makeBlock_10 : decode cX0_makeBlock 10 = .ok (.iconst (-1), 1) := by decide +kernel
theorem dX0_makeBlock_11 : decode cX0_makeBlock 11 = .ok (.if_icmp .ne 5, 3) := by decide +kernel
theorem dX0_makeBlock_14 : decode cX0_makeBlock 14 = .ok (.iconst 0, 1) := by decide +kernel
theorem dX0_makeBlock_15 : decode cX0_makeBlock 15 = .ok (.ireturn, 1) := by decide +kernel
theorem dX0_makeBlock_16 : decode cX0_makeBlock 16 = .ok (.aload_n 0, 1) := by decide +kernel
theorem dX0_makeBlock_17 : decode cX0_makeBlock 17 = .ok (.getfield 13, 3) := by decide +kernel
theorem dX0_makeBlock_20 : decode cX0_makeBlock 20 = .ok (.iload_n 1, 1) := by decide +kernel
theorem dX0_makeBlock_21 : decode cX0_makeBlock 21 = .ok (.iload 4, 2) := by decide +kernel
theorem dX0_makeBlock_23 : decode cX0_makeBlock 23 = .ok (.iastore, 1) := by decide +kernel
theorem dX0_makeBlock_24 : decode cX0_makeBlock 24 = .ok (.aload_n 0, 1) := by decide +kernel
theorem dX0_makeBlock_25 : decode cX0_makeBlock 25 = .ok (.iload_n 1, 1) := by decide +kernel
theorem dX0_makeBlock_26 : decode cX0_makeBlock 26 = .ok (.iload_n 2, 1) := by decide +kernel
theorem dX0_makeBlock_27 : decode cX0_makeBlock 27 = .ok (.invokevirtual 71, 3) := by decide +kernel
theorem dX0_makeBlock_30 : decode cX0_makeBlock 30 = .ok (.aload_n 0, 1) := by decide +kernel
theorem dX0_makeBlock_31 : decode cX0_makeBlock 31 = .ok (.getfield 25, 3) := by decide +kernel
theorem dX0_makeBlock_34 : decode cX0_makeBlock 34 = .ok (.iload_n 1, 1) := by decide +kernel
theorem dX0_makeBlock_35 : decode cX0_makeBlock 35 = .ok (.iload_n 3, 1) := by decide +kernel
theorem dX0_makeBlock_36 : decode cX0_makeBlock 36 = .ok (.bastore, 1) := by decide +kernel
theorem dX0_makeBlock_37 : decode cX0_makeBlock 37 = .ok (.aload_n 0, 1) := by decide +kernel
theorem dX0_makeBlock_38 : decode cX0_makeBlock 38 = .ok (.getfield 29, 3) := by decide +kernel
theorem dX0_makeBlock_41 : decode cX0_makeBlock 41 = .ok (.iload_n 1, 1) := by decide +kernel
theorem dX0_makeBlock_42 : decode cX0_makeBlock 42 = .ok (.iconst 0, 1) := by decide +kernel
theorem dX0_makeBlock_43 : decode cX0_makeBlock 43 = .ok (.bastore, 1) := by decide +kernel
theorem dX0_makeBlock_44 : decode cX0_makeBlock 44 = .ok (.aload_n 0, 1) := by decide +kernel
theorem dX0_makeBlock_45 : decode cX0_makeBlock 45 = .ok (.getfield 32, 3) := by decide +kernel
theorem dX0_makeBlock_48 : decode cX0_makeBlock 48 = .ok (.iload_n 1, 1) := by decide +kernel
theorem dX0_makeBlock_49 : decode cX0_makeBlock 49 = .ok (.iconst 0, 1) := by decide +kernel
theorem dX0_makeBlock_50 : decode cX0_makeBlock 50 = .ok (.bastore, 1) := by decide +kernel
theorem dX0_makeBlock_51 : decode cX0_makeBlock 51 = .ok (.aload_n 0, 1) := by decide +kernel
theorem dX0_makeBlock_52 : decode cX0_makeBlock 52 = .ok (.iload_n 1, 1) := by decide +kernel
theorem dX0_makeBlock_53 : decode cX0_makeBlock 53 = .ok (.invokevirtual 162, 3) := by decide +kernel
theorem dX0_makeBlock_56 : decode cX0_makeBlock 56 = .ok (.iconst 1, 1) := by decide +kernel
theorem dX0_makeBlock_57 : decode cX0_makeBlock 57 = .ok (.ireturn, 1) := by decide +kernel
set_option maxRecDepth 20000 in
theorem ggX0_takeBlock_X0_leaveRow : GoodIn wsX0_takeBlock wsX0_leaveRow := goodIn_ca (goodIn_r _ [7, 8, 9, 10, 11, 12, 13, 14, 15, 16, 17, 18, 19] (by decide +kernel) (by decide +kernel)) (goodIn_sub (fun _ h => List.mem_cons_of_mem _ (List.mem_append_right _ h)) (by decide +kernel))
set_option maxRecDepth 20000 in
theorem gX0_takeBlock_X0_leaveRow : GoodIn wsX0_takeBlock (wsV RX0 165 RX0 yX0_leaveRow wsX0_leaveRow) := goodIn_app (goodIn_of _ (by decide +kernel)) ggX0_takeBlock_X0_leaveRow
theorem dX0_takeBlock_0 : decode cX0_takeBlock 0 = .ok (.aload_n 0, 1) := by decide +kernel
theorem dX0_takeBlock_1 : decode cX0_takeBlock 1 = .ok (.iload_n 1, 1) := by decide +kernel
theorem dX0_takeBlock_2 : decode cX0_takeBlock 2 = .ok (.invokevirtual 165, 3) := by decide +kernel
theorem dX0_takeBlock_5 : decode cX0_takeBlock 5 = .ok (.aload_n 0, 1) := by decide +kernel
theorem dX0_takeBlock_6 : decode cX0_takeBlock 6 = .ok (.getfield 13, 3) := by decide +kernel
theorem dX0_takeBlock_9 : decode cX0_takeBlock 9 = .ok (.iload_n 1, 1) := by decide +kernel
theorem dX0_takeBlock_10 : decode cX0_takeBlock 10 = .ok (.iload_n 2, 1) := by decide +kernel
theorem dX0_takeBlock_11 : decode cX0_takeBlock 11 = .ok (.iastore, 1) := by decide +kernel
theorem dX0_takeBlock_12 : decode cX0_takeBlock 12 = .ok (.aload_n 0, 1) := by decide +kernel
theorem dX0_takeBlock_13 : decode cX0_takeBlock 13 = .ok (.getfield 22, 3) := by decide +kernel
theorem dX0_takeBlock_16 : decode cX0_takeBlock 16 = .ok (.iload_n 1, 1) := by decide +kernel
theorem dX0_takeBlock_17 : decode cX0_takeBlock 17 = .ok (.iconst 0, 1) := by decide +kernel
theorem dX0_takeBlock_18 : decode cX0_takeBlock 18 = .ok (.iastore, 1) := by decide +kernel
theorem dX0_takeBlock_19 : decode cX0_takeBlock 19 = .ok (.return_, 1) := by decide +kernel
set_option maxRecDepth 20000 in
theorem ggX0_setLength_X0_endOf : GoodIn wsX0_setLength wsX0_endOf := goodIn_ca (goodIn_r _ [8, 3, 1, 22, 23, 24, 25, 26, 27, 28, 29, 30, 31] (by decide +kernel) (by decide +kernel)) (goodIn_sub (fun _ h => List.mem_cons_of_mem _ (List.mem_append_right _ h)) (by decide +kernel))
set_option maxRecDepth 20000 in
theorem gX0_setLength_X0_endOf : GoodIn wsX0_setLength (wsV RX0 120 RX0 yX0_endOf wsX0_endOf) := goodIn_app (goodIn_of _ (by decide +kernel)) ggX0_setLength_X0_endOf
set_option maxRecDepth 20000 in
theorem ggX0_setLength_J7_fill_fda19 : GoodIn wsX0_setLength wsJ7_fill_fda19 := goodIn_r _ [12, 13, 14, 11, 15, 16, 17, 18, 19, 20, 21, 32, 33, 34, 35, 36, 37, 38, 39, 40, 41] (by decide +kernel) (by decide +kernel)
set_option maxRecDepth 20000 in
theorem gX0_setLength_J7_fill_fda19 : GoodIn wsX0_setLength (va_wsS RX0 168 yJ7_fill_fda19 wsJ7_fill_fda19) := goodIn_app (goodIn_of _ (by decide +kernel)) ggX0_setLength_J7_fill_fda19
theorem dX0_setLength_0 : decode cX0_setLength 0 = .ok (.iload_n 2, 1) := by decide +kernel
theorem dX0_setLength_1 : decode cX0_setLength 1 = .ok (.aload_n 0, 1) := by decide +kernel
theorem dX0_setLength_2 : decode cX0_setLength 2 = .ok (.getfield 22, 3) := by decide +kernel
theorem dX0_setLength_5 : decode cX0_setLength 5 = .ok (.iload_n 1, 1) := by decide +kernel
theorem dX0_setLength_6 : decode cX0_setLength 6 = .ok (.iaload, 1) := by decide +kernel
theorem dX0_setLength_7 : decode cX0_setLength 7 = .ok (.if_icmp .le 24, 3) := by decide +kernel
theorem dX0_setLength_10 : decode cX0_setLength 10 = .ok (.aload_n 0, 1) := by decide +kernel
theorem dX0_setLength_11 : decode cX0_setLength 11 = .ok (.getfield 9, 3) := by decide +kernel
theorem dX0_setLength_14 : decode cX0_setLength 14 = .ok (.aload_n 0, 1) := by decide +kernel
theorem dX0_setLength_15 : decode cX0_setLength 15 = .ok (.iload_n 1, 1) := by decide +kernel
theorem dX0_setLength_16 : decode cX0_setLength 16 = .ok (.invokevirtual 120, 3) := by decide +kernel
theorem dX0_setLength_19 : decode cX0_setLength 19 = .ok (.aload_n 0, 1) := by decide +kernel
theorem dX0_setLength_20 : decode cX0_setLength 20 = .ok (.getfield 13, 3) := by decide +kernel
theorem dX0_setLength_23 : decode cX0_setLength 23 = .ok (.iload_n 1, 1) := by decide +kernel
theorem dX0_setLength_24 : decode cX0_setLength 24 = .ok (.iaload, 1) := by decide +kernel
theorem dX0_setLength_25 : decode cX0_setLength 25 = .ok (.iload_n 2, 1) := by decide +kernel
theorem dX0_setLength_26 : decode cX0_setLength 26 = .ok (.iadd, 1) := by decide +kernel
theorem dX0_setLength_27 : decode cX0_setLength 27 = .ok (.iconst 0, 1) := by decide +kernel
theorem dX0_setLength_28 : decode cX0_setLength 28 = .ok (.invokestatic 168, 3) := by decide +kernel
theorem dX0_setLength_31 : decode cX0_setLength 31 = .ok (.aload_n 0, 1) := by decide +kernel
theorem dX0_setLength_32 : decode cX0_setLength 32 = .ok (.getfield 22, 3) := by decide +kernel
theorem dX0_setLength_35 : decode cX0_setLength 35 = .ok (.iload_n 1, 1) := by decide +kernel
theorem dX0_setLength_36 : decode cX0_setLength 36 = .ok (.iload_n 2, 1) := by decide +kernel
theorem dX0_setLength_37 : decode cX0_setLength 37 = .ok (.iastore, 1) := by decide +kernel
theorem dX0_setLength_38 : decode cX0_setLength 38 = .ok (.return_, 1) := by decide +kernel
set_option maxRecDepth 20000 in
theorem ggX0_growElsewhere_X0_findRoom : GoodIn wsX0_growElsewhere wsX0_findRoom := goodIn_ca (goodIn_r _ [5, 6, 7, 8, 4, 9, 10, 11, 12, 13, 14, 15, 16, 17, 18, 19, 20, 21, 22, 23, 24, 25, 26, 27, 28, 29, 30, 31, 32, 33, 34, 35, 36, 37, 38, 39, 40, 41, 42, 43, 44, 45, 46, 47, 48, 49, 50, 51, 52, 53, 54, 55, 56, 57, 58, 59, 60, 61, 62, 63, 85, 86, 87, 88, 89, 90, 91, 92, 93, 94] (by decide +kernel) (by decide +kernel)) (goodIn_sub (fun _ h => List.mem_cons_of_mem _ (List.mem_append_right _ h)) (by decide +kernel))
set_option maxRecDepth 20000 in
theorem gX0_growElsewhere_X0_findRoom : GoodIn wsX0_growElsewhere (wsV RX0 159 RX0 yX0_findRoom wsX0_findRoom) := goodIn_app (goodIn_of _ (by decide +kernel)) ggX0_growElsewhere_X0_findRoom
set_option maxRecDepth 20000 in
theorem ggX0_growElsewhere_X0_leaveRow : GoodIn wsX0_growElsewhere wsX0_leaveRow := goodIn_ca (goodIn_r _ [63, 10, 16, 85, 86, 87, 88, 89, 90, 91, 92, 93, 94] (by decide +kernel) (by decide +kernel)) (goodIn_sub (fun _ h => List.mem_cons_of_mem _ (List.mem_append_right _ h)) (by decide +kernel))
set_option maxRecDepth 20000 in
theorem gX0_growElsewhere_X0_leaveRow : GoodIn wsX0_growElsewhere (wsV RX0 165 RX0 yX0_leaveRow wsX0_leaveRow) := goodIn_app (goodIn_of _ (by decide +kernel)) ggX0_growElsewhere_X0_leaveRow
set_option maxRecDepth 20000 in
theorem ggX0_growElsewhere_X0_moveTo : GoodIn wsX0_growElsewhere wsX0_moveTo := goodIn_ca (goodIn_r _ [39, 15, 40, 25, 41, 42, 43, 44, 45, 85, 86, 87, 88, 89, 90, 91, 92, 93, 94] (by decide +kernel) (by decide +kernel)) (goodIn_sub (fun _ h => List.mem_cons_of_mem _ (List.mem_append_right _ h)) (by decide +kernel))
set_option maxRecDepth 20000 in
theorem gX0_growElsewhere_X0_moveTo : GoodIn wsX0_growElsewhere (wsV RX0 95 RX0 yX0_moveTo wsX0_moveTo) := goodIn_app (goodIn_of _ (by decide +kernel)) ggX0_growElsewhere_X0_moveTo
set_option maxRecDepth 20000 in
theorem ggX0_growElsewhere_X0_enterRow : GoodIn wsX0_growElsewhere wsX0_enterRow := goodIn_ca (goodIn_r _ [67, 10, 15, 16, 85, 86, 87, 88, 89, 90, 91, 92, 93, 94] (by decide +kernel) (by decide +kernel)) (goodIn_sub (fun _ h => List.mem_cons_of_mem _ (List.mem_append_right _ h)) (by decide +kernel))
set_option maxRecDepth 20000 in
theorem gX0_growElsewhere_X0_enterRow : GoodIn wsX0_growElsewhere (wsV RX0 162 RX0 yX0_enterRow wsX0_enterRow) := goodIn_app (goodIn_of _ (by decide +kernel)) ggX0_growElsewhere_X0_enterRow
set_option maxRecDepth 20000 in
theorem ggX0_growElsewhere_X0_setLength : GoodIn wsX0_growElsewhere wsX0_setLength := goodIn_ca (goodIn_r _ [71, 25, 40, 15, 21, 22, 23, 4, 24, 72, 73, 74, 75, 76, 77, 78, 79, 80, 81, 82, 83, 84, 85, 86, 87, 88, 89, 90, 91, 92, 93, 94, 95, 96, 97, 98, 99, 100, 101, 102, 103, 104] (by decide +kernel) (by decide +kernel)) (goodIn_sub (fun _ h => List.mem_cons_of_mem _ (List.mem_append_right _ h)) (by decide +kernel))
set_option maxRecDepth 20000 in
theorem gX0_growElsewhere_X0_setLength : GoodIn wsX0_growElsewhere (wsV RX0 71 RX0 yX0_setLength wsX0_setLength) := goodIn_app (goodIn_of _ (by decide +kernel)) ggX0_growElsewhere_X0_setLength
theorem dX0_growElsewhere_0 : decode cX0_growElsewhere 0 = .ok (.aload_n 0, 1) := by decide +kernel
theorem dX0_growElsewhere_1 : decode cX0_growElsewhere 1 = .ok (.iload_n 2, 1) := by decide +kernel
theorem dX0_growElsewhere_2 : decode cX0_growElsewhere 2 = .ok (.iload_n 1, 1) := by decide +kernel
theorem dX0_growElsewhere_3 : decode cX0_growElsewhere 3 = .ok (.invokevirtual 159, 3) := by decide +kernel
theorem dX0_growElsewhere_6 : decode cX0_growElsewhere 6 = .ok (.istore_n 3, 1) := by decide +kernel
theorem dX0_growElsewhere_7 : decode cX0_growElsewhere 7 = .ok (.iload_n 3, 1) := by decide +kernel
theorem dX0_growElsewhere_8 : decode cX0_growElsewhere 8 = .ok (.iconst (-1), 1) := by decide +kernel
theorem dX0_growElsewhere_9 : decode cX0_growElsewhere 9 = .ok (.if_icmp .ne 5, 3) := by decide +kernel
theorem dX0_growElsewhere_12 : decode cX0_growElsewhere 12 = .ok (.iconst 0, 1) := by decide +kernel
theorem dX0_growElsewhere_13 : decode cX0_growElsewhere 13 = .ok (.ireturn, 1) := by decide +kernel
theorem dX0_growElsewhere_14 : decode cX0_growElsewhere 14 = .ok (.aload_n 0, 1) := by decide +kernel
theorem dX0_growElsewhere_15 : decode cX0_growElsewhere 15 = .ok (.iload_n 1, 1) := by decide +kernel
theorem dX0_growElsewhere_16 : decode cX0_growElsewhere 16 = .ok (.invokevirtual 165, 3) := by decide +kernel
theorem dX0_growElsewhere_19 : decode cX0_growElsewhere 19 = .ok (.aload_n 0, 1) := by decide +kernel
theorem dX0_growElsewhere_20 : decode cX0_growElsewhere 20 = .ok (.iload_n 1, 1) := by decide +kernel
theorem dX0_growElsewhere_21 : decode cX0_growElsewhere 21 = .ok (.iload_n 3, 1) := by decide +kernel
theorem dX0_growElsewhere_22 : decode cX0_growElsewhere 22 = .ok (.invokevirtual 95, 3) := by decide +kernel
theorem dX0_growElsewhere_25 : decode cX0_growElsewhere 25 = .ok (.aload_n 0, 1) := by decide +kernel
theorem dX0_growElsewhere_26 : decode cX0_growElsewhere 26 = .ok (.iload_n 1, 1) := by decide +kernel
theorem dX0_growElsewhere_27 : decode cX0_growElsewhere 27 = .ok (.invokevirtual 162, 3) := by decide +kernel
theorem dX0_growElsewhere_30 : decode cX0_growElsewhere 30 = .ok (.aload_n 0, 1) := by decide +kernel
theorem dX0_growElsewhere_31 : decode cX0_growElsewhere 31 = .ok (.iload_n 1, 1) := by decide +kernel
theorem dX0_growElsewhere_32 : decode cX0_growElsewhere 32 = .ok (.iload_n 2, 1) := by decide +kernel
theorem dX0_growElsewhere_33 : decode cX0_growElsewhere 33 = .ok (.invokevirtual 71, 3) := by decide +kernel
theorem dX0_growElsewhere_36 : decode cX0_growElsewhere 36 = .ok (.iconst 1, 1) := by decide +kernel
theorem dX0_growElsewhere_37 : decode cX0_growElsewhere 37 = .ok (.ireturn, 1) := by decide +kernel
theorem dX0_moveTo_0 : decode cX0_moveTo 0 = .ok (.iload_n 2, 1) := by decide +kernel
theorem dX0_moveTo_1 : decode cX0_moveTo 1 = .ok (.aload_n 0, 1) := by decide +kernel
theorem dX0_moveTo_2 : decode cX0_moveTo 2 = .ok (.getfield 13, 3) := by decide +kernel
theorem dX0_moveTo_5 : decode cX0_moveTo 5 = .ok (.iload_n 1, 1) := by decide +kernel
theorem dX0_moveTo_6 : decode cX0_moveTo 6 = .ok (.iaload, 1) := by decide +kernel
theorem dX0_moveTo_7 : decode cX0_moveTo 7 = .ok (.if_icmp .ne 4, 3) := by decide +kernel
theorem dX0_moveTo_10 : decode cX0_moveTo 10 = .ok (.return_, 1) := by decide +kernel
theorem dX0_moveTo_11 : decode cX0_moveTo 11 = .ok (.aload_n 0, 1) := by decide +kernel
theorem dX0_moveTo_12 : decode cX0_moveTo 12 = .ok (.getfield 9, 3) := by decide +kernel
theorem dX0_moveTo_15 : decode cX0_moveTo 15 = .ok (.aload_n 0, 1) := by decide +kernel
theorem dX0_moveTo_16 : decode cX0_moveTo 16 = .ok (.getfield 13, 3) := by decide +kernel
theorem dX0_moveTo_19 : decode cX0_moveTo 19 = .ok (.iload_n 1, 1) := by decide +kernel
theorem dX0_moveTo_20 : decode cX0_moveTo 20 = .ok (.iaload, 1) := by decide +kernel
theorem dX0_moveTo_21 : decode cX0_moveTo 21 = .ok (.aload_n 0, 1) := by decide +kernel
theorem dX0_moveTo_22 : decode cX0_moveTo 22 = .ok (.getfield 9, 3) := by decide +kernel
theorem dX0_moveTo_25 : decode cX0_moveTo 25 = .ok (.iload_n 2, 1) := by decide +kernel
theorem dX0_moveTo_26 : decode cX0_moveTo 26 = .ok (.aload_n 0, 1) := by decide +kernel
theorem dX0_moveTo_27 : decode cX0_moveTo 27 = .ok (.getfield 22, 3) := by decide +kernel
theorem dX0_moveTo_30 : decode cX0_moveTo 30 = .ok (.iload_n 1, 1) := by decide +kernel
theorem dX0_moveTo_31 : decode cX0_moveTo 31 = .ok (.iaload, 1) := by decide +kernel
theorem dX0_moveTo_32 : decode cX0_moveTo 32 = .ok (.invokestatic 171, 3) := by decide +kernel
theorem dX0_moveTo_35 : decode cX0_moveTo 35 = .ok (.aload_n 0, 1) := by decide +kernel
theorem dX0_moveTo_36 : decode cX0_moveTo 36 = .ok (.getfield 13, 3) := by decide +kernel
theorem dX0_moveTo_39 : decode cX0_moveTo 39 = .ok (.iload_n 1, 1) := by decide +kernel
theorem dX0_moveTo_40 : decode cX0_moveTo 40 = .ok (.iload_n 2, 1) := by decide +kernel
theorem dX0_moveTo_41 : decode cX0_moveTo 41 = .ok (.iastore, 1) := by decide +kernel
theorem dX0_moveTo_42 : decode cX0_moveTo 42 = .ok (.aload_n 0, 1) := by decide +kernel
theorem dX0_moveTo_43 : decode cX0_moveTo 43 = .ok (.dup, 1) := by decide +kernel
theorem dX0_moveTo_44 : decode cX0_moveTo 44 = .ok (.getfield 42, 3) := by decide +kernel
theorem dX0_moveTo_47 : decode cX0_moveTo 47 = .ok (.aload_n 0, 1) := by decide +kernel
theorem dX0_moveTo_48 : decode cX0_moveTo 48 = .ok (.getfield 22, 3) := by decide +kernel
theorem dX0_moveTo_51 : decode cX0_moveTo 51 = .ok (.iload_n 1, 1) := by decide +kernel
theorem dX0_moveTo_52 : decode cX0_moveTo 52 = .ok (.iaload, 1) := by decide +kernel
theorem dX0_moveTo_53 : decode cX0_moveTo 53 = .ok (.iadd, 1) := by decide +kernel
theorem dX0_moveTo_54 : decode cX0_moveTo 54 = .ok (.putfield 42, 3) := by decide +kernel
theorem dX0_moveTo_57 : decode cX0_moveTo 57 = .ok (.return_, 1) := by decide +kernel
set_option maxRecDepth 20000 in
theorem ggX0_giveUp_X0_takeBlock : GoodIn wsX0_giveUp wsX0_takeBlock := goodIn_ca (goodIn_r _ [6, 7, 8, 9, 10, 11, 5, 12, 13, 14, 15, 16, 17, 18, 19, 20, 21, 22, 23, 24] (by decide +kernel) (by decide +kernel)) (goodIn_sub (fun _ h => List.mem_cons_of_mem _ (List.mem_append_right _ h)) (by decide +kernel))
set_option maxRecDepth 20000 in
theorem gX0_giveUp_X0_takeBlock : GoodIn wsX0_giveUp (wsV RX0 63 RX0 yX0_takeBlock wsX0_takeBlock) := goodIn_app (goodIn_of _ (by decide +kernel)) ggX0_giveUp_X0_takeBlock
theorem dX0_giveUp_0 : decode cX0_giveUp 0 = .ok (.aload_n 0, 1) := by decide +kernel
theorem dX0_giveUp_1 : decode cX0_giveUp 1 = .ok (.iload_n 1, 1) := by decide +kernel
theorem dX0_giveUp_2 : decode cX0_giveUp 2 = .ok (.bipush (-2), 2) := by decide +kernel
theorem dX0_giveUp_4 : decode cX0_giveUp 4 = .ok (.invokevirtual 63, 3) := by decide +kernel
theorem dX0_giveUp_7 : decode cX0_giveUp 7 = .ok (.aload_n 0, 1) := by decide +kernel
theorem dX0_giveUp_8 : decode cX0_giveUp 8 = .ok (.dup, 1) := by decide +kernel
theorem dX0_giveUp_9 : decode cX0_giveUp 9 = .ok (.getfield 45, 3) := by decide +kernel
theorem dX0_giveUp_12 : decode cX0_giveUp 12 = .ok (.iconst 1, 1) := by decide +kernel
theorem dX0_giveUp_13 : decode cX0_giveUp 13 = .ok (.iadd, 1) := by decide +kernel
theorem dX0_giveUp_14 : decode cX0_giveUp 14 = .ok (.putfield 45, 3) := by decide +kernel
theorem dX0_giveUp_17 : decode cX0_giveUp 17 = .ok (.return_, 1) := by decide +kernel
set_option maxRecDepth 20000 in
theorem ggX0_giveUpFirst_X0_isMovable : GoodIn wsX0_giveUpFirst wsX0_isMovable := goodIn_ca (goodIn_r _ [8, 9, 10, 26, 27, 28, 29, 30, 31, 32, 33, 34, 35] (by decide +kernel) (by decide +kernel)) (goodIn_sub (fun _ h => List.mem_cons_of_mem _ (List.mem_append_right _ h)) (by decide +kernel))
set_option maxRecDepth 20000 in
theorem gX0_giveUpFirst_X0_isMovable : GoodIn wsX0_giveUpFirst (wsV RX0 74 RX0 yX0_isMovable wsX0_isMovable) := goodIn_app (goodIn_of _ (by decide +kernel)) ggX0_giveUpFirst_X0_isMovable
set_option maxRecDepth 20000 in
theorem ggX0_giveUpFirst_X0_giveUp : GoodIn wsX0_giveUpFirst wsX0_giveUp := goodIn_ca (goodIn_r _ [14, 15, 16, 17, 18, 7, 19, 20, 21, 22, 23, 24, 25, 1, 2, 26, 27, 28, 29, 30, 31, 32, 33, 34, 35] (by decide +kernel) (by decide +kernel)) (goodIn_sub (fun _ h => List.mem_cons_of_mem _ (List.mem_append_right _ h)) (by decide +kernel))
set_option maxRecDepth 20000 in
theorem gX0_giveUpFirst_X0_giveUp : GoodIn wsX0_giveUpFirst (wsV RX0 85 RX0 yX0_giveUp wsX0_giveUp) := goodIn_app (goodIn_of _ (by decide +kernel)) ggX0_giveUpFirst_X0_giveUp
theorem dX0_giveUpFirst_0 : decode cX0_giveUpFirst 0 = .ok (.iconst 0, 1) := by decide +kernel
theorem dX0_giveUpFirst_1 : decode cX0_giveUpFirst 1 = .ok (.istore_n 2, 1) := by decide +kernel
theorem dX0_giveUpFirst_2 : decode cX0_giveUpFirst 2 = .ok (.iload_n 2, 1) := by decide +kernel
theorem dX0_giveUpFirst_3 : decode cX0_giveUpFirst 3 = .ok (.aload_n 0, 1) := by decide +kernel
theorem dX0_giveUpFirst_4 : decode cX0_giveUpFirst 4 = .ok (.getfield 38, 3) := by decide +kernel
theorem dX0_giveUpFirst_7 : decode cX0_giveUpFirst 7 = .ok (.if_icmp .ge 45, 3) := by decide +kernel
theorem dX0_giveUpFirst_10 : decode cX0_giveUpFirst 10 = .ok (.aload_n 0, 1) := by decide +kernel
theorem dX0_giveUpFirst_11 : decode cX0_giveUpFirst 11 = .ok (.getfield 35, 3) := by decide +kernel
theorem dX0_giveUpFirst_14 : decode cX0_giveUpFirst 14 = .ok (.iload_n 2, 1) := by decide +kernel
theorem dX0_giveUpFirst_15 : decode cX0_giveUpFirst 15 = .ok (.iaload, 1) := by decide +kernel
theorem dX0_giveUpFirst_16 : decode cX0_giveUpFirst 16 = .ok (.istore_n 3, 1) := by decide +kernel
theorem dX0_giveUpFirst_17 : decode cX0_giveUpFirst 17 = .ok (.iload_n 3, 1) := by decide +kernel
theorem dX0_giveUpFirst_18 : decode cX0_giveUpFirst 18 = .ok (.iload_n 1, 1) := by decide +kernel
theorem dX0_giveUpFirst_19 : decode cX0_giveUpFirst 19 = .ok (.if_icmp .eq 27, 3) := by decide +kernel
theorem dX0_giveUpFirst_22 : decode cX0_giveUpFirst 22 = .ok (.aload_n 0, 1) := by decide +kernel
theorem dX0_giveUpFirst_23 : decode cX0_giveUpFirst 23 = .ok (.getfield 32, 3) := by decide +kernel
theorem dX0_giveUpFirst_26 : decode cX0_giveUpFirst 26 = .ok (.iload_n 3, 1) := by decide +kernel
theorem dX0_giveUpFirst_27 : decode cX0_giveUpFirst 27 = .ok (.baload, 1) := by decide +kernel
theorem dX0_giveUpFirst_28 : decode cX0_giveUpFirst 28 = .ok (.ifCond .eq 18, 3) := by decide +kernel
theorem dX0_giveUpFirst_31 : decode cX0_giveUpFirst 31 = .ok (.aload_n 0, 1) := by decide +kernel
theorem dX0_giveUpFirst_32 : decode cX0_giveUpFirst 32 = .ok (.iload_n 3, 1) := by decide +kernel
theorem dX0_giveUpFirst_33 : decode cX0_giveUpFirst 33 = .ok (.invokevirtual 74, 3) := by decide +kernel
theorem dX0_giveUpFirst_36 : decode cX0_giveUpFirst 36 = .ok (.ifCond .eq 10, 3) := by decide +kernel
theorem dX0_giveUpFirst_39 : decode cX0_giveUpFirst 39 = .ok (.aload_n 0, 1) := by decide +kernel
theorem dX0_giveUpFirst_40 : decode cX0_giveUpFirst 40 = .ok (.iload_n 3, 1) := by decide +kernel
theorem dX0_giveUpFirst_41 : decode cX0_giveUpFirst 41 = .ok (.invokevirtual 85, 3) := by decide +kernel
theorem dX0_giveUpFirst_44 : decode cX0_giveUpFirst 44 = .ok (.iconst 1, 1) := by decide +kernel
theorem dX0_giveUpFirst_45 : decode cX0_giveUpFirst 45 = .ok (.ireturn, 1) := by decide +kernel
theorem dX0_giveUpFirst_46 : decode cX0_giveUpFirst 46 = .ok (.iinc 2 1, 3) := by decide +kernel
theorem dX0_giveUpFirst_49 : decode cX0_giveUpFirst 49 = .ok (.goto (-47), 3) := by decide +kernel
theorem dX0_giveUpFirst_52 : decode cX0_giveUpFirst 52 = .ok (.iconst 0, 1) := by decide +kernel
theorem dX0_giveUpFirst_53 : decode cX0_giveUpFirst 53 = .ok (.ireturn, 1) := by decide +kernel
set_option maxRecDepth 20000 in
theorem ggX0_slideTogether_X0_isMovable : GoodIn wsX0_slideTogether wsX0_isMovable := goodIn_ca (goodIn_r _ [7, 8, 9, 26, 27, 28, 29, 30, 31, 32, 33, 34, 35] (by decide +kernel) (by decide +kernel)) (goodIn_sub (fun _ h => List.mem_cons_of_mem _ (List.mem_append_right _ h)) (by decide +kernel))
set_option maxRecDepth 20000 in
theorem gX0_slideTogether_X0_isMovable : GoodIn wsX0_slideTogether (wsV RX0 74 RX0 yX0_isMovable wsX0_isMovable) := goodIn_app (goodIn_of _ (by decide +kernel)) ggX0_slideTogether_X0_isMovable
set_option maxRecDepth 20000 in
theorem ggX0_slideTogether_X0_moveTo : GoodIn wsX0_slideTogether wsX0_moveTo := goodIn_ca (goodIn_r _ [13, 14, 15, 16, 17, 18, 19, 20, 21, 26, 27, 28, 29, 30, 31, 32, 33, 34, 35] (by decide +kernel) (by decide +kernel)) (goodIn_sub (fun _ h => List.mem_cons_of_mem _ (List.mem_append_right _ h)) (by decide +kernel))
set_option maxRecDepth 20000 in
theorem gX0_slideTogether_X0_moveTo : GoodIn wsX0_slideTogether (wsV RX0 95 RX0 yX0_moveTo wsX0_moveTo) := goodIn_app (goodIn_of _ (by decide +kernel)) ggX0_slideTogether_X0_moveTo
set_option maxRecDepth 20000 in
theorem ggX0_slideTogether_X0_endOf : GoodIn wsX0_slideTogether wsX0_endOf := goodIn_ca (goodIn_r _ [25, 14, 16, 26, 27, 28, 29, 30, 31, 32, 33, 34, 35] (by decide +kernel) (by decide +kernel)) (goodIn_sub (fun _ h => List.mem_cons_of_mem _ (List.mem_append_right _ h)) (by decide +kernel))
set_option maxRecDepth 20000 in
theorem gX0_slideTogether_X0_endOf : GoodIn wsX0_slideTogether (wsV RX0 120 RX0 yX0_endOf wsX0_endOf) := goodIn_app (goodIn_of _ (by decide +kernel)) ggX0_slideTogether_X0_endOf
theorem dX0_slideTogether_0 : decode cX0_slideTogether 0 = .ok (.iconst 0, 1) := by decide +kernel
theorem dX0_slideTogether_1 : decode cX0_slideTogether 1 = .ok (.istore_n 1, 1) := by decide +kernel
theorem dX0_slideTogether_2 : decode cX0_slideTogether 2 = .ok (.iconst 0, 1) := by decide +kernel
theorem dX0_slideTogether_3 : decode cX0_slideTogether 3 = .ok (.istore_n 2, 1) := by decide +kernel
theorem dX0_slideTogether_4 : decode cX0_slideTogether 4 = .ok (.iload_n 2, 1) := by decide +kernel
theorem dX0_slideTogether_5 : decode cX0_slideTogether 5 = .ok (.aload_n 0, 1) := by decide +kernel
theorem dX0_slideTogether_6 : decode cX0_slideTogether 6 = .ok (.getfield 38, 3) := by decide +kernel
theorem dX0_slideTogether_9 : decode cX0_slideTogether 9 = .ok (.if_icmp .ge 36, 3) := by decide +kernel
theorem dX0_slideTogether_12 : decode cX0_slideTogether 12 = .ok (.aload_n 0, 1) := by decide +kernel
theorem dX0_slideTogether_13 : decode cX0_slideTogether 13 = .ok (.getfield 35, 3) := by decide +kernel
theorem dX0_slideTogether_16 : decode cX0_slideTogether 16 = .ok (.iload_n 2, 1) := by decide +kernel
theorem dX0_slideTogether_17 : decode cX0_slideTogether 17 = .ok (.iaload, 1) := by decide +kernel
theorem dX0_slideTogether_18 : decode cX0_slideTogether 18 = .ok (.istore_n 3, 1) := by decide +kernel
theorem dX0_slideTogether_19 : decode cX0_slideTogether 19 = .ok (.aload_n 0, 1) := by decide +kernel
theorem dX0_slideTogether_20 : decode cX0_slideTogether 20 = .ok (.iload_n 3, 1) := by decide +kernel
theorem dX0_slideTogether_21 : decode cX0_slideTogether 21 = .ok (.invokevirtual 74, 3) := by decide +kernel
theorem dX0_slideTogether_24 : decode cX0_slideTogether 24 = .ok (.ifCond .eq 9, 3) := by decide +kernel
theorem dX0_slideTogether_27 : decode cX0_slideTogether 27 = .ok (.aload_n 0, 1) := by decide +kernel
theorem dX0_slideTogether_28 : decode cX0_slideTogether 28 = .ok (.iload_n 3, 1) := by decide +kernel
theorem dX0_slideTogether_29 : decode cX0_slideTogether 29 = .ok (.iload_n 1, 1) := by decide +kernel
theorem dX0_slideTogether_30 : decode cX0_slideTogether 30 = .ok (.invokevirtual 95, 3) := by decide +kernel
theorem dX0_slideTogether_33 : decode cX0_slideTogether 33 = .ok (.aload_n 0, 1) := by decide +kernel
theorem dX0_slideTogether_34 : decode cX0_slideTogether 34 = .ok (.iload_n 3, 1) := by decide +kernel
theorem dX0_slideTogether_35 : decode cX0_slideTogether 35 = .ok (.invokevirtual 120, 3) := by decide +kernel
theorem dX0_slideTogether_38 : decode cX0_slideTogether 38 = .ok (.istore_n 1, 1) := by decide +kernel
theorem dX0_slideTogether_39 : decode cX0_slideTogether 39 = .ok (.iinc 2 1, 3) := by decide +kernel
theorem dX0_slideTogether_42 : decode cX0_slideTogether 42 = .ok (.goto (-38), 3) := by decide +kernel
theorem dX0_slideTogether_45 : decode cX0_slideTogether 45 = .ok (.return_, 1) := by decide +kernel
set_option maxRecDepth 20000 in
theorem ggX0_findRoom_X0_firstGapOf : GoodIn wsX0_findRoom wsX0_firstGapOf := goodIn_ca (goodIn_r _ [5, 6, 7, 8, 9, 4, 10, 11, 12, 13, 14, 15, 16, 17, 18, 19, 20, 21, 60, 61, 62, 63, 64, 65, 66, 67, 68, 69] (by decide +kernel) (by decide +kernel)) (goodIn_sub (fun _ h => List.mem_cons_of_mem _ (List.mem_append_right _ h)) (by decide +kernel))
set_option maxRecDepth 20000 in
theorem gX0_findRoom_X0_firstGapOf : GoodIn wsX0_findRoom (wsV RX0 177 RX0 yX0_firstGapOf wsX0_firstGapOf) := goodIn_app (goodIn_of _ (by decide +kernel)) ggX0_findRoom_X0_firstGapOf
set_option maxRecDepth 20000 in
theorem ggX0_findRoom_X0_slideTogether : GoodIn wsX0_findRoom wsX0_slideTogether := goodIn_ca (goodIn_r _ [25, 6, 12, 26, 27, 28, 4, 29, 30, 31, 32, 33, 34, 35, 11, 36, 21, 37, 38, 39, 40, 41, 17, 18, 19, 20, 60, 61, 62, 63, 64, 65, 66, 67, 68, 69] (by decide +kernel) (by decide +kernel)) (goodIn_sub (fun _ h => List.mem_cons_of_mem _ (List.mem_append_right _ h)) (by decide +kernel))
set_option maxRecDepth 20000 in
theorem gX0_findRoom_X0_slideTogether : GoodIn wsX0_findRoom (wsV RX0 98 RX0 yX0_slideTogether wsX0_slideTogether) := goodIn_app (goodIn_of _ (by decide +kernel)) ggX0_findRoom_X0_slideTogether
set_option maxRecDepth 20000 in
theorem ggX0_findRoom_X0_giveUpFirst : GoodIn wsX0_findRoom wsX0_giveUpFirst := goodIn_ca (goodIn_r _ [45, 6, 12, 46, 26, 27, 28, 4, 29, 30, 31, 47, 48, 49, 50, 51, 52, 53, 54, 55, 11, 21, 56, 57, 58, 59, 60, 61, 62, 63, 64, 65, 66, 67, 68, 69] (by decide +kernel) (by decide +kernel)) (goodIn_sub (fun _ h => List.mem_cons_of_mem _ (List.mem_append_right _ h)) (by decide +kernel))
set_option maxRecDepth 20000 in
theorem gX0_findRoom_X0_giveUpFirst : GoodIn wsX0_findRoom (wsV RX0 109 RX0 yX0_giveUpFirst wsX0_giveUpFirst) := goodIn_app (goodIn_of _ (by decide +kernel)) ggX0_findRoom_X0_giveUpFirst
set_option maxRecDepth 20000 in
theorem ggX0_findRoom_X0_gapBegin : GoodIn wsX0_findRoom wsX0_gapBegin := goodIn_ca (goodIn_r _ [16, 12, 17, 18, 19, 4, 20, 11, 21, 60, 61, 62, 63, 64, 65, 66, 67, 68, 69] (by decide +kernel) (by decide +kernel)) (goodIn_sub (fun _ h => List.mem_cons_of_mem _ (List.mem_append_right _ h)) (by decide +kernel))
set_option maxRecDepth 20000 in
theorem gX0_findRoom_X0_gapBegin : GoodIn wsX0_findRoom (wsV RX0 147 RX0 yX0_gapBegin wsX0_gapBegin) := goodIn_app (goodIn_of _ (by decide +kernel)) ggX0_findRoom_X0_gapBegin
theorem dX0_findRoom_0 : decode cX0_findRoom 0 = .ok (.aload_n 0, 1) := by decide +kernel
theorem dX0_findRoom_1 : decode cX0_findRoom 1 = .ok (.iload_n 1, 1) := by decide +kernel
theorem dX0_findRoom_2 : decode cX0_findRoom 2 = .ok (.invokevirtual 177, 3) := by decide +kernel
theorem dX0_findRoom_5 : decode cX0_findRoom 5 = .ok (.istore_n 3, 1) := by decide +kernel
theorem dX0_findRoom_6 : decode cX0_findRoom 6 = .ok (.iload_n 3, 1) := by decide +kernel
theorem dX0_findRoom_7 : decode cX0_findRoom 7 = .ok (.iconst (-1), 1) := by decide +kernel
theorem dX0_findRoom_8 : decode cX0_findRoom 8 = .ok (.if_icmp .ne 13, 3) := by decide +kernel
theorem dX0_findRoom_11 : decode cX0_findRoom 11 = .ok (.aload_n 0, 1) := by decide +kernel
theorem dX0_findRoom_12 : decode cX0_findRoom 12 = .ok (.invokevirtual 98, 3) := by decide +kernel
theorem dX0_findRoom_15 : decode cX0_findRoom 15 = .ok (.aload_n 0, 1) := by decide +kernel
theorem dX0_findRoom_16 : decode cX0_findRoom 16 = .ok (.iload_n 1, 1) := by decide +kernel
theorem dX0_findRoom_17 : decode cX0_findRoom 17 = .ok (.invokevirtual 177, 3) := by decide +kernel
theorem dX0_findRoom_20 : decode cX0_findRoom 20 = .ok (.istore_n 3, 1) := by decide +kernel
theorem dX0_findRoom_21 : decode cX0_findRoom 21 = .ok (.iconst 0, 1) := by decide +kernel
theorem dX0_findRoom_22 : decode cX0_findRoom 22 = .ok (.istore 4, 2) := by decide +kernel
theorem dX0_findRoom_24 : decode cX0_findRoom 24 = .ok (.iload 4, 2) := by decide +kernel
theorem dX0_findRoom_26 : decode cX0_findRoom 26 = .ok (.bipush 48, 2) := by decide +kernel
theorem dX0_findRoom_28 : decode cX0_findRoom 28 = .ok (.if_icmp .ge 32, 3) := by decide +kernel
theorem dX0_findRoom_31 : decode cX0_findRoom 31 = .ok (.iload_n 3, 1) := by decide +kernel
theorem dX0_findRoom_32 : decode cX0_findRoom 32 = .ok (.iconst (-1), 1) := by decide +kernel
theorem dX0_findRoom_33 : decode cX0_findRoom 33 = .ok (.if_icmp .ne 27, 3) := by decide +kernel
theorem dX0_findRoom_36 : decode cX0_findRoom 36 = .ok (.aload_n 0, 1) := by decide +kernel
theorem dX0_findRoom_37 : decode cX0_findRoom 37 = .ok (.iload_n 2, 1) := by decide +kernel
theorem dX0_findRoom_38 : decode cX0_findRoom 38 = .ok (.invokevirtual 109, 3) := by decide +kernel
theorem dX0_findRoom_41 : decode cX0_findRoom 41 = .ok (.ifCond .eq 19, 3) := by decide +kernel
theorem dX0_findRoom_44 : decode cX0_findRoom 44 = .ok (.aload_n 0, 1) := by decide +kernel
theorem dX0_findRoom_45 : decode cX0_findRoom 45 = .ok (.invokevirtual 98, 3) := by decide +kernel
theorem dX0_findRoom_48 : decode cX0_findRoom 48 = .ok (.aload_n 0, 1) := by decide +kernel
theorem dX0_findRoom_49 : decode cX0_findRoom 49 = .ok (.iload_n 1, 1) := by decide +kernel
theorem dX0_findRoom_50 : decode cX0_findRoom 50 = .ok (.invokevirtual 177, 3) := by decide +kernel
theorem dX0_findRoom_53 : decode cX0_findRoom 53 = .ok (.istore_n 3, 1) := by decide +kernel
theorem dX0_findRoom_54 : decode cX0_findRoom 54 = .ok (.iinc 4 1, 3) := by decide +kernel
theorem dX0_findRoom_57 : decode cX0_findRoom 57 = .ok (.goto (-33), 3) := by decide +kernel
theorem dX0_findRoom_60 : decode cX0_findRoom 60 = .ok (.iload_n 3, 1) := by decide +kernel
theorem dX0_findRoom_61 : decode cX0_findRoom 61 = .ok (.iconst (-1), 1) := by decide +kernel
theorem dX0_findRoom_62 : decode cX0_findRoom 62 = .ok (.if_icmp .ne 7, 3) := by decide +kernel
theorem dX0_findRoom_65 : decode cX0_findRoom 65 = .ok (.iconst (-1), 1) := by decide +kernel
theorem dX0_findRoom_66 : decode cX0_findRoom 66 = .ok (.goto 8, 3) := by decide +kernel
theorem dX0_findRoom_69 : decode cX0_findRoom 69 = .ok (.aload_n 0, 1) := by decide +kernel
theorem dX0_findRoom_70 : decode cX0_findRoom 70 = .ok (.iload_n 3, 1) := by decide +kernel
theorem dX0_findRoom_71 : decode cX0_findRoom 71 = .ok (.invokevirtual 147, 3) := by decide +kernel
theorem dX0_findRoom_74 : decode cX0_findRoom 74 = .ok (.ireturn, 1) := by decide +kernel
