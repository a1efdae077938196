theorem dX1_losable_15 : decode cX1_losable 15 = .ok (.baload, 1) := by decide +kernel
theorem dX1_losable_16 : decode cX1_losable 16 = .ok (.istore_n 3, 1) := by decide +kernel
theorem dX1_losable_17 : decode cX1_losable 17 = .ok (.aload_n 0, 1) := by decide +kernel
theorem dX1_losable_18 : decode cX1_losable 18 = .ok (.getfield 26, 3) := by decide +kernel
theorem dX1_losable_21 : decode cX1_losable 21 = .ok (.iload_n 1, 1) := by decide +kernel
theorem dX1_losable_22 : decode cX1_losable 22 = .ok (.iload_n 2, 1) := by decide +kernel
theorem dX1_losable_23 : decode cX1_losable 23 = .ok (.bastore, 1) := by decide +kernel
theorem dX1_losable_24 : decode cX1_losable 24 = .ok (.iload_n 3, 1) := by decide +kernel
theorem dX1_losable_25 : decode cX1_losable 25 = .ok (.ireturn, 1) := by decide +kernel
set_option maxRecDepth 20000 in
theorem ggX1_lose_X1_notThere : GoodIn wsX1_lose wsX1_notThere := goodIn_ca (goodIn_r _ [5, 6, 7, 8, 9, 10, 4, 11, 12, 28, 29, 30, 31, 32, 33, 34, 35, 36, 37] (by decide +kernel) (by decide +kernel)) (goodIn_sub (fun _ h => List.mem_cons_of_mem _ (List.mem_append_right _ h)) (by decide +kernel))
set_option maxRecDepth 20000 in
theorem gX1_lose_X1_notThere : GoodIn wsX1_lose (wsV RX1 84 RX1 yX1_notThere wsX1_notThere) := goodIn_app (goodIn_of _ (by decide +kernel)) ggX1_lose_X1_notThere
set_option maxRecDepth 20000 in
theorem ggX1_lose_X1_isMovable : GoodIn wsX1_lose wsX1_isMovable := goodIn_ca (goodIn_r _ [16, 17, 18, 19, 20, 21, 4, 22, 12, 6, 28, 29, 30, 31, 32, 33, 34, 35, 36, 37] (by decide +kernel) (by decide +kernel)) (goodIn_sub (fun _ h => List.mem_cons_of_mem _ (List.mem_append_right _ h)) (by decide +kernel))
set_option maxRecDepth 20000 in
theorem gX1_lose_X1_isMovable : GoodIn wsX1_lose (wsV RX1 48 RX1 yX1_isMovable wsX1_isMovable) := goodIn_app (goodIn_of _ (by decide +kernel)) ggX1_lose_X1_isMovable
set_option maxRecDepth 20000 in
theorem ggX1_lose_X1_loseOne : GoodIn wsX1_lose wsX1_loseOne := goodIn_ca (goodIn_r _ [26, 6, 27, 28, 29, 30, 31, 32, 33, 34, 35, 36, 37] (by decide +kernel) (by decide +kernel)) (goodIn_sub (fun _ h => List.mem_cons_of_mem _ (List.mem_append_right _ h)) (by decide +kernel))
set_option maxRecDepth 20000 in
theorem gX1_lose_X1_loseOne : GoodIn wsX1_lose (wsV RX1 66 RX1 yX1_loseOne wsX1_loseOne) := goodIn_app (goodIn_of _ (by decide +kernel)) ggX1_lose_X1_loseOne
theorem dX1_lose_0 : decode cX1_lose 0 = .ok (.aload_n 0, 1) := by decide +kernel
theorem dX1_lose_1 : decode cX1_lose 1 = .ok (.iload_n 1, 1) := by decide +kernel
theorem dX1_lose_2 : decode cX1_lose 2 = .ok (.invokevirtual 84, 3) := by decide +kernel
theorem dX1_lose_5 : decode cX1_lose 5 = .ok (.ifCond .ne 11, 3) := by decide +kernel
theorem dX1_lose_8 : decode cX1_lose 8 = .ok (.aload_n 0, 1) := by decide +kernel
theorem dX1_lose_9 : decode cX1_lose 9 = .ok (.iload_n 1, 1) := by decide +kernel
theorem dX1_lose_10 : decode cX1_lose 10 = .ok (.invokevirtual 48, 3) := by decide +kernel
theorem dX1_lose_13 : decode cX1_lose 13 = .ok (.ifCond .ne 5, 3) := by decide +kernel
theorem dX1_lose_16 : decode cX1_lose 16 = .ok (.iconst 0, 1) := by decide +kernel
theorem dX1_lose_17 : decode cX1_lose 17 = .ok (.ireturn, 1) := by decide +kernel
theorem dX1_lose_18 : decode cX1_lose 18 = .ok (.aload_n 0, 1) := by decide +kernel
theorem dX1_lose_19 : decode cX1_lose 19 = .ok (.iload_n 1, 1) := by decide +kernel
theorem dX1_lose_20 : decode cX1_lose 20 = .ok (.invokevirtual 66, 3) := by decide +kernel
theorem dX1_lose_23 : decode cX1_lose 23 = .ok (.iconst 1, 1) := by decide +kernel
theorem dX1_lose_24 : decode cX1_lose 24 = .ok (.ireturn, 1) := by decide +kernel
set_option maxRecDepth 20000 in
theorem ggX1_lift_X1_notUsed : GoodIn wsX1_lift wsX1_notUsed := goodIn_ca (goodIn_r _ [9, 10, 29, 30, 31, 32, 33, 34, 35, 36, 37, 38] (by decide +kernel) (by decide +kernel)) (goodIn_sub (fun _ h => List.mem_cons_of_mem _ (List.mem_append_right _ h)) (by decide +kernel))
set_option maxRecDepth 20000 in
theorem gX1_lift_X1_notUsed : GoodIn wsX1_lift (wsV RX1 81 RX1 yX1_notUsed wsX1_notUsed) := goodIn_app (goodIn_of _ (by decide +kernel)) ggX1_lift_X1_notUsed
set_option maxRecDepth 20000 in
theorem ggX1_lift_X1_isMovable : GoodIn wsX1_lift wsX1_isMovable := goodIn_ca (goodIn_r _ [14, 15, 16, 17, 18, 19, 8, 20, 10, 3, 29, 30, 31, 32, 33, 34, 35, 36, 37, 38] (by decide +kernel) (by decide +kernel)) (goodIn_sub (fun _ h => List.mem_cons_of_mem _ (List.mem_append_right _ h)) (by decide +kernel))
set_option maxRecDepth 20000 in
theorem gX1_lift_X1_isMovable : GoodIn wsX1_lift (wsV RX1 48 RX1 yX1_isMovable wsX1_isMovable) := goodIn_app (goodIn_of _ (by decide +kernel)) ggX1_lift_X1_isMovable
set_option maxRecDepth 20000 in
theorem ggX1_lift_X1_freeTo : GoodIn wsX1_lift wsX1_freeTo := goodIn_ca (goodIn_r _ [24, 2, 25, 26, 27, 8, 28, 17, 18, 19, 20, 10, 3, 29, 30, 31, 32, 33, 34, 35, 36, 37, 38] (by decide +kernel) (by decide +kernel)) (goodIn_sub (fun _ h => List.mem_cons_of_mem _ (List.mem_append_right _ h)) (by decide +kernel))
set_option maxRecDepth 20000 in
theorem gX1_lift_X1_freeTo : GoodIn wsX1_lift (wsV RX1 45 RX1 yX1_freeTo wsX1_freeTo) := goodIn_app (goodIn_of _ (by decide +kernel)) ggX1_lift_X1_freeTo
theorem dX1_lift_0 : decode cX1_lift 0 = .ok (.aload_n 0, 1) := by decide +kernel
theorem dX1_lift_1 : decode cX1_lift 1 = .ok (.aload_n 0, 1) := by decide +kernel
theorem dX1_lift_2 : decode cX1_lift 2 = .ok (.iload_n 1, 1) := by decide +kernel
theorem dX1_lift_3 : decode cX1_lift 3 = .ok (.invokevirtual 81, 3) := by decide +kernel
theorem dX1_lift_6 : decode cX1_lift 6 = .ok (.ifCond .eq 7, 3) := by decide +kernel
theorem dX1_lift_9 : decode cX1_lift 9 = .ok (.iconst 1, 1) := by decide +kernel
theorem dX1_lift_10 : decode cX1_lift 10 = .ok (.goto 16, 3) := by decide +kernel
theorem dX1_lift_13 : decode cX1_lift 13 = .ok (.aload_n 0, 1) := by decide +kernel
theorem dX1_lift_14 : decode cX1_lift 14 = .ok (.iload_n 1, 1) := by decide +kernel
theorem dX1_lift_15 : decode cX1_lift 15 = .ok (.invokevirtual 48, 3) := by decide +kernel
theorem dX1_lift_18 : decode cX1_lift 18 = .ok (.ifCond .ne 7, 3) := by decide +kernel
theorem dX1_lift_21 : decode cX1_lift 21 = .ok (.iconst 2, 1) := by decide +kernel
theorem dX1_lift_22 : decode cX1_lift 22 = .ok (.goto 4, 3) := by decide +kernel
theorem dX1_lift_25 : decode cX1_lift 25 = .ok (.iconst 0, 1) := by decide +kernel
theorem dX1_lift_26 : decode cX1_lift 26 = .ok (.putfield 33, 3) := by decide +kernel
theorem dX1_lift_29 : decode cX1_lift 29 = .ok (.aload_n 0, 1) := by decide +kernel
theorem dX1_lift_30 : decode cX1_lift 30 = .ok (.getfield 33, 3) := by decide +kernel
theorem dX1_lift_33 : decode cX1_lift 33 = .ok (.ifCond .le 5, 3) := by decide +kernel
theorem dX1_lift_36 : decode cX1_lift 36 = .ok (.iconst 0, 1) := by decide +kernel
theorem dX1_lift_37 : decode cX1_lift 37 = .ok (.ireturn, 1) := by decide +kernel
theorem dX1_lift_38 : decode cX1_lift 38 = .ok (.aload_n 0, 1) := by decide +kernel
theorem dX1_lift_39 : decode cX1_lift 39 = .ok (.getfield 13, 3) := by decide +kernel
theorem dX1_lift_42 : decode cX1_lift 42 = .ok (.iload_n 1, 1) := by decide +kernel
theorem dX1_lift_43 : decode cX1_lift 43 = .ok (.iaload, 1) := by decide +kernel
theorem dX1_lift_44 : decode cX1_lift 44 = .ok (.aload_n 0, 1) := by decide +kernel
theorem dX1_lift_45 : decode cX1_lift 45 = .ok (.getfield 17, 3) := by decide +kernel
theorem dX1_lift_48 : decode cX1_lift 48 = .ok (.iload_n 1, 1) := by decide +kernel
theorem dX1_lift_49 : decode cX1_lift 49 = .ok (.iaload, 1) := by decide +kernel
theorem dX1_lift_50 : decode cX1_lift 50 = .ok (.iadd, 1) := by decide +kernel
theorem dX1_lift_51 : decode cX1_lift 51 = .ok (.istore_n 2, 1) := by decide +kernel
theorem dX1_lift_52 : decode cX1_lift 52 = .ok (.aload_n 0, 1) := by decide +kernel
theorem dX1_lift_53 : decode cX1_lift 53 = .ok (.iload_n 2, 1) := by decide +kernel
theorem dX1_lift_54 : decode cX1_lift 54 = .ok (.invokevirtual 45, 3) := by decide +kernel
theorem dX1_lift_57 : decode cX1_lift 57 = .ok (.iload_n 2, 1) := by decide +kernel
theorem dX1_lift_58 : decode cX1_lift 58 = .ok (.isub, 1) := by decide +kernel
theorem dX1_lift_59 : decode cX1_lift 59 = .ok (.istore_n 3, 1) := by decide +kernel
theorem dX1_lift_60 : decode cX1_lift 60 = .ok (.aload_n 0, 1) := by decide +kernel
theorem dX1_lift_61 : decode cX1_lift 61 = .ok (.getfield 13, 3) := by decide +kernel
theorem dX1_lift_64 : decode cX1_lift 64 = .ok (.iload_n 1, 1) := by decide +kernel
theorem dX1_lift_65 : decode cX1_lift 65 = .ok (.aload_n 0, 1) := by decide +kernel
theorem dX1_lift_66 : decode cX1_lift 66 = .ok (.getfield 13, 3) := by decide +kernel
theorem dX1_lift_69 : decode cX1_lift 69 = .ok (.iload_n 1, 1) := by decide +kernel
theorem dX1_lift_70 : decode cX1_lift 70 = .ok (.iaload, 1) := by decide +kernel
theorem dX1_lift_71 : decode cX1_lift 71 = .ok (.iload_n 3, 1) := by decide +kernel
theorem dX1_lift_72 : decode cX1_lift 72 = .ok (.iadd, 1) := by decide +kernel
theorem dX1_lift_73 : decode cX1_lift 73 = .ok (.iastore, 1) := by decide +kernel
theorem dX1_lift_74 : decode cX1_lift 74 = .ok (.aload_n 0, 1) := by decide +kernel
theorem dX1_lift_75 : decode cX1_lift 75 = .ok (.iload_n 3, 1) := by decide +kernel
theorem dX1_lift_76 : decode cX1_lift 76 = .ok (.ifCond .le 17, 3) := by decide +kernel
theorem dX1_lift_79 : decode cX1_lift 79 = .ok (.aload_n 0, 1) := by decide +kernel
theorem dX1_lift_80 : decode cX1_lift 80 = .ok (.getfield 51, 3) := by decide +kernel
theorem dX1_lift_83 : decode cX1_lift 83 = .ok (.aload_n 0, 1) := by decide +kernel
theorem dX1_lift_84 : decode cX1_lift 84 = .ok (.getfield 17, 3) := by decide +kernel
theorem dX1_lift_87 : decode cX1_lift 87 = .ok (.iload_n 1, 1) := by decide +kernel
theorem dX1_lift_88 : decode cX1_lift 88 = .ok (.iaload, 1) := by decide +kernel
theorem dX1_lift_89 : decode cX1_lift 89 = .ok (.iadd, 1) := by decide +kernel
theorem dX1_lift_90 : decode cX1_lift 90 = .ok (.goto 7, 3) := by decide +kernel
theorem dX1_lift_93 : decode cX1_lift 93 = .ok (.aload_n 0, 1) := by decide +kernel
theorem dX1_lift_94 : decode cX1_lift 94 = .ok (.getfield 51, 3) := by decide +kernel
theorem dX1_lift_97 : decode cX1_lift 97 = .ok (.putfield 51, 3) := by decide +kernel
theorem dX1_lift_100 : decode cX1_lift 100 = .ok (.iload_n 3, 1) := by decide +kernel
theorem dX1_lift_101 : decode cX1_lift 101 = .ok (.ireturn, 1) := by decide +kernel
set_option maxRecDepth 20000 in
theorem ggX1_slide_X1_slideAll : GoodIn wsX1_slide wsX1_slideAll := goodIn_ca (goodIn_r _ [6, 7, 8, 9, 10, 11, 12, 5, 13, 14, 15, 16, 17, 18, 19, 20, 21, 22, 23, 24, 33, 34, 35, 36, 37, 38, 39, 40, 41, 42] (by decide +kernel) (by decide +kernel)) (goodIn_sub (fun _ h => List.mem_cons_of_mem _ (List.mem_append_right _ h)) (by decide +kernel))
set_option maxRecDepth 20000 in
theorem gX1_slide_X1_slideAll : GoodIn wsX1_slide (wsV RX1 60 RX1 yX1_slideAll wsX1_slideAll) := goodIn_app (goodIn_of _ (by decide +kernel)) ggX1_slide_X1_slideAll
set_option maxRecDepth 20000 in
theorem ggX1_slide_X1_greatest : GoodIn wsX1_slide wsX1_greatest := goodIn_ca (goodIn_r _ [28, 9, 29, 30, 31, 5, 32, 7, 10, 11, 12, 13, 14, 15, 16, 17, 18, 33, 34, 35, 36, 37, 38, 39, 40, 41, 42] (by decide +kernel) (by decide +kernel)) (goodIn_sub (fun _ h => List.mem_cons_of_mem _ (List.mem_append_right _ h)) (by decide +kernel))
set_option maxRecDepth 20000 in
theorem gX1_slide_X1_greatest : GoodIn wsX1_slide (wsV RX1 87 RX1 yX1_greatest wsX1_greatest) := goodIn_app (goodIn_of _ (by decide +kernel)) ggX1_slide_X1_greatest
theorem dX1_slide_0 : decode cX1_slide 0 = .ok (.aload_n 0, 1) := by decide +kernel
theorem dX1_slide_1 : decode cX1_slide 1 = .ok (.iconst 0, 1) := by decide +kernel
theorem dX1_slide_2 : decode cX1_slide 2 = .ok (.putfield 33, 3) := by decide +kernel
theorem dX1_slide_5 : decode cX1_slide 5 = .ok (.aload_n 0, 1) := by decide +kernel
theorem dX1_slide_6 : decode cX1_slide 6 = .ok (.invokevirtual 60, 3) := by decide +kernel
theorem dX1_slide_9 : decode cX1_slide 9 = .ok (.aload_n 0, 1) := by decide +kernel
theorem dX1_slide_10 : decode cX1_slide 10 = .ok (.invokevirtual 87, 3) := by decide +kernel
theorem dX1_slide_13 : decode cX1_slide 13 = .ok (.ireturn, 1) := by decide +kernel
set_option maxRecDepth 20000 in
theorem ggX1_clear_X1_greatest : GoodIn wsX1_clear wsX1_greatest := goodIn_ca (goodIn_r _ [6, 7, 8, 9, 10, 5, 11, 12, 13, 14, 15, 16, 17, 18, 19, 20, 21, 43, 44, 45, 46, 47, 48, 49, 50, 51, 52] (by decide +kernel) (by decide +kernel)) (goodIn_sub (fun _ h => List.mem_cons_of_mem _ (List.mem_append_right _ h)) (by decide +kernel))
set_option maxRecDepth 20000 in
theorem gX1_clear_X1_greatest : GoodIn wsX1_clear (wsV RX1 87 RX1 yX1_greatest wsX1_greatest) := goodIn_app (goodIn_of _ (by decide +kernel)) ggX1_clear_X1_greatest
set_option maxRecDepth 20000 in
theorem ggX1_clear_X1_firstToLose : GoodIn wsX1_clear wsX1_firstToLose := goodIn_ca (goodIn_r _ [25, 26, 12, 27, 28, 29, 5, 30, 31, 32, 17, 18, 19, 20, 21, 7, 43, 44, 45, 46, 47, 48, 49, 50, 51, 52] (by decide +kernel) (by decide +kernel)) (goodIn_sub (fun _ h => List.mem_cons_of_mem _ (List.mem_append_right _ h)) (by decide +kernel))
set_option maxRecDepth 20000 in
theorem gX1_clear_X1_firstToLose : GoodIn wsX1_clear (wsV RX1 63 RX1 yX1_firstToLose wsX1_firstToLose) := goodIn_app (goodIn_of _ (by decide +kernel)) ggX1_clear_X1_firstToLose
set_option maxRecDepth 20000 in
theorem ggX1_clear_X1_loseOne : GoodIn wsX1_clear wsX1_loseOne := goodIn_ca (goodIn_r _ [36, 7, 37, 43, 44, 45, 46, 47, 48, 49, 50, 51, 52] (by decide +kernel) (by decide +kernel)) (goodIn_sub (fun _ h => List.mem_cons_of_mem _ (List.mem_append_right _ h)) (by decide +kernel))
set_option maxRecDepth 20000 in
theorem gX1_clear_X1_loseOne : GoodIn wsX1_clear (wsV RX1 66 RX1 yX1_loseOne wsX1_loseOne) := goodIn_app (goodIn_of _ (by decide +kernel)) ggX1_clear_X1_loseOne
set_option maxRecDepth 20000 in
theorem ggX1_clear_X1_slideAll : GoodIn wsX1_clear wsX1_slideAll := goodIn_ca (goodIn_r _ [41, 12, 42, 7, 13, 14, 15, 5, 16, 17, 18, 19, 20, 21, 27, 28, 29, 30, 31, 32, 43, 44, 45, 46, 47, 48, 49, 50, 51, 52] (by decide +kernel) (by decide +kernel)) (goodIn_sub (fun _ h => List.mem_cons_of_mem _ (List.mem_append_right _ h)) (by decide +kernel))
set_option maxRecDepth 20000 in
theorem gX1_clear_X1_slideAll : GoodIn wsX1_clear (wsV RX1 60 RX1 yX1_slideAll wsX1_slideAll) := goodIn_app (goodIn_of _ (by decide +kernel)) ggX1_clear_X1_slideAll
theorem dX1_clear_0 : decode cX1_clear 0 = .ok (.aload_n 0, 1) := by decide +kernel
theorem dX1_clear_1 : decode cX1_clear 1 = .ok (.iload_n 1, 1) := by decide +kernel
theorem dX1_clear_2 : decode cX1_clear 2 = .ok (.ifCond .lt 10, 3) := by decide +kernel
theorem dX1_clear_5 : decode cX1_clear 5 = .ok (.iload_n 1, 1) := by decide +kernel
theorem dX1_clear_6 : decode cX1_clear 6 = .ok (.sipush 1024, 3) := by decide +kernel
theorem dX1_clear_9 : decode cX1_clear 9 = .ok (.if_icmp .le 7, 3) := by decide +kernel
theorem dX1_clear_12 : decode cX1_clear 12 = .ok (.iconst 1, 1) := by decide +kernel
theorem dX1_clear_13 : decode cX1_clear 13 = .ok (.goto 4, 3) := by decide +kernel
theorem dX1_clear_16 : decode cX1_clear 16 = .ok (.iconst 0, 1) := by decide +kernel
theorem dX1_clear_17 : decode cX1_clear 17 = .ok (.putfield 33, 3) := by decide +kernel
theorem dX1_clear_20 : decode cX1_clear 20 = .ok (.iconst 0, 1) := by decide +kernel
theorem dX1_clear_21 : decode cX1_clear 21 = .ok (.istore_n 2, 1) := by decide +kernel
theorem dX1_clear_22 : decode cX1_clear 22 = .ok (.aload_n 0, 1) := by decide +kernel
theorem dX1_clear_23 : decode cX1_clear 23 = .ok (.getfield 33, 3) := by decide +kernel
theorem dX1_clear_26 : decode cX1_clear 26 = .ok (.ifCond .ne 38, 3) := by decide +kernel
theorem dX1_clear_29 : decode cX1_clear 29 = .ok (.aload_n 0, 1) := by decide +kernel
theorem dX1_clear_30 : decode cX1_clear 30 = .ok (.invokevirtual 87, 3) := by decide +kernel
theorem dX1_clear_33 : decode cX1_clear 33 = .ok (.iload_n 1, 1) := by decide +kernel
theorem dX1_clear_34 : decode cX1_clear 34 = .ok (.if_icmp .ge 30, 3) := by decide +kernel
theorem dX1_clear_37 : decode cX1_clear 37 = .ok (.aload_n 0, 1) := by decide +kernel
theorem dX1_clear_38 : decode cX1_clear 38 = .ok (.iconst (-1), 1) := by decide +kernel
theorem dX1_clear_39 : decode cX1_clear 39 = .ok (.invokevirtual 63, 3) := by decide +kernel
theorem dX1_clear_42 : decode cX1_clear 42 = .ok (.ifCond .lt 22, 3) := by decide +kernel
theorem dX1_clear_45 : decode cX1_clear 45 = .ok (.aload_n 0, 1) := by decide +kernel
theorem dX1_clear_46 : decode cX1_clear 46 = .ok (.aload_n 0, 1) := by decide +kernel
theorem dX1_clear_47 : decode cX1_clear 47 = .ok (.iconst (-1), 1) := by decide +kernel
theorem dX1_clear_48 : decode cX1_clear 48 = .ok (.invokevirtual 63, 3) := by decide +kernel
theorem dX1_clear_51 : decode cX1_clear 51 = .ok (.invokevirtual 66, 3) := by decide +kernel
theorem dX1_clear_54 : decode cX1_clear 54 = .ok (.aload_n 0, 1) := by decide +kernel
theorem dX1_clear_55 : decode cX1_clear 55 = .ok (.invokevirtual 60, 3) := by decide +kernel
theorem dX1_clear_58 : decode cX1_clear 58 = .ok (.iinc 2 1, 3) := by decide +kernel
theorem dX1_clear_61 : decode cX1_clear 61 = .ok (.goto (-39), 3) := by decide +kernel
theorem dX1_clear_64 : decode cX1_clear 64 = .ok (.iload_n 2, 1) := by decide +kernel
theorem dX1_clear_65 : decode cX1_clear 65 = .ok (.ireturn, 1) := by decide +kernel
theorem dX1_where_0 : decode cX1_where 0 = .ok (.aload_n 0, 1) := by decide +kernel
theorem dX1_where_1 : decode cX1_where 1 = .ok (.iload_n 1, 1) := by decide +kernel
theorem dX1_where_2 : decode cX1_where 2 = .ok (.ifCond .lt 9, 3) := by decide +kernel
theorem dX1_where_5 : decode cX1_where 5 = .ok (.iload_n 1, 1) := by decide +kernel
theorem dX1_where_6 : decode cX1_where 6 = .ok (.bipush 48, 2) := by decide +kernel
theorem dX1_where_8 : decode cX1_where 8 = .ok (.if_icmp .lt 7, 3) := by decide +kernel
theorem dX1_where_11 : decode cX1_where 11 = .ok (.iconst 1, 1) := by decide +kernel
theorem dX1_where_12 : decode cX1_where 12 = .ok (.goto 4, 3) := by decide +kernel
theorem dX1_where_15 : decode cX1_where 15 = .ok (.iconst 0, 1) := by decide +kernel
theorem dX1_where_16 : decode cX1_where 16 = .ok (.putfield 33, 3) := by decide +kernel
theorem dX1_where_19 : decode cX1_where 19 = .ok (.aload_n 0, 1) := by decide +kernel
theorem dX1_where_20 : decode cX1_where 20 = .ok (.getfield 33, 3) := by decide +kernel
theorem dX1_where_23 : decode cX1_where 23 = .ok (.ifCond .le 5, 3) := by decide +kernel
theorem dX1_where_26 : decode cX1_where 26 = .ok (.iconst 0, 1) := by decide +kernel
theorem dX1_where_27 : decode cX1_where 27 = .ok (.ireturn, 1) := by decide +kernel
theorem dX1_where_28 : decode cX1_where 28 = .ok (.aload_n 0, 1) := by decide +kernel
theorem dX1_where_29 : decode cX1_where 29 = .ok (.getfield 7, 3) := by decide +kernel
theorem dX1_where_32 : decode cX1_where 32 = .ok (.iload_n 1, 1) := by decide +kernel
theorem dX1_where_33 : decode cX1_where 33 = .ok (.baload, 1) := by decide +kernel
theorem dX1_where_34 : decode cX1_where 34 = .ok (.ifCond .ne 7, 3) := by decide +kernel
theorem dX1_where_37 : decode cX1_where 37 = .ok (.iconst (-1), 1) := by decide +kernel
theorem dX1_where_38 : decode cX1_where 38 = .ok (.goto 23, 3) := by decide +kernel
theorem dX1_where_41 : decode cX1_where 41 = .ok (.aload_n 0, 1) := by decide +kernel
theorem dX1_where_42 : decode cX1_where 42 = .ok (.getfield 17, 3) := by decide +kernel
theorem dX1_where_45 : decode cX1_where 45 = .ok (.iload_n 1, 1) := by decide +kernel
theorem dX1_where_46 : decode cX1_where 46 = .ok (.iaload, 1) := by decide +kernel
theorem dX1_where_47 : decode cX1_where 47 = .ok (.ifCond .ne 8, 3) := by decide +kernel
theorem dX1_where_50 : decode cX1_where 50 = .ok (.bipush (-2), 2) := by decide +kernel
theorem dX1_where_52 : decode cX1_where 52 = .ok (.goto 9, 3) := by decide +kernel
theorem dX1_where_55 : decode cX1_where 55 = .ok (.aload_n 0, 1) := by decide +kernel
theorem dX1_where_56 : decode cX1_where 56 = .ok (.getfield 13, 3) := by decide +kernel
theorem dX1_where_59 : decode cX1_where 59 = .ok (.iload_n 1, 1) := by decide +kernel
theorem dX1_where_60 : decode cX1_where 60 = .ok (.iaload, 1) := by decide +kernel
theorem dX1_where_61 : decode cX1_where 61 = .ok (.ireturn, 1) := by decide +kernel
theorem dX1_size_0 : decode cX1_size 0 = .ok (.aload_n 0, 1) := by decide +kernel
theorem dX1_size_1 : decode cX1_size 1 = .ok (.iload_n 1, 1) := by decide +kernel
theorem dX1_size_2 : decode cX1_size 2 = .ok (.ifCond .lt 9, 3) := by decide +kernel
theorem dX1_size_5 : decode cX1_size 5 = .ok (.iload_n 1, 1) := by decide +kernel
theorem dX1_size_6 : decode cX1_size 6 = .ok (.bipush 48, 2) := by decide +kernel
theorem dX1_size_8 : decode cX1_size 8 = .ok (.if_icmp .lt 7, 3) := by decide +kernel
theorem dX1_size_11 : decode cX1_size 11 = .ok (.iconst 1, 1) := by decide +kernel
theorem dX1_size_12 : decode cX1_size 12 = .ok (.goto 4, 3) := by decide +kernel
theorem dX1_size_15 : decode cX1_size 15 = .ok (.iconst 0, 1) := by decide +kernel
theorem dX1_size_16 : decode cX1_size 16 = .ok (.putfield 33, 3) := by decide +kernel
theorem dX1_size_19 : decode cX1_size 19 = .ok (.aload_n 0, 1) := by decide +kernel
theorem dX1_size_20 : decode cX1_size 20 = .ok (.getfield 33, 3) := by decide +kernel
theorem dX1_size_23 : decode cX1_size 23 = .ok (.ifCond .le 7, 3) := by decide +kernel
theorem dX1_size_26 : decode cX1_size 26 = .ok (.iconst 0, 1) := by decide +kernel
theorem dX1_size_27 : decode cX1_size 27 = .ok (.goto 9, 3) := by decide +kernel
theorem dX1_size_30 : decode cX1_size 30 = .ok (.aload_n 0, 1) := by decide +kernel
theorem dX1_size_31 : decode cX1_size 31 = .ok (.getfield 17, 3) := by decide +kernel
theorem dX1_size_34 : decode cX1_size 34 = .ok (.iload_n 1, 1) := by decide +kernel
theorem dX1_size_35 : decode cX1_size 35 = .ok (.iaload, 1) := by decide +kernel
theorem dX1_size_36 : decode cX1_size 36 = .ok (.ireturn, 1) := by decide +kernel
set_option maxRecDepth 20000 in
theorem ggX1_put_X1_notUsed : GoodIn wsX1_put wsX1_notUsed := goodIn_ca (goodIn_r _ [8, 9, 10, 11, 12, 13, 14, 15, 16, 17, 18, 19] (by decide +kernel) (by decide +kernel)) (goodIn_sub (fun _ h => List.mem_cons_of_mem _ (List.mem_append_right _ h)) (by decide +kernel))
set_option maxRecDepth 20000 in
theorem gX1_put_X1_notUsed : GoodIn wsX1_put (wsV RX1 81 RX1 yX1_notUsed wsX1_notUsed) := goodIn_app (goodIn_of _ (by decide +kernel)) ggX1_put_X1_notUsed
theorem dX1_put_0 : decode cX1_put 0 = .ok (.aload_n 0, 1) := by decide +kernel
theorem dX1_put_1 : decode cX1_put 1 = .ok (.aload_n 0, 1) := by decide +kernel
theorem dX1_put_2 : decode cX1_put 2 = .ok (.iload_n 1, 1) := by decide +kernel
theorem dX1_put_3 : decode cX1_put 3 = .ok (.invokevirtual 81, 3) := by decide +kernel
theorem dX1_put_6 : decode cX1_put 6 = .ok (.ifCond .ne 14, 3) := by decide +kernel
theorem dX1_put_9 : decode cX1_put 9 = .ok (.iload_n 3, 1) := by decide +kernel
theorem dX1_put_10 : decode cX1_put 10 = .ok (.ifCond .lt 10, 3) := by decide +kernel
theorem dX1_put_13 : decode cX1_put 13 = .ok (.iload_n 3, 1) := by decide +kernel
theorem dX1_put_14 : decode cX1_put 14 = .ok (.sipush 255, 3) := by decide +kernel
theorem dX1_put_17 : decode cX1_put 17 = .ok (.if_icmp .le 7, 3) := by decide +kernel
theorem dX1_put_20 : decode cX1_put 20 = .ok (.iconst 1, 1) := by decide +kernel
theorem dX1_put_21 : decode cX1_put 21 = .ok (.goto 35, 3) := by decide +kernel
theorem dX1_put_24 : decode cX1_put 24 = .ok (.aload_n 0, 1) := by decide +kernel
theorem dX1_put_25 : decode cX1_put 25 = .ok (.getfield 17, 3) := by decide +kernel
theorem dX1_put_28 : decode cX1_put 28 = .ok (.iload_n 1, 1) := by decide +kernel
theorem dX1_put_29 : decode cX1_put 29 = .ok (.iaload, 1) := by decide +kernel
theorem dX1_put_30 : decode cX1_put 30 = .ok (.ifCond .ne 7, 3) := by decide +kernel
theorem dX1_put_33 : decode cX1_put 33 = .ok (.iconst 2, 1) := by decide +kernel
theorem dX1_put_34 : decode cX1_put 34 = .ok (.goto 22, 3) := by decide +kernel
theorem dX1_put_37 : decode cX1_put 37 = .ok (.iload_n 2, 1) := by decide +kernel
theorem dX1_put_38 : decode cX1_put 38 = .ok (.ifCond .lt 13, 3) := by decide +kernel
theorem dX1_put_41 : decode cX1_put 41 = .ok (.iload_n 2, 1) := by decide +kernel
theorem dX1_put_42 : decode cX1_put 42 = .ok (.aload_n 0, 1) := by decide +kernel
theorem dX1_put_43 : decode cX1_put 43 = .ok (.getfield 17, 3) := by decide +kernel
theorem dX1_put_46 : decode cX1_put 46 = .ok (.iload_n 1, 1) := by decide +kernel
theorem dX1_put_47 : decode cX1_put 47 = .ok (.iaload, 1) := by decide +kernel
theorem dX1_put_48 : decode cX1_put 48 = .ok (.if_icmp .lt 7, 3) := by decide +kernel
theorem dX1_put_51 : decode cX1_put 51 = .ok (.iconst 3, 1) := by decide +kernel
theorem dX1_put_52 : decode cX1_put 52 = .ok (.goto 4, 3) := by decide +kernel
theorem dX1_put_55 : decode cX1_put 55 = .ok (.iconst 0, 1) := by decide +kernel
theorem dX1_put_56 : decode cX1_put 56 = .ok (.putfield 33, 3) := by decide +kernel
theorem dX1_put_59 : decode cX1_put 59 = .ok (.aload_n 0, 1) := by decide +kernel
theorem dX1_put_60 : decode cX1_put 60 = .ok (.getfield 33, 3) := by decide +kernel
theorem dX1_put_63 : decode cX1_put 63 = .ok (.ifCond .le 5, 3) := by decide +kernel
theorem dX1_put_66 : decode cX1_put 66 = .ok (.iconst 0, 1) := by decide +kernel
theorem dX1_put_67 : decode cX1_put 67 = .ok (.ireturn, 1) := by decide +kernel
theorem dX1_put_68 : decode cX1_put 68 = .ok (.aload_n 0, 1) := by decide +kernel
theorem dX1_put_69 : decode cX1_put 69 = .ok (.getfield 30, 3) := by decide +kernel
theorem dX1_put_72 : decode cX1_put 72 = .ok (.sipush 1024, 3) := by decide +kernel
theorem dX1_put_75 : decode cX1_put 75 = .ok (.iload_n 1, 1) := by decide +kernel
theorem dX1_put_76 : decode cX1_put 76 = .ok (.imul, 1) := by decide +kernel
theorem dX1_put_77 : decode cX1_put 77 = .ok (.iload_n 2, 1) := by decide +kernel
theorem dX1_put_78 : decode cX1_put 78 = .ok (.iadd, 1) := by decide +kernel
theorem dX1_put_79 : decode cX1_put 79 = .ok (.iaload, 1) := by decide +kernel
theorem dX1_put_80 : decode cX1_put 80 = .ok (.istore 4, 2) := by decide +kernel
theorem dX1_put_82 : decode cX1_put 82 = .ok (.aload_n 0, 1) := by decide +kernel
theorem dX1_put_83 : decode cX1_put 83 = .ok (.getfield 30, 3) := by decide +kernel
theorem dX1_put_86 : decode cX1_put 86 = .ok (.sipush 1024, 3) := by decide +kernel
theorem dX1_put_89 : decode cX1_put 89 = .ok (.iload_n 1, 1) := by decide +kernel
theorem dX1_put_90 : decode cX1_put 90 = .ok (.imul, 1) := by decide +kernel
theorem dX1_put_91 : decode cX1_put 91 = .ok (.iload_n 2, 1) := by decide +kernel
theorem dX1_put_92 : decode cX1_put 92 = .ok (.iadd, 1) := by decide +kernel
theorem dX1_put_93 : decode cX1_put 93 = .ok (.iload_n 3, 1) := by decide +kernel
theorem dX1_put_94 : decode cX1_put 94 = .ok (.iastore, 1) := by decide +kernel
theorem dX1_put_95 : decode cX1_put 95 = .ok (.iload 4, 2) := by decide +kernel
theorem dX1_put_97 : decode cX1_put 97 = .ok (.ireturn, 1) := by decide +kernel
set_option maxRecDepth 20000 in
theorem ggX1_get_X1_notUsed : GoodIn wsX1_get wsX1_notUsed := goodIn_ca (goodIn_r _ [8, 9, 10, 11, 12, 13, 14, 15, 16, 17, 18, 19] (by decide +kernel) (by decide +kernel)) (goodIn_sub (fun _ h => List.mem_cons_of_mem _ (List.mem_append_right _ h)) (by decide +kernel))
set_option maxRecDepth 20000 in
theorem gX1_get_X1_notUsed : GoodIn wsX1_get (wsV RX1 81 RX1 yX1_notUsed wsX1_notUsed) := goodIn_app (goodIn_of _ (by decide +kernel)) ggX1_get_X1_notUsed
theorem dX1_get_0 : decode cX1_get 0 = .ok (.aload_n 0, 1) := by decide +kernel
theorem dX1_get_1 : decode cX1_get 1 = .ok (.aload_n 0, 1) := by decide +kernel
theorem dX1_get_2 : decode cX1_get 2 = .ok (.iload_n 1, 1) := by decide +kernel
theorem dX1_get_3 : decode cX1_get 3 = .ok (.invokevirtual 81, 3) := by decide +kernel
theorem dX1_get_6 : decode cX1_get 6 = .ok (.ifCond .eq 7, 3) := by decide +kernel
theorem dX1_get_9 : decode cX1_get 9 = .ok (.iconst 1, 1) := by decide +kernel
theorem dX1_get_10 : decode cX1_get 10 = .ok (.goto 35, 3) := by decide +kernel
theorem dX1_get_13 : decode cX1_get 13 = .ok (.aload_n 0, 1) := by decide +kernel
theorem dX1_get_14 : decode cX1_get 14 = .ok (.getfield 17, 3) := by decide +kernel
theorem dX1_get_17 : decode cX1_get 17 = .ok (.iload_n 1, 1) := by decide +kernel
theorem dX1_get_18 : decode cX1_get 18 = .ok (.iaload, 1) := by decide +kernel
theorem dX1_get_19 : decode cX1_get 19 = .ok (.ifCond .ne 7, 3) := by decide +kernel
theorem dX1_get_22 : decode cX1_get 22 = .ok (.iconst 2, 1) := by decide +kernel
theorem dX1_get_23 : decode cX1_get 23 = .ok (.goto 22, 3) := by decide +kernel
theorem dX1_get_26 : decode cX1_get 26 = .ok (.iload_n 2, 1) := by decide +kernel
theorem dX1_get_27 : decode cX1_get 27 = .ok (.ifCond .lt 13, 3) := by decide +kernel
theorem dX1_get_30 : decode cX1_get 30 = .ok (.iload_n 2, 1) := by decide +kernel
theorem dX1_get_31 : decode cX1_get 31 = .ok (.aload_n 0, 1) := by decide +kernel
theorem dX1_get_32 : decode cX1_get 32 = .ok (.getfield 17, 3) := by decide +kernel
theorem dX1_get_35 : decode cX1_get 35 = .ok (.iload_n 1, 1) := by decide +kernel
theorem dX1_get_36 : decode cX1_get 36 = .ok (.iaload, 1) := by decide +kernel
theorem dX1_get_37 : decode cX1_get 37 = .ok (.if_icmp .lt 7, 3) := by decide +kernel
theorem dX1_get_40 : decode cX1_get 40 = .ok (.iconst 3, 1) := by decide +kernel
theorem dX1_get_41 : decode cX1_get 41 = .ok (.goto 4, 3) := by decide +kernel
theorem dX1_get_44 : decode cX1_get 44 = .ok (.iconst 0, 1) := by decide +kernel
theorem dX1_get_45 : decode cX1_get 45 = .ok (.putfield 33, 3) := by decide +kernel
theorem dX1_get_48 : decode cX1_get 48 = .ok (.aload_n 0, 1) := by decide +kernel
theorem dX1_get_49 : decode cX1_get 49 = .ok (.getfield 33, 3) := by decide +kernel
theorem dX1_get_52 : decode cX1_get 52 = .ok (.ifCond .le 7, 3) := by decide +kernel
theorem dX1_get_55 : decode cX1_get 55 = .ok (.iconst 0, 1) := by decide +kernel
theorem dX1_get_56 : decode cX1_get 56 = .ok (.goto 15, 3) := by decide +kernel
theorem dX1_get_59 : decode cX1_get 59 = .ok (.aload_n 0, 1) := by decide +kernel
theorem dX1_get_60 : decode cX1_get 60 = .ok (.getfield 30, 3) := by decide +kernel
theorem dX1_get_63 : decode cX1_get 63 = .ok (.sipush 1024, 3) := by decide +kernel
theorem dX1_get_66 : decode cX1_get 66 = .ok (.iload_n 1, 1) := by decide +kernel
theorem dX1_get_67 : decode cX1_get 67 = .ok (.imul, 1) := by decide +kernel
theorem dX1_get_68 : decode cX1_get 68 = .ok (.iload_n 2, 1) := by decide +kernel
theorem dX1_get_69 : decode cX1_get 69 = .ok (.iadd, 1) := by decide +kernel
theorem dX1_get_70 : decode cX1_get 70 = .ok (.iaload, 1) := by decide +kernel
theorem dX1_get_71 : decode cX1_get 71 = .ok (.ireturn, 1) := by decide +kernel
set_option maxRecDepth 20000 in
theorem ggX1_owner_X1_has : GoodIn wsX1_owner wsX1_has := goodIn_ca (goodIn_r _ [8, 9, 3, 10, 11, 12, 13, 14, 15, 16, 17, 18, 19] (by decide +kernel) (by decide +kernel)) (goodIn_sub (fun _ h => List.mem_cons_of_mem _ (List.mem_append_right _ h)) (by decide +kernel))
set_option maxRecDepth 20000 in
theorem gX1_owner_X1_has : GoodIn wsX1_owner (wsV RX1 37 RX1 yX1_has wsX1_has) := goodIn_app (goodIn_of _ (by decide +kernel)) ggX1_owner_X1_has
theorem dX1_owner_0 : decode cX1_owner 0 = .ok (.aload_n 0, 1) := by decide +kernel
theorem dX1_owner_1 : decode cX1_owner 1 = .ok (.iload_n 1, 1) := by decide +kernel
theorem dX1_owner_2 : decode cX1_owner 2 = .ok (.ifCond .lt 10, 3) := by decide +kernel
theorem dX1_owner_5 : decode cX1_owner 5 = .ok (.iload_n 1, 1) := by decide +kernel
theorem dX1_owner_6 : decode cX1_owner 6 = .ok (.sipush 1024, 3) := by decide +kernel
theorem dX1_owner_9 : decode cX1_owner 9 = .ok (.if_icmp .lt 7, 3) := by decide +kernel
theorem dX1_owner_12 : decode cX1_owner 12 = .ok (.iconst 1, 1) := by decide +kernel
theorem dX1_owner_13 : decode cX1_owner 13 = .ok (.goto 4, 3) := by decide +kernel
theorem dX1_owner_16 : decode cX1_owner 16 = .ok (.iconst 0, 1) := by decide +kernel
theorem dX1_owner_17 : decode cX1_owner 17 = .ok (.putfield 33, 3) := by decide +kernel
theorem dX1_owner_20 : decode cX1_owner 20 = .ok (.iconst 0, 1) := by decide +kernel
theorem dX1_owner_21 : decode cX1_owner 21 = .ok (.istore_n 2, 1) := by decide +kernel
theorem dX1_owner_22 : decode cX1_owner 22 = .ok (.iload_n 2, 1) := by decide +kernel
theorem dX1_owner_23 : decode cX1_owner 23 = .ok (.bipush 48, 2) := by decide +kernel
theorem dX1_owner_25 : decode cX1_owner 25 = .ok (.if_icmp .ge 53, 3) := by decide +kernel
theorem dX1_owner_28 : decode cX1_owner 28 = .ok (.aload_n 0, 1) := by decide +kernel
theorem dX1_owner_29 : decode cX1_owner 29 = .ok (.getfield 33, 3) := by decide +kernel
theorem dX1_owner_32 : decode cX1_owner 32 = .ok (.ifCond .ne 46, 3) := by decide +kernel
theorem dX1_owner_35 : decode cX1_owner 35 = .ok (.aload_n 0, 1) := by decide +kernel
theorem dX1_owner_36 : decode cX1_owner 36 = .ok (.iload_n 2, 1) := by decide +kernel
theorem dX1_owner_37 : decode cX1_owner 37 = .ok (.invokevirtual 37, 3) := by decide +kernel
theorem dX1_owner_40 : decode cX1_owner 40 = .ok (.ifCond .eq 32, 3) := by decide +kernel
theorem dX1_owner_43 : decode cX1_owner 43 = .ok (.iload_n 1, 1) := by decide +kernel
theorem dX1_owner_44 : decode cX1_owner 44 = .ok (.aload_n 0, 1) := by decide +kernel
theorem dX1_owner_45 : decode cX1_owner 45 = .ok (.getfield 13, 3) := by decide +kernel
theorem dX1_owner_48 : decode cX1_owner 48 = .ok (.iload_n 2, 1) := by decide +kernel
theorem dX1_owner_49 : decode cX1_owner 49 = .ok (.iaload, 1) := by decide +kernel
theorem dX1_owner_50 : decode cX1_owner 50 = .ok (.if_icmp .lt 22, 3) := by decide +kernel
theorem dX1_owner_53 : decode cX1_owner 53 = .ok (.iload_n 1, 1) := by decide +kernel
theorem dX1_owner_54 : decode cX1_owner 54 = .ok (.aload_n 0, 1) := by decide +kernel
theorem dX1_owner_55 : decode cX1_owner 55 = .ok (.getfield 13, 3) := by decide +kernel
theorem dX1_owner_58 : decode cX1_owner 58 = .ok (.iload_n 2, 1) := by decide +kernel
theorem dX1_owner_59 : decode cX1_owner 59 = .ok (.iaload, 1) := by decide +kernel
theorem dX1_owner_60 : decode cX1_owner 60 = .ok (.aload_n 0, 1) := by decide +kernel
theorem dX1_owner_61 : decode cX1_owner 61 = .ok (.getfield 17, 3) := by decide +kernel
theorem dX1_owner_64 : decode cX1_owner 64 = .ok (.iload_n 2, 1) := by decide +kernel
theorem dX1_owner_65 : decode cX1_owner 65 = .ok (.iaload, 1) := by decide +kernel
theorem dX1_owner_66 : decode cX1_owner 66 = .ok (.iadd, 1) := by decide +kernel
theorem dX1_owner_67 : decode cX1_owner 67 = .ok (.if_icmp .ge 5, 3) := by decide +kernel
theorem dX1_owner_70 : decode cX1_owner 70 = .ok (.iload_n 2, 1) := by decide +kernel
theorem dX1_owner_71 : decode cX1_owner 71 = .ok (.ireturn, 1) := by decide +kernel
theorem dX1_owner_72 : decode cX1_owner 72 = .ok (.iinc 2 1, 3) := by decide +kernel
theorem dX1_owner_75 : decode cX1_owner 75 = .ok (.goto (-53), 3) := by decide +kernel
theorem dX1_owner_78 : decode cX1_owner 78 = .ok (.aload_n 0, 1) := by decide +kernel
theorem dX1_owner_79 : decode cX1_owner 79 = .ok (.getfield 33, 3) := by decide +kernel
theorem dX1_owner_82 : decode cX1_owner 82 = .ok (.ifCond .le 7, 3) := by decide +kernel
theorem dX1_owner_85 : decode cX1_owner 85 = .ok (.iconst 0, 1) := by decide +kernel
theorem dX1_owner_86 : decode cX1_owner 86 = .ok (.goto 4, 3) := by decide +kernel
theorem dX1_owner_89 : decode cX1_owner 89 = .ok (.iconst (-1), 1) := by decide +kernel
theorem dX1_owner_90 : decode cX1_owner 90 = .ok (.ireturn, 1) := by decide +kernel
set_option maxRecDepth 20000 in
theorem ggX1_free_X1_freeTo : GoodIn wsX1_free wsX1_freeTo := goodIn_ca (goodIn_r _ [6, 7, 8, 9, 10, 5, 11, 12, 13, 14, 15, 16, 1, 17, 18, 19, 20, 21, 22, 23, 24, 25, 26] (by decide +kernel) (by decide +kernel)) (goodIn_sub (fun _ h => List.mem_cons_of_mem _ (List.mem_append_right _ h)) (by decide +kernel))
set_option maxRecDepth 20000 in
theorem gX1_free_X1_freeTo : GoodIn wsX1_free (wsV RX1 45 RX1 yX1_freeTo wsX1_freeTo) := goodIn_app (goodIn_of _ (by decide +kernel)) ggX1_free_X1_freeTo
set_option maxRecDepth 20000 in
theorem ggX1_free_X1_firstFrom : GoodIn wsX1_free wsX1_firstFrom := goodIn_ca (goodIn_r _ [11, 7, 12, 13, 14, 5, 15, 16, 1, 17, 18, 19, 20, 21, 22, 23, 24, 25, 26] (by decide +kernel) (by decide +kernel)) (goodIn_sub (fun _ h => List.mem_cons_of_mem _ (List.mem_append_right _ h)) (by decide +kernel))
set_option maxRecDepth 20000 in
theorem gX1_free_X1_firstFrom : GoodIn wsX1_free (wsV RX1 41 RX1 yX1_firstFrom wsX1_firstFrom) := goodIn_app (goodIn_of _ (by decide +kernel)) ggX1_free_X1_firstFrom
theorem dX1_free_0 : decode cX1_free 0 = .ok (.iconst 0, 1) := by decide +kernel
theorem dX1_free_1 : decode cX1_free 1 = .ok (.istore_n 2, 1) := by decide +kernel
theorem dX1_free_2 : decode cX1_free 2 = .ok (.iconst 0, 1) := by decide +kernel
theorem dX1_free_3 : decode cX1_free 3 = .ok (.istore_n 3, 1) := by decide +kernel
theorem dX1_free_4 : decode cX1_free 4 = .ok (.iload_n 3, 1) := by decide +kernel
theorem dX1_free_5 : decode cX1_free 5 = .ok (.sipush 1024, 3) := by decide +kernel
theorem dX1_free_8 : decode cX1_free 8 = .ok (.if_icmp .ge 69, 3) := by decide +kernel
theorem dX1_free_11 : decode cX1_free 11 = .ok (.aload_n 0, 1) := by decide +kernel
theorem dX1_free_12 : decode cX1_free 12 = .ok (.iload_n 3, 1) := by decide +kernel
theorem dX1_free_13 : decode cX1_free 13 = .ok (.invokevirtual 45, 3) := by decide +kernel
theorem dX1_free_16 : decode cX1_free 16 = .ok (.istore 4, 2) := by decide +kernel
theorem dX1_free_18 : decode cX1_free 18 = .ok (.iload 4, 2) := by decide +kernel
theorem dX1_free_20 : decode cX1_free 20 = .ok (.iload_n 3, 1) := by decide +kernel
theorem dX1_free_21 : decode cX1_free 21 = .ok (.if_icmp .le 22, 3) := by decide +kernel
theorem dX1_free_24 : decode cX1_free 24 = .ok (.iload_n 1, 1) := by decide +kernel
theorem dX1_free_25 : decode cX1_free 25 = .ok (.ifCond .eq 9, 3) := by decide +kernel
theorem dX1_free_28 : decode cX1_free 28 = .ok (.iload_n 2, 1) := by decide +kernel
theorem dX1_free_29 : decode cX1_free 29 = .ok (.iconst 1, 1) := by decide +kernel
theorem dX1_free_30 : decode cX1_free 30 = .ok (.iadd, 1) := by decide +kernel
theorem dX1_free_31 : decode cX1_free 31 = .ok (.goto 13, 3) := by decide +kernel
theorem dX1_free_34 : decode cX1_free 34 = .ok (.iload_n 2, 1) := by decide +kernel
theorem dX1_free_35 : decode cX1_free 35 = .ok (.iload 4, 2) := by decide +kernel
theorem dX1_free_37 : decode cX1_free 37 = .ok (.iadd, 1) := by decide +kernel
theorem dX1_free_38 : decode cX1_free 38 = .ok (.iload_n 3, 1) := by decide +kernel
theorem dX1_free_39 : decode cX1_free 39 = .ok (.isub, 1) := by decide +kernel
theorem dX1_free_40 : decode cX1_free 40 = .ok (.goto 4, 3) := by decide +kernel
theorem dX1_free_43 : decode cX1_free 43 = .ok (.iload_n 2, 1) := by decide +kernel
theorem dX1_free_44 : decode cX1_free 44 = .ok (.istore_n 2, 1) := by decide +kernel
theorem dX1_free_45 : decode cX1_free 45 = .ok (.iload 4, 2) := by decide +kernel
theorem dX1_free_47 : decode cX1_free 47 = .ok (.sipush 1024, 3) := by decide +kernel
theorem dX1_free_50 : decode cX1_free 50 = .ok (.if_icmp .ne 9, 3) := by decide +kernel
theorem dX1_free_53 : decode cX1_free 53 = .ok (.sipush 1024, 3) := by decide +kernel
theorem dX1_free_56 : decode cX1_free 56 = .ok (.goto 17, 3) := by decide +kernel
theorem dX1_free_59 : decode cX1_free 59 = .ok (.iload 4, 2) := by decide +kernel
theorem dX1_free_61 : decode cX1_free 61 = .ok (.aload_n 0, 1) := by decide +kernel
theorem dX1_free_62 : decode cX1_free 62 = .ok (.getfield 17, 3) := by decide +kernel
theorem dX1_free_65 : decode cX1_free 65 = .ok (.aload_n 0, 1) := by decide +kernel
theorem dX1_free_66 : decode cX1_free 66 = .ok (.iload 4, 2) := by decide +kernel
theorem dX1_free_68 : decode cX1_free 68 = .ok (.invokevirtual 41, 3) := by decide +kernel
theorem dX1_free_71 : decode cX1_free 71 = .ok (.iaload, 1) := by decide +kernel
theorem dX1_free_72 : decode cX1_free 72 = .ok (.iadd, 1) := by decide +kernel
theorem dX1_free_73 : decode cX1_free 73 = .ok (.istore_n 3, 1) := by decide +kernel
theorem dX1_free_74 : decode cX1_free 74 = .ok (.goto (-70), 3) := by decide +kernel
theorem dX1_free_77 : decode cX1_free 77 = .ok (.iload_n 2, 1) := by decide +kernel
theorem dX1_free_78 : decode cX1_free 78 = .ok (.ireturn, 1) := by decide +kernel
set_option maxRecDepth 20000 in
theorem ggX1_told_X1_free : GoodIn wsX1_told wsX1_free := goodIn_ca (goodIn_r _ [10, 3, 11, 12, 13, 9, 14, 15, 16, 17, 18, 19, 20, 21, 22, 23, 2, 28, 29, 30, 31, 32, 33, 34, 35, 36, 37] (by decide +kernel) (by decide +kernel)) (goodIn_sub (fun _ h => List.mem_cons_of_mem _ (List.mem_append_right _ h)) (by decide +kernel))
set_option maxRecDepth 20000 in
theorem gX1_told_X1_free : GoodIn wsX1_told (wsV RX1 91 RX1 yX1_free wsX1_free) := goodIn_app (goodIn_of _ (by decide +kernel)) ggX1_told_X1_free
set_option maxRecDepth 20000 in
theorem ggX1_told_X1_greatest : GoodIn wsX1_told wsX1_greatest := goodIn_ca (goodIn_r _ [27, 3, 11, 12, 13, 9, 14, 15, 16, 17, 18, 19, 20, 21, 22, 23, 2, 28, 29, 30, 31, 32, 33, 34, 35, 36, 37] (by decide +kernel) (by decide +kernel)) (goodIn_sub (fun _ h => List.mem_cons_of_mem _ (List.mem_append_right _ h)) (by decide +kernel))
set_option maxRecDepth 20000 in
theorem gX1_told_X1_greatest : GoodIn wsX1_told (wsV RX1 87 RX1 yX1_greatest wsX1_greatest) := goodIn_app (goodIn_of _ (by decide +kernel)) ggX1_told_X1_greatest
theorem dX1_told_0 : decode cX1_told 0 = .ok (.aload_n 0, 1) := by decide +kernel
theorem dX1_told_1 : decode cX1_told 1 = .ok (.iload_n 1, 1) := by decide +kernel
theorem dX1_told_2 : decode cX1_told 2 = .ok (.ifCond .lt 9, 3) := by decide +kernel
theorem dX1_told_5 : decode cX1_told 5 = .ok (.iload_n 1, 1) := by decide +kernel
theorem dX1_told_6 : decode cX1_told 6 = .ok (.bipush 6, 2) := by decide +kernel
theorem dX1_told_8 : decode cX1_told 8 = .ok (.if_icmp .le 7, 3) := by decide +kernel
theorem dX1_told_11 : decode cX1_told 11 = .ok (.iconst 1, 1) := by decide +kernel
theorem dX1_told_12 : decode cX1_told 12 = .ok (.goto 4, 3) := by decide +kernel
theorem dX1_told_15 : decode cX1_told 15 = .ok (.iconst 0, 1) := by decide +kernel
theorem dX1_told_16 : decode cX1_told 16 = .ok (.putfield 33, 3) := by decide +kernel
theorem dX1_told_19 : decode cX1_told 19 = .ok (.aload_n 0, 1) := by decide +kernel
theorem dX1_told_20 : decode cX1_told 20 = .ok (.getfield 33, 3) := by decide +kernel
theorem dX1_told_23 : decode cX1_told 23 = .ok (.ifCond .le 5, 3) := by decide +kernel
theorem dX1_told_26 : decode cX1_told 26 = .ok (.iconst 0, 1) := by decide +kernel
theorem dX1_told_27 : decode cX1_told 27 = .ok (.ireturn, 1) := by decide +kernel
theorem dX1_told_28 : decode cX1_told 28 = .ok (.iconst 0, 1) := by decide +kernel
theorem dX1_told_29 : decode cX1_told 29 = .ok (.istore_n 2, 1) := by decide +kernel
theorem dX1_told_30 : decode cX1_told 30 = .ok (.iconst 0, 1) := by decide +kernel
theorem dX1_told_31 : decode cX1_told 31 = .ok (.istore_n 3, 1) := by decide +kernel
theorem dX1_told_32 : decode cX1_told 32 = .ok (.iload_n 3, 1) := by decide +kernel
theorem dX1_told_33 : decode cX1_told 33 = .ok (.bipush 48, 2) := by decide +kernel
theorem dX1_told_35 : decode cX1_told 35 = .ok (.if_icmp .ge 45, 3) := by decide +kernel
theorem dX1_told_38 : decode cX1_told 38 = .ok (.aload_n 0, 1) := by decide +kernel
theorem dX1_told_39 : decode cX1_told 39 = .ok (.getfield 7, 3) := by decide +kernel
theorem dX1_told_42 : decode cX1_told 42 = .ok (.iload_n 3, 1) := by decide +kernel
theorem dX1_told_43 : decode cX1_told 43 = .ok (.baload, 1) := by decide +kernel
theorem dX1_told_44 : decode cX1_told 44 = .ok (.ifCond .eq 28, 3) := by decide +kernel
theorem dX1_told_47 : decode cX1_told 47 = .ok (.iload_n 1, 1) := by decide +kernel
theorem dX1_told_48 : decode cX1_told 48 = .ok (.iconst 3, 1) := by decide +kernel
theorem dX1_told_49 : decode cX1_told 49 = .ok (.if_icmp .eq 17, 3) := by decide +kernel
theorem dX1_told_52 : decode cX1_told 52 = .ok (.iload_n 1, 1) := by decide +kernel
theorem dX1_told_53 : decode cX1_told 53 = .ok (.iconst 4, 1) := by decide +kernel
theorem dX1_told_54 : decode cX1_told 54 = .ok (.if_icmp .ne 18, 3) := by decide +kernel
theorem dX1_told_57 : decode cX1_told 57 = .ok (.aload_n 0, 1) := by decide +kernel
theorem dX1_told_58 : decode cX1_told 58 = .ok (.getfield 17, 3) := by decide +kernel
theorem dX1_told_61 : decode cX1_told 61 = .ok (.iload_n 3, 1) := by decide +kernel
theorem dX1_told_62 : decode cX1_told 62 = .ok (.iaload, 1) := by decide +kernel
theorem dX1_told_63 : decode cX1_told 63 = .ok (.ifCond .ne 9, 3) := by decide +kernel
theorem dX1_told_66 : decode cX1_told 66 = .ok (.iload_n 2, 1) := by decide +kernel
theorem dX1_told_67 : decode cX1_told 67 = .ok (.iconst 1, 1) := by decide +kernel
theorem dX1_told_68 : decode cX1_told 68 = .ok (.iadd, 1) := by decide +kernel
theorem dX1_told_69 : decode cX1_told 69 = .ok (.goto 4, 3) := by decide +kernel
theorem dX1_told_72 : decode cX1_told 72 = .ok (.iload_n 2, 1) := by decide +kernel
theorem dX1_told_73 : decode cX1_told 73 = .ok (.istore_n 2, 1) := by decide +kernel
theorem dX1_told_74 : decode cX1_told 74 = .ok (.iinc 3 1, 3) := by decide +kernel
theorem dX1_told_77 : decode cX1_told 77 = .ok (.goto (-45), 3) := by decide +kernel
theorem dX1_told_80 : decode cX1_told 80 = .ok (.iload_n 1, 1) := by decide +kernel
theorem dX1_told_81 : decode cX1_told 81 = .ok (.ifCond .ne 11, 3) := by decide +kernel
theorem dX1_told_84 : decode cX1_told 84 = .ok (.aload_n 0, 1) := by decide +kernel
theorem dX1_told_85 : decode cX1_told 85 = .ok (.iconst 0, 1) := by decide +kernel
theorem dX1_told_86 : decode cX1_told 86 = .ok (.invokevirtual 91, 3) := by decide +kernel
theorem dX1_told_89 : decode cX1_told 89 = .ok (.goto 53, 3) := by decide +kernel
theorem dX1_told_92 : decode cX1_told 92 = .ok (.iload_n 1, 1) := by decide +kernel
theorem dX1_told_93 : decode cX1_told 93 = .ok (.iconst 1, 1) := by decide +kernel
theorem dX1_told_94 : decode cX1_told 94 = .ok (.if_icmp .ne 10, 3) := by decide +kernel
theorem dX1_told_97 : decode cX1_told 97 = .ok (.aload_n 0, 1) := by decide +kernel
theorem dX1_told_98 : decode cX1_told 98 = .ok (.invokevirtual 87, 3) := by decide +kernel
theorem dX1_told_101 : decode cX1_told 101 = .ok (.goto 41, 3) := by decide +kernel
theorem dX1_told_104 : decode cX1_told 104 = .ok (.iload_n 1, 1) := by decide +kernel
theorem dX1_told_105 : decode cX1_told 105 = .ok (.iconst 2, 1) := by decide +kernel
theorem dX1_told_106 : decode cX1_told 106 = .ok (.if_icmp .ne 11, 3) := by decide +kernel
theorem dX1_told_109 : decode cX1_told 109 = .ok (.aload_n 0, 1) := by decide +kernel
theorem dX1_told_110 : decode cX1_told 110 = .ok (.iconst 1, 1) := by decide +kernel
theorem dX1_told_111 : decode cX1_told 111 = .ok (.invokevirtual 91, 3) := by decide +kernel
theorem dX1_told_114 : decode cX1_told 114 = .ok (.goto 28, 3) := by decide +kernel
theorem dX1_told_117 : decode cX1_told 117 = .ok (.iload_n 1, 1) := by decide +kernel
theorem dX1_told_118 : decode cX1_told 118 = .ok (.iconst 5, 1) := by decide +kernel
theorem dX1_told_119 : decode cX1_told 119 = .ok (.if_icmp .ge 7, 3) := by decide +kernel
theorem dX1_told_122 : decode cX1_told 122 = .ok (.iload_n 2, 1) := by decide +kernel
theorem dX1_told_123 : decode cX1_told 123 = .ok (.goto 19, 3) := by decide +kernel
theorem dX1_told_126 : decode cX1_told 126 = .ok (.iload_n 1, 1) := by decide +kernel
theorem dX1_told_127 : decode cX1_told 127 = .ok (.iconst 5, 1) := by decide +kernel
theorem dX1_told_128 : decode cX1_told 128 = .ok (.if_icmp .ne 10, 3) := by decide +kernel
theorem dX1_told_131 : decode cX1_told 131 = .ok (.aload_n 0, 1) := by decide +kernel
theorem dX1_told_132 : decode cX1_told 132 = .ok (.getfield 51, 3) := by decide +kernel
theorem dX1_told_135 : decode cX1_told 135 = .ok (.goto 7, 3) := by decide +kernel
theorem dX1_told_138 : decode cX1_told 138 = .ok (.aload_n 0, 1) := by decide +kernel
theorem dX1_told_139 : decode cX1_told 139 = .ok (.getfield 54, 3) := by decide +kernel
theorem dX1_told_142 : decode cX1_told 142 = .ok (.ireturn, 1) := by decide +kernel
