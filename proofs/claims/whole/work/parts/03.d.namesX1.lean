theorem dX1_init_0 : decode cX1_init 0 = .ok (.aload_n 0, 1) := by decide +kernel
theorem dX1_init_1 : decode cX1_init 1 = .ok (.invokespecial 1, 3) := by decide +kernel
theorem dX1_init_4 : decode cX1_init 4 = .ok (.aload_n 0, 1) := by decide +kernel
theorem dX1_init_5 : decode cX1_init 5 = .ok (.bipush 48, 2) := by decide +kernel
theorem dX1_init_7 : decode cX1_init 7 = .ok (.newarray .boolean, 2) := by decide +kernel
theorem dX1_init_9 : decode cX1_init 9 = .ok (.putfield 7, 3) := by decide +kernel
theorem dX1_init_12 : decode cX1_init 12 = .ok (.aload_n 0, 1) := by decide +kernel
theorem dX1_init_13 : decode cX1_init 13 = .ok (.bipush 48, 2) := by decide +kernel
theorem dX1_init_15 : decode cX1_init 15 = .ok (.newarray .int, 2) := by decide +kernel
theorem dX1_init_17 : decode cX1_init 17 = .ok (.putfield 13, 3) := by decide +kernel
theorem dX1_init_20 : decode cX1_init 20 = .ok (.aload_n 0, 1) := by decide +kernel
theorem dX1_init_21 : decode cX1_init 21 = .ok (.bipush 48, 2) := by decide +kernel
theorem dX1_init_23 : decode cX1_init 23 = .ok (.newarray .int, 2) := by decide +kernel
theorem dX1_init_25 : decode cX1_init 25 = .ok (.putfield 17, 3) := by decide +kernel
theorem dX1_init_28 : decode cX1_init 28 = .ok (.aload_n 0, 1) := by decide +kernel
theorem dX1_init_29 : decode cX1_init 29 = .ok (.bipush 48, 2) := by decide +kernel
theorem dX1_init_31 : decode cX1_init 31 = .ok (.newarray .boolean, 2) := by decide +kernel
theorem dX1_init_33 : decode cX1_init 33 = .ok (.putfield 20, 3) := by decide +kernel
theorem dX1_init_36 : decode cX1_init 36 = .ok (.aload_n 0, 1) := by decide +kernel
theorem dX1_init_37 : decode cX1_init 37 = .ok (.bipush 48, 2) := by decide +kernel
theorem dX1_init_39 : decode cX1_init 39 = .ok (.newarray .boolean, 2) := by decide +kernel
theorem dX1_init_41 : decode cX1_init 41 = .ok (.putfield 23, 3) := by decide +kernel
theorem dX1_init_44 : decode cX1_init 44 = .ok (.aload_n 0, 1) := by decide +kernel
theorem dX1_init_45 : decode cX1_init 45 = .ok (.bipush 48, 2) := by decide +kernel
theorem dX1_init_47 : decode cX1_init 47 = .ok (.newarray .boolean, 2) := by decide +kernel
theorem dX1_init_49 : decode cX1_init 49 = .ok (.putfield 26, 3) := by decide +kernel
theorem dX1_init_52 : decode cX1_init 52 = .ok (.aload_n 0, 1) := by decide +kernel
theorem dX1_init_53 : decode cX1_init 53 = .ok (.ldc 29, 2) := by decide +kernel
theorem dX1_init_55 : decode cX1_init 55 = .ok (.newarray .int, 2) := by decide +kernel
theorem dX1_init_57 : decode cX1_init 57 = .ok (.putfield 30, 3) := by decide +kernel
theorem dX1_init_60 : decode cX1_init 60 = .ok (.return_, 1) := by decide +kernel
theorem dX1_thrown_0 : decode cX1_thrown 0 = .ok (.aload_n 0, 1) := by decide +kernel
theorem dX1_thrown_1 : decode cX1_thrown 1 = .ok (.getfield 33, 3) := by decide +kernel
theorem dX1_thrown_4 : decode cX1_thrown 4 = .ok (.ireturn, 1) := by decide +kernel
theorem dX1_has_0 : decode cX1_has 0 = .ok (.aload_n 0, 1) := by decide +kernel
theorem dX1_has_1 : decode cX1_has 1 = .ok (.getfield 7, 3) := by decide +kernel
theorem dX1_has_4 : decode cX1_has 4 = .ok (.iload_n 1, 1) := by decide +kernel
theorem dX1_has_5 : decode cX1_has 5 = .ok (.baload, 1) := by decide +kernel
theorem dX1_has_6 : decode cX1_has 6 = .ok (.ifCond .eq 16, 3) := by decide +kernel
theorem dX1_has_9 : decode cX1_has 9 = .ok (.aload_n 0, 1) := by decide +kernel
theorem dX1_has_10 : decode cX1_has 10 = .ok (.getfield 17, 3) := by decide +kernel
theorem dX1_has_13 : decode cX1_has 13 = .ok (.iload_n 1, 1) := by decide +kernel
theorem dX1_has_14 : decode cX1_has 14 = .ok (.iaload, 1) := by decide +kernel
theorem dX1_has_15 : decode cX1_has 15 = .ok (.ifCond .le 7, 3) := by decide +kernel
theorem dX1_has_18 : decode cX1_has 18 = .ok (.iconst 1, 1) := by decide +kernel
theorem dX1_has_19 : decode cX1_has 19 = .ok (.goto 4, 3) := by decide +kernel
theorem dX1_has_22 : decode cX1_has 22 = .ok (.iconst 0, 1) := by decide +kernel
theorem dX1_has_23 : decode cX1_has 23 = .ok (.ireturn, 1) := by decide +kernel
set_option maxRecDepth 20000 in
theorem ggX1_isMovable_X1_has : GoodIn wsX1_isMovable wsX1_has := goodIn_ca (goodIn_r _ [7, 8, 9, 10, 11, 12, 13, 14, 15, 16, 17, 18, 19] (by decide +kernel) (by decide +kernel)) (goodIn_sub (fun _ h => List.mem_cons_of_mem _ (List.mem_append_right _ h)) (by decide +kernel))
set_option maxRecDepth 20000 in
theorem gX1_isMovable_X1_has : GoodIn wsX1_isMovable (wsV RX1 37 RX1 yX1_has wsX1_has) := goodIn_app (goodIn_of _ (by decide +kernel)) ggX1_isMovable_X1_has
theorem dX1_isMovable_0 : decode cX1_isMovable 0 = .ok (.aload_n 0, 1) := by decide +kernel
theorem dX1_isMovable_1 : decode cX1_isMovable 1 = .ok (.iload_n 1, 1) := by decide +kernel
theorem dX1_isMovable_2 : decode cX1_isMovable 2 = .ok (.invokevirtual 37, 3) := by decide +kernel
theorem dX1_isMovable_5 : decode cX1_isMovable 5 = .ok (.ifCond .eq 25, 3) := by decide +kernel
theorem dX1_isMovable_8 : decode cX1_isMovable 8 = .ok (.aload_n 0, 1) := by decide +kernel
theorem dX1_isMovable_9 : decode cX1_isMovable 9 = .ok (.getfield 20, 3) := by decide +kernel
theorem dX1_isMovable_12 : decode cX1_isMovable 12 = .ok (.iload_n 1, 1) := by decide +kernel
theorem dX1_isMovable_13 : decode cX1_isMovable 13 = .ok (.baload, 1) := by decide +kernel
theorem dX1_isMovable_14 : decode cX1_isMovable 14 = .ok (.ifCond .ne 16, 3) := by decide +kernel
theorem dX1_isMovable_17 : decode cX1_isMovable 17 = .ok (.aload_n 0, 1) := by decide +kernel
theorem dX1_isMovable_18 : decode cX1_isMovable 18 = .ok (.getfield 23, 3) := by decide +kernel
theorem dX1_isMovable_21 : decode cX1_isMovable 21 = .ok (.iload_n 1, 1) := by decide +kernel
theorem dX1_isMovable_22 : decode cX1_isMovable 22 = .ok (.baload, 1) := by decide +kernel
theorem dX1_isMovable_23 : decode cX1_isMovable 23 = .ok (.ifCond .ne 7, 3) := by decide +kernel
theorem dX1_isMovable_26 : decode cX1_isMovable 26 = .ok (.iconst 1, 1) := by decide +kernel
theorem dX1_isMovable_27 : decode cX1_isMovable 27 = .ok (.goto 4, 3) := by decide +kernel
theorem dX1_isMovable_30 : decode cX1_isMovable 30 = .ok (.iconst 0, 1) := by decide +kernel
theorem dX1_isMovable_31 : decode cX1_isMovable 31 = .ok (.ireturn, 1) := by decide +kernel
set_option maxRecDepth 20000 in
theorem ggX1_firstFrom_X1_has : GoodIn wsX1_firstFrom wsX1_has := goodIn_ca (goodIn_r _ [6, 7, 8, 9, 10, 11, 12, 13, 14, 15, 16, 17, 18] (by decide +kernel) (by decide +kernel)) (goodIn_sub (fun _ h => List.mem_cons_of_mem _ (List.mem_append_right _ h)) (by decide +kernel))
set_option maxRecDepth 20000 in
theorem gX1_firstFrom_X1_has : GoodIn wsX1_firstFrom (wsV RX1 37 RX1 yX1_has wsX1_has) := goodIn_app (goodIn_of _ (by decide +kernel)) ggX1_firstFrom_X1_has
theorem dX1_firstFrom_0 : decode cX1_firstFrom 0 = .ok (.iconst (-1), 1) := by decide +kernel
theorem dX1_firstFrom_1 : decode cX1_firstFrom 1 = .ok (.istore_n 2, 1) := by decide +kernel
theorem dX1_firstFrom_2 : decode cX1_firstFrom 2 = .ok (.iconst 0, 1) := by decide +kernel
theorem dX1_firstFrom_3 : decode cX1_firstFrom 3 = .ok (.istore_n 3, 1) := by decide +kernel
theorem dX1_firstFrom_4 : decode cX1_firstFrom 4 = .ok (.iload_n 3, 1) := by decide +kernel
theorem dX1_firstFrom_5 : decode cX1_firstFrom 5 = .ok (.bipush 48, 2) := by decide +kernel
theorem dX1_firstFrom_7 : decode cX1_firstFrom 7 = .ok (.if_icmp .ge 48, 3) := by decide +kernel
theorem dX1_firstFrom_10 : decode cX1_firstFrom 10 = .ok (.aload_n 0, 1) := by decide +kernel
theorem dX1_firstFrom_11 : decode cX1_firstFrom 11 = .ok (.iload_n 3, 1) := by decide +kernel
theorem dX1_firstFrom_12 : decode cX1_firstFrom 12 = .ok (.invokevirtual 37, 3) := by decide +kernel
theorem dX1_firstFrom_15 : decode cX1_firstFrom 15 = .ok (.ifCond .eq 34, 3) := by decide +kernel
theorem dX1_firstFrom_18 : decode cX1_firstFrom 18 = .ok (.aload_n 0, 1) := by decide +kernel
theorem dX1_firstFrom_19 : decode cX1_firstFrom 19 = .ok (.getfield 13, 3) := by decide +kernel
theorem dX1_firstFrom_22 : decode cX1_firstFrom 22 = .ok (.iload_n 3, 1) := by decide +kernel
theorem dX1_firstFrom_23 : decode cX1_firstFrom 23 = .ok (.iaload, 1) := by decide +kernel
theorem dX1_firstFrom_24 : decode cX1_firstFrom 24 = .ok (.iload_n 1, 1) := by decide +kernel
theorem dX1_firstFrom_25 : decode cX1_firstFrom 25 = .ok (.if_icmp .lt 24, 3) := by decide +kernel
theorem dX1_firstFrom_28 : decode cX1_firstFrom 28 = .ok (.iload_n 2, 1) := by decide +kernel
theorem dX1_firstFrom_29 : decode cX1_firstFrom 29 = .ok (.ifCond .lt 18, 3) := by decide +kernel
theorem dX1_firstFrom_32 : decode cX1_firstFrom 32 = .ok (.aload_n 0, 1) := by decide +kernel
theorem dX1_firstFrom_33 : decode cX1_firstFrom 33 = .ok (.getfield 13, 3) := by decide +kernel
theorem dX1_firstFrom_36 : decode cX1_firstFrom 36 = .ok (.iload_n 3, 1) := by decide +kernel
theorem dX1_firstFrom_37 : decode cX1_firstFrom 37 = .ok (.iaload, 1) := by decide +kernel
theorem dX1_firstFrom_38 : decode cX1_firstFrom 38 = .ok (.aload_n 0, 1) := by decide +kernel
theorem dX1_firstFrom_39 : decode cX1_firstFrom 39 = .ok (.getfield 13, 3) := by decide +kernel
theorem dX1_firstFrom_42 : decode cX1_firstFrom 42 = .ok (.iload_n 2, 1) := by decide +kernel
theorem dX1_firstFrom_43 : decode cX1_firstFrom 43 = .ok (.iaload, 1) := by decide +kernel
theorem dX1_firstFrom_44 : decode cX1_firstFrom 44 = .ok (.if_icmp .ge 5, 3) := by decide +kernel
theorem dX1_firstFrom_47 : decode cX1_firstFrom 47 = .ok (.iload_n 3, 1) := by decide +kernel
theorem dX1_firstFrom_48 : decode cX1_firstFrom 48 = .ok (.istore_n 2, 1) := by decide +kernel
theorem dX1_firstFrom_49 : decode cX1_firstFrom 49 = .ok (.iinc 3 1, 3) := by decide +kernel
theorem dX1_firstFrom_52 : decode cX1_firstFrom 52 = .ok (.goto (-48), 3) := by decide +kernel
theorem dX1_firstFrom_55 : decode cX1_firstFrom 55 = .ok (.iload_n 2, 1) := by decide +kernel
theorem dX1_firstFrom_56 : decode cX1_firstFrom 56 = .ok (.ireturn, 1) := by decide +kernel
set_option maxRecDepth 20000 in
theorem ggX1_freeTo_X1_firstFrom : GoodIn wsX1_freeTo wsX1_firstFrom := goodIn_ca (goodIn_r _ [6, 1, 7, 8, 9, 5, 10, 11, 12, 13, 14, 15, 16, 17, 18, 19, 20, 21, 22] (by decide +kernel) (by decide +kernel)) (goodIn_sub (fun _ h => List.mem_cons_of_mem _ (List.mem_append_right _ h)) (by decide +kernel))
set_option maxRecDepth 20000 in
theorem gX1_freeTo_X1_firstFrom : GoodIn wsX1_freeTo (wsV RX1 41 RX1 yX1_firstFrom wsX1_firstFrom) := goodIn_app (goodIn_of _ (by decide +kernel)) ggX1_freeTo_X1_firstFrom
theorem dX1_freeTo_0 : decode cX1_freeTo 0 = .ok (.aload_n 0, 1) := by decide +kernel
theorem dX1_freeTo_1 : decode cX1_freeTo 1 = .ok (.iload_n 1, 1) := by decide +kernel
theorem dX1_freeTo_2 : decode cX1_freeTo 2 = .ok (.invokevirtual 41, 3) := by decide +kernel
theorem dX1_freeTo_5 : decode cX1_freeTo 5 = .ok (.istore_n 2, 1) := by decide +kernel
theorem dX1_freeTo_6 : decode cX1_freeTo 6 = .ok (.iload_n 2, 1) := by decide +kernel
theorem dX1_freeTo_7 : decode cX1_freeTo 7 = .ok (.ifCond .ge 9, 3) := by decide +kernel
theorem dX1_freeTo_10 : decode cX1_freeTo 10 = .ok (.sipush 1024, 3) := by decide +kernel
theorem dX1_freeTo_13 : decode cX1_freeTo 13 = .ok (.goto 9, 3) := by decide +kernel
theorem dX1_freeTo_16 : decode cX1_freeTo 16 = .ok (.aload_n 0, 1) := by decide +kernel
theorem dX1_freeTo_17 : decode cX1_freeTo 17 = .ok (.getfield 13, 3) := by decide +kernel
theorem dX1_freeTo_20 : decode cX1_freeTo 20 = .ok (.iload_n 2, 1) := by decide +kernel
theorem dX1_freeTo_21 : decode cX1_freeTo 21 = .ok (.iaload, 1) := by decide +kernel
theorem dX1_freeTo_22 : decode cX1_freeTo 22 = .ok (.ireturn, 1) := by decide +kernel
set_option maxRecDepth 20000 in
theorem ggX1_place_X1_freeTo : GoodIn wsX1_place wsX1_freeTo := goodIn_ca (goodIn_r _ [6, 7, 8, 9, 10, 5, 11, 12, 13, 14, 15, 16, 1, 17, 18, 19, 20, 21, 22, 23, 24, 25, 26] (by decide +kernel) (by decide +kernel)) (goodIn_sub (fun _ h => List.mem_cons_of_mem _ (List.mem_append_right _ h)) (by decide +kernel))
set_option maxRecDepth 20000 in
theorem gX1_place_X1_freeTo : GoodIn wsX1_place (wsV RX1 45 RX1 yX1_freeTo wsX1_freeTo) := goodIn_app (goodIn_of _ (by decide +kernel)) ggX1_place_X1_freeTo
set_option maxRecDepth 20000 in
theorem ggX1_place_X1_firstFrom : GoodIn wsX1_place wsX1_firstFrom := goodIn_ca (goodIn_r _ [11, 7, 12, 13, 14, 5, 15, 16, 1, 17, 18, 19, 20, 21, 22, 23, 24, 25, 26] (by decide +kernel) (by decide +kernel)) (goodIn_sub (fun _ h => List.mem_cons_of_mem _ (List.mem_append_right _ h)) (by decide +kernel))
set_option maxRecDepth 20000 in
theorem gX1_place_X1_firstFrom : GoodIn wsX1_place (wsV RX1 41 RX1 yX1_firstFrom wsX1_firstFrom) := goodIn_app (goodIn_of _ (by decide +kernel)) ggX1_place_X1_firstFrom
theorem dX1_place_0 : decode cX1_place 0 = .ok (.iconst 0, 1) := by decide +kernel
theorem dX1_place_1 : decode cX1_place 1 = .ok (.istore_n 2, 1) := by decide +kernel
theorem dX1_place_2 : decode cX1_place 2 = .ok (.iload_n 2, 1) := by decide +kernel
theorem dX1_place_3 : decode cX1_place 3 = .ok (.sipush 1024, 3) := by decide +kernel
theorem dX1_place_6 : decode cX1_place 6 = .ok (.if_icmp .ge 52, 3) := by decide +kernel
theorem dX1_place_9 : decode cX1_place 9 = .ok (.aload_n 0, 1) := by decide +kernel
theorem dX1_place_10 : decode cX1_place 10 = .ok (.iload_n 2, 1) := by decide +kernel
theorem dX1_place_11 : decode cX1_place 11 = .ok (.invokevirtual 45, 3) := by decide +kernel
theorem dX1_place_14 : decode cX1_place 14 = .ok (.istore_n 3, 1) := by decide +kernel
theorem dX1_place_15 : decode cX1_place 15 = .ok (.iload_n 3, 1) := by decide +kernel
theorem dX1_place_16 : decode cX1_place 16 = .ok (.iload_n 2, 1) := by decide +kernel
theorem dX1_place_17 : decode cX1_place 17 = .ok (.isub, 1) := by decide +kernel
theorem dX1_place_18 : decode cX1_place 18 = .ok (.iload_n 1, 1) := by decide +kernel
theorem dX1_place_19 : decode cX1_place 19 = .ok (.if_icmp .lt 10, 3) := by decide +kernel
theorem dX1_place_22 : decode cX1_place 22 = .ok (.iload_n 3, 1) := by decide +kernel
theorem dX1_place_23 : decode cX1_place 23 = .ok (.iload_n 2, 1) := by decide +kernel
theorem dX1_place_24 : decode cX1_place 24 = .ok (.if_icmp .le 5, 3) := by decide +kernel
theorem dX1_place_27 : decode cX1_place 27 = .ok (.iload_n 2, 1) := by decide +kernel
theorem dX1_place_28 : decode cX1_place 28 = .ok (.ireturn, 1) := by decide +kernel
theorem dX1_place_29 : decode cX1_place 29 = .ok (.iload_n 3, 1) := by decide +kernel
theorem dX1_place_30 : decode cX1_place 30 = .ok (.sipush 1024, 3) := by decide +kernel
theorem dX1_place_33 : decode cX1_place 33 = .ok (.if_icmp .ne 9, 3) := by decide +kernel
theorem dX1_place_36 : decode cX1_place 36 = .ok (.sipush 1024, 3) := by decide +kernel
theorem dX1_place_39 : decode cX1_place 39 = .ok (.goto 15, 3) := by decide +kernel
theorem dX1_place_42 : decode cX1_place 42 = .ok (.iload_n 3, 1) := by decide +kernel
theorem dX1_place_43 : decode cX1_place 43 = .ok (.aload_n 0, 1) := by decide +kernel
theorem dX1_place_44 : decode cX1_place 44 = .ok (.getfield 17, 3) := by decide +kernel
theorem dX1_place_47 : decode cX1_place 47 = .ok (.aload_n 0, 1) := by decide +kernel
theorem dX1_place_48 : decode cX1_place 48 = .ok (.iload_n 3, 1) := by decide +kernel
theorem dX1_place_49 : decode cX1_place 49 = .ok (.invokevirtual 41, 3) := by decide +kernel
theorem dX1_place_52 : decode cX1_place 52 = .ok (.iaload, 1) := by decide +kernel
theorem dX1_place_53 : decode cX1_place 53 = .ok (.iadd, 1) := by decide +kernel
theorem dX1_place_54 : decode cX1_place 54 = .ok (.istore_n 2, 1) := by decide +kernel
theorem dX1_place_55 : decode cX1_place 55 = .ok (.goto (-53), 3) := by decide +kernel
theorem dX1_place_58 : decode cX1_place 58 = .ok (.iconst (-1), 1) := by decide +kernel
theorem dX1_place_59 : decode cX1_place 59 = .ok (.ireturn, 1) := by decide +kernel
set_option maxRecDepth 20000 in
theorem ggX1_greatest_X1_freeTo : GoodIn wsX1_greatest wsX1_freeTo := goodIn_ca (goodIn_r _ [6, 7, 8, 9, 10, 5, 11, 12, 13, 14, 15, 16, 1, 17, 18, 19, 20, 21, 22, 23, 24, 25, 26] (by decide +kernel) (by decide +kernel)) (goodIn_sub (fun _ h => List.mem_cons_of_mem _ (List.mem_append_right _ h)) (by decide +kernel))
set_option maxRecDepth 20000 in
theorem gX1_greatest_X1_freeTo : GoodIn wsX1_greatest (wsV RX1 45 RX1 yX1_freeTo wsX1_freeTo) := goodIn_app (goodIn_of _ (by decide +kernel)) ggX1_greatest_X1_freeTo
set_option maxRecDepth 20000 in
theorem ggX1_greatest_X1_firstFrom : GoodIn wsX1_greatest wsX1_firstFrom := goodIn_ca (goodIn_r _ [11, 7, 12, 13, 14, 5, 15, 16, 1, 17, 18, 19, 20, 21, 22, 23, 24, 25, 26] (by decide +kernel) (by decide +kernel)) (goodIn_sub (fun _ h => List.mem_cons_of_mem _ (List.mem_append_right _ h)) (by decide +kernel))
set_option maxRecDepth 20000 in
theorem gX1_greatest_X1_firstFrom : GoodIn wsX1_greatest (wsV RX1 41 RX1 yX1_firstFrom wsX1_firstFrom) := goodIn_app (goodIn_of _ (by decide +kernel)) ggX1_greatest_X1_firstFrom
theorem dX1_greatest_0 : decode cX1_greatest 0 = .ok (.iconst 0, 1) := by decide +kernel
theorem dX1_greatest_1 : decode cX1_greatest 1 = .ok (.istore_n 1, 1) := by decide +kernel
theorem dX1_greatest_2 : decode cX1_greatest 2 = .ok (.iconst 0, 1) := by decide +kernel
theorem dX1_greatest_3 : decode cX1_greatest 3 = .ok (.istore_n 2, 1) := by decide +kernel
theorem dX1_greatest_4 : decode cX1_greatest 4 = .ok (.iload_n 2, 1) := by decide +kernel
theorem dX1_greatest_5 : decode cX1_greatest 5 = .ok (.sipush 1024, 3) := by decide +kernel
theorem dX1_greatest_8 : decode cX1_greatest 8 = .ok (.if_icmp .ge 53, 3) := by decide +kernel
theorem dX1_greatest_11 : decode cX1_greatest 11 = .ok (.aload_n 0, 1) := by decide +kernel
theorem dX1_greatest_12 : decode cX1_greatest 12 = .ok (.iload_n 2, 1) := by decide +kernel
theorem dX1_greatest_13 : decode cX1_greatest 13 = .ok (.invokevirtual 45, 3) := by decide +kernel
theorem dX1_greatest_16 : decode cX1_greatest 16 = .ok (.istore_n 3, 1) := by decide +kernel
theorem dX1_greatest_17 : decode cX1_greatest 17 = .ok (.iload_n 3, 1) := by decide +kernel
theorem dX1_greatest_18 : decode cX1_greatest 18 = .ok (.iload_n 2, 1) := by decide +kernel
theorem dX1_greatest_19 : decode cX1_greatest 19 = .ok (.isub, 1) := by decide +kernel
theorem dX1_greatest_20 : decode cX1_greatest 20 = .ok (.iload_n 1, 1) := by decide +kernel
theorem dX1_greatest_21 : decode cX1_greatest 21 = .ok (.if_icmp .le 9, 3) := by decide +kernel
theorem dX1_greatest_24 : decode cX1_greatest 24 = .ok (.iload_n 3, 1) := by decide +kernel
theorem dX1_greatest_25 : decode cX1_greatest 25 = .ok (.iload_n 2, 1) := by decide +kernel
theorem dX1_greatest_26 : decode cX1_greatest 26 = .ok (.isub, 1) := by decide +kernel
theorem dX1_greatest_27 : decode cX1_greatest 27 = .ok (.goto 4, 3) := by decide +kernel
theorem dX1_greatest_30 : decode cX1_greatest 30 = .ok (.iload_n 1, 1) := by decide +kernel
theorem dX1_greatest_31 : decode cX1_greatest 31 = .ok (.istore_n 1, 1) := by decide +kernel
theorem dX1_greatest_32 : decode cX1_greatest 32 = .ok (.iload_n 3, 1) := by decide +kernel
theorem dX1_greatest_33 : decode cX1_greatest 33 = .ok (.sipush 1024, 3) := by decide +kernel
theorem dX1_greatest_36 : decode cX1_greatest 36 = .ok (.if_icmp .ne 9, 3) := by decide +kernel
theorem dX1_greatest_39 : decode cX1_greatest 39 = .ok (.sipush 1024, 3) := by decide +kernel
theorem dX1_greatest_42 : decode cX1_greatest 42 = .ok (.goto 15, 3) := by decide +kernel
theorem dX1_greatest_45 : decode cX1_greatest 45 = .ok (.iload_n 3, 1) := by decide +kernel
theorem dX1_greatest_46 : decode cX1_greatest 46 = .ok (.aload_n 0, 1) := by decide +kernel
theorem dX1_greatest_47 : decode cX1_greatest 47 = .ok (.getfield 17, 3) := by decide +kernel
theorem dX1_greatest_50 : decode cX1_greatest 50 = .ok (.aload_n 0, 1) := by decide +kernel
theorem dX1_greatest_51 : decode cX1_greatest 51 = .ok (.iload_n 3, 1) := by decide +kernel
theorem dX1_greatest_52 : decode cX1_greatest 52 = .ok (.invokevirtual 41, 3) := by decide +kernel
theorem dX1_greatest_55 : decode cX1_greatest 55 = .ok (.iaload, 1) := by decide +kernel
theorem dX1_greatest_56 : decode cX1_greatest 56 = .ok (.iadd, 1) := by decide +kernel
theorem dX1_greatest_57 : decode cX1_greatest 57 = .ok (.istore_n 2, 1) := by decide +kernel
theorem dX1_greatest_58 : decode cX1_greatest 58 = .ok (.goto (-54), 3) := by decide +kernel
theorem dX1_greatest_61 : decode cX1_greatest 61 = .ok (.iload_n 1, 1) := by decide +kernel
theorem dX1_greatest_62 : decode cX1_greatest 62 = .ok (.ireturn, 1) := by decide +kernel
set_option maxRecDepth 20000 in
theorem ggX1_slideAll_X1_firstFrom : GoodIn wsX1_slideAll wsX1_firstFrom := goodIn_ca (goodIn_r _ [8, 1, 9, 10, 11, 7, 12, 13, 3, 20, 21, 22, 23, 24, 25, 26, 27, 28, 29] (by decide +kernel) (by decide +kernel)) (goodIn_sub (fun _ h => List.mem_cons_of_mem _ (List.mem_append_right _ h)) (by decide +kernel))
set_option maxRecDepth 20000 in
theorem gX1_slideAll_X1_firstFrom : GoodIn wsX1_slideAll (wsV RX1 41 RX1 yX1_firstFrom wsX1_firstFrom) := goodIn_app (goodIn_of _ (by decide +kernel)) ggX1_slideAll_X1_firstFrom
set_option maxRecDepth 20000 in
theorem ggX1_slideAll_X1_isMovable : GoodIn wsX1_slideAll wsX1_isMovable := goodIn_ca (goodIn_r _ [17, 18, 19, 9, 10, 11, 7, 12, 13, 3, 20, 21, 22, 23, 24, 25, 26, 27, 28, 29] (by decide +kernel) (by decide +kernel)) (goodIn_sub (fun _ h => List.mem_cons_of_mem _ (List.mem_append_right _ h)) (by decide +kernel))
set_option maxRecDepth 20000 in
theorem gX1_slideAll_X1_isMovable : GoodIn wsX1_slideAll (wsV RX1 48 RX1 yX1_isMovable wsX1_isMovable) := goodIn_app (goodIn_of _ (by decide +kernel)) ggX1_slideAll_X1_isMovable
theorem dX1_slideAll_0 : decode cX1_slideAll 0 = .ok (.iconst 0, 1) := by decide +kernel
theorem dX1_slideAll_1 : decode cX1_slideAll 1 = .ok (.istore_n 1, 1) := by decide +kernel
theorem dX1_slideAll_2 : decode cX1_slideAll 2 = .ok (.aload_n 0, 1) := by decide +kernel
theorem dX1_slideAll_3 : decode cX1_slideAll 3 = .ok (.iconst 0, 1) := by decide +kernel
theorem dX1_slideAll_4 : decode cX1_slideAll 4 = .ok (.invokevirtual 41, 3) := by decide +kernel
theorem dX1_slideAll_7 : decode cX1_slideAll 7 = .ok (.istore_n 2, 1) := by decide +kernel
theorem dX1_slideAll_8 : decode cX1_slideAll 8 = .ok (.iload_n 2, 1) := by decide +kernel
theorem dX1_slideAll_9 : decode cX1_slideAll 9 = .ok (.ifCond .lt 66, 3) := by decide +kernel
theorem dX1_slideAll_12 : decode cX1_slideAll 12 = .ok (.aload_n 0, 1) := by decide +kernel
theorem dX1_slideAll_13 : decode cX1_slideAll 13 = .ok (.iload_n 2, 1) := by decide +kernel
theorem dX1_slideAll_14 : decode cX1_slideAll 14 = .ok (.invokevirtual 48, 3) := by decide +kernel
theorem dX1_slideAll_17 : decode cX1_slideAll 17 = .ok (.ifCond .eq 35, 3) := by decide +kernel
theorem dX1_slideAll_20 : decode cX1_slideAll 20 = .ok (.aload_n 0, 1) := by decide +kernel
theorem dX1_slideAll_21 : decode cX1_slideAll 21 = .ok (.getfield 13, 3) := by decide +kernel
theorem dX1_slideAll_24 : decode cX1_slideAll 24 = .ok (.iload_n 2, 1) := by decide +kernel
theorem dX1_slideAll_25 : decode cX1_slideAll 25 = .ok (.iaload, 1) := by decide +kernel
theorem dX1_slideAll_26 : decode cX1_slideAll 26 = .ok (.iload_n 1, 1) := by decide +kernel
theorem dX1_slideAll_27 : decode cX1_slideAll 27 = .ok (.if_icmp .le 25, 3) := by decide +kernel
theorem dX1_slideAll_30 : decode cX1_slideAll 30 = .ok (.aload_n 0, 1) := by decide +kernel
theorem dX1_slideAll_31 : decode cX1_slideAll 31 = .ok (.getfield 13, 3) := by decide +kernel
theorem dX1_slideAll_34 : decode cX1_slideAll 34 = .ok (.iload_n 2, 1) := by decide +kernel
theorem dX1_slideAll_35 : decode cX1_slideAll 35 = .ok (.iload_n 1, 1) := by decide +kernel
theorem dX1_slideAll_36 : decode cX1_slideAll 36 = .ok (.iastore, 1) := by decide +kernel
theorem dX1_slideAll_37 : decode cX1_slideAll 37 = .ok (.aload_n 0, 1) := by decide +kernel
theorem dX1_slideAll_38 : decode cX1_slideAll 38 = .ok (.aload_n 0, 1) := by decide +kernel
theorem dX1_slideAll_39 : decode cX1_slideAll 39 = .ok (.getfield 51, 3) := by decide +kernel
theorem dX1_slideAll_42 : decode cX1_slideAll 42 = .ok (.aload_n 0, 1) := by decide +kernel
theorem dX1_slideAll_43 : decode cX1_slideAll 43 = .ok (.getfield 17, 3) := by decide +kernel
theorem dX1_slideAll_46 : decode cX1_slideAll 46 = .ok (.iload_n 2, 1) := by decide +kernel
theorem dX1_slideAll_47 : decode cX1_slideAll 47 = .ok (.iaload, 1) := by decide +kernel
theorem dX1_slideAll_48 : decode cX1_slideAll 48 = .ok (.iadd, 1) := by decide +kernel
theorem dX1_slideAll_49 : decode cX1_slideAll 49 = .ok (.putfield 51, 3) := by decide +kernel
theorem dX1_slideAll_52 : decode cX1_slideAll 52 = .ok (.aload_n 0, 1) := by decide +kernel
theorem dX1_slideAll_53 : decode cX1_slideAll 53 = .ok (.getfield 13, 3) := by decide +kernel
theorem dX1_slideAll_56 : decode cX1_slideAll 56 = .ok (.iload_n 2, 1) := by decide +kernel
theorem dX1_slideAll_57 : decode cX1_slideAll 57 = .ok (.iaload, 1) := by decide +kernel
theorem dX1_slideAll_58 : decode cX1_slideAll 58 = .ok (.aload_n 0, 1) := by decide +kernel
theorem dX1_slideAll_59 : decode cX1_slideAll 59 = .ok (.getfield 17, 3) := by decide +kernel
theorem dX1_slideAll_62 : decode cX1_slideAll 62 = .ok (.iload_n 2, 1) := by decide +kernel
theorem dX1_slideAll_63 : decode cX1_slideAll 63 = .ok (.iaload, 1) := by decide +kernel
theorem dX1_slideAll_64 : decode cX1_slideAll 64 = .ok (.iadd, 1) := by decide +kernel
theorem dX1_slideAll_65 : decode cX1_slideAll 65 = .ok (.istore_n 1, 1) := by decide +kernel
theorem dX1_slideAll_66 : decode cX1_slideAll 66 = .ok (.aload_n 0, 1) := by decide +kernel
theorem dX1_slideAll_67 : decode cX1_slideAll 67 = .ok (.iload_n 1, 1) := by decide +kernel
theorem dX1_slideAll_68 : decode cX1_slideAll 68 = .ok (.invokevirtual 41, 3) := by decide +kernel
theorem dX1_slideAll_71 : decode cX1_slideAll 71 = .ok (.istore_n 2, 1) := by decide +kernel
theorem dX1_slideAll_72 : decode cX1_slideAll 72 = .ok (.goto (-64), 3) := by decide +kernel
theorem dX1_slideAll_75 : decode cX1_slideAll 75 = .ok (.return_, 1) := by decide +kernel
theorem dX1_loseOne_0 : decode cX1_loseOne 0 = .ok (.aload_n 0, 1) := by decide +kernel
theorem dX1_loseOne_1 : decode cX1_loseOne 1 = .ok (.getfield 17, 3) := by decide +kernel
theorem dX1_loseOne_4 : decode cX1_loseOne 4 = .ok (.iload_n 1, 1) := by decide +kernel
theorem dX1_loseOne_5 : decode cX1_loseOne 5 = .ok (.iconst 0, 1) := by decide +kernel
theorem dX1_loseOne_6 : decode cX1_loseOne 6 = .ok (.iastore, 1) := by decide +kernel
theorem dX1_loseOne_7 : decode cX1_loseOne 7 = .ok (.aload_n 0, 1) := by decide +kernel
theorem dX1_loseOne_8 : decode cX1_loseOne 8 = .ok (.dup, 1) := by decide +kernel
theorem dX1_loseOne_9 : decode cX1_loseOne 9 = .ok (.getfield 54, 3) := by decide +kernel
theorem dX1_loseOne_12 : decode cX1_loseOne 12 = .ok (.iconst 1, 1) := by decide +kernel
theorem dX1_loseOne_13 : decode cX1_loseOne 13 = .ok (.iadd, 1) := by decide +kernel
theorem dX1_loseOne_14 : decode cX1_loseOne 14 = .ok (.putfield 54, 3) := by decide +kernel
theorem dX1_loseOne_17 : decode cX1_loseOne 17 = .ok (.return_, 1) := by decide +kernel
set_option maxRecDepth 20000 in
theorem ggX1_firstToLose_X1_isMovable : GoodIn wsX1_firstToLose wsX1_isMovable := goodIn_ca (goodIn_r _ [7, 8, 9, 10, 11, 12, 6, 13, 14, 15, 16, 17, 18, 19, 20, 21, 22, 23, 24, 25] (by decide +kernel) (by decide +kernel)) (goodIn_sub (fun _ h => List.mem_cons_of_mem _ (List.mem_append_right _ h)) (by decide +kernel))
set_option maxRecDepth 20000 in
theorem gX1_firstToLose_X1_isMovable : GoodIn wsX1_firstToLose (wsV RX1 48 RX1 yX1_isMovable wsX1_isMovable) := goodIn_app (goodIn_of _ (by decide +kernel)) ggX1_firstToLose_X1_isMovable
theorem dX1_firstToLose_0 : decode cX1_firstToLose 0 = .ok (.iconst (-1), 1) := by decide +kernel
theorem dX1_firstToLose_1 : decode cX1_firstToLose 1 = .ok (.istore_n 2, 1) := by decide +kernel
theorem dX1_firstToLose_2 : decode cX1_firstToLose 2 = .ok (.iconst 0, 1) := by decide +kernel
theorem dX1_firstToLose_3 : decode cX1_firstToLose 3 = .ok (.istore_n 3, 1) := by decide +kernel
theorem dX1_firstToLose_4 : decode cX1_firstToLose 4 = .ok (.iload_n 3, 1) := by decide +kernel
theorem dX1_firstToLose_5 : decode cX1_firstToLose 5 = .ok (.bipush 48, 2) := by decide +kernel
theorem dX1_firstToLose_7 : decode cX1_firstToLose 7 = .ok (.if_icmp .ge 52, 3) := by decide +kernel
theorem dX1_firstToLose_10 : decode cX1_firstToLose 10 = .ok (.iload_n 3, 1) := by decide +kernel
theorem dX1_firstToLose_11 : decode cX1_firstToLose 11 = .ok (.iload_n 1, 1) := by decide +kernel
theorem dX1_firstToLose_12 : decode cX1_firstToLose 12 = .ok (.if_icmp .eq 41, 3) := by decide +kernel
theorem dX1_firstToLose_15 : decode cX1_firstToLose 15 = .ok (.aload_n 0, 1) := by decide +kernel
theorem dX1_firstToLose_16 : decode cX1_firstToLose 16 = .ok (.iload_n 3, 1) := by decide +kernel
theorem dX1_firstToLose_17 : decode cX1_firstToLose 17 = .ok (.invokevirtual 48, 3) := by decide +kernel
theorem dX1_firstToLose_20 : decode cX1_firstToLose 20 = .ok (.ifCond .eq 33, 3) := by decide +kernel
theorem dX1_firstToLose_23 : decode cX1_firstToLose 23 = .ok (.aload_n 0, 1) := by decide +kernel
theorem dX1_firstToLose_24 : decode cX1_firstToLose 24 = .ok (.getfield 26, 3) := by decide +kernel
theorem dX1_firstToLose_27 : decode cX1_firstToLose 27 = .ok (.iload_n 3, 1) := by decide +kernel
theorem dX1_firstToLose_28 : decode cX1_firstToLose 28 = .ok (.baload, 1) := by decide +kernel
theorem dX1_firstToLose_29 : decode cX1_firstToLose 29 = .ok (.ifCond .eq 24, 3) := by decide +kernel
theorem dX1_firstToLose_32 : decode cX1_firstToLose 32 = .ok (.iload_n 2, 1) := by decide +kernel
theorem dX1_firstToLose_33 : decode cX1_firstToLose 33 = .ok (.ifCond .lt 18, 3) := by decide +kernel
theorem dX1_firstToLose_36 : decode cX1_firstToLose 36 = .ok (.aload_n 0, 1) := by decide +kernel
theorem dX1_firstToLose_37 : decode cX1_firstToLose 37 = .ok (.getfield 13, 3) := by decide +kernel
theorem dX1_firstToLose_40 : decode cX1_firstToLose 40 = .ok (.iload_n 3, 1) := by decide +kernel
theorem dX1_firstToLose_41 : decode cX1_firstToLose 41 = .ok (.iaload, 1) := by decide +kernel
theorem dX1_firstToLose_42 : decode cX1_firstToLose 42 = .ok (.aload_n 0, 1) := by decide +kernel
theorem dX1_firstToLose_43 : decode cX1_firstToLose 43 = .ok (.getfield 13, 3) := by decide +kernel
theorem dX1_firstToLose_46 : decode cX1_firstToLose 46 = .ok (.iload_n 2, 1) := by decide +kernel
theorem dX1_firstToLose_47 : decode cX1_firstToLose 47 = .ok (.iaload, 1) := by decide +kernel
theorem dX1_firstToLose_48 : decode cX1_firstToLose 48 = .ok (.if_icmp .ge 5, 3) := by decide +kernel
theorem dX1_firstToLose_51 : decode cX1_firstToLose 51 = .ok (.iload_n 3, 1) := by decide +kernel
theorem dX1_firstToLose_52 : decode cX1_firstToLose 52 = .ok (.istore_n 2, 1) := by decide +kernel
theorem dX1_firstToLose_53 : decode cX1_firstToLose 53 = .ok (.iinc 3 1, 3) := by decide +kernel
theorem dX1_firstToLose_56 : decode cX1_firstToLose 56 = .ok (.goto (-52), 3) := by decide +kernel
theorem dX1_firstToLose_59 : decode cX1_firstToLose 59 = .ok (.iload_n 2, 1) := by decide +kernel
theorem dX1_firstToLose_60 : decode cX1_firstToLose 60 = .ok (.ireturn, 1) := by decide +kernel
set_option maxRecDepth 20000 in
theorem ggX1_room_X1_place : GoodIn wsX1_room wsX1_place := goodIn_ca (goodIn_r _ [5, 6, 7, 8, 9, 4, 10, 11, 12, 13, 14, 15, 16, 17, 18, 19, 20, 42, 43, 44, 45, 46, 47, 48, 49, 50, 51] (by decide +kernel) (by decide +kernel)) (goodIn_sub (fun _ h => List.mem_cons_of_mem _ (List.mem_append_right _ h)) (by decide +kernel))
set_option maxRecDepth 20000 in
theorem gX1_room_X1_place : GoodIn wsX1_room (wsV RX1 57 RX1 yX1_place wsX1_place) := goodIn_app (goodIn_of _ (by decide +kernel)) ggX1_room_X1_place
set_option maxRecDepth 20000 in
theorem ggX1_room_X1_slideAll : GoodIn wsX1_room wsX1_slideAll := goodIn_ca (goodIn_r _ [24, 11, 25, 6, 12, 13, 14, 4, 15, 16, 17, 18, 19, 20, 26, 27, 28, 29, 30, 31, 42, 43, 44, 45, 46, 47, 48, 49, 50, 51] (by decide +kernel) (by decide +kernel)) (goodIn_sub (fun _ h => List.mem_cons_of_mem _ (List.mem_append_right _ h)) (by decide +kernel))
set_option maxRecDepth 20000 in
theorem gX1_room_X1_slideAll : GoodIn wsX1_room (wsV RX1 60 RX1 yX1_slideAll wsX1_slideAll) := goodIn_app (goodIn_of _ (by decide +kernel)) ggX1_room_X1_slideAll
set_option maxRecDepth 20000 in
theorem ggX1_room_X1_firstToLose : GoodIn wsX1_room wsX1_firstToLose := goodIn_ca (goodIn_r _ [35, 36, 11, 26, 27, 28, 4, 29, 30, 31, 16, 17, 18, 19, 20, 6, 42, 43, 44, 45, 46, 47, 48, 49, 50, 51] (by decide +kernel) (by decide +kernel)) (goodIn_sub (fun _ h => List.mem_cons_of_mem _ (List.mem_append_right _ h)) (by decide +kernel))
set_option maxRecDepth 20000 in
theorem gX1_room_X1_firstToLose : GoodIn wsX1_room (wsV RX1 63 RX1 yX1_firstToLose wsX1_firstToLose) := goodIn_app (goodIn_of _ (by decide +kernel)) ggX1_room_X1_firstToLose
set_option maxRecDepth 20000 in
theorem ggX1_room_X1_loseOne : GoodIn wsX1_room wsX1_loseOne := goodIn_ca (goodIn_r _ [40, 6, 41, 42, 43, 44, 45, 46, 47, 48, 49, 50, 51] (by decide +kernel) (by decide +kernel)) (goodIn_sub (fun _ h => List.mem_cons_of_mem _ (List.mem_append_right _ h)) (by decide +kernel))
set_option maxRecDepth 20000 in
theorem gX1_room_X1_loseOne : GoodIn wsX1_room (wsV RX1 66 RX1 yX1_loseOne wsX1_loseOne) := goodIn_app (goodIn_of _ (by decide +kernel)) ggX1_room_X1_loseOne
theorem dX1_room_0 : decode cX1_room 0 = .ok (.aload_n 0, 1) := by decide +kernel
theorem dX1_room_1 : decode cX1_room 1 = .ok (.iload_n 1, 1) := by decide +kernel
theorem dX1_room_2 : decode cX1_room 2 = .ok (.invokevirtual 57, 3) := by decide +kernel
theorem dX1_room_5 : decode cX1_room 5 = .ok (.istore_n 3, 1) := by decide +kernel
theorem dX1_room_6 : decode cX1_room 6 = .ok (.iload_n 3, 1) := by decide +kernel
theorem dX1_room_7 : decode cX1_room 7 = .ok (.ifCond .lt 5, 3) := by decide +kernel
theorem dX1_room_10 : decode cX1_room 10 = .ok (.iload_n 3, 1) := by decide +kernel
theorem dX1_room_11 : decode cX1_room 11 = .ok (.ireturn, 1) := by decide +kernel
theorem dX1_room_12 : decode cX1_room 12 = .ok (.aload_n 0, 1) := by decide +kernel
theorem dX1_room_13 : decode cX1_room 13 = .ok (.invokevirtual 60, 3) := by decide +kernel
theorem dX1_room_16 : decode cX1_room 16 = .ok (.aload_n 0, 1) := by decide +kernel
theorem dX1_room_17 : decode cX1_room 17 = .ok (.iload_n 1, 1) := by decide +kernel
theorem dX1_room_18 : decode cX1_room 18 = .ok (.invokevirtual 57, 3) := by decide +kernel
theorem dX1_room_21 : decode cX1_room 21 = .ok (.istore_n 3, 1) := by decide +kernel
theorem dX1_room_22 : decode cX1_room 22 = .ok (.iload_n 3, 1) := by decide +kernel
theorem dX1_room_23 : decode cX1_room 23 = .ok (.ifCond .ge 36, 3) := by decide +kernel
theorem dX1_room_26 : decode cX1_room 26 = .ok (.aload_n 0, 1) := by decide +kernel
theorem dX1_room_27 : decode cX1_room 27 = .ok (.iload_n 2, 1) := by decide +kernel
theorem dX1_room_28 : decode cX1_room 28 = .ok (.invokevirtual 63, 3) := by decide +kernel
theorem dX1_room_31 : decode cX1_room 31 = .ok (.istore 4, 2) := by decide +kernel
theorem dX1_room_33 : decode cX1_room 33 = .ok (.iload 4, 2) := by decide +kernel
theorem dX1_room_35 : decode cX1_room 35 = .ok (.ifCond .ge 5, 3) := by decide +kernel
theorem dX1_room_38 : decode cX1_room 38 = .ok (.iconst (-1), 1) := by decide +kernel
theorem dX1_room_39 : decode cX1_room 39 = .ok (.ireturn, 1) := by decide +kernel
theorem dX1_room_40 : decode cX1_room 40 = .ok (.aload_n 0, 1) := by decide +kernel
theorem dX1_room_41 : decode cX1_room 41 = .ok (.iload 4, 2) := by decide +kernel
theorem dX1_room_43 : decode cX1_room 43 = .ok (.invokevirtual 66, 3) := by decide +kernel
theorem dX1_room_46 : decode cX1_room 46 = .ok (.aload_n 0, 1) := by decide +kernel
theorem dX1_room_47 : decode cX1_room 47 = .ok (.invokevirtual 60, 3) := by decide +kernel
theorem dX1_room_50 : decode cX1_room 50 = .ok (.aload_n 0, 1) := by decide +kernel
theorem dX1_room_51 : decode cX1_room 51 = .ok (.iload_n 1, 1) := by decide +kernel
theorem dX1_room_52 : decode cX1_room 52 = .ok (.invokevirtual 57, 3) := by decide +kernel
theorem dX1_room_55 : decode cX1_room 55 = .ok (.istore_n 3, 1) := by decide +kernel
theorem dX1_room_56 : decode cX1_room 56 = .ok (.goto (-34), 3) := by decide +kernel
theorem dX1_room_59 : decode cX1_room 59 = .ok (.iload_n 3, 1) := by decide +kernel
theorem dX1_room_60 : decode cX1_room 60 = .ok (.ireturn, 1) := by decide +kernel
theorem dX1_noSize_0 : decode cX1_noSize 0 = .ok (.iload_n 0, 1) := by decide +kernel
theorem dX1_noSize_1 : decode cX1_noSize 1 = .ok (.iconst 1, 1) := by decide +kernel
theorem dX1_noSize_2 : decode cX1_noSize 2 = .ok (.if_icmp .lt 10, 3) := by decide +kernel
theorem dX1_noSize_5 : decode cX1_noSize 5 = .ok (.iload_n 0, 1) := by decide +kernel
theorem dX1_noSize_6 : decode cX1_noSize 6 = .ok (.sipush 1024, 3) := by decide +kernel
theorem dX1_noSize_9 : decode cX1_noSize 9 = .ok (.if_icmp .le 7, 3) := by decide +kernel
theorem dX1_noSize_12 : decode cX1_noSize 12 = .ok (.iconst 1, 1) := by decide +kernel
theorem dX1_noSize_13 : decode cX1_noSize 13 = .ok (.goto 4, 3) := by decide +kernel
theorem dX1_noSize_16 : decode cX1_noSize 16 = .ok (.iconst 0, 1) := by decide +kernel
theorem dX1_noSize_17 : decode cX1_noSize 17 = .ok (.ireturn, 1) := by decide +kernel
theorem dX1_notUsed_0 : decode cX1_notUsed 0 = .ok (.iload_n 1, 1) := by decide +kernel
theorem dX1_notUsed_1 : decode cX1_notUsed 1 = .ok (.ifCond .lt 18, 3) := by decide +kernel
theorem dX1_notUsed_4 : decode cX1_notUsed 4 = .ok (.iload_n 1, 1) := by decide +kernel
theorem dX1_notUsed_5 : decode cX1_notUsed 5 = .ok (.bipush 48, 2) := by decide +kernel
theorem dX1_notUsed_7 : decode cX1_notUsed 7 = .ok (.if_icmp .ge 12, 3) := by decide +kernel
theorem dX1_notUsed_10 : decode cX1_notUsed 10 = .ok (.aload_n 0, 1) := by decide +kernel
theorem dX1_notUsed_11 : decode cX1_notUsed 11 = .ok (.getfield 7, 3) := by decide +kernel
theorem dX1_notUsed_14 : decode cX1_notUsed 14 = .ok (.iload_n 1, 1) := by decide +kernel
theorem dX1_notUsed_15 : decode cX1_notUsed 15 = .ok (.baload, 1) := by decide +kernel
theorem dX1_notUsed_16 : decode cX1_notUsed 16 = .ok (.ifCond .ne 7, 3) := by decide +kernel
theorem dX1_notUsed_19 : decode cX1_notUsed 19 = .ok (.iconst 1, 1) := by decide +kernel
theorem dX1_notUsed_20 : decode cX1_notUsed 20 = .ok (.goto 4, 3) := by decide +kernel
theorem dX1_notUsed_23 : decode cX1_notUsed 23 = .ok (.iconst 0, 1) := by decide +kernel
theorem dX1_notUsed_24 : decode cX1_notUsed 24 = .ok (.ireturn, 1) := by decide +kernel
theorem dX1_become_0 : decode cX1_become 0 = .ok (.aload_n 0, 1) := by decide +kernel
theorem dX1_become_1 : decode cX1_become 1 = .ok (.getfield 13, 3) := by decide +kernel
theorem dX1_become_4 : decode cX1_become 4 = .ok (.iload_n 1, 1) := by decide +kernel
theorem dX1_become_5 : decode cX1_become 5 = .ok (.iload_n 2, 1) := by decide +kernel
theorem dX1_become_6 : decode cX1_become 6 = .ok (.iastore, 1) := by decide +kernel
theorem dX1_become_7 : decode cX1_become 7 = .ok (.aload_n 0, 1) := by decide +kernel
theorem dX1_become_8 : decode cX1_become 8 = .ok (.getfield 17, 3) := by decide +kernel
theorem dX1_become_11 : decode cX1_become 11 = .ok (.iload_n 1, 1) := by decide +kernel
theorem dX1_become_12 : decode cX1_become 12 = .ok (.iload_n 3, 1) := by decide +kernel
theorem dX1_become_13 : decode cX1_become 13 = .ok (.iastore, 1) := by decide +kernel
theorem dX1_become_14 : decode cX1_become 14 = .ok (.iconst 0, 1) := by decide +kernel
theorem dX1_become_15 : decode cX1_become 15 = .ok (.istore 4, 2) := by decide +kernel
theorem dX1_become_17 : decode cX1_become 17 = .ok (.iload 4, 2) := by decide +kernel
theorem dX1_become_19 : decode cX1_become 19 = .ok (.iload_n 3, 1) := by decide +kernel
theorem dX1_become_20 : decode cX1_become 20 = .ok (.if_icmp .ge 23, 3) := by decide +kernel
theorem dX1_become_23 : decode cX1_become 23 = .ok (.aload_n 0, 1) := by decide +kernel
theorem dX1_become_24 : decode cX1_become 24 = .ok (.getfield 30, 3) := by decide +kernel
theorem dX1_become_27 : decode cX1_become 27 = .ok (.sipush 1024, 3) := by decide +kernel
theorem dX1_become_30 : decode cX1_become 30 = .ok (.iload_n 1, 1) := by decide +kernel
theorem dX1_become_31 : decode cX1_become 31 = .ok (.imul, 1) := by decide +kernel
theorem dX1_become_32 : decode cX1_become 32 = .ok (.iload 4, 2) := by decide +kernel
theorem dX1_become_34 : decode cX1_become 34 = .ok (.iadd, 1) := by decide +kernel
theorem dX1_become_35 : decode cX1_become 35 = .ok (.iconst 0, 1) := by decide +kernel
theorem dX1_become_36 : decode cX1_become 36 = .ok (.iastore, 1) := by decide +kernel
theorem dX1_become_37 : decode cX1_become 37 = .ok (.iinc 4 1, 3) := by decide +kernel
theorem dX1_become_40 : decode cX1_become 40 = .ok (.goto (-23), 3) := by decide +kernel
theorem dX1_become_43 : decode cX1_become 43 = .ok (.return_, 1) := by decide +kernel
set_option maxRecDepth 20000 in
theorem ggX1_ask_X1_noSize : GoodIn wsX1_ask wsX1_noSize := goodIn_r _ [9] (by decide +kernel) (by decide +kernel)
set_option maxRecDepth 20000 in
theorem gX1_ask_X1_noSize : GoodIn wsX1_ask (va_wsS RX1 70 yX1_noSize wsX1_noSize) := goodIn_app (goodIn_of _ (by decide +kernel)) ggX1_ask_X1_noSize
set_option maxRecDepth 20000 in
theorem ggX1_ask_X1_room : GoodIn wsX1_ask wsX1_room := goodIn_ca (goodIn_r _ [13, 14, 15, 16, 8, 17, 18, 19, 20, 21, 22, 23, 24, 25, 26, 27, 28, 29, 30, 31, 2, 32, 33, 34, 35, 36, 37, 38, 39, 40, 3, 4, 41, 42, 43, 44, 5, 45, 46, 47, 48, 49, 55, 56, 57, 58, 59, 60, 61, 62, 63, 64] (by decide +kernel) (by decide +kernel)) (goodIn_sub (fun _ h => List.mem_cons_of_mem _ (List.mem_append_right _ h)) (by decide +kernel))
set_option maxRecDepth 20000 in
theorem gX1_ask_X1_room : GoodIn wsX1_ask (wsV RX1 73 RX1 yX1_room wsX1_room) := goodIn_app (goodIn_of _ (by decide +kernel)) ggX1_ask_X1_room
set_option maxRecDepth 20000 in
theorem ggX1_ask_X1_become : GoodIn wsX1_ask wsX1_become := goodIn_ca (goodIn_r _ [53, 23, 18, 54, 55, 56, 57, 58, 59, 60, 61, 62, 63, 64] (by decide +kernel) (by decide +kernel)) (goodIn_sub (fun _ h => List.mem_cons_of_mem _ (List.mem_append_right _ h)) (by decide +kernel))
set_option maxRecDepth 20000 in
theorem gX1_ask_X1_become : GoodIn wsX1_ask (wsV RX1 77 RX1 yX1_become wsX1_become) := goodIn_app (goodIn_of _ (by decide +kernel)) ggX1_ask_X1_become
theorem dX1_ask_0 : decode cX1_ask 0 = .ok (.aload_n 0, 1) := by decide +kernel
theorem dX1_ask_1 : decode cX1_ask 1 = .ok (.iload_n 1, 1) := by decide +kernel
theorem dX1_ask_2 : decode cX1_ask 2 = .ok (.invokestatic 70, 3) := by decide +kernel
theorem dX1_ask_5 : decode cX1_ask 5 = .ok (.ifCond .eq 7, 3) := by decide +kernel
theorem dX1_ask_8 : decode cX1_ask 8 = .ok (.iconst 1, 1) := by decide +kernel
theorem dX1_ask_9 : decode cX1_ask 9 = .ok (.goto 4, 3) := by decide +kernel
theorem dX1_ask_12 : decode cX1_ask 12 = .ok (.iconst 0, 1) := by decide +kernel
theorem dX1_ask_13 : decode cX1_ask 13 = .ok (.putfield 33, 3) := by decide +kernel
theorem dX1_ask_16 : decode cX1_ask 16 = .ok (.aload_n 0, 1) := by decide +kernel
theorem dX1_ask_17 : decode cX1_ask 17 = .ok (.getfield 33, 3) := by decide +kernel
theorem dX1_ask_20 : decode cX1_ask 20 = .ok (.ifCond .le 5, 3) := by decide +kernel
theorem dX1_ask_23 : decode cX1_ask 23 = .ok (.iconst 0, 1) := by decide +kernel
theorem dX1_ask_24 : decode cX1_ask 24 = .ok (.ireturn, 1) := by decide +kernel
theorem dX1_ask_25 : decode cX1_ask 25 = .ok (.iconst 0, 1) := by decide +kernel
theorem dX1_ask_26 : decode cX1_ask 26 = .ok (.istore_n 3, 1) := by decide +kernel
theorem dX1_ask_27 : decode cX1_ask 27 = .ok (.iload_n 3, 1) := by decide +kernel
theorem dX1_ask_28 : decode cX1_ask 28 = .ok (.bipush 48, 2) := by decide +kernel
theorem dX1_ask_30 : decode cX1_ask 30 = .ok (.if_icmp .ge 18, 3) := by decide +kernel
theorem dX1_ask_33 : decode cX1_ask 33 = .ok (.aload_n 0, 1) := by decide +kernel
theorem dX1_ask_34 : decode cX1_ask 34 = .ok (.getfield 7, 3) := by decide +kernel
theorem dX1_ask_37 : decode cX1_ask 37 = .ok (.iload_n 3, 1) := by decide +kernel
theorem dX1_ask_38 : decode cX1_ask 38 = .ok (.baload, 1) := by decide +kernel
theorem dX1_ask_39 : decode cX1_ask 39 = .ok (.ifCond .eq 9, 3) := by decide +kernel
theorem dX1_ask_42 : decode cX1_ask 42 = .ok (.iinc 3 1, 3) := by decide +kernel
theorem dX1_ask_45 : decode cX1_ask 45 = .ok (.goto (-18), 3) := by decide +kernel
theorem dX1_ask_48 : decode cX1_ask 48 = .ok (.iload_n 3, 1) := by decide +kernel
theorem dX1_ask_49 : decode cX1_ask 49 = .ok (.bipush 48, 2) := by decide +kernel
theorem dX1_ask_51 : decode cX1_ask 51 = .ok (.if_icmp .ne 5, 3) := by decide +kernel
theorem dX1_ask_54 : decode cX1_ask 54 = .ok (.iconst (-1), 1) := by decide +kernel
theorem dX1_ask_55 : decode cX1_ask 55 = .ok (.ireturn, 1) := by decide +kernel
theorem dX1_ask_56 : decode cX1_ask 56 = .ok (.aload_n 0, 1) := by decide +kernel
theorem dX1_ask_57 : decode cX1_ask 57 = .ok (.iload_n 1, 1) := by decide +kernel
theorem dX1_ask_58 : decode cX1_ask 58 = .ok (.iconst (-1), 1) := by decide +kernel
theorem dX1_ask_59 : decode cX1_ask 59 = .ok (.invokevirtual 73, 3) := by decide +kernel
theorem dX1_ask_62 : decode cX1_ask 62 = .ok (.istore 4, 2) := by decide +kernel
theorem dX1_ask_64 : decode cX1_ask 64 = .ok (.iload 4, 2) := by decide +kernel
theorem dX1_ask_66 : decode cX1_ask 66 = .ok (.ifCond .ge 5, 3) := by decide +kernel
theorem dX1_ask_69 : decode cX1_ask 69 = .ok (.iconst (-1), 1) := by decide +kernel
theorem dX1_ask_70 : decode cX1_ask 70 = .ok (.ireturn, 1) := by decide +kernel
theorem dX1_ask_71 : decode cX1_ask 71 = .ok (.aload_n 0, 1) := by decide +kernel
theorem dX1_ask_72 : decode cX1_ask 72 = .ok (.getfield 7, 3) := by decide +kernel
theorem dX1_ask_75 : decode cX1_ask 75 = .ok (.iload_n 3, 1) := by decide +kernel
theorem dX1_ask_76 : decode cX1_ask 76 = .ok (.iconst 1, 1) := by decide +kernel
theorem dX1_ask_77 : decode cX1_ask 77 = .ok (.bastore, 1) := by decide +kernel
theorem dX1_ask_78 : decode cX1_ask 78 = .ok (.aload_n 0, 1) := by decide +kernel
theorem dX1_ask_79 : decode cX1_ask 79 = .ok (.getfield 20, 3) := by decide +kernel
theorem dX1_ask_82 : decode cX1_ask 82 = .ok (.iload_n 3, 1) := by decide +kernel
theorem dX1_ask_83 : decode cX1_ask 83 = .ok (.iload_n 2, 1) := by decide +kernel
theorem dX1_ask_84 : decode cX1_ask 84 = .ok (.bastore, 1) := by decide +kernel
theorem dX1_ask_85 : decode cX1_ask 85 = .ok (.aload_n 0, 1) := by decide +kernel
theorem dX1_ask_86 : decode cX1_ask 86 = .ok (.getfield 23, 3) := by decide +kernel
theorem dX1_ask_89 : decode cX1_ask 89 = .ok (.iload_n 3, 1) := by decide +kernel
theorem dX1_ask_90 : decode cX1_ask 90 = .ok (.iconst 0, 1) := by decide +kernel
theorem dX1_ask_91 : decode cX1_ask 91 = .ok (.bastore, 1) := by decide +kernel
theorem dX1_ask_92 : decode cX1_ask 92 = .ok (.aload_n 0, 1) := by decide +kernel
theorem dX1_ask_93 : decode cX1_ask 93 = .ok (.getfield 26, 3) := by decide +kernel
theorem dX1_ask_96 : decode cX1_ask 96 = .ok (.iload_n 3, 1) := by decide +kernel
theorem dX1_ask_97 : decode cX1_ask 97 = .ok (.iconst 0, 1) := by decide +kernel
theorem dX1_ask_98 : decode cX1_ask 98 = .ok (.bastore, 1) := by decide +kernel
theorem dX1_ask_99 : decode cX1_ask 99 = .ok (.aload_n 0, 1) := by decide +kernel
theorem dX1_ask_100 : decode cX1_ask 100 = .ok (.iload_n 3, 1) := by decide +kernel
theorem dX1_ask_101 : decode cX1_ask 101 = .ok (.iload 4, 2) := by decide +kernel
theorem dX1_ask_103 : decode cX1_ask 103 = .ok (.iload_n 1, 1) := by decide +kernel
theorem dX1_ask_104 : decode cX1_ask 104 = .ok (.invokevirtual 77, 3) := by decide +kernel
theorem dX1_ask_107 : decode cX1_ask 107 = .ok (.iload_n 3, 1) := by decide +kernel
theorem dX1_ask_108 : decode cX1_ask 108 = .ok (.ireturn, 1) := by decide +kernel
set_option maxRecDepth 20000 in
theorem ggX1_drop_X1_notUsed : GoodIn wsX1_drop wsX1_notUsed := goodIn_ca (goodIn_r _ [8, 3, 9, 10, 11, 12, 13, 14, 15, 16, 17, 18] (by decide +kernel) (by decide +kernel)) (goodIn_sub (fun _ h => List.mem_cons_of_mem _ (List.mem_append_right _ h)) (by decide +kernel))
set_option maxRecDepth 20000 in
theorem gX1_drop_X1_notUsed : GoodIn wsX1_drop (wsV RX1 81 RX1 yX1_notUsed wsX1_notUsed) := goodIn_app (goodIn_of _ (by decide +kernel)) ggX1_drop_X1_notUsed
theorem dX1_drop_0 : decode cX1_drop 0 = .ok (.aload_n 0, 1) := by decide +kernel
theorem dX1_drop_1 : decode cX1_drop 1 = .ok (.aload_n 0, 1) := by decide +kernel
theorem dX1_drop_2 : decode cX1_drop 2 = .ok (.iload_n 1, 1) := by decide +kernel
theorem dX1_drop_3 : decode cX1_drop 3 = .ok (.invokevirtual 81, 3) := by decide +kernel
theorem dX1_drop_6 : decode cX1_drop 6 = .ok (.ifCond .eq 7, 3) := by decide +kernel
theorem dX1_drop_9 : decode cX1_drop 9 = .ok (.iconst 1, 1) := by decide +kernel
theorem dX1_drop_10 : decode cX1_drop 10 = .ok (.goto 4, 3) := by decide +kernel
theorem dX1_drop_13 : decode cX1_drop 13 = .ok (.iconst 0, 1) := by decide +kernel
theorem dX1_drop_14 : decode cX1_drop 14 = .ok (.putfield 33, 3) := by decide +kernel
theorem dX1_drop_17 : decode cX1_drop 17 = .ok (.aload_n 0, 1) := by decide +kernel
theorem dX1_drop_18 : decode cX1_drop 18 = .ok (.getfield 33, 3) := by decide +kernel
theorem dX1_drop_21 : decode cX1_drop 21 = .ok (.ifCond .le 5, 3) := by decide +kernel
theorem dX1_drop_24 : decode cX1_drop 24 = .ok (.iconst 0, 1) := by decide +kernel
theorem dX1_drop_25 : decode cX1_drop 25 = .ok (.ireturn, 1) := by decide +kernel
theorem dX1_drop_26 : decode cX1_drop 26 = .ok (.aload_n 0, 1) := by decide +kernel
theorem dX1_drop_27 : decode cX1_drop 27 = .ok (.getfield 17, 3) := by decide +kernel
theorem dX1_drop_30 : decode cX1_drop 30 = .ok (.iload_n 1, 1) := by decide +kernel
theorem dX1_drop_31 : decode cX1_drop 31 = .ok (.iaload, 1) := by decide +kernel
theorem dX1_drop_32 : decode cX1_drop 32 = .ok (.istore_n 2, 1) := by decide +kernel
theorem dX1_drop_33 : decode cX1_drop 33 = .ok (.aload_n 0, 1) := by decide +kernel
theorem dX1_drop_34 : decode cX1_drop 34 = .ok (.getfield 7, 3) := by decide +kernel
theorem dX1_drop_37 : decode cX1_drop 37 = .ok (.iload_n 1, 1) := by decide +kernel
theorem dX1_drop_38 : decode cX1_drop 38 = .ok (.iconst 0, 1) := by decide +kernel
theorem dX1_drop_39 : decode cX1_drop 39 = .ok (.bastore, 1) := by decide +kernel
theorem dX1_drop_40 : decode cX1_drop 40 = .ok (.aload_n 0, 1) := by decide +kernel
theorem dX1_drop_41 : decode cX1_drop 41 = .ok (.getfield 17, 3) := by decide +kernel
theorem dX1_drop_44 : decode cX1_drop 44 = .ok (.iload_n 1, 1) := by decide +kernel
theorem dX1_drop_45 : decode cX1_drop 45 = .ok (.iconst 0, 1) := by decide +kernel
theorem dX1_drop_46 : decode cX1_drop 46 = .ok (.iastore, 1) := by decide +kernel
theorem dX1_drop_47 : decode cX1_drop 47 = .ok (.iload_n 2, 1) := by decide +kernel
theorem dX1_drop_48 : decode cX1_drop 48 = .ok (.ireturn, 1) := by decide +kernel
set_option maxRecDepth 20000 in
theorem ggX1_resize_X1_notUsed : GoodIn wsX1_resize wsX1_notUsed := goodIn_ca (goodIn_r _ [13, 14, 59, 60, 61, 62, 63, 64, 65, 66, 67, 68] (by decide +kernel) (by decide +kernel)) (goodIn_sub (fun _ h => List.mem_cons_of_mem _ (List.mem_append_right _ h)) (by decide +kernel))
set_option maxRecDepth 20000 in
theorem gX1_resize_X1_notUsed : GoodIn wsX1_resize (wsV RX1 81 RX1 yX1_notUsed wsX1_notUsed) := goodIn_app (goodIn_of _ (by decide +kernel)) ggX1_resize_X1_notUsed
set_option maxRecDepth 20000 in
theorem ggX1_resize_X1_noSize : GoodIn wsX1_resize wsX1_noSize := goodIn_r _ [17] (by decide +kernel) (by decide +kernel)
set_option maxRecDepth 20000 in
theorem gX1_resize_X1_noSize : GoodIn wsX1_resize (va_wsS RX1 70 yX1_noSize wsX1_noSize) := goodIn_app (goodIn_of _ (by decide +kernel)) ggX1_resize_X1_noSize
set_option maxRecDepth 20000 in
theorem ggX1_resize_X1_room : GoodIn wsX1_resize wsX1_room := goodIn_ca (goodIn_r _ [21, 22, 23, 24, 12, 25, 2, 26, 27, 28, 29, 6, 30, 31, 32, 33, 34, 35, 36, 37, 14, 38, 39, 40, 41, 7, 42, 43, 44, 45, 3, 4, 46, 47, 48, 49, 5, 50, 51, 52, 53, 54, 59, 60, 61, 62, 63, 64, 65, 66, 67, 68] (by decide +kernel) (by decide +kernel)) (goodIn_sub (fun _ h => List.mem_cons_of_mem _ (List.mem_append_right _ h)) (by decide +kernel))
set_option maxRecDepth 20000 in
theorem gX1_resize_X1_room : GoodIn wsX1_resize (wsV RX1 73 RX1 yX1_room wsX1_room) := goodIn_app (goodIn_of _ (by decide +kernel)) ggX1_resize_X1_room
set_option maxRecDepth 20000 in
theorem ggX1_resize_X1_become : GoodIn wsX1_resize wsX1_become := goodIn_ca (goodIn_r _ [58, 6, 2, 8, 59, 60, 61, 62, 63, 64, 65, 66, 67, 68] (by decide +kernel) (by decide +kernel)) (goodIn_sub (fun _ h => List.mem_cons_of_mem _ (List.mem_append_right _ h)) (by decide +kernel))
set_option maxRecDepth 20000 in
theorem gX1_resize_X1_become : GoodIn wsX1_resize (wsV RX1 77 RX1 yX1_become wsX1_become) := goodIn_app (goodIn_of _ (by decide +kernel)) ggX1_resize_X1_become
set_option maxRecDepth 20000 in
theorem ggX1_resize_X1_freeTo : GoodIn wsX1_resize wsX1_freeTo := goodIn_ca (goodIn_r _ [29, 6, 30, 31, 32, 12, 33, 34, 35, 36, 37, 14, 2, 59, 60, 61, 62, 63, 64, 65, 66, 67, 68] (by decide +kernel) (by decide +kernel)) (goodIn_sub (fun _ h => List.mem_cons_of_mem _ (List.mem_append_right _ h)) (by decide +kernel))
set_option maxRecDepth 20000 in
theorem gX1_resize_X1_freeTo : GoodIn wsX1_resize (wsV RX1 45 RX1 yX1_freeTo wsX1_freeTo) := goodIn_app (goodIn_of _ (by decide +kernel)) ggX1_resize_X1_freeTo
theorem dX1_resize_0 : decode cX1_resize 0 = .ok (.aload_n 0, 1) := by decide +kernel
theorem dX1_resize_1 : decode cX1_resize 1 = .ok (.aload_n 0, 1) := by decide +kernel
theorem dX1_resize_2 : decode cX1_resize 2 = .ok (.iload_n 1, 1) := by decide +kernel
theorem dX1_resize_3 : decode cX1_resize 3 = .ok (.invokevirtual 81, 3) := by decide +kernel
theorem dX1_resize_6 : decode cX1_resize 6 = .ok (.ifCond .ne 10, 3) := by decide +kernel
theorem dX1_resize_9 : decode cX1_resize 9 = .ok (.iload_n 2, 1) := by decide +kernel
theorem dX1_resize_10 : decode cX1_resize 10 = .ok (.invokestatic 70, 3) := by decide +kernel
theorem dX1_resize_13 : decode cX1_resize 13 = .ok (.ifCond .eq 7, 3) := by decide +kernel
theorem dX1_resize_16 : decode cX1_resize 16 = .ok (.iconst 1, 1) := by decide +kernel
theorem dX1_resize_17 : decode cX1_resize 17 = .ok (.goto 4, 3) := by decide +kernel
theorem dX1_resize_20 : decode cX1_resize 20 = .ok (.iconst 0, 1) := by decide +kernel
theorem dX1_resize_21 : decode cX1_resize 21 = .ok (.putfield 33, 3) := by decide +kernel
theorem dX1_resize_24 : decode cX1_resize 24 = .ok (.aload_n 0, 1) := by decide +kernel
theorem dX1_resize_25 : decode cX1_resize 25 = .ok (.getfield 33, 3) := by decide +kernel
theorem dX1_resize_28 : decode cX1_resize 28 = .ok (.ifCond .le 5, 3) := by decide +kernel
theorem dX1_resize_31 : decode cX1_resize 31 = .ok (.iconst 0, 1) := by decide +kernel
theorem dX1_resize_32 : decode cX1_resize 32 = .ok (.ireturn, 1) := by decide +kernel
theorem dX1_resize_33 : decode cX1_resize 33 = .ok (.aload_n 0, 1) := by decide +kernel
theorem dX1_resize_34 : decode cX1_resize 34 = .ok (.getfield 17, 3) := by decide +kernel
theorem dX1_resize_37 : decode cX1_resize 37 = .ok (.iload_n 1, 1) := by decide +kernel
theorem dX1_resize_38 : decode cX1_resize 38 = .ok (.iaload, 1) := by decide +kernel
theorem dX1_resize_39 : decode cX1_resize 39 = .ok (.istore_n 3, 1) := by decide +kernel
theorem dX1_resize_40 : decode cX1_resize 40 = .ok (.iload_n 3, 1) := by decide +kernel
theorem dX1_resize_41 : decode cX1_resize 41 = .ok (.ifCond .ne 56, 3) := by decide +kernel
theorem dX1_resize_44 : decode cX1_resize 44 = .ok (.aload_n 0, 1) := by decide +kernel
theorem dX1_resize_45 : decode cX1_resize 45 = .ok (.iload_n 2, 1) := by decide +kernel
theorem dX1_resize_46 : decode cX1_resize 46 = .ok (.iload_n 1, 1) := by decide +kernel
theorem dX1_resize_47 : decode cX1_resize 47 = .ok (.invokevirtual 73, 3) := by decide +kernel
theorem dX1_resize_50 : decode cX1_resize 50 = .ok (.istore 4, 2) := by decide +kernel
theorem dX1_resize_52 : decode cX1_resize 52 = .ok (.iload 4, 2) := by decide +kernel
theorem dX1_resize_54 : decode cX1_resize 54 = .ok (.ifCond .lt 32, 3) := by decide +kernel
theorem dX1_resize_57 : decode cX1_resize 57 = .ok (.aload_n 0, 1) := by decide +kernel
theorem dX1_resize_58 : decode cX1_resize 58 = .ok (.getfield 20, 3) := by decide +kernel
theorem dX1_resize_61 : decode cX1_resize 61 = .ok (.iload_n 1, 1) := by decide +kernel
theorem dX1_resize_62 : decode cX1_resize 62 = .ok (.iconst 0, 1) := by decide +kernel
theorem dX1_resize_63 : decode cX1_resize 63 = .ok (.bastore, 1) := by decide +kernel
theorem dX1_resize_64 : decode cX1_resize 64 = .ok (.aload_n 0, 1) := by decide +kernel
theorem dX1_resize_65 : decode cX1_resize 65 = .ok (.getfield 23, 3) := by decide +kernel
theorem dX1_resize_68 : decode cX1_resize 68 = .ok (.iload_n 1, 1) := by decide +kernel
theorem dX1_resize_69 : decode cX1_resize 69 = .ok (.iconst 0, 1) := by decide +kernel
theorem dX1_resize_70 : decode cX1_resize 70 = .ok (.bastore, 1) := by decide +kernel
theorem dX1_resize_71 : decode cX1_resize 71 = .ok (.aload_n 0, 1) := by decide +kernel
theorem dX1_resize_72 : decode cX1_resize 72 = .ok (.getfield 26, 3) := by decide +kernel
theorem dX1_resize_75 : decode cX1_resize 75 = .ok (.iload_n 1, 1) := by decide +kernel
theorem dX1_resize_76 : decode cX1_resize 76 = .ok (.iconst 0, 1) := by decide +kernel
theorem dX1_resize_77 : decode cX1_resize 77 = .ok (.bastore, 1) := by decide +kernel
theorem dX1_resize_78 : decode cX1_resize 78 = .ok (.aload_n 0, 1) := by decide +kernel
theorem dX1_resize_79 : decode cX1_resize 79 = .ok (.iload_n 1, 1) := by decide +kernel
theorem dX1_resize_80 : decode cX1_resize 80 = .ok (.iload 4, 2) := by decide +kernel
theorem dX1_resize_82 : decode cX1_resize 82 = .ok (.iload_n 2, 1) := by decide +kernel
theorem dX1_resize_83 : decode cX1_resize 83 = .ok (.invokevirtual 77, 3) := by decide +kernel
theorem dX1_resize_86 : decode cX1_resize 86 = .ok (.iload 4, 2) := by decide +kernel
theorem dX1_resize_88 : decode cX1_resize 88 = .ok (.ifCond .lt 7, 3) := by decide +kernel
theorem dX1_resize_91 : decode cX1_resize 91 = .ok (.iconst 1, 1) := by decide +kernel
theorem dX1_resize_92 : decode cX1_resize 92 = .ok (.goto 4, 3) := by decide +kernel
theorem dX1_resize_95 : decode cX1_resize 95 = .ok (.iconst 0, 1) := by decide +kernel
theorem dX1_resize_96 : decode cX1_resize 96 = .ok (.ireturn, 1) := by decide +kernel
theorem dX1_resize_97 : decode cX1_resize 97 = .ok (.iload_n 2, 1) := by decide +kernel
theorem dX1_resize_98 : decode cX1_resize 98 = .ok (.iload_n 3, 1) := by decide +kernel
theorem dX1_resize_99 : decode cX1_resize 99 = .ok (.if_icmp .le 79, 3) := by decide +kernel
theorem dX1_resize_102 : decode cX1_resize 102 = .ok (.aload_n 0, 1) := by decide +kernel
theorem dX1_resize_103 : decode cX1_resize 103 = .ok (.aload_n 0, 1) := by decide +kernel
theorem dX1_resize_104 : decode cX1_resize 104 = .ok (.getfield 13, 3) := by decide +kernel
theorem dX1_resize_107 : decode cX1_resize 107 = .ok (.iload_n 1, 1) := by decide +kernel
theorem dX1_resize_108 : decode cX1_resize 108 = .ok (.iaload, 1) := by decide +kernel
theorem dX1_resize_109 : decode cX1_resize 109 = .ok (.iload_n 3, 1) := by decide +kernel
theorem dX1_resize_110 : decode cX1_resize 110 = .ok (.iadd, 1) := by decide +kernel
theorem dX1_resize_111 : decode cX1_resize 111 = .ok (.invokevirtual 45, 3) := by decide +kernel
theorem dX1_resize_114 : decode cX1_resize 114 = .ok (.aload_n 0, 1) := by decide +kernel
theorem dX1_resize_115 : decode cX1_resize 115 = .ok (.getfield 13, 3) := by decide +kernel
theorem dX1_resize_118 : decode cX1_resize 118 = .ok (.iload_n 1, 1) := by decide +kernel
theorem dX1_resize_119 : decode cX1_resize 119 = .ok (.iaload, 1) := by decide +kernel
theorem dX1_resize_120 : decode cX1_resize 120 = .ok (.isub, 1) := by decide +kernel
theorem dX1_resize_121 : decode cX1_resize 121 = .ok (.iload_n 2, 1) := by decide +kernel
theorem dX1_resize_122 : decode cX1_resize 122 = .ok (.if_icmp .ge 56, 3) := by decide +kernel
theorem dX1_resize_125 : decode cX1_resize 125 = .ok (.aload_n 0, 1) := by decide +kernel
theorem dX1_resize_126 : decode cX1_resize 126 = .ok (.getfield 20, 3) := by decide +kernel
theorem dX1_resize_129 : decode cX1_resize 129 = .ok (.iload_n 1, 1) := by decide +kernel
theorem dX1_resize_130 : decode cX1_resize 130 = .ok (.baload, 1) := by decide +kernel
theorem dX1_resize_131 : decode cX1_resize 131 = .ok (.ifCond .ne 12, 3) := by decide +kernel
theorem dX1_resize_134 : decode cX1_resize 134 = .ok (.aload_n 0, 1) := by decide +kernel
theorem dX1_resize_135 : decode cX1_resize 135 = .ok (.getfield 23, 3) := by decide +kernel
theorem dX1_resize_138 : decode cX1_resize 138 = .ok (.iload_n 1, 1) := by decide +kernel
theorem dX1_resize_139 : decode cX1_resize 139 = .ok (.baload, 1) := by decide +kernel
theorem dX1_resize_140 : decode cX1_resize 140 = .ok (.ifCond .eq 5, 3) := by decide +kernel
theorem dX1_resize_143 : decode cX1_resize 143 = .ok (.iconst 0, 1) := by decide +kernel
theorem dX1_resize_144 : decode cX1_resize 144 = .ok (.ireturn, 1) := by decide +kernel
theorem dX1_resize_145 : decode cX1_resize 145 = .ok (.aload_n 0, 1) := by decide +kernel
theorem dX1_resize_146 : decode cX1_resize 146 = .ok (.iload_n 2, 1) := by decide +kernel
theorem dX1_resize_147 : decode cX1_resize 147 = .ok (.iload_n 1, 1) := by decide +kernel
theorem dX1_resize_148 : decode cX1_resize 148 = .ok (.invokevirtual 73, 3) := by decide +kernel
theorem dX1_resize_151 : decode cX1_resize 151 = .ok (.istore 4, 2) := by decide +kernel
theorem dX1_resize_153 : decode cX1_resize 153 = .ok (.iload 4, 2) := by decide +kernel
theorem dX1_resize_155 : decode cX1_resize 155 = .ok (.ifCond .ge 5, 3) := by decide +kernel
theorem dX1_resize_158 : decode cX1_resize 158 = .ok (.iconst 0, 1) := by decide +kernel
theorem dX1_resize_159 : decode cX1_resize 159 = .ok (.ireturn, 1) := by decide +kernel
theorem dX1_resize_160 : decode cX1_resize 160 = .ok (.aload_n 0, 1) := by decide +kernel
theorem dX1_resize_161 : decode cX1_resize 161 = .ok (.getfield 13, 3) := by decide +kernel
theorem dX1_resize_164 : decode cX1_resize 164 = .ok (.iload_n 1, 1) := by decide +kernel
theorem dX1_resize_165 : decode cX1_resize 165 = .ok (.iload 4, 2) := by decide +kernel
theorem dX1_resize_167 : decode cX1_resize 167 = .ok (.iastore, 1) := by decide +kernel
theorem dX1_resize_168 : decode cX1_resize 168 = .ok (.aload_n 0, 1) := by decide +kernel
theorem dX1_resize_169 : decode cX1_resize 169 = .ok (.aload_n 0, 1) := by decide +kernel
theorem dX1_resize_170 : decode cX1_resize 170 = .ok (.getfield 51, 3) := by decide +kernel
theorem dX1_resize_173 : decode cX1_resize 173 = .ok (.iload_n 3, 1) := by decide +kernel
theorem dX1_resize_174 : decode cX1_resize 174 = .ok (.iadd, 1) := by decide +kernel
theorem dX1_resize_175 : decode cX1_resize 175 = .ok (.putfield 51, 3) := by decide +kernel
theorem dX1_resize_178 : decode cX1_resize 178 = .ok (.iload_n 3, 1) := by decide +kernel
theorem dX1_resize_179 : decode cX1_resize 179 = .ok (.istore 4, 2) := by decide +kernel
theorem dX1_resize_181 : decode cX1_resize 181 = .ok (.iload 4, 2) := by decide +kernel
theorem dX1_resize_183 : decode cX1_resize 183 = .ok (.iload_n 2, 1) := by decide +kernel
theorem dX1_resize_184 : decode cX1_resize 184 = .ok (.if_icmp .ge 23, 3) := by decide +kernel
theorem dX1_resize_187 : decode cX1_resize 187 = .ok (.aload_n 0, 1) := by decide +kernel
theorem dX1_resize_188 : decode cX1_resize 188 = .ok (.getfield 30, 3) := by decide +kernel
theorem dX1_resize_191 : decode cX1_resize 191 = .ok (.sipush 1024, 3) := by decide +kernel
theorem dX1_resize_194 : decode cX1_resize 194 = .ok (.iload_n 1, 1) := by decide +kernel
theorem dX1_resize_195 : decode cX1_resize 195 = .ok (.imul, 1) := by decide +kernel
theorem dX1_resize_196 : decode cX1_resize 196 = .ok (.iload 4, 2) := by decide +kernel
theorem dX1_resize_198 : decode cX1_resize 198 = .ok (.iadd, 1) := by decide +kernel
theorem dX1_resize_199 : decode cX1_resize 199 = .ok (.iconst 0, 1) := by decide +kernel
theorem dX1_resize_200 : decode cX1_resize 200 = .ok (.iastore, 1) := by decide +kernel
theorem dX1_resize_201 : decode cX1_resize 201 = .ok (.iinc 4 1, 3) := by decide +kernel
theorem dX1_resize_204 : decode cX1_resize 204 = .ok (.goto (-23), 3) := by decide +kernel
theorem dX1_resize_207 : decode cX1_resize 207 = .ok (.aload_n 0, 1) := by decide +kernel
theorem dX1_resize_208 : decode cX1_resize 208 = .ok (.getfield 17, 3) := by decide +kernel
theorem dX1_resize_211 : decode cX1_resize 211 = .ok (.iload_n 1, 1) := by decide +kernel
theorem dX1_resize_212 : decode cX1_resize 212 = .ok (.iload_n 2, 1) := by decide +kernel
theorem dX1_resize_213 : decode cX1_resize 213 = .ok (.iastore, 1) := by decide +kernel
theorem dX1_resize_214 : decode cX1_resize 214 = .ok (.iconst 1, 1) := by decide +kernel
theorem dX1_resize_215 : decode cX1_resize 215 = .ok (.ireturn, 1) := by decide +kernel
set_option maxRecDepth 20000 in
theorem ggX1_notThere_X1_notUsed : GoodIn wsX1_notThere wsX1_notUsed := goodIn_ca (goodIn_r _ [7, 8, 9, 10, 11, 12, 13, 14, 15, 16, 17, 18] (by decide +kernel) (by decide +kernel)) (goodIn_sub (fun _ h => List.mem_cons_of_mem _ (List.mem_append_right _ h)) (by decide +kernel))
set_option maxRecDepth 20000 in
theorem gX1_notThere_X1_notUsed : GoodIn wsX1_notThere (wsV RX1 81 RX1 yX1_notUsed wsX1_notUsed) := goodIn_app (goodIn_of _ (by decide +kernel)) ggX1_notThere_X1_notUsed
theorem dX1_notThere_0 : decode cX1_notThere 0 = .ok (.aload_n 0, 1) := by decide +kernel
theorem dX1_notThere_1 : decode cX1_notThere 1 = .ok (.aload_n 0, 1) := by decide +kernel
theorem dX1_notThere_2 : decode cX1_notThere 2 = .ok (.iload_n 1, 1) := by decide +kernel
theorem dX1_notThere_3 : decode cX1_notThere 3 = .ok (.invokevirtual 81, 3) := by decide +kernel
theorem dX1_notThere_6 : decode cX1_notThere 6 = .ok (.ifCond .eq 7, 3) := by decide +kernel
theorem dX1_notThere_9 : decode cX1_notThere 9 = .ok (.iconst 1, 1) := by decide +kernel
theorem dX1_notThere_10 : decode cX1_notThere 10 = .ok (.goto 17, 3) := by decide +kernel
theorem dX1_notThere_13 : decode cX1_notThere 13 = .ok (.aload_n 0, 1) := by decide +kernel
theorem dX1_notThere_14 : decode cX1_notThere 14 = .ok (.getfield 17, 3) := by decide +kernel
theorem dX1_notThere_17 : decode cX1_notThere 17 = .ok (.iload_n 1, 1) := by decide +kernel
theorem dX1_notThere_18 : decode cX1_notThere 18 = .ok (.iaload, 1) := by decide +kernel
theorem dX1_notThere_19 : decode cX1_notThere 19 = .ok (.ifCond .ne 7, 3) := by decide +kernel
theorem dX1_notThere_22 : decode cX1_notThere 22 = .ok (.iconst 2, 1) := by decide +kernel
theorem dX1_notThere_23 : decode cX1_notThere 23 = .ok (.goto 4, 3) := by decide +kernel
theorem dX1_notThere_26 : decode cX1_notThere 26 = .ok (.iconst 0, 1) := by decide +kernel
theorem dX1_notThere_27 : decode cX1_notThere 27 = .ok (.putfield 33, 3) := by decide +kernel
theorem dX1_notThere_30 : decode cX1_notThere 30 = .ok (.aload_n 0, 1) := by decide +kernel
theorem dX1_notThere_31 : decode cX1_notThere 31 = .ok (.getfield 33, 3) := by decide +kernel
theorem dX1_notThere_34 : decode cX1_notThere 34 = .ok (.ifCond .le 7, 3) := by decide +kernel
theorem dX1_notThere_37 : decode cX1_notThere 37 = .ok (.iconst 1, 1) := by decide +kernel
theorem dX1_notThere_38 : decode cX1_notThere 38 = .ok (.goto 4, 3) := by decide +kernel
theorem dX1_notThere_41 : decode cX1_notThere 41 = .ok (.iconst 0, 1) := by decide +kernel
theorem dX1_notThere_42 : decode cX1_notThere 42 = .ok (.ireturn, 1) := by decide +kernel
set_option maxRecDepth 20000 in
theorem ggX1_lock_X1_notThere : GoodIn wsX1_lock wsX1_notThere := goodIn_ca (goodIn_r _ [6, 7, 8, 9, 10, 11, 5, 12, 13, 14, 15, 16, 17, 18, 19, 20, 21, 22, 23] (by decide +kernel) (by decide +kernel)) (goodIn_sub (fun _ h => List.mem_cons_of_mem _ (List.mem_append_right _ h)) (by decide +kernel))
set_option maxRecDepth 20000 in
theorem gX1_lock_X1_notThere : GoodIn wsX1_lock (wsV RX1 84 RX1 yX1_notThere wsX1_notThere) := goodIn_app (goodIn_of _ (by decide +kernel)) ggX1_lock_X1_notThere
theorem dX1_lock_0 : decode cX1_lock 0 = .ok (.aload_n 0, 1) := by decide +kernel
theorem dX1_lock_1 : decode cX1_lock 1 = .ok (.iload_n 1, 1) := by decide +kernel
theorem dX1_lock_2 : decode cX1_lock 2 = .ok (.invokevirtual 84, 3) := by decide +kernel
theorem dX1_lock_5 : decode cX1_lock 5 = .ok (.ifCond .eq 5, 3) := by decide +kernel
theorem dX1_lock_8 : decode cX1_lock 8 = .ok (.iconst 0, 1) := by decide +kernel
theorem dX1_lock_9 : decode cX1_lock 9 = .ok (.ireturn, 1) := by decide +kernel
theorem dX1_lock_10 : decode cX1_lock 10 = .ok (.aload_n 0, 1) := by decide +kernel
theorem dX1_lock_11 : decode cX1_lock 11 = .ok (.getfield 23, 3) := by decide +kernel
theorem dX1_lock_14 : decode cX1_lock 14 = .ok (.iload_n 1, 1) := by decide +kernel
theorem dX1_lock_15 : decode cX1_lock 15 = .ok (.baload, 1) := by decide +kernel
theorem dX1_lock_16 : decode cX1_lock 16 = .ok (.istore_n 3, 1) := by decide +kernel
theorem dX1_lock_17 : decode cX1_lock 17 = .ok (.aload_n 0, 1) := by decide +kernel
theorem dX1_lock_18 : decode cX1_lock 18 = .ok (.getfield 23, 3) := by decide +kernel
theorem dX1_lock_21 : decode cX1_lock 21 = .ok (.iload_n 1, 1) := by decide +kernel
theorem dX1_lock_22 : decode cX1_lock 22 = .ok (.iload_n 2, 1) := by decide +kernel
theorem dX1_lock_23 : decode cX1_lock 23 = .ok (.bastore, 1) := by decide +kernel
theorem dX1_lock_24 : decode cX1_lock 24 = .ok (.iload_n 3, 1) := by decide +kernel
theorem dX1_lock_25 : decode cX1_lock 25 = .ok (.ireturn, 1) := by decide +kernel
set_option maxRecDepth 20000 in
theorem ggX1_losable_X1_notThere : GoodIn wsX1_losable wsX1_notThere := goodIn_ca (goodIn_r _ [6, 7, 8, 9, 10, 11, 5, 12, 13, 14, 15, 16, 17, 18, 19, 20, 21, 22, 23] (by decide +kernel) (by decide +kernel)) (goodIn_sub (fun _ h => List.mem_cons_of_mem _ (List.mem_append_right _ h)) (by decide +kernel))
set_option maxRecDepth 20000 in
theorem gX1_losable_X1_notThere : GoodIn wsX1_losable (wsV RX1 84 RX1 yX1_notThere wsX1_notThere) := goodIn_app (goodIn_of _ (by decide +kernel)) ggX1_losable_X1_notThere
theorem dX1_losable_0 : decode cX1_losable 0 = .ok (.aload_n 0, 1) := by decide +kernel
theorem dX1_losable_1 : decode cX1_losable 1 = .ok (.iload_n 1, 1) := by decide +kernel
theorem dX1_losable_2 : decode cX1_losable 2 = .ok (.invokevirtual 84, 3) := by decide +kernel
theorem dX1_losable_5 : decode cX1_losable 5 = .ok (.ifCond .eq 5, 3) := by decide +kernel
theorem dX1_losable_8 : decode cX1_losable 8 = .ok (.iconst 0, 1) := by decide +kernel
theorem dX1_losable_9 : decode cX1_losable 9 = .ok (.ireturn, 1) := by decide +kernel
theorem dX1_losable_10 : decode cX1_losable 10 = .ok (.aload_n 0, 1) := by decide +kernel
theorem dX1_losable_11 : decode cX1_losable 11 = .ok (.getfield 26, 3) := by decide +kernel
theorem dX1_losable_14 : decode cX1_losable 14 = .ok (.iload_n 1, 1) := by decide +kernel
