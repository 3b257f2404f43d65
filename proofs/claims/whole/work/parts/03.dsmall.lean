theorem dX0_init_0 : decode cX0_init 0 = .ok (.aload_n 0, 1) := by decide +kernel
theorem dX0_init_1 : decode cX0_init 1 = .ok (.invokespecial 3, 3) := by decide +kernel
theorem dX0_init_4 : decode cX0_init 4 = .ok (.aload_n 0, 1) := by decide +kernel
theorem dX0_init_5 : decode cX0_init 5 = .ok (.bipush 6, 2) := by decide +kernel
theorem dX0_init_7 : decode cX0_init 7 = .ok (.anewarray 9, 3) := by decide +kernel
theorem dX0_init_10 : decode cX0_init 10 = .ok (.putfield 11, 3) := by decide +kernel
theorem dX0_init_13 : decode cX0_init 13 = .ok (.aload_n 0, 1) := by decide +kernel
theorem dX0_init_14 : decode cX0_init 14 = .ok (.bipush 6, 2) := by decide +kernel
theorem dX0_init_16 : decode cX0_init 16 = .ok (.newarray .int, 2) := by decide +kernel
theorem dX0_init_18 : decode cX0_init 18 = .ok (.putfield 17, 3) := by decide +kernel
theorem dX0_init_21 : decode cX0_init 21 = .ok (.aload_n 0, 1) := by decide +kernel
theorem dX0_init_22 : decode cX0_init 22 = .ok (.bipush 6, 2) := by decide +kernel
theorem dX0_init_24 : decode cX0_init 24 = .ok (.newarray .int, 2) := by decide +kernel
theorem dX0_init_26 : decode cX0_init 26 = .ok (.putfield 21, 3) := by decide +kernel
theorem dX0_init_29 : decode cX0_init 29 = .ok (.aload_n 0, 1) := by decide +kernel
theorem dX0_init_30 : decode cX0_init 30 = .ok (.bipush 8, 2) := by decide +kernel
theorem dX0_init_32 : decode cX0_init 32 = .ok (.newarray .int, 2) := by decide +kernel
theorem dX0_init_34 : decode cX0_init 34 = .ok (.putfield 24, 3) := by decide +kernel
theorem dX0_init_37 : decode cX0_init 37 = .ok (.return_, 1) := by decide +kernel
theorem dX0_empty_0 : decode cX0_empty 0 = .ok (.aload_n 0, 1) := by decide +kernel
theorem dX0_empty_1 : decode cX0_empty 1 = .ok (.iconst 0, 1) := by decide +kernel
theorem dX0_empty_2 : decode cX0_empty 2 = .ok (.putfield 27, 3) := by decide +kernel
theorem dX0_empty_5 : decode cX0_empty 5 = .ok (.aload_n 0, 1) := by decide +kernel
theorem dX0_empty_6 : decode cX0_empty 6 = .ok (.iconst 0, 1) := by decide +kernel
theorem dX0_empty_7 : decode cX0_empty 7 = .ok (.putfield 31, 3) := by decide +kernel
theorem dX0_empty_10 : decode cX0_empty 10 = .ok (.return_, 1) := by decide +kernel
theorem dX0_size_0 : decode cX0_size 0 = .ok (.aload_n 0, 1) := by decide +kernel
theorem dX0_size_1 : decode cX0_size 1 = .ok (.getfield 27, 3) := by decide +kernel
theorem dX0_size_4 : decode cX0_size 4 = .ok (.ireturn, 1) := by decide +kernel
theorem dX0_find_0 : decode cX0_find 0 = .ok (.iload_n 1, 1) := by decide +kernel
theorem dX0_find_1 : decode cX0_find 1 = .ok (.ifCond .lt 26, 3) := by decide +kernel
theorem dX0_find_4 : decode cX0_find 4 = .ok (.iload_n 1, 1) := by decide +kernel
theorem dX0_find_5 : decode cX0_find 5 = .ok (.aload_n 0, 1) := by decide +kernel
theorem dX0_find_6 : decode cX0_find 6 = .ok (.getfield 27, 3) := by decide +kernel
theorem dX0_find_9 : decode cX0_find 9 = .ok (.if_icmp .ge 18, 3) := by decide +kernel
theorem dX0_find_12 : decode cX0_find 12 = .ok (.iload_n 1, 1) := by decide +kernel
theorem dX0_find_13 : decode cX0_find 13 = .ok (.bipush 6, 2) := by decide +kernel
theorem dX0_find_15 : decode cX0_find 15 = .ok (.if_icmp .ge 12, 3) := by decide +kernel
theorem dX0_find_18 : decode cX0_find 18 = .ok (.aload_n 0, 1) := by decide +kernel
theorem dX0_find_19 : decode cX0_find 19 = .ok (.getfield 11, 3) := by decide +kernel
theorem dX0_find_22 : decode cX0_find 22 = .ok (.iload_n 1, 1) := by decide +kernel
theorem dX0_find_23 : decode cX0_find 23 = .ok (.aaload, 1) := by decide +kernel
theorem dX0_find_24 : decode cX0_find 24 = .ok (.goto 4, 3) := by decide +kernel
theorem dX0_find_27 : decode cX0_find 27 = .ok (.aconst_null, 1) := by decide +kernel
theorem dX0_find_28 : decode cX0_find 28 = .ok (.areturn, 1) := by decide +kernel
theorem dX0_isFull_0 : decode cX0_isFull 0 = .ok (.aload_n 0, 1) := by decide +kernel
theorem dX0_isFull_1 : decode cX0_isFull 1 = .ok (.getfield 27, 3) := by decide +kernel
theorem dX0_isFull_4 : decode cX0_isFull 4 = .ok (.bipush 6, 2) := by decide +kernel
theorem dX0_isFull_6 : decode cX0_isFull 6 = .ok (.if_icmp .lt 7, 3) := by decide +kernel
theorem dX0_isFull_9 : decode cX0_isFull 9 = .ok (.iconst 1, 1) := by decide +kernel
theorem dX0_isFull_10 : decode cX0_isFull 10 = .ok (.goto 4, 3) := by decide +kernel
theorem dX0_isFull_13 : decode cX0_isFull 13 = .ok (.iconst 0, 1) := by decide +kernel
theorem dX0_isFull_14 : decode cX0_isFull 14 = .ok (.ireturn, 1) := by decide +kernel
set_option maxRecDepth 20000 in
theorem ggX0_add_X0_isFull : GoodIn wsX0_add wsX0_isFull := goodIn_r _ [8, 2, 9, 10, 11, 12, 13, 14, 15, 16] (by decide +kernel) (by decide +kernel)
set_option maxRecDepth 20000 in
theorem gX0_add_X0_isFull : GoodIn wsX0_add (wsV RX0 35 RX0 yX0_isFull wsX0_isFull) := goodIn_app (goodIn_of _ (by decide +kernel)) ggX0_add_X0_isFull
theorem dX0_add_0 : decode cX0_add 0 = .ok (.aload_n 0, 1) := by decide +kernel
theorem dX0_add_1 : decode cX0_add 1 = .ok (.invokevirtual 35, 3) := by decide +kernel
theorem dX0_add_4 : decode cX0_add 4 = .ok (.ifCond .eq 6, 3) := by decide +kernel
theorem dX0_add_7 : decode cX0_add 7 = .ok (.bipush (-4), 2) := by decide +kernel
theorem dX0_add_9 : decode cX0_add 9 = .ok (.ireturn, 1) := by decide +kernel
theorem dX0_add_10 : decode cX0_add 10 = .ok (.aload_n 0, 1) := by decide +kernel
theorem dX0_add_11 : decode cX0_add 11 = .ok (.getfield 11, 3) := by decide +kernel
theorem dX0_add_14 : decode cX0_add 14 = .ok (.aload_n 0, 1) := by decide +kernel
theorem dX0_add_15 : decode cX0_add 15 = .ok (.getfield 27, 3) := by decide +kernel
theorem dX0_add_18 : decode cX0_add 18 = .ok (.aload_n 1, 1) := by decide +kernel
theorem dX0_add_19 : decode cX0_add 19 = .ok (.aastore, 1) := by decide +kernel
theorem dX0_add_20 : decode cX0_add 20 = .ok (.aload_n 0, 1) := by decide +kernel
theorem dX0_add_21 : decode cX0_add 21 = .ok (.dup, 1) := by decide +kernel
theorem dX0_add_22 : decode cX0_add 22 = .ok (.getfield 27, 3) := by decide +kernel
theorem dX0_add_25 : decode cX0_add 25 = .ok (.iconst 1, 1) := by decide +kernel
theorem dX0_add_26 : decode cX0_add 26 = .ok (.iadd, 1) := by decide +kernel
theorem dX0_add_27 : decode cX0_add 27 = .ok (.putfield 27, 3) := by decide +kernel
theorem dX0_add_30 : decode cX0_add 30 = .ok (.aload_n 0, 1) := by decide +kernel
theorem dX0_add_31 : decode cX0_add 31 = .ok (.iconst 0, 1) := by decide +kernel
theorem dX0_add_32 : decode cX0_add 32 = .ok (.putfield 31, 3) := by decide +kernel
theorem dX0_add_35 : decode cX0_add 35 = .ok (.aload_n 0, 1) := by decide +kernel
theorem dX0_add_36 : decode cX0_add 36 = .ok (.getfield 27, 3) := by decide +kernel
theorem dX0_add_39 : decode cX0_add 39 = .ok (.iconst 1, 1) := by decide +kernel
theorem dX0_add_40 : decode cX0_add 40 = .ok (.isub, 1) := by decide +kernel
theorem dX0_add_41 : decode cX0_add 41 = .ok (.ireturn, 1) := by decide +kernel
set_option maxRecDepth 20000 in
theorem ggX0_limit_X4_shares : GoodIn wsX0_limit wsX4_shares := goodIn_r _ [6, 7, 20, 21, 22] (by decide +kernel) (by decide +kernel)
set_option maxRecDepth 20000 in
theorem gX0_limit_X4_shares : GoodIn wsX0_limit (wsV RX0 39 RX4 yX4_shares wsX4_shares) := goodIn_app (goodIn_of _ (by decide +kernel)) ggX0_limit_X4_shares
set_option maxRecDepth 20000 in
theorem ggX0_limit_X4_limit : GoodIn wsX0_limit wsX4_limit := goodIn_r _ [11, 7, 20, 21, 22] (by decide +kernel) (by decide +kernel)
set_option maxRecDepth 20000 in
theorem gX0_limit_X4_limit : GoodIn wsX0_limit (wsV RX0 43 RX4 yX4_limit wsX4_limit) := goodIn_app (goodIn_of _ (by decide +kernel)) ggX0_limit_X4_limit
theorem dX0_limit_0 : decode cX0_limit 0 = .ok (.aload_n 1, 1) := by decide +kernel
theorem dX0_limit_1 : decode cX0_limit 1 = .ok (.invokevirtual 39, 3) := by decide +kernel
theorem dX0_limit_4 : decode cX0_limit 4 = .ok (.istore_n 3, 1) := by decide +kernel
theorem dX0_limit_5 : decode cX0_limit 5 = .ok (.aload_n 1, 1) := by decide +kernel
theorem dX0_limit_6 : decode cX0_limit 6 = .ok (.iload_n 2, 1) := by decide +kernel
theorem dX0_limit_7 : decode cX0_limit 7 = .ok (.invokevirtual 43, 3) := by decide +kernel
theorem dX0_limit_10 : decode cX0_limit 10 = .ok (.aload_n 0, 1) := by decide +kernel
theorem dX0_limit_11 : decode cX0_limit 11 = .ok (.iconst 0, 1) := by decide +kernel
theorem dX0_limit_12 : decode cX0_limit 12 = .ok (.putfield 31, 3) := by decide +kernel
theorem dX0_limit_15 : decode cX0_limit 15 = .ok (.iload_n 3, 1) := by decide +kernel
theorem dX0_limit_16 : decode cX0_limit 16 = .ok (.ireturn, 1) := by decide +kernel
set_option maxRecDepth 20000 in
theorem ggX0_bestGain_X0_search : GoodIn wsX0_bestGain wsX0_search := goodIn_r _ [6, 7, 8, 1, 9, 10, 11, 12, 13, 14, 15, 16, 17, 5, 18, 19, 20, 21, 22, 23, 24, 25, 26, 27, 28, 29, 30, 31, 32, 33, 34, 35, 36, 37, 38, 39, 40, 41, 42, 43, 44, 45, 46, 47, 48, 49, 50, 51, 52, 53, 54, 55, 56, 57, 58, 59, 60, 61, 62, 63, 64, 65, 66, 67, 68, 69, 70, 71, 72, 73, 74, 75] (by decide +kernel) (by decide +kernel)
set_option maxRecDepth 20000 in
theorem gX0_bestGain_X0_search : GoodIn wsX0_bestGain (wsV RX0 47 RX0 yX0_search wsX0_search) := goodIn_app (goodIn_of _ (by decide +kernel)) ggX0_bestGain_X0_search
theorem dX0_bestGain_0 : decode cX0_bestGain 0 = .ok (.aload_n 0, 1) := by decide +kernel
theorem dX0_bestGain_1 : decode cX0_bestGain 1 = .ok (.iload_n 1, 1) := by decide +kernel
theorem dX0_bestGain_2 : decode cX0_bestGain 2 = .ok (.invokevirtual 47, 3) := by decide +kernel
theorem dX0_bestGain_5 : decode cX0_bestGain 5 = .ok (.aload_n 0, 1) := by decide +kernel
theorem dX0_bestGain_6 : decode cX0_bestGain 6 = .ok (.getfield 50, 3) := by decide +kernel
theorem dX0_bestGain_9 : decode cX0_bestGain 9 = .ok (.ireturn, 1) := by decide +kernel
set_option maxRecDepth 20000 in
theorem ggX0_bestShares_X0_search : GoodIn wsX0_bestShares wsX0_search := goodIn_r _ [6, 7, 8, 9, 10, 1, 11, 12, 13, 14, 15, 16, 17, 5, 18, 19, 20, 21, 22, 23, 24, 25, 26, 27, 28, 29, 30, 31, 32, 33, 34, 35, 36, 37, 38, 39, 40, 41, 42, 43, 44, 45, 46, 47, 48, 49, 50, 51, 52, 53, 54, 55, 56, 57, 58, 59, 60, 61, 62, 63, 64, 65, 66, 67, 68, 69, 70, 71, 72, 73, 74, 75] (by decide +kernel) (by decide +kernel)
set_option maxRecDepth 20000 in
theorem gX0_bestShares_X0_search : GoodIn wsX0_bestShares (wsV RX0 47 RX0 yX0_search wsX0_search) := goodIn_app (goodIn_of _ (by decide +kernel)) ggX0_bestShares_X0_search
theorem dX0_bestShares_0 : decode cX0_bestShares 0 = .ok (.aload_n 0, 1) := by decide +kernel
theorem dX0_bestShares_1 : decode cX0_bestShares 1 = .ok (.iload_n 2, 1) := by decide +kernel
theorem dX0_bestShares_2 : decode cX0_bestShares 2 = .ok (.invokevirtual 47, 3) := by decide +kernel
theorem dX0_bestShares_5 : decode cX0_bestShares 5 = .ok (.iload_n 1, 1) := by decide +kernel
theorem dX0_bestShares_6 : decode cX0_bestShares 6 = .ok (.ifCond .lt 18, 3) := by decide +kernel
theorem dX0_bestShares_9 : decode cX0_bestShares 9 = .ok (.iload_n 1, 1) := by decide +kernel
theorem dX0_bestShares_10 : decode cX0_bestShares 10 = .ok (.bipush 6, 2) := by decide +kernel
theorem dX0_bestShares_12 : decode cX0_bestShares 12 = .ok (.if_icmp .ge 12, 3) := by decide +kernel
theorem dX0_bestShares_15 : decode cX0_bestShares 15 = .ok (.aload_n 0, 1) := by decide +kernel
theorem dX0_bestShares_16 : decode cX0_bestShares 16 = .ok (.getfield 21, 3) := by decide +kernel
theorem dX0_bestShares_19 : decode cX0_bestShares 19 = .ok (.iload_n 1, 1) := by decide +kernel
theorem dX0_bestShares_20 : decode cX0_bestShares 20 = .ok (.iaload, 1) := by decide +kernel
theorem dX0_bestShares_21 : decode cX0_bestShares 21 = .ok (.goto 4, 3) := by decide +kernel
theorem dX0_bestShares_24 : decode cX0_bestShares 24 = .ok (.iconst 0, 1) := by decide +kernel
theorem dX0_bestShares_25 : decode cX0_bestShares 25 = .ok (.ireturn, 1) := by decide +kernel
set_option maxRecDepth 20000 in
theorem ggX0_search_X0_clearRows : GoodIn wsX0_search wsX0_clearRows := goodIn_r _ [14, 4, 5, 15, 2, 3, 16, 17, 18, 19, 61, 62, 63, 64, 65, 66, 67, 68] (by decide +kernel) (by decide +kernel)
set_option maxRecDepth 20000 in
theorem gX0_search_X0_clearRows : GoodIn wsX0_search (wsV RX0 53 RX0 yX0_clearRows wsX0_clearRows) := goodIn_app (goodIn_of _ (by decide +kernel)) ggX0_search_X0_clearRows
set_option maxRecDepth 20000 in
theorem ggX0_search_X0_nextRow : GoodIn wsX0_search wsX0_nextRow := goodIn_r _ [23, 24, 4, 25, 26, 27, 13, 28, 29, 30, 31, 32, 33, 34, 35, 36, 37, 38, 39, 2, 15, 40, 41, 42, 43, 44, 45, 46, 47, 48, 49, 50, 51, 52, 61, 62, 63, 64, 65, 66, 67, 68, 69, 70, 71] (by decide +kernel) (by decide +kernel)
set_option maxRecDepth 20000 in
theorem gX0_search_X0_nextRow : GoodIn wsX0_search (wsV RX0 56 RX0 yX0_nextRow wsX0_nextRow) := goodIn_app (goodIn_of _ (by decide +kernel)) ggX0_search_X0_nextRow
set_option maxRecDepth 20000 in
theorem ggX0_search_X0_leastCovered : GoodIn wsX0_search wsX0_leastCovered := goodIn_r _ [56, 15, 57, 58, 59, 60, 61, 62, 63, 64, 65, 66, 67, 68] (by decide +kernel) (by decide +kernel)
set_option maxRecDepth 20000 in
theorem gX0_search_X0_leastCovered : GoodIn wsX0_search (wsV RX0 59 RX0 yX0_leastCovered wsX0_leastCovered) := goodIn_app (goodIn_of _ (by decide +kernel)) ggX0_search_X0_leastCovered
theorem dX0_search_0 : decode cX0_search 0 = .ok (.aload_n 0, 1) := by decide +kernel
theorem dX0_search_1 : decode cX0_search 1 = .ok (.getfield 31, 3) := by decide +kernel
theorem dX0_search_4 : decode cX0_search 4 = .ok (.ifCond .eq 4, 3) := by decide +kernel
theorem dX0_search_7 : decode cX0_search 7 = .ok (.return_, 1) := by decide +kernel
theorem dX0_search_8 : decode cX0_search 8 = .ok (.aload_n 0, 1) := by decide +kernel
theorem dX0_search_9 : decode cX0_search 9 = .ok (.invokevirtual 53, 3) := by decide +kernel
theorem dX0_search_12 : decode cX0_search 12 = .ok (.iconst 1, 1) := by decide +kernel
theorem dX0_search_13 : decode cX0_search 13 = .ok (.istore_n 2, 1) := by decide +kernel
theorem dX0_search_14 : decode cX0_search 14 = .ok (.iload_n 2, 1) := by decide +kernel
theorem dX0_search_15 : decode cX0_search 15 = .ok (.sipush 4096, 3) := by decide +kernel
theorem dX0_search_18 : decode cX0_search 18 = .ok (.if_icmp .ge 58, 3) := by decide +kernel
theorem dX0_search_21 : decode cX0_search 21 = .ok (.aload_n 0, 1) := by decide +kernel
theorem dX0_search_22 : decode cX0_search 22 = .ok (.invokevirtual 56, 3) := by decide +kernel
theorem dX0_search_25 : decode cX0_search 25 = .ok (.ifCond .eq 51, 3) := by decide +kernel
theorem dX0_search_28 : decode cX0_search 28 = .ok (.bipush 100, 2) := by decide +kernel
theorem dX0_search_30 : decode cX0_search 30 = .ok (.aload_n 0, 1) := by decide +kernel
theorem dX0_search_31 : decode cX0_search 31 = .ok (.iload_n 1, 1) := by decide +kernel
theorem dX0_search_32 : decode cX0_search 32 = .ok (.invokevirtual 59, 3) := by decide +kernel
theorem dX0_search_35 : decode cX0_search 35 = .ok (.imul, 1) := by decide +kernel
theorem dX0_search_36 : decode cX0_search 36 = .ok (.aload_n 0, 1) := by decide +kernel
theorem dX0_search_37 : decode cX0_search 37 = .ok (.getfield 63, 3) := by decide +kernel
theorem dX0_search_40 : decode cX0_search 40 = .ok (.isub, 1) := by decide +kernel
theorem dX0_search_41 : decode cX0_search 41 = .ok (.istore_n 3, 1) := by decide +kernel
theorem dX0_search_42 : decode cX0_search 42 = .ok (.iload_n 3, 1) := by decide +kernel
theorem dX0_search_43 : decode cX0_search 43 = .ok (.aload_n 0, 1) := by decide +kernel
theorem dX0_search_44 : decode cX0_search 44 = .ok (.getfield 50, 3) := by decide +kernel
theorem dX0_search_47 : decode cX0_search 47 = .ok (.if_icmp .le 23, 3) := by decide +kernel
theorem dX0_search_50 : decode cX0_search 50 = .ok (.aload_n 0, 1) := by decide +kernel
theorem dX0_search_51 : decode cX0_search 51 = .ok (.iload_n 3, 1) := by decide +kernel
theorem dX0_search_52 : decode cX0_search 52 = .ok (.putfield 50, 3) := by decide +kernel
theorem dX0_search_55 : decode cX0_search 55 = .ok (.aload_n 0, 1) := by decide +kernel
theorem dX0_search_56 : decode cX0_search 56 = .ok (.getfield 17, 3) := by decide +kernel
theorem dX0_search_59 : decode cX0_search 59 = .ok (.iconst 0, 1) := by decide +kernel
theorem dX0_search_60 : decode cX0_search 60 = .ok (.aload_n 0, 1) := by decide +kernel
theorem dX0_search_61 : decode cX0_search 61 = .ok (.getfield 21, 3) := by decide +kernel
theorem dX0_search_64 : decode cX0_search 64 = .ok (.iconst 0, 1) := by decide +kernel
theorem dX0_search_65 : decode cX0_search 65 = .ok (.bipush 6, 2) := by decide +kernel
theorem dX0_search_67 : decode cX0_search 67 = .ok (.invokestatic 66, 3) := by decide +kernel
theorem dX0_search_70 : decode cX0_search 70 = .ok (.iinc 2 1, 3) := by decide +kernel
theorem dX0_search_73 : decode cX0_search 73 = .ok (.goto (-59), 3) := by decide +kernel
theorem dX0_search_76 : decode cX0_search 76 = .ok (.aload_n 0, 1) := by decide +kernel
theorem dX0_search_77 : decode cX0_search 77 = .ok (.iconst 1, 1) := by decide +kernel
theorem dX0_search_78 : decode cX0_search 78 = .ok (.putfield 31, 3) := by decide +kernel
theorem dX0_search_81 : decode cX0_search 81 = .ok (.return_, 1) := by decide +kernel
set_option maxRecDepth 20000 in
theorem ggX0_clearRows_J7_fill_53178 : GoodIn wsX0_clearRows wsJ7_fill_53178 := goodIn_r _ [9] (by decide +kernel) (by decide +kernel)
set_option maxRecDepth 20000 in
theorem gX0_clearRows_J7_fill_53178 : GoodIn wsX0_clearRows (va_wsS RX0 72 yJ7_fill_53178 wsJ7_fill_53178) := goodIn_app (goodIn_of _ (by decide +kernel)) ggX0_clearRows_J7_fill_53178
theorem dX0_clearRows_0 : decode cX0_clearRows 0 = .ok (.aload_n 0, 1) := by decide +kernel
theorem dX0_clearRows_1 : decode cX0_clearRows 1 = .ok (.getfield 17, 3) := by decide +kernel
theorem dX0_clearRows_4 : decode cX0_clearRows 4 = .ok (.iconst 0, 1) := by decide +kernel
theorem dX0_clearRows_5 : decode cX0_clearRows 5 = .ok (.invokestatic 72, 3) := by decide +kernel
theorem dX0_clearRows_8 : decode cX0_clearRows 8 = .ok (.aload_n 0, 1) := by decide +kernel
theorem dX0_clearRows_9 : decode cX0_clearRows 9 = .ok (.getfield 21, 3) := by decide +kernel
theorem dX0_clearRows_12 : decode cX0_clearRows 12 = .ok (.iconst 0, 1) := by decide +kernel
theorem dX0_clearRows_13 : decode cX0_clearRows 13 = .ok (.invokestatic 72, 3) := by decide +kernel
theorem dX0_clearRows_16 : decode cX0_clearRows 16 = .ok (.aload_n 0, 1) := by decide +kernel
theorem dX0_clearRows_17 : decode cX0_clearRows 17 = .ok (.getfield 24, 3) := by decide +kernel
theorem dX0_clearRows_20 : decode cX0_clearRows 20 = .ok (.iconst 0, 1) := by decide +kernel
theorem dX0_clearRows_21 : decode cX0_clearRows 21 = .ok (.invokestatic 72, 3) := by decide +kernel
theorem dX0_clearRows_24 : decode cX0_clearRows 24 = .ok (.aload_n 0, 1) := by decide +kernel
theorem dX0_clearRows_25 : decode cX0_clearRows 25 = .ok (.iconst 0, 1) := by decide +kernel
theorem dX0_clearRows_26 : decode cX0_clearRows 26 = .ok (.putfield 63, 3) := by decide +kernel
theorem dX0_clearRows_29 : decode cX0_clearRows 29 = .ok (.aload_n 0, 1) := by decide +kernel
theorem dX0_clearRows_30 : decode cX0_clearRows 30 = .ok (.iconst 0, 1) := by decide +kernel
theorem dX0_clearRows_31 : decode cX0_clearRows 31 = .ok (.putfield 50, 3) := by decide +kernel
theorem dX0_clearRows_34 : decode cX0_clearRows 34 = .ok (.return_, 1) := by decide +kernel
set_option maxRecDepth 20000 in
theorem ggX0_nextRow_X0_find : GoodIn wsX0_nextRow wsX0_find := goodIn_r _ [7, 1, 8, 34, 35, 36, 37, 38, 39, 40, 41] (by decide +kernel) (by decide +kernel)
set_option maxRecDepth 20000 in
theorem gX0_nextRow_X0_find : GoodIn wsX0_nextRow (wsV RX0 78 RX0 yX0_find wsX0_find) := goodIn_app (goodIn_of _ (by decide +kernel)) ggX0_nextRow_X0_find
set_option maxRecDepth 20000 in
theorem ggX0_nextRow_X4_shares : GoodIn wsX0_nextRow wsX4_shares := goodIn_r _ [13, 14, 42, 43, 44] (by decide +kernel) (by decide +kernel)
set_option maxRecDepth 20000 in
theorem gX0_nextRow_X4_shares : GoodIn wsX0_nextRow (wsV RX0 39 RX4 yX4_shares wsX4_shares) := goodIn_app (goodIn_of _ (by decide +kernel)) ggX0_nextRow_X4_shares
set_option maxRecDepth 20000 in
theorem ggX0_nextRow_X0_change : GoodIn wsX0_nextRow wsX0_change := goodIn_r _ [18, 2, 19, 20, 21, 22, 23, 12, 24, 25, 26, 27, 28, 29, 30, 31, 32, 33, 34, 35, 36, 37, 38, 39, 40, 41, 42, 43, 44] (by decide +kernel) (by decide +kernel)
set_option maxRecDepth 20000 in
theorem gX0_nextRow_X0_change : GoodIn wsX0_nextRow (wsV RX0 82 RX0 yX0_change wsX0_change) := goodIn_app (goodIn_of _ (by decide +kernel)) ggX0_nextRow_X0_change
theorem dX0_nextRow_0 : decode cX0_nextRow 0 = .ok (.aload_n 0, 1) := by decide +kernel
theorem dX0_nextRow_1 : decode cX0_nextRow 1 = .ok (.getfield 27, 3) := by decide +kernel
theorem dX0_nextRow_4 : decode cX0_nextRow 4 = .ok (.iconst 1, 1) := by decide +kernel
theorem dX0_nextRow_5 : decode cX0_nextRow 5 = .ok (.isub, 1) := by decide +kernel
theorem dX0_nextRow_6 : decode cX0_nextRow 6 = .ok (.istore_n 1, 1) := by decide +kernel
theorem dX0_nextRow_7 : decode cX0_nextRow 7 = .ok (.iload_n 1, 1) := by decide +kernel
theorem dX0_nextRow_8 : decode cX0_nextRow 8 = .ok (.ifCond .lt 58, 3) := by decide +kernel
theorem dX0_nextRow_11 : decode cX0_nextRow 11 = .ok (.aload_n 0, 1) := by decide +kernel
theorem dX0_nextRow_12 : decode cX0_nextRow 12 = .ok (.iload_n 1, 1) := by decide +kernel
theorem dX0_nextRow_13 : decode cX0_nextRow 13 = .ok (.invokevirtual 78, 3) := by decide +kernel
theorem dX0_nextRow_16 : decode cX0_nextRow 16 = .ok (.astore_n 2, 1) := by decide +kernel
theorem dX0_nextRow_17 : decode cX0_nextRow 17 = .ok (.aload_n 2, 1) := by decide +kernel
theorem dX0_nextRow_18 : decode cX0_nextRow 18 = .ok (.ifnull 25, 3) := by decide +kernel
theorem dX0_nextRow_21 : decode cX0_nextRow 21 = .ok (.aload_n 0, 1) := by decide +kernel
theorem dX0_nextRow_22 : decode cX0_nextRow 22 = .ok (.getfield 17, 3) := by decide +kernel
theorem dX0_nextRow_25 : decode cX0_nextRow 25 = .ok (.iload_n 1, 1) := by decide +kernel
theorem dX0_nextRow_26 : decode cX0_nextRow 26 = .ok (.iaload, 1) := by decide +kernel
theorem dX0_nextRow_27 : decode cX0_nextRow 27 = .ok (.aload_n 2, 1) := by decide +kernel
theorem dX0_nextRow_28 : decode cX0_nextRow 28 = .ok (.invokevirtual 39, 3) := by decide +kernel
theorem dX0_nextRow_31 : decode cX0_nextRow 31 = .ok (.if_icmp .ge 12, 3) := by decide +kernel
theorem dX0_nextRow_34 : decode cX0_nextRow 34 = .ok (.aload_n 0, 1) := by decide +kernel
theorem dX0_nextRow_35 : decode cX0_nextRow 35 = .ok (.iload_n 1, 1) := by decide +kernel
theorem dX0_nextRow_36 : decode cX0_nextRow 36 = .ok (.aload_n 2, 1) := by decide +kernel
theorem dX0_nextRow_37 : decode cX0_nextRow 37 = .ok (.iconst 1, 1) := by decide +kernel
theorem dX0_nextRow_38 : decode cX0_nextRow 38 = .ok (.invokevirtual 82, 3) := by decide +kernel
theorem dX0_nextRow_41 : decode cX0_nextRow 41 = .ok (.iconst 1, 1) := by decide +kernel
theorem dX0_nextRow_42 : decode cX0_nextRow 42 = .ok (.ireturn, 1) := by decide +kernel
theorem dX0_nextRow_43 : decode cX0_nextRow 43 = .ok (.aload_n 2, 1) := by decide +kernel
theorem dX0_nextRow_44 : decode cX0_nextRow 44 = .ok (.ifnull 16, 3) := by decide +kernel
theorem dX0_nextRow_47 : decode cX0_nextRow 47 = .ok (.aload_n 0, 1) := by decide +kernel
theorem dX0_nextRow_48 : decode cX0_nextRow 48 = .ok (.iload_n 1, 1) := by decide +kernel
theorem dX0_nextRow_49 : decode cX0_nextRow 49 = .ok (.aload_n 2, 1) := by decide +kernel
theorem dX0_nextRow_50 : decode cX0_nextRow 50 = .ok (.aload_n 0, 1) := by decide +kernel
theorem dX0_nextRow_51 : decode cX0_nextRow 51 = .ok (.getfield 17, 3) := by decide +kernel
theorem dX0_nextRow_54 : decode cX0_nextRow 54 = .ok (.iload_n 1, 1) := by decide +kernel
theorem dX0_nextRow_55 : decode cX0_nextRow 55 = .ok (.iaload, 1) := by decide +kernel
theorem dX0_nextRow_56 : decode cX0_nextRow 56 = .ok (.ineg, 1) := by decide +kernel
theorem dX0_nextRow_57 : decode cX0_nextRow 57 = .ok (.invokevirtual 82, 3) := by decide +kernel
theorem dX0_nextRow_60 : decode cX0_nextRow 60 = .ok (.iinc 1 (-1), 3) := by decide +kernel
theorem dX0_nextRow_63 : decode cX0_nextRow 63 = .ok (.goto (-56), 3) := by decide +kernel
theorem dX0_nextRow_66 : decode cX0_nextRow 66 = .ok (.iconst 0, 1) := by decide +kernel
theorem dX0_nextRow_67 : decode cX0_nextRow 67 = .ok (.ireturn, 1) := by decide +kernel
set_option maxRecDepth 20000 in
theorem ggX0_change_X4_cost : GoodIn wsX0_change wsX4_cost := goodIn_r _ [8, 9, 26, 27, 28] (by decide +kernel) (by decide +kernel)
set_option maxRecDepth 20000 in
theorem gX0_change_X4_cost : GoodIn wsX0_change (wsV RX0 86 RX4 yX4_cost wsX4_cost) := goodIn_app (goodIn_of _ (by decide +kernel)) ggX0_change_X4_cost
set_option maxRecDepth 20000 in
theorem ggX0_change_X4_set : GoodIn wsX0_change wsX4_set := goodIn_r _ [13, 14, 26, 27, 28] (by decide +kernel) (by decide +kernel)
set_option maxRecDepth 20000 in
theorem gX0_change_X4_set : GoodIn wsX0_change (wsV RX0 88 RX4 yX4_set wsX4_set) := goodIn_app (goodIn_of _ (by decide +kernel)) ggX0_change_X4_set
set_option maxRecDepth 20000 in
theorem ggX0_change_X10_isIn : GoodIn wsX0_change wsX10_isIn := goodIn_r _ [17] (by decide +kernel) (by decide +kernel)
set_option maxRecDepth 20000 in
theorem gX0_change_X10_isIn_n91 : GoodIn wsX0_change (wsX10_isIn) := ggX0_change_X10_isIn
theorem dX0_change_0 : decode cX0_change 0 = .ok (.aload_n 0, 1) := by decide +kernel
theorem dX0_change_1 : decode cX0_change 1 = .ok (.getfield 17, 3) := by decide +kernel
theorem dX0_change_4 : decode cX0_change 4 = .ok (.iload_n 1, 1) := by decide +kernel
theorem dX0_change_5 : decode cX0_change 5 = .ok (.dup2, 1) := by decide +kernel
theorem dX0_change_6 : decode cX0_change 6 = .ok (.iaload, 1) := by decide +kernel
theorem dX0_change_7 : decode cX0_change 7 = .ok (.iload_n 3, 1) := by decide +kernel
theorem dX0_change_8 : decode cX0_change 8 = .ok (.iadd, 1) := by decide +kernel
theorem dX0_change_9 : decode cX0_change 9 = .ok (.iastore, 1) := by decide +kernel
theorem dX0_change_10 : decode cX0_change 10 = .ok (.aload_n 0, 1) := by decide +kernel
theorem dX0_change_11 : decode cX0_change 11 = .ok (.dup, 1) := by decide +kernel
theorem dX0_change_12 : decode cX0_change 12 = .ok (.getfield 63, 3) := by decide +kernel
theorem dX0_change_15 : decode cX0_change 15 = .ok (.iload_n 3, 1) := by decide +kernel
theorem dX0_change_16 : decode cX0_change 16 = .ok (.aload_n 2, 1) := by decide +kernel
theorem dX0_change_17 : decode cX0_change 17 = .ok (.invokevirtual 86, 3) := by decide +kernel
theorem dX0_change_20 : decode cX0_change 20 = .ok (.imul, 1) := by decide +kernel
theorem dX0_change_21 : decode cX0_change 21 = .ok (.iadd, 1) := by decide +kernel
theorem dX0_change_22 : decode cX0_change 22 = .ok (.putfield 63, 3) := by decide +kernel
theorem dX0_change_25 : decode cX0_change 25 = .ok (.iconst 0, 1) := by decide +kernel
theorem dX0_change_26 : decode cX0_change 26 = .ok (.istore 4, 2) := by decide +kernel
theorem dX0_change_28 : decode cX0_change 28 = .ok (.iload 4, 2) := by decide +kernel
theorem dX0_change_30 : decode cX0_change 30 = .ok (.bipush 8, 2) := by decide +kernel
theorem dX0_change_32 : decode cX0_change 32 = .ok (.if_icmp .ge 32, 3) := by decide +kernel
theorem dX0_change_35 : decode cX0_change 35 = .ok (.aload_n 2, 1) := by decide +kernel
theorem dX0_change_36 : decode cX0_change 36 = .ok (.invokevirtual 88, 3) := by decide +kernel
theorem dX0_change_39 : decode cX0_change 39 = .ok (.iload 4, 2) := by decide +kernel
theorem dX0_change_41 : decode cX0_change 41 = .ok (.invokestatic 91, 3) := by decide +kernel
theorem dX0_change_44 : decode cX0_change 44 = .ok (.ifCond .eq 14, 3) := by decide +kernel
theorem dX0_change_47 : decode cX0_change 47 = .ok (.aload_n 0, 1) := by decide +kernel
theorem dX0_change_48 : decode cX0_change 48 = .ok (.getfield 24, 3) := by decide +kernel
theorem dX0_change_51 : decode cX0_change 51 = .ok (.iload 4, 2) := by decide +kernel
theorem dX0_change_53 : decode cX0_change 53 = .ok (.dup2, 1) := by decide +kernel
theorem dX0_change_54 : decode cX0_change 54 = .ok (.iaload, 1) := by decide +kernel
theorem dX0_change_55 : decode cX0_change 55 = .ok (.iload_n 3, 1) := by decide +kernel
theorem dX0_change_56 : decode cX0_change 56 = .ok (.iadd, 1) := by decide +kernel
theorem dX0_change_57 : decode cX0_change 57 = .ok (.iastore, 1) := by decide +kernel
theorem dX0_change_58 : decode cX0_change 58 = .ok (.iinc 4 1, 3) := by decide +kernel
theorem dX0_change_61 : decode cX0_change 61 = .ok (.goto (-33), 3) := by decide +kernel
theorem dX0_change_64 : decode cX0_change 64 = .ok (.return_, 1) := by decide +kernel
theorem dX0_leastCovered_0 : decode cX0_leastCovered 0 = .ok (.aload_n 0, 1) := by decide +kernel
theorem dX0_leastCovered_1 : decode cX0_leastCovered 1 = .ok (.getfield 24, 3) := by decide +kernel
theorem dX0_leastCovered_4 : decode cX0_leastCovered 4 = .ok (.iconst 0, 1) := by decide +kernel
theorem dX0_leastCovered_5 : decode cX0_leastCovered 5 = .ok (.iaload, 1) := by decide +kernel
theorem dX0_leastCovered_6 : decode cX0_leastCovered 6 = .ok (.istore_n 2, 1) := by decide +kernel
theorem dX0_leastCovered_7 : decode cX0_leastCovered 7 = .ok (.iconst 1, 1) := by decide +kernel
theorem dX0_leastCovered_8 : decode cX0_leastCovered 8 = .ok (.istore_n 3, 1) := by decide +kernel
theorem dX0_leastCovered_9 : decode cX0_leastCovered 9 = .ok (.iload_n 3, 1) := by decide +kernel
theorem dX0_leastCovered_10 : decode cX0_leastCovered 10 = .ok (.iload_n 1, 1) := by decide +kernel
theorem dX0_leastCovered_11 : decode cX0_leastCovered 11 = .ok (.if_icmp .ge 26, 3) := by decide +kernel
theorem dX0_leastCovered_14 : decode cX0_leastCovered 14 = .ok (.iload_n 3, 1) := by decide +kernel
theorem dX0_leastCovered_15 : decode cX0_leastCovered 15 = .ok (.bipush 8, 2) := by decide +kernel
theorem dX0_leastCovered_17 : decode cX0_leastCovered 17 = .ok (.if_icmp .ge 20, 3) := by decide +kernel
theorem dX0_leastCovered_20 : decode cX0_leastCovered 20 = .ok (.iload_n 2, 1) := by decide +kernel
theorem dX0_leastCovered_21 : decode cX0_leastCovered 21 = .ok (.aload_n 0, 1) := by decide +kernel
theorem dX0_leastCovered_22 : decode cX0_leastCovered 22 = .ok (.getfield 24, 3) := by decide +kernel
theorem dX0_leastCovered_25 : decode cX0_leastCovered 25 = .ok (.iload_n 3, 1) := by decide +kernel
theorem dX0_leastCovered_26 : decode cX0_leastCovered 26 = .ok (.iaload, 1) := by decide +kernel
theorem dX0_leastCovered_27 : decode cX0_leastCovered 27 = .ok (.invokestatic 95, 3) := by decide +kernel
theorem dX0_leastCovered_30 : decode cX0_leastCovered 30 = .ok (.istore_n 2, 1) := by decide +kernel
theorem dX0_leastCovered_31 : decode cX0_leastCovered 31 = .ok (.iinc 3 1, 3) := by decide +kernel
theorem dX0_leastCovered_34 : decode cX0_leastCovered 34 = .ok (.goto (-25), 3) := by decide +kernel
theorem dX0_leastCovered_37 : decode cX0_leastCovered 37 = .ok (.iload_n 2, 1) := by decide +kernel
theorem dX0_leastCovered_38 : decode cX0_leastCovered 38 = .ok (.ireturn, 1) := by decide +kernel
theorem dX1_init_0 : decode cX1_init 0 = .ok (.aload_n 0, 1) := by decide +kernel
theorem dX1_init_1 : decode cX1_init 1 = .ok (.invokespecial 1, 3) := by decide +kernel
theorem dX1_init_4 : decode cX1_init 4 = .ok (.aload_n 0, 1) := by decide +kernel
theorem dX1_init_5 : decode cX1_init 5 = .ok (.aload_n 1, 1) := by decide +kernel
theorem dX1_init_6 : decode cX1_init 6 = .ok (.putfield 7, 3) := by decide +kernel
theorem dX1_init_9 : decode cX1_init 9 = .ok (.aload_n 0, 1) := by decide +kernel
theorem dX1_init_10 : decode cX1_init 10 = .ok (.iload_n 2, 1) := by decide +kernel
theorem dX1_init_11 : decode cX1_init 11 = .ok (.putfield 13, 3) := by decide +kernel
theorem dX1_init_14 : decode cX1_init 14 = .ok (.lconst 0, 1) := by decide +kernel
theorem dX1_init_15 : decode cX1_init 15 = .ok (.lstore_n 3, 1) := by decide +kernel
theorem dX1_init_16 : decode cX1_init 16 = .ok (.lconst 0, 1) := by decide +kernel
theorem dX1_init_17 : decode cX1_init 17 = .ok (.lstore 5, 2) := by decide +kernel
theorem dX1_init_19 : decode cX1_init 19 = .ok (.aload_n 1, 1) := by decide +kernel
theorem dX1_init_20 : decode cX1_init 20 = .ok (.astore 7, 2) := by decide +kernel
theorem dX1_init_22 : decode cX1_init 22 = .ok (.aload 7, 2) := by decide +kernel
theorem dX1_init_24 : decode cX1_init 24 = .ok (.arraylength, 1) := by decide +kernel
theorem dX1_init_25 : decode cX1_init 25 = .ok (.istore 8, 2) := by decide +kernel
theorem dX1_init_27 : decode cX1_init 27 = .ok (.iconst 0, 1) := by decide +kernel
theorem dX1_init_28 : decode cX1_init 28 = .ok (.istore 9, 2) := by decide +kernel
theorem dX1_init_30 : decode cX1_init 30 = .ok (.iload 9, 2) := by decide +kernel
theorem dX1_init_32 : decode cX1_init 32 = .ok (.iload 8, 2) := by decide +kernel
theorem dX1_init_34 : decode cX1_init 34 = .ok (.if_icmp .ge 33, 3) := by decide +kernel
theorem dX1_init_37 : decode cX1_init 37 = .ok (.aload 7, 2) := by decide +kernel
theorem dX1_init_39 : decode cX1_init 39 = .ok (.iload 9, 2) := by decide +kernel
theorem dX1_init_41 : decode cX1_init 41 = .ok (.iaload, 1) := by decide +kernel
theorem dX1_init_42 : decode cX1_init 42 = .ok (.istore 10, 2) := by decide +kernel
theorem dX1_init_44 : decode cX1_init 44 = .ok (.lload_n 3, 1) := by decide +kernel
theorem dX1_init_45 : decode cX1_init 45 = .ok (.iload 10, 2) := by decide +kernel
theorem dX1_init_47 : decode cX1_init 47 = .ok (.i2l, 1) := by decide +kernel
theorem dX1_init_48 : decode cX1_init 48 = .ok (.ladd, 1) := by decide +kernel
theorem dX1_init_49 : decode cX1_init 49 = .ok (.lstore_n 3, 1) := by decide +kernel
theorem dX1_init_50 : decode cX1_init 50 = .ok (.lload 5, 2) := by decide +kernel
theorem dX1_init_52 : decode cX1_init 52 = .ok (.iload 10, 2) := by decide +kernel
theorem dX1_init_54 : decode cX1_init 54 = .ok (.iload 10, 2) := by decide +kernel
theorem dX1_init_56 : decode cX1_init 56 = .ok (.imul, 1) := by decide +kernel
theorem dX1_init_57 : decode cX1_init 57 = .ok (.i2l, 1) := by decide +kernel
theorem dX1_init_58 : decode cX1_init 58 = .ok (.ladd, 1) := by decide +kernel
theorem dX1_init_59 : decode cX1_init 59 = .ok (.lstore 5, 2) := by decide +kernel
theorem dX1_init_61 : decode cX1_init 61 = .ok (.iinc 9 1, 3) := by decide +kernel
theorem dX1_init_64 : decode cX1_init 64 = .ok (.goto (-34), 3) := by decide +kernel
theorem dX1_init_67 : decode cX1_init 67 = .ok (.aload_n 0, 1) := by decide +kernel
theorem dX1_init_68 : decode cX1_init 68 = .ok (.lload_n 3, 1) := by decide +kernel
theorem dX1_init_69 : decode cX1_init 69 = .ok (.putfield 17, 3) := by decide +kernel
theorem dX1_init_72 : decode cX1_init 72 = .ok (.aload_n 0, 1) := by decide +kernel
theorem dX1_init_73 : decode cX1_init 73 = .ok (.lload 5, 2) := by decide +kernel
theorem dX1_init_75 : decode cX1_init 75 = .ok (.putfield 21, 3) := by decide +kernel
theorem dX1_init_78 : decode cX1_init 78 = .ok (.return_, 1) := by decide +kernel
theorem dX1_came_0 : decode cX1_came 0 = .ok (.aload_n 0, 1) := by decide +kernel
theorem dX1_came_1 : decode cX1_came 1 = .ok (.getfield 13, 3) := by decide +kernel
theorem dX1_came_4 : decode cX1_came 4 = .ok (.ireturn, 1) := by decide +kernel
set_option maxRecDepth 20000 in
theorem ggX1_scoreUpper_X1_weightOf : GoodIn wsX1_scoreUpper wsX1_weightOf := goodIn_r _ [8, 9, 10, 11, 12, 13] (by decide +kernel) (by decide +kernel)
set_option maxRecDepth 20000 in
theorem gX1_scoreUpper_X1_weightOf : GoodIn wsX1_scoreUpper (wsV RX1 26 RX1 yX1_weightOf wsX1_weightOf) := goodIn_app (goodIn_of _ (by decide +kernel)) ggX1_scoreUpper_X1_weightOf
theorem dX1_scoreUpper_0 : decode cX1_scoreUpper 0 = .ok (.ldc2_w 24, 3) := by decide +kernel
theorem dX1_scoreUpper_3 : decode cX1_scoreUpper 3 = .ok (.aload_n 0, 1) := by decide +kernel
theorem dX1_scoreUpper_4 : decode cX1_scoreUpper 4 = .ok (.getfield 17, 3) := by decide +kernel
theorem dX1_scoreUpper_7 : decode cX1_scoreUpper 7 = .ok (.lmul, 1) := by decide +kernel
theorem dX1_scoreUpper_8 : decode cX1_scoreUpper 8 = .ok (.aload_n 0, 1) := by decide +kernel
theorem dX1_scoreUpper_9 : decode cX1_scoreUpper 9 = .ok (.iload_n 1, 1) := by decide +kernel
theorem dX1_scoreUpper_10 : decode cX1_scoreUpper 10 = .ok (.invokevirtual 26, 3) := by decide +kernel
theorem dX1_scoreUpper_13 : decode cX1_scoreUpper 13 = .ok (.lmul, 1) := by decide +kernel
theorem dX1_scoreUpper_14 : decode cX1_scoreUpper 14 = .ok (.aload_n 0, 1) := by decide +kernel
theorem dX1_scoreUpper_15 : decode cX1_scoreUpper 15 = .ok (.getfield 21, 3) := by decide +kernel
theorem dX1_scoreUpper_18 : decode cX1_scoreUpper 18 = .ok (.lsub, 1) := by decide +kernel
theorem dX1_scoreUpper_19 : decode cX1_scoreUpper 19 = .ok (.lreturn, 1) := by decide +kernel
theorem dX1_scoreLower_0 : decode cX1_scoreLower 0 = .ok (.aload_n 0, 1) := by decide +kernel
theorem dX1_scoreLower_1 : decode cX1_scoreLower 1 = .ok (.getfield 17, 3) := by decide +kernel
theorem dX1_scoreLower_4 : decode cX1_scoreLower 4 = .ok (.aload_n 0, 1) := by decide +kernel
theorem dX1_scoreLower_5 : decode cX1_scoreLower 5 = .ok (.getfield 17, 3) := by decide +kernel
theorem dX1_scoreLower_8 : decode cX1_scoreLower 8 = .ok (.lmul, 1) := by decide +kernel
theorem dX1_scoreLower_9 : decode cX1_scoreLower 9 = .ok (.lreturn, 1) := by decide +kernel
set_option maxRecDepth 20000 in
theorem ggX1_gave_X1_weightOf : GoodIn wsX1_gave wsX1_weightOf := goodIn_r _ [7, 8, 9, 10, 11, 12] (by decide +kernel) (by decide +kernel)
set_option maxRecDepth 20000 in
theorem gX1_gave_X1_weightOf : GoodIn wsX1_gave (wsV RX1 26 RX1 yX1_weightOf wsX1_weightOf) := goodIn_app (goodIn_of _ (by decide +kernel)) ggX1_gave_X1_weightOf
theorem dX1_gave_0 : decode cX1_gave 0 = .ok (.ldc2_w 30, 3) := by decide +kernel
theorem dX1_gave_3 : decode cX1_gave 3 = .ok (.aload_n 0, 1) := by decide +kernel
theorem dX1_gave_4 : decode cX1_gave 4 = .ok (.iload_n 1, 1) := by decide +kernel
theorem dX1_gave_5 : decode cX1_gave 5 = .ok (.invokevirtual 26, 3) := by decide +kernel
theorem dX1_gave_8 : decode cX1_gave 8 = .ok (.lmul, 1) := by decide +kernel
theorem dX1_gave_9 : decode cX1_gave 9 = .ok (.iload_n 2, 1) := by decide +kernel
theorem dX1_gave_10 : decode cX1_gave 10 = .ok (.i2l, 1) := by decide +kernel
theorem dX1_gave_11 : decode cX1_gave 11 = .ok (.aload_n 0, 1) := by decide +kernel
theorem dX1_gave_12 : decode cX1_gave 12 = .ok (.getfield 17, 3) := by decide +kernel
theorem dX1_gave_15 : decode cX1_gave 15 = .ok (.lmul, 1) := by decide +kernel
theorem dX1_gave_16 : decode cX1_gave 16 = .ok (.lcmp, 1) := by decide +kernel
theorem dX1_gave_17 : decode cX1_gave 17 = .ok (.ifCond .ne 7, 3) := by decide +kernel
theorem dX1_gave_20 : decode cX1_gave 20 = .ok (.iconst 1, 1) := by decide +kernel
theorem dX1_gave_21 : decode cX1_gave 21 = .ok (.goto 4, 3) := by decide +kernel
theorem dX1_gave_24 : decode cX1_gave 24 = .ok (.iconst 0, 1) := by decide +kernel
theorem dX1_gave_25 : decode cX1_gave 25 = .ok (.ireturn, 1) := by decide +kernel
theorem dX1_weightOf_0 : decode cX1_weightOf 0 = .ok (.iload_n 1, 1) := by decide +kernel
theorem dX1_weightOf_1 : decode cX1_weightOf 1 = .ok (.ifCond .lt 22, 3) := by decide +kernel
theorem dX1_weightOf_4 : decode cX1_weightOf 4 = .ok (.iload_n 1, 1) := by decide +kernel
theorem dX1_weightOf_5 : decode cX1_weightOf 5 = .ok (.aload_n 0, 1) := by decide +kernel
theorem dX1_weightOf_6 : decode cX1_weightOf 6 = .ok (.getfield 7, 3) := by decide +kernel
theorem dX1_weightOf_9 : decode cX1_weightOf 9 = .ok (.arraylength, 1) := by decide +kernel
theorem dX1_weightOf_10 : decode cX1_weightOf 10 = .ok (.if_icmp .ge 13, 3) := by decide +kernel
theorem dX1_weightOf_13 : decode cX1_weightOf 13 = .ok (.aload_n 0, 1) := by decide +kernel
theorem dX1_weightOf_14 : decode cX1_weightOf 14 = .ok (.getfield 7, 3) := by decide +kernel
theorem dX1_weightOf_17 : decode cX1_weightOf 17 = .ok (.iload_n 1, 1) := by decide +kernel
theorem dX1_weightOf_18 : decode cX1_weightOf 18 = .ok (.iaload, 1) := by decide +kernel
theorem dX1_weightOf_19 : decode cX1_weightOf 19 = .ok (.i2l, 1) := by decide +kernel
theorem dX1_weightOf_20 : decode cX1_weightOf 20 = .ok (.goto 4, 3) := by decide +kernel
theorem dX1_weightOf_23 : decode cX1_weightOf 23 = .ok (.lconst 0, 1) := by decide +kernel
theorem dX1_weightOf_24 : decode cX1_weightOf 24 = .ok (.lreturn, 1) := by decide +kernel
theorem dX2_init_0 : decode cX2_init 0 = .ok (.aload_n 0, 1) := by decide +kernel
theorem dX2_init_1 : decode cX2_init 1 = .ok (.invokespecial 3, 3) := by decide +kernel
theorem dX2_init_4 : decode cX2_init 4 = .ok (.aload_n 0, 1) := by decide +kernel
theorem dX2_init_5 : decode cX2_init 5 = .ok (.bipush 40, 2) := by decide +kernel
theorem dX2_init_7 : decode cX2_init 7 = .ok (.anewarray 9, 3) := by decide +kernel
theorem dX2_init_10 : decode cX2_init 10 = .ok (.putfield 11, 3) := by decide +kernel
theorem dX2_init_13 : decode cX2_init 13 = .ok (.return_, 1) := by decide +kernel
theorem dX2_empty_0 : decode cX2_empty 0 = .ok (.aload_n 0, 1) := by decide +kernel
theorem dX2_empty_1 : decode cX2_empty 1 = .ok (.iconst 0, 1) := by decide +kernel
theorem dX2_empty_2 : decode cX2_empty 2 = .ok (.putfield 17, 3) := by decide +kernel
theorem dX2_empty_5 : decode cX2_empty 5 = .ok (.return_, 1) := by decide +kernel
theorem dX2_size_0 : decode cX2_size 0 = .ok (.aload_n 0, 1) := by decide +kernel
theorem dX2_size_1 : decode cX2_size 1 = .ok (.getfield 17, 3) := by decide +kernel
theorem dX2_size_4 : decode cX2_size 4 = .ok (.ireturn, 1) := by decide +kernel
theorem dX2_isFull_0 : decode cX2_isFull 0 = .ok (.aload_n 0, 1) := by decide +kernel
theorem dX2_isFull_1 : decode cX2_isFull 1 = .ok (.getfield 17, 3) := by decide +kernel
theorem dX2_isFull_4 : decode cX2_isFull 4 = .ok (.bipush 40, 2) := by decide +kernel
theorem dX2_isFull_6 : decode cX2_isFull 6 = .ok (.if_icmp .lt 7, 3) := by decide +kernel
theorem dX2_isFull_9 : decode cX2_isFull 9 = .ok (.iconst 1, 1) := by decide +kernel
theorem dX2_isFull_10 : decode cX2_isFull 10 = .ok (.goto 4, 3) := by decide +kernel
theorem dX2_isFull_13 : decode cX2_isFull 13 = .ok (.iconst 0, 1) := by decide +kernel
theorem dX2_isFull_14 : decode cX2_isFull 14 = .ok (.ireturn, 1) := by decide +kernel
set_option maxRecDepth 20000 in
theorem ggX2_add_X2_isFull : GoodIn wsX2_add wsX2_isFull := goodIn_r _ [7, 2, 8, 9] (by decide +kernel) (by decide +kernel)
set_option maxRecDepth 20000 in
theorem gX2_add_X2_isFull : GoodIn wsX2_add (wsV RX2 21 RX2 yX2_isFull wsX2_isFull) := goodIn_app (goodIn_of _ (by decide +kernel)) ggX2_add_X2_isFull
theorem dX2_add_0 : decode cX2_add 0 = .ok (.aload_n 0, 1) := by decide +kernel
theorem dX2_add_1 : decode cX2_add 1 = .ok (.invokevirtual 21, 3) := by decide +kernel
theorem dX2_add_4 : decode cX2_add 4 = .ok (.ifCond .eq 6, 3) := by decide +kernel
theorem dX2_add_7 : decode cX2_add 7 = .ok (.bipush (-4), 2) := by decide +kernel
theorem dX2_add_9 : decode cX2_add 9 = .ok (.ireturn, 1) := by decide +kernel
theorem dX2_add_10 : decode cX2_add 10 = .ok (.aload_n 0, 1) := by decide +kernel
theorem dX2_add_11 : decode cX2_add 11 = .ok (.getfield 11, 3) := by decide +kernel
theorem dX2_add_14 : decode cX2_add 14 = .ok (.aload_n 0, 1) := by decide +kernel
theorem dX2_add_15 : decode cX2_add 15 = .ok (.getfield 17, 3) := by decide +kernel
theorem dX2_add_18 : decode cX2_add 18 = .ok (.aload_n 1, 1) := by decide +kernel
theorem dX2_add_19 : decode cX2_add 19 = .ok (.aastore, 1) := by decide +kernel
theorem dX2_add_20 : decode cX2_add 20 = .ok (.aload_n 0, 1) := by decide +kernel
theorem dX2_add_21 : decode cX2_add 21 = .ok (.dup, 1) := by decide +kernel
theorem dX2_add_22 : decode cX2_add 22 = .ok (.getfield 17, 3) := by decide +kernel
theorem dX2_add_25 : decode cX2_add 25 = .ok (.iconst 1, 1) := by decide +kernel
theorem dX2_add_26 : decode cX2_add 26 = .ok (.iadd, 1) := by decide +kernel
theorem dX2_add_27 : decode cX2_add 27 = .ok (.putfield 17, 3) := by decide +kernel
theorem dX2_add_30 : decode cX2_add 30 = .ok (.aload_n 0, 1) := by decide +kernel
theorem dX2_add_31 : decode cX2_add 31 = .ok (.getfield 17, 3) := by decide +kernel
theorem dX2_add_34 : decode cX2_add 34 = .ok (.iconst 1, 1) := by decide +kernel
theorem dX2_add_35 : decode cX2_add 35 = .ok (.isub, 1) := by decide +kernel
theorem dX2_add_36 : decode cX2_add 36 = .ok (.ireturn, 1) := by decide +kernel
theorem dX2_find_0 : decode cX2_find 0 = .ok (.iload_n 1, 1) := by decide +kernel
theorem dX2_find_1 : decode cX2_find 1 = .ok (.ifCond .lt 26, 3) := by decide +kernel
theorem dX2_find_4 : decode cX2_find 4 = .ok (.iload_n 1, 1) := by decide +kernel
theorem dX2_find_5 : decode cX2_find 5 = .ok (.aload_n 0, 1) := by decide +kernel
theorem dX2_find_6 : decode cX2_find 6 = .ok (.getfield 17, 3) := by decide +kernel
theorem dX2_find_9 : decode cX2_find 9 = .ok (.if_icmp .ge 18, 3) := by decide +kernel
theorem dX2_find_12 : decode cX2_find 12 = .ok (.iload_n 1, 1) := by decide +kernel
theorem dX2_find_13 : decode cX2_find 13 = .ok (.bipush 40, 2) := by decide +kernel
theorem dX2_find_15 : decode cX2_find 15 = .ok (.if_icmp .ge 12, 3) := by decide +kernel
theorem dX2_find_18 : decode cX2_find 18 = .ok (.aload_n 0, 1) := by decide +kernel
theorem dX2_find_19 : decode cX2_find 19 = .ok (.getfield 11, 3) := by decide +kernel
theorem dX2_find_22 : decode cX2_find 22 = .ok (.iload_n 1, 1) := by decide +kernel
theorem dX2_find_23 : decode cX2_find 23 = .ok (.aaload, 1) := by decide +kernel
theorem dX2_find_24 : decode cX2_find 24 = .ok (.goto 4, 3) := by decide +kernel
theorem dX2_find_27 : decode cX2_find 27 = .ok (.aconst_null, 1) := by decide +kernel
theorem dX2_find_28 : decode cX2_find 28 = .ok (.areturn, 1) := by decide +kernel
set_option maxRecDepth 20000 in
theorem ggX2_countGiven_X2_find : GoodIn wsX2_countGiven wsX2_find := goodIn_r _ [6, 1, 7, 20, 21] (by decide +kernel) (by decide +kernel)
set_option maxRecDepth 20000 in
theorem gX2_countGiven_X2_find : GoodIn wsX2_countGiven (wsV RX2 25 RX2 yX2_find wsX2_find) := goodIn_app (goodIn_of _ (by decide +kernel)) ggX2_countGiven_X2_find
set_option maxRecDepth 20000 in
theorem ggX2_countGiven_X1_gave : GoodIn wsX2_countGiven wsX1_gave := goodIn_r _ [12, 13, 14, 15, 16, 17, 11, 18, 19, 22, 23, 24, 25] (by decide +kernel) (by decide +kernel)
set_option maxRecDepth 20000 in
theorem gX2_countGiven_X1_gave : GoodIn wsX2_countGiven (wsV RX2 29 RX1 yX1_gave wsX1_gave) := goodIn_app (goodIn_of _ (by decide +kernel)) ggX2_countGiven_X1_gave
theorem dX2_countGiven_0 : decode cX2_countGiven 0 = .ok (.iconst 0, 1) := by decide +kernel
theorem dX2_countGiven_1 : decode cX2_countGiven 1 = .ok (.istore_n 3, 1) := by decide +kernel
theorem dX2_countGiven_2 : decode cX2_countGiven 2 = .ok (.iconst 0, 1) := by decide +kernel
theorem dX2_countGiven_3 : decode cX2_countGiven 3 = .ok (.istore 4, 2) := by decide +kernel
theorem dX2_countGiven_5 : decode cX2_countGiven 5 = .ok (.iload 4, 2) := by decide +kernel
theorem dX2_countGiven_7 : decode cX2_countGiven 7 = .ok (.aload_n 0, 1) := by decide +kernel
theorem dX2_countGiven_8 : decode cX2_countGiven 8 = .ok (.getfield 17, 3) := by decide +kernel
theorem dX2_countGiven_11 : decode cX2_countGiven 11 = .ok (.if_icmp .ge 35, 3) := by decide +kernel
theorem dX2_countGiven_14 : decode cX2_countGiven 14 = .ok (.aload_n 0, 1) := by decide +kernel
theorem dX2_countGiven_15 : decode cX2_countGiven 15 = .ok (.iload 4, 2) := by decide +kernel
theorem dX2_countGiven_17 : decode cX2_countGiven 17 = .ok (.invokevirtual 25, 3) := by decide +kernel
theorem dX2_countGiven_20 : decode cX2_countGiven 20 = .ok (.astore 5, 2) := by decide +kernel
theorem dX2_countGiven_22 : decode cX2_countGiven 22 = .ok (.aload 5, 2) := by decide +kernel
theorem dX2_countGiven_24 : decode cX2_countGiven 24 = .ok (.ifnull 16, 3) := by decide +kernel
theorem dX2_countGiven_27 : decode cX2_countGiven 27 = .ok (.aload 5, 2) := by decide +kernel
theorem dX2_countGiven_29 : decode cX2_countGiven 29 = .ok (.iload_n 1, 1) := by decide +kernel
theorem dX2_countGiven_30 : decode cX2_countGiven 30 = .ok (.iload_n 2, 1) := by decide +kernel
theorem dX2_countGiven_31 : decode cX2_countGiven 31 = .ok (.invokevirtual 29, 3) := by decide +kernel
theorem dX2_countGiven_34 : decode cX2_countGiven 34 = .ok (.ifCond .eq 6, 3) := by decide +kernel
theorem dX2_countGiven_37 : decode cX2_countGiven 37 = .ok (.iinc 3 1, 3) := by decide +kernel
theorem dX2_countGiven_40 : decode cX2_countGiven 40 = .ok (.iinc 4 1, 3) := by decide +kernel
theorem dX2_countGiven_43 : decode cX2_countGiven 43 = .ok (.goto (-38), 3) := by decide +kernel
theorem dX2_countGiven_46 : decode cX2_countGiven 46 = .ok (.iload_n 3, 1) := by decide +kernel
theorem dX2_countGiven_47 : decode cX2_countGiven 47 = .ok (.ireturn, 1) := by decide +kernel
set_option maxRecDepth 20000 in
theorem ggX2_countCame_X2_find : GoodIn wsX2_countCame wsX2_find := goodIn_r _ [6, 1, 7, 25, 26] (by decide +kernel) (by decide +kernel)
set_option maxRecDepth 20000 in
theorem gX2_countCame_X2_find : GoodIn wsX2_countCame (wsV RX2 25 RX2 yX2_find wsX2_find) := goodIn_app (goodIn_of _ (by decide +kernel)) ggX2_countCame_X2_find
set_option maxRecDepth 20000 in
theorem ggX2_countCame_X1_came : GoodIn wsX2_countCame wsX1_came := goodIn_r _ [12, 13, 27, 28, 29, 30] (by decide +kernel) (by decide +kernel)
set_option maxRecDepth 20000 in
theorem gX2_countCame_X1_came : GoodIn wsX2_countCame (wsV RX2 33 RX1 yX1_came wsX1_came) := goodIn_app (goodIn_of _ (by decide +kernel)) ggX2_countCame_X1_came
set_option maxRecDepth 20000 in
theorem ggX2_countCame_X1_gave : GoodIn wsX2_countCame wsX1_gave := goodIn_r _ [17, 18, 19, 20, 21, 22, 11, 23, 24, 27, 28, 29, 30] (by decide +kernel) (by decide +kernel)
set_option maxRecDepth 20000 in
theorem gX2_countCame_X1_gave : GoodIn wsX2_countCame (wsV RX2 29 RX1 yX1_gave wsX1_gave) := goodIn_app (goodIn_of _ (by decide +kernel)) ggX2_countCame_X1_gave
theorem dX2_countCame_0 : decode cX2_countCame 0 = .ok (.iconst 0, 1) := by decide +kernel
theorem dX2_countCame_1 : decode cX2_countCame 1 = .ok (.istore_n 3, 1) := by decide +kernel
theorem dX2_countCame_2 : decode cX2_countCame 2 = .ok (.iconst 0, 1) := by decide +kernel
theorem dX2_countCame_3 : decode cX2_countCame 3 = .ok (.istore 4, 2) := by decide +kernel
theorem dX2_countCame_5 : decode cX2_countCame 5 = .ok (.iload 4, 2) := by decide +kernel
theorem dX2_countCame_7 : decode cX2_countCame 7 = .ok (.aload_n 0, 1) := by decide +kernel
theorem dX2_countCame_8 : decode cX2_countCame 8 = .ok (.getfield 17, 3) := by decide +kernel
theorem dX2_countCame_11 : decode cX2_countCame 11 = .ok (.if_icmp .ge 44, 3) := by decide +kernel
theorem dX2_countCame_14 : decode cX2_countCame 14 = .ok (.aload_n 0, 1) := by decide +kernel
theorem dX2_countCame_15 : decode cX2_countCame 15 = .ok (.iload 4, 2) := by decide +kernel
theorem dX2_countCame_17 : decode cX2_countCame 17 = .ok (.invokevirtual 25, 3) := by decide +kernel
theorem dX2_countCame_20 : decode cX2_countCame 20 = .ok (.astore 5, 2) := by decide +kernel
theorem dX2_countCame_22 : decode cX2_countCame 22 = .ok (.aload 5, 2) := by decide +kernel
theorem dX2_countCame_24 : decode cX2_countCame 24 = .ok (.ifnull 25, 3) := by decide +kernel
theorem dX2_countCame_27 : decode cX2_countCame 27 = .ok (.aload 5, 2) := by decide +kernel
theorem dX2_countCame_29 : decode cX2_countCame 29 = .ok (.invokevirtual 33, 3) := by decide +kernel
theorem dX2_countCame_32 : decode cX2_countCame 32 = .ok (.iload_n 1, 1) := by decide +kernel
theorem dX2_countCame_33 : decode cX2_countCame 33 = .ok (.if_icmp .ne 16, 3) := by decide +kernel
theorem dX2_countCame_36 : decode cX2_countCame 36 = .ok (.aload 5, 2) := by decide +kernel
theorem dX2_countCame_38 : decode cX2_countCame 38 = .ok (.iload_n 1, 1) := by decide +kernel
theorem dX2_countCame_39 : decode cX2_countCame 39 = .ok (.iload_n 2, 1) := by decide +kernel
theorem dX2_countCame_40 : decode cX2_countCame 40 = .ok (.invokevirtual 29, 3) := by decide +kernel
theorem dX2_countCame_43 : decode cX2_countCame 43 = .ok (.ifCond .eq 6, 3) := by decide +kernel
theorem dX2_countCame_46 : decode cX2_countCame 46 = .ok (.iinc 3 1, 3) := by decide +kernel
theorem dX2_countCame_49 : decode cX2_countCame 49 = .ok (.iinc 4 1, 3) := by decide +kernel
theorem dX2_countCame_52 : decode cX2_countCame 52 = .ok (.goto (-47), 3) := by decide +kernel
theorem dX2_countCame_55 : decode cX2_countCame 55 = .ok (.iload_n 3, 1) := by decide +kernel
theorem dX2_countCame_56 : decode cX2_countCame 56 = .ok (.ireturn, 1) := by decide +kernel
theorem dX3_init_0 : decode cX3_init 0 = .ok (.aload_n 0, 1) := by decide +kernel
theorem dX3_init_1 : decode cX3_init 1 = .ok (.invokespecial 3, 3) := by decide +kernel
theorem dX3_init_4 : decode cX3_init 4 = .ok (.aload_n 0, 1) := by decide +kernel
theorem dX3_init_5 : decode cX3_init 5 = .ok (.bipush 8, 2) := by decide +kernel
theorem dX3_init_7 : decode cX3_init 7 = .ok (.newarray .long, 2) := by decide +kernel
theorem dX3_init_9 : decode cX3_init 9 = .ok (.putfield 9, 3) := by decide +kernel
theorem dX3_init_12 : decode cX3_init 12 = .ok (.return_, 1) := by decide +kernel
set_option maxRecDepth 20000 in
theorem ggX3_restart_J7_fill_d0a16 : GoodIn wsX3_restart wsJ7_fill_d0a16 := goodIn_r _ [10] (by decide +kernel) (by decide +kernel)
set_option maxRecDepth 20000 in
theorem gX3_restart_J7_fill_d0a16 : GoodIn wsX3_restart (va_wsS RX3 15 yJ7_fill_d0a16 wsJ7_fill_d0a16) := goodIn_app (goodIn_of _ (by decide +kernel)) ggX3_restart_J7_fill_d0a16
theorem dX3_restart_0 : decode cX3_restart 0 = .ok (.aload_n 0, 1) := by decide +kernel
theorem dX3_restart_1 : decode cX3_restart 1 = .ok (.getfield 9, 3) := by decide +kernel
theorem dX3_restart_4 : decode cX3_restart 4 = .ok (.lconst 0, 1) := by decide +kernel
theorem dX3_restart_5 : decode cX3_restart 5 = .ok (.invokestatic 15, 3) := by decide +kernel
theorem dX3_restart_8 : decode cX3_restart 8 = .ok (.aload_n 0, 1) := by decide +kernel
theorem dX3_restart_9 : decode cX3_restart 9 = .ok (.iload_n 1, 1) := by decide +kernel
theorem dX3_restart_10 : decode cX3_restart 10 = .ok (.putfield 21, 3) := by decide +kernel
theorem dX3_restart_13 : decode cX3_restart 13 = .ok (.aload_n 0, 1) := by decide +kernel
theorem dX3_restart_14 : decode cX3_restart 14 = .ok (.iload_n 2, 1) := by decide +kernel
theorem dX3_restart_15 : decode cX3_restart 15 = .ok (.putfield 25, 3) := by decide +kernel
theorem dX3_restart_18 : decode cX3_restart 18 = .ok (.aload_n 0, 1) := by decide +kernel
theorem dX3_restart_19 : decode cX3_restart 19 = .ok (.lconst 0, 1) := by decide +kernel
theorem dX3_restart_20 : decode cX3_restart 20 = .ok (.putfield 28, 3) := by decide +kernel
theorem dX3_restart_23 : decode cX3_restart 23 = .ok (.aload_n 0, 1) := by decide +kernel
theorem dX3_restart_24 : decode cX3_restart 24 = .ok (.lconst 0, 1) := by decide +kernel
theorem dX3_restart_25 : decode cX3_restart 25 = .ok (.putfield 32, 3) := by decide +kernel
theorem dX3_restart_28 : decode cX3_restart 28 = .ok (.aload_n 0, 1) := by decide +kernel
theorem dX3_restart_29 : decode cX3_restart 29 = .ok (.bipush (-9), 2) := by decide +kernel
theorem dX3_restart_31 : decode cX3_restart 31 = .ok (.putfield 35, 3) := by decide +kernel
theorem dX3_restart_34 : decode cX3_restart 34 = .ok (.return_, 1) := by decide +kernel
theorem dX3_cases_0 : decode cX3_cases 0 = .ok (.aload_n 0, 1) := by decide +kernel
theorem dX3_cases_1 : decode cX3_cases 1 = .ok (.getfield 21, 3) := by decide +kernel
theorem dX3_cases_4 : decode cX3_cases 4 = .ok (.ireturn, 1) := by decide +kernel
theorem dX3_breadth_0 : decode cX3_breadth 0 = .ok (.aload_n 0, 1) := by decide +kernel
theorem dX3_breadth_1 : decode cX3_breadth 1 = .ok (.getfield 25, 3) := by decide +kernel
theorem dX3_breadth_4 : decode cX3_breadth 4 = .ok (.ireturn, 1) := by decide +kernel
theorem dX3_gain_0 : decode cX3_gain 0 = .ok (.aload_n 0, 1) := by decide +kernel
theorem dX3_gain_1 : decode cX3_gain 1 = .ok (.getfield 32, 3) := by decide +kernel
theorem dX3_gain_4 : decode cX3_gain 4 = .ok (.lreturn, 1) := by decide +kernel
theorem dX3_came_0 : decode cX3_came 0 = .ok (.aload_n 0, 1) := by decide +kernel
theorem dX3_came_1 : decode cX3_came 1 = .ok (.getfield 35, 3) := by decide +kernel
theorem dX3_came_4 : decode cX3_came 4 = .ok (.ireturn, 1) := by decide +kernel
theorem dX3_hasCome_0 : decode cX3_hasCome 0 = .ok (.aload_n 0, 1) := by decide +kernel
theorem dX3_hasCome_1 : decode cX3_hasCome 1 = .ok (.getfield 35, 3) := by decide +kernel
theorem dX3_hasCome_4 : decode cX3_hasCome 4 = .ok (.bipush (-9), 2) := by decide +kernel
theorem dX3_hasCome_6 : decode cX3_hasCome 6 = .ok (.if_icmp .eq 7, 3) := by decide +kernel
theorem dX3_hasCome_9 : decode cX3_hasCome 9 = .ok (.iconst 1, 1) := by decide +kernel
theorem dX3_hasCome_10 : decode cX3_hasCome 10 = .ok (.goto 4, 3) := by decide +kernel
theorem dX3_hasCome_13 : decode cX3_hasCome 13 = .ok (.iconst 0, 1) := by decide +kernel
theorem dX3_hasCome_14 : decode cX3_hasCome 14 = .ok (.ireturn, 1) := by decide +kernel
theorem dX3_unit_0 : decode cX3_unit 0 = .ok (.ldc2_w 38, 3) := by decide +kernel
theorem dX3_unit_3 : decode cX3_unit 3 = .ok (.aload_n 0, 1) := by decide +kernel
theorem dX3_unit_4 : decode cX3_unit 4 = .ok (.getfield 25, 3) := by decide +kernel
theorem dX3_unit_7 : decode cX3_unit 7 = .ok (.i2l, 1) := by decide +kernel
theorem dX3_unit_8 : decode cX3_unit 8 = .ok (.lmul, 1) := by decide +kernel
theorem dX3_unit_9 : decode cX3_unit 9 = .ok (.aload_n 0, 1) := by decide +kernel
theorem dX3_unit_10 : decode cX3_unit 10 = .ok (.getfield 21, 3) := by decide +kernel
theorem dX3_unit_13 : decode cX3_unit 13 = .ok (.i2l, 1) := by decide +kernel
theorem dX3_unit_14 : decode cX3_unit 14 = .ok (.lmul, 1) := by decide +kernel
theorem dX3_unit_15 : decode cX3_unit 15 = .ok (.lreturn, 1) := by decide +kernel
theorem dX3_isCase_0 : decode cX3_isCase 0 = .ok (.iload_n 1, 1) := by decide +kernel
theorem dX3_isCase_1 : decode cX3_isCase 1 = .ok (.ifCond .lt 15, 3) := by decide +kernel
theorem dX3_isCase_4 : decode cX3_isCase 4 = .ok (.iload_n 1, 1) := by decide +kernel
theorem dX3_isCase_5 : decode cX3_isCase 5 = .ok (.aload_n 0, 1) := by decide +kernel
theorem dX3_isCase_6 : decode cX3_isCase 6 = .ok (.getfield 21, 3) := by decide +kernel
theorem dX3_isCase_9 : decode cX3_isCase 9 = .ok (.if_icmp .ge 7, 3) := by decide +kernel
theorem dX3_isCase_12 : decode cX3_isCase 12 = .ok (.iconst 1, 1) := by decide +kernel
theorem dX3_isCase_13 : decode cX3_isCase 13 = .ok (.goto 4, 3) := by decide +kernel
theorem dX3_isCase_16 : decode cX3_isCase 16 = .ok (.iconst 0, 1) := by decide +kernel
theorem dX3_isCase_17 : decode cX3_isCase 17 = .ok (.ireturn, 1) := by decide +kernel
theorem dX3_isSet_0 : decode cX3_isSet 0 = .ok (.iload_n 1, 1) := by decide +kernel
theorem dX3_isSet_1 : decode cX3_isSet 1 = .ok (.iconst 1, 1) := by decide +kernel
theorem dX3_isSet_2 : decode cX3_isSet 2 = .ok (.if_icmp .lt 19, 3) := by decide +kernel
theorem dX3_isSet_5 : decode cX3_isSet 5 = .ok (.iload_n 1, 1) := by decide +kernel
theorem dX3_isSet_6 : decode cX3_isSet 6 = .ok (.iconst 1, 1) := by decide +kernel
theorem dX3_isSet_7 : decode cX3_isSet 7 = .ok (.aload_n 0, 1) := by decide +kernel
theorem dX3_isSet_8 : decode cX3_isSet 8 = .ok (.getfield 21, 3) := by decide +kernel
theorem dX3_isSet_11 : decode cX3_isSet 11 = .ok (.ishl, 1) := by decide +kernel
theorem dX3_isSet_12 : decode cX3_isSet 12 = .ok (.iconst 2, 1) := by decide +kernel
theorem dX3_isSet_13 : decode cX3_isSet 13 = .ok (.isub, 1) := by decide +kernel
theorem dX3_isSet_14 : decode cX3_isSet 14 = .ok (.if_icmp .gt 7, 3) := by decide +kernel
theorem dX3_isSet_17 : decode cX3_isSet 17 = .ok (.iconst 1, 1) := by decide +kernel
theorem dX3_isSet_18 : decode cX3_isSet 18 = .ok (.goto 4, 3) := by decide +kernel
theorem dX3_isSet_21 : decode cX3_isSet 21 = .ok (.iconst 0, 1) := by decide +kernel
theorem dX3_isSet_22 : decode cX3_isSet 22 = .ok (.ireturn, 1) := by decide +kernel
set_option maxRecDepth 20000 in
theorem ggX3_soldOf_X3_isCase : GoodIn wsX3_soldOf wsX3_isCase := goodIn_r _ [6, 7, 8, 9, 10, 11, 12, 13] (by decide +kernel) (by decide +kernel)
set_option maxRecDepth 20000 in
theorem gX3_soldOf_X3_isCase : GoodIn wsX3_soldOf (wsV RX3 40 RX3 yX3_isCase wsX3_isCase) := goodIn_app (goodIn_of _ (by decide +kernel)) ggX3_soldOf_X3_isCase
theorem dX3_soldOf_0 : decode cX3_soldOf 0 = .ok (.aload_n 0, 1) := by decide +kernel
theorem dX3_soldOf_1 : decode cX3_soldOf 1 = .ok (.iload_n 1, 1) := by decide +kernel
theorem dX3_soldOf_2 : decode cX3_soldOf 2 = .ok (.invokevirtual 40, 3) := by decide +kernel
theorem dX3_soldOf_5 : decode cX3_soldOf 5 = .ok (.ifCond .eq 18, 3) := by decide +kernel
theorem dX3_soldOf_8 : decode cX3_soldOf 8 = .ok (.iload_n 1, 1) := by decide +kernel
theorem dX3_soldOf_9 : decode cX3_soldOf 9 = .ok (.bipush 8, 2) := by decide +kernel
theorem dX3_soldOf_11 : decode cX3_soldOf 11 = .ok (.if_icmp .ge 12, 3) := by decide +kernel
theorem dX3_soldOf_14 : decode cX3_soldOf 14 = .ok (.aload_n 0, 1) := by decide +kernel
theorem dX3_soldOf_15 : decode cX3_soldOf 15 = .ok (.getfield 9, 3) := by decide +kernel
theorem dX3_soldOf_18 : decode cX3_soldOf 18 = .ok (.iload_n 1, 1) := by decide +kernel
theorem dX3_soldOf_19 : decode cX3_soldOf 19 = .ok (.laload, 1) := by decide +kernel
theorem dX3_soldOf_20 : decode cX3_soldOf 20 = .ok (.goto 4, 3) := by decide +kernel
theorem dX3_soldOf_23 : decode cX3_soldOf 23 = .ok (.lconst 0, 1) := by decide +kernel
theorem dX3_soldOf_24 : decode cX3_soldOf 24 = .ok (.lreturn, 1) := by decide +kernel
set_option maxRecDepth 20000 in
theorem ggX3_casePrice_X3_soldOf : GoodIn wsX3_casePrice wsX3_soldOf := goodIn_r _ [10, 11, 12, 13, 14, 9, 15, 4, 16, 17, 18, 19, 20, 21] (by decide +kernel) (by decide +kernel)
set_option maxRecDepth 20000 in
theorem gX3_casePrice_X3_soldOf : GoodIn wsX3_casePrice (wsV RX3 46 RX3 yX3_soldOf wsX3_soldOf) := goodIn_app (goodIn_of _ (by decide +kernel)) ggX3_casePrice_X3_soldOf
theorem dX3_casePrice_0 : decode cX3_casePrice 0 = .ok (.ldc2_w 38, 3) := by decide +kernel
theorem dX3_casePrice_3 : decode cX3_casePrice 3 = .ok (.aload_n 0, 1) := by decide +kernel
theorem dX3_casePrice_4 : decode cX3_casePrice 4 = .ok (.getfield 25, 3) := by decide +kernel
theorem dX3_casePrice_7 : decode cX3_casePrice 7 = .ok (.i2l, 1) := by decide +kernel
theorem dX3_casePrice_8 : decode cX3_casePrice 8 = .ok (.lmul, 1) := by decide +kernel
theorem dX3_casePrice_9 : decode cX3_casePrice 9 = .ok (.ldc2_w 44, 3) := by decide +kernel
theorem dX3_casePrice_12 : decode cX3_casePrice 12 = .ok (.aload_n 0, 1) := by decide +kernel
theorem dX3_casePrice_13 : decode cX3_casePrice 13 = .ok (.getfield 21, 3) := by decide +kernel
theorem dX3_casePrice_16 : decode cX3_casePrice 16 = .ok (.i2l, 1) := by decide +kernel
theorem dX3_casePrice_17 : decode cX3_casePrice 17 = .ok (.aload_n 0, 1) := by decide +kernel
theorem dX3_casePrice_18 : decode cX3_casePrice 18 = .ok (.iload_n 1, 1) := by decide +kernel
theorem dX3_casePrice_19 : decode cX3_casePrice 19 = .ok (.invokevirtual 46, 3) := by decide +kernel
theorem dX3_casePrice_22 : decode cX3_casePrice 22 = .ok (.lmul, 1) := by decide +kernel
theorem dX3_casePrice_23 : decode cX3_casePrice 23 = .ok (.aload_n 0, 1) := by decide +kernel
theorem dX3_casePrice_24 : decode cX3_casePrice 24 = .ok (.getfield 28, 3) := by decide +kernel
theorem dX3_casePrice_27 : decode cX3_casePrice 27 = .ok (.lsub, 1) := by decide +kernel
theorem dX3_casePrice_28 : decode cX3_casePrice 28 = .ok (.lmul, 1) := by decide +kernel
theorem dX3_casePrice_29 : decode cX3_casePrice 29 = .ok (.ladd, 1) := by decide +kernel
theorem dX3_casePrice_30 : decode cX3_casePrice 30 = .ok (.lreturn, 1) := by decide +kernel
set_option maxRecDepth 20000 in
theorem ggX3_setPrice_X10_isIn : GoodIn wsX3_setPrice wsX10_isIn := goodIn_r _ [4] (by decide +kernel) (by decide +kernel)
set_option maxRecDepth 20000 in
theorem gX3_setPrice_X10_isIn_n50 : GoodIn wsX3_setPrice (wsX10_isIn) := ggX3_setPrice_X10_isIn
set_option maxRecDepth 20000 in
theorem ggX3_setPrice_X3_casePrice : GoodIn wsX3_setPrice wsX3_casePrice := goodIn_r _ [9, 10, 11, 12, 1, 13, 14, 15, 16, 8, 17, 18, 19, 20, 21, 22, 23, 24, 25, 26, 27, 28] (by decide +kernel) (by decide +kernel)
set_option maxRecDepth 20000 in
theorem gX3_setPrice_X3_casePrice : GoodIn wsX3_setPrice (wsV RX3 54 RX3 yX3_casePrice wsX3_casePrice) := goodIn_app (goodIn_of _ (by decide +kernel)) ggX3_setPrice_X3_casePrice
theorem dX3_setPrice_0 : decode cX3_setPrice 0 = .ok (.lconst 0, 1) := by decide +kernel
theorem dX3_setPrice_1 : decode cX3_setPrice 1 = .ok (.lstore_n 2, 1) := by decide +kernel
theorem dX3_setPrice_2 : decode cX3_setPrice 2 = .ok (.iconst 0, 1) := by decide +kernel
theorem dX3_setPrice_3 : decode cX3_setPrice 3 = .ok (.istore 4, 2) := by decide +kernel
theorem dX3_setPrice_5 : decode cX3_setPrice 5 = .ok (.iload 4, 2) := by decide +kernel
theorem dX3_setPrice_7 : decode cX3_setPrice 7 = .ok (.aload_n 0, 1) := by decide +kernel
theorem dX3_setPrice_8 : decode cX3_setPrice 8 = .ok (.getfield 21, 3) := by decide +kernel
theorem dX3_setPrice_11 : decode cX3_setPrice 11 = .ok (.if_icmp .ge 27, 3) := by decide +kernel
theorem dX3_setPrice_14 : decode cX3_setPrice 14 = .ok (.iload_n 1, 1) := by decide +kernel
theorem dX3_setPrice_15 : decode cX3_setPrice 15 = .ok (.iload 4, 2) := by decide +kernel
theorem dX3_setPrice_17 : decode cX3_setPrice 17 = .ok (.invokestatic 50, 3) := by decide +kernel
theorem dX3_setPrice_20 : decode cX3_setPrice 20 = .ok (.ifCond .eq 12, 3) := by decide +kernel
theorem dX3_setPrice_23 : decode cX3_setPrice 23 = .ok (.lload_n 2, 1) := by decide +kernel
theorem dX3_setPrice_24 : decode cX3_setPrice 24 = .ok (.aload_n 0, 1) := by decide +kernel
theorem dX3_setPrice_25 : decode cX3_setPrice 25 = .ok (.iload 4, 2) := by decide +kernel
theorem dX3_setPrice_27 : decode cX3_setPrice 27 = .ok (.invokevirtual 54, 3) := by decide +kernel
theorem dX3_setPrice_30 : decode cX3_setPrice 30 = .ok (.ladd, 1) := by decide +kernel
theorem dX3_setPrice_31 : decode cX3_setPrice 31 = .ok (.lstore_n 2, 1) := by decide +kernel
theorem dX3_setPrice_32 : decode cX3_setPrice 32 = .ok (.iinc 4 1, 3) := by decide +kernel
theorem dX3_setPrice_35 : decode cX3_setPrice 35 = .ok (.goto (-30), 3) := by decide +kernel
theorem dX3_setPrice_38 : decode cX3_setPrice 38 = .ok (.lload_n 2, 1) := by decide +kernel
theorem dX3_setPrice_39 : decode cX3_setPrice 39 = .ok (.lreturn, 1) := by decide +kernel
set_option maxRecDepth 20000 in
theorem ggX3_level_X3_soldOf : GoodIn wsX3_level wsX3_soldOf := goodIn_r _ [9, 10, 11, 12, 13, 8, 14, 1, 15, 16, 17, 18, 19, 20] (by decide +kernel) (by decide +kernel)
set_option maxRecDepth 20000 in
theorem gX3_level_X3_soldOf : GoodIn wsX3_level (wsV RX3 46 RX3 yX3_soldOf wsX3_soldOf) := goodIn_app (goodIn_of _ (by decide +kernel)) ggX3_level_X3_soldOf
theorem dX3_level_0 : decode cX3_level 0 = .ok (.lconst 0, 1) := by decide +kernel
theorem dX3_level_1 : decode cX3_level 1 = .ok (.lstore_n 1, 1) := by decide +kernel
theorem dX3_level_2 : decode cX3_level 2 = .ok (.iconst 0, 1) := by decide +kernel
theorem dX3_level_3 : decode cX3_level 3 = .ok (.istore_n 3, 1) := by decide +kernel
theorem dX3_level_4 : decode cX3_level 4 = .ok (.iload_n 3, 1) := by decide +kernel
theorem dX3_level_5 : decode cX3_level 5 = .ok (.aload_n 0, 1) := by decide +kernel
theorem dX3_level_6 : decode cX3_level 6 = .ok (.getfield 21, 3) := by decide +kernel
theorem dX3_level_9 : decode cX3_level 9 = .ok (.if_icmp .ge 23, 3) := by decide +kernel
theorem dX3_level_12 : decode cX3_level 12 = .ok (.lload_n 1, 1) := by decide +kernel
theorem dX3_level_13 : decode cX3_level 13 = .ok (.aload_n 0, 1) := by decide +kernel
theorem dX3_level_14 : decode cX3_level 14 = .ok (.iload_n 3, 1) := by decide +kernel
theorem dX3_level_15 : decode cX3_level 15 = .ok (.invokevirtual 46, 3) := by decide +kernel
theorem dX3_level_18 : decode cX3_level 18 = .ok (.aload_n 0, 1) := by decide +kernel
theorem dX3_level_19 : decode cX3_level 19 = .ok (.iload_n 3, 1) := by decide +kernel
theorem dX3_level_20 : decode cX3_level 20 = .ok (.invokevirtual 46, 3) := by decide +kernel
theorem dX3_level_23 : decode cX3_level 23 = .ok (.lmul, 1) := by decide +kernel
theorem dX3_level_24 : decode cX3_level 24 = .ok (.ladd, 1) := by decide +kernel
theorem dX3_level_25 : decode cX3_level 25 = .ok (.lstore_n 1, 1) := by decide +kernel
theorem dX3_level_26 : decode cX3_level 26 = .ok (.iinc 3 1, 3) := by decide +kernel
theorem dX3_level_29 : decode cX3_level 29 = .ok (.goto (-25), 3) := by decide +kernel
theorem dX3_level_32 : decode cX3_level 32 = .ok (.ldc2_w 38, 3) := by decide +kernel
theorem dX3_level_35 : decode cX3_level 35 = .ok (.aload_n 0, 1) := by decide +kernel
theorem dX3_level_36 : decode cX3_level 36 = .ok (.getfield 25, 3) := by decide +kernel
theorem dX3_level_39 : decode cX3_level 39 = .ok (.i2l, 1) := by decide +kernel
theorem dX3_level_40 : decode cX3_level 40 = .ok (.lmul, 1) := by decide +kernel
theorem dX3_level_41 : decode cX3_level 41 = .ok (.aload_n 0, 1) := by decide +kernel
theorem dX3_level_42 : decode cX3_level 42 = .ok (.getfield 28, 3) := by decide +kernel
theorem dX3_level_45 : decode cX3_level 45 = .ok (.lmul, 1) := by decide +kernel
theorem dX3_level_46 : decode cX3_level 46 = .ok (.aload_n 0, 1) := by decide +kernel
theorem dX3_level_47 : decode cX3_level 47 = .ok (.getfield 21, 3) := by decide +kernel
theorem dX3_level_50 : decode cX3_level 50 = .ok (.i2l, 1) := by decide +kernel
theorem dX3_level_51 : decode cX3_level 51 = .ok (.lload_n 1, 1) := by decide +kernel
theorem dX3_level_52 : decode cX3_level 52 = .ok (.lmul, 1) := by decide +kernel
theorem dX3_level_53 : decode cX3_level 53 = .ok (.ladd, 1) := by decide +kernel
theorem dX3_level_54 : decode cX3_level 54 = .ok (.aload_n 0, 1) := by decide +kernel
theorem dX3_level_55 : decode cX3_level 55 = .ok (.getfield 28, 3) := by decide +kernel
theorem dX3_level_58 : decode cX3_level 58 = .ok (.aload_n 0, 1) := by decide +kernel
theorem dX3_level_59 : decode cX3_level 59 = .ok (.getfield 28, 3) := by decide +kernel
theorem dX3_level_62 : decode cX3_level 62 = .ok (.lmul, 1) := by decide +kernel
theorem dX3_level_63 : decode cX3_level 63 = .ok (.lsub, 1) := by decide +kernel
theorem dX3_level_64 : decode cX3_level 64 = .ok (.lreturn, 1) := by decide +kernel
set_option maxRecDepth 20000 in
theorem ggX3_cost_J6_bitCount_0f7a4 : GoodIn wsX3_cost wsJ6_bitCount_0f7a4 := goodIn_r _ [5, 6, 7, 8] (by decide +kernel) (by decide +kernel)
set_option maxRecDepth 20000 in
theorem gX3_cost_J6_bitCount_0f7a4 : GoodIn wsX3_cost (va_wsS RX3 57 yJ6_bitCount_0f7a4 wsJ6_bitCount_0f7a4) := goodIn_app (goodIn_of _ (by decide +kernel)) ggX3_cost_J6_bitCount_0f7a4
set_option maxRecDepth 20000 in
theorem ggX3_cost_X3_setPrice : GoodIn wsX3_cost wsX3_setPrice := goodIn_r _ [13, 1, 14, 15, 16, 17, 18, 19, 12, 20, 21, 22, 23, 24, 25, 26, 27, 28, 29, 30, 31, 32, 33, 34, 35, 36, 37, 38, 39] (by decide +kernel) (by decide +kernel)
set_option maxRecDepth 20000 in
theorem gX3_cost_X3_setPrice : GoodIn wsX3_cost (wsV RX3 63 RX3 yX3_setPrice wsX3_setPrice) := goodIn_app (goodIn_of _ (by decide +kernel)) ggX3_cost_X3_setPrice
theorem dX3_cost_0 : decode cX3_cost 0 = .ok (.iload_n 1, 1) := by decide +kernel
theorem dX3_cost_1 : decode cX3_cost 1 = .ok (.invokestatic 57, 3) := by decide +kernel
theorem dX3_cost_4 : decode cX3_cost 4 = .ok (.i2l, 1) := by decide +kernel
theorem dX3_cost_5 : decode cX3_cost 5 = .ok (.lstore_n 3, 1) := by decide +kernel
theorem dX3_cost_6 : decode cX3_cost 6 = .ok (.iload_n 2, 1) := by decide +kernel
theorem dX3_cost_7 : decode cX3_cost 7 = .ok (.i2l, 1) := by decide +kernel
theorem dX3_cost_8 : decode cX3_cost 8 = .ok (.aload_n 0, 1) := by decide +kernel
theorem dX3_cost_9 : decode cX3_cost 9 = .ok (.iload_n 1, 1) := by decide +kernel
theorem dX3_cost_10 : decode cX3_cost 10 = .ok (.invokevirtual 63, 3) := by decide +kernel
theorem dX3_cost_13 : decode cX3_cost 13 = .ok (.lmul, 1) := by decide +kernel
theorem dX3_cost_14 : decode cX3_cost 14 = .ok (.lload_n 3, 1) := by decide +kernel
theorem dX3_cost_15 : decode cX3_cost 15 = .ok (.aload_n 0, 1) := by decide +kernel
theorem dX3_cost_16 : decode cX3_cost 16 = .ok (.getfield 21, 3) := by decide +kernel
theorem dX3_cost_19 : decode cX3_cost 19 = .ok (.i2l, 1) := by decide +kernel
theorem dX3_cost_20 : decode cX3_cost 20 = .ok (.lload_n 3, 1) := by decide +kernel
theorem dX3_cost_21 : decode cX3_cost 21 = .ok (.lsub, 1) := by decide +kernel
theorem dX3_cost_22 : decode cX3_cost 22 = .ok (.lmul, 1) := by decide +kernel
theorem dX3_cost_23 : decode cX3_cost 23 = .ok (.iload_n 2, 1) := by decide +kernel
theorem dX3_cost_24 : decode cX3_cost 24 = .ok (.i2l, 1) := by decide +kernel
theorem dX3_cost_25 : decode cX3_cost 25 = .ok (.lmul, 1) := by decide +kernel
theorem dX3_cost_26 : decode cX3_cost 26 = .ok (.iload_n 2, 1) := by decide +kernel
theorem dX3_cost_27 : decode cX3_cost 27 = .ok (.i2l, 1) := by decide +kernel
theorem dX3_cost_28 : decode cX3_cost 28 = .ok (.lmul, 1) := by decide +kernel
theorem dX3_cost_29 : decode cX3_cost 29 = .ok (.ladd, 1) := by decide +kernel
theorem dX3_cost_30 : decode cX3_cost 30 = .ok (.lreturn, 1) := by decide +kernel
set_option maxRecDepth 20000 in
theorem ggX3_allowsPrices_J6_bitCount_0f7a4 : GoodIn wsX3_allowsPrices wsJ6_bitCount_0f7a4 := goodIn_r _ [6, 7, 8, 9] (by decide +kernel) (by decide +kernel)
set_option maxRecDepth 20000 in
theorem gX3_allowsPrices_J6_bitCount_0f7a4 : GoodIn wsX3_allowsPrices (va_wsS RX3 57 yJ6_bitCount_0f7a4 wsJ6_bitCount_0f7a4) := goodIn_app (goodIn_of _ (by decide +kernel)) ggX3_allowsPrices_J6_bitCount_0f7a4
set_option maxRecDepth 20000 in
theorem ggX3_allowsPrices_X10_isIn : GoodIn wsX3_allowsPrices wsX10_isIn := goodIn_r _ [12] (by decide +kernel) (by decide +kernel)
set_option maxRecDepth 20000 in
theorem gX3_allowsPrices_X10_isIn_n50 : GoodIn wsX3_allowsPrices (wsX10_isIn) := ggX3_allowsPrices_X10_isIn
set_option maxRecDepth 20000 in
theorem ggX3_allowsPrices_X3_casePrice : GoodIn wsX3_allowsPrices wsX3_casePrice := goodIn_r _ [17, 18, 19, 2, 1, 20, 21, 22, 23, 16, 24, 25, 26, 27, 28, 29, 34, 35, 36, 37, 38, 39] (by decide +kernel) (by decide +kernel)
set_option maxRecDepth 20000 in
theorem gX3_allowsPrices_X3_casePrice : GoodIn wsX3_allowsPrices (wsV RX3 54 RX3 yX3_casePrice wsX3_casePrice) := goodIn_app (goodIn_of _ (by decide +kernel)) ggX3_allowsPrices_X3_casePrice
set_option maxRecDepth 20000 in
theorem ggX3_allowsPrices_X3_unit : GoodIn wsX3_allowsPrices wsX3_unit := goodIn_r _ [33, 18, 19, 1, 34, 35, 36, 37, 38, 39] (by decide +kernel) (by decide +kernel)
set_option maxRecDepth 20000 in
theorem gX3_allowsPrices_X3_unit : GoodIn wsX3_allowsPrices (wsV RX3 66 RX3 yX3_unit wsX3_unit) := goodIn_app (goodIn_of _ (by decide +kernel)) ggX3_allowsPrices_X3_unit
theorem dX3_allowsPrices_0 : decode cX3_allowsPrices 0 = .ok (.iload_n 1, 1) := by decide +kernel
theorem dX3_allowsPrices_1 : decode cX3_allowsPrices 1 = .ok (.invokestatic 57, 3) := by decide +kernel
theorem dX3_allowsPrices_4 : decode cX3_allowsPrices 4 = .ok (.i2l, 1) := by decide +kernel
theorem dX3_allowsPrices_5 : decode cX3_allowsPrices 5 = .ok (.iload_n 2, 1) := by decide +kernel
theorem dX3_allowsPrices_6 : decode cX3_allowsPrices 6 = .ok (.i2l, 1) := by decide +kernel
theorem dX3_allowsPrices_7 : decode cX3_allowsPrices 7 = .ok (.lmul, 1) := by decide +kernel
theorem dX3_allowsPrices_8 : decode cX3_allowsPrices 8 = .ok (.lstore_n 3, 1) := by decide +kernel
theorem dX3_allowsPrices_9 : decode cX3_allowsPrices 9 = .ok (.iconst 0, 1) := by decide +kernel
theorem dX3_allowsPrices_10 : decode cX3_allowsPrices 10 = .ok (.istore 5, 2) := by decide +kernel
theorem dX3_allowsPrices_12 : decode cX3_allowsPrices 12 = .ok (.iload 5, 2) := by decide +kernel
theorem dX3_allowsPrices_14 : decode cX3_allowsPrices 14 = .ok (.aload_n 0, 1) := by decide +kernel
theorem dX3_allowsPrices_15 : decode cX3_allowsPrices 15 = .ok (.getfield 21, 3) := by decide +kernel
theorem dX3_allowsPrices_18 : decode cX3_allowsPrices 18 = .ok (.if_icmp .ge 68, 3) := by decide +kernel
theorem dX3_allowsPrices_21 : decode cX3_allowsPrices 21 = .ok (.iload_n 1, 1) := by decide +kernel
theorem dX3_allowsPrices_22 : decode cX3_allowsPrices 22 = .ok (.iload 5, 2) := by decide +kernel
theorem dX3_allowsPrices_24 : decode cX3_allowsPrices 24 = .ok (.invokestatic 50, 3) := by decide +kernel
theorem dX3_allowsPrices_27 : decode cX3_allowsPrices 27 = .ok (.ifCond .eq 8, 3) := by decide +kernel
theorem dX3_allowsPrices_30 : decode cX3_allowsPrices 30 = .ok (.iload_n 2, 1) := by decide +kernel
theorem dX3_allowsPrices_31 : decode cX3_allowsPrices 31 = .ok (.i2l, 1) := by decide +kernel
theorem dX3_allowsPrices_32 : decode cX3_allowsPrices 32 = .ok (.goto 4, 3) := by decide +kernel
theorem dX3_allowsPrices_35 : decode cX3_allowsPrices 35 = .ok (.lconst 0, 1) := by decide +kernel
theorem dX3_allowsPrices_36 : decode cX3_allowsPrices 36 = .ok (.lstore 6, 2) := by decide +kernel
theorem dX3_allowsPrices_38 : decode cX3_allowsPrices 38 = .ok (.aload_n 0, 1) := by decide +kernel
theorem dX3_allowsPrices_39 : decode cX3_allowsPrices 39 = .ok (.iload 5, 2) := by decide +kernel
theorem dX3_allowsPrices_41 : decode cX3_allowsPrices 41 = .ok (.invokevirtual 54, 3) := by decide +kernel
theorem dX3_allowsPrices_44 : decode cX3_allowsPrices 44 = .ok (.ldc2_w 44, 3) := by decide +kernel
theorem dX3_allowsPrices_47 : decode cX3_allowsPrices 47 = .ok (.aload_n 0, 1) := by decide +kernel
theorem dX3_allowsPrices_48 : decode cX3_allowsPrices 48 = .ok (.getfield 21, 3) := by decide +kernel
theorem dX3_allowsPrices_51 : decode cX3_allowsPrices 51 = .ok (.i2l, 1) := by decide +kernel
theorem dX3_allowsPrices_52 : decode cX3_allowsPrices 52 = .ok (.lload 6, 2) := by decide +kernel
theorem dX3_allowsPrices_54 : decode cX3_allowsPrices 54 = .ok (.lmul, 1) := by decide +kernel
theorem dX3_allowsPrices_55 : decode cX3_allowsPrices 55 = .ok (.lload_n 3, 1) := by decide +kernel
theorem dX3_allowsPrices_56 : decode cX3_allowsPrices 56 = .ok (.lsub, 1) := by decide +kernel
theorem dX3_allowsPrices_57 : decode cX3_allowsPrices 57 = .ok (.lmul, 1) := by decide +kernel
theorem dX3_allowsPrices_58 : decode cX3_allowsPrices 58 = .ok (.ladd, 1) := by decide +kernel
theorem dX3_allowsPrices_59 : decode cX3_allowsPrices 59 = .ok (.lstore 8, 2) := by decide +kernel
theorem dX3_allowsPrices_61 : decode cX3_allowsPrices 61 = .ok (.lload 8, 2) := by decide +kernel
theorem dX3_allowsPrices_63 : decode cX3_allowsPrices 63 = .ok (.lconst 0, 1) := by decide +kernel
theorem dX3_allowsPrices_64 : decode cX3_allowsPrices 64 = .ok (.lcmp, 1) := by decide +kernel
theorem dX3_allowsPrices_65 : decode cX3_allowsPrices 65 = .ok (.ifCond .lt 13, 3) := by decide +kernel
theorem dX3_allowsPrices_68 : decode cX3_allowsPrices 68 = .ok (.lload 8, 2) := by decide +kernel
theorem dX3_allowsPrices_70 : decode cX3_allowsPrices 70 = .ok (.aload_n 0, 1) := by decide +kernel
theorem dX3_allowsPrices_71 : decode cX3_allowsPrices 71 = .ok (.invokevirtual 66, 3) := by decide +kernel
theorem dX3_allowsPrices_74 : decode cX3_allowsPrices 74 = .ok (.lcmp, 1) := by decide +kernel
theorem dX3_allowsPrices_75 : decode cX3_allowsPrices 75 = .ok (.ifCond .le 5, 3) := by decide +kernel
theorem dX3_allowsPrices_78 : decode cX3_allowsPrices 78 = .ok (.iconst 0, 1) := by decide +kernel
theorem dX3_allowsPrices_79 : decode cX3_allowsPrices 79 = .ok (.ireturn, 1) := by decide +kernel
theorem dX3_allowsPrices_80 : decode cX3_allowsPrices 80 = .ok (.iinc 5 1, 3) := by decide +kernel
theorem dX3_allowsPrices_83 : decode cX3_allowsPrices 83 = .ok (.goto (-71), 3) := by decide +kernel
theorem dX3_allowsPrices_86 : decode cX3_allowsPrices 86 = .ok (.iconst 1, 1) := by decide +kernel
theorem dX3_allowsPrices_87 : decode cX3_allowsPrices 87 = .ok (.ireturn, 1) := by decide +kernel
set_option maxRecDepth 20000 in
theorem ggX3_sell_X10_isIn : GoodIn wsX3_sell wsX10_isIn := goodIn_r _ [7] (by decide +kernel) (by decide +kernel)
set_option maxRecDepth 20000 in
theorem gX3_sell_X10_isIn_n50 : GoodIn wsX3_sell (wsX10_isIn) := ggX3_sell_X10_isIn
theorem dX3_sell_0 : decode cX3_sell 0 = .ok (.iconst 0, 1) := by decide +kernel
theorem dX3_sell_1 : decode cX3_sell 1 = .ok (.istore 5, 2) := by decide +kernel
theorem dX3_sell_3 : decode cX3_sell 3 = .ok (.iload 5, 2) := by decide +kernel
theorem dX3_sell_5 : decode cX3_sell 5 = .ok (.aload_n 0, 1) := by decide +kernel
theorem dX3_sell_6 : decode cX3_sell 6 = .ok (.getfield 21, 3) := by decide +kernel
theorem dX3_sell_9 : decode cX3_sell 9 = .ok (.if_icmp .ge 48, 3) := by decide +kernel
theorem dX3_sell_12 : decode cX3_sell 12 = .ok (.iload 5, 2) := by decide +kernel
theorem dX3_sell_14 : decode cX3_sell 14 = .ok (.bipush 8, 2) := by decide +kernel
theorem dX3_sell_16 : decode cX3_sell 16 = .ok (.if_icmp .ge 41, 3) := by decide +kernel
theorem dX3_sell_19 : decode cX3_sell 19 = .ok (.iload_n 1, 1) := by decide +kernel
theorem dX3_sell_20 : decode cX3_sell 20 = .ok (.iload 5, 2) := by decide +kernel
theorem dX3_sell_22 : decode cX3_sell 22 = .ok (.invokestatic 50, 3) := by decide +kernel
theorem dX3_sell_25 : decode cX3_sell 25 = .ok (.ifCond .eq 26, 3) := by decide +kernel
theorem dX3_sell_28 : decode cX3_sell 28 = .ok (.aload_n 0, 1) := by decide +kernel
theorem dX3_sell_29 : decode cX3_sell 29 = .ok (.getfield 9, 3) := by decide +kernel
theorem dX3_sell_32 : decode cX3_sell 32 = .ok (.iload 5, 2) := by decide +kernel
theorem dX3_sell_34 : decode cX3_sell 34 = .ok (.dup2, 1) := by decide +kernel
theorem dX3_sell_35 : decode cX3_sell 35 = .ok (.laload, 1) := by decide +kernel
theorem dX3_sell_36 : decode cX3_sell 36 = .ok (.iload_n 2, 1) := by decide +kernel
theorem dX3_sell_37 : decode cX3_sell 37 = .ok (.i2l, 1) := by decide +kernel
theorem dX3_sell_38 : decode cX3_sell 38 = .ok (.ladd, 1) := by decide +kernel
theorem dX3_sell_39 : decode cX3_sell 39 = .ok (.lastore, 1) := by decide +kernel
theorem dX3_sell_40 : decode cX3_sell 40 = .ok (.aload_n 0, 1) := by decide +kernel
theorem dX3_sell_41 : decode cX3_sell 41 = .ok (.dup, 1) := by decide +kernel
theorem dX3_sell_42 : decode cX3_sell 42 = .ok (.getfield 28, 3) := by decide +kernel
theorem dX3_sell_45 : decode cX3_sell 45 = .ok (.iload_n 2, 1) := by decide +kernel
theorem dX3_sell_46 : decode cX3_sell 46 = .ok (.i2l, 1) := by decide +kernel
theorem dX3_sell_47 : decode cX3_sell 47 = .ok (.ladd, 1) := by decide +kernel
theorem dX3_sell_48 : decode cX3_sell 48 = .ok (.putfield 28, 3) := by decide +kernel
theorem dX3_sell_51 : decode cX3_sell 51 = .ok (.iinc 5 1, 3) := by decide +kernel
theorem dX3_sell_54 : decode cX3_sell 54 = .ok (.goto (-51), 3) := by decide +kernel
theorem dX3_sell_57 : decode cX3_sell 57 = .ok (.aload_n 0, 1) := by decide +kernel
theorem dX3_sell_58 : decode cX3_sell 58 = .ok (.dup, 1) := by decide +kernel
theorem dX3_sell_59 : decode cX3_sell 59 = .ok (.getfield 32, 3) := by decide +kernel
theorem dX3_sell_62 : decode cX3_sell 62 = .ok (.lload_n 3, 1) := by decide +kernel
theorem dX3_sell_63 : decode cX3_sell 63 = .ok (.ladd, 1) := by decide +kernel
theorem dX3_sell_64 : decode cX3_sell 64 = .ok (.putfield 32, 3) := by decide +kernel
theorem dX3_sell_67 : decode cX3_sell 67 = .ok (.return_, 1) := by decide +kernel
theorem dX3_settle_0 : decode cX3_settle 0 = .ok (.aload_n 0, 1) := by decide +kernel
theorem dX3_settle_1 : decode cX3_settle 1 = .ok (.iload_n 1, 1) := by decide +kernel
theorem dX3_settle_2 : decode cX3_settle 2 = .ok (.putfield 35, 3) := by decide +kernel
theorem dX3_settle_5 : decode cX3_settle 5 = .ok (.aload_n 0, 1) := by decide +kernel
theorem dX3_settle_6 : decode cX3_settle 6 = .ok (.dup, 1) := by decide +kernel
theorem dX3_settle_7 : decode cX3_settle 7 = .ok (.getfield 32, 3) := by decide +kernel
theorem dX3_settle_10 : decode cX3_settle 10 = .ok (.lload_n 2, 1) := by decide +kernel
theorem dX3_settle_11 : decode cX3_settle 11 = .ok (.lsub, 1) := by decide +kernel
theorem dX3_settle_12 : decode cX3_settle 12 = .ok (.putfield 32, 3) := by decide +kernel
theorem dX3_settle_15 : decode cX3_settle 15 = .ok (.return_, 1) := by decide +kernel
set_option maxRecDepth 20000 in
theorem ggX3_worst_X3_hasCome : GoodIn wsX3_worst wsX3_hasCome := goodIn_r _ [11, 12, 28, 29, 30, 31, 32, 33] (by decide +kernel) (by decide +kernel)
set_option maxRecDepth 20000 in
theorem gX3_worst_X3_hasCome : GoodIn wsX3_worst (wsV RX3 70 RX3 yX3_hasCome wsX3_hasCome) := goodIn_app (goodIn_of _ (by decide +kernel)) ggX3_worst_X3_hasCome
set_option maxRecDepth 20000 in
theorem ggX3_worst_X3_soldOf : GoodIn wsX3_worst wsX3_soldOf := goodIn_r _ [16, 17, 18, 19, 20, 10, 21, 2, 28, 29, 30, 31, 32, 33] (by decide +kernel) (by decide +kernel)
set_option maxRecDepth 20000 in
theorem gX3_worst_X3_soldOf : GoodIn wsX3_worst (wsV RX3 46 RX3 yX3_soldOf wsX3_soldOf) := goodIn_app (goodIn_of _ (by decide +kernel)) ggX3_worst_X3_soldOf
set_option maxRecDepth 20000 in
theorem ggX3_worst_X3_unit : GoodIn wsX3_worst wsX3_unit := goodIn_r _ [25, 26, 27, 2, 28, 29, 30, 31, 32, 33] (by decide +kernel) (by decide +kernel)
set_option maxRecDepth 20000 in
theorem gX3_worst_X3_unit : GoodIn wsX3_worst (wsV RX3 66 RX3 yX3_unit wsX3_unit) := goodIn_app (goodIn_of _ (by decide +kernel)) ggX3_worst_X3_unit
theorem dX3_worst_0 : decode cX3_worst 0 = .ok (.aload_n 0, 1) := by decide +kernel
theorem dX3_worst_1 : decode cX3_worst 1 = .ok (.invokevirtual 70, 3) := by decide +kernel
theorem dX3_worst_4 : decode cX3_worst 4 = .ok (.ifCond .eq 8, 3) := by decide +kernel
theorem dX3_worst_7 : decode cX3_worst 7 = .ok (.aload_n 0, 1) := by decide +kernel
theorem dX3_worst_8 : decode cX3_worst 8 = .ok (.getfield 32, 3) := by decide +kernel
theorem dX3_worst_11 : decode cX3_worst 11 = .ok (.lreturn, 1) := by decide +kernel
theorem dX3_worst_12 : decode cX3_worst 12 = .ok (.aload_n 0, 1) := by decide +kernel
theorem dX3_worst_13 : decode cX3_worst 13 = .ok (.iconst 0, 1) := by decide +kernel
theorem dX3_worst_14 : decode cX3_worst 14 = .ok (.invokevirtual 46, 3) := by decide +kernel
theorem dX3_worst_17 : decode cX3_worst 17 = .ok (.lstore_n 1, 1) := by decide +kernel
theorem dX3_worst_18 : decode cX3_worst 18 = .ok (.iconst 1, 1) := by decide +kernel
theorem dX3_worst_19 : decode cX3_worst 19 = .ok (.istore_n 3, 1) := by decide +kernel
theorem dX3_worst_20 : decode cX3_worst 20 = .ok (.iload_n 3, 1) := by decide +kernel
theorem dX3_worst_21 : decode cX3_worst 21 = .ok (.aload_n 0, 1) := by decide +kernel
theorem dX3_worst_22 : decode cX3_worst 22 = .ok (.getfield 21, 3) := by decide +kernel
theorem dX3_worst_25 : decode cX3_worst 25 = .ok (.if_icmp .ge 19, 3) := by decide +kernel
theorem dX3_worst_28 : decode cX3_worst 28 = .ok (.lload_n 1, 1) := by decide +kernel
theorem dX3_worst_29 : decode cX3_worst 29 = .ok (.aload_n 0, 1) := by decide +kernel
theorem dX3_worst_30 : decode cX3_worst 30 = .ok (.iload_n 3, 1) := by decide +kernel
theorem dX3_worst_31 : decode cX3_worst 31 = .ok (.invokevirtual 46, 3) := by decide +kernel
theorem dX3_worst_34 : decode cX3_worst 34 = .ok (.invokestatic 74, 3) := by decide +kernel
theorem dX3_worst_37 : decode cX3_worst 37 = .ok (.lstore_n 1, 1) := by decide +kernel
theorem dX3_worst_38 : decode cX3_worst 38 = .ok (.iinc 3 1, 3) := by decide +kernel
theorem dX3_worst_41 : decode cX3_worst 41 = .ok (.goto (-21), 3) := by decide +kernel
theorem dX3_worst_44 : decode cX3_worst 44 = .ok (.aload_n 0, 1) := by decide +kernel
theorem dX3_worst_45 : decode cX3_worst 45 = .ok (.getfield 32, 3) := by decide +kernel
theorem dX3_worst_48 : decode cX3_worst 48 = .ok (.aload_n 0, 1) := by decide +kernel
theorem dX3_worst_49 : decode cX3_worst 49 = .ok (.invokevirtual 66, 3) := by decide +kernel
theorem dX3_worst_52 : decode cX3_worst 52 = .ok (.lload_n 1, 1) := by decide +kernel
theorem dX3_worst_53 : decode cX3_worst 53 = .ok (.lmul, 1) := by decide +kernel
theorem dX3_worst_54 : decode cX3_worst 54 = .ok (.lsub, 1) := by decide +kernel
theorem dX3_worst_55 : decode cX3_worst 55 = .ok (.lreturn, 1) := by decide +kernel
theorem dX4_init_0 : decode cX4_init 0 = .ok (.aload_n 0, 1) := by decide +kernel
theorem dX4_init_1 : decode cX4_init 1 = .ok (.invokespecial 1, 3) := by decide +kernel
theorem dX4_init_4 : decode cX4_init 4 = .ok (.aload_n 0, 1) := by decide +kernel
theorem dX4_init_5 : decode cX4_init 5 = .ok (.iload_n 1, 1) := by decide +kernel
theorem dX4_init_6 : decode cX4_init 6 = .ok (.putfield 7, 3) := by decide +kernel
theorem dX4_init_9 : decode cX4_init 9 = .ok (.aload_n 0, 1) := by decide +kernel
theorem dX4_init_10 : decode cX4_init 10 = .ok (.iload_n 2, 1) := by decide +kernel
theorem dX4_init_11 : decode cX4_init 11 = .ok (.putfield 13, 3) := by decide +kernel
theorem dX4_init_14 : decode cX4_init 14 = .ok (.aload_n 0, 1) := by decide +kernel
theorem dX4_init_15 : decode cX4_init 15 = .ok (.iload_n 3, 1) := by decide +kernel
theorem dX4_init_16 : decode cX4_init 16 = .ok (.putfield 16, 3) := by decide +kernel
theorem dX4_init_19 : decode cX4_init 19 = .ok (.return_, 1) := by decide +kernel
theorem dX4_set_0 : decode cX4_set 0 = .ok (.aload_n 0, 1) := by decide +kernel
theorem dX4_set_1 : decode cX4_set 1 = .ok (.getfield 7, 3) := by decide +kernel
theorem dX4_set_4 : decode cX4_set 4 = .ok (.ireturn, 1) := by decide +kernel
theorem dX4_cost_0 : decode cX4_cost 0 = .ok (.aload_n 0, 1) := by decide +kernel
theorem dX4_cost_1 : decode cX4_cost 1 = .ok (.getfield 13, 3) := by decide +kernel
theorem dX4_cost_4 : decode cX4_cost 4 = .ok (.ireturn, 1) := by decide +kernel
theorem dX4_shares_0 : decode cX4_shares 0 = .ok (.aload_n 0, 1) := by decide +kernel
theorem dX4_shares_1 : decode cX4_shares 1 = .ok (.getfield 16, 3) := by decide +kernel
theorem dX4_shares_4 : decode cX4_shares 4 = .ok (.ireturn, 1) := by decide +kernel
theorem dX4_limit_0 : decode cX4_limit 0 = .ok (.aload_n 0, 1) := by decide +kernel
theorem dX4_limit_1 : decode cX4_limit 1 = .ok (.iload_n 1, 1) := by decide +kernel
theorem dX4_limit_2 : decode cX4_limit 2 = .ok (.putfield 16, 3) := by decide +kernel
theorem dX4_limit_5 : decode cX4_limit 5 = .ok (.return_, 1) := by decide +kernel
set_option maxRecDepth 20000 in
theorem ggX5_init_J7_fill_53178 : GoodIn wsX5_init wsJ7_fill_53178 := goodIn_r _ [13] (by decide +kernel) (by decide +kernel)
set_option maxRecDepth 20000 in
theorem gX5_init_J7_fill_53178 : GoodIn wsX5_init (va_wsS RX5 27 yJ7_fill_53178 wsJ7_fill_53178) := goodIn_app (goodIn_of _ (by decide +kernel)) ggX5_init_J7_fill_53178
theorem dX5_init_0 : decode cX5_init 0 = .ok (.aload_n 0, 1) := by decide +kernel
theorem dX5_init_1 : decode cX5_init 1 = .ok (.invokespecial 3, 3) := by decide +kernel
theorem dX5_init_4 : decode cX5_init 4 = .ok (.aload_n 0, 1) := by decide +kernel
theorem dX5_init_5 : decode cX5_init 5 = .ok (.iload_n 1, 1) := by decide +kernel
theorem dX5_init_6 : decode cX5_init 6 = .ok (.putfield 9, 3) := by decide +kernel
theorem dX5_init_9 : decode cX5_init 9 = .ok (.aload_n 0, 1) := by decide +kernel
theorem dX5_init_10 : decode cX5_init 10 = .ok (.lload_n 2, 1) := by decide +kernel
theorem dX5_init_11 : decode cX5_init 11 = .ok (.putfield 15, 3) := by decide +kernel
theorem dX5_init_14 : decode cX5_init 14 = .ok (.aload_n 0, 1) := by decide +kernel
theorem dX5_init_15 : decode cX5_init 15 = .ok (.iload 4, 2) := by decide +kernel
theorem dX5_init_17 : decode cX5_init 17 = .ok (.newarray .long, 2) := by decide +kernel
theorem dX5_init_19 : decode cX5_init 19 = .ok (.putfield 19, 3) := by decide +kernel
theorem dX5_init_22 : decode cX5_init 22 = .ok (.aload_n 0, 1) := by decide +kernel
theorem dX5_init_23 : decode cX5_init 23 = .ok (.iload 4, 2) := by decide +kernel
theorem dX5_init_25 : decode cX5_init 25 = .ok (.newarray .int, 2) := by decide +kernel
theorem dX5_init_27 : decode cX5_init 27 = .ok (.putfield 23, 3) := by decide +kernel
theorem dX5_init_30 : decode cX5_init 30 = .ok (.aload_n 0, 1) := by decide +kernel
theorem dX5_init_31 : decode cX5_init 31 = .ok (.getfield 23, 3) := by decide +kernel
theorem dX5_init_34 : decode cX5_init 34 = .ok (.iconst 1, 1) := by decide +kernel
theorem dX5_init_35 : decode cX5_init 35 = .ok (.invokestatic 27, 3) := by decide +kernel
theorem dX5_init_38 : decode cX5_init 38 = .ok (.return_, 1) := by decide +kernel
theorem dX5_kind_0 : decode cX5_kind 0 = .ok (.iconst 0, 1) := by decide +kernel
theorem dX5_kind_1 : decode cX5_kind 1 = .ok (.ireturn, 1) := by decide +kernel
theorem dX5_purse_0 : decode cX5_purse 0 = .ok (.aload_n 0, 1) := by decide +kernel
theorem dX5_purse_1 : decode cX5_purse 1 = .ok (.getfield 15, 3) := by decide +kernel
theorem dX5_purse_4 : decode cX5_purse 4 = .ok (.lreturn, 1) := by decide +kernel
theorem dX5_deals_0 : decode cX5_deals 0 = .ok (.aload_n 0, 1) := by decide +kernel
theorem dX5_deals_1 : decode cX5_deals 1 = .ok (.getfield 33, 3) := by decide +kernel
theorem dX5_deals_4 : decode cX5_deals 4 = .ok (.ireturn, 1) := by decide +kernel
theorem dX5_heldOf_0 : decode cX5_heldOf 0 = .ok (.iload_n 1, 1) := by decide +kernel
theorem dX5_heldOf_1 : decode cX5_heldOf 1 = .ok (.ifCond .lt 21, 3) := by decide +kernel
theorem dX5_heldOf_4 : decode cX5_heldOf 4 = .ok (.iload_n 1, 1) := by decide +kernel
theorem dX5_heldOf_5 : decode cX5_heldOf 5 = .ok (.aload_n 0, 1) := by decide +kernel
theorem dX5_heldOf_6 : decode cX5_heldOf 6 = .ok (.getfield 19, 3) := by decide +kernel
theorem dX5_heldOf_9 : decode cX5_heldOf 9 = .ok (.arraylength, 1) := by decide +kernel
theorem dX5_heldOf_10 : decode cX5_heldOf 10 = .ok (.if_icmp .ge 12, 3) := by decide +kernel
theorem dX5_heldOf_13 : decode cX5_heldOf 13 = .ok (.aload_n 0, 1) := by decide +kernel
theorem dX5_heldOf_14 : decode cX5_heldOf 14 = .ok (.getfield 19, 3) := by decide +kernel
theorem dX5_heldOf_17 : decode cX5_heldOf 17 = .ok (.iload_n 1, 1) := by decide +kernel
theorem dX5_heldOf_18 : decode cX5_heldOf 18 = .ok (.laload, 1) := by decide +kernel
theorem dX5_heldOf_19 : decode cX5_heldOf 19 = .ok (.goto 4, 3) := by decide +kernel
theorem dX5_heldOf_22 : decode cX5_heldOf 22 = .ok (.lconst 0, 1) := by decide +kernel
theorem dX5_heldOf_23 : decode cX5_heldOf 23 = .ok (.lreturn, 1) := by decide +kernel
theorem dX5_weightOf_0 : decode cX5_weightOf 0 = .ok (.iload_n 1, 1) := by decide +kernel
theorem dX5_weightOf_1 : decode cX5_weightOf 1 = .ok (.ifCond .lt 21, 3) := by decide +kernel
theorem dX5_weightOf_4 : decode cX5_weightOf 4 = .ok (.iload_n 1, 1) := by decide +kernel
theorem dX5_weightOf_5 : decode cX5_weightOf 5 = .ok (.aload_n 0, 1) := by decide +kernel
theorem dX5_weightOf_6 : decode cX5_weightOf 6 = .ok (.getfield 23, 3) := by decide +kernel
theorem dX5_weightOf_9 : decode cX5_weightOf 9 = .ok (.arraylength, 1) := by decide +kernel
theorem dX5_weightOf_10 : decode cX5_weightOf 10 = .ok (.if_icmp .ge 12, 3) := by decide +kernel
theorem dX5_weightOf_13 : decode cX5_weightOf 13 = .ok (.aload_n 0, 1) := by decide +kernel
theorem dX5_weightOf_14 : decode cX5_weightOf 14 = .ok (.getfield 23, 3) := by decide +kernel
theorem dX5_weightOf_17 : decode cX5_weightOf 17 = .ok (.iload_n 1, 1) := by decide +kernel
theorem dX5_weightOf_18 : decode cX5_weightOf 18 = .ok (.iaload, 1) := by decide +kernel
theorem dX5_weightOf_19 : decode cX5_weightOf 19 = .ok (.goto 4, 3) := by decide +kernel
theorem dX5_weightOf_22 : decode cX5_weightOf 22 = .ok (.iconst 0, 1) := by decide +kernel
theorem dX5_weightOf_23 : decode cX5_weightOf 23 = .ok (.ireturn, 1) := by decide +kernel
set_option maxRecDepth 20000 in
theorem ggX5_weightIn_X10_isIn : GoodIn wsX5_weightIn wsX10_isIn := goodIn_r _ [4] (by decide +kernel) (by decide +kernel)
set_option maxRecDepth 20000 in
theorem gX5_weightIn_X10_isIn_n36 : GoodIn wsX5_weightIn (wsX10_isIn) := ggX5_weightIn_X10_isIn
theorem dX5_weightIn_0 : decode cX5_weightIn 0 = .ok (.lconst 0, 1) := by decide +kernel
theorem dX5_weightIn_1 : decode cX5_weightIn 1 = .ok (.lstore_n 2, 1) := by decide +kernel
theorem dX5_weightIn_2 : decode cX5_weightIn 2 = .ok (.iconst 0, 1) := by decide +kernel
theorem dX5_weightIn_3 : decode cX5_weightIn 3 = .ok (.istore 4, 2) := by decide +kernel
theorem dX5_weightIn_5 : decode cX5_weightIn 5 = .ok (.iload 4, 2) := by decide +kernel
theorem dX5_weightIn_7 : decode cX5_weightIn 7 = .ok (.aload_n 0, 1) := by decide +kernel
theorem dX5_weightIn_8 : decode cX5_weightIn 8 = .ok (.getfield 23, 3) := by decide +kernel
theorem dX5_weightIn_11 : decode cX5_weightIn 11 = .ok (.arraylength, 1) := by decide +kernel
theorem dX5_weightIn_12 : decode cX5_weightIn 12 = .ok (.if_icmp .ge 29, 3) := by decide +kernel
theorem dX5_weightIn_15 : decode cX5_weightIn 15 = .ok (.iload_n 1, 1) := by decide +kernel
theorem dX5_weightIn_16 : decode cX5_weightIn 16 = .ok (.iload 4, 2) := by decide +kernel
theorem dX5_weightIn_18 : decode cX5_weightIn 18 = .ok (.invokestatic 36, 3) := by decide +kernel
theorem dX5_weightIn_21 : decode cX5_weightIn 21 = .ok (.ifCond .eq 14, 3) := by decide +kernel
theorem dX5_weightIn_24 : decode cX5_weightIn 24 = .ok (.lload_n 2, 1) := by decide +kernel
theorem dX5_weightIn_25 : decode cX5_weightIn 25 = .ok (.aload_n 0, 1) := by decide +kernel
theorem dX5_weightIn_26 : decode cX5_weightIn 26 = .ok (.getfield 23, 3) := by decide +kernel
theorem dX5_weightIn_29 : decode cX5_weightIn 29 = .ok (.iload 4, 2) := by decide +kernel
theorem dX5_weightIn_31 : decode cX5_weightIn 31 = .ok (.iaload, 1) := by decide +kernel
theorem dX5_weightIn_32 : decode cX5_weightIn 32 = .ok (.i2l, 1) := by decide +kernel
theorem dX5_weightIn_33 : decode cX5_weightIn 33 = .ok (.ladd, 1) := by decide +kernel
theorem dX5_weightIn_34 : decode cX5_weightIn 34 = .ok (.lstore_n 2, 1) := by decide +kernel
theorem dX5_weightIn_35 : decode cX5_weightIn 35 = .ok (.iinc 4 1, 3) := by decide +kernel
theorem dX5_weightIn_38 : decode cX5_weightIn 38 = .ok (.goto (-33), 3) := by decide +kernel
theorem dX5_weightIn_41 : decode cX5_weightIn 41 = .ok (.lload_n 2, 1) := by decide +kernel
theorem dX5_weightIn_42 : decode cX5_weightIn 42 = .ok (.lreturn, 1) := by decide +kernel
theorem dX5_weightSum_0 : decode cX5_weightSum 0 = .ok (.lconst 0, 1) := by decide +kernel
theorem dX5_weightSum_1 : decode cX5_weightSum 1 = .ok (.lstore_n 1, 1) := by decide +kernel
theorem dX5_weightSum_2 : decode cX5_weightSum 2 = .ok (.aload_n 0, 1) := by decide +kernel
theorem dX5_weightSum_3 : decode cX5_weightSum 3 = .ok (.getfield 23, 3) := by decide +kernel
theorem dX5_weightSum_6 : decode cX5_weightSum 6 = .ok (.astore_n 3, 1) := by decide +kernel
theorem dX5_weightSum_7 : decode cX5_weightSum 7 = .ok (.aload_n 3, 1) := by decide +kernel
theorem dX5_weightSum_8 : decode cX5_weightSum 8 = .ok (.arraylength, 1) := by decide +kernel
theorem dX5_weightSum_9 : decode cX5_weightSum 9 = .ok (.istore 4, 2) := by decide +kernel
theorem dX5_weightSum_11 : decode cX5_weightSum 11 = .ok (.iconst 0, 1) := by decide +kernel
theorem dX5_weightSum_12 : decode cX5_weightSum 12 = .ok (.istore 5, 2) := by decide +kernel
theorem dX5_weightSum_14 : decode cX5_weightSum 14 = .ok (.iload 5, 2) := by decide +kernel
theorem dX5_weightSum_16 : decode cX5_weightSum 16 = .ok (.iload 4, 2) := by decide +kernel
theorem dX5_weightSum_18 : decode cX5_weightSum 18 = .ok (.if_icmp .ge 21, 3) := by decide +kernel
theorem dX5_weightSum_21 : decode cX5_weightSum 21 = .ok (.aload_n 3, 1) := by decide +kernel
theorem dX5_weightSum_22 : decode cX5_weightSum 22 = .ok (.iload 5, 2) := by decide +kernel
theorem dX5_weightSum_24 : decode cX5_weightSum 24 = .ok (.iaload, 1) := by decide +kernel
theorem dX5_weightSum_25 : decode cX5_weightSum 25 = .ok (.istore 6, 2) := by decide +kernel
theorem dX5_weightSum_27 : decode cX5_weightSum 27 = .ok (.lload_n 1, 1) := by decide +kernel
theorem dX5_weightSum_28 : decode cX5_weightSum 28 = .ok (.iload 6, 2) := by decide +kernel
theorem dX5_weightSum_30 : decode cX5_weightSum 30 = .ok (.i2l, 1) := by decide +kernel
theorem dX5_weightSum_31 : decode cX5_weightSum 31 = .ok (.ladd, 1) := by decide +kernel
theorem dX5_weightSum_32 : decode cX5_weightSum 32 = .ok (.lstore_n 1, 1) := by decide +kernel
theorem dX5_weightSum_33 : decode cX5_weightSum 33 = .ok (.iinc 5 1, 3) := by decide +kernel
theorem dX5_weightSum_36 : decode cX5_weightSum 36 = .ok (.goto (-22), 3) := by decide +kernel
theorem dX5_weightSum_39 : decode cX5_weightSum 39 = .ok (.lload_n 1, 1) := by decide +kernel
theorem dX5_weightSum_40 : decode cX5_weightSum 40 = .ok (.lreturn, 1) := by decide +kernel
theorem dX5_weigh_0 : decode cX5_weigh 0 = .ok (.iload_n 1, 1) := by decide +kernel
theorem dX5_weigh_1 : decode cX5_weigh 1 = .ok (.ifCond .lt 19, 3) := by decide +kernel
theorem dX5_weigh_4 : decode cX5_weigh 4 = .ok (.iload_n 1, 1) := by decide +kernel
theorem dX5_weigh_5 : decode cX5_weigh 5 = .ok (.aload_n 0, 1) := by decide +kernel
theorem dX5_weigh_6 : decode cX5_weigh 6 = .ok (.getfield 23, 3) := by decide +kernel
theorem dX5_weigh_9 : decode cX5_weigh 9 = .ok (.arraylength, 1) := by decide +kernel
theorem dX5_weigh_10 : decode cX5_weigh 10 = .ok (.if_icmp .ge 10, 3) := by decide +kernel
theorem dX5_weigh_13 : decode cX5_weigh 13 = .ok (.aload_n 0, 1) := by decide +kernel
theorem dX5_weigh_14 : decode cX5_weigh 14 = .ok (.getfield 23, 3) := by decide +kernel
theorem dX5_weigh_17 : decode cX5_weigh 17 = .ok (.iload_n 1, 1) := by decide +kernel
theorem dX5_weigh_18 : decode cX5_weigh 18 = .ok (.iload_n 2, 1) := by decide +kernel
theorem dX5_weigh_19 : decode cX5_weigh 19 = .ok (.iastore, 1) := by decide +kernel
theorem dX5_weigh_20 : decode cX5_weigh 20 = .ok (.return_, 1) := by decide +kernel
theorem dX5_weighAll_0 : decode cX5_weighAll 0 = .ok (.iconst 0, 1) := by decide +kernel
theorem dX5_weighAll_1 : decode cX5_weighAll 1 = .ok (.istore_n 2, 1) := by decide +kernel
theorem dX5_weighAll_2 : decode cX5_weighAll 2 = .ok (.iload_n 2, 1) := by decide +kernel
theorem dX5_weighAll_3 : decode cX5_weighAll 3 = .ok (.aload_n 0, 1) := by decide +kernel
theorem dX5_weighAll_4 : decode cX5_weighAll 4 = .ok (.getfield 23, 3) := by decide +kernel
theorem dX5_weighAll_7 : decode cX5_weighAll 7 = .ok (.arraylength, 1) := by decide +kernel
theorem dX5_weighAll_8 : decode cX5_weighAll 8 = .ok (.if_icmp .ge 24, 3) := by decide +kernel
theorem dX5_weighAll_11 : decode cX5_weighAll 11 = .ok (.iload_n 2, 1) := by decide +kernel
theorem dX5_weighAll_12 : decode cX5_weighAll 12 = .ok (.aload_n 1, 1) := by decide +kernel
theorem dX5_weighAll_13 : decode cX5_weighAll 13 = .ok (.arraylength, 1) := by decide +kernel
theorem dX5_weighAll_14 : decode cX5_weighAll 14 = .ok (.if_icmp .ge 18, 3) := by decide +kernel
theorem dX5_weighAll_17 : decode cX5_weighAll 17 = .ok (.aload_n 0, 1) := by decide +kernel
theorem dX5_weighAll_18 : decode cX5_weighAll 18 = .ok (.getfield 23, 3) := by decide +kernel
theorem dX5_weighAll_21 : decode cX5_weighAll 21 = .ok (.iload_n 2, 1) := by decide +kernel
theorem dX5_weighAll_22 : decode cX5_weighAll 22 = .ok (.aload_n 1, 1) := by decide +kernel
theorem dX5_weighAll_23 : decode cX5_weighAll 23 = .ok (.iload_n 2, 1) := by decide +kernel
theorem dX5_weighAll_24 : decode cX5_weighAll 24 = .ok (.iaload, 1) := by decide +kernel
theorem dX5_weighAll_25 : decode cX5_weighAll 25 = .ok (.iastore, 1) := by decide +kernel
theorem dX5_weighAll_26 : decode cX5_weighAll 26 = .ok (.iinc 2 1, 3) := by decide +kernel
theorem dX5_weighAll_29 : decode cX5_weighAll 29 = .ok (.goto (-27), 3) := by decide +kernel
theorem dX5_weighAll_32 : decode cX5_weighAll 32 = .ok (.return_, 1) := by decide +kernel
set_option maxRecDepth 20000 in
theorem ggX5_leastHeld_X10_isIn : GoodIn wsX5_leastHeld wsX10_isIn := goodIn_r _ [9] (by decide +kernel) (by decide +kernel)
set_option maxRecDepth 20000 in
theorem gX5_leastHeld_X10_isIn_n36 : GoodIn wsX5_leastHeld (wsX10_isIn) := ggX5_leastHeld_X10_isIn
theorem dX5_leastHeld_0 : decode cX5_leastHeld 0 = .ok (.ldc2_w 42, 3) := by decide +kernel
theorem dX5_leastHeld_3 : decode cX5_leastHeld 3 = .ok (.lstore_n 3, 1) := by decide +kernel
theorem dX5_leastHeld_4 : decode cX5_leastHeld 4 = .ok (.iconst 0, 1) := by decide +kernel
theorem dX5_leastHeld_5 : decode cX5_leastHeld 5 = .ok (.istore 5, 2) := by decide +kernel
theorem dX5_leastHeld_7 : decode cX5_leastHeld 7 = .ok (.iload 5, 2) := by decide +kernel
theorem dX5_leastHeld_9 : decode cX5_leastHeld 9 = .ok (.aload_n 0, 1) := by decide +kernel
theorem dX5_leastHeld_10 : decode cX5_leastHeld 10 = .ok (.getfield 19, 3) := by decide +kernel
theorem dX5_leastHeld_13 : decode cX5_leastHeld 13 = .ok (.arraylength, 1) := by decide +kernel
theorem dX5_leastHeld_14 : decode cX5_leastHeld 14 = .ok (.if_icmp .ge 37, 3) := by decide +kernel
theorem dX5_leastHeld_17 : decode cX5_leastHeld 17 = .ok (.lload_n 3, 1) := by decide +kernel
theorem dX5_leastHeld_18 : decode cX5_leastHeld 18 = .ok (.aload_n 0, 1) := by decide +kernel
theorem dX5_leastHeld_19 : decode cX5_leastHeld 19 = .ok (.getfield 19, 3) := by decide +kernel
theorem dX5_leastHeld_22 : decode cX5_leastHeld 22 = .ok (.iload 5, 2) := by decide +kernel
theorem dX5_leastHeld_24 : decode cX5_leastHeld 24 = .ok (.laload, 1) := by decide +kernel
theorem dX5_leastHeld_25 : decode cX5_leastHeld 25 = .ok (.iload_n 1, 1) := by decide +kernel
theorem dX5_leastHeld_26 : decode cX5_leastHeld 26 = .ok (.iload 5, 2) := by decide +kernel
theorem dX5_leastHeld_28 : decode cX5_leastHeld 28 = .ok (.invokestatic 36, 3) := by decide +kernel
theorem dX5_leastHeld_31 : decode cX5_leastHeld 31 = .ok (.ifCond .eq 7, 3) := by decide +kernel
theorem dX5_leastHeld_34 : decode cX5_leastHeld 34 = .ok (.iload_n 2, 1) := by decide +kernel
theorem dX5_leastHeld_35 : decode cX5_leastHeld 35 = .ok (.goto 4, 3) := by decide +kernel
theorem dX5_leastHeld_38 : decode cX5_leastHeld 38 = .ok (.iconst 0, 1) := by decide +kernel
theorem dX5_leastHeld_39 : decode cX5_leastHeld 39 = .ok (.i2l, 1) := by decide +kernel
theorem dX5_leastHeld_40 : decode cX5_leastHeld 40 = .ok (.ladd, 1) := by decide +kernel
theorem dX5_leastHeld_41 : decode cX5_leastHeld 41 = .ok (.invokestatic 44, 3) := by decide +kernel
theorem dX5_leastHeld_44 : decode cX5_leastHeld 44 = .ok (.lstore_n 3, 1) := by decide +kernel
theorem dX5_leastHeld_45 : decode cX5_leastHeld 45 = .ok (.iinc 5 1, 3) := by decide +kernel
theorem dX5_leastHeld_48 : decode cX5_leastHeld 48 = .ok (.goto (-41), 3) := by decide +kernel
theorem dX5_leastHeld_51 : decode cX5_leastHeld 51 = .ok (.lload_n 3, 1) := by decide +kernel
theorem dX5_leastHeld_52 : decode cX5_leastHeld 52 = .ok (.lreturn, 1) := by decide +kernel
set_option maxRecDepth 20000 in
theorem ggX5_buy_X10_isIn : GoodIn wsX5_buy wsX10_isIn := goodIn_r _ [6] (by decide +kernel) (by decide +kernel)
set_option maxRecDepth 20000 in
theorem gX5_buy_X10_isIn_n36 : GoodIn wsX5_buy (wsX10_isIn) := ggX5_buy_X10_isIn
theorem dX5_buy_0 : decode cX5_buy 0 = .ok (.iconst 0, 1) := by decide +kernel
theorem dX5_buy_1 : decode cX5_buy 1 = .ok (.istore 5, 2) := by decide +kernel
theorem dX5_buy_3 : decode cX5_buy 3 = .ok (.iload 5, 2) := by decide +kernel
theorem dX5_buy_5 : decode cX5_buy 5 = .ok (.aload_n 0, 1) := by decide +kernel
theorem dX5_buy_6 : decode cX5_buy 6 = .ok (.getfield 19, 3) := by decide +kernel
theorem dX5_buy_9 : decode cX5_buy 9 = .ok (.arraylength, 1) := by decide +kernel
theorem dX5_buy_10 : decode cX5_buy 10 = .ok (.if_icmp .ge 30, 3) := by decide +kernel
theorem dX5_buy_13 : decode cX5_buy 13 = .ok (.iload_n 1, 1) := by decide +kernel
theorem dX5_buy_14 : decode cX5_buy 14 = .ok (.iload 5, 2) := by decide +kernel
theorem dX5_buy_16 : decode cX5_buy 16 = .ok (.invokestatic 36, 3) := by decide +kernel
theorem dX5_buy_19 : decode cX5_buy 19 = .ok (.ifCond .eq 15, 3) := by decide +kernel
theorem dX5_buy_22 : decode cX5_buy 22 = .ok (.aload_n 0, 1) := by decide +kernel
theorem dX5_buy_23 : decode cX5_buy 23 = .ok (.getfield 19, 3) := by decide +kernel
theorem dX5_buy_26 : decode cX5_buy 26 = .ok (.iload 5, 2) := by decide +kernel
theorem dX5_buy_28 : decode cX5_buy 28 = .ok (.dup2, 1) := by decide +kernel
theorem dX5_buy_29 : decode cX5_buy 29 = .ok (.laload, 1) := by decide +kernel
theorem dX5_buy_30 : decode cX5_buy 30 = .ok (.iload_n 2, 1) := by decide +kernel
theorem dX5_buy_31 : decode cX5_buy 31 = .ok (.i2l, 1) := by decide +kernel
theorem dX5_buy_32 : decode cX5_buy 32 = .ok (.ladd, 1) := by decide +kernel
theorem dX5_buy_33 : decode cX5_buy 33 = .ok (.lastore, 1) := by decide +kernel
theorem dX5_buy_34 : decode cX5_buy 34 = .ok (.iinc 5 1, 3) := by decide +kernel
theorem dX5_buy_37 : decode cX5_buy 37 = .ok (.goto (-34), 3) := by decide +kernel
theorem dX5_buy_40 : decode cX5_buy 40 = .ok (.aload_n 0, 1) := by decide +kernel
theorem dX5_buy_41 : decode cX5_buy 41 = .ok (.dup, 1) := by decide +kernel
theorem dX5_buy_42 : decode cX5_buy 42 = .ok (.getfield 15, 3) := by decide +kernel
theorem dX5_buy_45 : decode cX5_buy 45 = .ok (.lload_n 3, 1) := by decide +kernel
theorem dX5_buy_46 : decode cX5_buy 46 = .ok (.lsub, 1) := by decide +kernel
theorem dX5_buy_47 : decode cX5_buy 47 = .ok (.putfield 15, 3) := by decide +kernel
theorem dX5_buy_50 : decode cX5_buy 50 = .ok (.aload_n 0, 1) := by decide +kernel
theorem dX5_buy_51 : decode cX5_buy 51 = .ok (.dup, 1) := by decide +kernel
theorem dX5_buy_52 : decode cX5_buy 52 = .ok (.getfield 33, 3) := by decide +kernel
theorem dX5_buy_55 : decode cX5_buy 55 = .ok (.iconst 1, 1) := by decide +kernel
theorem dX5_buy_56 : decode cX5_buy 56 = .ok (.iadd, 1) := by decide +kernel
theorem dX5_buy_57 : decode cX5_buy 57 = .ok (.putfield 33, 3) := by decide +kernel
theorem dX5_buy_60 : decode cX5_buy 60 = .ok (.return_, 1) := by decide +kernel
set_option maxRecDepth 20000 in
theorem ggX5_settle_X5_heldOf : GoodIn wsX5_settle wsX5_heldOf := goodIn_r _ [7, 2, 16, 17, 18, 19, 20, 21, 22, 23, 24, 25, 26, 27, 28, 29, 30] (by decide +kernel) (by decide +kernel)
set_option maxRecDepth 20000 in
theorem gX5_settle_X5_heldOf : GoodIn wsX5_settle (wsV RX5 50 RX5 yX5_heldOf wsX5_heldOf) := goodIn_app (goodIn_of _ (by decide +kernel)) ggX5_settle_X5_heldOf
set_option maxRecDepth 20000 in
theorem gX5_settle_X5_heldOf_u50X7 : GoodIn wsX5_settle (va_wsU RX5 50 RX7 "BetMaker$Plain" ⟨"BetMaker$Plain", "heldOf", "(I)J"⟩ yX5_heldOf wsX5_heldOf) := goodIn_app (goodIn_of _ (by decide +kernel)) ggX5_settle_X5_heldOf
set_option maxRecDepth 20000 in
theorem gX5_settle_X5_heldOf_u50X9 : GoodIn wsX5_settle (va_wsU RX5 50 RX9 "BetMaker$Plain" ⟨"BetMaker$Plain", "heldOf", "(I)J"⟩ yX5_heldOf wsX5_heldOf) := goodIn_app (goodIn_of _ (by decide +kernel)) ggX5_settle_X5_heldOf
set_option maxRecDepth 20000 in
theorem ggX5_settle_J7_fill_d0a16 : GoodIn wsX5_settle wsJ7_fill_d0a16 := goodIn_r _ [15] (by decide +kernel) (by decide +kernel)
set_option maxRecDepth 20000 in
theorem gX5_settle_J7_fill_d0a16 : GoodIn wsX5_settle (va_wsS RX5 54 yJ7_fill_d0a16 wsJ7_fill_d0a16) := goodIn_app (goodIn_of _ (by decide +kernel)) ggX5_settle_J7_fill_d0a16
theorem dX5_settle_0 : decode cX5_settle 0 = .ok (.lload_n 2, 1) := by decide +kernel
theorem dX5_settle_1 : decode cX5_settle 1 = .ok (.aload_n 0, 1) := by decide +kernel
theorem dX5_settle_2 : decode cX5_settle 2 = .ok (.iload_n 1, 1) := by decide +kernel
theorem dX5_settle_3 : decode cX5_settle 3 = .ok (.invokevirtual 50, 3) := by decide +kernel
theorem dX5_settle_6 : decode cX5_settle 6 = .ok (.lmul, 1) := by decide +kernel
theorem dX5_settle_7 : decode cX5_settle 7 = .ok (.lstore 4, 2) := by decide +kernel
theorem dX5_settle_9 : decode cX5_settle 9 = .ok (.aload_n 0, 1) := by decide +kernel
theorem dX5_settle_10 : decode cX5_settle 10 = .ok (.dup, 1) := by decide +kernel
theorem dX5_settle_11 : decode cX5_settle 11 = .ok (.getfield 15, 3) := by decide +kernel
theorem dX5_settle_14 : decode cX5_settle 14 = .ok (.lload 4, 2) := by decide +kernel
theorem dX5_settle_16 : decode cX5_settle 16 = .ok (.ladd, 1) := by decide +kernel
theorem dX5_settle_17 : decode cX5_settle 17 = .ok (.putfield 15, 3) := by decide +kernel
theorem dX5_settle_20 : decode cX5_settle 20 = .ok (.aload_n 0, 1) := by decide +kernel
theorem dX5_settle_21 : decode cX5_settle 21 = .ok (.getfield 19, 3) := by decide +kernel
theorem dX5_settle_24 : decode cX5_settle 24 = .ok (.lconst 0, 1) := by decide +kernel
theorem dX5_settle_25 : decode cX5_settle 25 = .ok (.invokestatic 54, 3) := by decide +kernel
theorem dX5_settle_28 : decode cX5_settle 28 = .ok (.lload 4, 2) := by decide +kernel
theorem dX5_settle_30 : decode cX5_settle 30 = .ok (.lreturn, 1) := by decide +kernel
set_option maxRecDepth 20000 in
theorem ggX5_telling_X5_plainTelling : GoodIn wsX5_telling wsX5_plainTelling := goodIn_r _ [5, 6, 7, 8, 9, 10, 11, 12, 17, 18, 19, 20, 21, 22, 23, 24, 25, 26, 27, 28, 29, 30, 31, 32] (by decide +kernel) (by decide +kernel)
set_option maxRecDepth 20000 in
theorem gX5_telling_X5_plainTelling : GoodIn wsX5_telling (wsV RX5 57 RX5 yX5_plainTelling wsX5_plainTelling) := goodIn_app (goodIn_of _ (by decide +kernel)) ggX5_telling_X5_plainTelling
set_option maxRecDepth 20000 in
theorem gX5_telling_X5_plainTelling_u57X7 : GoodIn wsX5_telling (va_wsU RX5 57 RX7 "BetMaker$Plain" ⟨"BetMaker$Plain", "plainTelling", "(LBetMaker$Trace;)I"⟩ yX5_plainTelling wsX5_plainTelling) := goodIn_app (goodIn_of _ (by decide +kernel)) ggX5_telling_X5_plainTelling
set_option maxRecDepth 20000 in
theorem gX5_telling_X5_plainTelling_u57X9 : GoodIn wsX5_telling (va_wsU RX5 57 RX9 "BetMaker$Plain" ⟨"BetMaker$Plain", "plainTelling", "(LBetMaker$Trace;)I"⟩ yX5_plainTelling wsX5_plainTelling) := goodIn_app (goodIn_of _ (by decide +kernel)) ggX5_telling_X5_plainTelling
theorem dX5_telling_0 : decode cX5_telling 0 = .ok (.aload_n 0, 1) := by decide +kernel
theorem dX5_telling_1 : decode cX5_telling 1 = .ok (.aload_n 1, 1) := by decide +kernel
theorem dX5_telling_2 : decode cX5_telling 2 = .ok (.invokevirtual 57, 3) := by decide +kernel
theorem dX5_telling_5 : decode cX5_telling 5 = .ok (.ireturn, 1) := by decide +kernel
set_option maxRecDepth 20000 in
theorem ggX5_plainTelling_X8_leave : GoodIn wsX5_plainTelling wsX8_leave := goodIn_r _ [6, 7, 23] (by decide +kernel) (by decide +kernel)
set_option maxRecDepth 20000 in
theorem gX5_plainTelling_X8_leave : GoodIn wsX5_plainTelling (wsV RX5 61 RX8 yX8_leave wsX8_leave) := goodIn_app (goodIn_of _ (by decide +kernel)) ggX5_plainTelling_X8_leave
theorem dX5_plainTelling_0 : decode cX5_plainTelling 0 = .ok (.aload_n 1, 1) := by decide +kernel
theorem dX5_plainTelling_1 : decode cX5_plainTelling 1 = .ok (.iconst 1, 1) := by decide +kernel
theorem dX5_plainTelling_2 : decode cX5_plainTelling 2 = .ok (.invokevirtual 61, 3) := by decide +kernel
theorem dX5_plainTelling_5 : decode cX5_plainTelling 5 = .ok (.aload_n 0, 1) := by decide +kernel
theorem dX5_plainTelling_6 : decode cX5_plainTelling 6 = .ok (.getfield 33, 3) := by decide +kernel
theorem dX5_plainTelling_9 : decode cX5_plainTelling 9 = .ok (.ireturn, 1) := by decide +kernel
set_option maxRecDepth 20000 in
theorem ggX5_greeting_X8_leave : GoodIn wsX5_greeting wsX8_leave := goodIn_r _ [6, 7, 23] (by decide +kernel) (by decide +kernel)
set_option maxRecDepth 20000 in
theorem gX5_greeting_X8_leave : GoodIn wsX5_greeting (wsV RX5 61 RX8 yX8_leave wsX8_leave) := goodIn_app (goodIn_of _ (by decide +kernel)) ggX5_greeting_X8_leave
theorem dX5_greeting_0 : decode cX5_greeting 0 = .ok (.aload_n 1, 1) := by decide +kernel
theorem dX5_greeting_1 : decode cX5_greeting 1 = .ok (.iconst 4, 1) := by decide +kernel
theorem dX5_greeting_2 : decode cX5_greeting 2 = .ok (.invokevirtual 61, 3) := by decide +kernel
theorem dX5_greeting_5 : decode cX5_greeting 5 = .ok (.aload_n 0, 1) := by decide +kernel
theorem dX5_greeting_6 : decode cX5_greeting 6 = .ok (.getfield 9, 3) := by decide +kernel
theorem dX5_greeting_9 : decode cX5_greeting 9 = .ok (.ireturn, 1) := by decide +kernel
theorem dX6_init_0 : decode cX6_init 0 = .ok (.aload_n 0, 1) := by decide +kernel
theorem dX6_init_1 : decode cX6_init 1 = .ok (.invokespecial 3, 3) := by decide +kernel
theorem dX6_init_4 : decode cX6_init 4 = .ok (.aload_n 0, 1) := by decide +kernel
theorem dX6_init_5 : decode cX6_init 5 = .ok (.bipush 24, 2) := by decide +kernel
theorem dX6_init_7 : decode cX6_init 7 = .ok (.newarray .int, 2) := by decide +kernel
theorem dX6_init_9 : decode cX6_init 9 = .ok (.putfield 9, 3) := by decide +kernel
theorem dX6_init_12 : decode cX6_init 12 = .ok (.return_, 1) := by decide +kernel
set_option maxRecDepth 20000 in
theorem ggX6_renew_J7_fill_53178 : GoodIn wsX6_renew wsJ7_fill_53178 := goodIn_r _ [8] (by decide +kernel) (by decide +kernel)
set_option maxRecDepth 20000 in
theorem gX6_renew_J7_fill_53178 : GoodIn wsX6_renew (va_wsS RX6 15 yJ7_fill_53178 wsJ7_fill_53178) := goodIn_app (goodIn_of _ (by decide +kernel)) ggX6_renew_J7_fill_53178
theorem dX6_renew_0 : decode cX6_renew 0 = .ok (.aload_n 0, 1) := by decide +kernel
theorem dX6_renew_1 : decode cX6_renew 1 = .ok (.getfield 9, 3) := by decide +kernel
theorem dX6_renew_4 : decode cX6_renew 4 = .ok (.iconst 0, 1) := by decide +kernel
theorem dX6_renew_5 : decode cX6_renew 5 = .ok (.invokestatic 15, 3) := by decide +kernel
theorem dX6_renew_8 : decode cX6_renew 8 = .ok (.aload_n 0, 1) := by decide +kernel
theorem dX6_renew_9 : decode cX6_renew 9 = .ok (.iconst 1, 1) := by decide +kernel
theorem dX6_renew_10 : decode cX6_renew 10 = .ok (.putfield 21, 3) := by decide +kernel
theorem dX6_renew_13 : decode cX6_renew 13 = .ok (.aload_n 0, 1) := by decide +kernel
theorem dX6_renew_14 : decode cX6_renew 14 = .ok (.iload_n 1, 1) := by decide +kernel
theorem dX6_renew_15 : decode cX6_renew 15 = .ok (.putfield 25, 3) := by decide +kernel
theorem dX6_renew_18 : decode cX6_renew 18 = .ok (.aload_n 0, 1) := by decide +kernel
theorem dX6_renew_19 : decode cX6_renew 19 = .ok (.iload_n 2, 1) := by decide +kernel
theorem dX6_renew_20 : decode cX6_renew 20 = .ok (.putfield 29, 3) := by decide +kernel
theorem dX6_renew_23 : decode cX6_renew 23 = .ok (.return_, 1) := by decide +kernel
theorem dX6_drop_0 : decode cX6_drop 0 = .ok (.aload_n 0, 1) := by decide +kernel
theorem dX6_drop_1 : decode cX6_drop 1 = .ok (.getfield 21, 3) := by decide +kernel
theorem dX6_drop_4 : decode cX6_drop 4 = .ok (.istore_n 1, 1) := by decide +kernel
theorem dX6_drop_5 : decode cX6_drop 5 = .ok (.aload_n 0, 1) := by decide +kernel
theorem dX6_drop_6 : decode cX6_drop 6 = .ok (.iconst 0, 1) := by decide +kernel
theorem dX6_drop_7 : decode cX6_drop 7 = .ok (.putfield 21, 3) := by decide +kernel
theorem dX6_drop_10 : decode cX6_drop 10 = .ok (.iload_n 1, 1) := by decide +kernel
theorem dX6_drop_11 : decode cX6_drop 11 = .ok (.ireturn, 1) := by decide +kernel
theorem dX6_reachFault_0 : decode cX6_reachFault 0 = .ok (.aload_n 0, 1) := by decide +kernel
theorem dX6_reachFault_1 : decode cX6_reachFault 1 = .ok (.getfield 21, 3) := by decide +kernel
theorem dX6_reachFault_4 : decode cX6_reachFault 4 = .ok (.ifCond .ne 5, 3) := by decide +kernel
theorem dX6_reachFault_7 : decode cX6_reachFault 7 = .ok (.iconst 1, 1) := by decide +kernel
theorem dX6_reachFault_8 : decode cX6_reachFault 8 = .ok (.ireturn, 1) := by decide +kernel
theorem dX6_reachFault_9 : decode cX6_reachFault 9 = .ok (.iload_n 1, 1) := by decide +kernel
theorem dX6_reachFault_10 : decode cX6_reachFault 10 = .ok (.ifCond .lt 13, 3) := by decide +kernel
theorem dX6_reachFault_13 : decode cX6_reachFault 13 = .ok (.iload_n 1, 1) := by decide +kernel
theorem dX6_reachFault_14 : decode cX6_reachFault 14 = .ok (.aload_n 0, 1) := by decide +kernel
theorem dX6_reachFault_15 : decode cX6_reachFault 15 = .ok (.getfield 29, 3) := by decide +kernel
theorem dX6_reachFault_18 : decode cX6_reachFault 18 = .ok (.iload_n 2, 1) := by decide +kernel
theorem dX6_reachFault_19 : decode cX6_reachFault 19 = .ok (.isub, 1) := by decide +kernel
theorem dX6_reachFault_20 : decode cX6_reachFault 20 = .ok (.if_icmp .le 7, 3) := by decide +kernel
theorem dX6_reachFault_23 : decode cX6_reachFault 23 = .ok (.iconst 3, 1) := by decide +kernel
theorem dX6_reachFault_24 : decode cX6_reachFault 24 = .ok (.goto 4, 3) := by decide +kernel
theorem dX6_reachFault_27 : decode cX6_reachFault 27 = .ok (.iconst 0, 1) := by decide +kernel
theorem dX6_reachFault_28 : decode cX6_reachFault 28 = .ok (.ireturn, 1) := by decide +kernel
set_option maxRecDepth 20000 in
theorem ggX6_readFault_X6_reachFault : GoodIn wsX6_readFault wsX6_reachFault := goodIn_r _ [7, 1, 8, 9, 10, 11, 12] (by decide +kernel) (by decide +kernel)
set_option maxRecDepth 20000 in
theorem gX6_readFault_X6_reachFault : GoodIn wsX6_readFault (wsV RX6 32 RX6 yX6_reachFault wsX6_reachFault) := goodIn_app (goodIn_of _ (by decide +kernel)) ggX6_readFault_X6_reachFault
theorem dX6_readFault_0 : decode cX6_readFault 0 = .ok (.aload_n 0, 1) := by decide +kernel
theorem dX6_readFault_1 : decode cX6_readFault 1 = .ok (.getfield 21, 3) := by decide +kernel
theorem dX6_readFault_4 : decode cX6_readFault 4 = .ok (.ifCond .eq 15, 3) := by decide +kernel
theorem dX6_readFault_7 : decode cX6_readFault 7 = .ok (.aload_n 0, 1) := by decide +kernel
theorem dX6_readFault_8 : decode cX6_readFault 8 = .ok (.getfield 25, 3) := by decide +kernel
theorem dX6_readFault_11 : decode cX6_readFault 11 = .ok (.iload_n 1, 1) := by decide +kernel
theorem dX6_readFault_12 : decode cX6_readFault 12 = .ok (.if_icmp .eq 7, 3) := by decide +kernel
theorem dX6_readFault_15 : decode cX6_readFault 15 = .ok (.iconst 2, 1) := by decide +kernel
theorem dX6_readFault_16 : decode cX6_readFault 16 = .ok (.goto 9, 3) := by decide +kernel
theorem dX6_readFault_19 : decode cX6_readFault 19 = .ok (.aload_n 0, 1) := by decide +kernel
theorem dX6_readFault_20 : decode cX6_readFault 20 = .ok (.iload_n 2, 1) := by decide +kernel
theorem dX6_readFault_21 : decode cX6_readFault 21 = .ok (.iload_n 3, 1) := by decide +kernel
theorem dX6_readFault_22 : decode cX6_readFault 22 = .ok (.invokevirtual 32, 3) := by decide +kernel
theorem dX6_readFault_25 : decode cX6_readFault 25 = .ok (.ireturn, 1) := by decide +kernel
set_option maxRecDepth 20000 in
theorem ggX6_write_X6_cut : GoodIn wsX6_write wsX6_cut := goodIn_r _ [7, 8, 9, 10, 11, 12] (by decide +kernel) (by decide +kernel)
set_option maxRecDepth 20000 in
theorem gX6_write_X6_cut : GoodIn wsX6_write (wsV RX6 36 RX6 yX6_cut wsX6_cut) := goodIn_app (goodIn_of _ (by decide +kernel)) ggX6_write_X6_cut
theorem dX6_write_0 : decode cX6_write 0 = .ok (.iload_n 1, 1) := by decide +kernel
theorem dX6_write_1 : decode cX6_write 1 = .ok (.ifCond .lt 28, 3) := by decide +kernel
theorem dX6_write_4 : decode cX6_write 4 = .ok (.iload_n 1, 1) := by decide +kernel
theorem dX6_write_5 : decode cX6_write 5 = .ok (.aload_n 0, 1) := by decide +kernel
theorem dX6_write_6 : decode cX6_write 6 = .ok (.getfield 29, 3) := by decide +kernel
theorem dX6_write_9 : decode cX6_write 9 = .ok (.if_icmp .ge 20, 3) := by decide +kernel
theorem dX6_write_12 : decode cX6_write 12 = .ok (.iload_n 1, 1) := by decide +kernel
theorem dX6_write_13 : decode cX6_write 13 = .ok (.bipush 24, 2) := by decide +kernel
theorem dX6_write_15 : decode cX6_write 15 = .ok (.if_icmp .ge 14, 3) := by decide +kernel
theorem dX6_write_18 : decode cX6_write 18 = .ok (.aload_n 0, 1) := by decide +kernel
theorem dX6_write_19 : decode cX6_write 19 = .ok (.getfield 9, 3) := by decide +kernel
theorem dX6_write_22 : decode cX6_write 22 = .ok (.iload_n 1, 1) := by decide +kernel
theorem dX6_write_23 : decode cX6_write 23 = .ok (.aload_n 0, 1) := by decide +kernel
theorem dX6_write_24 : decode cX6_write 24 = .ok (.iload_n 2, 1) := by decide +kernel
theorem dX6_write_25 : decode cX6_write 25 = .ok (.invokevirtual 36, 3) := by decide +kernel
theorem dX6_write_28 : decode cX6_write 28 = .ok (.iastore, 1) := by decide +kernel
theorem dX6_write_29 : decode cX6_write 29 = .ok (.return_, 1) := by decide +kernel
theorem dX6_read_0 : decode cX6_read 0 = .ok (.iload_n 1, 1) := by decide +kernel
theorem dX6_read_1 : decode cX6_read 1 = .ok (.ifCond .lt 26, 3) := by decide +kernel
theorem dX6_read_4 : decode cX6_read 4 = .ok (.iload_n 1, 1) := by decide +kernel
theorem dX6_read_5 : decode cX6_read 5 = .ok (.aload_n 0, 1) := by decide +kernel
theorem dX6_read_6 : decode cX6_read 6 = .ok (.getfield 29, 3) := by decide +kernel
theorem dX6_read_9 : decode cX6_read 9 = .ok (.if_icmp .ge 18, 3) := by decide +kernel
theorem dX6_read_12 : decode cX6_read 12 = .ok (.iload_n 1, 1) := by decide +kernel
theorem dX6_read_13 : decode cX6_read 13 = .ok (.bipush 24, 2) := by decide +kernel
theorem dX6_read_15 : decode cX6_read 15 = .ok (.if_icmp .ge 12, 3) := by decide +kernel
theorem dX6_read_18 : decode cX6_read 18 = .ok (.aload_n 0, 1) := by decide +kernel
theorem dX6_read_19 : decode cX6_read 19 = .ok (.getfield 9, 3) := by decide +kernel
theorem dX6_read_22 : decode cX6_read 22 = .ok (.iload_n 1, 1) := by decide +kernel
theorem dX6_read_23 : decode cX6_read 23 = .ok (.iaload, 1) := by decide +kernel
theorem dX6_read_24 : decode cX6_read 24 = .ok (.goto 4, 3) := by decide +kernel
theorem dX6_read_27 : decode cX6_read 27 = .ok (.iconst 0, 1) := by decide +kernel
theorem dX6_read_28 : decode cX6_read 28 = .ok (.ireturn, 1) := by decide +kernel
theorem dX6_cut_0 : decode cX6_cut 0 = .ok (.aload_n 0, 1) := by decide +kernel
theorem dX6_cut_1 : decode cX6_cut 1 = .ok (.getfield 25, 3) := by decide +kernel
theorem dX6_cut_4 : decode cX6_cut 4 = .ok (.lookupswitch 34 #[(0, 28), (1, 31)], 28) := by decide +kernel
theorem dX6_cut_32 : decode cX6_cut 32 = .ok (.iload_n 1, 1) := by decide +kernel
theorem dX6_cut_33 : decode cX6_cut 33 = .ok (.i2b, 1) := by decide +kernel
theorem dX6_cut_34 : decode cX6_cut 34 = .ok (.ireturn, 1) := by decide +kernel
theorem dX6_cut_35 : decode cX6_cut 35 = .ok (.iload_n 1, 1) := by decide +kernel
theorem dX6_cut_36 : decode cX6_cut 36 = .ok (.i2s, 1) := by decide +kernel
theorem dX6_cut_37 : decode cX6_cut 37 = .ok (.ireturn, 1) := by decide +kernel
theorem dX6_cut_38 : decode cX6_cut 38 = .ok (.iload_n 1, 1) := by decide +kernel
theorem dX6_cut_39 : decode cX6_cut 39 = .ok (.ireturn, 1) := by decide +kernel
set_option maxRecDepth 20000 in
theorem ggX7_init_X9_init : GoodIn wsX7_init wsX9_init := goodIn_r _ [4, 5, 6, 7, 8, 9, 10, 11, 12, 13, 14, 15, 16, 17, 18, 19, 20, 21, 22, 23, 24, 25, 26, 27, 28, 29, 30, 31, 32, 33, 34, 35, 36] (by decide +kernel) (by decide +kernel)
set_option maxRecDepth 20000 in
theorem gX7_init_X9_init : GoodIn wsX7_init (wsX9_init) := ggX7_init_X9_init
theorem dX7_init_0 : decode cX7_init 0 = .ok (.aload_n 0, 1) := by decide +kernel
theorem dX7_init_1 : decode cX7_init 1 = .ok (.iload_n 1, 1) := by decide +kernel
theorem dX7_init_2 : decode cX7_init 2 = .ok (.lload_n 2, 1) := by decide +kernel
theorem dX7_init_3 : decode cX7_init 3 = .ok (.iload 4, 2) := by decide +kernel
theorem dX7_init_5 : decode cX7_init 5 = .ok (.invokespecial 3, 3) := by decide +kernel
theorem dX7_init_8 : decode cX7_init 8 = .ok (.return_, 1) := by decide +kernel
theorem dX7_kind_0 : decode cX7_kind 0 = .ok (.iconst 2, 1) := by decide +kernel
theorem dX7_kind_1 : decode cX7_kind 1 = .ok (.ireturn, 1) := by decide +kernel
set_option maxRecDepth 20000 in
theorem ggX7_telling_X8_leave : GoodIn wsX7_telling wsX8_leave := goodIn_r _ [5, 6, 26] (by decide +kernel) (by decide +kernel)
set_option maxRecDepth 20000 in
theorem gX7_telling_X8_leave : GoodIn wsX7_telling (wsV RX7 9 RX8 yX8_leave wsX8_leave) := goodIn_app (goodIn_of _ (by decide +kernel)) ggX7_telling_X8_leave
set_option maxRecDepth 20000 in
theorem ggX7_telling_X9_telling : GoodIn wsX7_telling wsX9_telling := goodIn_r _ [12, 13, 2, 3, 4, 5, 6, 14, 15, 16, 17, 18, 19, 20, 21, 22, 26, 27, 28, 29, 30, 31, 32, 33, 34, 35, 36, 37, 38, 39, 40, 41] (by decide +kernel) (by decide +kernel)
set_option maxRecDepth 20000 in
theorem gX7_telling_X9_telling_s15 : GoodIn wsX7_telling (va_wsSU RX7 15 yX9_telling wsX9_telling) := goodIn_app (goodIn_of _ (by decide +kernel)) ggX7_telling_X9_telling
set_option maxRecDepth 20000 in
theorem ggX7_telling_X5_plainTelling : GoodIn wsX7_telling wsX5_plainTelling := goodIn_r _ [19, 20, 21, 2, 3, 4, 5, 6, 27, 28, 29, 30, 31, 32, 33, 34, 35, 36, 37, 38, 39, 40, 41, 26] (by decide +kernel) (by decide +kernel)
set_option maxRecDepth 20000 in
theorem gX7_telling_X5_plainTelling_u19X7 : GoodIn wsX7_telling (va_wsU RX7 19 RX7 "BetMaker$Plain" ⟨"BetMaker$Sure", "plainTelling", "(LBetMaker$Trace;)I"⟩ yX5_plainTelling wsX5_plainTelling) := goodIn_app (goodIn_of _ (by decide +kernel)) ggX7_telling_X5_plainTelling
theorem dX7_telling_0 : decode cX7_telling 0 = .ok (.aload_n 1, 1) := by decide +kernel
theorem dX7_telling_1 : decode cX7_telling 1 = .ok (.iconst 3, 1) := by decide +kernel
theorem dX7_telling_2 : decode cX7_telling 2 = .ok (.invokevirtual 9, 3) := by decide +kernel
theorem dX7_telling_5 : decode cX7_telling 5 = .ok (.aload_n 0, 1) := by decide +kernel
theorem dX7_telling_6 : decode cX7_telling 6 = .ok (.aload_n 1, 1) := by decide +kernel
theorem dX7_telling_7 : decode cX7_telling 7 = .ok (.invokespecial 15, 3) := by decide +kernel
theorem dX7_telling_10 : decode cX7_telling 10 = .ok (.istore_n 2, 1) := by decide +kernel
theorem dX7_telling_11 : decode cX7_telling 11 = .ok (.iload_n 2, 1) := by decide +kernel
theorem dX7_telling_12 : decode cX7_telling 12 = .ok (.aload_n 0, 1) := by decide +kernel
theorem dX7_telling_13 : decode cX7_telling 13 = .ok (.aload_n 1, 1) := by decide +kernel
theorem dX7_telling_14 : decode cX7_telling 14 = .ok (.invokevirtual 19, 3) := by decide +kernel
theorem dX7_telling_17 : decode cX7_telling 17 = .ok (.iadd, 1) := by decide +kernel
theorem dX7_telling_18 : decode cX7_telling 18 = .ok (.ireturn, 1) := by decide +kernel
set_option maxRecDepth 20000 in
theorem ggX7_greeting_X8_leave : GoodIn wsX7_greeting wsX8_leave := goodIn_r _ [5, 6, 7] (by decide +kernel) (by decide +kernel)
set_option maxRecDepth 20000 in
theorem gX7_greeting_X8_leave : GoodIn wsX7_greeting (wsV RX7 9 RX8 yX8_leave wsX8_leave) := goodIn_app (goodIn_of _ (by decide +kernel)) ggX7_greeting_X8_leave
theorem dX7_greeting_0 : decode cX7_greeting 0 = .ok (.aload_n 1, 1) := by decide +kernel
theorem dX7_greeting_1 : decode cX7_greeting 1 = .ok (.iconst 5, 1) := by decide +kernel
theorem dX7_greeting_2 : decode cX7_greeting 2 = .ok (.invokevirtual 9, 3) := by decide +kernel
theorem dX7_greeting_5 : decode cX7_greeting 5 = .ok (.bipush 90, 2) := by decide +kernel
theorem dX7_greeting_7 : decode cX7_greeting 7 = .ok (.ireturn, 1) := by decide +kernel
theorem dX8_init_0 : decode cX8_init 0 = .ok (.aload_n 0, 1) := by decide +kernel
theorem dX8_init_1 : decode cX8_init 1 = .ok (.invokespecial 1, 3) := by decide +kernel
theorem dX8_init_4 : decode cX8_init 4 = .ok (.return_, 1) := by decide +kernel
theorem dX8_leave_0 : decode cX8_leave 0 = .ok (.aload_n 0, 1) := by decide +kernel
theorem dX8_leave_1 : decode cX8_leave 1 = .ok (.bipush 31, 2) := by decide +kernel
theorem dX8_leave_3 : decode cX8_leave 3 = .ok (.aload_n 0, 1) := by decide +kernel
theorem dX8_leave_4 : decode cX8_leave 4 = .ok (.getfield 7, 3) := by decide +kernel
theorem dX8_leave_7 : decode cX8_leave 7 = .ok (.imul, 1) := by decide +kernel
theorem dX8_leave_8 : decode cX8_leave 8 = .ok (.iload_n 1, 1) := by decide +kernel
theorem dX8_leave_9 : decode cX8_leave 9 = .ok (.iadd, 1) := by decide +kernel
theorem dX8_leave_10 : decode cX8_leave 10 = .ok (.putfield 7, 3) := by decide +kernel
theorem dX8_leave_13 : decode cX8_leave 13 = .ok (.return_, 1) := by decide +kernel
theorem dX8_value_0 : decode cX8_value 0 = .ok (.aload_n 0, 1) := by decide +kernel
theorem dX8_value_1 : decode cX8_value 1 = .ok (.getfield 7, 3) := by decide +kernel
theorem dX8_value_4 : decode cX8_value 4 = .ok (.ireturn, 1) := by decide +kernel
set_option maxRecDepth 20000 in
theorem ggX9_init_X5_init : GoodIn wsX9_init wsX5_init := goodIn_r _ [4, 5, 6, 7, 8, 9, 10, 11, 12, 13, 14, 15, 16, 17, 18, 19, 20, 21, 22, 23, 24, 25, 26, 27, 28, 29, 30, 31, 32] (by decide +kernel) (by decide +kernel)
set_option maxRecDepth 20000 in
theorem gX9_init_X5_init : GoodIn wsX9_init (wsX5_init) := ggX9_init_X5_init
theorem dX9_init_0 : decode cX9_init 0 = .ok (.aload_n 0, 1) := by decide +kernel
theorem dX9_init_1 : decode cX9_init 1 = .ok (.iload_n 1, 1) := by decide +kernel
theorem dX9_init_2 : decode cX9_init 2 = .ok (.lload_n 2, 1) := by decide +kernel
theorem dX9_init_3 : decode cX9_init 3 = .ok (.iload 4, 2) := by decide +kernel
theorem dX9_init_5 : decode cX9_init 5 = .ok (.invokespecial 3, 3) := by decide +kernel
theorem dX9_init_8 : decode cX9_init 8 = .ok (.return_, 1) := by decide +kernel
theorem dX9_kind_0 : decode cX9_kind 0 = .ok (.iconst 1, 1) := by decide +kernel
theorem dX9_kind_1 : decode cX9_kind 1 = .ok (.ireturn, 1) := by decide +kernel
set_option maxRecDepth 20000 in
theorem ggX9_telling_X8_leave : GoodIn wsX9_telling wsX8_leave := goodIn_r _ [5, 6, 16] (by decide +kernel) (by decide +kernel)
set_option maxRecDepth 20000 in
theorem gX9_telling_X8_leave : GoodIn wsX9_telling (wsV RX9 9 RX8 yX8_leave wsX8_leave) := goodIn_app (goodIn_of _ (by decide +kernel)) ggX9_telling_X8_leave
set_option maxRecDepth 20000 in
theorem ggX9_telling_X5_plainTelling : GoodIn wsX9_telling wsX5_plainTelling := goodIn_r _ [12, 13, 14, 2, 3, 4, 5, 6, 17, 18, 19, 20, 21, 22, 23, 24, 25, 26, 27, 28, 29, 30, 31, 16] (by decide +kernel) (by decide +kernel)
set_option maxRecDepth 20000 in
theorem gX9_telling_X5_plainTelling_u15X7 : GoodIn wsX9_telling (va_wsU RX9 15 RX7 "BetMaker$Plain" ⟨"BetMaker$Wary", "plainTelling", "(LBetMaker$Trace;)I"⟩ yX5_plainTelling wsX5_plainTelling) := goodIn_app (goodIn_of _ (by decide +kernel)) ggX9_telling_X5_plainTelling
set_option maxRecDepth 20000 in
theorem gX9_telling_X5_plainTelling_u15X9 : GoodIn wsX9_telling (va_wsU RX9 15 RX9 "BetMaker$Plain" ⟨"BetMaker$Wary", "plainTelling", "(LBetMaker$Trace;)I"⟩ yX5_plainTelling wsX5_plainTelling) := goodIn_app (goodIn_of _ (by decide +kernel)) ggX9_telling_X5_plainTelling
theorem dX9_telling_0 : decode cX9_telling 0 = .ok (.aload_n 1, 1) := by decide +kernel
theorem dX9_telling_1 : decode cX9_telling 1 = .ok (.iconst 2, 1) := by decide +kernel
theorem dX9_telling_2 : decode cX9_telling 2 = .ok (.invokevirtual 9, 3) := by decide +kernel
theorem dX9_telling_5 : decode cX9_telling 5 = .ok (.aload_n 0, 1) := by decide +kernel
theorem dX9_telling_6 : decode cX9_telling 6 = .ok (.aload_n 1, 1) := by decide +kernel
theorem dX9_telling_7 : decode cX9_telling 7 = .ok (.invokevirtual 15, 3) := by decide +kernel
theorem dX9_telling_10 : decode cX9_telling 10 = .ok (.bipush 100, 2) := by decide +kernel
theorem dX9_telling_12 : decode cX9_telling 12 = .ok (.iadd, 1) := by decide +kernel
theorem dX9_telling_13 : decode cX9_telling 13 = .ok (.ireturn, 1) := by decide +kernel
theorem dX10_isIn_0 : decode cX10_isIn 0 = .ok (.iload_n 0, 1) := by decide +kernel
theorem dX10_isIn_1 : decode cX10_isIn 1 = .ok (.iload_n 1, 1) := by decide +kernel
theorem dX10_isIn_2 : decode cX10_isIn 2 = .ok (.ishr, 1) := by decide +kernel
theorem dX10_isIn_3 : decode cX10_isIn 3 = .ok (.iconst 1, 1) := by decide +kernel
theorem dX10_isIn_4 : decode cX10_isIn 4 = .ok (.iand, 1) := by decide +kernel
theorem dX10_isIn_5 : decode cX10_isIn 5 = .ok (.ifCond .eq 7, 3) := by decide +kernel
theorem dX10_isIn_8 : decode cX10_isIn 8 = .ok (.iconst 1, 1) := by decide +kernel
theorem dX10_isIn_9 : decode cX10_isIn 9 = .ok (.goto 4, 3) := by decide +kernel
theorem dX10_isIn_12 : decode cX10_isIn 12 = .ok (.iconst 0, 1) := by decide +kernel
theorem dX10_isIn_13 : decode cX10_isIn 13 = .ok (.ireturn, 1) := by decide +kernel
theorem dJ6_bitCount_0f7a4_0 : decode cJ6_bitCount_0f7a4 0 = .ok (.iload_n 0, 1) := by decide +kernel
theorem dJ6_bitCount_0f7a4_1 : decode cJ6_bitCount_0f7a4 1 = .ok (.iload_n 0, 1) := by decide +kernel
theorem dJ6_bitCount_0f7a4_2 : decode cJ6_bitCount_0f7a4 2 = .ok (.iconst 1, 1) := by decide +kernel
theorem dJ6_bitCount_0f7a4_3 : decode cJ6_bitCount_0f7a4 3 = .ok (.iushr, 1) := by decide +kernel
theorem dJ6_bitCount_0f7a4_4 : decode cJ6_bitCount_0f7a4 4 = .ok (.ldc_w 265, 3) := by decide +kernel
theorem dJ6_bitCount_0f7a4_7 : decode cJ6_bitCount_0f7a4 7 = .ok (.iand, 1) := by decide +kernel
theorem dJ6_bitCount_0f7a4_8 : decode cJ6_bitCount_0f7a4 8 = .ok (.isub, 1) := by decide +kernel
theorem dJ6_bitCount_0f7a4_9 : decode cJ6_bitCount_0f7a4 9 = .ok (.istore_n 0, 1) := by decide +kernel
theorem dJ6_bitCount_0f7a4_10 : decode cJ6_bitCount_0f7a4 10 = .ok (.iload_n 0, 1) := by decide +kernel
theorem dJ6_bitCount_0f7a4_11 : decode cJ6_bitCount_0f7a4 11 = .ok (.ldc_w 266, 3) := by decide +kernel
theorem dJ6_bitCount_0f7a4_14 : decode cJ6_bitCount_0f7a4 14 = .ok (.iand, 1) := by decide +kernel
theorem dJ6_bitCount_0f7a4_15 : decode cJ6_bitCount_0f7a4 15 = .ok (.iload_n 0, 1) := by decide +kernel
theorem dJ6_bitCount_0f7a4_16 : decode cJ6_bitCount_0f7a4 16 = .ok (.iconst 2, 1) := by decide +kernel
theorem dJ6_bitCount_0f7a4_17 : decode cJ6_bitCount_0f7a4 17 = .ok (.iushr, 1) := by decide +kernel
theorem dJ6_bitCount_0f7a4_18 : decode cJ6_bitCount_0f7a4 18 = .ok (.ldc_w 266, 3) := by decide +kernel
theorem dJ6_bitCount_0f7a4_21 : decode cJ6_bitCount_0f7a4 21 = .ok (.iand, 1) := by decide +kernel
theorem dJ6_bitCount_0f7a4_22 : decode cJ6_bitCount_0f7a4 22 = .ok (.iadd, 1) := by decide +kernel
theorem dJ6_bitCount_0f7a4_23 : decode cJ6_bitCount_0f7a4 23 = .ok (.istore_n 0, 1) := by decide +kernel
theorem dJ6_bitCount_0f7a4_24 : decode cJ6_bitCount_0f7a4 24 = .ok (.iload_n 0, 1) := by decide +kernel
theorem dJ6_bitCount_0f7a4_25 : decode cJ6_bitCount_0f7a4 25 = .ok (.iload_n 0, 1) := by decide +kernel
theorem dJ6_bitCount_0f7a4_26 : decode cJ6_bitCount_0f7a4 26 = .ok (.iconst 4, 1) := by decide +kernel
theorem dJ6_bitCount_0f7a4_27 : decode cJ6_bitCount_0f7a4 27 = .ok (.iushr, 1) := by decide +kernel
theorem dJ6_bitCount_0f7a4_28 : decode cJ6_bitCount_0f7a4 28 = .ok (.iadd, 1) := by decide +kernel
theorem dJ6_bitCount_0f7a4_29 : decode cJ6_bitCount_0f7a4 29 = .ok (.ldc_w 267, 3) := by decide +kernel
theorem dJ6_bitCount_0f7a4_32 : decode cJ6_bitCount_0f7a4 32 = .ok (.iand, 1) := by decide +kernel
theorem dJ6_bitCount_0f7a4_33 : decode cJ6_bitCount_0f7a4 33 = .ok (.istore_n 0, 1) := by decide +kernel
theorem dJ6_bitCount_0f7a4_34 : decode cJ6_bitCount_0f7a4 34 = .ok (.iload_n 0, 1) := by decide +kernel
theorem dJ6_bitCount_0f7a4_35 : decode cJ6_bitCount_0f7a4 35 = .ok (.iload_n 0, 1) := by decide +kernel
theorem dJ6_bitCount_0f7a4_36 : decode cJ6_bitCount_0f7a4 36 = .ok (.bipush 8, 2) := by decide +kernel
theorem dJ6_bitCount_0f7a4_38 : decode cJ6_bitCount_0f7a4 38 = .ok (.iushr, 1) := by decide +kernel
theorem dJ6_bitCount_0f7a4_39 : decode cJ6_bitCount_0f7a4 39 = .ok (.iadd, 1) := by decide +kernel
theorem dJ6_bitCount_0f7a4_40 : decode cJ6_bitCount_0f7a4 40 = .ok (.istore_n 0, 1) := by decide +kernel
theorem dJ6_bitCount_0f7a4_41 : decode cJ6_bitCount_0f7a4 41 = .ok (.iload_n 0, 1) := by decide +kernel
theorem dJ6_bitCount_0f7a4_42 : decode cJ6_bitCount_0f7a4 42 = .ok (.iload_n 0, 1) := by decide +kernel
theorem dJ6_bitCount_0f7a4_43 : decode cJ6_bitCount_0f7a4 43 = .ok (.bipush 16, 2) := by decide +kernel
theorem dJ6_bitCount_0f7a4_45 : decode cJ6_bitCount_0f7a4 45 = .ok (.iushr, 1) := by decide +kernel
theorem dJ6_bitCount_0f7a4_46 : decode cJ6_bitCount_0f7a4 46 = .ok (.iadd, 1) := by decide +kernel
theorem dJ6_bitCount_0f7a4_47 : decode cJ6_bitCount_0f7a4 47 = .ok (.istore_n 0, 1) := by decide +kernel
theorem dJ6_bitCount_0f7a4_48 : decode cJ6_bitCount_0f7a4 48 = .ok (.iload_n 0, 1) := by decide +kernel
theorem dJ6_bitCount_0f7a4_49 : decode cJ6_bitCount_0f7a4 49 = .ok (.bipush 63, 2) := by decide +kernel
theorem dJ6_bitCount_0f7a4_51 : decode cJ6_bitCount_0f7a4 51 = .ok (.iand, 1) := by decide +kernel
theorem dJ6_bitCount_0f7a4_52 : decode cJ6_bitCount_0f7a4 52 = .ok (.ireturn, 1) := by decide +kernel
theorem dJ9_abs_067f4_0 : decode cJ9_abs_067f4 0 = .ok (.lload_n 0, 1) := by decide +kernel
theorem dJ9_abs_067f4_1 : decode cJ9_abs_067f4 1 = .ok (.lconst 0, 1) := by decide +kernel
theorem dJ9_abs_067f4_2 : decode cJ9_abs_067f4 2 = .ok (.lcmp, 1) := by decide +kernel
theorem dJ9_abs_067f4_3 : decode cJ9_abs_067f4 3 = .ok (.ifCond .ge 8, 3) := by decide +kernel
theorem dJ9_abs_067f4_6 : decode cJ9_abs_067f4 6 = .ok (.lload_n 0, 1) := by decide +kernel
theorem dJ9_abs_067f4_7 : decode cJ9_abs_067f4 7 = .ok (.lneg, 1) := by decide +kernel
theorem dJ9_abs_067f4_8 : decode cJ9_abs_067f4 8 = .ok (.goto 4, 3) := by decide +kernel
theorem dJ9_abs_067f4_11 : decode cJ9_abs_067f4 11 = .ok (.lload_n 0, 1) := by decide +kernel
theorem dJ9_abs_067f4_12 : decode cJ9_abs_067f4 12 = .ok (.lreturn, 1) := by decide +kernel
theorem dJ9_max_f86c9_0 : decode cJ9_max_f86c9 0 = .ok (.lload_n 0, 1) := by decide +kernel
theorem dJ9_max_f86c9_1 : decode cJ9_max_f86c9 1 = .ok (.lload_n 2, 1) := by decide +kernel
theorem dJ9_max_f86c9_2 : decode cJ9_max_f86c9 2 = .ok (.lcmp, 1) := by decide +kernel
theorem dJ9_max_f86c9_3 : decode cJ9_max_f86c9 3 = .ok (.ifCond .lt 7, 3) := by decide +kernel
theorem dJ9_max_f86c9_6 : decode cJ9_max_f86c9 6 = .ok (.lload_n 0, 1) := by decide +kernel
theorem dJ9_max_f86c9_7 : decode cJ9_max_f86c9 7 = .ok (.goto 4, 3) := by decide +kernel
theorem dJ9_max_f86c9_10 : decode cJ9_max_f86c9 10 = .ok (.lload_n 2, 1) := by decide +kernel
theorem dJ9_max_f86c9_11 : decode cJ9_max_f86c9 11 = .ok (.lreturn, 1) := by decide +kernel
theorem dJ9_min_7cf53_0 : decode cJ9_min_7cf53 0 = .ok (.iload_n 0, 1) := by decide +kernel
theorem dJ9_min_7cf53_1 : decode cJ9_min_7cf53 1 = .ok (.iload_n 1, 1) := by decide +kernel
theorem dJ9_min_7cf53_2 : decode cJ9_min_7cf53 2 = .ok (.if_icmp .gt 7, 3) := by decide +kernel
theorem dJ9_min_7cf53_5 : decode cJ9_min_7cf53 5 = .ok (.iload_n 0, 1) := by decide +kernel
theorem dJ9_min_7cf53_6 : decode cJ9_min_7cf53 6 = .ok (.goto 4, 3) := by decide +kernel
theorem dJ9_min_7cf53_9 : decode cJ9_min_7cf53 9 = .ok (.iload_n 1, 1) := by decide +kernel
theorem dJ9_min_7cf53_10 : decode cJ9_min_7cf53 10 = .ok (.ireturn, 1) := by decide +kernel
theorem dJ9_min_f86c9_0 : decode cJ9_min_f86c9 0 = .ok (.lload_n 0, 1) := by decide +kernel
theorem dJ9_min_f86c9_1 : decode cJ9_min_f86c9 1 = .ok (.lload_n 2, 1) := by decide +kernel
theorem dJ9_min_f86c9_2 : decode cJ9_min_f86c9 2 = .ok (.lcmp, 1) := by decide +kernel
theorem dJ9_min_f86c9_3 : decode cJ9_min_f86c9 3 = .ok (.ifCond .gt 7, 3) := by decide +kernel
theorem dJ9_min_f86c9_6 : decode cJ9_min_f86c9 6 = .ok (.lload_n 0, 1) := by decide +kernel
theorem dJ9_min_f86c9_7 : decode cJ9_min_f86c9 7 = .ok (.goto 4, 3) := by decide +kernel
theorem dJ9_min_f86c9_10 : decode cJ9_min_f86c9 10 = .ok (.lload_n 2, 1) := by decide +kernel
theorem dJ9_min_f86c9_11 : decode cJ9_min_f86c9 11 = .ok (.lreturn, 1) := by decide +kernel
theorem dJ7_fill_d0a16_0 : decode cJ7_fill_d0a16 0 = .ok (.iconst 0, 1) := by decide +kernel
theorem dJ7_fill_d0a16_1 : decode cJ7_fill_d0a16 1 = .ok (.istore_n 3, 1) := by decide +kernel
theorem dJ7_fill_d0a16_2 : decode cJ7_fill_d0a16 2 = .ok (.aload_n 0, 1) := by decide +kernel
theorem dJ7_fill_d0a16_3 : decode cJ7_fill_d0a16 3 = .ok (.arraylength, 1) := by decide +kernel
theorem dJ7_fill_d0a16_4 : decode cJ7_fill_d0a16 4 = .ok (.istore 4, 2) := by decide +kernel
theorem dJ7_fill_d0a16_6 : decode cJ7_fill_d0a16 6 = .ok (.iload_n 3, 1) := by decide +kernel
theorem dJ7_fill_d0a16_7 : decode cJ7_fill_d0a16 7 = .ok (.iload 4, 2) := by decide +kernel
theorem dJ7_fill_d0a16_9 : decode cJ7_fill_d0a16 9 = .ok (.if_icmp .ge 13, 3) := by decide +kernel
theorem dJ7_fill_d0a16_12 : decode cJ7_fill_d0a16 12 = .ok (.aload_n 0, 1) := by decide +kernel
theorem dJ7_fill_d0a16_13 : decode cJ7_fill_d0a16 13 = .ok (.iload_n 3, 1) := by decide +kernel
theorem dJ7_fill_d0a16_14 : decode cJ7_fill_d0a16 14 = .ok (.lload_n 1, 1) := by decide +kernel
theorem dJ7_fill_d0a16_15 : decode cJ7_fill_d0a16 15 = .ok (.lastore, 1) := by decide +kernel
theorem dJ7_fill_d0a16_16 : decode cJ7_fill_d0a16 16 = .ok (.iinc 3 1, 3) := by decide +kernel
theorem dJ7_fill_d0a16_19 : decode cJ7_fill_d0a16 19 = .ok (.goto (-13), 3) := by decide +kernel
theorem dJ7_fill_d0a16_22 : decode cJ7_fill_d0a16 22 = .ok (.return_, 1) := by decide +kernel
theorem dJ7_fill_53178_0 : decode cJ7_fill_53178 0 = .ok (.iconst 0, 1) := by decide +kernel
theorem dJ7_fill_53178_1 : decode cJ7_fill_53178 1 = .ok (.istore_n 2, 1) := by decide +kernel
theorem dJ7_fill_53178_2 : decode cJ7_fill_53178 2 = .ok (.aload_n 0, 1) := by decide +kernel
theorem dJ7_fill_53178_3 : decode cJ7_fill_53178 3 = .ok (.arraylength, 1) := by decide +kernel
theorem dJ7_fill_53178_4 : decode cJ7_fill_53178 4 = .ok (.istore_n 3, 1) := by decide +kernel
theorem dJ7_fill_53178_5 : decode cJ7_fill_53178 5 = .ok (.iload_n 2, 1) := by decide +kernel
theorem dJ7_fill_53178_6 : decode cJ7_fill_53178 6 = .ok (.iload_n 3, 1) := by decide +kernel
theorem dJ7_fill_53178_7 : decode cJ7_fill_53178 7 = .ok (.if_icmp .ge 13, 3) := by decide +kernel
theorem dJ7_fill_53178_10 : decode cJ7_fill_53178 10 = .ok (.aload_n 0, 1) := by decide +kernel
theorem dJ7_fill_53178_11 : decode cJ7_fill_53178 11 = .ok (.iload_n 2, 1) := by decide +kernel
theorem dJ7_fill_53178_12 : decode cJ7_fill_53178 12 = .ok (.iload_n 1, 1) := by decide +kernel
theorem dJ7_fill_53178_13 : decode cJ7_fill_53178 13 = .ok (.iastore, 1) := by decide +kernel
theorem dJ7_fill_53178_14 : decode cJ7_fill_53178 14 = .ok (.iinc 2 1, 3) := by decide +kernel
theorem dJ7_fill_53178_17 : decode cJ7_fill_53178 17 = .ok (.goto (-12), 3) := by decide +kernel
theorem dJ7_fill_53178_20 : decode cJ7_fill_53178 20 = .ok (.return_, 1) := by decide +kernel
theorem dJ7_copyOf_59c91_0 : decode cJ7_copyOf_59c91 0 = .ok (.iload_n 1, 1) := by decide +kernel
theorem dJ7_copyOf_59c91_1 : decode cJ7_copyOf_59c91 1 = .ok (.aload_n 0, 1) := by decide +kernel
theorem dJ7_copyOf_59c91_2 : decode cJ7_copyOf_59c91 2 = .ok (.arraylength, 1) := by decide +kernel
theorem dJ7_copyOf_59c91_3 : decode cJ7_copyOf_59c91 3 = .ok (.if_icmp .ne 11, 3) := by decide +kernel
theorem dJ7_copyOf_59c91_6 : decode cJ7_copyOf_59c91 6 = .ok (.aload_n 0, 1) := by decide +kernel
theorem dJ7_copyOf_59c91_7 : decode cJ7_copyOf_59c91 7 = .ok (.invokevirtual 316, 3) := by decide +kernel
theorem dJ7_copyOf_59c91_10 : decode cJ7_copyOf_59c91 10 = .ok (.checkcast 317, 3) := by decide +kernel
theorem dJ7_copyOf_59c91_13 : decode cJ7_copyOf_59c91 13 = .ok (.areturn, 1) := by decide +kernel
theorem dJ7_copyOf_59c91_14 : decode cJ7_copyOf_59c91 14 = .ok (.iload_n 1, 1) := by decide +kernel
theorem dJ7_copyOf_59c91_15 : decode cJ7_copyOf_59c91 15 = .ok (.newarray .int, 2) := by decide +kernel
theorem dJ7_copyOf_59c91_17 : decode cJ7_copyOf_59c91 17 = .ok (.astore_n 2, 1) := by decide +kernel
theorem dJ7_copyOf_59c91_18 : decode cJ7_copyOf_59c91 18 = .ok (.aload_n 0, 1) := by decide +kernel
theorem dJ7_copyOf_59c91_19 : decode cJ7_copyOf_59c91 19 = .ok (.iconst 0, 1) := by decide +kernel
theorem dJ7_copyOf_59c91_20 : decode cJ7_copyOf_59c91 20 = .ok (.aload_n 2, 1) := by decide +kernel
theorem dJ7_copyOf_59c91_21 : decode cJ7_copyOf_59c91 21 = .ok (.iconst 0, 1) := by decide +kernel
theorem dJ7_copyOf_59c91_22 : decode cJ7_copyOf_59c91 22 = .ok (.aload_n 0, 1) := by decide +kernel
theorem dJ7_copyOf_59c91_23 : decode cJ7_copyOf_59c91 23 = .ok (.arraylength, 1) := by decide +kernel
theorem dJ7_copyOf_59c91_24 : decode cJ7_copyOf_59c91 24 = .ok (.iload_n 1, 1) := by decide +kernel
theorem dJ7_copyOf_59c91_25 : decode cJ7_copyOf_59c91 25 = .ok (.invokestatic 304, 3) := by decide +kernel
theorem dJ7_copyOf_59c91_28 : decode cJ7_copyOf_59c91 28 = .ok (.invokestatic 150, 3) := by decide +kernel
theorem dJ7_copyOf_59c91_31 : decode cJ7_copyOf_59c91 31 = .ok (.aload_n 2, 1) := by decide +kernel
theorem dJ7_copyOf_59c91_32 : decode cJ7_copyOf_59c91 32 = .ok (.areturn, 1) := by decide +kernel
