theorem dX11_about_49 : decode cX11_about 49 = .ok (.invokevirtual 120, 3) := by decide +kernel
theorem dX11_about_52 : decode cX11_about 52 = .ok (.lreturn, 1) := by decide +kernel
theorem dX11_about_53 : decode cX11_about 53 = .ok (.lconst 0, 1) := by decide +kernel
theorem dX11_about_54 : decode cX11_about 54 = .ok (.lstore_n 3, 1) := by decide +kernel
theorem dX11_about_55 : decode cX11_about 55 = .ok (.iconst 0, 1) := by decide +kernel
theorem dX11_about_56 : decode cX11_about 56 = .ok (.istore 5, 2) := by decide +kernel
theorem dX11_about_58 : decode cX11_about 58 = .ok (.iload 5, 2) := by decide +kernel
theorem dX11_about_60 : decode cX11_about 60 = .ok (.aload_n 0, 1) := by decide +kernel
theorem dX11_about_61 : decode cX11_about 61 = .ok (.getfield 93, 3) := by decide +kernel
theorem dX11_about_64 : decode cX11_about 64 = .ok (.if_icmp .ge 34, 3) := by decide +kernel
theorem dX11_about_67 : decode cX11_about 67 = .ok (.lload_n 3, 1) := by decide +kernel
theorem dX11_about_68 : decode cX11_about 68 = .ok (.aload_n 0, 1) := by decide +kernel
theorem dX11_about_69 : decode cX11_about 69 = .ok (.getfield 33, 3) := by decide +kernel
theorem dX11_about_72 : decode cX11_about 72 = .ok (.bipush 8, 2) := by decide +kernel
theorem dX11_about_74 : decode cX11_about 74 = .ok (.iload 5, 2) := by decide +kernel
theorem dX11_about_76 : decode cX11_about 76 = .ok (.imul, 1) := by decide +kernel
theorem dX11_about_77 : decode cX11_about 77 = .ok (.iload_n 1, 1) := by decide +kernel
theorem dX11_about_78 : decode cX11_about 78 = .ok (.iadd, 1) := by decide +kernel
theorem dX11_about_79 : decode cX11_about 79 = .ok (.laload, 1) := by decide +kernel
theorem dX11_about_80 : decode cX11_about 80 = .ok (.lconst 0, 1) := by decide +kernel
theorem dX11_about_81 : decode cX11_about 81 = .ok (.lcmp, 1) := by decide +kernel
theorem dX11_about_82 : decode cX11_about 82 = .ok (.ifCond .le 7, 3) := by decide +kernel
theorem dX11_about_85 : decode cX11_about 85 = .ok (.lconst 1, 1) := by decide +kernel
theorem dX11_about_86 : decode cX11_about 86 = .ok (.goto 4, 3) := by decide +kernel
theorem dX11_about_89 : decode cX11_about 89 = .ok (.lconst 0, 1) := by decide +kernel
theorem dX11_about_90 : decode cX11_about 90 = .ok (.ladd, 1) := by decide +kernel
theorem dX11_about_91 : decode cX11_about 91 = .ok (.lstore_n 3, 1) := by decide +kernel
theorem dX11_about_92 : decode cX11_about 92 = .ok (.iinc 5 1, 3) := by decide +kernel
theorem dX11_about_95 : decode cX11_about 95 = .ok (.goto (-37), 3) := by decide +kernel
theorem dX11_about_98 : decode cX11_about 98 = .ok (.lload_n 3, 1) := by decide +kernel
theorem dX11_about_99 : decode cX11_about 99 = .ok (.lreturn, 1) := by decide +kernel
theorem dX11_about_100 : decode cX11_about 100 = .ok (.ldc2_w 72, 3) := by decide +kernel
theorem dX11_about_103 : decode cX11_about 103 = .ok (.lreturn, 1) := by decide +kernel
set_option maxRecDepth 20000 in
theorem ggX11_worst_X11_grains : GoodIn wsX11_worst wsX11_grains := goodIn_r _ [9, 10, 11, 1, 12, 13, 14, 15, 16, 17, 18, 19, 20, 21, 22, 23, 24, 25, 26, 27, 28, 29, 30, 31, 32, 33, 34, 35, 36, 37, 38] (by decide +kernel) (by decide +kernel)
set_option maxRecDepth 20000 in
theorem gX11_worst_X11_grains : GoodIn wsX11_worst (wsV RX11 126 RX11 yX11_grains wsX11_grains) := goodIn_app (goodIn_of _ (by decide +kernel)) ggX11_worst_X11_grains
theorem dX11_worst_0 : decode cX11_worst 0 = .ok (.lconst 0, 1) := by decide +kernel
theorem dX11_worst_1 : decode cX11_worst 1 = .ok (.lstore_n 1, 1) := by decide +kernel
theorem dX11_worst_2 : decode cX11_worst 2 = .ok (.iconst 0, 1) := by decide +kernel
theorem dX11_worst_3 : decode cX11_worst 3 = .ok (.istore_n 3, 1) := by decide +kernel
theorem dX11_worst_4 : decode cX11_worst 4 = .ok (.iload_n 3, 1) := by decide +kernel
theorem dX11_worst_5 : decode cX11_worst 5 = .ok (.aload_n 0, 1) := by decide +kernel
theorem dX11_worst_6 : decode cX11_worst 6 = .ok (.getfield 7, 3) := by decide +kernel
theorem dX11_worst_9 : decode cX11_worst 9 = .ok (.if_icmp .ge 79, 3) := by decide +kernel
theorem dX11_worst_12 : decode cX11_worst 12 = .ok (.lconst 0, 1) := by decide +kernel
theorem dX11_worst_13 : decode cX11_worst 13 = .ok (.lstore 4, 2) := by decide +kernel
theorem dX11_worst_15 : decode cX11_worst 15 = .ok (.iconst 0, 1) := by decide +kernel
theorem dX11_worst_16 : decode cX11_worst 16 = .ok (.istore 6, 2) := by decide +kernel
theorem dX11_worst_18 : decode cX11_worst 18 = .ok (.iload 6, 2) := by decide +kernel
theorem dX11_worst_20 : decode cX11_worst 20 = .ok (.aload_n 0, 1) := by decide +kernel
theorem dX11_worst_21 : decode cX11_worst 21 = .ok (.getfield 93, 3) := by decide +kernel
theorem dX11_worst_24 : decode cX11_worst 24 = .ok (.if_icmp .ge 26, 3) := by decide +kernel
theorem dX11_worst_27 : decode cX11_worst 27 = .ok (.lload 4, 2) := by decide +kernel
theorem dX11_worst_29 : decode cX11_worst 29 = .ok (.aload_n 0, 1) := by decide +kernel
theorem dX11_worst_30 : decode cX11_worst 30 = .ok (.getfield 33, 3) := by decide +kernel
theorem dX11_worst_33 : decode cX11_worst 33 = .ok (.bipush 8, 2) := by decide +kernel
theorem dX11_worst_35 : decode cX11_worst 35 = .ok (.iload 6, 2) := by decide +kernel
theorem dX11_worst_37 : decode cX11_worst 37 = .ok (.imul, 1) := by decide +kernel
theorem dX11_worst_38 : decode cX11_worst 38 = .ok (.iload_n 3, 1) := by decide +kernel
theorem dX11_worst_39 : decode cX11_worst 39 = .ok (.iadd, 1) := by decide +kernel
theorem dX11_worst_40 : decode cX11_worst 40 = .ok (.laload, 1) := by decide +kernel
theorem dX11_worst_41 : decode cX11_worst 41 = .ok (.ladd, 1) := by decide +kernel
theorem dX11_worst_42 : decode cX11_worst 42 = .ok (.lstore 4, 2) := by decide +kernel
theorem dX11_worst_44 : decode cX11_worst 44 = .ok (.iinc 6 1, 3) := by decide +kernel
theorem dX11_worst_47 : decode cX11_worst 47 = .ok (.goto (-29), 3) := by decide +kernel
theorem dX11_worst_50 : decode cX11_worst 50 = .ok (.aload_n 0, 1) := by decide +kernel
theorem dX11_worst_51 : decode cX11_worst 51 = .ok (.getfield 86, 3) := by decide +kernel
theorem dX11_worst_54 : decode cX11_worst 54 = .ok (.aload_n 0, 1) := by decide +kernel
theorem dX11_worst_55 : decode cX11_worst 55 = .ok (.invokevirtual 126, 3) := by decide +kernel
theorem dX11_worst_58 : decode cX11_worst 58 = .ok (.lload 4, 2) := by decide +kernel
theorem dX11_worst_60 : decode cX11_worst 60 = .ok (.lmul, 1) := by decide +kernel
theorem dX11_worst_61 : decode cX11_worst 61 = .ok (.lsub, 1) := by decide +kernel
theorem dX11_worst_62 : decode cX11_worst 62 = .ok (.lstore 6, 2) := by decide +kernel
theorem dX11_worst_64 : decode cX11_worst 64 = .ok (.iload_n 3, 1) := by decide +kernel
theorem dX11_worst_65 : decode cX11_worst 65 = .ok (.ifCond .eq 10, 3) := by decide +kernel
theorem dX11_worst_68 : decode cX11_worst 68 = .ok (.lload 6, 2) := by decide +kernel
theorem dX11_worst_70 : decode cX11_worst 70 = .ok (.lload_n 1, 1) := by decide +kernel
theorem dX11_worst_71 : decode cX11_worst 71 = .ok (.lcmp, 1) := by decide +kernel
theorem dX11_worst_72 : decode cX11_worst 72 = .ok (.ifCond .ge 8, 3) := by decide +kernel
theorem dX11_worst_75 : decode cX11_worst 75 = .ok (.lload 6, 2) := by decide +kernel
theorem dX11_worst_77 : decode cX11_worst 77 = .ok (.goto 4, 3) := by decide +kernel
theorem dX11_worst_80 : decode cX11_worst 80 = .ok (.lload_n 1, 1) := by decide +kernel
theorem dX11_worst_81 : decode cX11_worst 81 = .ok (.lstore_n 1, 1) := by decide +kernel
theorem dX11_worst_82 : decode cX11_worst 82 = .ok (.iinc 3 1, 3) := by decide +kernel
theorem dX11_worst_85 : decode cX11_worst 85 = .ok (.goto (-81), 3) := by decide +kernel
theorem dX11_worst_88 : decode cX11_worst 88 = .ok (.lload_n 1, 1) := by decide +kernel
theorem dX11_worst_89 : decode cX11_worst 89 = .ok (.lreturn, 1) := by decide +kernel
set_option maxRecDepth 20000 in
theorem ggX11_maker_X11_levelWith : GoodIn wsX11_maker wsX11_levelWith := goodIn_r _ [8, 9, 10, 11, 12, 13, 14, 7, 15, 26, 27, 28, 29, 30, 31, 32, 33, 34, 35, 36, 37, 38, 39, 40, 41, 42, 43, 44, 45, 46, 47, 48, 49, 50, 51, 52] (by decide +kernel) (by decide +kernel)
set_option maxRecDepth 20000 in
theorem gX11_maker_X11_levelWith : GoodIn wsX11_maker (wsV RX11 112 RX11 yX11_levelWith wsX11_levelWith) := goodIn_app (goodIn_of _ (by decide +kernel)) ggX11_maker_X11_levelWith
set_option maxRecDepth 20000 in
theorem ggX11_maker_X11_worst : GoodIn wsX11_maker wsX11_worst := goodIn_r _ [19, 9, 20, 21, 1, 22, 23, 24, 7, 25, 11, 12, 26, 27, 28, 29, 30, 31, 32, 33, 34, 35, 36, 37, 38, 39, 40, 41, 42, 43, 44, 45, 46, 47, 48, 49, 50, 51, 52] (by decide +kernel) (by decide +kernel)
set_option maxRecDepth 20000 in
theorem gX11_maker_X11_worst : GoodIn wsX11_maker (wsV RX11 153 RX11 yX11_worst wsX11_worst) := goodIn_app (goodIn_of _ (by decide +kernel)) ggX11_maker_X11_worst
set_option maxRecDepth 20000 in
theorem ggX11_maker_X11_grains : GoodIn wsX11_maker wsX11_grains := goodIn_r _ [25, 11, 12, 9, 26, 27, 28, 29, 30, 31, 32, 33, 34, 35, 36, 37, 38, 39, 40, 41, 42, 43, 44, 45, 46, 47, 48, 49, 50, 51, 52] (by decide +kernel) (by decide +kernel)
set_option maxRecDepth 20000 in
theorem gX11_maker_X11_grains : GoodIn wsX11_maker (wsV RX11 126 RX11 yX11_grains wsX11_grains) := goodIn_app (goodIn_of _ (by decide +kernel)) ggX11_maker_X11_grains
theorem dX11_maker_0 : decode cX11_maker 0 = .ok (.iload_n 1, 1) := by decide +kernel
theorem dX11_maker_1 : decode cX11_maker 1 = .ok (.tableswitch 79 0 4 #[35, 42, 47, 68, 73], 35) := by decide +kernel
theorem dX11_maker_36 : decode cX11_maker 36 = .ok (.aload_n 0, 1) := by decide +kernel
theorem dX11_maker_37 : decode cX11_maker 37 = .ok (.iconst 0, 1) := by decide +kernel
theorem dX11_maker_38 : decode cX11_maker 38 = .ok (.lconst 0, 1) := by decide +kernel
theorem dX11_maker_39 : decode cX11_maker 39 = .ok (.invokevirtual 112, 3) := by decide +kernel
theorem dX11_maker_42 : decode cX11_maker 42 = .ok (.lreturn, 1) := by decide +kernel
theorem dX11_maker_43 : decode cX11_maker 43 = .ok (.aload_n 0, 1) := by decide +kernel
theorem dX11_maker_44 : decode cX11_maker 44 = .ok (.getfield 86, 3) := by decide +kernel
theorem dX11_maker_47 : decode cX11_maker 47 = .ok (.lreturn, 1) := by decide +kernel
theorem dX11_maker_48 : decode cX11_maker 48 = .ok (.aload_n 0, 1) := by decide +kernel
theorem dX11_maker_49 : decode cX11_maker 49 = .ok (.getfield 20, 3) := by decide +kernel
theorem dX11_maker_52 : decode cX11_maker 52 = .ok (.bipush (-9), 2) := by decide +kernel
theorem dX11_maker_54 : decode cX11_maker 54 = .ok (.if_icmp .eq 10, 3) := by decide +kernel
theorem dX11_maker_57 : decode cX11_maker 57 = .ok (.aload_n 0, 1) := by decide +kernel
theorem dX11_maker_58 : decode cX11_maker 58 = .ok (.getfield 86, 3) := by decide +kernel
theorem dX11_maker_61 : decode cX11_maker 61 = .ok (.goto 7, 3) := by decide +kernel
theorem dX11_maker_64 : decode cX11_maker 64 = .ok (.aload_n 0, 1) := by decide +kernel
theorem dX11_maker_65 : decode cX11_maker 65 = .ok (.invokevirtual 153, 3) := by decide +kernel
theorem dX11_maker_68 : decode cX11_maker 68 = .ok (.lreturn, 1) := by decide +kernel
theorem dX11_maker_69 : decode cX11_maker 69 = .ok (.aload_n 0, 1) := by decide +kernel
theorem dX11_maker_70 : decode cX11_maker 70 = .ok (.invokevirtual 126, 3) := by decide +kernel
theorem dX11_maker_73 : decode cX11_maker 73 = .ok (.lreturn, 1) := by decide +kernel
theorem dX11_maker_74 : decode cX11_maker 74 = .ok (.aload_n 0, 1) := by decide +kernel
theorem dX11_maker_75 : decode cX11_maker 75 = .ok (.getfield 20, 3) := by decide +kernel
theorem dX11_maker_78 : decode cX11_maker 78 = .ok (.i2l, 1) := by decide +kernel
theorem dX11_maker_79 : decode cX11_maker 79 = .ok (.lreturn, 1) := by decide +kernel
theorem dX11_maker_80 : decode cX11_maker 80 = .ok (.ldc2_w 72, 3) := by decide +kernel
theorem dX11_maker_83 : decode cX11_maker 83 = .ok (.lreturn, 1) := by decide +kernel
theorem dX11_believed_0 : decode cX11_believed 0 = .ok (.iconst 0, 1) := by decide +kernel
theorem dX11_believed_1 : decode cX11_believed 1 = .ok (.istore_n 2, 1) := by decide +kernel
theorem dX11_believed_2 : decode cX11_believed 2 = .ok (.iconst 0, 1) := by decide +kernel
theorem dX11_believed_3 : decode cX11_believed 3 = .ok (.istore_n 3, 1) := by decide +kernel
theorem dX11_believed_4 : decode cX11_believed 4 = .ok (.iload_n 3, 1) := by decide +kernel
theorem dX11_believed_5 : decode cX11_believed 5 = .ok (.aload_n 0, 1) := by decide +kernel
theorem dX11_believed_6 : decode cX11_believed 6 = .ok (.getfield 7, 3) := by decide +kernel
theorem dX11_believed_9 : decode cX11_believed 9 = .ok (.if_icmp .ge 23, 3) := by decide +kernel
theorem dX11_believed_12 : decode cX11_believed 12 = .ok (.iload_n 2, 1) := by decide +kernel
theorem dX11_believed_13 : decode cX11_believed 13 = .ok (.aload_n 0, 1) := by decide +kernel
theorem dX11_believed_14 : decode cX11_believed 14 = .ok (.getfield 36, 3) := by decide +kernel
theorem dX11_believed_17 : decode cX11_believed 17 = .ok (.bipush 8, 2) := by decide +kernel
theorem dX11_believed_19 : decode cX11_believed 19 = .ok (.iload_n 1, 1) := by decide +kernel
theorem dX11_believed_20 : decode cX11_believed 20 = .ok (.imul, 1) := by decide +kernel
theorem dX11_believed_21 : decode cX11_believed 21 = .ok (.iload_n 3, 1) := by decide +kernel
theorem dX11_believed_22 : decode cX11_believed 22 = .ok (.iadd, 1) := by decide +kernel
theorem dX11_believed_23 : decode cX11_believed 23 = .ok (.iaload, 1) := by decide +kernel
theorem dX11_believed_24 : decode cX11_believed 24 = .ok (.iadd, 1) := by decide +kernel
theorem dX11_believed_25 : decode cX11_believed 25 = .ok (.istore_n 2, 1) := by decide +kernel
theorem dX11_believed_26 : decode cX11_believed 26 = .ok (.iinc 3 1, 3) := by decide +kernel
theorem dX11_believed_29 : decode cX11_believed 29 = .ok (.goto (-25), 3) := by decide +kernel
theorem dX11_believed_32 : decode cX11_believed 32 = .ok (.iload_n 2, 1) := by decide +kernel
theorem dX11_believed_33 : decode cX11_believed 33 = .ok (.ireturn, 1) := by decide +kernel
set_option maxRecDepth 20000 in
theorem ggX11_of_X11_isTrader : GoodIn wsX11_of wsX11_isTrader := goodIn_r _ [11, 12, 29, 30, 31, 32, 33, 34, 35, 36, 37, 38, 39, 40, 41, 42, 43, 44, 45, 46, 47, 48, 49, 50, 51, 52, 53, 54, 55] (by decide +kernel) (by decide +kernel)
set_option maxRecDepth 20000 in
theorem gX11_of_X11_isTrader : GoodIn wsX11_of (wsV RX11 136 RX11 yX11_isTrader wsX11_isTrader) := goodIn_app (goodIn_of _ (by decide +kernel)) ggX11_of_X11_isTrader
set_option maxRecDepth 20000 in
theorem ggX11_of_X11_isCase : GoodIn wsX11_of wsX11_isCase := goodIn_r _ [16, 17, 29, 30, 31, 32, 33, 34, 35, 36, 37, 38, 39, 40, 41, 42, 43, 44, 45, 46, 47, 48, 49, 50, 51, 52, 53, 54, 55] (by decide +kernel) (by decide +kernel)
set_option maxRecDepth 20000 in
theorem gX11_of_X11_isCase : GoodIn wsX11_of (wsV RX11 150 RX11 yX11_isCase wsX11_isCase) := goodIn_app (goodIn_of _ (by decide +kernel)) ggX11_of_X11_isCase
set_option maxRecDepth 20000 in
theorem ggX11_of_X11_leastWith : GoodIn wsX11_of wsX11_leastWith := goodIn_r _ [21, 2, 17, 22, 23, 10, 24, 29, 30, 31, 32, 33, 34, 35, 36, 37, 38, 39, 40, 41, 42, 43, 44, 45, 46, 47, 48, 49, 50, 51, 52, 53, 54, 55] (by decide +kernel) (by decide +kernel)
set_option maxRecDepth 20000 in
theorem gX11_of_X11_leastWith : GoodIn wsX11_of (wsV RX11 132 RX11 yX11_leastWith wsX11_leastWith) := goodIn_app (goodIn_of _ (by decide +kernel)) ggX11_of_X11_leastWith
set_option maxRecDepth 20000 in
theorem ggX11_of_X11_believed : GoodIn wsX11_of wsX11_believed := goodIn_r _ [28, 17, 3, 29, 30, 31, 32, 33, 34, 35, 36, 37, 38, 39, 40, 41, 42, 43, 44, 45, 46, 47, 48, 49, 50, 51, 52, 53, 54, 55] (by decide +kernel) (by decide +kernel)
set_option maxRecDepth 20000 in
theorem gX11_of_X11_believed : GoodIn wsX11_of (wsV RX11 156 RX11 yX11_believed wsX11_believed) := goodIn_app (goodIn_of _ (by decide +kernel)) ggX11_of_X11_believed
theorem dX11_of_0 : decode cX11_of 0 = .ok (.aload_n 0, 1) := by decide +kernel
theorem dX11_of_1 : decode cX11_of 1 = .ok (.iload_n 1, 1) := by decide +kernel
theorem dX11_of_2 : decode cX11_of 2 = .ok (.invokevirtual 136, 3) := by decide +kernel
theorem dX11_of_5 : decode cX11_of 5 = .ok (.ifCond .ne 7, 3) := by decide +kernel
theorem dX11_of_8 : decode cX11_of 8 = .ok (.ldc2_w 72, 3) := by decide +kernel
theorem dX11_of_11 : decode cX11_of 11 = .ok (.lreturn, 1) := by decide +kernel
theorem dX11_of_12 : decode cX11_of 12 = .ok (.aload_n 0, 1) := by decide +kernel
theorem dX11_of_13 : decode cX11_of 13 = .ok (.iload_n 2, 1) := by decide +kernel
theorem dX11_of_14 : decode cX11_of 14 = .ok (.bipush 10, 2) := by decide +kernel
theorem dX11_of_16 : decode cX11_of 16 = .ok (.isub, 1) := by decide +kernel
theorem dX11_of_17 : decode cX11_of 17 = .ok (.invokevirtual 150, 3) := by decide +kernel
theorem dX11_of_20 : decode cX11_of 20 = .ok (.ifCond .eq 18, 3) := by decide +kernel
theorem dX11_of_23 : decode cX11_of 23 = .ok (.aload_n 0, 1) := by decide +kernel
theorem dX11_of_24 : decode cX11_of 24 = .ok (.getfield 33, 3) := by decide +kernel
theorem dX11_of_27 : decode cX11_of 27 = .ok (.bipush 8, 2) := by decide +kernel
theorem dX11_of_29 : decode cX11_of 29 = .ok (.iload_n 1, 1) := by decide +kernel
theorem dX11_of_30 : decode cX11_of 30 = .ok (.imul, 1) := by decide +kernel
theorem dX11_of_31 : decode cX11_of 31 = .ok (.iload_n 2, 1) := by decide +kernel
theorem dX11_of_32 : decode cX11_of 32 = .ok (.iadd, 1) := by decide +kernel
theorem dX11_of_33 : decode cX11_of 33 = .ok (.bipush 10, 2) := by decide +kernel
theorem dX11_of_35 : decode cX11_of 35 = .ok (.isub, 1) := by decide +kernel
theorem dX11_of_36 : decode cX11_of 36 = .ok (.laload, 1) := by decide +kernel
theorem dX11_of_37 : decode cX11_of 37 = .ok (.lreturn, 1) := by decide +kernel
theorem dX11_of_38 : decode cX11_of 38 = .ok (.aload_n 0, 1) := by decide +kernel
theorem dX11_of_39 : decode cX11_of 39 = .ok (.iload_n 2, 1) := by decide +kernel
theorem dX11_of_40 : decode cX11_of 40 = .ok (.bipush 20, 2) := by decide +kernel
theorem dX11_of_42 : decode cX11_of 42 = .ok (.isub, 1) := by decide +kernel
theorem dX11_of_43 : decode cX11_of 43 = .ok (.invokevirtual 150, 3) := by decide +kernel
theorem dX11_of_46 : decode cX11_of 46 = .ok (.ifCond .eq 19, 3) := by decide +kernel
theorem dX11_of_49 : decode cX11_of 49 = .ok (.aload_n 0, 1) := by decide +kernel
theorem dX11_of_50 : decode cX11_of 50 = .ok (.getfield 36, 3) := by decide +kernel
theorem dX11_of_53 : decode cX11_of 53 = .ok (.bipush 8, 2) := by decide +kernel
theorem dX11_of_55 : decode cX11_of 55 = .ok (.iload_n 1, 1) := by decide +kernel
theorem dX11_of_56 : decode cX11_of 56 = .ok (.imul, 1) := by decide +kernel
theorem dX11_of_57 : decode cX11_of 57 = .ok (.iload_n 2, 1) := by decide +kernel
theorem dX11_of_58 : decode cX11_of 58 = .ok (.iadd, 1) := by decide +kernel
theorem dX11_of_59 : decode cX11_of 59 = .ok (.bipush 20, 2) := by decide +kernel
theorem dX11_of_61 : decode cX11_of 61 = .ok (.isub, 1) := by decide +kernel
theorem dX11_of_62 : decode cX11_of 62 = .ok (.iaload, 1) := by decide +kernel
theorem dX11_of_63 : decode cX11_of 63 = .ok (.i2l, 1) := by decide +kernel
theorem dX11_of_64 : decode cX11_of 64 = .ok (.lreturn, 1) := by decide +kernel
theorem dX11_of_65 : decode cX11_of 65 = .ok (.iload_n 2, 1) := by decide +kernel
theorem dX11_of_66 : decode cX11_of 66 = .ok (.tableswitch 72 0 4 #[34, 41, 49, 57, 65], 34) := by decide +kernel
theorem dX11_of_100 : decode cX11_of 100 = .ok (.aload_n 0, 1) := by decide +kernel
theorem dX11_of_101 : decode cX11_of 101 = .ok (.getfield 27, 3) := by decide +kernel
theorem dX11_of_104 : decode cX11_of 104 = .ok (.iload_n 1, 1) := by decide +kernel
theorem dX11_of_105 : decode cX11_of 105 = .ok (.laload, 1) := by decide +kernel
theorem dX11_of_106 : decode cX11_of 106 = .ok (.lreturn, 1) := by decide +kernel
theorem dX11_of_107 : decode cX11_of 107 = .ok (.aload_n 0, 1) := by decide +kernel
theorem dX11_of_108 : decode cX11_of 108 = .ok (.iload_n 1, 1) := by decide +kernel
theorem dX11_of_109 : decode cX11_of 109 = .ok (.iconst 0, 1) := by decide +kernel
theorem dX11_of_110 : decode cX11_of 110 = .ok (.lconst 0, 1) := by decide +kernel
theorem dX11_of_111 : decode cX11_of 111 = .ok (.invokevirtual 132, 3) := by decide +kernel
theorem dX11_of_114 : decode cX11_of 114 = .ok (.lreturn, 1) := by decide +kernel
theorem dX11_of_115 : decode cX11_of 115 = .ok (.aload_n 0, 1) := by decide +kernel
theorem dX11_of_116 : decode cX11_of 116 = .ok (.getfield 30, 3) := by decide +kernel
theorem dX11_of_119 : decode cX11_of 119 = .ok (.iload_n 1, 1) := by decide +kernel
theorem dX11_of_120 : decode cX11_of 120 = .ok (.iaload, 1) := by decide +kernel
theorem dX11_of_121 : decode cX11_of 121 = .ok (.i2l, 1) := by decide +kernel
theorem dX11_of_122 : decode cX11_of 122 = .ok (.lreturn, 1) := by decide +kernel
theorem dX11_of_123 : decode cX11_of 123 = .ok (.aload_n 0, 1) := by decide +kernel
theorem dX11_of_124 : decode cX11_of 124 = .ok (.getfield 23, 3) := by decide +kernel
theorem dX11_of_127 : decode cX11_of 127 = .ok (.iload_n 1, 1) := by decide +kernel
theorem dX11_of_128 : decode cX11_of 128 = .ok (.iaload, 1) := by decide +kernel
theorem dX11_of_129 : decode cX11_of 129 = .ok (.i2l, 1) := by decide +kernel
theorem dX11_of_130 : decode cX11_of 130 = .ok (.lreturn, 1) := by decide +kernel
theorem dX11_of_131 : decode cX11_of 131 = .ok (.aload_n 0, 1) := by decide +kernel
theorem dX11_of_132 : decode cX11_of 132 = .ok (.iload_n 1, 1) := by decide +kernel
theorem dX11_of_133 : decode cX11_of 133 = .ok (.invokevirtual 156, 3) := by decide +kernel
theorem dX11_of_136 : decode cX11_of 136 = .ok (.i2l, 1) := by decide +kernel
theorem dX11_of_137 : decode cX11_of 137 = .ok (.lreturn, 1) := by decide +kernel
theorem dX11_of_138 : decode cX11_of 138 = .ok (.ldc2_w 72, 3) := by decide +kernel
theorem dX11_of_141 : decode cX11_of 141 = .ok (.lreturn, 1) := by decide +kernel
set_option maxRecDepth 20000 in
theorem ggX11_believe_X11_isTrader : GoodIn wsX11_believe wsX11_isTrader := goodIn_r _ [7, 8, 21, 22, 23, 24, 25, 26, 27, 28, 29, 30, 31, 32, 33, 34, 35, 36, 37, 38, 39, 40, 41, 42, 43, 44, 45, 46, 47] (by decide +kernel) (by decide +kernel)
set_option maxRecDepth 20000 in
theorem gX11_believe_X11_isTrader : GoodIn wsX11_believe (wsV RX11 136 RX11 yX11_isTrader wsX11_isTrader) := goodIn_app (goodIn_of _ (by decide +kernel)) ggX11_believe_X11_isTrader
set_option maxRecDepth 20000 in
theorem ggX11_believe_X11_isCase : GoodIn wsX11_believe wsX11_isCase := goodIn_r _ [12, 13, 21, 22, 23, 24, 25, 26, 27, 28, 29, 30, 31, 32, 33, 34, 35, 36, 37, 38, 39, 40, 41, 42, 43, 44, 45, 46, 47] (by decide +kernel) (by decide +kernel)
set_option maxRecDepth 20000 in
theorem gX11_believe_X11_isCase : GoodIn wsX11_believe (wsV RX11 150 RX11 yX11_isCase wsX11_isCase) := goodIn_app (goodIn_of _ (by decide +kernel)) ggX11_believe_X11_isCase
set_option maxRecDepth 20000 in
theorem ggX11_believe_X11_within : GoodIn wsX11_believe wsX11_within := goodIn_r _ [16] (by decide +kernel) (by decide +kernel)
set_option maxRecDepth 20000 in
theorem gX11_believe_X11_within : GoodIn wsX11_believe (va_wsS RX11 80 yX11_within wsX11_within) := goodIn_app (goodIn_of _ (by decide +kernel)) ggX11_believe_X11_within
set_option maxRecDepth 20000 in
theorem ggX11_believe_X11_believed : GoodIn wsX11_believe wsX11_believed := goodIn_r _ [20, 13, 2, 21, 22, 23, 24, 25, 26, 27, 28, 29, 30, 31, 32, 33, 34, 35, 36, 37, 38, 39, 40, 41, 42, 43, 44, 45, 46, 47] (by decide +kernel) (by decide +kernel)
set_option maxRecDepth 20000 in
theorem gX11_believe_X11_believed : GoodIn wsX11_believe (wsV RX11 156 RX11 yX11_believed wsX11_believed) := goodIn_app (goodIn_of _ (by decide +kernel)) ggX11_believe_X11_believed
theorem dX11_believe_0 : decode cX11_believe 0 = .ok (.aload_n 0, 1) := by decide +kernel
theorem dX11_believe_1 : decode cX11_believe 1 = .ok (.iload_n 1, 1) := by decide +kernel
theorem dX11_believe_2 : decode cX11_believe 2 = .ok (.invokevirtual 136, 3) := by decide +kernel
theorem dX11_believe_5 : decode cX11_believe 5 = .ok (.ifCond .eq 11, 3) := by decide +kernel
theorem dX11_believe_8 : decode cX11_believe 8 = .ok (.aload_n 0, 1) := by decide +kernel
theorem dX11_believe_9 : decode cX11_believe 9 = .ok (.iload_n 2, 1) := by decide +kernel
theorem dX11_believe_10 : decode cX11_believe 10 = .ok (.invokevirtual 150, 3) := by decide +kernel
theorem dX11_believe_13 : decode cX11_believe 13 = .ok (.ifCond .ne 5, 3) := by decide +kernel
theorem dX11_believe_16 : decode cX11_believe 16 = .ok (.iconst (-1), 1) := by decide +kernel
theorem dX11_believe_17 : decode cX11_believe 17 = .ok (.ireturn, 1) := by decide +kernel
theorem dX11_believe_18 : decode cX11_believe 18 = .ok (.iload_n 3, 1) := by decide +kernel
theorem dX11_believe_19 : decode cX11_believe 19 = .ok (.i2l, 1) := by decide +kernel
theorem dX11_believe_20 : decode cX11_believe 20 = .ok (.lconst 0, 1) := by decide +kernel
theorem dX11_believe_21 : decode cX11_believe 21 = .ok (.ldc2_w 160, 3) := by decide +kernel
theorem dX11_believe_24 : decode cX11_believe 24 = .ok (.invokestatic 80, 3) := by decide +kernel
theorem dX11_believe_27 : decode cX11_believe 27 = .ok (.ifCond .ne 6, 3) := by decide +kernel
theorem dX11_believe_30 : decode cX11_believe 30 = .ok (.bipush (-2), 2) := by decide +kernel
theorem dX11_believe_32 : decode cX11_believe 32 = .ok (.ireturn, 1) := by decide +kernel
theorem dX11_believe_33 : decode cX11_believe 33 = .ok (.aload_n 0, 1) := by decide +kernel
theorem dX11_believe_34 : decode cX11_believe 34 = .ok (.getfield 36, 3) := by decide +kernel
theorem dX11_believe_37 : decode cX11_believe 37 = .ok (.bipush 8, 2) := by decide +kernel
theorem dX11_believe_39 : decode cX11_believe 39 = .ok (.iload_n 1, 1) := by decide +kernel
theorem dX11_believe_40 : decode cX11_believe 40 = .ok (.imul, 1) := by decide +kernel
theorem dX11_believe_41 : decode cX11_believe 41 = .ok (.iload_n 2, 1) := by decide +kernel
theorem dX11_believe_42 : decode cX11_believe 42 = .ok (.iadd, 1) := by decide +kernel
theorem dX11_believe_43 : decode cX11_believe 43 = .ok (.iaload, 1) := by decide +kernel
theorem dX11_believe_44 : decode cX11_believe 44 = .ok (.istore 4, 2) := by decide +kernel
theorem dX11_believe_46 : decode cX11_believe 46 = .ok (.aload_n 0, 1) := by decide +kernel
theorem dX11_believe_47 : decode cX11_believe 47 = .ok (.iload_n 1, 1) := by decide +kernel
theorem dX11_believe_48 : decode cX11_believe 48 = .ok (.invokevirtual 156, 3) := by decide +kernel
theorem dX11_believe_51 : decode cX11_believe 51 = .ok (.iload 4, 2) := by decide +kernel
theorem dX11_believe_53 : decode cX11_believe 53 = .ok (.isub, 1) := by decide +kernel
theorem dX11_believe_54 : decode cX11_believe 54 = .ok (.iload_n 3, 1) := by decide +kernel
theorem dX11_believe_55 : decode cX11_believe 55 = .ok (.iadd, 1) := by decide +kernel
theorem dX11_believe_56 : decode cX11_believe 56 = .ok (.ifCond .ne 6, 3) := by decide +kernel
theorem dX11_believe_59 : decode cX11_believe 59 = .ok (.bipush (-3), 2) := by decide +kernel
theorem dX11_believe_61 : decode cX11_believe 61 = .ok (.ireturn, 1) := by decide +kernel
theorem dX11_believe_62 : decode cX11_believe 62 = .ok (.aload_n 0, 1) := by decide +kernel
theorem dX11_believe_63 : decode cX11_believe 63 = .ok (.getfield 36, 3) := by decide +kernel
theorem dX11_believe_66 : decode cX11_believe 66 = .ok (.bipush 8, 2) := by decide +kernel
theorem dX11_believe_68 : decode cX11_believe 68 = .ok (.iload_n 1, 1) := by decide +kernel
theorem dX11_believe_69 : decode cX11_believe 69 = .ok (.imul, 1) := by decide +kernel
theorem dX11_believe_70 : decode cX11_believe 70 = .ok (.iload_n 2, 1) := by decide +kernel
theorem dX11_believe_71 : decode cX11_believe 71 = .ok (.iadd, 1) := by decide +kernel
theorem dX11_believe_72 : decode cX11_believe 72 = .ok (.iload_n 3, 1) := by decide +kernel
theorem dX11_believe_73 : decode cX11_believe 73 = .ok (.iastore, 1) := by decide +kernel
theorem dX11_believe_74 : decode cX11_believe 74 = .ok (.iload 4, 2) := by decide +kernel
theorem dX11_believe_76 : decode cX11_believe 76 = .ok (.ireturn, 1) := by decide +kernel
set_option maxRecDepth 20000 in
theorem ggX11_against_X11_within : GoodIn wsX11_against wsX11_within := goodIn_r _ [10] (by decide +kernel) (by decide +kernel)
set_option maxRecDepth 20000 in
theorem gX11_against_X11_within : GoodIn wsX11_against (va_wsS RX11 80 yX11_within wsX11_within) := goodIn_app (goodIn_of _ (by decide +kernel)) ggX11_against_X11_within
set_option maxRecDepth 20000 in
theorem ggX11_against_X11_fails : GoodIn wsX11_against wsX11_fails := goodIn_r _ [14, 15, 16, 17, 18, 19, 20, 21, 22, 23, 24, 25, 26, 27, 28, 29, 30, 31, 32, 33, 34, 35, 36, 37, 38, 39, 40, 41, 42] (by decide +kernel) (by decide +kernel)
set_option maxRecDepth 20000 in
theorem gX11_against_X11_fails : GoodIn wsX11_against (wsV RX11 162 RX11 yX11_fails wsX11_fails) := goodIn_app (goodIn_of _ (by decide +kernel)) ggX11_against_X11_fails
theorem dX11_against_0 : decode cX11_against 0 = .ok (.iload_n 2, 1) := by decide +kernel
theorem dX11_against_1 : decode cX11_against 1 = .ok (.i2l, 1) := by decide +kernel
theorem dX11_against_2 : decode cX11_against 2 = .ok (.lconst 0, 1) := by decide +kernel
theorem dX11_against_3 : decode cX11_against 3 = .ok (.ldc2_w 76, 3) := by decide +kernel
theorem dX11_against_6 : decode cX11_against 6 = .ok (.invokestatic 80, 3) := by decide +kernel
theorem dX11_against_9 : decode cX11_against 9 = .ok (.ifCond .ne 6, 3) := by decide +kernel
theorem dX11_against_12 : decode cX11_against 12 = .ok (.bipush (-2), 2) := by decide +kernel
theorem dX11_against_14 : decode cX11_against 14 = .ok (.ireturn, 1) := by decide +kernel
theorem dX11_against_15 : decode cX11_against 15 = .ok (.aload_n 0, 1) := by decide +kernel
theorem dX11_against_16 : decode cX11_against 16 = .ok (.getfield 39, 3) := by decide +kernel
theorem dX11_against_19 : decode cX11_against 19 = .ok (.iload_n 1, 1) := by decide +kernel
theorem dX11_against_20 : decode cX11_against 20 = .ok (.iaload, 1) := by decide +kernel
theorem dX11_against_21 : decode cX11_against 21 = .ok (.bipush (-9), 2) := by decide +kernel
theorem dX11_against_23 : decode cX11_against 23 = .ok (.if_icmp .eq 19, 3) := by decide +kernel
theorem dX11_against_26 : decode cX11_against 26 = .ok (.aload_n 0, 1) := by decide +kernel
theorem dX11_against_27 : decode cX11_against 27 = .ok (.getfield 39, 3) := by decide +kernel
theorem dX11_against_30 : decode cX11_against 30 = .ok (.iload_n 1, 1) := by decide +kernel
theorem dX11_against_31 : decode cX11_against 31 = .ok (.iaload, 1) := by decide +kernel
theorem dX11_against_32 : decode cX11_against 32 = .ok (.iload_n 2, 1) := by decide +kernel
theorem dX11_against_33 : decode cX11_against 33 = .ok (.if_icmp .eq 9, 3) := by decide +kernel
theorem dX11_against_36 : decode cX11_against 36 = .ok (.aload_n 0, 1) := by decide +kernel
theorem dX11_against_37 : decode cX11_against 37 = .ok (.iconst 2, 1) := by decide +kernel
theorem dX11_against_38 : decode cX11_against 38 = .ok (.invokevirtual 162, 3) := by decide +kernel
theorem dX11_against_41 : decode cX11_against 41 = .ok (.ireturn, 1) := by decide +kernel
theorem dX11_against_42 : decode cX11_against 42 = .ok (.aload_n 0, 1) := by decide +kernel
theorem dX11_against_43 : decode cX11_against 43 = .ok (.getfield 39, 3) := by decide +kernel
theorem dX11_against_46 : decode cX11_against 46 = .ok (.iload_n 1, 1) := by decide +kernel
theorem dX11_against_47 : decode cX11_against 47 = .ok (.iaload, 1) := by decide +kernel
theorem dX11_against_48 : decode cX11_against 48 = .ok (.bipush (-9), 2) := by decide +kernel
theorem dX11_against_50 : decode cX11_against 50 = .ok (.if_icmp .ne 9, 3) := by decide +kernel
theorem dX11_against_53 : decode cX11_against 53 = .ok (.aload_n 0, 1) := by decide +kernel
theorem dX11_against_54 : decode cX11_against 54 = .ok (.iconst 1, 1) := by decide +kernel
theorem dX11_against_55 : decode cX11_against 55 = .ok (.invokevirtual 162, 3) := by decide +kernel
theorem dX11_against_58 : decode cX11_against 58 = .ok (.ireturn, 1) := by decide +kernel
theorem dX11_against_59 : decode cX11_against 59 = .ok (.iload_n 3, 1) := by decide +kernel
theorem dX11_against_60 : decode cX11_against 60 = .ok (.ifCond .lt 18, 3) := by decide +kernel
theorem dX11_against_63 : decode cX11_against 63 = .ok (.iload_n 3, 1) := by decide +kernel
theorem dX11_against_64 : decode cX11_against 64 = .ok (.aload_n 0, 1) := by decide +kernel
theorem dX11_against_65 : decode cX11_against 65 = .ok (.getfield 42, 3) := by decide +kernel
theorem dX11_against_68 : decode cX11_against 68 = .ok (.iload_n 1, 1) := by decide +kernel
theorem dX11_against_69 : decode cX11_against 69 = .ok (.iaload, 1) := by decide +kernel
theorem dX11_against_70 : decode cX11_against 70 = .ok (.aload_n 0, 1) := by decide +kernel
theorem dX11_against_71 : decode cX11_against 71 = .ok (.getfield 7, 3) := by decide +kernel
theorem dX11_against_74 : decode cX11_against 74 = .ok (.isub, 1) := by decide +kernel
theorem dX11_against_75 : decode cX11_against 75 = .ok (.if_icmp .le 9, 3) := by decide +kernel
theorem dX11_against_78 : decode cX11_against 78 = .ok (.aload_n 0, 1) := by decide +kernel
theorem dX11_against_79 : decode cX11_against 79 = .ok (.iconst 3, 1) := by decide +kernel
theorem dX11_against_80 : decode cX11_against 80 = .ok (.invokevirtual 162, 3) := by decide +kernel
theorem dX11_against_83 : decode cX11_against 83 = .ok (.ireturn, 1) := by decide +kernel
theorem dX11_against_84 : decode cX11_against 84 = .ok (.iconst 0, 1) := by decide +kernel
theorem dX11_against_85 : decode cX11_against 85 = .ok (.istore 4, 2) := by decide +kernel
theorem dX11_against_87 : decode cX11_against 87 = .ok (.iconst 0, 1) := by decide +kernel
theorem dX11_against_88 : decode cX11_against 88 = .ok (.istore 5, 2) := by decide +kernel
theorem dX11_against_90 : decode cX11_against 90 = .ok (.iload 5, 2) := by decide +kernel
theorem dX11_against_92 : decode cX11_against 92 = .ok (.aload_n 0, 1) := by decide +kernel
theorem dX11_against_93 : decode cX11_against 93 = .ok (.getfield 7, 3) := by decide +kernel
theorem dX11_against_96 : decode cX11_against 96 = .ok (.if_icmp .ge 48, 3) := by decide +kernel
theorem dX11_against_99 : decode cX11_against 99 = .ok (.aload_n 0, 1) := by decide +kernel
theorem dX11_against_100 : decode cX11_against 100 = .ok (.getfield 45, 3) := by decide +kernel
theorem dX11_against_103 : decode cX11_against 103 = .ok (.bipush 24, 2) := by decide +kernel
theorem dX11_against_105 : decode cX11_against 105 = .ok (.iload_n 1, 1) := by decide +kernel
theorem dX11_against_106 : decode cX11_against 106 = .ok (.imul, 1) := by decide +kernel
theorem dX11_against_107 : decode cX11_against 107 = .ok (.iload_n 3, 1) := by decide +kernel
theorem dX11_against_108 : decode cX11_against 108 = .ok (.iadd, 1) := by decide +kernel
theorem dX11_against_109 : decode cX11_against 109 = .ok (.iload 5, 2) := by decide +kernel
theorem dX11_against_111 : decode cX11_against 111 = .ok (.iadd, 1) := by decide +kernel
theorem dX11_against_112 : decode cX11_against 112 = .ok (.iaload, 1) := by decide +kernel
theorem dX11_against_113 : decode cX11_against 113 = .ok (.istore 6, 2) := by decide +kernel
theorem dX11_against_115 : decode cX11_against 115 = .ok (.iload 6, 2) := by decide +kernel
theorem dX11_against_117 : decode cX11_against 117 = .ok (.i2l, 1) := by decide +kernel
theorem dX11_against_118 : decode cX11_against 118 = .ok (.lconst 0, 1) := by decide +kernel
theorem dX11_against_119 : decode cX11_against 119 = .ok (.ldc2_w 160, 3) := by decide +kernel
theorem dX11_against_122 : decode cX11_against 122 = .ok (.invokestatic 80, 3) := by decide +kernel
theorem dX11_against_125 : decode cX11_against 125 = .ok (.ifCond .ne 6, 3) := by decide +kernel
theorem dX11_against_128 : decode cX11_against 128 = .ok (.bipush (-2), 2) := by decide +kernel
theorem dX11_against_130 : decode cX11_against 130 = .ok (.ireturn, 1) := by decide +kernel
theorem dX11_against_131 : decode cX11_against 131 = .ok (.iload 4, 2) := by decide +kernel
theorem dX11_against_133 : decode cX11_against 133 = .ok (.iload 6, 2) := by decide +kernel
theorem dX11_against_135 : decode cX11_against 135 = .ok (.iadd, 1) := by decide +kernel
theorem dX11_against_136 : decode cX11_against 136 = .ok (.istore 4, 2) := by decide +kernel
theorem dX11_against_138 : decode cX11_against 138 = .ok (.iinc 5 1, 3) := by decide +kernel
theorem dX11_against_141 : decode cX11_against 141 = .ok (.goto (-51), 3) := by decide +kernel
theorem dX11_against_144 : decode cX11_against 144 = .ok (.iload 4, 2) := by decide +kernel
theorem dX11_against_146 : decode cX11_against 146 = .ok (.ifCond .ne 8, 3) := by decide +kernel
theorem dX11_against_149 : decode cX11_against 149 = .ok (.bipush (-2), 2) := by decide +kernel
theorem dX11_against_151 : decode cX11_against 151 = .ok (.goto 4, 3) := by decide +kernel
theorem dX11_against_154 : decode cX11_against 154 = .ok (.iconst 0, 1) := by decide +kernel
theorem dX11_against_155 : decode cX11_against 155 = .ok (.ireturn, 1) := by decide +kernel
set_option maxRecDepth 20000 in
theorem ggX11_beliefs_X11_isTrader : GoodIn wsX11_beliefs wsX11_isTrader := goodIn_r _ [10, 11, 31, 32, 33, 34, 35, 36, 37, 38, 39, 40, 41, 42, 43, 44, 45, 46, 47, 48, 49, 50, 51, 52, 53, 54, 55, 56, 57] (by decide +kernel) (by decide +kernel)
set_option maxRecDepth 20000 in
theorem gX11_beliefs_X11_isTrader : GoodIn wsX11_beliefs (wsV RX11 136 RX11 yX11_isTrader wsX11_isTrader) := goodIn_app (goodIn_of _ (by decide +kernel)) ggX11_beliefs_X11_isTrader
set_option maxRecDepth 20000 in
theorem ggX11_beliefs_X11_within : GoodIn wsX11_beliefs wsX11_within := goodIn_r _ [14] (by decide +kernel) (by decide +kernel)
set_option maxRecDepth 20000 in
theorem gX11_beliefs_X11_within : GoodIn wsX11_beliefs (va_wsS RX11 80 yX11_within wsX11_within) := goodIn_app (goodIn_of _ (by decide +kernel)) ggX11_beliefs_X11_within
set_option maxRecDepth 20000 in
theorem ggX11_beliefs_X11_against : GoodIn wsX11_beliefs wsX11_against := goodIn_r _ [18, 19, 20, 21, 3, 5, 22, 12, 13, 9, 14, 23, 24, 25, 26, 1, 31, 32, 33, 34, 35, 36, 37, 38, 39, 40, 41, 42, 43, 44, 45, 46, 47, 48, 49, 50, 51, 52, 53, 54, 55, 56, 57] (by decide +kernel) (by decide +kernel)
set_option maxRecDepth 20000 in
theorem gX11_beliefs_X11_against : GoodIn wsX11_beliefs (wsV RX11 167 RX11 yX11_against wsX11_against) := goodIn_app (goodIn_of _ (by decide +kernel)) ggX11_beliefs_X11_against
set_option maxRecDepth 20000 in
theorem ggX11_beliefs_X11_believed : GoodIn wsX11_beliefs wsX11_believed := goodIn_r _ [30, 3, 4, 31, 32, 33, 34, 35, 36, 37, 38, 39, 40, 41, 42, 43, 44, 45, 46, 47, 48, 49, 50, 51, 52, 53, 54, 55, 56, 57] (by decide +kernel) (by decide +kernel)
set_option maxRecDepth 20000 in
theorem gX11_beliefs_X11_believed : GoodIn wsX11_beliefs (wsV RX11 156 RX11 yX11_believed wsX11_believed) := goodIn_app (goodIn_of _ (by decide +kernel)) ggX11_beliefs_X11_believed
theorem dX11_beliefs_0 : decode cX11_beliefs 0 = .ok (.aload_n 0, 1) := by decide +kernel
theorem dX11_beliefs_1 : decode cX11_beliefs 1 = .ok (.iconst 0, 1) := by decide +kernel
theorem dX11_beliefs_2 : decode cX11_beliefs 2 = .ok (.putfield 69, 3) := by decide +kernel
theorem dX11_beliefs_5 : decode cX11_beliefs 5 = .ok (.aload_n 0, 1) := by decide +kernel
theorem dX11_beliefs_6 : decode cX11_beliefs 6 = .ok (.iload_n 1, 1) := by decide +kernel
theorem dX11_beliefs_7 : decode cX11_beliefs 7 = .ok (.invokevirtual 136, 3) := by decide +kernel
theorem dX11_beliefs_10 : decode cX11_beliefs 10 = .ok (.ifCond .eq 15, 3) := by decide +kernel
theorem dX11_beliefs_13 : decode cX11_beliefs 13 = .ok (.iload_n 2, 1) := by decide +kernel
theorem dX11_beliefs_14 : decode cX11_beliefs 14 = .ok (.i2l, 1) := by decide +kernel
theorem dX11_beliefs_15 : decode cX11_beliefs 15 = .ok (.lconst 0, 1) := by decide +kernel
theorem dX11_beliefs_16 : decode cX11_beliefs 16 = .ok (.ldc2_w 165, 3) := by decide +kernel
theorem dX11_beliefs_19 : decode cX11_beliefs 19 = .ok (.invokestatic 80, 3) := by decide +kernel
theorem dX11_beliefs_22 : decode cX11_beliefs 22 = .ok (.ifCond .ne 5, 3) := by decide +kernel
theorem dX11_beliefs_25 : decode cX11_beliefs 25 = .ok (.iconst (-1), 1) := by decide +kernel
theorem dX11_beliefs_26 : decode cX11_beliefs 26 = .ok (.ireturn, 1) := by decide +kernel
theorem dX11_beliefs_27 : decode cX11_beliefs 27 = .ok (.aload_n 0, 1) := by decide +kernel
theorem dX11_beliefs_28 : decode cX11_beliefs 28 = .ok (.iload_n 2, 1) := by decide +kernel
theorem dX11_beliefs_29 : decode cX11_beliefs 29 = .ok (.iload_n 3, 1) := by decide +kernel
theorem dX11_beliefs_30 : decode cX11_beliefs 30 = .ok (.iload 4, 2) := by decide +kernel
theorem dX11_beliefs_32 : decode cX11_beliefs 32 = .ok (.invokevirtual 167, 3) := by decide +kernel
theorem dX11_beliefs_35 : decode cX11_beliefs 35 = .ok (.istore 5, 2) := by decide +kernel
theorem dX11_beliefs_37 : decode cX11_beliefs 37 = .ok (.iload 5, 2) := by decide +kernel
theorem dX11_beliefs_39 : decode cX11_beliefs 39 = .ok (.ifCond .eq 6, 3) := by decide +kernel
theorem dX11_beliefs_42 : decode cX11_beliefs 42 = .ok (.iload 5, 2) := by decide +kernel
theorem dX11_beliefs_44 : decode cX11_beliefs 44 = .ok (.ireturn, 1) := by decide +kernel
theorem dX11_beliefs_45 : decode cX11_beliefs 45 = .ok (.iconst 0, 1) := by decide +kernel
theorem dX11_beliefs_46 : decode cX11_beliefs 46 = .ok (.istore 6, 2) := by decide +kernel
theorem dX11_beliefs_48 : decode cX11_beliefs 48 = .ok (.iload 6, 2) := by decide +kernel
theorem dX11_beliefs_50 : decode cX11_beliefs 50 = .ok (.aload_n 0, 1) := by decide +kernel
theorem dX11_beliefs_51 : decode cX11_beliefs 51 = .ok (.getfield 7, 3) := by decide +kernel
theorem dX11_beliefs_54 : decode cX11_beliefs 54 = .ok (.if_icmp .ge 36, 3) := by decide +kernel
theorem dX11_beliefs_57 : decode cX11_beliefs 57 = .ok (.aload_n 0, 1) := by decide +kernel
theorem dX11_beliefs_58 : decode cX11_beliefs 58 = .ok (.getfield 36, 3) := by decide +kernel
theorem dX11_beliefs_61 : decode cX11_beliefs 61 = .ok (.bipush 8, 2) := by decide +kernel
theorem dX11_beliefs_63 : decode cX11_beliefs 63 = .ok (.iload_n 1, 1) := by decide +kernel
theorem dX11_beliefs_64 : decode cX11_beliefs 64 = .ok (.imul, 1) := by decide +kernel
theorem dX11_beliefs_65 : decode cX11_beliefs 65 = .ok (.iload 6, 2) := by decide +kernel
theorem dX11_beliefs_67 : decode cX11_beliefs 67 = .ok (.iadd, 1) := by decide +kernel
theorem dX11_beliefs_68 : decode cX11_beliefs 68 = .ok (.aload_n 0, 1) := by decide +kernel
theorem dX11_beliefs_69 : decode cX11_beliefs 69 = .ok (.getfield 45, 3) := by decide +kernel
theorem dX11_beliefs_72 : decode cX11_beliefs 72 = .ok (.bipush 24, 2) := by decide +kernel
theorem dX11_beliefs_74 : decode cX11_beliefs 74 = .ok (.iload_n 2, 1) := by decide +kernel
theorem dX11_beliefs_75 : decode cX11_beliefs 75 = .ok (.imul, 1) := by decide +kernel
theorem dX11_beliefs_76 : decode cX11_beliefs 76 = .ok (.iload 4, 2) := by decide +kernel
theorem dX11_beliefs_78 : decode cX11_beliefs 78 = .ok (.iadd, 1) := by decide +kernel
theorem dX11_beliefs_79 : decode cX11_beliefs 79 = .ok (.iload 6, 2) := by decide +kernel
theorem dX11_beliefs_81 : decode cX11_beliefs 81 = .ok (.iadd, 1) := by decide +kernel
theorem dX11_beliefs_82 : decode cX11_beliefs 82 = .ok (.iaload, 1) := by decide +kernel
theorem dX11_beliefs_83 : decode cX11_beliefs 83 = .ok (.iastore, 1) := by decide +kernel
theorem dX11_beliefs_84 : decode cX11_beliefs 84 = .ok (.iinc 6 1, 3) := by decide +kernel
theorem dX11_beliefs_87 : decode cX11_beliefs 87 = .ok (.goto (-39), 3) := by decide +kernel
theorem dX11_beliefs_90 : decode cX11_beliefs 90 = .ok (.aload_n 0, 1) := by decide +kernel
theorem dX11_beliefs_91 : decode cX11_beliefs 91 = .ok (.iload_n 1, 1) := by decide +kernel
theorem dX11_beliefs_92 : decode cX11_beliefs 92 = .ok (.invokevirtual 156, 3) := by decide +kernel
theorem dX11_beliefs_95 : decode cX11_beliefs 95 = .ok (.ireturn, 1) := by decide +kernel
set_option maxRecDepth 20000 in
theorem ggX11_worthOf_X11_in : GoodIn wsX11_worthOf wsX11_in := goodIn_r _ [6] (by decide +kernel) (by decide +kernel)
set_option maxRecDepth 20000 in
theorem gX11_worthOf_X11_in : GoodIn wsX11_worthOf (va_wsS RX11 108 yX11_in wsX11_in) := goodIn_app (goodIn_of _ (by decide +kernel)) ggX11_worthOf_X11_in
set_option maxRecDepth 20000 in
theorem ggX11_worthOf_X11_grains : GoodIn wsX11_worthOf wsX11_grains := goodIn_r _ [10, 11, 12, 1, 26, 27, 28, 29, 30, 31, 32, 33, 34, 35, 36, 37, 38, 39, 40, 41, 42, 43, 44, 45, 46, 47, 48, 49, 50, 51, 52] (by decide +kernel) (by decide +kernel)
set_option maxRecDepth 20000 in
theorem gX11_worthOf_X11_grains : GoodIn wsX11_worthOf (wsV RX11 126 RX11 yX11_grains wsX11_grains) := goodIn_app (goodIn_of _ (by decide +kernel)) ggX11_worthOf_X11_grains
set_option maxRecDepth 20000 in
theorem ggX11_worthOf_X11_believed : GoodIn wsX11_worthOf wsX11_believed := goodIn_r _ [16, 1, 2, 26, 27, 28, 29, 30, 31, 32, 33, 34, 35, 36, 37, 38, 39, 40, 41, 42, 43, 44, 45, 46, 47, 48, 49, 50, 51, 52] (by decide +kernel) (by decide +kernel)
set_option maxRecDepth 20000 in
theorem gX11_worthOf_X11_believed : GoodIn wsX11_worthOf (wsV RX11 156 RX11 yX11_believed wsX11_believed) := goodIn_app (goodIn_of _ (by decide +kernel)) ggX11_worthOf_X11_believed
set_option maxRecDepth 20000 in
theorem ggX11_worthOf_X11_paid : GoodIn wsX11_worthOf wsX11_paid := goodIn_r _ [20, 21, 22, 23, 5, 24, 1, 25, 11, 12, 3, 4, 6, 26, 27, 28, 29, 30, 31, 32, 33, 34, 35, 36, 37, 38, 39, 40, 41, 42, 43, 44, 45, 46, 47, 48, 49, 50, 51, 52] (by decide +kernel) (by decide +kernel)
set_option maxRecDepth 20000 in
theorem gX11_worthOf_X11_paid : GoodIn wsX11_worthOf (wsV RX11 129 RX11 yX11_paid wsX11_paid) := goodIn_app (goodIn_of _ (by decide +kernel)) ggX11_worthOf_X11_paid
theorem dX11_worthOf_0 : decode cX11_worthOf 0 = .ok (.lconst 0, 1) := by decide +kernel
theorem dX11_worthOf_1 : decode cX11_worthOf 1 = .ok (.lstore 5, 2) := by decide +kernel
theorem dX11_worthOf_3 : decode cX11_worthOf 3 = .ok (.iconst 0, 1) := by decide +kernel
theorem dX11_worthOf_4 : decode cX11_worthOf 4 = .ok (.istore 7, 2) := by decide +kernel
theorem dX11_worthOf_6 : decode cX11_worthOf 6 = .ok (.iload 7, 2) := by decide +kernel
theorem dX11_worthOf_8 : decode cX11_worthOf 8 = .ok (.aload_n 0, 1) := by decide +kernel
theorem dX11_worthOf_9 : decode cX11_worthOf 9 = .ok (.getfield 7, 3) := by decide +kernel
theorem dX11_worthOf_12 : decode cX11_worthOf 12 = .ok (.if_icmp .ge 34, 3) := by decide +kernel
theorem dX11_worthOf_15 : decode cX11_worthOf 15 = .ok (.lload 5, 2) := by decide +kernel
theorem dX11_worthOf_17 : decode cX11_worthOf 17 = .ok (.iload_n 2, 1) := by decide +kernel
theorem dX11_worthOf_18 : decode cX11_worthOf 18 = .ok (.iload 7, 2) := by decide +kernel
theorem dX11_worthOf_20 : decode cX11_worthOf 20 = .ok (.invokestatic 108, 3) := by decide +kernel
theorem dX11_worthOf_23 : decode cX11_worthOf 23 = .ok (.aload_n 0, 1) := by decide +kernel
theorem dX11_worthOf_24 : decode cX11_worthOf 24 = .ok (.getfield 36, 3) := by decide +kernel
theorem dX11_worthOf_27 : decode cX11_worthOf 27 = .ok (.bipush 8, 2) := by decide +kernel
theorem dX11_worthOf_29 : decode cX11_worthOf 29 = .ok (.iload_n 1, 1) := by decide +kernel
theorem dX11_worthOf_30 : decode cX11_worthOf 30 = .ok (.imul, 1) := by decide +kernel
theorem dX11_worthOf_31 : decode cX11_worthOf 31 = .ok (.iload 7, 2) := by decide +kernel
theorem dX11_worthOf_33 : decode cX11_worthOf 33 = .ok (.iadd, 1) := by decide +kernel
theorem dX11_worthOf_34 : decode cX11_worthOf 34 = .ok (.iaload, 1) := by decide +kernel
theorem dX11_worthOf_35 : decode cX11_worthOf 35 = .ok (.imul, 1) := by decide +kernel
theorem dX11_worthOf_36 : decode cX11_worthOf 36 = .ok (.i2l, 1) := by decide +kernel
theorem dX11_worthOf_37 : decode cX11_worthOf 37 = .ok (.ladd, 1) := by decide +kernel
theorem dX11_worthOf_38 : decode cX11_worthOf 38 = .ok (.lstore 5, 2) := by decide +kernel
theorem dX11_worthOf_40 : decode cX11_worthOf 40 = .ok (.iinc 7 1, 3) := by decide +kernel
theorem dX11_worthOf_43 : decode cX11_worthOf 43 = .ok (.goto (-37), 3) := by decide +kernel
theorem dX11_worthOf_46 : decode cX11_worthOf 46 = .ok (.lload 5, 2) := by decide +kernel
theorem dX11_worthOf_48 : decode cX11_worthOf 48 = .ok (.lload_n 3, 1) := by decide +kernel
theorem dX11_worthOf_49 : decode cX11_worthOf 49 = .ok (.lmul, 1) := by decide +kernel
theorem dX11_worthOf_50 : decode cX11_worthOf 50 = .ok (.aload_n 0, 1) := by decide +kernel
theorem dX11_worthOf_51 : decode cX11_worthOf 51 = .ok (.invokevirtual 126, 3) := by decide +kernel
theorem dX11_worthOf_54 : decode cX11_worthOf 54 = .ok (.lmul, 1) := by decide +kernel
theorem dX11_worthOf_55 : decode cX11_worthOf 55 = .ok (.aload_n 0, 1) := by decide +kernel
theorem dX11_worthOf_56 : decode cX11_worthOf 56 = .ok (.iload_n 1, 1) := by decide +kernel
theorem dX11_worthOf_57 : decode cX11_worthOf 57 = .ok (.invokevirtual 156, 3) := by decide +kernel
theorem dX11_worthOf_60 : decode cX11_worthOf 60 = .ok (.i2l, 1) := by decide +kernel
theorem dX11_worthOf_61 : decode cX11_worthOf 61 = .ok (.aload_n 0, 1) := by decide +kernel
theorem dX11_worthOf_62 : decode cX11_worthOf 62 = .ok (.iload_n 2, 1) := by decide +kernel
theorem dX11_worthOf_63 : decode cX11_worthOf 63 = .ok (.lload_n 3, 1) := by decide +kernel
theorem dX11_worthOf_64 : decode cX11_worthOf 64 = .ok (.invokevirtual 129, 3) := by decide +kernel
theorem dX11_worthOf_67 : decode cX11_worthOf 67 = .ok (.lmul, 1) := by decide +kernel
theorem dX11_worthOf_68 : decode cX11_worthOf 68 = .ok (.lsub, 1) := by decide +kernel
theorem dX11_worthOf_69 : decode cX11_worthOf 69 = .ok (.lreturn, 1) := by decide +kernel
set_option maxRecDepth 20000 in
theorem ggX11_worth_X11_isTrader : GoodIn wsX11_worth wsX11_isTrader := goodIn_r _ [6, 7, 49, 50, 51, 52, 53, 54, 55, 56, 57, 58, 59, 60, 61, 62, 63, 64, 65, 66, 67, 68, 69, 70, 71, 72, 73, 74, 75] (by decide +kernel) (by decide +kernel)
set_option maxRecDepth 20000 in
theorem gX11_worth_X11_isTrader : GoodIn wsX11_worth (wsV RX11 136 RX11 yX11_isTrader wsX11_isTrader) := goodIn_app (goodIn_of _ (by decide +kernel)) ggX11_worth_X11_isTrader
set_option maxRecDepth 20000 in
theorem ggX11_worth_X11_isSet : GoodIn wsX11_worth wsX11_isSet := goodIn_r _ [11, 12, 13, 14, 15, 5, 16, 49, 50, 51, 52, 53, 54, 55, 56, 57, 58, 59, 60, 61, 62, 63, 64, 65, 66, 67, 68, 69, 70, 71, 72, 73, 74, 75] (by decide +kernel) (by decide +kernel)
set_option maxRecDepth 20000 in
theorem gX11_worth_X11_isSet : GoodIn wsX11_worth (wsV RX11 116 RX11 yX11_isSet wsX11_isSet) := goodIn_app (goodIn_of _ (by decide +kernel)) ggX11_worth_X11_isSet
set_option maxRecDepth 20000 in
theorem ggX11_worth_X11_isShares : GoodIn wsX11_worth wsX11_isShares := goodIn_r _ [19, 20, 21, 14, 15, 5, 16] (by decide +kernel) (by decide +kernel)
set_option maxRecDepth 20000 in
theorem gX11_worth_X11_isShares : GoodIn wsX11_worth (va_wsS RX11 139 yX11_isShares wsX11_isShares) := goodIn_app (goodIn_of _ (by decide +kernel)) ggX11_worth_X11_isShares
set_option maxRecDepth 20000 in
theorem ggX11_worth_X11_worthOf : GoodIn wsX11_worth wsX11_worthOf := goodIn_r _ [25, 12, 26, 27, 28, 5, 29, 30, 31, 32, 33, 34, 35, 36, 37, 38, 39, 40, 41, 42, 43, 44, 45, 46, 47, 48, 49, 50, 51, 52, 53, 54, 55, 56, 57, 58, 59, 60, 61, 62, 63, 64, 65, 66, 67, 68, 69, 70, 71, 72, 73, 74, 75] (by decide +kernel) (by decide +kernel)
set_option maxRecDepth 20000 in
theorem gX11_worth_X11_worthOf : GoodIn wsX11_worth (wsV RX11 170 RX11 yX11_worthOf wsX11_worthOf) := goodIn_app (goodIn_of _ (by decide +kernel)) ggX11_worth_X11_worthOf
theorem dX11_worth_0 : decode cX11_worth 0 = .ok (.aload_n 0, 1) := by decide +kernel
theorem dX11_worth_1 : decode cX11_worth 1 = .ok (.iload_n 1, 1) := by decide +kernel
theorem dX11_worth_2 : decode cX11_worth 2 = .ok (.invokevirtual 136, 3) := by decide +kernel
theorem dX11_worth_5 : decode cX11_worth 5 = .ok (.ifCond .eq 29, 3) := by decide +kernel
theorem dX11_worth_8 : decode cX11_worth 8 = .ok (.aload_n 0, 1) := by decide +kernel
theorem dX11_worth_9 : decode cX11_worth 9 = .ok (.iload_n 2, 1) := by decide +kernel
theorem dX11_worth_10 : decode cX11_worth 10 = .ok (.invokevirtual 116, 3) := by decide +kernel
theorem dX11_worth_13 : decode cX11_worth 13 = .ok (.ifCond .eq 21, 3) := by decide +kernel
theorem dX11_worth_16 : decode cX11_worth 16 = .ok (.iload_n 3, 1) := by decide +kernel
theorem dX11_worth_17 : decode cX11_worth 17 = .ok (.invokestatic 139, 3) := by decide +kernel
theorem dX11_worth_20 : decode cX11_worth 20 = .ok (.ifCond .eq 14, 3) := by decide +kernel
theorem dX11_worth_23 : decode cX11_worth 23 = .ok (.aload_n 0, 1) := by decide +kernel
theorem dX11_worth_24 : decode cX11_worth 24 = .ok (.iload_n 1, 1) := by decide +kernel
theorem dX11_worth_25 : decode cX11_worth 25 = .ok (.iload_n 2, 1) := by decide +kernel
theorem dX11_worth_26 : decode cX11_worth 26 = .ok (.iload_n 3, 1) := by decide +kernel
theorem dX11_worth_27 : decode cX11_worth 27 = .ok (.i2l, 1) := by decide +kernel
theorem dX11_worth_28 : decode cX11_worth 28 = .ok (.invokevirtual 170, 3) := by decide +kernel
theorem dX11_worth_31 : decode cX11_worth 31 = .ok (.goto 6, 3) := by decide +kernel
theorem dX11_worth_34 : decode cX11_worth 34 = .ok (.ldc2_w 72, 3) := by decide +kernel
theorem dX11_worth_37 : decode cX11_worth 37 = .ok (.lreturn, 1) := by decide +kernel
set_option maxRecDepth 20000 in
theorem ggX11_best_X11_isTrader : GoodIn wsX11_best wsX11_isTrader := goodIn_r _ [7, 8, 59, 60, 61, 62, 63, 64, 65, 66, 67, 68, 69, 70, 71, 72, 73, 74, 75, 76, 77, 78, 79, 80, 81, 82, 83, 84, 85] (by decide +kernel) (by decide +kernel)
set_option maxRecDepth 20000 in
theorem gX11_best_X11_isTrader : GoodIn wsX11_best (wsV RX11 136 RX11 yX11_isTrader wsX11_isTrader) := goodIn_app (goodIn_of _ (by decide +kernel)) ggX11_best_X11_isTrader
set_option maxRecDepth 20000 in
theorem ggX11_best_X11_isSet : GoodIn wsX11_best wsX11_isSet := goodIn_r _ [12, 13, 14, 15, 16, 6, 17, 59, 60, 61, 62, 63, 64, 65, 66, 67, 68, 69, 70, 71, 72, 73, 74, 75, 76, 77, 78, 79, 80, 81, 82, 83, 84, 85] (by decide +kernel) (by decide +kernel)
set_option maxRecDepth 20000 in
theorem gX11_best_X11_isSet : GoodIn wsX11_best (wsV RX11 116 RX11 yX11_isSet wsX11_isSet) := goodIn_app (goodIn_of _ (by decide +kernel)) ggX11_best_X11_isSet
set_option maxRecDepth 20000 in
theorem ggX11_best_X11_worthOf : GoodIn wsX11_best wsX11_worthOf := goodIn_r _ [21, 13, 22, 23, 24, 6, 25, 26, 27, 28, 29, 30, 31, 32, 33, 34, 35, 36, 37, 38, 39, 40, 41, 42, 43, 44, 59, 60, 61, 62, 63, 64, 65, 66, 67, 68, 69, 70, 71, 72, 73, 74, 75, 76, 77, 78, 79, 80, 81, 82, 83, 84, 85] (by decide +kernel) (by decide +kernel)
set_option maxRecDepth 20000 in
theorem gX11_best_X11_worthOf : GoodIn wsX11_best (wsV RX11 170 RX11 yX11_worthOf wsX11_worthOf) := goodIn_app (goodIn_of _ (by decide +kernel)) ggX11_best_X11_worthOf
set_option maxRecDepth 20000 in
theorem ggX11_best_X11_why : GoodIn wsX11_best wsX11_why := goodIn_r _ [48, 13, 30, 31, 14, 44, 49, 50, 51, 52, 6, 53, 23, 24, 25, 26, 27, 28, 29, 15, 16, 17, 36, 37, 38, 39, 40, 41, 42, 43, 54, 55, 56, 57, 58, 59, 60, 61, 62, 63, 64, 65, 66, 67, 68, 69, 70, 71, 72, 73, 74, 75, 76, 77, 78, 79, 80, 81, 82, 83, 84, 85] (by decide +kernel) (by decide +kernel)
set_option maxRecDepth 20000 in
theorem gX11_best_X11_why : GoodIn wsX11_best (wsV RX11 142 RX11 yX11_why wsX11_why) := goodIn_app (goodIn_of _ (by decide +kernel)) ggX11_best_X11_why
theorem dX11_best_0 : decode cX11_best 0 = .ok (.aload_n 0, 1) := by decide +kernel
theorem dX11_best_1 : decode cX11_best 1 = .ok (.iload_n 1, 1) := by decide +kernel
theorem dX11_best_2 : decode cX11_best 2 = .ok (.invokevirtual 136, 3) := by decide +kernel
theorem dX11_best_5 : decode cX11_best 5 = .ok (.ifCond .eq 20, 3) := by decide +kernel
theorem dX11_best_8 : decode cX11_best 8 = .ok (.aload_n 0, 1) := by decide +kernel
theorem dX11_best_9 : decode cX11_best 9 = .ok (.iload_n 2, 1) := by decide +kernel
theorem dX11_best_10 : decode cX11_best 10 = .ok (.invokevirtual 116, 3) := by decide +kernel
theorem dX11_best_13 : decode cX11_best 13 = .ok (.ifCond .eq 12, 3) := by decide +kernel
theorem dX11_best_16 : decode cX11_best 16 = .ok (.aload_n 0, 1) := by decide +kernel
theorem dX11_best_17 : decode cX11_best 17 = .ok (.getfield 20, 3) := by decide +kernel
theorem dX11_best_20 : decode cX11_best 20 = .ok (.bipush (-9), 2) := by decide +kernel
theorem dX11_best_22 : decode cX11_best 22 = .ok (.if_icmp .eq 7, 3) := by decide +kernel
theorem dX11_best_25 : decode cX11_best 25 = .ok (.ldc2_w 72, 3) := by decide +kernel
theorem dX11_best_28 : decode cX11_best 28 = .ok (.lreturn, 1) := by decide +kernel
theorem dX11_best_29 : decode cX11_best 29 = .ok (.lconst 0, 1) := by decide +kernel
theorem dX11_best_30 : decode cX11_best 30 = .ok (.lstore_n 3, 1) := by decide +kernel
theorem dX11_best_31 : decode cX11_best 31 = .ok (.lconst 0, 1) := by decide +kernel
theorem dX11_best_32 : decode cX11_best 32 = .ok (.lstore 5, 2) := by decide +kernel
theorem dX11_best_34 : decode cX11_best 34 = .ok (.iconst 1, 1) := by decide +kernel
theorem dX11_best_35 : decode cX11_best 35 = .ok (.istore 7, 2) := by decide +kernel
theorem dX11_best_37 : decode cX11_best 37 = .ok (.iload 7, 2) := by decide +kernel
theorem dX11_best_39 : decode cX11_best 39 = .ok (.bipush 50, 2) := by decide +kernel
theorem dX11_best_41 : decode cX11_best 41 = .ok (.if_icmp .gt 78, 3) := by decide +kernel
theorem dX11_best_44 : decode cX11_best 44 = .ok (.iconst 0, 1) := by decide +kernel
theorem dX11_best_45 : decode cX11_best 45 = .ok (.istore 8, 2) := by decide +kernel
theorem dX11_best_47 : decode cX11_best 47 = .ok (.iload 8, 2) := by decide +kernel
theorem dX11_best_49 : decode cX11_best 49 = .ok (.iconst 2, 1) := by decide +kernel
theorem dX11_best_50 : decode cX11_best 50 = .ok (.if_icmp .ge 63, 3) := by decide +kernel
theorem dX11_best_53 : decode cX11_best 53 = .ok (.iload 8, 2) := by decide +kernel
theorem dX11_best_55 : decode cX11_best 55 = .ok (.ifCond .ne 8, 3) := by decide +kernel
theorem dX11_best_58 : decode cX11_best 58 = .ok (.iload 7, 2) := by decide +kernel
theorem dX11_best_60 : decode cX11_best 60 = .ok (.goto 6, 3) := by decide +kernel
theorem dX11_best_63 : decode cX11_best 63 = .ok (.iload 7, 2) := by decide +kernel
theorem dX11_best_65 : decode cX11_best 65 = .ok (.ineg, 1) := by decide +kernel
theorem dX11_best_66 : decode cX11_best 66 = .ok (.istore 9, 2) := by decide +kernel
theorem dX11_best_68 : decode cX11_best 68 = .ok (.aload_n 0, 1) := by decide +kernel
theorem dX11_best_69 : decode cX11_best 69 = .ok (.iload_n 1, 1) := by decide +kernel
theorem dX11_best_70 : decode cX11_best 70 = .ok (.iload_n 2, 1) := by decide +kernel
theorem dX11_best_71 : decode cX11_best 71 = .ok (.iload 9, 2) := by decide +kernel
theorem dX11_best_73 : decode cX11_best 73 = .ok (.i2l, 1) := by decide +kernel
theorem dX11_best_74 : decode cX11_best 74 = .ok (.invokevirtual 170, 3) := by decide +kernel
theorem dX11_best_77 : decode cX11_best 77 = .ok (.lstore 10, 2) := by decide +kernel
theorem dX11_best_79 : decode cX11_best 79 = .ok (.lload 10, 2) := by decide +kernel
theorem dX11_best_81 : decode cX11_best 81 = .ok (.lload 5, 2) := by decide +kernel
theorem dX11_best_83 : decode cX11_best 83 = .ok (.lcmp, 1) := by decide +kernel
theorem dX11_best_84 : decode cX11_best 84 = .ok (.ifCond .le 23, 3) := by decide +kernel
theorem dX11_best_87 : decode cX11_best 87 = .ok (.aload_n 0, 1) := by decide +kernel
theorem dX11_best_88 : decode cX11_best 88 = .ok (.iload_n 1, 1) := by decide +kernel
theorem dX11_best_89 : decode cX11_best 89 = .ok (.iload_n 2, 1) := by decide +kernel
theorem dX11_best_90 : decode cX11_best 90 = .ok (.iload 9, 2) := by decide +kernel
theorem dX11_best_92 : decode cX11_best 92 = .ok (.i2l, 1) := by decide +kernel
theorem dX11_best_93 : decode cX11_best 93 = .ok (.invokevirtual 142, 3) := by decide +kernel
theorem dX11_best_96 : decode cX11_best 96 = .ok (.ifCond .ne 11, 3) := by decide +kernel
theorem dX11_best_99 : decode cX11_best 99 = .ok (.lload 10, 2) := by decide +kernel
theorem dX11_best_101 : decode cX11_best 101 = .ok (.lstore 5, 2) := by decide +kernel
theorem dX11_best_103 : decode cX11_best 103 = .ok (.iload 9, 2) := by decide +kernel
theorem dX11_best_105 : decode cX11_best 105 = .ok (.i2l, 1) := by decide +kernel
theorem dX11_best_106 : decode cX11_best 106 = .ok (.lstore_n 3, 1) := by decide +kernel
theorem dX11_best_107 : decode cX11_best 107 = .ok (.iinc 8 1, 3) := by decide +kernel
theorem dX11_best_110 : decode cX11_best 110 = .ok (.goto (-63), 3) := by decide +kernel
theorem dX11_best_113 : decode cX11_best 113 = .ok (.iinc 7 1, 3) := by decide +kernel
theorem dX11_best_116 : decode cX11_best 116 = .ok (.goto (-79), 3) := by decide +kernel
theorem dX11_best_119 : decode cX11_best 119 = .ok (.lload_n 3, 1) := by decide +kernel
theorem dX11_best_120 : decode cX11_best 120 = .ok (.lreturn, 1) := by decide +kernel
set_option maxRecDepth 20000 in
theorem ggX11_offer_X11_isSet : GoodIn wsX11_offer wsX11_isSet := goodIn_r _ [11, 12, 13, 14, 15, 10, 16, 17, 18, 19, 20, 21, 22, 23, 24, 25, 26, 27, 28, 29, 30, 31, 32, 33, 34, 35, 36, 37, 38, 39, 40, 41, 42, 43] (by decide +kernel) (by decide +kernel)
set_option maxRecDepth 20000 in
theorem gX11_offer_X11_isSet : GoodIn wsX11_offer (wsV RX11 116 RX11 yX11_isSet wsX11_isSet) := goodIn_app (goodIn_of _ (by decide +kernel)) ggX11_offer_X11_isSet
set_option maxRecDepth 20000 in
theorem ggX11_offer_X11_within : GoodIn wsX11_offer wsX11_within := goodIn_r _ [16] (by decide +kernel) (by decide +kernel)
set_option maxRecDepth 20000 in
theorem gX11_offer_X11_within : GoodIn wsX11_offer (va_wsS RX11 80 yX11_within wsX11_within) := goodIn_app (goodIn_of _ (by decide +kernel)) ggX11_offer_X11_within
theorem dX11_offer_0 : decode cX11_offer 0 = .ok (.aload_n 0, 1) := by decide +kernel
theorem dX11_offer_1 : decode cX11_offer 1 = .ok (.iload_n 1, 1) := by decide +kernel
theorem dX11_offer_2 : decode cX11_offer 2 = .ok (.invokevirtual 116, 3) := by decide +kernel
theorem dX11_offer_5 : decode cX11_offer 5 = .ok (.ifCond .eq 27, 3) := by decide +kernel
theorem dX11_offer_8 : decode cX11_offer 8 = .ok (.iload_n 2, 1) := by decide +kernel
theorem dX11_offer_9 : decode cX11_offer 9 = .ok (.i2l, 1) := by decide +kernel
theorem dX11_offer_10 : decode cX11_offer 10 = .ok (.lconst 1, 1) := by decide +kernel
theorem dX11_offer_11 : decode cX11_offer 11 = .ok (.ldc2_w 173, 3) := by decide +kernel
theorem dX11_offer_14 : decode cX11_offer 14 = .ok (.invokestatic 80, 3) := by decide +kernel
theorem dX11_offer_17 : decode cX11_offer 17 = .ok (.ifCond .eq 15, 3) := by decide +kernel
theorem dX11_offer_20 : decode cX11_offer 20 = .ok (.iload_n 3, 1) := by decide +kernel
theorem dX11_offer_21 : decode cX11_offer 21 = .ok (.i2l, 1) := by decide +kernel
theorem dX11_offer_22 : decode cX11_offer 22 = .ok (.lconst 1, 1) := by decide +kernel
theorem dX11_offer_23 : decode cX11_offer 23 = .ok (.ldc2_w 165, 3) := by decide +kernel
theorem dX11_offer_26 : decode cX11_offer 26 = .ok (.invokestatic 80, 3) := by decide +kernel
theorem dX11_offer_29 : decode cX11_offer 29 = .ok (.ifCond .ne 6, 3) := by decide +kernel
theorem dX11_offer_32 : decode cX11_offer 32 = .ok (.bipush (-2), 2) := by decide +kernel
theorem dX11_offer_34 : decode cX11_offer 34 = .ok (.ireturn, 1) := by decide +kernel
theorem dX11_offer_35 : decode cX11_offer 35 = .ok (.aload_n 0, 1) := by decide +kernel
theorem dX11_offer_36 : decode cX11_offer 36 = .ok (.getfield 96, 3) := by decide +kernel
theorem dX11_offer_39 : decode cX11_offer 39 = .ok (.bipush 6, 2) := by decide +kernel
theorem dX11_offer_41 : decode cX11_offer 41 = .ok (.if_icmp .ne 6, 3) := by decide +kernel
theorem dX11_offer_44 : decode cX11_offer 44 = .ok (.bipush (-4), 2) := by decide +kernel
theorem dX11_offer_46 : decode cX11_offer 46 = .ok (.ireturn, 1) := by decide +kernel
theorem dX11_offer_47 : decode cX11_offer 47 = .ok (.aload_n 0, 1) := by decide +kernel
theorem dX11_offer_48 : decode cX11_offer 48 = .ok (.getfield 48, 3) := by decide +kernel
theorem dX11_offer_51 : decode cX11_offer 51 = .ok (.aload_n 0, 1) := by decide +kernel
theorem dX11_offer_52 : decode cX11_offer 52 = .ok (.getfield 96, 3) := by decide +kernel
theorem dX11_offer_55 : decode cX11_offer 55 = .ok (.iload_n 1, 1) := by decide +kernel
theorem dX11_offer_56 : decode cX11_offer 56 = .ok (.iastore, 1) := by decide +kernel
theorem dX11_offer_57 : decode cX11_offer 57 = .ok (.aload_n 0, 1) := by decide +kernel
theorem dX11_offer_58 : decode cX11_offer 58 = .ok (.getfield 51, 3) := by decide +kernel
theorem dX11_offer_61 : decode cX11_offer 61 = .ok (.aload_n 0, 1) := by decide +kernel
theorem dX11_offer_62 : decode cX11_offer 62 = .ok (.getfield 96, 3) := by decide +kernel
theorem dX11_offer_65 : decode cX11_offer 65 = .ok (.iload_n 2, 1) := by decide +kernel
theorem dX11_offer_66 : decode cX11_offer 66 = .ok (.iastore, 1) := by decide +kernel
theorem dX11_offer_67 : decode cX11_offer 67 = .ok (.aload_n 0, 1) := by decide +kernel
theorem dX11_offer_68 : decode cX11_offer 68 = .ok (.getfield 54, 3) := by decide +kernel
theorem dX11_offer_71 : decode cX11_offer 71 = .ok (.aload_n 0, 1) := by decide +kernel
theorem dX11_offer_72 : decode cX11_offer 72 = .ok (.getfield 96, 3) := by decide +kernel
theorem dX11_offer_75 : decode cX11_offer 75 = .ok (.iload_n 3, 1) := by decide +kernel
theorem dX11_offer_76 : decode cX11_offer 76 = .ok (.iastore, 1) := by decide +kernel
theorem dX11_offer_77 : decode cX11_offer 77 = .ok (.aload_n 0, 1) := by decide +kernel
theorem dX11_offer_78 : decode cX11_offer 78 = .ok (.dup, 1) := by decide +kernel
theorem dX11_offer_79 : decode cX11_offer 79 = .ok (.getfield 96, 3) := by decide +kernel
theorem dX11_offer_82 : decode cX11_offer 82 = .ok (.iconst 1, 1) := by decide +kernel
theorem dX11_offer_83 : decode cX11_offer 83 = .ok (.iadd, 1) := by decide +kernel
theorem dX11_offer_84 : decode cX11_offer 84 = .ok (.putfield 96, 3) := by decide +kernel
theorem dX11_offer_87 : decode cX11_offer 87 = .ok (.aload_n 0, 1) := by decide +kernel
theorem dX11_offer_88 : decode cX11_offer 88 = .ok (.getfield 96, 3) := by decide +kernel
theorem dX11_offer_91 : decode cX11_offer 91 = .ok (.iconst 1, 1) := by decide +kernel
theorem dX11_offer_92 : decode cX11_offer 92 = .ok (.isub, 1) := by decide +kernel
theorem dX11_offer_93 : decode cX11_offer 93 = .ok (.ireturn, 1) := by decide +kernel
theorem dX11_isOffer_0 : decode cX11_isOffer 0 = .ok (.iload_n 1, 1) := by decide +kernel
theorem dX11_isOffer_1 : decode cX11_isOffer 1 = .ok (.ifCond .lt 15, 3) := by decide +kernel
theorem dX11_isOffer_4 : decode cX11_isOffer 4 = .ok (.iload_n 1, 1) := by decide +kernel
theorem dX11_isOffer_5 : decode cX11_isOffer 5 = .ok (.aload_n 0, 1) := by decide +kernel
theorem dX11_isOffer_6 : decode cX11_isOffer 6 = .ok (.getfield 96, 3) := by decide +kernel
theorem dX11_isOffer_9 : decode cX11_isOffer 9 = .ok (.if_icmp .ge 7, 3) := by decide +kernel
theorem dX11_isOffer_12 : decode cX11_isOffer 12 = .ok (.iconst 1, 1) := by decide +kernel
theorem dX11_isOffer_13 : decode cX11_isOffer 13 = .ok (.goto 4, 3) := by decide +kernel
theorem dX11_isOffer_16 : decode cX11_isOffer 16 = .ok (.iconst 0, 1) := by decide +kernel
theorem dX11_isOffer_17 : decode cX11_isOffer 17 = .ok (.ireturn, 1) := by decide +kernel
set_option maxRecDepth 20000 in
theorem ggX11_most_X11_isOffer : GoodIn wsX11_most wsX11_isOffer := goodIn_r _ [7, 8, 12, 13, 14, 15, 16, 17, 18, 19, 20, 21, 22, 23, 24, 25, 26, 27, 28, 29, 30, 31, 32, 33, 34, 35, 36, 37, 38] (by decide +kernel) (by decide +kernel)
set_option maxRecDepth 20000 in
theorem gX11_most_X11_isOffer : GoodIn wsX11_most (wsV RX11 175 RX11 yX11_isOffer wsX11_isOffer) := goodIn_app (goodIn_of _ (by decide +kernel)) ggX11_most_X11_isOffer
set_option maxRecDepth 20000 in
theorem ggX11_most_X11_within : GoodIn wsX11_most wsX11_within := goodIn_r _ [11] (by decide +kernel) (by decide +kernel)
set_option maxRecDepth 20000 in
theorem gX11_most_X11_within : GoodIn wsX11_most (va_wsS RX11 80 yX11_within wsX11_within) := goodIn_app (goodIn_of _ (by decide +kernel)) ggX11_most_X11_within
theorem dX11_most_0 : decode cX11_most 0 = .ok (.aload_n 0, 1) := by decide +kernel
theorem dX11_most_1 : decode cX11_most 1 = .ok (.iload_n 1, 1) := by decide +kernel
theorem dX11_most_2 : decode cX11_most 2 = .ok (.invokevirtual 175, 3) := by decide +kernel
theorem dX11_most_5 : decode cX11_most 5 = .ok (.ifCond .ne 5, 3) := by decide +kernel
theorem dX11_most_8 : decode cX11_most 8 = .ok (.iconst (-1), 1) := by decide +kernel
theorem dX11_most_9 : decode cX11_most 9 = .ok (.ireturn, 1) := by decide +kernel
theorem dX11_most_10 : decode cX11_most 10 = .ok (.iload_n 2, 1) := by decide +kernel
theorem dX11_most_11 : decode cX11_most 11 = .ok (.i2l, 1) := by decide +kernel
theorem dX11_most_12 : decode cX11_most 12 = .ok (.lconst 0, 1) := by decide +kernel
theorem dX11_most_13 : decode cX11_most 13 = .ok (.ldc2_w 165, 3) := by decide +kernel
theorem dX11_most_16 : decode cX11_most 16 = .ok (.invokestatic 80, 3) := by decide +kernel
theorem dX11_most_19 : decode cX11_most 19 = .ok (.ifCond .ne 6, 3) := by decide +kernel
theorem dX11_most_22 : decode cX11_most 22 = .ok (.bipush (-2), 2) := by decide +kernel
theorem dX11_most_24 : decode cX11_most 24 = .ok (.ireturn, 1) := by decide +kernel
theorem dX11_most_25 : decode cX11_most 25 = .ok (.aload_n 0, 1) := by decide +kernel
theorem dX11_most_26 : decode cX11_most 26 = .ok (.getfield 54, 3) := by decide +kernel
theorem dX11_most_29 : decode cX11_most 29 = .ok (.iload_n 1, 1) := by decide +kernel
theorem dX11_most_30 : decode cX11_most 30 = .ok (.iaload, 1) := by decide +kernel
theorem dX11_most_31 : decode cX11_most 31 = .ok (.istore_n 3, 1) := by decide +kernel
theorem dX11_most_32 : decode cX11_most 32 = .ok (.aload_n 0, 1) := by decide +kernel
theorem dX11_most_33 : decode cX11_most 33 = .ok (.getfield 54, 3) := by decide +kernel
theorem dX11_most_36 : decode cX11_most 36 = .ok (.iload_n 1, 1) := by decide +kernel
theorem dX11_most_37 : decode cX11_most 37 = .ok (.iload_n 2, 1) := by decide +kernel
theorem dX11_most_38 : decode cX11_most 38 = .ok (.iastore, 1) := by decide +kernel
theorem dX11_most_39 : decode cX11_most 39 = .ok (.iload_n 3, 1) := by decide +kernel
theorem dX11_most_40 : decode cX11_most 40 = .ok (.ireturn, 1) := by decide +kernel
set_option maxRecDepth 20000 in
theorem ggX11_sureNow_X11_in : GoodIn wsX11_sureNow wsX11_in := goodIn_r _ [9] (by decide +kernel) (by decide +kernel)
set_option maxRecDepth 20000 in
theorem gX11_sureNow_X11_in : GoodIn wsX11_sureNow (va_wsS RX11 108 yX11_in wsX11_in) := goodIn_app (goodIn_of _ (by decide +kernel)) ggX11_sureNow_X11_in
theorem dX11_sureNow_0 : decode cX11_sureNow 0 = .ok (.iconst 0, 1) := by decide +kernel
theorem dX11_sureNow_1 : decode cX11_sureNow 1 = .ok (.istore_n 1, 1) := by decide +kernel
theorem dX11_sureNow_2 : decode cX11_sureNow 2 = .ok (.iconst 0, 1) := by decide +kernel
theorem dX11_sureNow_3 : decode cX11_sureNow 3 = .ok (.istore_n 2, 1) := by decide +kernel
theorem dX11_sureNow_4 : decode cX11_sureNow 4 = .ok (.iload_n 2, 1) := by decide +kernel
theorem dX11_sureNow_5 : decode cX11_sureNow 5 = .ok (.aload_n 0, 1) := by decide +kernel
theorem dX11_sureNow_6 : decode cX11_sureNow 6 = .ok (.getfield 7, 3) := by decide +kernel
theorem dX11_sureNow_9 : decode cX11_sureNow 9 = .ok (.if_icmp .ge 77, 3) := by decide +kernel
theorem dX11_sureNow_12 : decode cX11_sureNow 12 = .ok (.iconst 0, 1) := by decide +kernel
theorem dX11_sureNow_13 : decode cX11_sureNow 13 = .ok (.istore_n 3, 1) := by decide +kernel
theorem dX11_sureNow_14 : decode cX11_sureNow 14 = .ok (.iconst 0, 1) := by decide +kernel
theorem dX11_sureNow_15 : decode cX11_sureNow 15 = .ok (.istore 4, 2) := by decide +kernel
theorem dX11_sureNow_17 : decode cX11_sureNow 17 = .ok (.iload 4, 2) := by decide +kernel
theorem dX11_sureNow_19 : decode cX11_sureNow 19 = .ok (.aload_n 0, 1) := by decide +kernel
theorem dX11_sureNow_20 : decode cX11_sureNow 20 = .ok (.getfield 96, 3) := by decide +kernel
theorem dX11_sureNow_23 : decode cX11_sureNow 23 = .ok (.if_icmp .ge 42, 3) := by decide +kernel
theorem dX11_sureNow_26 : decode cX11_sureNow 26 = .ok (.iload_n 3, 1) := by decide +kernel
theorem dX11_sureNow_27 : decode cX11_sureNow 27 = .ok (.aload_n 0, 1) := by decide +kernel
theorem dX11_sureNow_28 : decode cX11_sureNow 28 = .ok (.getfield 57, 3) := by decide +kernel
theorem dX11_sureNow_31 : decode cX11_sureNow 31 = .ok (.iload 4, 2) := by decide +kernel
theorem dX11_sureNow_33 : decode cX11_sureNow 33 = .ok (.iaload, 1) := by decide +kernel
theorem dX11_sureNow_34 : decode cX11_sureNow 34 = .ok (.bipush 100, 2) := by decide +kernel
theorem dX11_sureNow_36 : decode cX11_sureNow 36 = .ok (.aload_n 0, 1) := by decide +kernel
theorem dX11_sureNow_37 : decode cX11_sureNow 37 = .ok (.getfield 48, 3) := by decide +kernel
theorem dX11_sureNow_40 : decode cX11_sureNow 40 = .ok (.iload 4, 2) := by decide +kernel
theorem dX11_sureNow_42 : decode cX11_sureNow 42 = .ok (.iaload, 1) := by decide +kernel
theorem dX11_sureNow_43 : decode cX11_sureNow 43 = .ok (.iload_n 2, 1) := by decide +kernel
theorem dX11_sureNow_44 : decode cX11_sureNow 44 = .ok (.invokestatic 108, 3) := by decide +kernel
theorem dX11_sureNow_47 : decode cX11_sureNow 47 = .ok (.imul, 1) := by decide +kernel
theorem dX11_sureNow_48 : decode cX11_sureNow 48 = .ok (.aload_n 0, 1) := by decide +kernel
theorem dX11_sureNow_49 : decode cX11_sureNow 49 = .ok (.getfield 51, 3) := by decide +kernel
theorem dX11_sureNow_52 : decode cX11_sureNow 52 = .ok (.iload 4, 2) := by decide +kernel
theorem dX11_sureNow_54 : decode cX11_sureNow 54 = .ok (.iaload, 1) := by decide +kernel
theorem dX11_sureNow_55 : decode cX11_sureNow 55 = .ok (.isub, 1) := by decide +kernel
theorem dX11_sureNow_56 : decode cX11_sureNow 56 = .ok (.imul, 1) := by decide +kernel
theorem dX11_sureNow_57 : decode cX11_sureNow 57 = .ok (.iadd, 1) := by decide +kernel
theorem dX11_sureNow_58 : decode cX11_sureNow 58 = .ok (.istore_n 3, 1) := by decide +kernel
theorem dX11_sureNow_59 : decode cX11_sureNow 59 = .ok (.iinc 4 1, 3) := by decide +kernel
theorem dX11_sureNow_62 : decode cX11_sureNow 62 = .ok (.goto (-45), 3) := by decide +kernel
theorem dX11_sureNow_65 : decode cX11_sureNow 65 = .ok (.iload_n 2, 1) := by decide +kernel
theorem dX11_sureNow_66 : decode cX11_sureNow 66 = .ok (.ifCond .eq 8, 3) := by decide +kernel
theorem dX11_sureNow_69 : decode cX11_sureNow 69 = .ok (.iload_n 3, 1) := by decide +kernel
theorem dX11_sureNow_70 : decode cX11_sureNow 70 = .ok (.iload_n 1, 1) := by decide +kernel
theorem dX11_sureNow_71 : decode cX11_sureNow 71 = .ok (.if_icmp .ge 7, 3) := by decide +kernel
theorem dX11_sureNow_74 : decode cX11_sureNow 74 = .ok (.iload_n 3, 1) := by decide +kernel
theorem dX11_sureNow_75 : decode cX11_sureNow 75 = .ok (.goto 4, 3) := by decide +kernel
theorem dX11_sureNow_78 : decode cX11_sureNow 78 = .ok (.iload_n 1, 1) := by decide +kernel
theorem dX11_sureNow_79 : decode cX11_sureNow 79 = .ok (.istore_n 1, 1) := by decide +kernel
theorem dX11_sureNow_80 : decode cX11_sureNow 80 = .ok (.iinc 2 1, 3) := by decide +kernel
theorem dX11_sureNow_83 : decode cX11_sureNow 83 = .ok (.goto (-79), 3) := by decide +kernel
theorem dX11_sureNow_86 : decode cX11_sureNow 86 = .ok (.iload_n 1, 1) := by decide +kernel
theorem dX11_sureNow_87 : decode cX11_sureNow 87 = .ok (.ireturn, 1) := by decide +kernel
set_option maxRecDepth 20000 in
theorem ggX11_findBundle_X11_sureNow : GoodIn wsX11_findBundle wsX11_sureNow := goodIn_r _ [10, 11, 4, 1, 12, 13, 14, 15, 9, 16, 17, 18, 19, 20, 21, 22, 23, 24, 25, 26, 27, 28, 29, 30, 31, 32, 33, 34, 35, 36, 37, 38, 39, 40, 41, 42, 43] (by decide +kernel) (by decide +kernel)
set_option maxRecDepth 20000 in
theorem gX11_findBundle_X11_sureNow : GoodIn wsX11_findBundle (wsV RX11 181 RX11 yX11_sureNow wsX11_sureNow) := goodIn_app (goodIn_of _ (by decide +kernel)) ggX11_findBundle_X11_sureNow
theorem dX11_findBundle_0 : decode cX11_findBundle 0 = .ok (.iconst 0, 1) := by decide +kernel
theorem dX11_findBundle_1 : decode cX11_findBundle 1 = .ok (.istore_n 1, 1) := by decide +kernel
theorem dX11_findBundle_2 : decode cX11_findBundle 2 = .ok (.iload_n 1, 1) := by decide +kernel
theorem dX11_findBundle_3 : decode cX11_findBundle 3 = .ok (.bipush 6, 2) := by decide +kernel
theorem dX11_findBundle_5 : decode cX11_findBundle 5 = .ok (.if_icmp .ge 23, 3) := by decide +kernel
theorem dX11_findBundle_8 : decode cX11_findBundle 8 = .ok (.aload_n 0, 1) := by decide +kernel
theorem dX11_findBundle_9 : decode cX11_findBundle 9 = .ok (.getfield 57, 3) := by decide +kernel
theorem dX11_findBundle_12 : decode cX11_findBundle 12 = .ok (.iload_n 1, 1) := by decide +kernel
theorem dX11_findBundle_13 : decode cX11_findBundle 13 = .ok (.iconst 0, 1) := by decide +kernel
theorem dX11_findBundle_14 : decode cX11_findBundle 14 = .ok (.iastore, 1) := by decide +kernel
theorem dX11_findBundle_15 : decode cX11_findBundle 15 = .ok (.aload_n 0, 1) := by decide +kernel
theorem dX11_findBundle_16 : decode cX11_findBundle 16 = .ok (.getfield 60, 3) := by decide +kernel
theorem dX11_findBundle_19 : decode cX11_findBundle 19 = .ok (.iload_n 1, 1) := by decide +kernel
theorem dX11_findBundle_20 : decode cX11_findBundle 20 = .ok (.iconst 0, 1) := by decide +kernel
theorem dX11_findBundle_21 : decode cX11_findBundle 21 = .ok (.iastore, 1) := by decide +kernel
theorem dX11_findBundle_22 : decode cX11_findBundle 22 = .ok (.iinc 1 1, 3) := by decide +kernel
theorem dX11_findBundle_25 : decode cX11_findBundle 25 = .ok (.goto (-23), 3) := by decide +kernel
theorem dX11_findBundle_28 : decode cX11_findBundle 28 = .ok (.aload_n 0, 1) := by decide +kernel
theorem dX11_findBundle_29 : decode cX11_findBundle 29 = .ok (.iconst 0, 1) := by decide +kernel
theorem dX11_findBundle_30 : decode cX11_findBundle 30 = .ok (.putfield 178, 3) := by decide +kernel
theorem dX11_findBundle_33 : decode cX11_findBundle 33 = .ok (.aload_n 0, 1) := by decide +kernel
theorem dX11_findBundle_34 : decode cX11_findBundle 34 = .ok (.getfield 96, 3) := by decide +kernel
theorem dX11_findBundle_37 : decode cX11_findBundle 37 = .ok (.iconst 1, 1) := by decide +kernel
theorem dX11_findBundle_38 : decode cX11_findBundle 38 = .ok (.isub, 1) := by decide +kernel
theorem dX11_findBundle_39 : decode cX11_findBundle 39 = .ok (.istore_n 1, 1) := by decide +kernel
theorem dX11_findBundle_40 : decode cX11_findBundle 40 = .ok (.iload_n 1, 1) := by decide +kernel
theorem dX11_findBundle_41 : decode cX11_findBundle 41 = .ok (.ifCond .lt 105, 3) := by decide +kernel
theorem dX11_findBundle_44 : decode cX11_findBundle 44 = .ok (.aload_n 0, 1) := by decide +kernel
theorem dX11_findBundle_45 : decode cX11_findBundle 45 = .ok (.invokevirtual 181, 3) := by decide +kernel
theorem dX11_findBundle_48 : decode cX11_findBundle 48 = .ok (.istore_n 2, 1) := by decide +kernel
theorem dX11_findBundle_49 : decode cX11_findBundle 49 = .ok (.iload_n 2, 1) := by decide +kernel
theorem dX11_findBundle_50 : decode cX11_findBundle 50 = .ok (.aload_n 0, 1) := by decide +kernel
theorem dX11_findBundle_51 : decode cX11_findBundle 51 = .ok (.getfield 178, 3) := by decide +kernel
theorem dX11_findBundle_54 : decode cX11_findBundle 54 = .ok (.if_icmp .le 36, 3) := by decide +kernel
theorem dX11_findBundle_57 : decode cX11_findBundle 57 = .ok (.aload_n 0, 1) := by decide +kernel
theorem dX11_findBundle_58 : decode cX11_findBundle 58 = .ok (.iload_n 2, 1) := by decide +kernel
theorem dX11_findBundle_59 : decode cX11_findBundle 59 = .ok (.putfield 178, 3) := by decide +kernel
theorem dX11_findBundle_62 : decode cX11_findBundle 62 = .ok (.iconst 0, 1) := by decide +kernel
theorem dX11_findBundle_63 : decode cX11_findBundle 63 = .ok (.istore_n 3, 1) := by decide +kernel
theorem dX11_findBundle_64 : decode cX11_findBundle 64 = .ok (.iload_n 3, 1) := by decide +kernel
theorem dX11_findBundle_65 : decode cX11_findBundle 65 = .ok (.aload_n 0, 1) := by decide +kernel
theorem dX11_findBundle_66 : decode cX11_findBundle 66 = .ok (.getfield 96, 3) := by decide +kernel
theorem dX11_findBundle_69 : decode cX11_findBundle 69 = .ok (.if_icmp .ge 21, 3) := by decide +kernel
theorem dX11_findBundle_72 : decode cX11_findBundle 72 = .ok (.aload_n 0, 1) := by decide +kernel
theorem dX11_findBundle_73 : decode cX11_findBundle 73 = .ok (.getfield 60, 3) := by decide +kernel
theorem dX11_findBundle_76 : decode cX11_findBundle 76 = .ok (.iload_n 3, 1) := by decide +kernel
theorem dX11_findBundle_77 : decode cX11_findBundle 77 = .ok (.aload_n 0, 1) := by decide +kernel
theorem dX11_findBundle_78 : decode cX11_findBundle 78 = .ok (.getfield 57, 3) := by decide +kernel
theorem dX11_findBundle_81 : decode cX11_findBundle 81 = .ok (.iload_n 3, 1) := by decide +kernel
theorem dX11_findBundle_82 : decode cX11_findBundle 82 = .ok (.iaload, 1) := by decide +kernel
theorem dX11_findBundle_83 : decode cX11_findBundle 83 = .ok (.iastore, 1) := by decide +kernel
theorem dX11_findBundle_84 : decode cX11_findBundle 84 = .ok (.iinc 3 1, 3) := by decide +kernel
theorem dX11_findBundle_87 : decode cX11_findBundle 87 = .ok (.goto (-23), 3) := by decide +kernel
theorem dX11_findBundle_90 : decode cX11_findBundle 90 = .ok (.aload_n 0, 1) := by decide +kernel
theorem dX11_findBundle_91 : decode cX11_findBundle 91 = .ok (.getfield 96, 3) := by decide +kernel
theorem dX11_findBundle_94 : decode cX11_findBundle 94 = .ok (.iconst 1, 1) := by decide +kernel
theorem dX11_findBundle_95 : decode cX11_findBundle 95 = .ok (.isub, 1) := by decide +kernel
theorem dX11_findBundle_96 : decode cX11_findBundle 96 = .ok (.istore_n 1, 1) := by decide +kernel
theorem dX11_findBundle_97 : decode cX11_findBundle 97 = .ok (.iload_n 1, 1) := by decide +kernel
theorem dX11_findBundle_98 : decode cX11_findBundle 98 = .ok (.ifCond .lt 31, 3) := by decide +kernel
theorem dX11_findBundle_101 : decode cX11_findBundle 101 = .ok (.aload_n 0, 1) := by decide +kernel
theorem dX11_findBundle_102 : decode cX11_findBundle 102 = .ok (.getfield 57, 3) := by decide +kernel
theorem dX11_findBundle_105 : decode cX11_findBundle 105 = .ok (.iload_n 1, 1) := by decide +kernel
theorem dX11_findBundle_106 : decode cX11_findBundle 106 = .ok (.iaload, 1) := by decide +kernel
theorem dX11_findBundle_107 : decode cX11_findBundle 107 = .ok (.aload_n 0, 1) := by decide +kernel
theorem dX11_findBundle_108 : decode cX11_findBundle 108 = .ok (.getfield 54, 3) := by decide +kernel
theorem dX11_findBundle_111 : decode cX11_findBundle 111 = .ok (.iload_n 1, 1) := by decide +kernel
theorem dX11_findBundle_112 : decode cX11_findBundle 112 = .ok (.iaload, 1) := by decide +kernel
theorem dX11_findBundle_113 : decode cX11_findBundle 113 = .ok (.if_icmp .ne 16, 3) := by decide +kernel
theorem dX11_findBundle_116 : decode cX11_findBundle 116 = .ok (.aload_n 0, 1) := by decide +kernel
theorem dX11_findBundle_117 : decode cX11_findBundle 117 = .ok (.getfield 57, 3) := by decide +kernel
theorem dX11_findBundle_120 : decode cX11_findBundle 120 = .ok (.iload_n 1, 1) := by decide +kernel
theorem dX11_findBundle_121 : decode cX11_findBundle 121 = .ok (.iconst 0, 1) := by decide +kernel
theorem dX11_findBundle_122 : decode cX11_findBundle 122 = .ok (.iastore, 1) := by decide +kernel
theorem dX11_findBundle_123 : decode cX11_findBundle 123 = .ok (.iinc 1 (-1), 3) := by decide +kernel
theorem dX11_findBundle_126 : decode cX11_findBundle 126 = .ok (.goto (-29), 3) := by decide +kernel
theorem dX11_findBundle_129 : decode cX11_findBundle 129 = .ok (.iload_n 1, 1) := by decide +kernel
theorem dX11_findBundle_130 : decode cX11_findBundle 130 = .ok (.ifCond .lt 13, 3) := by decide +kernel
theorem dX11_findBundle_133 : decode cX11_findBundle 133 = .ok (.aload_n 0, 1) := by decide +kernel
theorem dX11_findBundle_134 : decode cX11_findBundle 134 = .ok (.getfield 57, 3) := by decide +kernel
theorem dX11_findBundle_137 : decode cX11_findBundle 137 = .ok (.iload_n 1, 1) := by decide +kernel
theorem dX11_findBundle_138 : decode cX11_findBundle 138 = .ok (.dup2, 1) := by decide +kernel
theorem dX11_findBundle_139 : decode cX11_findBundle 139 = .ok (.iaload, 1) := by decide +kernel
theorem dX11_findBundle_140 : decode cX11_findBundle 140 = .ok (.iconst 1, 1) := by decide +kernel
theorem dX11_findBundle_141 : decode cX11_findBundle 141 = .ok (.iadd, 1) := by decide +kernel
theorem dX11_findBundle_142 : decode cX11_findBundle 142 = .ok (.iastore, 1) := by decide +kernel
theorem dX11_findBundle_143 : decode cX11_findBundle 143 = .ok (.goto (-103), 3) := by decide +kernel
theorem dX11_findBundle_146 : decode cX11_findBundle 146 = .ok (.return_, 1) := by decide +kernel
set_option maxRecDepth 20000 in
theorem ggX11_sure_X11_findBundle : GoodIn wsX11_sure wsX11_findBundle := goodIn_r _ [6, 7, 8, 1, 9, 10, 11, 12, 13, 5, 14, 15, 16, 17, 18, 19, 20, 21, 22, 23, 24, 25, 26, 27, 28, 29, 30, 31, 32, 33, 34, 35, 36, 37, 38, 39, 40, 41, 42, 43, 44, 45, 46, 47] (by decide +kernel) (by decide +kernel)
set_option maxRecDepth 20000 in
theorem gX11_sure_X11_findBundle : GoodIn wsX11_sure (wsV RX11 185 RX11 yX11_findBundle wsX11_findBundle) := goodIn_app (goodIn_of _ (by decide +kernel)) ggX11_sure_X11_findBundle
theorem dX11_sure_0 : decode cX11_sure 0 = .ok (.aload_n 0, 1) := by decide +kernel
theorem dX11_sure_1 : decode cX11_sure 1 = .ok (.invokevirtual 185, 3) := by decide +kernel
theorem dX11_sure_4 : decode cX11_sure 4 = .ok (.aload_n 0, 1) := by decide +kernel
theorem dX11_sure_5 : decode cX11_sure 5 = .ok (.getfield 178, 3) := by decide +kernel
theorem dX11_sure_8 : decode cX11_sure 8 = .ok (.ireturn, 1) := by decide +kernel
set_option maxRecDepth 20000 in
theorem ggX11_bundle_X11_isOffer : GoodIn wsX11_bundle wsX11_isOffer := goodIn_r _ [6, 7, 25, 26, 27, 28, 29, 30, 31, 32, 33, 34, 35, 36, 37, 38, 39, 40, 41, 42, 43, 44, 45, 46, 47, 48, 49, 50, 51] (by decide +kernel) (by decide +kernel)
set_option maxRecDepth 20000 in
theorem gX11_bundle_X11_isOffer : GoodIn wsX11_bundle (wsV RX11 175 RX11 yX11_isOffer wsX11_isOffer) := goodIn_app (goodIn_of _ (by decide +kernel)) ggX11_bundle_X11_isOffer
set_option maxRecDepth 20000 in
theorem ggX11_bundle_X11_findBundle : GoodIn wsX11_bundle wsX11_findBundle := goodIn_r _ [11, 12, 1, 13, 7, 14, 15, 16, 17, 5, 18, 19, 20, 21, 22, 23, 24, 25, 26, 27, 28, 29, 30, 31, 32, 33, 34, 35, 36, 37, 38, 39, 40, 41, 42, 43, 44, 45, 46, 47, 48, 49, 50, 51] (by decide +kernel) (by decide +kernel)
set_option maxRecDepth 20000 in
theorem gX11_bundle_X11_findBundle : GoodIn wsX11_bundle (wsV RX11 185 RX11 yX11_findBundle wsX11_findBundle) := goodIn_app (goodIn_of _ (by decide +kernel)) ggX11_bundle_X11_findBundle
theorem dX11_bundle_0 : decode cX11_bundle 0 = .ok (.aload_n 0, 1) := by decide +kernel
theorem dX11_bundle_1 : decode cX11_bundle 1 = .ok (.iload_n 1, 1) := by decide +kernel
theorem dX11_bundle_2 : decode cX11_bundle 2 = .ok (.invokevirtual 175, 3) := by decide +kernel
theorem dX11_bundle_5 : decode cX11_bundle 5 = .ok (.ifCond .ne 5, 3) := by decide +kernel
theorem dX11_bundle_8 : decode cX11_bundle 8 = .ok (.iconst (-1), 1) := by decide +kernel
theorem dX11_bundle_9 : decode cX11_bundle 9 = .ok (.ireturn, 1) := by decide +kernel
