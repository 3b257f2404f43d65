set_option maxRecDepth 20000 in
theorem ggX10_init_X3_init : GoodIn wsX10_init wsX3_init := goodIn_r _ [30, 31, 2, 3, 32, 33, 71, 72, 73, 74, 75, 76] (by decide +kernel) (by decide +kernel)
set_option maxRecDepth 20000 in
theorem gX10_init_X3_init : GoodIn wsX10_init (wsX3_init) := ggX10_init_X3_init
set_option maxRecDepth 20000 in
theorem ggX10_init_X0_init : GoodIn wsX10_init wsX0_init := goodIn_r _ [36, 37, 2, 3, 38, 39, 24, 40, 41, 42, 86, 87, 88, 89, 90, 91, 92, 93] (by decide +kernel) (by decide +kernel)
set_option maxRecDepth 20000 in
theorem gX10_init_X0_init : GoodIn wsX10_init (wsX0_init) := ggX10_init_X0_init
set_option maxRecDepth 20000 in
theorem ggX10_init_X2_init : GoodIn wsX10_init wsX2_init := goodIn_r _ [45, 46, 2, 3, 47, 48, 94, 95] (by decide +kernel) (by decide +kernel)
set_option maxRecDepth 20000 in
theorem gX10_init_X2_init : GoodIn wsX10_init (wsX2_init) := ggX10_init_X2_init
set_option maxRecDepth 20000 in
theorem ggX10_init_X8_init : GoodIn wsX10_init wsX8_init := goodIn_r _ [51, 52, 2, 3] (by decide +kernel) (by decide +kernel)
set_option maxRecDepth 20000 in
theorem gX10_init_X8_init : GoodIn wsX10_init (wsX8_init) := ggX10_init_X8_init
set_option maxRecDepth 20000 in
theorem ggX10_init_X6_init : GoodIn wsX10_init wsX6_init := goodIn_r _ [55, 56, 2, 3, 24, 57, 97, 98, 99, 100] (by decide +kernel) (by decide +kernel)
set_option maxRecDepth 20000 in
theorem gX10_init_X6_init : GoodIn wsX10_init (wsX6_init) := ggX10_init_X6_init
set_option maxRecDepth 20000 in
theorem ggX10_init_X3_restart : GoodIn wsX10_init wsX3_restart := goodIn_r _ [61, 33, 62, 63, 64, 65, 66, 67, 68, 69, 70, 71, 72, 73, 74, 75, 76] (by decide +kernel) (by decide +kernel)
set_option maxRecDepth 20000 in
theorem gX10_init_X3_restart : GoodIn wsX10_init (wsV RX10 56 RX3 yX3_restart wsX3_restart) := goodIn_app (goodIn_of _ (by decide +kernel)) ggX10_init_X3_restart
theorem dX10_init_0 : decode cX10_init 0 = .ok (.aload_n 0, 1) := by decide +kernel
theorem dX10_init_1 : decode cX10_init 1 = .ok (.invokespecial 3, 3) := by decide +kernel
theorem dX10_init_4 : decode cX10_init 4 = .ok (.aload_n 0, 1) := by decide +kernel
theorem dX10_init_5 : decode cX10_init 5 = .ok (.new 9, 3) := by decide +kernel
theorem dX10_init_8 : decode cX10_init 8 = .ok (.dup, 1) := by decide +kernel
theorem dX10_init_9 : decode cX10_init 9 = .ok (.invokespecial 11, 3) := by decide +kernel
theorem dX10_init_12 : decode cX10_init 12 = .ok (.putfield 12, 3) := by decide +kernel
theorem dX10_init_15 : decode cX10_init 15 = .ok (.aload_n 0, 1) := by decide +kernel
theorem dX10_init_16 : decode cX10_init 16 = .ok (.bipush 6, 2) := by decide +kernel
theorem dX10_init_18 : decode cX10_init 18 = .ok (.anewarray 18, 3) := by decide +kernel
theorem dX10_init_21 : decode cX10_init 21 = .ok (.putfield 20, 3) := by decide +kernel
theorem dX10_init_24 : decode cX10_init 24 = .ok (.aload_n 0, 1) := by decide +kernel
theorem dX10_init_25 : decode cX10_init 25 = .ok (.new 24, 3) := by decide +kernel
theorem dX10_init_28 : decode cX10_init 28 = .ok (.dup, 1) := by decide +kernel
theorem dX10_init_29 : decode cX10_init 29 = .ok (.invokespecial 26, 3) := by decide +kernel
theorem dX10_init_32 : decode cX10_init 32 = .ok (.putfield 27, 3) := by decide +kernel
theorem dX10_init_35 : decode cX10_init 35 = .ok (.aload_n 0, 1) := by decide +kernel
theorem dX10_init_36 : decode cX10_init 36 = .ok (.new 31, 3) := by decide +kernel
theorem dX10_init_39 : decode cX10_init 39 = .ok (.dup, 1) := by decide +kernel
theorem dX10_init_40 : decode cX10_init 40 = .ok (.invokespecial 33, 3) := by decide +kernel
theorem dX10_init_43 : decode cX10_init 43 = .ok (.putfield 34, 3) := by decide +kernel
theorem dX10_init_46 : decode cX10_init 46 = .ok (.aload_n 0, 1) := by decide +kernel
theorem dX10_init_47 : decode cX10_init 47 = .ok (.iconst 4, 1) := by decide +kernel
theorem dX10_init_48 : decode cX10_init 48 = .ok (.anewarray 38, 3) := by decide +kernel
theorem dX10_init_51 : decode cX10_init 51 = .ok (.putfield 40, 3) := by decide +kernel
theorem dX10_init_54 : decode cX10_init 54 = .ok (.aload_n 0, 1) := by decide +kernel
theorem dX10_init_55 : decode cX10_init 55 = .ok (.new 44, 3) := by decide +kernel
theorem dX10_init_58 : decode cX10_init 58 = .ok (.dup, 1) := by decide +kernel
theorem dX10_init_59 : decode cX10_init 59 = .ok (.invokespecial 46, 3) := by decide +kernel
theorem dX10_init_62 : decode cX10_init 62 = .ok (.putfield 47, 3) := by decide +kernel
theorem dX10_init_65 : decode cX10_init 65 = .ok (.aload_n 0, 1) := by decide +kernel
theorem dX10_init_66 : decode cX10_init 66 = .ok (.bipush 8, 2) := by decide +kernel
theorem dX10_init_68 : decode cX10_init 68 = .ok (.newarray .int, 2) := by decide +kernel
theorem dX10_init_70 : decode cX10_init 70 = .ok (.putfield 51, 3) := by decide +kernel
theorem dX10_init_73 : decode cX10_init 73 = .ok (.iconst 0, 1) := by decide +kernel
theorem dX10_init_74 : decode cX10_init 74 = .ok (.istore_n 1, 1) := by decide +kernel
theorem dX10_init_75 : decode cX10_init 75 = .ok (.iload_n 1, 1) := by decide +kernel
theorem dX10_init_76 : decode cX10_init 76 = .ok (.iconst 4, 1) := by decide +kernel
theorem dX10_init_77 : decode cX10_init 77 = .ok (.if_icmp .ge 22, 3) := by decide +kernel
theorem dX10_init_80 : decode cX10_init 80 = .ok (.aload_n 0, 1) := by decide +kernel
theorem dX10_init_81 : decode cX10_init 81 = .ok (.getfield 40, 3) := by decide +kernel
theorem dX10_init_84 : decode cX10_init 84 = .ok (.iload_n 1, 1) := by decide +kernel
theorem dX10_init_85 : decode cX10_init 85 = .ok (.new 38, 3) := by decide +kernel
theorem dX10_init_88 : decode cX10_init 88 = .ok (.dup, 1) := by decide +kernel
theorem dX10_init_89 : decode cX10_init 89 = .ok (.invokespecial 55, 3) := by decide +kernel
theorem dX10_init_92 : decode cX10_init 92 = .ok (.aastore, 1) := by decide +kernel
theorem dX10_init_93 : decode cX10_init 93 = .ok (.iinc 1 1, 3) := by decide +kernel
theorem dX10_init_96 : decode cX10_init 96 = .ok (.goto (-21), 3) := by decide +kernel
theorem dX10_init_99 : decode cX10_init 99 = .ok (.aload_n 0, 1) := by decide +kernel
theorem dX10_init_100 : decode cX10_init 100 = .ok (.getfield 12, 3) := by decide +kernel
theorem dX10_init_103 : decode cX10_init 103 = .ok (.iconst 2, 1) := by decide +kernel
theorem dX10_init_104 : decode cX10_init 104 = .ok (.bipush 100, 2) := by decide +kernel
theorem dX10_init_106 : decode cX10_init 106 = .ok (.invokevirtual 56, 3) := by decide +kernel
theorem dX10_init_109 : decode cX10_init 109 = .ok (.return_, 1) := by decide +kernel
set_option maxRecDepth 20000 in
theorem ggX10_begin_X3_restart : GoodIn wsX10_begin wsX3_restart := goodIn_r _ [9, 10, 11, 12, 13, 14, 15, 16, 17, 18, 19, 42, 43, 44, 45, 46, 47] (by decide +kernel) (by decide +kernel)
set_option maxRecDepth 20000 in
theorem gX10_begin_X3_restart : GoodIn wsX10_begin (wsV RX10 56 RX3 yX3_restart wsX3_restart) := goodIn_app (goodIn_of _ (by decide +kernel)) ggX10_begin_X3_restart
set_option maxRecDepth 20000 in
theorem ggX10_begin_X0_empty : GoodIn wsX10_begin wsX0_empty := goodIn_r _ [24, 25, 26, 48, 49, 50, 51, 52, 53, 54, 55] (by decide +kernel) (by decide +kernel)
set_option maxRecDepth 20000 in
theorem gX10_begin_X0_empty : GoodIn wsX10_begin (wsV RX10 64 RX0 yX0_empty wsX0_empty) := goodIn_app (goodIn_of _ (by decide +kernel)) ggX10_begin_X0_empty
set_option maxRecDepth 20000 in
theorem ggX10_begin_X2_empty : GoodIn wsX10_begin wsX2_empty := goodIn_r _ [31, 32, 56, 57] (by decide +kernel) (by decide +kernel)
set_option maxRecDepth 20000 in
theorem gX10_begin_X2_empty : GoodIn wsX10_begin (wsV RX10 67 RX2 yX2_empty wsX2_empty) := goodIn_app (goodIn_of _ (by decide +kernel)) ggX10_begin_X2_empty
theorem dX10_begin_0 : decode cX10_begin 0 = .ok (.iload_n 1, 1) := by decide +kernel
theorem dX10_begin_1 : decode cX10_begin 1 = .ok (.iconst 2, 1) := by decide +kernel
theorem dX10_begin_2 : decode cX10_begin 2 = .ok (.if_icmp .lt 21, 3) := by decide +kernel
theorem dX10_begin_5 : decode cX10_begin 5 = .ok (.iload_n 1, 1) := by decide +kernel
theorem dX10_begin_6 : decode cX10_begin 6 = .ok (.bipush 8, 2) := by decide +kernel
theorem dX10_begin_8 : decode cX10_begin 8 = .ok (.if_icmp .gt 15, 3) := by decide +kernel
theorem dX10_begin_11 : decode cX10_begin 11 = .ok (.iload_n 2, 1) := by decide +kernel
theorem dX10_begin_12 : decode cX10_begin 12 = .ok (.iconst 1, 1) := by decide +kernel
theorem dX10_begin_13 : decode cX10_begin 13 = .ok (.if_icmp .lt 10, 3) := by decide +kernel
theorem dX10_begin_16 : decode cX10_begin 16 = .ok (.iload_n 2, 1) := by decide +kernel
theorem dX10_begin_17 : decode cX10_begin 17 = .ok (.sipush 1000, 3) := by decide +kernel
theorem dX10_begin_20 : decode cX10_begin 20 = .ok (.if_icmp .le 6, 3) := by decide +kernel
theorem dX10_begin_23 : decode cX10_begin 23 = .ok (.bipush (-2), 2) := by decide +kernel
theorem dX10_begin_25 : decode cX10_begin 25 = .ok (.ireturn, 1) := by decide +kernel
theorem dX10_begin_26 : decode cX10_begin 26 = .ok (.aload_n 0, 1) := by decide +kernel
theorem dX10_begin_27 : decode cX10_begin 27 = .ok (.getfield 12, 3) := by decide +kernel
theorem dX10_begin_30 : decode cX10_begin 30 = .ok (.iload_n 1, 1) := by decide +kernel
theorem dX10_begin_31 : decode cX10_begin 31 = .ok (.iload_n 2, 1) := by decide +kernel
theorem dX10_begin_32 : decode cX10_begin 32 = .ok (.invokevirtual 56, 3) := by decide +kernel
theorem dX10_begin_35 : decode cX10_begin 35 = .ok (.aload_n 0, 1) := by decide +kernel
theorem dX10_begin_36 : decode cX10_begin 36 = .ok (.iconst 0, 1) := by decide +kernel
theorem dX10_begin_37 : decode cX10_begin 37 = .ok (.putfield 60, 3) := by decide +kernel
theorem dX10_begin_40 : decode cX10_begin 40 = .ok (.aload_n 0, 1) := by decide +kernel
theorem dX10_begin_41 : decode cX10_begin 41 = .ok (.getfield 27, 3) := by decide +kernel
theorem dX10_begin_44 : decode cX10_begin 44 = .ok (.invokevirtual 64, 3) := by decide +kernel
theorem dX10_begin_47 : decode cX10_begin 47 = .ok (.aload_n 0, 1) := by decide +kernel
theorem dX10_begin_48 : decode cX10_begin 48 = .ok (.getfield 34, 3) := by decide +kernel
theorem dX10_begin_51 : decode cX10_begin 51 = .ok (.invokevirtual 67, 3) := by decide +kernel
theorem dX10_begin_54 : decode cX10_begin 54 = .ok (.iconst 1, 1) := by decide +kernel
theorem dX10_begin_55 : decode cX10_begin 55 = .ok (.ireturn, 1) := by decide +kernel
set_option maxRecDepth 20000 in
theorem ggX10_trader_X10_isKind : GoodIn wsX10_trader wsX10_isKind := goodIn_r _ [7] (by decide +kernel) (by decide +kernel)
set_option maxRecDepth 20000 in
theorem gX10_trader_X10_isKind : GoodIn wsX10_trader (va_wsS RX10 68 yX10_isKind wsX10_isKind) := goodIn_app (goodIn_of _ (by decide +kernel)) ggX10_trader_X10_isKind
set_option maxRecDepth 20000 in
theorem ggX10_trader_X10_newTrader : GoodIn wsX10_trader wsX10_newTrader := goodIn_r _ [11, 12, 13, 14, 15, 16, 17, 18, 19, 20, 21, 22, 23, 24, 25, 26, 27, 28, 29, 30, 31, 32, 33, 34, 35, 36, 37, 38, 39, 40, 41, 42, 43, 44, 45, 46, 47, 48, 49, 50, 51, 61, 62, 63, 64, 65, 52, 53, 54, 55, 56, 57, 58, 59, 60, 66, 67, 68, 69, 70, 71, 72, 73, 74, 75, 76, 77, 78, 79, 80, 81] (by decide +kernel) (by decide +kernel)
set_option maxRecDepth 20000 in
theorem gX10_trader_X10_newTrader : GoodIn wsX10_trader (wsV RX10 74 RX10 yX10_newTrader wsX10_newTrader) := goodIn_app (goodIn_of _ (by decide +kernel)) ggX10_trader_X10_newTrader
theorem dX10_trader_0 : decode cX10_trader 0 = .ok (.iload_n 1, 1) := by decide +kernel
theorem dX10_trader_1 : decode cX10_trader 1 = .ok (.invokestatic 68, 3) := by decide +kernel
theorem dX10_trader_4 : decode cX10_trader 4 = .ok (.ifCond .eq 17, 3) := by decide +kernel
theorem dX10_trader_7 : decode cX10_trader 7 = .ok (.lload_n 2, 1) := by decide +kernel
theorem dX10_trader_8 : decode cX10_trader 8 = .ok (.lconst 0, 1) := by decide +kernel
theorem dX10_trader_9 : decode cX10_trader 9 = .ok (.lcmp, 1) := by decide +kernel
theorem dX10_trader_10 : decode cX10_trader 10 = .ok (.ifCond .lt 11, 3) := by decide +kernel
theorem dX10_trader_13 : decode cX10_trader 13 = .ok (.lload_n 2, 1) := by decide +kernel
theorem dX10_trader_14 : decode cX10_trader 14 = .ok (.ldc2_w 72, 3) := by decide +kernel
theorem dX10_trader_17 : decode cX10_trader 17 = .ok (.lcmp, 1) := by decide +kernel
theorem dX10_trader_18 : decode cX10_trader 18 = .ok (.ifCond .le 6, 3) := by decide +kernel
theorem dX10_trader_21 : decode cX10_trader 21 = .ok (.bipush (-2), 2) := by decide +kernel
theorem dX10_trader_23 : decode cX10_trader 23 = .ok (.ireturn, 1) := by decide +kernel
theorem dX10_trader_24 : decode cX10_trader 24 = .ok (.aload_n 0, 1) := by decide +kernel
theorem dX10_trader_25 : decode cX10_trader 25 = .ok (.getfield 60, 3) := by decide +kernel
theorem dX10_trader_28 : decode cX10_trader 28 = .ok (.bipush 6, 2) := by decide +kernel
theorem dX10_trader_30 : decode cX10_trader 30 = .ok (.if_icmp .lt 6, 3) := by decide +kernel
theorem dX10_trader_33 : decode cX10_trader 33 = .ok (.bipush (-4), 2) := by decide +kernel
theorem dX10_trader_35 : decode cX10_trader 35 = .ok (.ireturn, 1) := by decide +kernel
theorem dX10_trader_36 : decode cX10_trader 36 = .ok (.aload_n 0, 1) := by decide +kernel
theorem dX10_trader_37 : decode cX10_trader 37 = .ok (.getfield 20, 3) := by decide +kernel
theorem dX10_trader_40 : decode cX10_trader 40 = .ok (.aload_n 0, 1) := by decide +kernel
theorem dX10_trader_41 : decode cX10_trader 41 = .ok (.getfield 60, 3) := by decide +kernel
theorem dX10_trader_44 : decode cX10_trader 44 = .ok (.aload_n 0, 1) := by decide +kernel
theorem dX10_trader_45 : decode cX10_trader 45 = .ok (.iload_n 1, 1) := by decide +kernel
theorem dX10_trader_46 : decode cX10_trader 46 = .ok (.aload_n 0, 1) := by decide +kernel
theorem dX10_trader_47 : decode cX10_trader 47 = .ok (.getfield 60, 3) := by decide +kernel
theorem dX10_trader_50 : decode cX10_trader 50 = .ok (.lload_n 2, 1) := by decide +kernel
theorem dX10_trader_51 : decode cX10_trader 51 = .ok (.invokevirtual 74, 3) := by decide +kernel
theorem dX10_trader_54 : decode cX10_trader 54 = .ok (.aastore, 1) := by decide +kernel
theorem dX10_trader_55 : decode cX10_trader 55 = .ok (.aload_n 0, 1) := by decide +kernel
theorem dX10_trader_56 : decode cX10_trader 56 = .ok (.dup, 1) := by decide +kernel
theorem dX10_trader_57 : decode cX10_trader 57 = .ok (.getfield 60, 3) := by decide +kernel
theorem dX10_trader_60 : decode cX10_trader 60 = .ok (.iconst 1, 1) := by decide +kernel
theorem dX10_trader_61 : decode cX10_trader 61 = .ok (.iadd, 1) := by decide +kernel
theorem dX10_trader_62 : decode cX10_trader 62 = .ok (.putfield 60, 3) := by decide +kernel
theorem dX10_trader_65 : decode cX10_trader 65 = .ok (.aload_n 0, 1) := by decide +kernel
theorem dX10_trader_66 : decode cX10_trader 66 = .ok (.getfield 60, 3) := by decide +kernel
theorem dX10_trader_69 : decode cX10_trader 69 = .ok (.iconst 1, 1) := by decide +kernel
theorem dX10_trader_70 : decode cX10_trader 70 = .ok (.isub, 1) := by decide +kernel
theorem dX10_trader_71 : decode cX10_trader 71 = .ok (.ireturn, 1) := by decide +kernel
set_option maxRecDepth 20000 in
theorem ggX10_price_X3_isSet : GoodIn wsX10_price wsX3_isSet := goodIn_r _ [7, 8, 42, 43, 44, 45, 46, 47] (by decide +kernel) (by decide +kernel)
set_option maxRecDepth 20000 in
theorem gX10_price_X3_isSet : GoodIn wsX10_price (wsV RX10 78 RX3 yX3_isSet wsX3_isSet) := goodIn_app (goodIn_of _ (by decide +kernel)) ggX10_price_X3_isSet
set_option maxRecDepth 20000 in
theorem ggX10_price_X3_setPrice : GoodIn wsX10_price wsX3_setPrice := goodIn_r _ [12, 8, 13, 14, 15, 16, 17, 18, 6, 19, 20, 21, 22, 23, 24, 25, 26, 27, 28, 29, 30, 31, 32, 42, 43, 44, 45, 46, 47] (by decide +kernel) (by decide +kernel)
set_option maxRecDepth 20000 in
theorem gX10_price_X3_setPrice : GoodIn wsX10_price (wsV RX10 81 RX3 yX3_setPrice wsX3_setPrice) := goodIn_app (goodIn_of _ (by decide +kernel)) ggX10_price_X3_setPrice
theorem dX10_price_0 : decode cX10_price 0 = .ok (.aload_n 0, 1) := by decide +kernel
theorem dX10_price_1 : decode cX10_price 1 = .ok (.getfield 12, 3) := by decide +kernel
theorem dX10_price_4 : decode cX10_price 4 = .ok (.iload_n 1, 1) := by decide +kernel
theorem dX10_price_5 : decode cX10_price 5 = .ok (.invokevirtual 78, 3) := by decide +kernel
theorem dX10_price_8 : decode cX10_price 8 = .ok (.ifCond .eq 14, 3) := by decide +kernel
theorem dX10_price_11 : decode cX10_price 11 = .ok (.aload_n 0, 1) := by decide +kernel
theorem dX10_price_12 : decode cX10_price 12 = .ok (.getfield 12, 3) := by decide +kernel
theorem dX10_price_15 : decode cX10_price 15 = .ok (.iload_n 1, 1) := by decide +kernel
theorem dX10_price_16 : decode cX10_price 16 = .ok (.invokevirtual 81, 3) := by decide +kernel
theorem dX10_price_19 : decode cX10_price 19 = .ok (.goto 6, 3) := by decide +kernel
theorem dX10_price_22 : decode cX10_price 22 = .ok (.ldc2_w 85, 3) := by decide +kernel
theorem dX10_price_25 : decode cX10_price 25 = .ok (.lreturn, 1) := by decide +kernel
set_option maxRecDepth 20000 in
theorem ggX10_quote_X10_findTrader : GoodIn wsX10_quote wsX10_findTrader := goodIn_r _ [7, 8, 9, 54, 55, 56, 57, 58, 59, 60, 61, 62] (by decide +kernel) (by decide +kernel)
set_option maxRecDepth 20000 in
theorem gX10_quote_X10_findTrader : GoodIn wsX10_quote (wsV RX10 87 RX10 yX10_findTrader wsX10_findTrader) := goodIn_app (goodIn_of _ (by decide +kernel)) ggX10_quote_X10_findTrader
set_option maxRecDepth 20000 in
theorem ggX10_quote_X10_isOrder : GoodIn wsX10_quote wsX10_isOrder := goodIn_r _ [13, 2, 14, 15, 16, 17, 18, 19, 54, 55, 56, 57, 58, 59, 60, 61, 62, 63, 64, 65, 66, 67, 68] (by decide +kernel) (by decide +kernel)
set_option maxRecDepth 20000 in
theorem gX10_quote_X10_isOrder : GoodIn wsX10_quote (wsV RX10 91 RX10 yX10_isOrder wsX10_isOrder) := goodIn_app (goodIn_of _ (by decide +kernel)) ggX10_quote_X10_isOrder
set_option maxRecDepth 20000 in
theorem ggX10_quote_X3_cost : GoodIn wsX10_quote wsX3_cost := goodIn_r _ [23, 19, 24, 25, 26, 27, 28, 29, 30, 31, 32, 33, 17, 34, 35, 6, 36, 37, 38, 39, 40, 41, 42, 43, 44, 45, 46, 47, 48, 49, 50, 51, 52, 53, 63, 64, 65, 66, 67, 68] (by decide +kernel) (by decide +kernel)
set_option maxRecDepth 20000 in
theorem gX10_quote_X3_cost : GoodIn wsX10_quote (wsV RX10 95 RX3 yX3_cost wsX3_cost) := goodIn_app (goodIn_of _ (by decide +kernel)) ggX10_quote_X3_cost
theorem dX10_quote_0 : decode cX10_quote 0 = .ok (.aload_n 0, 1) := by decide +kernel
theorem dX10_quote_1 : decode cX10_quote 1 = .ok (.iload_n 1, 1) := by decide +kernel
theorem dX10_quote_2 : decode cX10_quote 2 = .ok (.invokevirtual 87, 3) := by decide +kernel
theorem dX10_quote_5 : decode cX10_quote 5 = .ok (.ifnull 12, 3) := by decide +kernel
theorem dX10_quote_8 : decode cX10_quote 8 = .ok (.aload_n 0, 1) := by decide +kernel
theorem dX10_quote_9 : decode cX10_quote 9 = .ok (.iload_n 2, 1) := by decide +kernel
theorem dX10_quote_10 : decode cX10_quote 10 = .ok (.iload_n 3, 1) := by decide +kernel
theorem dX10_quote_11 : decode cX10_quote 11 = .ok (.invokevirtual 91, 3) := by decide +kernel
theorem dX10_quote_14 : decode cX10_quote 14 = .ok (.ifCond .ne 7, 3) := by decide +kernel
theorem dX10_quote_17 : decode cX10_quote 17 = .ok (.ldc2_w 85, 3) := by decide +kernel
theorem dX10_quote_20 : decode cX10_quote 20 = .ok (.lreturn, 1) := by decide +kernel
theorem dX10_quote_21 : decode cX10_quote 21 = .ok (.aload_n 0, 1) := by decide +kernel
theorem dX10_quote_22 : decode cX10_quote 22 = .ok (.getfield 12, 3) := by decide +kernel
theorem dX10_quote_25 : decode cX10_quote 25 = .ok (.iload_n 2, 1) := by decide +kernel
theorem dX10_quote_26 : decode cX10_quote 26 = .ok (.iload_n 3, 1) := by decide +kernel
theorem dX10_quote_27 : decode cX10_quote 27 = .ok (.invokevirtual 95, 3) := by decide +kernel
theorem dX10_quote_30 : decode cX10_quote 30 = .ok (.lreturn, 1) := by decide +kernel
set_option maxRecDepth 20000 in
theorem ggX10_barred_X10_findTrader : GoodIn wsX10_barred wsX10_findTrader := goodIn_r _ [6, 7, 8, 95, 96, 97, 98, 99, 100, 101, 102, 103] (by decide +kernel) (by decide +kernel)
set_option maxRecDepth 20000 in
theorem gX10_barred_X10_findTrader : GoodIn wsX10_barred (wsV RX10 87 RX10 yX10_findTrader wsX10_findTrader) := goodIn_app (goodIn_of _ (by decide +kernel)) ggX10_barred_X10_findTrader
set_option maxRecDepth 20000 in
theorem ggX10_barred_X10_isOrder : GoodIn wsX10_barred wsX10_isOrder := goodIn_r _ [12, 1, 13, 14, 15, 16, 17, 18, 95, 96, 97, 98, 99, 100, 101, 102, 103, 104, 105, 106, 107, 108, 109] (by decide +kernel) (by decide +kernel)
set_option maxRecDepth 20000 in
theorem gX10_barred_X10_isOrder : GoodIn wsX10_barred (wsV RX10 91 RX10 yX10_isOrder wsX10_isOrder) := goodIn_app (goodIn_of _ (by decide +kernel)) ggX10_barred_X10_isOrder
set_option maxRecDepth 20000 in
theorem ggX10_barred_X3_hasCome : GoodIn wsX10_barred wsX3_hasCome := goodIn_r _ [22, 23, 104, 105, 106, 107, 108, 109] (by decide +kernel) (by decide +kernel)
set_option maxRecDepth 20000 in
theorem gX10_barred_X3_hasCome : GoodIn wsX10_barred (wsV RX10 99 RX3 yX3_hasCome wsX3_hasCome) := goodIn_app (goodIn_of _ (by decide +kernel)) ggX10_barred_X3_hasCome
set_option maxRecDepth 20000 in
theorem ggX10_barred_X10_whyBarred : GoodIn wsX10_barred wsX10_whyBarred := goodIn_r _ [27, 1, 28, 29, 30, 16, 31, 18, 32, 33, 34, 35, 36, 37, 38, 39, 40, 5, 41, 42, 43, 44, 45, 46, 47, 48, 49, 50, 51, 52, 53, 54, 55, 56, 57, 58, 59, 60, 61, 62, 63, 64, 65, 66, 67, 68, 69, 70, 71, 72, 73, 74, 75, 76, 77, 78, 79, 80, 81, 82, 83, 84, 85, 86, 87, 88, 89, 90, 91, 92, 93, 94, 95, 96, 97, 98, 99, 100, 101, 102, 103, 104, 105, 106, 107, 108, 109, 110, 111, 112, 113, 114, 115, 116, 117, 118, 119, 120, 121, 122, 123, 124] (by decide +kernel) (by decide +kernel)
set_option maxRecDepth 20000 in
theorem gX10_barred_X10_whyBarred : GoodIn wsX10_barred (wsV RX10 103 RX10 yX10_whyBarred wsX10_whyBarred) := goodIn_app (goodIn_of _ (by decide +kernel)) ggX10_barred_X10_whyBarred
theorem dX10_barred_0 : decode cX10_barred 0 = .ok (.aload_n 0, 1) := by decide +kernel
theorem dX10_barred_1 : decode cX10_barred 1 = .ok (.iload_n 1, 1) := by decide +kernel
theorem dX10_barred_2 : decode cX10_barred 2 = .ok (.invokevirtual 87, 3) := by decide +kernel
theorem dX10_barred_5 : decode cX10_barred 5 = .ok (.astore 4, 2) := by decide +kernel
theorem dX10_barred_7 : decode cX10_barred 7 = .ok (.aload 4, 2) := by decide +kernel
theorem dX10_barred_9 : decode cX10_barred 9 = .ok (.ifnonnull 5, 3) := by decide +kernel
theorem dX10_barred_12 : decode cX10_barred 12 = .ok (.iconst (-1), 1) := by decide +kernel
theorem dX10_barred_13 : decode cX10_barred 13 = .ok (.ireturn, 1) := by decide +kernel
theorem dX10_barred_14 : decode cX10_barred 14 = .ok (.aload_n 0, 1) := by decide +kernel
theorem dX10_barred_15 : decode cX10_barred 15 = .ok (.iload_n 2, 1) := by decide +kernel
theorem dX10_barred_16 : decode cX10_barred 16 = .ok (.iload_n 3, 1) := by decide +kernel
theorem dX10_barred_17 : decode cX10_barred 17 = .ok (.invokevirtual 91, 3) := by decide +kernel
theorem dX10_barred_20 : decode cX10_barred 20 = .ok (.ifCond .ne 6, 3) := by decide +kernel
theorem dX10_barred_23 : decode cX10_barred 23 = .ok (.bipush (-2), 2) := by decide +kernel
theorem dX10_barred_25 : decode cX10_barred 25 = .ok (.ireturn, 1) := by decide +kernel
theorem dX10_barred_26 : decode cX10_barred 26 = .ok (.aload_n 0, 1) := by decide +kernel
theorem dX10_barred_27 : decode cX10_barred 27 = .ok (.getfield 12, 3) := by decide +kernel
theorem dX10_barred_30 : decode cX10_barred 30 = .ok (.invokevirtual 99, 3) := by decide +kernel
theorem dX10_barred_33 : decode cX10_barred 33 = .ok (.ifCond .eq 8, 3) := by decide +kernel
theorem dX10_barred_36 : decode cX10_barred 36 = .ok (.bipush (-3), 2) := by decide +kernel
theorem dX10_barred_38 : decode cX10_barred 38 = .ok (.goto 11, 3) := by decide +kernel
theorem dX10_barred_41 : decode cX10_barred 41 = .ok (.aload_n 0, 1) := by decide +kernel
theorem dX10_barred_42 : decode cX10_barred 42 = .ok (.aload 4, 2) := by decide +kernel
theorem dX10_barred_44 : decode cX10_barred 44 = .ok (.iload_n 2, 1) := by decide +kernel
theorem dX10_barred_45 : decode cX10_barred 45 = .ok (.iload_n 3, 1) := by decide +kernel
theorem dX10_barred_46 : decode cX10_barred 46 = .ok (.invokevirtual 103, 3) := by decide +kernel
theorem dX10_barred_49 : decode cX10_barred 49 = .ok (.ireturn, 1) := by decide +kernel
set_option maxRecDepth 20000 in
theorem ggX10_deal_X10_findTrader : GoodIn wsX10_deal wsX10_findTrader := goodIn_r _ [6, 7, 8, 117, 118, 119, 120, 121, 122, 123, 124, 125] (by decide +kernel) (by decide +kernel)
set_option maxRecDepth 20000 in
theorem gX10_deal_X10_findTrader : GoodIn wsX10_deal (wsV RX10 87 RX10 yX10_findTrader wsX10_findTrader) := goodIn_app (goodIn_of _ (by decide +kernel)) ggX10_deal_X10_findTrader
set_option maxRecDepth 20000 in
theorem ggX10_deal_X10_isOrder : GoodIn wsX10_deal wsX10_isOrder := goodIn_r _ [12, 1, 13, 14, 15, 16, 17, 18, 117, 118, 119, 120, 121, 122, 123, 124, 125, 126, 127, 128, 129, 130, 131] (by decide +kernel) (by decide +kernel)
set_option maxRecDepth 20000 in
theorem gX10_deal_X10_isOrder : GoodIn wsX10_deal (wsV RX10 91 RX10 yX10_isOrder wsX10_isOrder) := goodIn_app (goodIn_of _ (by decide +kernel)) ggX10_deal_X10_isOrder
set_option maxRecDepth 20000 in
theorem ggX10_deal_X3_hasCome : GoodIn wsX10_deal wsX3_hasCome := goodIn_r _ [22, 23, 126, 127, 128, 129, 130, 131] (by decide +kernel) (by decide +kernel)
set_option maxRecDepth 20000 in
theorem gX10_deal_X3_hasCome : GoodIn wsX10_deal (wsV RX10 99 RX3 yX3_hasCome wsX3_hasCome) := goodIn_app (goodIn_of _ (by decide +kernel)) ggX10_deal_X3_hasCome
set_option maxRecDepth 20000 in
theorem ggX10_deal_X10_whyBarred : GoodIn wsX10_deal wsX10_whyBarred := goodIn_r _ [27, 1, 28, 29, 30, 16, 31, 18, 32, 33, 34, 35, 36, 37, 38, 39, 40, 5, 41, 42, 43, 44, 45, 46, 47, 48, 49, 50, 51, 52, 53, 54, 55, 56, 57, 58, 59, 60, 61, 62, 63, 64, 65, 66, 67, 68, 69, 70, 71, 72, 73, 74, 75, 76, 77, 78, 79, 80, 81, 82, 83, 84, 85, 86, 87, 88, 89, 90, 91, 92, 93, 94, 117, 118, 119, 120, 121, 122, 123, 124, 125, 126, 127, 128, 129, 130, 131, 132, 133, 134, 135, 136, 137, 138, 139, 140, 141, 142, 143, 144, 145, 146] (by decide +kernel) (by decide +kernel)
set_option maxRecDepth 20000 in
theorem gX10_deal_X10_whyBarred : GoodIn wsX10_deal (wsV RX10 103 RX10 yX10_whyBarred wsX10_whyBarred) := goodIn_app (goodIn_of _ (by decide +kernel)) ggX10_deal_X10_whyBarred
set_option maxRecDepth 20000 in
theorem ggX10_deal_X3_cost : GoodIn wsX10_deal wsX3_cost := goodIn_r _ [75, 18, 33, 34, 35, 36, 37, 38, 39, 76, 77, 78, 16, 79, 40, 5, 41, 42, 43, 44, 45, 46, 47, 32, 48, 49, 50, 51, 52, 53, 54, 55, 56, 57, 126, 127, 128, 129, 130, 131] (by decide +kernel) (by decide +kernel)
set_option maxRecDepth 20000 in
theorem gX10_deal_X3_cost : GoodIn wsX10_deal (wsV RX10 95 RX3 yX3_cost wsX3_cost) := goodIn_app (goodIn_of _ (by decide +kernel)) ggX10_deal_X3_cost
set_option maxRecDepth 20000 in
theorem ggX10_deal_X3_sell : GoodIn wsX10_deal wsX3_sell := goodIn_r _ [98, 18, 53, 48, 99, 40, 5, 41, 126, 127, 128, 129, 130, 131] (by decide +kernel) (by decide +kernel)
set_option maxRecDepth 20000 in
theorem gX10_deal_X3_sell : GoodIn wsX10_deal (wsV RX10 107 RX3 yX3_sell wsX3_sell) := goodIn_app (goodIn_of _ (by decide +kernel)) ggX10_deal_X3_sell
set_option maxRecDepth 20000 in
theorem ggX10_deal_X5_buy : GoodIn wsX10_deal wsX5_buy := goodIn_r _ [103, 86, 67, 104, 40, 5, 41, 132, 133, 134, 135, 136, 137, 138, 139, 140, 141, 142, 143, 144, 145, 146] (by decide +kernel) (by decide +kernel)
set_option maxRecDepth 20000 in
theorem gX10_deal_X5_buy : GoodIn wsX10_deal (wsV RX10 111 RX5 yX5_buy wsX5_buy) := goodIn_app (goodIn_of _ (by decide +kernel)) ggX10_deal_X5_buy
set_option maxRecDepth 20000 in
theorem gX10_deal_X5_buy_u111X7 : GoodIn wsX10_deal (va_wsU RX10 111 RX7 "BetMaker$Plain" ⟨"BetMaker$Plain", "buy", "(IIJ)V"⟩ yX5_buy wsX5_buy) := goodIn_app (goodIn_of _ (by decide +kernel)) ggX10_deal_X5_buy
set_option maxRecDepth 20000 in
theorem gX10_deal_X5_buy_u111X9 : GoodIn wsX10_deal (va_wsU RX10 111 RX9 "BetMaker$Plain" ⟨"BetMaker$Plain", "buy", "(IIJ)V"⟩ yX5_buy wsX5_buy) := goodIn_app (goodIn_of _ (by decide +kernel)) ggX10_deal_X5_buy
set_option maxRecDepth 20000 in
theorem ggX10_deal_X5_deals : GoodIn wsX10_deal wsX5_deals := goodIn_r _ [112, 104, 132, 133, 134, 135, 136, 137, 138, 139, 140, 141, 142, 143, 144, 145, 146] (by decide +kernel) (by decide +kernel)
set_option maxRecDepth 20000 in
theorem gX10_deal_X5_deals : GoodIn wsX10_deal (wsV RX10 114 RX5 yX5_deals wsX5_deals) := goodIn_app (goodIn_of _ (by decide +kernel)) ggX10_deal_X5_deals
set_option maxRecDepth 20000 in
theorem gX10_deal_X5_deals_u114X7 : GoodIn wsX10_deal (va_wsU RX10 114 RX7 "BetMaker$Plain" ⟨"BetMaker$Plain", "deals", "()I"⟩ yX5_deals wsX5_deals) := goodIn_app (goodIn_of _ (by decide +kernel)) ggX10_deal_X5_deals
set_option maxRecDepth 20000 in
theorem gX10_deal_X5_deals_u114X9 : GoodIn wsX10_deal (va_wsU RX10 114 RX9 "BetMaker$Plain" ⟨"BetMaker$Plain", "deals", "()I"⟩ yX5_deals wsX5_deals) := goodIn_app (goodIn_of _ (by decide +kernel)) ggX10_deal_X5_deals
theorem dX10_deal_0 : decode cX10_deal 0 = .ok (.aload_n 0, 1) := by decide +kernel
theorem dX10_deal_1 : decode cX10_deal 1 = .ok (.iload_n 1, 1) := by decide +kernel
theorem dX10_deal_2 : decode cX10_deal 2 = .ok (.invokevirtual 87, 3) := by decide +kernel
theorem dX10_deal_5 : decode cX10_deal 5 = .ok (.astore 4, 2) := by decide +kernel
theorem dX10_deal_7 : decode cX10_deal 7 = .ok (.aload 4, 2) := by decide +kernel
theorem dX10_deal_9 : decode cX10_deal 9 = .ok (.ifnonnull 5, 3) := by decide +kernel
theorem dX10_deal_12 : decode cX10_deal 12 = .ok (.iconst (-1), 1) := by decide +kernel
theorem dX10_deal_13 : decode cX10_deal 13 = .ok (.ireturn, 1) := by decide +kernel
theorem dX10_deal_14 : decode cX10_deal 14 = .ok (.aload_n 0, 1) := by decide +kernel
theorem dX10_deal_15 : decode cX10_deal 15 = .ok (.iload_n 2, 1) := by decide +kernel
theorem dX10_deal_16 : decode cX10_deal 16 = .ok (.iload_n 3, 1) := by decide +kernel
theorem dX10_deal_17 : decode cX10_deal 17 = .ok (.invokevirtual 91, 3) := by decide +kernel
theorem dX10_deal_20 : decode cX10_deal 20 = .ok (.ifCond .ne 6, 3) := by decide +kernel
theorem dX10_deal_23 : decode cX10_deal 23 = .ok (.bipush (-2), 2) := by decide +kernel
theorem dX10_deal_25 : decode cX10_deal 25 = .ok (.ireturn, 1) := by decide +kernel
theorem dX10_deal_26 : decode cX10_deal 26 = .ok (.aload_n 0, 1) := by decide +kernel
theorem dX10_deal_27 : decode cX10_deal 27 = .ok (.getfield 12, 3) := by decide +kernel
theorem dX10_deal_30 : decode cX10_deal 30 = .ok (.invokevirtual 99, 3) := by decide +kernel
theorem dX10_deal_33 : decode cX10_deal 33 = .ok (.ifCond .eq 6, 3) := by decide +kernel
theorem dX10_deal_36 : decode cX10_deal 36 = .ok (.bipush (-3), 2) := by decide +kernel
theorem dX10_deal_38 : decode cX10_deal 38 = .ok (.ireturn, 1) := by decide +kernel
theorem dX10_deal_39 : decode cX10_deal 39 = .ok (.aload_n 0, 1) := by decide +kernel
theorem dX10_deal_40 : decode cX10_deal 40 = .ok (.aload 4, 2) := by decide +kernel
theorem dX10_deal_42 : decode cX10_deal 42 = .ok (.iload_n 2, 1) := by decide +kernel
theorem dX10_deal_43 : decode cX10_deal 43 = .ok (.iload_n 3, 1) := by decide +kernel
theorem dX10_deal_44 : decode cX10_deal 44 = .ok (.invokevirtual 103, 3) := by decide +kernel
theorem dX10_deal_47 : decode cX10_deal 47 = .ok (.istore 5, 2) := by decide +kernel
theorem dX10_deal_49 : decode cX10_deal 49 = .ok (.iload 5, 2) := by decide +kernel
theorem dX10_deal_51 : decode cX10_deal 51 = .ok (.ifCond .eq 9, 3) := by decide +kernel
theorem dX10_deal_54 : decode cX10_deal 54 = .ok (.bipush (-20), 2) := by decide +kernel
theorem dX10_deal_56 : decode cX10_deal 56 = .ok (.iload 5, 2) := by decide +kernel
theorem dX10_deal_58 : decode cX10_deal 58 = .ok (.isub, 1) := by decide +kernel
theorem dX10_deal_59 : decode cX10_deal 59 = .ok (.ireturn, 1) := by decide +kernel
theorem dX10_deal_60 : decode cX10_deal 60 = .ok (.aload_n 0, 1) := by decide +kernel
theorem dX10_deal_61 : decode cX10_deal 61 = .ok (.getfield 12, 3) := by decide +kernel
theorem dX10_deal_64 : decode cX10_deal 64 = .ok (.iload_n 2, 1) := by decide +kernel
theorem dX10_deal_65 : decode cX10_deal 65 = .ok (.iload_n 3, 1) := by decide +kernel
theorem dX10_deal_66 : decode cX10_deal 66 = .ok (.invokevirtual 95, 3) := by decide +kernel
theorem dX10_deal_69 : decode cX10_deal 69 = .ok (.lstore 6, 2) := by decide +kernel
theorem dX10_deal_71 : decode cX10_deal 71 = .ok (.aload_n 0, 1) := by decide +kernel
theorem dX10_deal_72 : decode cX10_deal 72 = .ok (.getfield 12, 3) := by decide +kernel
theorem dX10_deal_75 : decode cX10_deal 75 = .ok (.iload_n 2, 1) := by decide +kernel
theorem dX10_deal_76 : decode cX10_deal 76 = .ok (.iload_n 3, 1) := by decide +kernel
theorem dX10_deal_77 : decode cX10_deal 77 = .ok (.lload 6, 2) := by decide +kernel
theorem dX10_deal_79 : decode cX10_deal 79 = .ok (.invokevirtual 107, 3) := by decide +kernel
theorem dX10_deal_82 : decode cX10_deal 82 = .ok (.aload 4, 2) := by decide +kernel
theorem dX10_deal_84 : decode cX10_deal 84 = .ok (.iload_n 2, 1) := by decide +kernel
theorem dX10_deal_85 : decode cX10_deal 85 = .ok (.iload_n 3, 1) := by decide +kernel
theorem dX10_deal_86 : decode cX10_deal 86 = .ok (.lload 6, 2) := by decide +kernel
theorem dX10_deal_88 : decode cX10_deal 88 = .ok (.invokevirtual 111, 3) := by decide +kernel
theorem dX10_deal_91 : decode cX10_deal 91 = .ok (.aload 4, 2) := by decide +kernel
theorem dX10_deal_93 : decode cX10_deal 93 = .ok (.invokevirtual 114, 3) := by decide +kernel
theorem dX10_deal_96 : decode cX10_deal 96 = .ok (.ireturn, 1) := by decide +kernel
set_option maxRecDepth 20000 in
theorem ggX10_comes_X3_isCase : GoodIn wsX10_comes wsX3_isCase := goodIn_r _ [7, 8, 63, 64, 65, 66, 67, 68] (by decide +kernel) (by decide +kernel)
set_option maxRecDepth 20000 in
theorem gX10_comes_X3_isCase : GoodIn wsX10_comes (wsV RX10 118 RX3 yX3_isCase wsX3_isCase) := goodIn_app (goodIn_of _ (by decide +kernel)) ggX10_comes_X3_isCase
set_option maxRecDepth 20000 in
theorem ggX10_comes_X3_hasCome : GoodIn wsX10_comes wsX3_hasCome := goodIn_r _ [12, 13, 63, 64, 65, 66, 67, 68] (by decide +kernel) (by decide +kernel)
set_option maxRecDepth 20000 in
theorem gX10_comes_X3_hasCome : GoodIn wsX10_comes (wsV RX10 99 RX3 yX3_hasCome wsX3_hasCome) := goodIn_app (goodIn_of _ (by decide +kernel)) ggX10_comes_X3_hasCome
set_option maxRecDepth 20000 in
theorem ggX10_comes_X10_findTrader : GoodIn wsX10_comes wsX10_findTrader := goodIn_r _ [18, 2, 19, 54, 55, 56, 57, 58, 59, 60, 61, 62] (by decide +kernel) (by decide +kernel)
set_option maxRecDepth 20000 in
theorem gX10_comes_X10_findTrader : GoodIn wsX10_comes (wsV RX10 87 RX10 yX10_findTrader wsX10_findTrader) := goodIn_app (goodIn_of _ (by decide +kernel)) ggX10_comes_X10_findTrader
set_option maxRecDepth 20000 in
theorem ggX10_comes_X3_unit : GoodIn wsX10_comes wsX3_unit := goodIn_r _ [23, 24, 25, 8, 63, 64, 65, 66, 67, 68] (by decide +kernel) (by decide +kernel)
set_option maxRecDepth 20000 in
theorem gX10_comes_X3_unit : GoodIn wsX10_comes (wsV RX10 121 RX3 yX3_unit wsX3_unit) := goodIn_app (goodIn_of _ (by decide +kernel)) ggX10_comes_X3_unit
set_option maxRecDepth 20000 in
theorem ggX10_comes_X5_settle : GoodIn wsX10_comes wsX5_settle := goodIn_r _ [30, 31, 32, 33, 34, 35, 29, 36, 37, 38, 39, 40, 41, 42, 43, 44, 69, 70, 71, 72, 73, 74, 75, 76, 77, 78, 79, 80, 81, 82, 83] (by decide +kernel) (by decide +kernel)
set_option maxRecDepth 20000 in
theorem gX10_comes_X5_settle : GoodIn wsX10_comes (wsV RX10 125 RX5 yX5_settle wsX5_settle) := goodIn_app (goodIn_of _ (by decide +kernel)) ggX10_comes_X5_settle
set_option maxRecDepth 20000 in
theorem gX10_comes_X5_settle_u125X7 : GoodIn wsX10_comes (va_wsU RX10 125 RX7 "BetMaker$Plain" ⟨"BetMaker$Plain", "settle", "(IJ)J"⟩ yX5_settle wsX5_settle) := goodIn_app (goodIn_of _ (by decide +kernel)) ggX10_comes_X5_settle
set_option maxRecDepth 20000 in
theorem gX10_comes_X5_settle_u125X9 : GoodIn wsX10_comes (va_wsU RX10 125 RX9 "BetMaker$Plain" ⟨"BetMaker$Plain", "settle", "(IJ)J"⟩ yX5_settle wsX5_settle) := goodIn_app (goodIn_of _ (by decide +kernel)) ggX10_comes_X5_settle
set_option maxRecDepth 20000 in
theorem ggX10_comes_X3_settle : GoodIn wsX10_comes wsX3_settle := goodIn_r _ [52, 13, 53, 63, 64, 65, 66, 67, 68] (by decide +kernel) (by decide +kernel)
set_option maxRecDepth 20000 in
theorem gX10_comes_X3_settle : GoodIn wsX10_comes (wsV RX10 129 RX3 yX3_settle wsX3_settle) := goodIn_app (goodIn_of _ (by decide +kernel)) ggX10_comes_X3_settle
theorem dX10_comes_0 : decode cX10_comes 0 = .ok (.aload_n 0, 1) := by decide +kernel
theorem dX10_comes_1 : decode cX10_comes 1 = .ok (.getfield 12, 3) := by decide +kernel
theorem dX10_comes_4 : decode cX10_comes 4 = .ok (.iload_n 1, 1) := by decide +kernel
theorem dX10_comes_5 : decode cX10_comes 5 = .ok (.invokevirtual 118, 3) := by decide +kernel
theorem dX10_comes_8 : decode cX10_comes 8 = .ok (.ifCond .ne 5, 3) := by decide +kernel
theorem dX10_comes_11 : decode cX10_comes 11 = .ok (.iconst (-1), 1) := by decide +kernel
theorem dX10_comes_12 : decode cX10_comes 12 = .ok (.ireturn, 1) := by decide +kernel
theorem dX10_comes_13 : decode cX10_comes 13 = .ok (.aload_n 0, 1) := by decide +kernel
theorem dX10_comes_14 : decode cX10_comes 14 = .ok (.getfield 12, 3) := by decide +kernel
theorem dX10_comes_17 : decode cX10_comes 17 = .ok (.invokevirtual 99, 3) := by decide +kernel
theorem dX10_comes_20 : decode cX10_comes 20 = .ok (.ifCond .eq 6, 3) := by decide +kernel
theorem dX10_comes_23 : decode cX10_comes 23 = .ok (.bipush (-3), 2) := by decide +kernel
theorem dX10_comes_25 : decode cX10_comes 25 = .ok (.ireturn, 1) := by decide +kernel
theorem dX10_comes_26 : decode cX10_comes 26 = .ok (.lconst 0, 1) := by decide +kernel
theorem dX10_comes_27 : decode cX10_comes 27 = .ok (.lstore_n 2, 1) := by decide +kernel
theorem dX10_comes_28 : decode cX10_comes 28 = .ok (.iconst 0, 1) := by decide +kernel
theorem dX10_comes_29 : decode cX10_comes 29 = .ok (.istore 4, 2) := by decide +kernel
theorem dX10_comes_31 : decode cX10_comes 31 = .ok (.iload 4, 2) := by decide +kernel
theorem dX10_comes_33 : decode cX10_comes 33 = .ok (.aload_n 0, 1) := by decide +kernel
theorem dX10_comes_34 : decode cX10_comes 34 = .ok (.getfield 60, 3) := by decide +kernel
theorem dX10_comes_37 : decode cX10_comes 37 = .ok (.if_icmp .ge 38, 3) := by decide +kernel
theorem dX10_comes_40 : decode cX10_comes 40 = .ok (.aload_n 0, 1) := by decide +kernel
theorem dX10_comes_41 : decode cX10_comes 41 = .ok (.iload 4, 2) := by decide +kernel
theorem dX10_comes_43 : decode cX10_comes 43 = .ok (.invokevirtual 87, 3) := by decide +kernel
theorem dX10_comes_46 : decode cX10_comes 46 = .ok (.astore 5, 2) := by decide +kernel
theorem dX10_comes_48 : decode cX10_comes 48 = .ok (.aload 5, 2) := by decide +kernel
theorem dX10_comes_50 : decode cX10_comes 50 = .ok (.ifnull 19, 3) := by decide +kernel
theorem dX10_comes_53 : decode cX10_comes 53 = .ok (.lload_n 2, 1) := by decide +kernel
theorem dX10_comes_54 : decode cX10_comes 54 = .ok (.aload 5, 2) := by decide +kernel
theorem dX10_comes_56 : decode cX10_comes 56 = .ok (.iload_n 1, 1) := by decide +kernel
theorem dX10_comes_57 : decode cX10_comes 57 = .ok (.aload_n 0, 1) := by decide +kernel
theorem dX10_comes_58 : decode cX10_comes 58 = .ok (.getfield 12, 3) := by decide +kernel
theorem dX10_comes_61 : decode cX10_comes 61 = .ok (.invokevirtual 121, 3) := by decide +kernel
theorem dX10_comes_64 : decode cX10_comes 64 = .ok (.invokevirtual 125, 3) := by decide +kernel
theorem dX10_comes_67 : decode cX10_comes 67 = .ok (.ladd, 1) := by decide +kernel
theorem dX10_comes_68 : decode cX10_comes 68 = .ok (.lstore_n 2, 1) := by decide +kernel
theorem dX10_comes_69 : decode cX10_comes 69 = .ok (.iinc 4 1, 3) := by decide +kernel
theorem dX10_comes_72 : decode cX10_comes 72 = .ok (.goto (-41), 3) := by decide +kernel
theorem dX10_comes_75 : decode cX10_comes 75 = .ok (.aload_n 0, 1) := by decide +kernel
theorem dX10_comes_76 : decode cX10_comes 76 = .ok (.getfield 12, 3) := by decide +kernel
theorem dX10_comes_79 : decode cX10_comes 79 = .ok (.iload_n 1, 1) := by decide +kernel
theorem dX10_comes_80 : decode cX10_comes 80 = .ok (.lload_n 2, 1) := by decide +kernel
theorem dX10_comes_81 : decode cX10_comes 81 = .ok (.invokevirtual 129, 3) := by decide +kernel
theorem dX10_comes_84 : decode cX10_comes 84 = .ok (.iconst 1, 1) := by decide +kernel
theorem dX10_comes_85 : decode cX10_comes 85 = .ok (.ireturn, 1) := by decide +kernel
set_option maxRecDepth 20000 in
theorem ggX10_about_X3_isCase : GoodIn wsX10_about wsX3_isCase := goodIn_r _ [7, 8, 54, 55, 56, 57, 58, 59] (by decide +kernel) (by decide +kernel)
set_option maxRecDepth 20000 in
theorem gX10_about_X3_isCase : GoodIn wsX10_about (wsV RX10 118 RX3 yX3_isCase wsX3_isCase) := goodIn_app (goodIn_of _ (by decide +kernel)) ggX10_about_X3_isCase
set_option maxRecDepth 20000 in
theorem ggX10_about_X3_soldOf : GoodIn wsX10_about wsX3_soldOf := goodIn_r _ [12, 13, 14, 4, 5, 6, 7, 8, 54, 55, 56, 57, 58, 59] (by decide +kernel) (by decide +kernel)
set_option maxRecDepth 20000 in
theorem gX10_about_X3_soldOf : GoodIn wsX10_about (wsV RX10 132 RX3 yX3_soldOf wsX3_soldOf) := goodIn_app (goodIn_of _ (by decide +kernel)) ggX10_about_X3_soldOf
set_option maxRecDepth 20000 in
theorem ggX10_about_X3_casePrice : GoodIn wsX10_about wsX3_casePrice := goodIn_r _ [18, 19, 20, 21, 8, 22, 23, 10, 11, 6, 12, 13, 14, 4, 5, 7, 54, 55, 56, 57, 58, 59] (by decide +kernel) (by decide +kernel)
set_option maxRecDepth 20000 in
theorem gX10_about_X3_casePrice : GoodIn wsX10_about (wsV RX10 135 RX3 yX3_casePrice wsX3_casePrice) := goodIn_app (goodIn_of _ (by decide +kernel)) ggX10_about_X3_casePrice
set_option maxRecDepth 20000 in
theorem ggX10_about_X10_countHolders : GoodIn wsX10_about wsX10_countHolders := goodIn_r _ [28, 29, 30, 31, 32, 27, 33, 34, 35, 36, 37, 38, 39, 40, 41, 42, 43, 44, 45, 46, 47, 48, 49, 50, 51, 52, 53, 60, 61, 62, 63, 64, 65, 66, 67, 68, 69, 70, 71, 72, 73, 74] (by decide +kernel) (by decide +kernel)
set_option maxRecDepth 20000 in
theorem gX10_about_X10_countHolders : GoodIn wsX10_about (wsV RX10 138 RX10 yX10_countHolders wsX10_countHolders) := goodIn_app (goodIn_of _ (by decide +kernel)) ggX10_about_X10_countHolders
theorem dX10_about_0 : decode cX10_about 0 = .ok (.aload_n 0, 1) := by decide +kernel
theorem dX10_about_1 : decode cX10_about 1 = .ok (.getfield 12, 3) := by decide +kernel
theorem dX10_about_4 : decode cX10_about 4 = .ok (.iload_n 1, 1) := by decide +kernel
theorem dX10_about_5 : decode cX10_about 5 = .ok (.invokevirtual 118, 3) := by decide +kernel
theorem dX10_about_8 : decode cX10_about 8 = .ok (.ifCond .ne 7, 3) := by decide +kernel
theorem dX10_about_11 : decode cX10_about 11 = .ok (.ldc2_w 85, 3) := by decide +kernel
theorem dX10_about_14 : decode cX10_about 14 = .ok (.lreturn, 1) := by decide +kernel
theorem dX10_about_15 : decode cX10_about 15 = .ok (.iload_n 2, 1) := by decide +kernel
theorem dX10_about_16 : decode cX10_about 16 = .ok (.tableswitch 53 0 2 #[28, 37, 46], 28) := by decide +kernel
theorem dX10_about_44 : decode cX10_about 44 = .ok (.aload_n 0, 1) := by decide +kernel
theorem dX10_about_45 : decode cX10_about 45 = .ok (.getfield 12, 3) := by decide +kernel
theorem dX10_about_48 : decode cX10_about 48 = .ok (.iload_n 1, 1) := by decide +kernel
theorem dX10_about_49 : decode cX10_about 49 = .ok (.invokevirtual 132, 3) := by decide +kernel
theorem dX10_about_52 : decode cX10_about 52 = .ok (.lreturn, 1) := by decide +kernel
theorem dX10_about_53 : decode cX10_about 53 = .ok (.aload_n 0, 1) := by decide +kernel
theorem dX10_about_54 : decode cX10_about 54 = .ok (.getfield 12, 3) := by decide +kernel
theorem dX10_about_57 : decode cX10_about 57 = .ok (.iload_n 1, 1) := by decide +kernel
theorem dX10_about_58 : decode cX10_about 58 = .ok (.invokevirtual 135, 3) := by decide +kernel
theorem dX10_about_61 : decode cX10_about 61 = .ok (.lreturn, 1) := by decide +kernel
theorem dX10_about_62 : decode cX10_about 62 = .ok (.aload_n 0, 1) := by decide +kernel
theorem dX10_about_63 : decode cX10_about 63 = .ok (.iload_n 1, 1) := by decide +kernel
theorem dX10_about_64 : decode cX10_about 64 = .ok (.invokevirtual 138, 3) := by decide +kernel
theorem dX10_about_67 : decode cX10_about 67 = .ok (.i2l, 1) := by decide +kernel
theorem dX10_about_68 : decode cX10_about 68 = .ok (.lreturn, 1) := by decide +kernel
theorem dX10_about_69 : decode cX10_about 69 = .ok (.ldc2_w 85, 3) := by decide +kernel
theorem dX10_about_72 : decode cX10_about 72 = .ok (.lreturn, 1) := by decide +kernel
set_option maxRecDepth 20000 in
theorem ggX10_maker_X3_level : GoodIn wsX10_maker wsX3_level := goodIn_r _ [7, 8, 9, 10, 11, 12, 13, 14, 6, 15, 16, 17, 18, 19, 20, 57, 58, 59, 60, 61, 62] (by decide +kernel) (by decide +kernel)
set_option maxRecDepth 20000 in
theorem gX10_maker_X3_level : GoodIn wsX10_maker (wsV RX10 142 RX3 yX3_level wsX3_level) := goodIn_app (goodIn_of _ (by decide +kernel)) ggX10_maker_X3_level
set_option maxRecDepth 20000 in
theorem ggX10_maker_X3_gain : GoodIn wsX10_maker wsX3_gain := goodIn_r _ [24, 25, 57, 58, 59, 60, 61, 62] (by decide +kernel) (by decide +kernel)
set_option maxRecDepth 20000 in
theorem gX10_maker_X3_gain : GoodIn wsX10_maker (wsV RX10 145 RX3 yX3_gain wsX3_gain) := goodIn_app (goodIn_of _ (by decide +kernel)) ggX10_maker_X3_gain
set_option maxRecDepth 20000 in
theorem ggX10_maker_X3_worst : GoodIn wsX10_maker wsX3_worst := goodIn_r _ [29, 25, 8, 30, 31, 32, 33, 34, 35, 36, 6, 37, 38, 12, 13, 14, 15, 16, 17, 18, 19, 20, 39, 40, 41, 42, 9, 10, 57, 58, 59, 60, 61, 62] (by decide +kernel) (by decide +kernel)
set_option maxRecDepth 20000 in
theorem gX10_maker_X3_worst : GoodIn wsX10_maker (wsV RX10 148 RX3 yX3_worst wsX3_worst) := goodIn_app (goodIn_of _ (by decide +kernel)) ggX10_maker_X3_worst
set_option maxRecDepth 20000 in
theorem ggX10_maker_X3_unit : GoodIn wsX10_maker wsX3_unit := goodIn_r _ [42, 9, 10, 8, 57, 58, 59, 60, 61, 62] (by decide +kernel) (by decide +kernel)
set_option maxRecDepth 20000 in
theorem gX10_maker_X3_unit : GoodIn wsX10_maker (wsV RX10 121 RX3 yX3_unit wsX3_unit) := goodIn_app (goodIn_of _ (by decide +kernel)) ggX10_maker_X3_unit
set_option maxRecDepth 20000 in
theorem ggX10_maker_X3_came : GoodIn wsX10_maker wsX3_came := goodIn_r _ [47, 38, 57, 58, 59, 60, 61, 62] (by decide +kernel) (by decide +kernel)
set_option maxRecDepth 20000 in
theorem gX10_maker_X3_came : GoodIn wsX10_maker (wsV RX10 151 RX3 yX3_came wsX3_came) := goodIn_app (goodIn_of _ (by decide +kernel)) ggX10_maker_X3_came
theorem dX10_maker_0 : decode cX10_maker 0 = .ok (.iload_n 1, 1) := by decide +kernel
theorem dX10_maker_1 : decode cX10_maker 1 = .ok (.tableswitch 76 0 4 #[35, 43, 51, 59, 67], 35) := by decide +kernel
theorem dX10_maker_36 : decode cX10_maker 36 = .ok (.aload_n 0, 1) := by decide +kernel
theorem dX10_maker_37 : decode cX10_maker 37 = .ok (.getfield 12, 3) := by decide +kernel
theorem dX10_maker_40 : decode cX10_maker 40 = .ok (.invokevirtual 142, 3) := by decide +kernel
theorem dX10_maker_43 : decode cX10_maker 43 = .ok (.lreturn, 1) := by decide +kernel
theorem dX10_maker_44 : decode cX10_maker 44 = .ok (.aload_n 0, 1) := by decide +kernel
theorem dX10_maker_45 : decode cX10_maker 45 = .ok (.getfield 12, 3) := by decide +kernel
theorem dX10_maker_48 : decode cX10_maker 48 = .ok (.invokevirtual 145, 3) := by decide +kernel
theorem dX10_maker_51 : decode cX10_maker 51 = .ok (.lreturn, 1) := by decide +kernel
theorem dX10_maker_52 : decode cX10_maker 52 = .ok (.aload_n 0, 1) := by decide +kernel
theorem dX10_maker_53 : decode cX10_maker 53 = .ok (.getfield 12, 3) := by decide +kernel
theorem dX10_maker_56 : decode cX10_maker 56 = .ok (.invokevirtual 148, 3) := by decide +kernel
theorem dX10_maker_59 : decode cX10_maker 59 = .ok (.lreturn, 1) := by decide +kernel
theorem dX10_maker_60 : decode cX10_maker 60 = .ok (.aload_n 0, 1) := by decide +kernel
theorem dX10_maker_61 : decode cX10_maker 61 = .ok (.getfield 12, 3) := by decide +kernel
theorem dX10_maker_64 : decode cX10_maker 64 = .ok (.invokevirtual 121, 3) := by decide +kernel
theorem dX10_maker_67 : decode cX10_maker 67 = .ok (.lreturn, 1) := by decide +kernel
theorem dX10_maker_68 : decode cX10_maker 68 = .ok (.aload_n 0, 1) := by decide +kernel
theorem dX10_maker_69 : decode cX10_maker 69 = .ok (.getfield 12, 3) := by decide +kernel
theorem dX10_maker_72 : decode cX10_maker 72 = .ok (.invokevirtual 151, 3) := by decide +kernel
theorem dX10_maker_75 : decode cX10_maker 75 = .ok (.i2l, 1) := by decide +kernel
theorem dX10_maker_76 : decode cX10_maker 76 = .ok (.lreturn, 1) := by decide +kernel
theorem dX10_maker_77 : decode cX10_maker 77 = .ok (.ldc2_w 85, 3) := by decide +kernel
theorem dX10_maker_80 : decode cX10_maker 80 = .ok (.lreturn, 1) := by decide +kernel
set_option maxRecDepth 20000 in
theorem ggX10_of_X10_findTrader : GoodIn wsX10_of wsX10_findTrader := goodIn_r _ [6, 7, 8, 95, 96, 97, 98, 99, 100, 101, 102, 103] (by decide +kernel) (by decide +kernel)
set_option maxRecDepth 20000 in
theorem gX10_of_X10_findTrader : GoodIn wsX10_of (wsV RX10 87 RX10 yX10_findTrader wsX10_findTrader) := goodIn_app (goodIn_of _ (by decide +kernel)) ggX10_of_X10_findTrader
set_option maxRecDepth 20000 in
theorem ggX10_of_X5_purse : GoodIn wsX10_of wsX5_purse := goodIn_r _ [13, 14, 104, 105, 106, 107, 108, 109, 110, 111, 112, 113, 114, 115, 116, 117, 118] (by decide +kernel) (by decide +kernel)
set_option maxRecDepth 20000 in
theorem gX10_of_X5_purse : GoodIn wsX10_of (wsV RX10 154 RX5 yX5_purse wsX5_purse) := goodIn_app (goodIn_of _ (by decide +kernel)) ggX10_of_X5_purse
set_option maxRecDepth 20000 in
theorem gX10_of_X5_purse_u154X7 : GoodIn wsX10_of (va_wsU RX10 154 RX7 "BetMaker$Plain" ⟨"BetMaker$Plain", "purse", "()J"⟩ yX5_purse wsX5_purse) := goodIn_app (goodIn_of _ (by decide +kernel)) ggX10_of_X5_purse
set_option maxRecDepth 20000 in
theorem gX10_of_X5_purse_u154X9 : GoodIn wsX10_of (va_wsU RX10 154 RX9 "BetMaker$Plain" ⟨"BetMaker$Plain", "purse", "()J"⟩ yX5_purse wsX5_purse) := goodIn_app (goodIn_of _ (by decide +kernel)) ggX10_of_X5_purse
set_option maxRecDepth 20000 in
theorem ggX10_of_X5_leastHeld : GoodIn wsX10_of wsX5_leastHeld := goodIn_r _ [22, 23, 24, 25, 26, 27, 28, 29, 5, 30, 104, 105, 106, 107, 108, 109, 110, 111, 112, 113, 114, 115, 116, 117, 118] (by decide +kernel) (by decide +kernel)
set_option maxRecDepth 20000 in
theorem gX10_of_X5_leastHeld : GoodIn wsX10_of (wsV RX10 157 RX5 yX5_leastHeld wsX5_leastHeld) := goodIn_app (goodIn_of _ (by decide +kernel)) ggX10_of_X5_leastHeld
set_option maxRecDepth 20000 in
theorem gX10_of_X5_leastHeld_u157X7 : GoodIn wsX10_of (va_wsU RX10 157 RX7 "BetMaker$Plain" ⟨"BetMaker$Plain", "leastHeld", "(II)J"⟩ yX5_leastHeld wsX5_leastHeld) := goodIn_app (goodIn_of _ (by decide +kernel)) ggX10_of_X5_leastHeld
set_option maxRecDepth 20000 in
theorem gX10_of_X5_leastHeld_u157X9 : GoodIn wsX10_of (va_wsU RX10 157 RX9 "BetMaker$Plain" ⟨"BetMaker$Plain", "leastHeld", "(II)J"⟩ yX5_leastHeld wsX5_leastHeld) := goodIn_app (goodIn_of _ (by decide +kernel)) ggX10_of_X5_leastHeld
set_option maxRecDepth 20000 in
theorem ggX10_of_X5_deals : GoodIn wsX10_of wsX5_deals := goodIn_r _ [38, 39, 104, 105, 106, 107, 108, 109, 110, 111, 112, 113, 114, 115, 116, 117, 118] (by decide +kernel) (by decide +kernel)
set_option maxRecDepth 20000 in
theorem gX10_of_X5_deals : GoodIn wsX10_of (wsV RX10 114 RX5 yX5_deals wsX5_deals) := goodIn_app (goodIn_of _ (by decide +kernel)) ggX10_of_X5_deals
set_option maxRecDepth 20000 in
theorem gX10_of_X5_deals_u114X7 : GoodIn wsX10_of (va_wsU RX10 114 RX7 "BetMaker$Plain" ⟨"BetMaker$Plain", "deals", "()I"⟩ yX5_deals wsX5_deals) := goodIn_app (goodIn_of _ (by decide +kernel)) ggX10_of_X5_deals
set_option maxRecDepth 20000 in
theorem gX10_of_X5_deals_u114X9 : GoodIn wsX10_of (va_wsU RX10 114 RX9 "BetMaker$Plain" ⟨"BetMaker$Plain", "deals", "()I"⟩ yX5_deals wsX5_deals) := goodIn_app (goodIn_of _ (by decide +kernel)) ggX10_of_X5_deals
set_option maxRecDepth 20000 in
theorem ggX10_of_X5_kind : GoodIn wsX10_of wsX5_kind := goodIn_r _ [47] (by decide +kernel) (by decide +kernel)
set_option maxRecDepth 20000 in
theorem gX10_of_X5_kind : GoodIn wsX10_of (wsV RX10 160 RX5 yX5_kind wsX5_kind) := goodIn_app (goodIn_of _ (by decide +kernel)) ggX10_of_X5_kind
set_option maxRecDepth 20000 in
theorem ggX10_of_X7_kind : GoodIn wsX10_of wsX7_kind := goodIn_r _ [54] (by decide +kernel) (by decide +kernel)
set_option maxRecDepth 20000 in
theorem gX10_of_X7_kind_u160X7 : GoodIn wsX10_of (va_wsO RX10 160 RX7 "BetMaker$Plain" ⟨"BetMaker$Plain", "kind", "()I"⟩ yX7_kind wsX7_kind) := goodIn_app (goodIn_of _ (by decide +kernel)) ggX10_of_X7_kind
set_option maxRecDepth 20000 in
theorem ggX10_of_X9_kind : GoodIn wsX10_of wsX9_kind := goodIn_r _ [58] (by decide +kernel) (by decide +kernel)
set_option maxRecDepth 20000 in
theorem gX10_of_X9_kind_u160X9 : GoodIn wsX10_of (va_wsO RX10 160 RX9 "BetMaker$Plain" ⟨"BetMaker$Plain", "kind", "()I"⟩ yX9_kind wsX9_kind) := goodIn_app (goodIn_of _ (by decide +kernel)) ggX10_of_X9_kind
set_option maxRecDepth 20000 in
theorem ggX10_of_X5_weightSum : GoodIn wsX10_of wsX5_weightSum := goodIn_r _ [62, 63, 104, 105, 106, 107, 108, 109, 110, 111, 112, 113, 114, 115, 116, 117, 118] (by decide +kernel) (by decide +kernel)
set_option maxRecDepth 20000 in
theorem gX10_of_X5_weightSum : GoodIn wsX10_of (wsV RX10 163 RX5 yX5_weightSum wsX5_weightSum) := goodIn_app (goodIn_of _ (by decide +kernel)) ggX10_of_X5_weightSum
set_option maxRecDepth 20000 in
theorem gX10_of_X5_weightSum_u163X7 : GoodIn wsX10_of (va_wsU RX10 163 RX7 "BetMaker$Plain" ⟨"BetMaker$Plain", "weightSum", "()J"⟩ yX5_weightSum wsX5_weightSum) := goodIn_app (goodIn_of _ (by decide +kernel)) ggX10_of_X5_weightSum
set_option maxRecDepth 20000 in
theorem gX10_of_X5_weightSum_u163X9 : GoodIn wsX10_of (va_wsU RX10 163 RX9 "BetMaker$Plain" ⟨"BetMaker$Plain", "weightSum", "()J"⟩ yX5_weightSum wsX5_weightSum) := goodIn_app (goodIn_of _ (by decide +kernel)) ggX10_of_X5_weightSum
set_option maxRecDepth 20000 in
theorem ggX10_of_X10_ofCase : GoodIn wsX10_of wsX10_ofCase := goodIn_r _ [71, 72, 1, 73, 74, 75, 76, 77, 78, 79, 80, 81, 12, 82, 24, 83, 84, 85, 86, 87, 88, 89, 90, 63, 91, 92, 93, 94, 95, 96, 97, 98, 99, 100, 101, 102, 103, 119, 120, 121, 122, 123, 124, 104, 105, 106, 107, 108, 109, 110, 111, 112, 113, 114, 115, 116, 117, 118] (by decide +kernel) (by decide +kernel)
set_option maxRecDepth 20000 in
theorem gX10_of_X10_ofCase : GoodIn wsX10_of (wsV RX10 166 RX10 yX10_ofCase wsX10_ofCase) := goodIn_app (goodIn_of _ (by decide +kernel)) ggX10_of_X10_ofCase
theorem dX10_of_0 : decode cX10_of 0 = .ok (.aload_n 0, 1) := by decide +kernel
theorem dX10_of_1 : decode cX10_of 1 = .ok (.iload_n 1, 1) := by decide +kernel
theorem dX10_of_2 : decode cX10_of 2 = .ok (.invokevirtual 87, 3) := by decide +kernel
theorem dX10_of_5 : decode cX10_of 5 = .ok (.astore_n 3, 1) := by decide +kernel
theorem dX10_of_6 : decode cX10_of 6 = .ok (.aload_n 3, 1) := by decide +kernel
theorem dX10_of_7 : decode cX10_of 7 = .ok (.ifnonnull 7, 3) := by decide +kernel
theorem dX10_of_10 : decode cX10_of 10 = .ok (.ldc2_w 85, 3) := by decide +kernel
theorem dX10_of_13 : decode cX10_of 13 = .ok (.lreturn, 1) := by decide +kernel
theorem dX10_of_14 : decode cX10_of 14 = .ok (.iload_n 2, 1) := by decide +kernel
theorem dX10_of_15 : decode cX10_of 15 = .ok (.tableswitch 62 0 4 #[33, 38, 45, 51, 57], 33) := by decide +kernel
theorem dX10_of_48 : decode cX10_of 48 = .ok (.aload_n 3, 1) := by decide +kernel
theorem dX10_of_49 : decode cX10_of 49 = .ok (.invokevirtual 154, 3) := by decide +kernel
theorem dX10_of_52 : decode cX10_of 52 = .ok (.lreturn, 1) := by decide +kernel
theorem dX10_of_53 : decode cX10_of 53 = .ok (.aload_n 3, 1) := by decide +kernel
theorem dX10_of_54 : decode cX10_of 54 = .ok (.iconst 0, 1) := by decide +kernel
theorem dX10_of_55 : decode cX10_of 55 = .ok (.iconst 0, 1) := by decide +kernel
theorem dX10_of_56 : decode cX10_of 56 = .ok (.invokevirtual 157, 3) := by decide +kernel
theorem dX10_of_59 : decode cX10_of 59 = .ok (.lreturn, 1) := by decide +kernel
theorem dX10_of_60 : decode cX10_of 60 = .ok (.aload_n 3, 1) := by decide +kernel
theorem dX10_of_61 : decode cX10_of 61 = .ok (.invokevirtual 114, 3) := by decide +kernel
theorem dX10_of_64 : decode cX10_of 64 = .ok (.i2l, 1) := by decide +kernel
theorem dX10_of_65 : decode cX10_of 65 = .ok (.lreturn, 1) := by decide +kernel
theorem dX10_of_66 : decode cX10_of 66 = .ok (.aload_n 3, 1) := by decide +kernel
theorem dX10_of_67 : decode cX10_of 67 = .ok (.invokevirtual 160, 3) := by decide +kernel
theorem dX10_of_70 : decode cX10_of 70 = .ok (.i2l, 1) := by decide +kernel
theorem dX10_of_71 : decode cX10_of 71 = .ok (.lreturn, 1) := by decide +kernel
theorem dX10_of_72 : decode cX10_of 72 = .ok (.aload_n 3, 1) := by decide +kernel
theorem dX10_of_73 : decode cX10_of 73 = .ok (.invokevirtual 163, 3) := by decide +kernel
theorem dX10_of_76 : decode cX10_of 76 = .ok (.lreturn, 1) := by decide +kernel
theorem dX10_of_77 : decode cX10_of 77 = .ok (.aload_n 0, 1) := by decide +kernel
theorem dX10_of_78 : decode cX10_of 78 = .ok (.aload_n 3, 1) := by decide +kernel
theorem dX10_of_79 : decode cX10_of 79 = .ok (.iload_n 2, 1) := by decide +kernel
theorem dX10_of_80 : decode cX10_of 80 = .ok (.invokevirtual 166, 3) := by decide +kernel
theorem dX10_of_83 : decode cX10_of 83 = .ok (.lreturn, 1) := by decide +kernel
set_option maxRecDepth 20000 in
theorem ggX10_believe_X10_findTrader : GoodIn wsX10_believe wsX10_findTrader := goodIn_r _ [6, 7, 8, 44, 45, 46, 47, 48, 49, 50, 51, 52] (by decide +kernel) (by decide +kernel)
set_option maxRecDepth 20000 in
theorem gX10_believe_X10_findTrader : GoodIn wsX10_believe (wsV RX10 87 RX10 yX10_findTrader wsX10_findTrader) := goodIn_app (goodIn_of _ (by decide +kernel)) ggX10_believe_X10_findTrader
set_option maxRecDepth 20000 in
theorem ggX10_believe_X3_isCase : GoodIn wsX10_believe wsX3_isCase := goodIn_r _ [13, 14, 53, 54, 55, 56, 57, 58] (by decide +kernel) (by decide +kernel)
set_option maxRecDepth 20000 in
theorem gX10_believe_X3_isCase : GoodIn wsX10_believe (wsV RX10 118 RX3 yX3_isCase wsX3_isCase) := goodIn_app (goodIn_of _ (by decide +kernel)) ggX10_believe_X3_isCase
set_option maxRecDepth 20000 in
theorem ggX10_believe_X10_isWeight : GoodIn wsX10_believe wsX10_isWeight := goodIn_r _ [17] (by decide +kernel) (by decide +kernel)
set_option maxRecDepth 20000 in
theorem gX10_believe_X10_isWeight : GoodIn wsX10_believe (va_wsS RX10 170 yX10_isWeight wsX10_isWeight) := goodIn_app (goodIn_of _ (by decide +kernel)) ggX10_believe_X10_isWeight
set_option maxRecDepth 20000 in
theorem ggX10_believe_X5_weightOf : GoodIn wsX10_believe wsX5_weightOf := goodIn_r _ [22, 23, 59, 60, 61, 62, 63, 64, 65, 66, 67, 68, 69, 70, 71, 72, 73] (by decide +kernel) (by decide +kernel)
set_option maxRecDepth 20000 in
theorem gX10_believe_X5_weightOf : GoodIn wsX10_believe (wsV RX10 173 RX5 yX5_weightOf wsX5_weightOf) := goodIn_app (goodIn_of _ (by decide +kernel)) ggX10_believe_X5_weightOf
set_option maxRecDepth 20000 in
theorem gX10_believe_X5_weightOf_u173X7 : GoodIn wsX10_believe (va_wsU RX10 173 RX7 "BetMaker$Plain" ⟨"BetMaker$Plain", "weightOf", "(I)I"⟩ yX5_weightOf wsX5_weightOf) := goodIn_app (goodIn_of _ (by decide +kernel)) ggX10_believe_X5_weightOf
set_option maxRecDepth 20000 in
theorem gX10_believe_X5_weightOf_u173X9 : GoodIn wsX10_believe (va_wsU RX10 173 RX9 "BetMaker$Plain" ⟨"BetMaker$Plain", "weightOf", "(I)I"⟩ yX5_weightOf wsX5_weightOf) := goodIn_app (goodIn_of _ (by decide +kernel)) ggX10_believe_X5_weightOf
set_option maxRecDepth 20000 in
theorem ggX10_believe_X5_weightSum : GoodIn wsX10_believe wsX5_weightSum := goodIn_r _ [31, 23, 59, 60, 61, 62, 63, 64, 65, 66, 67, 68, 69, 70, 71, 72, 73] (by decide +kernel) (by decide +kernel)
set_option maxRecDepth 20000 in
theorem gX10_believe_X5_weightSum : GoodIn wsX10_believe (wsV RX10 163 RX5 yX5_weightSum wsX5_weightSum) := goodIn_app (goodIn_of _ (by decide +kernel)) ggX10_believe_X5_weightSum
set_option maxRecDepth 20000 in
theorem gX10_believe_X5_weightSum_u163X7 : GoodIn wsX10_believe (va_wsU RX10 163 RX7 "BetMaker$Plain" ⟨"BetMaker$Plain", "weightSum", "()J"⟩ yX5_weightSum wsX5_weightSum) := goodIn_app (goodIn_of _ (by decide +kernel)) ggX10_believe_X5_weightSum
set_option maxRecDepth 20000 in
theorem gX10_believe_X5_weightSum_u163X9 : GoodIn wsX10_believe (va_wsU RX10 163 RX9 "BetMaker$Plain" ⟨"BetMaker$Plain", "weightSum", "()J"⟩ yX5_weightSum wsX5_weightSum) := goodIn_app (goodIn_of _ (by decide +kernel)) ggX10_believe_X5_weightSum
set_option maxRecDepth 20000 in
theorem ggX10_believe_X5_weigh : GoodIn wsX10_believe wsX5_weigh := goodIn_r _ [39, 23, 59, 60, 61, 62, 63, 64, 65, 66, 67, 68, 69, 70, 71, 72, 73] (by decide +kernel) (by decide +kernel)
set_option maxRecDepth 20000 in
theorem gX10_believe_X5_weigh : GoodIn wsX10_believe (wsV RX10 176 RX5 yX5_weigh wsX5_weigh) := goodIn_app (goodIn_of _ (by decide +kernel)) ggX10_believe_X5_weigh
set_option maxRecDepth 20000 in
theorem gX10_believe_X5_weigh_u176X7 : GoodIn wsX10_believe (va_wsU RX10 176 RX7 "BetMaker$Plain" ⟨"BetMaker$Plain", "weigh", "(II)V"⟩ yX5_weigh wsX5_weigh) := goodIn_app (goodIn_of _ (by decide +kernel)) ggX10_believe_X5_weigh
set_option maxRecDepth 20000 in
theorem gX10_believe_X5_weigh_u176X9 : GoodIn wsX10_believe (va_wsU RX10 176 RX9 "BetMaker$Plain" ⟨"BetMaker$Plain", "weigh", "(II)V"⟩ yX5_weigh wsX5_weigh) := goodIn_app (goodIn_of _ (by decide +kernel)) ggX10_believe_X5_weigh
theorem dX10_believe_0 : decode cX10_believe 0 = .ok (.aload_n 0, 1) := by decide +kernel
theorem dX10_believe_1 : decode cX10_believe 1 = .ok (.iload_n 1, 1) := by decide +kernel
theorem dX10_believe_2 : decode cX10_believe 2 = .ok (.invokevirtual 87, 3) := by decide +kernel
theorem dX10_believe_5 : decode cX10_believe 5 = .ok (.astore 4, 2) := by decide +kernel
theorem dX10_believe_7 : decode cX10_believe 7 = .ok (.aload 4, 2) := by decide +kernel
theorem dX10_believe_9 : decode cX10_believe 9 = .ok (.ifnull 14, 3) := by decide +kernel
theorem dX10_believe_12 : decode cX10_believe 12 = .ok (.aload_n 0, 1) := by decide +kernel
theorem dX10_believe_13 : decode cX10_believe 13 = .ok (.getfield 12, 3) := by decide +kernel
theorem dX10_believe_16 : decode cX10_believe 16 = .ok (.iload_n 2, 1) := by decide +kernel
theorem dX10_believe_17 : decode cX10_believe 17 = .ok (.invokevirtual 118, 3) := by decide +kernel
theorem dX10_believe_20 : decode cX10_believe 20 = .ok (.ifCond .ne 5, 3) := by decide +kernel
theorem dX10_believe_23 : decode cX10_believe 23 = .ok (.iconst (-1), 1) := by decide +kernel
theorem dX10_believe_24 : decode cX10_believe 24 = .ok (.ireturn, 1) := by decide +kernel
theorem dX10_believe_25 : decode cX10_believe 25 = .ok (.iload_n 3, 1) := by decide +kernel
theorem dX10_believe_26 : decode cX10_believe 26 = .ok (.invokestatic 170, 3) := by decide +kernel
theorem dX10_believe_29 : decode cX10_believe 29 = .ok (.ifCond .ne 6, 3) := by decide +kernel
theorem dX10_believe_32 : decode cX10_believe 32 = .ok (.bipush (-2), 2) := by decide +kernel
theorem dX10_believe_34 : decode cX10_believe 34 = .ok (.ireturn, 1) := by decide +kernel
theorem dX10_believe_35 : decode cX10_believe 35 = .ok (.aload 4, 2) := by decide +kernel
theorem dX10_believe_37 : decode cX10_believe 37 = .ok (.iload_n 2, 1) := by decide +kernel
theorem dX10_believe_38 : decode cX10_believe 38 = .ok (.invokevirtual 173, 3) := by decide +kernel
theorem dX10_believe_41 : decode cX10_believe 41 = .ok (.istore 5, 2) := by decide +kernel
theorem dX10_believe_43 : decode cX10_believe 43 = .ok (.aload 4, 2) := by decide +kernel
theorem dX10_believe_45 : decode cX10_believe 45 = .ok (.invokevirtual 163, 3) := by decide +kernel
theorem dX10_believe_48 : decode cX10_believe 48 = .ok (.iload 5, 2) := by decide +kernel
theorem dX10_believe_50 : decode cX10_believe 50 = .ok (.i2l, 1) := by decide +kernel
theorem dX10_believe_51 : decode cX10_believe 51 = .ok (.lsub, 1) := by decide +kernel
theorem dX10_believe_52 : decode cX10_believe 52 = .ok (.iload_n 3, 1) := by decide +kernel
theorem dX10_believe_53 : decode cX10_believe 53 = .ok (.i2l, 1) := by decide +kernel
theorem dX10_believe_54 : decode cX10_believe 54 = .ok (.ladd, 1) := by decide +kernel
theorem dX10_believe_55 : decode cX10_believe 55 = .ok (.lconst 0, 1) := by decide +kernel
theorem dX10_believe_56 : decode cX10_believe 56 = .ok (.lcmp, 1) := by decide +kernel
theorem dX10_believe_57 : decode cX10_believe 57 = .ok (.ifCond .ne 6, 3) := by decide +kernel
theorem dX10_believe_60 : decode cX10_believe 60 = .ok (.bipush (-3), 2) := by decide +kernel
theorem dX10_believe_62 : decode cX10_believe 62 = .ok (.ireturn, 1) := by decide +kernel
theorem dX10_believe_63 : decode cX10_believe 63 = .ok (.aload 4, 2) := by decide +kernel
theorem dX10_believe_65 : decode cX10_believe 65 = .ok (.iload_n 2, 1) := by decide +kernel
theorem dX10_believe_66 : decode cX10_believe 66 = .ok (.iload_n 3, 1) := by decide +kernel
theorem dX10_believe_67 : decode cX10_believe 67 = .ok (.invokevirtual 176, 3) := by decide +kernel
theorem dX10_believe_70 : decode cX10_believe 70 = .ok (.iload 5, 2) := by decide +kernel
theorem dX10_believe_72 : decode cX10_believe 72 = .ok (.ireturn, 1) := by decide +kernel
set_option maxRecDepth 20000 in
theorem ggX10_beliefs_X10_findTrader : GoodIn wsX10_beliefs wsX10_findTrader := goodIn_r _ [7, 8, 9, 63, 64, 65, 66, 67, 68, 69, 70, 71] (by decide +kernel) (by decide +kernel)
set_option maxRecDepth 20000 in
theorem gX10_beliefs_X10_findTrader : GoodIn wsX10_beliefs (wsV RX10 87 RX10 yX10_findTrader wsX10_findTrader) := goodIn_app (goodIn_of _ (by decide +kernel)) ggX10_beliefs_X10_findTrader
set_option maxRecDepth 20000 in
theorem ggX10_beliefs_X10_findSheet : GoodIn wsX10_beliefs wsX10_findSheet := goodIn_r _ [13, 14, 63, 64, 65, 66, 67, 68, 69, 70, 71] (by decide +kernel) (by decide +kernel)
set_option maxRecDepth 20000 in
theorem gX10_beliefs_X10_findSheet : GoodIn wsX10_beliefs (wsV RX10 182 RX10 yX10_findSheet wsX10_findSheet) := goodIn_app (goodIn_of _ (by decide +kernel)) ggX10_beliefs_X10_findSheet
set_option maxRecDepth 20000 in
theorem ggX10_beliefs_X10_takeWeights : GoodIn wsX10_beliefs wsX10_takeWeights := goodIn_r _ [18, 19, 2, 20, 21, 6, 22, 23, 24, 25, 26, 27, 28, 29, 30, 31, 32, 33, 34, 35, 36, 37, 38, 39, 40, 41, 42, 43, 44, 1, 45, 46, 47, 48, 49, 50, 51, 52, 63, 64, 65, 66, 67, 68, 69, 70, 71, 72, 73, 74, 75, 76, 77, 78, 79, 80, 81] (by decide +kernel) (by decide +kernel)
set_option maxRecDepth 20000 in
theorem gX10_beliefs_X10_takeWeights : GoodIn wsX10_beliefs (wsV RX10 186 RX10 yX10_takeWeights wsX10_takeWeights) := goodIn_app (goodIn_of _ (by decide +kernel)) ggX10_beliefs_X10_takeWeights
set_option maxRecDepth 20000 in
theorem ggX10_beliefs_X5_weighAll : GoodIn wsX10_beliefs wsX5_weighAll := goodIn_r _ [57, 58, 82, 83, 84, 85, 86, 87, 88, 89, 90, 91, 92, 93, 94, 95, 96] (by decide +kernel) (by decide +kernel)
set_option maxRecDepth 20000 in
theorem gX10_beliefs_X5_weighAll : GoodIn wsX10_beliefs (wsV RX10 190 RX5 yX5_weighAll wsX5_weighAll) := goodIn_app (goodIn_of _ (by decide +kernel)) ggX10_beliefs_X5_weighAll
set_option maxRecDepth 20000 in
theorem gX10_beliefs_X5_weighAll_u190X7 : GoodIn wsX10_beliefs (va_wsU RX10 190 RX7 "BetMaker$Plain" ⟨"BetMaker$Plain", "weighAll", "([I)V"⟩ yX5_weighAll wsX5_weighAll) := goodIn_app (goodIn_of _ (by decide +kernel)) ggX10_beliefs_X5_weighAll
set_option maxRecDepth 20000 in
theorem gX10_beliefs_X5_weighAll_u190X9 : GoodIn wsX10_beliefs (va_wsU RX10 190 RX9 "BetMaker$Plain" ⟨"BetMaker$Plain", "weighAll", "([I)V"⟩ yX5_weighAll wsX5_weighAll) := goodIn_app (goodIn_of _ (by decide +kernel)) ggX10_beliefs_X5_weighAll
theorem dX10_beliefs_0 : decode cX10_beliefs 0 = .ok (.aload_n 0, 1) := by decide +kernel
theorem dX10_beliefs_1 : decode cX10_beliefs 1 = .ok (.iconst 0, 1) := by decide +kernel
theorem dX10_beliefs_2 : decode cX10_beliefs 2 = .ok (.putfield 179, 3) := by decide +kernel
theorem dX10_beliefs_5 : decode cX10_beliefs 5 = .ok (.aload_n 0, 1) := by decide +kernel
theorem dX10_beliefs_6 : decode cX10_beliefs 6 = .ok (.iload_n 1, 1) := by decide +kernel
theorem dX10_beliefs_7 : decode cX10_beliefs 7 = .ok (.invokevirtual 87, 3) := by decide +kernel
theorem dX10_beliefs_10 : decode cX10_beliefs 10 = .ok (.astore 5, 2) := by decide +kernel
theorem dX10_beliefs_12 : decode cX10_beliefs 12 = .ok (.aload_n 0, 1) := by decide +kernel
theorem dX10_beliefs_13 : decode cX10_beliefs 13 = .ok (.iload_n 2, 1) := by decide +kernel
theorem dX10_beliefs_14 : decode cX10_beliefs 14 = .ok (.invokevirtual 182, 3) := by decide +kernel
theorem dX10_beliefs_17 : decode cX10_beliefs 17 = .ok (.astore 6, 2) := by decide +kernel
theorem dX10_beliefs_19 : decode cX10_beliefs 19 = .ok (.aload 5, 2) := by decide +kernel
theorem dX10_beliefs_21 : decode cX10_beliefs 21 = .ok (.ifnull 8, 3) := by decide +kernel
theorem dX10_beliefs_24 : decode cX10_beliefs 24 = .ok (.aload 6, 2) := by decide +kernel
theorem dX10_beliefs_26 : decode cX10_beliefs 26 = .ok (.ifnonnull 5, 3) := by decide +kernel
theorem dX10_beliefs_29 : decode cX10_beliefs 29 = .ok (.iconst (-1), 1) := by decide +kernel
theorem dX10_beliefs_30 : decode cX10_beliefs 30 = .ok (.ireturn, 1) := by decide +kernel
theorem dX10_beliefs_31 : decode cX10_beliefs 31 = .ok (.aload_n 0, 1) := by decide +kernel
theorem dX10_beliefs_32 : decode cX10_beliefs 32 = .ok (.aload 6, 2) := by decide +kernel
theorem dX10_beliefs_34 : decode cX10_beliefs 34 = .ok (.iload_n 3, 1) := by decide +kernel
theorem dX10_beliefs_35 : decode cX10_beliefs 35 = .ok (.iload 4, 2) := by decide +kernel
theorem dX10_beliefs_37 : decode cX10_beliefs 37 = .ok (.invokevirtual 186, 3) := by decide +kernel
theorem dX10_beliefs_40 : decode cX10_beliefs 40 = .ok (.istore 7, 2) := by decide +kernel
theorem dX10_beliefs_42 : decode cX10_beliefs 42 = .ok (.iload 7, 2) := by decide +kernel
theorem dX10_beliefs_44 : decode cX10_beliefs 44 = .ok (.ifCond .le 12, 3) := by decide +kernel
theorem dX10_beliefs_47 : decode cX10_beliefs 47 = .ok (.aload 5, 2) := by decide +kernel
theorem dX10_beliefs_49 : decode cX10_beliefs 49 = .ok (.aload_n 0, 1) := by decide +kernel
theorem dX10_beliefs_50 : decode cX10_beliefs 50 = .ok (.getfield 51, 3) := by decide +kernel
theorem dX10_beliefs_53 : decode cX10_beliefs 53 = .ok (.invokevirtual 190, 3) := by decide +kernel
theorem dX10_beliefs_56 : decode cX10_beliefs 56 = .ok (.iload 7, 2) := by decide +kernel
theorem dX10_beliefs_58 : decode cX10_beliefs 58 = .ok (.ireturn, 1) := by decide +kernel
set_option maxRecDepth 20000 in
theorem ggX10_worth_X10_findTrader : GoodIn wsX10_worth wsX10_findTrader := goodIn_r _ [6, 7, 8, 80, 81, 82, 83, 84, 85, 86, 87, 88] (by decide +kernel) (by decide +kernel)
set_option maxRecDepth 20000 in
theorem gX10_worth_X10_findTrader : GoodIn wsX10_worth (wsV RX10 87 RX10 yX10_findTrader wsX10_findTrader) := goodIn_app (goodIn_of _ (by decide +kernel)) ggX10_worth_X10_findTrader
set_option maxRecDepth 20000 in
theorem ggX10_worth_X10_isOrder : GoodIn wsX10_worth wsX10_isOrder := goodIn_r _ [12, 13, 14, 15, 16, 17, 18, 19, 80, 81, 82, 83, 84, 85, 86, 87, 88, 89, 90, 91, 92, 93, 94] (by decide +kernel) (by decide +kernel)
set_option maxRecDepth 20000 in
theorem gX10_worth_X10_isOrder : GoodIn wsX10_worth (wsV RX10 91 RX10 yX10_isOrder wsX10_isOrder) := goodIn_app (goodIn_of _ (by decide +kernel)) ggX10_worth_X10_isOrder
set_option maxRecDepth 20000 in
theorem ggX10_worth_X10_worthTo : GoodIn wsX10_worth wsX10_worthTo := goodIn_r _ [23, 13, 24, 25, 26, 27, 28, 29, 30, 5, 31, 32, 33, 34, 35, 36, 37, 38, 17, 39, 40, 41, 19, 42, 43, 44, 45, 46, 47, 48, 49, 50, 51, 52, 53, 54, 55, 56, 57, 58, 59, 60, 61, 62, 63, 64, 65, 66, 67, 68, 69, 70, 71, 72, 73, 74, 75, 76, 77, 78, 79, 80, 81, 82, 83, 84, 85, 86, 87, 88, 95, 96, 97, 98, 99, 100, 101, 102, 103, 104, 105, 106, 107, 108, 109, 89, 90, 91, 92, 93, 94] (by decide +kernel) (by decide +kernel)
set_option maxRecDepth 20000 in
theorem gX10_worth_X10_worthTo : GoodIn wsX10_worth (wsV RX10 194 RX10 yX10_worthTo wsX10_worthTo) := goodIn_app (goodIn_of _ (by decide +kernel)) ggX10_worth_X10_worthTo
theorem dX10_worth_0 : decode cX10_worth 0 = .ok (.aload_n 0, 1) := by decide +kernel
theorem dX10_worth_1 : decode cX10_worth 1 = .ok (.iload_n 1, 1) := by decide +kernel
theorem dX10_worth_2 : decode cX10_worth 2 = .ok (.invokevirtual 87, 3) := by decide +kernel
theorem dX10_worth_5 : decode cX10_worth 5 = .ok (.astore 4, 2) := by decide +kernel
theorem dX10_worth_7 : decode cX10_worth 7 = .ok (.aload 4, 2) := by decide +kernel
theorem dX10_worth_9 : decode cX10_worth 9 = .ok (.ifnull 12, 3) := by decide +kernel
theorem dX10_worth_12 : decode cX10_worth 12 = .ok (.aload_n 0, 1) := by decide +kernel
theorem dX10_worth_13 : decode cX10_worth 13 = .ok (.iload_n 2, 1) := by decide +kernel
theorem dX10_worth_14 : decode cX10_worth 14 = .ok (.iload_n 3, 1) := by decide +kernel
theorem dX10_worth_15 : decode cX10_worth 15 = .ok (.invokevirtual 91, 3) := by decide +kernel
theorem dX10_worth_18 : decode cX10_worth 18 = .ok (.ifCond .ne 7, 3) := by decide +kernel
theorem dX10_worth_21 : decode cX10_worth 21 = .ok (.ldc2_w 85, 3) := by decide +kernel
theorem dX10_worth_24 : decode cX10_worth 24 = .ok (.lreturn, 1) := by decide +kernel
theorem dX10_worth_25 : decode cX10_worth 25 = .ok (.aload_n 0, 1) := by decide +kernel
theorem dX10_worth_26 : decode cX10_worth 26 = .ok (.aload 4, 2) := by decide +kernel
theorem dX10_worth_28 : decode cX10_worth 28 = .ok (.iload_n 2, 1) := by decide +kernel
theorem dX10_worth_29 : decode cX10_worth 29 = .ok (.iload_n 3, 1) := by decide +kernel
theorem dX10_worth_30 : decode cX10_worth 30 = .ok (.invokevirtual 194, 3) := by decide +kernel
theorem dX10_worth_33 : decode cX10_worth 33 = .ok (.lreturn, 1) := by decide +kernel
set_option maxRecDepth 20000 in
theorem ggX10_best_X10_findTrader : GoodIn wsX10_best wsX10_findTrader := goodIn_r _ [7, 8, 9, 113, 114, 115, 116, 117, 118, 119, 120, 121] (by decide +kernel) (by decide +kernel)
set_option maxRecDepth 20000 in
theorem gX10_best_X10_findTrader : GoodIn wsX10_best (wsV RX10 87 RX10 yX10_findTrader wsX10_findTrader) := goodIn_app (goodIn_of _ (by decide +kernel)) ggX10_best_X10_findTrader
set_option maxRecDepth 20000 in
theorem ggX10_best_X3_isSet : GoodIn wsX10_best wsX3_isSet := goodIn_r _ [14, 15, 122, 123, 124, 125, 126, 127] (by decide +kernel) (by decide +kernel)
set_option maxRecDepth 20000 in
theorem gX10_best_X3_isSet : GoodIn wsX10_best (wsV RX10 78 RX3 yX3_isSet wsX3_isSet) := goodIn_app (goodIn_of _ (by decide +kernel)) ggX10_best_X3_isSet
set_option maxRecDepth 20000 in
theorem ggX10_best_X3_hasCome : GoodIn wsX10_best wsX3_hasCome := goodIn_r _ [19, 20, 122, 123, 124, 125, 126, 127] (by decide +kernel) (by decide +kernel)
set_option maxRecDepth 20000 in
theorem gX10_best_X3_hasCome : GoodIn wsX10_best (wsV RX10 99 RX3 yX3_hasCome wsX3_hasCome) := goodIn_app (goodIn_of _ (by decide +kernel)) ggX10_best_X3_hasCome
set_option maxRecDepth 20000 in
theorem ggX10_best_X10_worthTo : GoodIn wsX10_best wsX10_worthTo := goodIn_r _ [24, 1, 25, 26, 27, 28, 29, 30, 31, 6, 32, 33, 34, 35, 36, 37, 38, 39, 13, 40, 41, 42, 15, 43, 44, 45, 46, 47, 48, 49, 50, 51, 52, 53, 54, 55, 56, 57, 58, 59, 60, 61, 62, 63, 64, 65, 66, 67, 68, 69, 70, 71, 72, 73, 74, 75, 76, 77, 78, 79, 80, 113, 114, 115, 116, 117, 118, 119, 120, 121, 128, 129, 130, 131, 132, 133, 134, 135, 136, 137, 138, 139, 140, 141, 142, 122, 123, 124, 125, 126, 127] (by decide +kernel) (by decide +kernel)
set_option maxRecDepth 20000 in
theorem gX10_best_X10_worthTo : GoodIn wsX10_best (wsV RX10 194 RX10 yX10_worthTo wsX10_worthTo) := goodIn_app (goodIn_of _ (by decide +kernel)) ggX10_best_X10_worthTo
set_option maxRecDepth 20000 in
theorem ggX10_best_X10_whyBarred : GoodIn wsX10_best wsX10_whyBarred := goodIn_r _ [84, 1, 85, 86, 87, 13, 88, 15, 70, 55, 56, 57, 58, 59, 60, 61, 31, 6, 32, 66, 67, 68, 69, 41, 42, 71, 72, 73, 74, 75, 76, 77, 78, 79, 80, 89, 38, 39, 40, 90, 91, 92, 28, 93, 94, 95, 96, 97, 98, 51, 52, 53, 54, 62, 63, 64, 65, 37, 99, 100, 101, 102, 103, 104, 105, 106, 107, 108, 109, 110, 111, 112, 113, 114, 115, 116, 117, 118, 119, 120, 121, 122, 123, 124, 125, 126, 127, 128, 129, 130, 131, 132, 133, 134, 135, 136, 137, 138, 139, 140, 141, 142] (by decide +kernel) (by decide +kernel)
set_option maxRecDepth 20000 in
theorem gX10_best_X10_whyBarred : GoodIn wsX10_best (wsV RX10 103 RX10 yX10_whyBarred wsX10_whyBarred) := goodIn_app (goodIn_of _ (by decide +kernel)) ggX10_best_X10_whyBarred
theorem dX10_best_0 : decode cX10_best 0 = .ok (.aload_n 0, 1) := by decide +kernel
theorem dX10_best_1 : decode cX10_best 1 = .ok (.iload_n 1, 1) := by decide +kernel
theorem dX10_best_2 : decode cX10_best 2 = .ok (.invokevirtual 87, 3) := by decide +kernel
theorem dX10_best_5 : decode cX10_best 5 = .ok (.astore_n 3, 1) := by decide +kernel
theorem dX10_best_6 : decode cX10_best 6 = .ok (.aload_n 3, 1) := by decide +kernel
theorem dX10_best_7 : decode cX10_best 7 = .ok (.ifnull 24, 3) := by decide +kernel
theorem dX10_best_10 : decode cX10_best 10 = .ok (.aload_n 0, 1) := by decide +kernel
theorem dX10_best_11 : decode cX10_best 11 = .ok (.getfield 12, 3) := by decide +kernel
theorem dX10_best_14 : decode cX10_best 14 = .ok (.iload_n 2, 1) := by decide +kernel
theorem dX10_best_15 : decode cX10_best 15 = .ok (.invokevirtual 78, 3) := by decide +kernel
theorem dX10_best_18 : decode cX10_best 18 = .ok (.ifCond .eq 13, 3) := by decide +kernel
theorem dX10_best_21 : decode cX10_best 21 = .ok (.aload_n 0, 1) := by decide +kernel
theorem dX10_best_22 : decode cX10_best 22 = .ok (.getfield 12, 3) := by decide +kernel
theorem dX10_best_25 : decode cX10_best 25 = .ok (.invokevirtual 99, 3) := by decide +kernel
theorem dX10_best_28 : decode cX10_best 28 = .ok (.ifCond .eq 7, 3) := by decide +kernel
theorem dX10_best_31 : decode cX10_best 31 = .ok (.ldc2_w 85, 3) := by decide +kernel
theorem dX10_best_34 : decode cX10_best 34 = .ok (.lreturn, 1) := by decide +kernel
theorem dX10_best_35 : decode cX10_best 35 = .ok (.iconst 0, 1) := by decide +kernel
theorem dX10_best_36 : decode cX10_best 36 = .ok (.istore 4, 2) := by decide +kernel
theorem dX10_best_38 : decode cX10_best 38 = .ok (.lconst 0, 1) := by decide +kernel
theorem dX10_best_39 : decode cX10_best 39 = .ok (.lstore 5, 2) := by decide +kernel
theorem dX10_best_41 : decode cX10_best 41 = .ok (.iconst 2, 1) := by decide +kernel
theorem dX10_best_42 : decode cX10_best 42 = .ok (.istore 7, 2) := by decide +kernel
theorem dX10_best_44 : decode cX10_best 44 = .ok (.iload 7, 2) := by decide +kernel
theorem dX10_best_46 : decode cX10_best 46 = .ok (.bipush 101, 2) := by decide +kernel
theorem dX10_best_48 : decode cX10_best 48 = .ok (.if_icmp .gt 67, 3) := by decide +kernel
theorem dX10_best_51 : decode cX10_best 51 = .ok (.iload 7, 2) := by decide +kernel
theorem dX10_best_53 : decode cX10_best 53 = .ok (.iconst 2, 1) := by decide +kernel
theorem dX10_best_54 : decode cX10_best 54 = .ok (.irem, 1) := by decide +kernel
theorem dX10_best_55 : decode cX10_best 55 = .ok (.ifCond .ne 10, 3) := by decide +kernel
theorem dX10_best_58 : decode cX10_best 58 = .ok (.iload 7, 2) := by decide +kernel
theorem dX10_best_60 : decode cX10_best 60 = .ok (.iconst 2, 1) := by decide +kernel
theorem dX10_best_61 : decode cX10_best 61 = .ok (.idiv, 1) := by decide +kernel
theorem dX10_best_62 : decode cX10_best 62 = .ok (.goto 8, 3) := by decide +kernel
theorem dX10_best_65 : decode cX10_best 65 = .ok (.iload 7, 2) := by decide +kernel
theorem dX10_best_67 : decode cX10_best 67 = .ok (.iconst 2, 1) := by decide +kernel
theorem dX10_best_68 : decode cX10_best 68 = .ok (.idiv, 1) := by decide +kernel
theorem dX10_best_69 : decode cX10_best 69 = .ok (.ineg, 1) := by decide +kernel
theorem dX10_best_70 : decode cX10_best 70 = .ok (.istore 8, 2) := by decide +kernel
theorem dX10_best_72 : decode cX10_best 72 = .ok (.aload_n 0, 1) := by decide +kernel
theorem dX10_best_73 : decode cX10_best 73 = .ok (.aload_n 3, 1) := by decide +kernel
theorem dX10_best_74 : decode cX10_best 74 = .ok (.iload_n 2, 1) := by decide +kernel
theorem dX10_best_75 : decode cX10_best 75 = .ok (.iload 8, 2) := by decide +kernel
theorem dX10_best_77 : decode cX10_best 77 = .ok (.invokevirtual 194, 3) := by decide +kernel
theorem dX10_best_80 : decode cX10_best 80 = .ok (.lstore 9, 2) := by decide +kernel
theorem dX10_best_82 : decode cX10_best 82 = .ok (.lload 9, 2) := by decide +kernel
theorem dX10_best_84 : decode cX10_best 84 = .ok (.lload 5, 2) := by decide +kernel
theorem dX10_best_86 : decode cX10_best 86 = .ok (.lcmp, 1) := by decide +kernel
theorem dX10_best_87 : decode cX10_best 87 = .ok (.ifCond .le 22, 3) := by decide +kernel
theorem dX10_best_90 : decode cX10_best 90 = .ok (.aload_n 0, 1) := by decide +kernel
theorem dX10_best_91 : decode cX10_best 91 = .ok (.aload_n 3, 1) := by decide +kernel
theorem dX10_best_92 : decode cX10_best 92 = .ok (.iload_n 2, 1) := by decide +kernel
theorem dX10_best_93 : decode cX10_best 93 = .ok (.iload 8, 2) := by decide +kernel
theorem dX10_best_95 : decode cX10_best 95 = .ok (.invokevirtual 103, 3) := by decide +kernel
theorem dX10_best_98 : decode cX10_best 98 = .ok (.ifCond .ne 11, 3) := by decide +kernel
theorem dX10_best_101 : decode cX10_best 101 = .ok (.lload 9, 2) := by decide +kernel
theorem dX10_best_103 : decode cX10_best 103 = .ok (.lstore 5, 2) := by decide +kernel
theorem dX10_best_105 : decode cX10_best 105 = .ok (.iload 8, 2) := by decide +kernel
theorem dX10_best_107 : decode cX10_best 107 = .ok (.istore 4, 2) := by decide +kernel
theorem dX10_best_109 : decode cX10_best 109 = .ok (.iinc 7 1, 3) := by decide +kernel
theorem dX10_best_112 : decode cX10_best 112 = .ok (.goto (-68), 3) := by decide +kernel
theorem dX10_best_115 : decode cX10_best 115 = .ok (.iload 4, 2) := by decide +kernel
theorem dX10_best_117 : decode cX10_best 117 = .ok (.i2l, 1) := by decide +kernel
theorem dX10_best_118 : decode cX10_best 118 = .ok (.lreturn, 1) := by decide +kernel
set_option maxRecDepth 20000 in
theorem ggX10_offer_X3_isSet : GoodIn wsX10_offer wsX3_isSet := goodIn_r _ [10, 11, 46, 47, 48, 49, 50, 51] (by decide +kernel) (by decide +kernel)
set_option maxRecDepth 20000 in
theorem gX10_offer_X3_isSet : GoodIn wsX10_offer (wsV RX10 78 RX3 yX3_isSet wsX3_isSet) := goodIn_app (goodIn_of _ (by decide +kernel)) ggX10_offer_X3_isSet
set_option maxRecDepth 20000 in
theorem ggX10_offer_X0_isFull : GoodIn wsX10_offer wsX0_isFull := goodIn_r _ [16, 17, 52, 53, 54, 55, 56, 57, 58, 59] (by decide +kernel) (by decide +kernel)
set_option maxRecDepth 20000 in
theorem gX10_offer_X0_isFull : GoodIn wsX10_offer (wsV RX10 198 RX0 yX0_isFull wsX0_isFull) := goodIn_app (goodIn_of _ (by decide +kernel)) ggX10_offer_X0_isFull
set_option maxRecDepth 20000 in
theorem ggX10_offer_X4_init : GoodIn wsX10_offer wsX4_init := goodIn_r _ [20, 21, 22, 23, 24, 25, 26, 43, 44, 45] (by decide +kernel) (by decide +kernel)
set_option maxRecDepth 20000 in
theorem gX10_offer_X4_init : GoodIn wsX10_offer (wsX4_init) := ggX10_offer_X4_init
set_option maxRecDepth 20000 in
theorem ggX10_offer_X0_add : GoodIn wsX10_offer wsX0_add := goodIn_r _ [30, 31, 17, 32, 33, 13, 14, 15, 16, 52, 53, 54, 55, 56, 57, 58, 59] (by decide +kernel) (by decide +kernel)
set_option maxRecDepth 20000 in
theorem gX10_offer_X0_add : GoodIn wsX10_offer (wsV RX10 206 RX0 yX0_add wsX0_add) := goodIn_app (goodIn_of _ (by decide +kernel)) ggX10_offer_X0_add
theorem dX10_offer_0 : decode cX10_offer 0 = .ok (.aload_n 0, 1) := by decide +kernel
theorem dX10_offer_1 : decode cX10_offer 1 = .ok (.getfield 12, 3) := by decide +kernel
theorem dX10_offer_4 : decode cX10_offer 4 = .ok (.iload_n 1, 1) := by decide +kernel
theorem dX10_offer_5 : decode cX10_offer 5 = .ok (.invokevirtual 78, 3) := by decide +kernel
theorem dX10_offer_8 : decode cX10_offer 8 = .ok (.ifCond .eq 24, 3) := by decide +kernel
theorem dX10_offer_11 : decode cX10_offer 11 = .ok (.iload_n 2, 1) := by decide +kernel
theorem dX10_offer_12 : decode cX10_offer 12 = .ok (.iconst 1, 1) := by decide +kernel
theorem dX10_offer_13 : decode cX10_offer 13 = .ok (.if_icmp .lt 19, 3) := by decide +kernel
theorem dX10_offer_16 : decode cX10_offer 16 = .ok (.iload_n 2, 1) := by decide +kernel
theorem dX10_offer_17 : decode cX10_offer 17 = .ok (.bipush 99, 2) := by decide +kernel
theorem dX10_offer_19 : decode cX10_offer 19 = .ok (.if_icmp .gt 13, 3) := by decide +kernel
theorem dX10_offer_22 : decode cX10_offer 22 = .ok (.iload_n 3, 1) := by decide +kernel
theorem dX10_offer_23 : decode cX10_offer 23 = .ok (.iconst 1, 1) := by decide +kernel
theorem dX10_offer_24 : decode cX10_offer 24 = .ok (.if_icmp .lt 8, 3) := by decide +kernel
theorem dX10_offer_27 : decode cX10_offer 27 = .ok (.iload_n 3, 1) := by decide +kernel
theorem dX10_offer_28 : decode cX10_offer 28 = .ok (.iconst 3, 1) := by decide +kernel
theorem dX10_offer_29 : decode cX10_offer 29 = .ok (.if_icmp .le 6, 3) := by decide +kernel
theorem dX10_offer_32 : decode cX10_offer 32 = .ok (.bipush (-2), 2) := by decide +kernel
theorem dX10_offer_34 : decode cX10_offer 34 = .ok (.ireturn, 1) := by decide +kernel
theorem dX10_offer_35 : decode cX10_offer 35 = .ok (.aload_n 0, 1) := by decide +kernel
theorem dX10_offer_36 : decode cX10_offer 36 = .ok (.getfield 27, 3) := by decide +kernel
theorem dX10_offer_39 : decode cX10_offer 39 = .ok (.invokevirtual 198, 3) := by decide +kernel
theorem dX10_offer_42 : decode cX10_offer 42 = .ok (.ifCond .eq 8, 3) := by decide +kernel
theorem dX10_offer_45 : decode cX10_offer 45 = .ok (.bipush (-4), 2) := by decide +kernel
theorem dX10_offer_47 : decode cX10_offer 47 = .ok (.goto 20, 3) := by decide +kernel
theorem dX10_offer_50 : decode cX10_offer 50 = .ok (.aload_n 0, 1) := by decide +kernel
theorem dX10_offer_51 : decode cX10_offer 51 = .ok (.getfield 27, 3) := by decide +kernel
theorem dX10_offer_54 : decode cX10_offer 54 = .ok (.new 201, 3) := by decide +kernel
theorem dX10_offer_57 : decode cX10_offer 57 = .ok (.dup, 1) := by decide +kernel
theorem dX10_offer_58 : decode cX10_offer 58 = .ok (.iload_n 1, 1) := by decide +kernel
theorem dX10_offer_59 : decode cX10_offer 59 = .ok (.iload_n 2, 1) := by decide +kernel
theorem dX10_offer_60 : decode cX10_offer 60 = .ok (.iload_n 3, 1) := by decide +kernel
theorem dX10_offer_61 : decode cX10_offer 61 = .ok (.invokespecial 203, 3) := by decide +kernel
theorem dX10_offer_64 : decode cX10_offer 64 = .ok (.invokevirtual 206, 3) := by decide +kernel
theorem dX10_offer_67 : decode cX10_offer 67 = .ok (.ireturn, 1) := by decide +kernel
set_option maxRecDepth 20000 in
theorem ggX10_most_X0_find : GoodIn wsX10_most wsX0_find := goodIn_r _ [6, 7, 8, 33, 34, 35, 36, 37, 38, 39, 40] (by decide +kernel) (by decide +kernel)
set_option maxRecDepth 20000 in
theorem gX10_most_X0_find : GoodIn wsX10_most (wsV RX10 210 RX0 yX0_find wsX0_find) := goodIn_app (goodIn_of _ (by decide +kernel)) ggX10_most_X0_find
set_option maxRecDepth 20000 in
theorem ggX10_most_X0_limit : GoodIn wsX10_most wsX0_limit := goodIn_r _ [12, 13, 14, 15, 16, 17, 18, 19, 20, 21, 22, 23, 33, 34, 35, 36, 37, 38, 39, 40, 41, 42, 43] (by decide +kernel) (by decide +kernel)
set_option maxRecDepth 20000 in
theorem gX10_most_X0_limit : GoodIn wsX10_most (wsV RX10 214 RX0 yX0_limit wsX0_limit) := goodIn_app (goodIn_of _ (by decide +kernel)) ggX10_most_X0_limit
theorem dX10_most_0 : decode cX10_most 0 = .ok (.aload_n 0, 1) := by decide +kernel
theorem dX10_most_1 : decode cX10_most 1 = .ok (.getfield 27, 3) := by decide +kernel
theorem dX10_most_4 : decode cX10_most 4 = .ok (.iload_n 1, 1) := by decide +kernel
theorem dX10_most_5 : decode cX10_most 5 = .ok (.invokevirtual 210, 3) := by decide +kernel
theorem dX10_most_8 : decode cX10_most 8 = .ok (.astore_n 3, 1) := by decide +kernel
theorem dX10_most_9 : decode cX10_most 9 = .ok (.aload_n 3, 1) := by decide +kernel
theorem dX10_most_10 : decode cX10_most 10 = .ok (.ifnonnull 5, 3) := by decide +kernel
theorem dX10_most_13 : decode cX10_most 13 = .ok (.iconst (-1), 1) := by decide +kernel
theorem dX10_most_14 : decode cX10_most 14 = .ok (.ireturn, 1) := by decide +kernel
theorem dX10_most_15 : decode cX10_most 15 = .ok (.iload_n 2, 1) := by decide +kernel
theorem dX10_most_16 : decode cX10_most 16 = .ok (.ifCond .lt 8, 3) := by decide +kernel
theorem dX10_most_19 : decode cX10_most 19 = .ok (.iload_n 2, 1) := by decide +kernel
theorem dX10_most_20 : decode cX10_most 20 = .ok (.iconst 3, 1) := by decide +kernel
theorem dX10_most_21 : decode cX10_most 21 = .ok (.if_icmp .le 6, 3) := by decide +kernel
theorem dX10_most_24 : decode cX10_most 24 = .ok (.bipush (-2), 2) := by decide +kernel
theorem dX10_most_26 : decode cX10_most 26 = .ok (.ireturn, 1) := by decide +kernel
theorem dX10_most_27 : decode cX10_most 27 = .ok (.aload_n 0, 1) := by decide +kernel
theorem dX10_most_28 : decode cX10_most 28 = .ok (.getfield 27, 3) := by decide +kernel
theorem dX10_most_31 : decode cX10_most 31 = .ok (.aload_n 3, 1) := by decide +kernel
theorem dX10_most_32 : decode cX10_most 32 = .ok (.iload_n 2, 1) := by decide +kernel
theorem dX10_most_33 : decode cX10_most 33 = .ok (.invokevirtual 214, 3) := by decide +kernel
theorem dX10_most_36 : decode cX10_most 36 = .ok (.ireturn, 1) := by decide +kernel
set_option maxRecDepth 20000 in
theorem ggX10_sure_X3_cases : GoodIn wsX10_sure wsX3_cases := goodIn_r _ [7, 8, 86, 87, 88, 89, 90, 91] (by decide +kernel) (by decide +kernel)
set_option maxRecDepth 20000 in
theorem gX10_sure_X3_cases : GoodIn wsX10_sure (wsV RX10 218 RX3 yX3_cases wsX3_cases) := goodIn_app (goodIn_of _ (by decide +kernel)) ggX10_sure_X3_cases
set_option maxRecDepth 20000 in
theorem ggX10_sure_X0_bestGain : GoodIn wsX10_sure wsX0_bestGain := goodIn_r _ [13, 14, 15, 16, 17, 12, 18, 19, 20, 21, 22, 23, 24, 25, 26, 27, 28, 29, 30, 31, 32, 33, 34, 35, 36, 37, 38, 39, 40, 41, 42, 43, 44, 45, 46, 47, 48, 49, 50, 51, 52, 53, 54, 55, 56, 57, 58, 59, 60, 61, 62, 63, 64, 65, 66, 67, 68, 69, 70, 71, 72, 73, 74, 75, 76, 92, 93, 94, 95, 96, 97, 98, 99, 100, 101, 102] (by decide +kernel) (by decide +kernel)
set_option maxRecDepth 20000 in
theorem gX10_sure_X0_bestGain : GoodIn wsX10_sure (wsV RX10 221 RX0 yX0_bestGain wsX0_bestGain) := goodIn_app (goodIn_of _ (by decide +kernel)) ggX10_sure_X0_bestGain
theorem dX10_sure_0 : decode cX10_sure 0 = .ok (.aload_n 0, 1) := by decide +kernel
theorem dX10_sure_1 : decode cX10_sure 1 = .ok (.getfield 27, 3) := by decide +kernel
theorem dX10_sure_4 : decode cX10_sure 4 = .ok (.aload_n 0, 1) := by decide +kernel
theorem dX10_sure_5 : decode cX10_sure 5 = .ok (.getfield 12, 3) := by decide +kernel
theorem dX10_sure_8 : decode cX10_sure 8 = .ok (.invokevirtual 218, 3) := by decide +kernel
theorem dX10_sure_11 : decode cX10_sure 11 = .ok (.invokevirtual 221, 3) := by decide +kernel
theorem dX10_sure_14 : decode cX10_sure 14 = .ok (.ireturn, 1) := by decide +kernel
set_option maxRecDepth 20000 in
theorem ggX10_bundle_X0_find : GoodIn wsX10_bundle wsX0_find := goodIn_r _ [7, 8, 9, 87, 88, 89, 90, 91, 92, 93, 94] (by decide +kernel) (by decide +kernel)
set_option maxRecDepth 20000 in
theorem gX10_bundle_X0_find : GoodIn wsX10_bundle (wsV RX10 210 RX0 yX0_find wsX0_find) := goodIn_app (goodIn_of _ (by decide +kernel)) ggX10_bundle_X0_find
set_option maxRecDepth 20000 in
theorem ggX10_bundle_X3_cases : GoodIn wsX10_bundle wsX3_cases := goodIn_r _ [14, 15, 95, 96, 97, 98, 99, 100] (by decide +kernel) (by decide +kernel)
set_option maxRecDepth 20000 in
theorem gX10_bundle_X3_cases : GoodIn wsX10_bundle (wsV RX10 218 RX3 yX3_cases wsX3_cases) := goodIn_app (goodIn_of _ (by decide +kernel)) ggX10_bundle_X3_cases
set_option maxRecDepth 20000 in
theorem ggX10_bundle_X0_bestShares : GoodIn wsX10_bundle wsX0_bestShares := goodIn_r _ [19, 20, 21, 22, 23, 6, 24, 25, 26, 27, 28, 29, 30, 31, 32, 33, 34, 35, 36, 37, 38, 39, 40, 41, 42, 43, 44, 45, 8, 46, 4, 5, 7, 9, 47, 48, 49, 50, 51, 52, 53, 54, 55, 56, 57, 58, 59, 60, 61, 62, 63, 64, 65, 66, 67, 68, 69, 70, 71, 72, 73, 74, 75, 76, 77, 87, 88, 89, 90, 91, 92, 93, 94, 101, 102, 103] (by decide +kernel) (by decide +kernel)
set_option maxRecDepth 20000 in
theorem gX10_bundle_X0_bestShares : GoodIn wsX10_bundle (wsV RX10 224 RX0 yX0_bestShares wsX0_bestShares) := goodIn_app (goodIn_of _ (by decide +kernel)) ggX10_bundle_X0_bestShares
theorem dX10_bundle_0 : decode cX10_bundle 0 = .ok (.aload_n 0, 1) := by decide +kernel
theorem dX10_bundle_1 : decode cX10_bundle 1 = .ok (.getfield 27, 3) := by decide +kernel
theorem dX10_bundle_4 : decode cX10_bundle 4 = .ok (.iload_n 1, 1) := by decide +kernel
theorem dX10_bundle_5 : decode cX10_bundle 5 = .ok (.invokevirtual 210, 3) := by decide +kernel
theorem dX10_bundle_8 : decode cX10_bundle 8 = .ok (.ifnonnull 7, 3) := by decide +kernel
theorem dX10_bundle_11 : decode cX10_bundle 11 = .ok (.iconst (-1), 1) := by decide +kernel
theorem dX10_bundle_12 : decode cX10_bundle 12 = .ok (.goto 18, 3) := by decide +kernel
theorem dX10_bundle_15 : decode cX10_bundle 15 = .ok (.aload_n 0, 1) := by decide +kernel
theorem dX10_bundle_16 : decode cX10_bundle 16 = .ok (.getfield 27, 3) := by decide +kernel
theorem dX10_bundle_19 : decode cX10_bundle 19 = .ok (.iload_n 1, 1) := by decide +kernel
theorem dX10_bundle_20 : decode cX10_bundle 20 = .ok (.aload_n 0, 1) := by decide +kernel
theorem dX10_bundle_21 : decode cX10_bundle 21 = .ok (.getfield 12, 3) := by decide +kernel
theorem dX10_bundle_24 : decode cX10_bundle 24 = .ok (.invokevirtual 218, 3) := by decide +kernel
theorem dX10_bundle_27 : decode cX10_bundle 27 = .ok (.invokevirtual 224, 3) := by decide +kernel
theorem dX10_bundle_30 : decode cX10_bundle 30 = .ok (.ireturn, 1) := by decide +kernel
set_option maxRecDepth 20000 in
theorem ggX10_forecast_X10_findSheet : GoodIn wsX10_forecast wsX10_findSheet := goodIn_r _ [12, 13, 96, 97, 98, 99, 100, 101, 102, 103, 104] (by decide +kernel) (by decide +kernel)
set_option maxRecDepth 20000 in
theorem gX10_forecast_X10_findSheet : GoodIn wsX10_forecast (wsV RX10 182 RX10 yX10_findSheet wsX10_findSheet) := goodIn_app (goodIn_of _ (by decide +kernel)) ggX10_forecast_X10_findSheet
set_option maxRecDepth 20000 in
theorem ggX10_forecast_X3_isCase : GoodIn wsX10_forecast wsX3_isCase := goodIn_r _ [18, 19, 109, 110, 111, 112, 113, 114] (by decide +kernel) (by decide +kernel)
set_option maxRecDepth 20000 in
theorem gX10_forecast_X3_isCase : GoodIn wsX10_forecast (wsV RX10 118 RX3 yX3_isCase wsX3_isCase) := goodIn_app (goodIn_of _ (by decide +kernel)) ggX10_forecast_X3_isCase
set_option maxRecDepth 20000 in
theorem ggX10_forecast_X10_takeWeights : GoodIn wsX10_forecast wsX10_takeWeights := goodIn_r _ [23, 2, 7, 24, 25, 11, 26, 27, 28, 29, 17, 30, 19, 31, 32, 33, 34, 35, 36, 37, 38, 39, 40, 41, 42, 43, 44, 45, 46, 1, 47, 48, 49, 50, 51, 52, 53, 54, 96, 97, 98, 99, 100, 101, 102, 103, 104, 109, 110, 111, 112, 113, 114, 115, 116, 117, 118] (by decide +kernel) (by decide +kernel)
set_option maxRecDepth 20000 in
theorem gX10_forecast_X10_takeWeights : GoodIn wsX10_forecast (wsV RX10 186 RX10 yX10_takeWeights wsX10_takeWeights) := goodIn_app (goodIn_of _ (by decide +kernel)) ggX10_forecast_X10_takeWeights
set_option maxRecDepth 20000 in
theorem ggX10_forecast_X2_isFull : GoodIn wsX10_forecast wsX2_isFull := goodIn_r _ [59, 60, 119, 120] (by decide +kernel) (by decide +kernel)
set_option maxRecDepth 20000 in
theorem gX10_forecast_X2_isFull : GoodIn wsX10_forecast (wsV RX10 228 RX2 yX2_isFull wsX2_isFull) := goodIn_app (goodIn_of _ (by decide +kernel)) ggX10_forecast_X2_isFull
set_option maxRecDepth 20000 in
theorem ggX10_forecast_X3_cases : GoodIn wsX10_forecast wsX3_cases := goodIn_r _ [30, 19, 109, 110, 111, 112, 113, 114] (by decide +kernel) (by decide +kernel)
set_option maxRecDepth 20000 in
theorem gX10_forecast_X3_cases : GoodIn wsX10_forecast (wsV RX10 218 RX3 yX3_cases wsX3_cases) := goodIn_app (goodIn_of _ (by decide +kernel)) ggX10_forecast_X3_cases
set_option maxRecDepth 20000 in
theorem ggX10_forecast_J7_copyOf_59c91 : GoodIn wsX10_forecast wsJ7_copyOf_59c91 := goodIn_r _ [64, 65, 66, 67, 68, 69, 70, 71, 72, 73, 74, 75, 76, 77, 78, 79] (by decide +kernel) (by decide +kernel)
set_option maxRecDepth 20000 in
theorem gX10_forecast_J7_copyOf_59c91 : GoodIn wsX10_forecast (va_wsS RX10 231 yJ7_copyOf_59c91 wsJ7_copyOf_59c91) := goodIn_app (goodIn_of _ (by decide +kernel)) ggX10_forecast_J7_copyOf_59c91
set_option maxRecDepth 20000 in
theorem ggX10_forecast_X1_init : GoodIn wsX10_forecast wsX1_init := goodIn_r _ [82, 83, 84, 85, 86, 87, 88, 89, 105, 106, 107, 108] (by decide +kernel) (by decide +kernel)
set_option maxRecDepth 20000 in
theorem gX10_forecast_X1_init : GoodIn wsX10_forecast (wsX1_init) := ggX10_forecast_X1_init
set_option maxRecDepth 20000 in
theorem ggX10_forecast_X2_add : GoodIn wsX10_forecast wsX2_add := goodIn_r _ [93, 94, 60, 95, 56, 57, 58, 59, 119, 120] (by decide +kernel) (by decide +kernel)
set_option maxRecDepth 20000 in
theorem gX10_forecast_X2_add : GoodIn wsX10_forecast (wsV RX10 240 RX2 yX2_add wsX2_add) := goodIn_app (goodIn_of _ (by decide +kernel)) ggX10_forecast_X2_add
theorem dX10_forecast_0 : decode cX10_forecast 0 = .ok (.aload_n 0, 1) := by decide +kernel
theorem dX10_forecast_1 : decode cX10_forecast 1 = .ok (.iconst 0, 1) := by decide +kernel
theorem dX10_forecast_2 : decode cX10_forecast 2 = .ok (.putfield 179, 3) := by decide +kernel
theorem dX10_forecast_5 : decode cX10_forecast 5 = .ok (.aload_n 0, 1) := by decide +kernel
theorem dX10_forecast_6 : decode cX10_forecast 6 = .ok (.iload_n 1, 1) := by decide +kernel
theorem dX10_forecast_7 : decode cX10_forecast 7 = .ok (.invokevirtual 182, 3) := by decide +kernel
theorem dX10_forecast_10 : decode cX10_forecast 10 = .ok (.astore 5, 2) := by decide +kernel
theorem dX10_forecast_12 : decode cX10_forecast 12 = .ok (.aload 5, 2) := by decide +kernel
theorem dX10_forecast_14 : decode cX10_forecast 14 = .ok (.ifnull 15, 3) := by decide +kernel
theorem dX10_forecast_17 : decode cX10_forecast 17 = .ok (.aload_n 0, 1) := by decide +kernel
theorem dX10_forecast_18 : decode cX10_forecast 18 = .ok (.getfield 12, 3) := by decide +kernel
theorem dX10_forecast_21 : decode cX10_forecast 21 = .ok (.iload 4, 2) := by decide +kernel
theorem dX10_forecast_23 : decode cX10_forecast 23 = .ok (.invokevirtual 118, 3) := by decide +kernel
theorem dX10_forecast_26 : decode cX10_forecast 26 = .ok (.ifCond .ne 5, 3) := by decide +kernel
theorem dX10_forecast_29 : decode cX10_forecast 29 = .ok (.iconst (-1), 1) := by decide +kernel
theorem dX10_forecast_30 : decode cX10_forecast 30 = .ok (.ireturn, 1) := by decide +kernel
theorem dX10_forecast_31 : decode cX10_forecast 31 = .ok (.aload_n 0, 1) := by decide +kernel
theorem dX10_forecast_32 : decode cX10_forecast 32 = .ok (.aload 5, 2) := by decide +kernel
theorem dX10_forecast_34 : decode cX10_forecast 34 = .ok (.iload_n 2, 1) := by decide +kernel
theorem dX10_forecast_35 : decode cX10_forecast 35 = .ok (.iload_n 3, 1) := by decide +kernel
theorem dX10_forecast_36 : decode cX10_forecast 36 = .ok (.invokevirtual 186, 3) := by decide +kernel
theorem dX10_forecast_39 : decode cX10_forecast 39 = .ok (.istore 6, 2) := by decide +kernel
theorem dX10_forecast_41 : decode cX10_forecast 41 = .ok (.iload 6, 2) := by decide +kernel
theorem dX10_forecast_43 : decode cX10_forecast 43 = .ok (.ifCond .gt 6, 3) := by decide +kernel
theorem dX10_forecast_46 : decode cX10_forecast 46 = .ok (.iload 6, 2) := by decide +kernel
theorem dX10_forecast_48 : decode cX10_forecast 48 = .ok (.ireturn, 1) := by decide +kernel
theorem dX10_forecast_49 : decode cX10_forecast 49 = .ok (.aload_n 0, 1) := by decide +kernel
theorem dX10_forecast_50 : decode cX10_forecast 50 = .ok (.getfield 34, 3) := by decide +kernel
theorem dX10_forecast_53 : decode cX10_forecast 53 = .ok (.invokevirtual 228, 3) := by decide +kernel
theorem dX10_forecast_56 : decode cX10_forecast 56 = .ok (.ifCond .eq 6, 3) := by decide +kernel
theorem dX10_forecast_59 : decode cX10_forecast 59 = .ok (.bipush (-4), 2) := by decide +kernel
theorem dX10_forecast_61 : decode cX10_forecast 61 = .ok (.ireturn, 1) := by decide +kernel
theorem dX10_forecast_62 : decode cX10_forecast 62 = .ok (.aload_n 0, 1) := by decide +kernel
theorem dX10_forecast_63 : decode cX10_forecast 63 = .ok (.getfield 34, 3) := by decide +kernel
theorem dX10_forecast_66 : decode cX10_forecast 66 = .ok (.new 229, 3) := by decide +kernel
theorem dX10_forecast_69 : decode cX10_forecast 69 = .ok (.dup, 1) := by decide +kernel
theorem dX10_forecast_70 : decode cX10_forecast 70 = .ok (.aload_n 0, 1) := by decide +kernel
theorem dX10_forecast_71 : decode cX10_forecast 71 = .ok (.getfield 51, 3) := by decide +kernel
theorem dX10_forecast_74 : decode cX10_forecast 74 = .ok (.aload_n 0, 1) := by decide +kernel
theorem dX10_forecast_75 : decode cX10_forecast 75 = .ok (.getfield 12, 3) := by decide +kernel
theorem dX10_forecast_78 : decode cX10_forecast 78 = .ok (.invokevirtual 218, 3) := by decide +kernel
theorem dX10_forecast_81 : decode cX10_forecast 81 = .ok (.invokestatic 231, 3) := by decide +kernel
theorem dX10_forecast_84 : decode cX10_forecast 84 = .ok (.iload 4, 2) := by decide +kernel
theorem dX10_forecast_86 : decode cX10_forecast 86 = .ok (.invokespecial 237, 3) := by decide +kernel
theorem dX10_forecast_89 : decode cX10_forecast 89 = .ok (.invokevirtual 240, 3) := by decide +kernel
theorem dX10_forecast_92 : decode cX10_forecast 92 = .ok (.ireturn, 1) := by decide +kernel
set_option maxRecDepth 20000 in
theorem ggX10_score_X2_find : GoodIn wsX10_score wsX2_find := goodIn_r _ [7, 8, 9, 52, 53] (by decide +kernel) (by decide +kernel)
set_option maxRecDepth 20000 in
theorem gX10_score_X2_find : GoodIn wsX10_score (wsV RX10 243 RX2 yX2_find wsX2_find) := goodIn_app (goodIn_of _ (by decide +kernel)) ggX10_score_X2_find
set_option maxRecDepth 20000 in
theorem ggX10_score_X1_came : GoodIn wsX10_score wsX1_came := goodIn_r _ [14, 15, 54, 55, 56, 57] (by decide +kernel) (by decide +kernel)
set_option maxRecDepth 20000 in
theorem gX10_score_X1_came : GoodIn wsX10_score (wsV RX10 246 RX1 yX1_came wsX1_came) := goodIn_app (goodIn_of _ (by decide +kernel)) ggX10_score_X1_came
set_option maxRecDepth 20000 in
theorem ggX10_score_X1_scoreUpper : GoodIn wsX10_score wsX1_scoreUpper := goodIn_r _ [19, 20, 21, 22, 23, 24, 25, 13, 26, 27, 54, 55, 56, 57] (by decide +kernel) (by decide +kernel)
set_option maxRecDepth 20000 in
theorem gX10_score_X1_scoreUpper : GoodIn wsX10_score (wsV RX10 247 RX1 yX1_scoreUpper wsX1_scoreUpper) := goodIn_app (goodIn_of _ (by decide +kernel)) ggX10_score_X1_scoreUpper
set_option maxRecDepth 20000 in
theorem ggX10_score_X1_scoreLower : GoodIn wsX10_score wsX1_scoreLower := goodIn_r _ [31, 21, 54, 55, 56, 57] (by decide +kernel) (by decide +kernel)
set_option maxRecDepth 20000 in
theorem gX10_score_X1_scoreLower : GoodIn wsX10_score (wsV RX10 250 RX1 yX1_scoreLower wsX1_scoreLower) := goodIn_app (goodIn_of _ (by decide +kernel)) ggX10_score_X1_scoreLower
set_option maxRecDepth 20000 in
theorem ggX10_score_X10_leastTerms : GoodIn wsX10_score wsX10_leastTerms := goodIn_r _ [35, 36, 37, 38, 39, 2, 40, 41, 34, 42] (by decide +kernel) (by decide +kernel)
set_option maxRecDepth 20000 in
theorem gX10_score_X10_leastTerms : GoodIn wsX10_score (va_wsS RX10 253 yX10_leastTerms wsX10_leastTerms) := goodIn_app (goodIn_of _ (by decide +kernel)) ggX10_score_X10_leastTerms
