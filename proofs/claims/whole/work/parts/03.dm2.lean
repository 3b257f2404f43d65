theorem dX11_bundle_10 : decode cX11_bundle 10 = .ok (.aload_n 0, 1) := by decide +kernel
theorem dX11_bundle_11 : decode cX11_bundle 11 = .ok (.invokevirtual 185, 3) := by decide +kernel
theorem dX11_bundle_14 : decode cX11_bundle 14 = .ok (.aload_n 0, 1) := by decide +kernel
theorem dX11_bundle_15 : decode cX11_bundle 15 = .ok (.getfield 60, 3) := by decide +kernel
theorem dX11_bundle_18 : decode cX11_bundle 18 = .ok (.iload_n 1, 1) := by decide +kernel
theorem dX11_bundle_19 : decode cX11_bundle 19 = .ok (.iaload, 1) := by decide +kernel
theorem dX11_bundle_20 : decode cX11_bundle 20 = .ok (.ireturn, 1) := by decide +kernel
set_option maxRecDepth 20000 in
theorem ggX11_forecast_X11_within : GoodIn wsX11_forecast wsX11_within := goodIn_r _ [11] (by decide +kernel) (by decide +kernel)
set_option maxRecDepth 20000 in
theorem gX11_forecast_X11_within : GoodIn wsX11_forecast (va_wsS RX11 80 yX11_within wsX11_within) := goodIn_app (goodIn_of _ (by decide +kernel)) ggX11_forecast_X11_within
set_option maxRecDepth 20000 in
theorem ggX11_forecast_X11_isCase : GoodIn wsX11_forecast wsX11_isCase := goodIn_r _ [15, 4, 28, 29, 30, 31, 32, 33, 34, 35, 36, 37, 38, 39, 40, 41, 42, 43, 44, 45, 46, 47, 48, 49, 50, 51, 52, 53, 54] (by decide +kernel) (by decide +kernel)
set_option maxRecDepth 20000 in
theorem gX11_forecast_X11_isCase : GoodIn wsX11_forecast (wsV RX11 150 RX11 yX11_isCase wsX11_isCase) := goodIn_app (goodIn_of _ (by decide +kernel)) ggX11_forecast_X11_isCase
set_option maxRecDepth 20000 in
theorem ggX11_forecast_X11_against : GoodIn wsX11_forecast wsX11_against := goodIn_r _ [19, 20, 21, 22, 4, 6, 23, 8, 9, 10, 11, 24, 25, 26, 27, 1, 28, 29, 30, 31, 32, 33, 34, 35, 36, 37, 38, 39, 40, 41, 42, 43, 44, 45, 46, 47, 48, 49, 50, 51, 52, 53, 54] (by decide +kernel) (by decide +kernel)
set_option maxRecDepth 20000 in
theorem gX11_forecast_X11_against : GoodIn wsX11_forecast (wsV RX11 167 RX11 yX11_against wsX11_against) := goodIn_app (goodIn_of _ (by decide +kernel)) ggX11_forecast_X11_against
theorem dX11_forecast_0 : decode cX11_forecast 0 = .ok (.aload_n 0, 1) := by decide +kernel
theorem dX11_forecast_1 : decode cX11_forecast 1 = .ok (.iconst 0, 1) := by decide +kernel
theorem dX11_forecast_2 : decode cX11_forecast 2 = .ok (.putfield 69, 3) := by decide +kernel
theorem dX11_forecast_5 : decode cX11_forecast 5 = .ok (.iload_n 1, 1) := by decide +kernel
theorem dX11_forecast_6 : decode cX11_forecast 6 = .ok (.i2l, 1) := by decide +kernel
theorem dX11_forecast_7 : decode cX11_forecast 7 = .ok (.lconst 0, 1) := by decide +kernel
theorem dX11_forecast_8 : decode cX11_forecast 8 = .ok (.ldc2_w 165, 3) := by decide +kernel
theorem dX11_forecast_11 : decode cX11_forecast 11 = .ok (.invokestatic 80, 3) := by decide +kernel
theorem dX11_forecast_14 : decode cX11_forecast 14 = .ok (.ifCond .eq 12, 3) := by decide +kernel
theorem dX11_forecast_17 : decode cX11_forecast 17 = .ok (.aload_n 0, 1) := by decide +kernel
theorem dX11_forecast_18 : decode cX11_forecast 18 = .ok (.iload 4, 2) := by decide +kernel
theorem dX11_forecast_20 : decode cX11_forecast 20 = .ok (.invokevirtual 150, 3) := by decide +kernel
theorem dX11_forecast_23 : decode cX11_forecast 23 = .ok (.ifCond .ne 5, 3) := by decide +kernel
theorem dX11_forecast_26 : decode cX11_forecast 26 = .ok (.iconst (-1), 1) := by decide +kernel
theorem dX11_forecast_27 : decode cX11_forecast 27 = .ok (.ireturn, 1) := by decide +kernel
theorem dX11_forecast_28 : decode cX11_forecast 28 = .ok (.aload_n 0, 1) := by decide +kernel
theorem dX11_forecast_29 : decode cX11_forecast 29 = .ok (.iload_n 1, 1) := by decide +kernel
theorem dX11_forecast_30 : decode cX11_forecast 30 = .ok (.iload_n 2, 1) := by decide +kernel
theorem dX11_forecast_31 : decode cX11_forecast 31 = .ok (.iload_n 3, 1) := by decide +kernel
theorem dX11_forecast_32 : decode cX11_forecast 32 = .ok (.invokevirtual 167, 3) := by decide +kernel
theorem dX11_forecast_35 : decode cX11_forecast 35 = .ok (.istore 5, 2) := by decide +kernel
theorem dX11_forecast_37 : decode cX11_forecast 37 = .ok (.iload 5, 2) := by decide +kernel
theorem dX11_forecast_39 : decode cX11_forecast 39 = .ok (.ifCond .eq 6, 3) := by decide +kernel
theorem dX11_forecast_42 : decode cX11_forecast 42 = .ok (.iload 5, 2) := by decide +kernel
theorem dX11_forecast_44 : decode cX11_forecast 44 = .ok (.ireturn, 1) := by decide +kernel
theorem dX11_forecast_45 : decode cX11_forecast 45 = .ok (.aload_n 0, 1) := by decide +kernel
theorem dX11_forecast_46 : decode cX11_forecast 46 = .ok (.getfield 99, 3) := by decide +kernel
theorem dX11_forecast_49 : decode cX11_forecast 49 = .ok (.bipush 40, 2) := by decide +kernel
theorem dX11_forecast_51 : decode cX11_forecast 51 = .ok (.if_icmp .ne 6, 3) := by decide +kernel
theorem dX11_forecast_54 : decode cX11_forecast 54 = .ok (.bipush (-4), 2) := by decide +kernel
theorem dX11_forecast_56 : decode cX11_forecast 56 = .ok (.ireturn, 1) := by decide +kernel
theorem dX11_forecast_57 : decode cX11_forecast 57 = .ok (.iconst 0, 1) := by decide +kernel
theorem dX11_forecast_58 : decode cX11_forecast 58 = .ok (.istore 6, 2) := by decide +kernel
theorem dX11_forecast_60 : decode cX11_forecast 60 = .ok (.iload 6, 2) := by decide +kernel
theorem dX11_forecast_62 : decode cX11_forecast 62 = .ok (.aload_n 0, 1) := by decide +kernel
theorem dX11_forecast_63 : decode cX11_forecast 63 = .ok (.getfield 7, 3) := by decide +kernel
theorem dX11_forecast_66 : decode cX11_forecast 66 = .ok (.if_icmp .ge 38, 3) := by decide +kernel
theorem dX11_forecast_69 : decode cX11_forecast 69 = .ok (.aload_n 0, 1) := by decide +kernel
theorem dX11_forecast_70 : decode cX11_forecast 70 = .ok (.getfield 63, 3) := by decide +kernel
theorem dX11_forecast_73 : decode cX11_forecast 73 = .ok (.bipush 8, 2) := by decide +kernel
theorem dX11_forecast_75 : decode cX11_forecast 75 = .ok (.aload_n 0, 1) := by decide +kernel
theorem dX11_forecast_76 : decode cX11_forecast 76 = .ok (.getfield 99, 3) := by decide +kernel
theorem dX11_forecast_79 : decode cX11_forecast 79 = .ok (.imul, 1) := by decide +kernel
theorem dX11_forecast_80 : decode cX11_forecast 80 = .ok (.iload 6, 2) := by decide +kernel
theorem dX11_forecast_82 : decode cX11_forecast 82 = .ok (.iadd, 1) := by decide +kernel
theorem dX11_forecast_83 : decode cX11_forecast 83 = .ok (.aload_n 0, 1) := by decide +kernel
theorem dX11_forecast_84 : decode cX11_forecast 84 = .ok (.getfield 45, 3) := by decide +kernel
theorem dX11_forecast_87 : decode cX11_forecast 87 = .ok (.bipush 24, 2) := by decide +kernel
theorem dX11_forecast_89 : decode cX11_forecast 89 = .ok (.iload_n 1, 1) := by decide +kernel
theorem dX11_forecast_90 : decode cX11_forecast 90 = .ok (.imul, 1) := by decide +kernel
theorem dX11_forecast_91 : decode cX11_forecast 91 = .ok (.iload_n 3, 1) := by decide +kernel
theorem dX11_forecast_92 : decode cX11_forecast 92 = .ok (.iadd, 1) := by decide +kernel
theorem dX11_forecast_93 : decode cX11_forecast 93 = .ok (.iload 6, 2) := by decide +kernel
theorem dX11_forecast_95 : decode cX11_forecast 95 = .ok (.iadd, 1) := by decide +kernel
theorem dX11_forecast_96 : decode cX11_forecast 96 = .ok (.iaload, 1) := by decide +kernel
theorem dX11_forecast_97 : decode cX11_forecast 97 = .ok (.iastore, 1) := by decide +kernel
theorem dX11_forecast_98 : decode cX11_forecast 98 = .ok (.iinc 6 1, 3) := by decide +kernel
theorem dX11_forecast_101 : decode cX11_forecast 101 = .ok (.goto (-41), 3) := by decide +kernel
theorem dX11_forecast_104 : decode cX11_forecast 104 = .ok (.aload_n 0, 1) := by decide +kernel
theorem dX11_forecast_105 : decode cX11_forecast 105 = .ok (.getfield 66, 3) := by decide +kernel
theorem dX11_forecast_108 : decode cX11_forecast 108 = .ok (.aload_n 0, 1) := by decide +kernel
theorem dX11_forecast_109 : decode cX11_forecast 109 = .ok (.getfield 99, 3) := by decide +kernel
theorem dX11_forecast_112 : decode cX11_forecast 112 = .ok (.iload 4, 2) := by decide +kernel
theorem dX11_forecast_114 : decode cX11_forecast 114 = .ok (.iastore, 1) := by decide +kernel
theorem dX11_forecast_115 : decode cX11_forecast 115 = .ok (.aload_n 0, 1) := by decide +kernel
theorem dX11_forecast_116 : decode cX11_forecast 116 = .ok (.dup, 1) := by decide +kernel
theorem dX11_forecast_117 : decode cX11_forecast 117 = .ok (.getfield 99, 3) := by decide +kernel
theorem dX11_forecast_120 : decode cX11_forecast 120 = .ok (.iconst 1, 1) := by decide +kernel
theorem dX11_forecast_121 : decode cX11_forecast 121 = .ok (.iadd, 1) := by decide +kernel
theorem dX11_forecast_122 : decode cX11_forecast 122 = .ok (.putfield 99, 3) := by decide +kernel
theorem dX11_forecast_125 : decode cX11_forecast 125 = .ok (.aload_n 0, 1) := by decide +kernel
theorem dX11_forecast_126 : decode cX11_forecast 126 = .ok (.getfield 99, 3) := by decide +kernel
theorem dX11_forecast_129 : decode cX11_forecast 129 = .ok (.iconst 1, 1) := by decide +kernel
theorem dX11_forecast_130 : decode cX11_forecast 130 = .ok (.isub, 1) := by decide +kernel
theorem dX11_forecast_131 : decode cX11_forecast 131 = .ok (.ireturn, 1) := by decide +kernel
theorem dX11_sumOf_0 : decode cX11_sumOf 0 = .ok (.lconst 0, 1) := by decide +kernel
theorem dX11_sumOf_1 : decode cX11_sumOf 1 = .ok (.lstore_n 2, 1) := by decide +kernel
theorem dX11_sumOf_2 : decode cX11_sumOf 2 = .ok (.iconst 0, 1) := by decide +kernel
theorem dX11_sumOf_3 : decode cX11_sumOf 3 = .ok (.istore 4, 2) := by decide +kernel
theorem dX11_sumOf_5 : decode cX11_sumOf 5 = .ok (.iload 4, 2) := by decide +kernel
theorem dX11_sumOf_7 : decode cX11_sumOf 7 = .ok (.aload_n 0, 1) := by decide +kernel
theorem dX11_sumOf_8 : decode cX11_sumOf 8 = .ok (.getfield 7, 3) := by decide +kernel
theorem dX11_sumOf_11 : decode cX11_sumOf 11 = .ok (.if_icmp .ge 25, 3) := by decide +kernel
theorem dX11_sumOf_14 : decode cX11_sumOf 14 = .ok (.lload_n 2, 1) := by decide +kernel
theorem dX11_sumOf_15 : decode cX11_sumOf 15 = .ok (.aload_n 0, 1) := by decide +kernel
theorem dX11_sumOf_16 : decode cX11_sumOf 16 = .ok (.getfield 63, 3) := by decide +kernel
theorem dX11_sumOf_19 : decode cX11_sumOf 19 = .ok (.bipush 8, 2) := by decide +kernel
theorem dX11_sumOf_21 : decode cX11_sumOf 21 = .ok (.iload_n 1, 1) := by decide +kernel
theorem dX11_sumOf_22 : decode cX11_sumOf 22 = .ok (.imul, 1) := by decide +kernel
theorem dX11_sumOf_23 : decode cX11_sumOf 23 = .ok (.iload 4, 2) := by decide +kernel
theorem dX11_sumOf_25 : decode cX11_sumOf 25 = .ok (.iadd, 1) := by decide +kernel
theorem dX11_sumOf_26 : decode cX11_sumOf 26 = .ok (.iaload, 1) := by decide +kernel
theorem dX11_sumOf_27 : decode cX11_sumOf 27 = .ok (.i2l, 1) := by decide +kernel
theorem dX11_sumOf_28 : decode cX11_sumOf 28 = .ok (.ladd, 1) := by decide +kernel
theorem dX11_sumOf_29 : decode cX11_sumOf 29 = .ok (.lstore_n 2, 1) := by decide +kernel
theorem dX11_sumOf_30 : decode cX11_sumOf 30 = .ok (.iinc 4 1, 3) := by decide +kernel
theorem dX11_sumOf_33 : decode cX11_sumOf 33 = .ok (.goto (-28), 3) := by decide +kernel
theorem dX11_sumOf_36 : decode cX11_sumOf 36 = .ok (.lload_n 2, 1) := by decide +kernel
theorem dX11_sumOf_37 : decode cX11_sumOf 37 = .ok (.lreturn, 1) := by decide +kernel
theorem dX11_squaresOf_0 : decode cX11_squaresOf 0 = .ok (.lconst 0, 1) := by decide +kernel
theorem dX11_squaresOf_1 : decode cX11_squaresOf 1 = .ok (.lstore_n 2, 1) := by decide +kernel
theorem dX11_squaresOf_2 : decode cX11_squaresOf 2 = .ok (.iconst 0, 1) := by decide +kernel
theorem dX11_squaresOf_3 : decode cX11_squaresOf 3 = .ok (.istore 4, 2) := by decide +kernel
theorem dX11_squaresOf_5 : decode cX11_squaresOf 5 = .ok (.iload 4, 2) := by decide +kernel
theorem dX11_squaresOf_7 : decode cX11_squaresOf 7 = .ok (.aload_n 0, 1) := by decide +kernel
theorem dX11_squaresOf_8 : decode cX11_squaresOf 8 = .ok (.getfield 7, 3) := by decide +kernel
theorem dX11_squaresOf_11 : decode cX11_squaresOf 11 = .ok (.if_icmp .ge 39, 3) := by decide +kernel
theorem dX11_squaresOf_14 : decode cX11_squaresOf 14 = .ok (.lload_n 2, 1) := by decide +kernel
theorem dX11_squaresOf_15 : decode cX11_squaresOf 15 = .ok (.aload_n 0, 1) := by decide +kernel
theorem dX11_squaresOf_16 : decode cX11_squaresOf 16 = .ok (.getfield 63, 3) := by decide +kernel
theorem dX11_squaresOf_19 : decode cX11_squaresOf 19 = .ok (.bipush 8, 2) := by decide +kernel
theorem dX11_squaresOf_21 : decode cX11_squaresOf 21 = .ok (.iload_n 1, 1) := by decide +kernel
theorem dX11_squaresOf_22 : decode cX11_squaresOf 22 = .ok (.imul, 1) := by decide +kernel
theorem dX11_squaresOf_23 : decode cX11_squaresOf 23 = .ok (.iload 4, 2) := by decide +kernel
theorem dX11_squaresOf_25 : decode cX11_squaresOf 25 = .ok (.iadd, 1) := by decide +kernel
theorem dX11_squaresOf_26 : decode cX11_squaresOf 26 = .ok (.iaload, 1) := by decide +kernel
theorem dX11_squaresOf_27 : decode cX11_squaresOf 27 = .ok (.i2l, 1) := by decide +kernel
theorem dX11_squaresOf_28 : decode cX11_squaresOf 28 = .ok (.aload_n 0, 1) := by decide +kernel
theorem dX11_squaresOf_29 : decode cX11_squaresOf 29 = .ok (.getfield 63, 3) := by decide +kernel
theorem dX11_squaresOf_32 : decode cX11_squaresOf 32 = .ok (.bipush 8, 2) := by decide +kernel
theorem dX11_squaresOf_34 : decode cX11_squaresOf 34 = .ok (.iload_n 1, 1) := by decide +kernel
theorem dX11_squaresOf_35 : decode cX11_squaresOf 35 = .ok (.imul, 1) := by decide +kernel
theorem dX11_squaresOf_36 : decode cX11_squaresOf 36 = .ok (.iload 4, 2) := by decide +kernel
theorem dX11_squaresOf_38 : decode cX11_squaresOf 38 = .ok (.iadd, 1) := by decide +kernel
theorem dX11_squaresOf_39 : decode cX11_squaresOf 39 = .ok (.iaload, 1) := by decide +kernel
theorem dX11_squaresOf_40 : decode cX11_squaresOf 40 = .ok (.i2l, 1) := by decide +kernel
theorem dX11_squaresOf_41 : decode cX11_squaresOf 41 = .ok (.lmul, 1) := by decide +kernel
theorem dX11_squaresOf_42 : decode cX11_squaresOf 42 = .ok (.ladd, 1) := by decide +kernel
theorem dX11_squaresOf_43 : decode cX11_squaresOf 43 = .ok (.lstore_n 2, 1) := by decide +kernel
theorem dX11_squaresOf_44 : decode cX11_squaresOf 44 = .ok (.iinc 4 1, 3) := by decide +kernel
theorem dX11_squaresOf_47 : decode cX11_squaresOf 47 = .ok (.goto (-42), 3) := by decide +kernel
theorem dX11_squaresOf_50 : decode cX11_squaresOf 50 = .ok (.lload_n 2, 1) := by decide +kernel
theorem dX11_squaresOf_51 : decode cX11_squaresOf 51 = .ok (.lreturn, 1) := by decide +kernel
theorem dX11_part_0 : decode cX11_part 0 = .ok (.lload_n 0, 1) := by decide +kernel
theorem dX11_part_1 : decode cX11_part 1 = .ok (.lconst 0, 1) := by decide +kernel
theorem dX11_part_2 : decode cX11_part 2 = .ok (.lcmp, 1) := by decide +kernel
theorem dX11_part_3 : decode cX11_part 3 = .ok (.ifCond .ge 8, 3) := by decide +kernel
theorem dX11_part_6 : decode cX11_part 6 = .ok (.lload_n 0, 1) := by decide +kernel
theorem dX11_part_7 : decode cX11_part 7 = .ok (.lneg, 1) := by decide +kernel
theorem dX11_part_8 : decode cX11_part 8 = .ok (.goto 4, 3) := by decide +kernel
theorem dX11_part_11 : decode cX11_part 11 = .ok (.lload_n 0, 1) := by decide +kernel
theorem dX11_part_12 : decode cX11_part 12 = .ok (.lstore 5, 2) := by decide +kernel
theorem dX11_part_14 : decode cX11_part 14 = .ok (.lload_n 2, 1) := by decide +kernel
theorem dX11_part_15 : decode cX11_part 15 = .ok (.lstore 7, 2) := by decide +kernel
theorem dX11_part_17 : decode cX11_part 17 = .ok (.lload 7, 2) := by decide +kernel
theorem dX11_part_19 : decode cX11_part 19 = .ok (.lconst 0, 1) := by decide +kernel
theorem dX11_part_20 : decode cX11_part 20 = .ok (.lcmp, 1) := by decide +kernel
theorem dX11_part_21 : decode cX11_part 21 = .ok (.ifCond .eq 21, 3) := by decide +kernel
theorem dX11_part_24 : decode cX11_part 24 = .ok (.lload 5, 2) := by decide +kernel
theorem dX11_part_26 : decode cX11_part 26 = .ok (.lload 7, 2) := by decide +kernel
theorem dX11_part_28 : decode cX11_part 28 = .ok (.lrem, 1) := by decide +kernel
theorem dX11_part_29 : decode cX11_part 29 = .ok (.lstore 9, 2) := by decide +kernel
theorem dX11_part_31 : decode cX11_part 31 = .ok (.lload 7, 2) := by decide +kernel
theorem dX11_part_33 : decode cX11_part 33 = .ok (.lstore 5, 2) := by decide +kernel
theorem dX11_part_35 : decode cX11_part 35 = .ok (.lload 9, 2) := by decide +kernel
theorem dX11_part_37 : decode cX11_part 37 = .ok (.lstore 7, 2) := by decide +kernel
theorem dX11_part_39 : decode cX11_part 39 = .ok (.goto (-22), 3) := by decide +kernel
theorem dX11_part_42 : decode cX11_part 42 = .ok (.iload 4, 2) := by decide +kernel
theorem dX11_part_44 : decode cX11_part 44 = .ok (.ifCond .ne 10, 3) := by decide +kernel
theorem dX11_part_47 : decode cX11_part 47 = .ok (.lload_n 0, 1) := by decide +kernel
theorem dX11_part_48 : decode cX11_part 48 = .ok (.lload 5, 2) := by decide +kernel
theorem dX11_part_50 : decode cX11_part 50 = .ok (.ldiv, 1) := by decide +kernel
theorem dX11_part_51 : decode cX11_part 51 = .ok (.goto 7, 3) := by decide +kernel
theorem dX11_part_54 : decode cX11_part 54 = .ok (.lload_n 2, 1) := by decide +kernel
theorem dX11_part_55 : decode cX11_part 55 = .ok (.lload 5, 2) := by decide +kernel
theorem dX11_part_57 : decode cX11_part 57 = .ok (.ldiv, 1) := by decide +kernel
theorem dX11_part_58 : decode cX11_part 58 = .ok (.lreturn, 1) := by decide +kernel
set_option maxRecDepth 20000 in
theorem ggX11_score_X11_within : GoodIn wsX11_score wsX11_within := goodIn_r _ [9] (by decide +kernel) (by decide +kernel)
set_option maxRecDepth 20000 in
theorem gX11_score_X11_within : GoodIn wsX11_score (va_wsS RX11 80 yX11_within wsX11_within) := goodIn_app (goodIn_of _ (by decide +kernel)) ggX11_score_X11_within
set_option maxRecDepth 20000 in
theorem ggX11_score_X11_sumOf : GoodIn wsX11_score wsX11_sumOf := goodIn_r _ [13, 14, 4, 22, 23, 24, 25, 26, 27, 28, 29, 30, 31, 32, 33, 34, 35, 36, 37, 38, 39, 40, 41, 42, 43, 44, 45, 46, 47, 48] (by decide +kernel) (by decide +kernel)
set_option maxRecDepth 20000 in
theorem gX11_score_X11_sumOf : GoodIn wsX11_score (wsV RX11 188 RX11 yX11_sumOf wsX11_sumOf) := goodIn_app (goodIn_of _ (by decide +kernel)) ggX11_score_X11_sumOf
set_option maxRecDepth 20000 in
theorem ggX11_score_X11_squaresOf : GoodIn wsX11_score wsX11_squaresOf := goodIn_r _ [18, 14, 4, 22, 23, 24, 25, 26, 27, 28, 29, 30, 31, 32, 33, 34, 35, 36, 37, 38, 39, 40, 41, 42, 43, 44, 45, 46, 47, 48] (by decide +kernel) (by decide +kernel)
set_option maxRecDepth 20000 in
theorem gX11_score_X11_squaresOf : GoodIn wsX11_score (wsV RX11 191 RX11 yX11_squaresOf wsX11_squaresOf) := goodIn_app (goodIn_of _ (by decide +kernel)) ggX11_score_X11_squaresOf
set_option maxRecDepth 20000 in
theorem ggX11_score_X11_part : GoodIn wsX11_score wsX11_part := goodIn_r _ [21] (by decide +kernel) (by decide +kernel)
set_option maxRecDepth 20000 in
theorem gX11_score_X11_part : GoodIn wsX11_score (va_wsS RX11 194 yX11_part wsX11_part) := goodIn_app (goodIn_of _ (by decide +kernel)) ggX11_score_X11_part
theorem dX11_score_0 : decode cX11_score 0 = .ok (.iload_n 1, 1) := by decide +kernel
theorem dX11_score_1 : decode cX11_score 1 = .ok (.ifCond .lt 21, 3) := by decide +kernel
theorem dX11_score_4 : decode cX11_score 4 = .ok (.iload_n 1, 1) := by decide +kernel
theorem dX11_score_5 : decode cX11_score 5 = .ok (.aload_n 0, 1) := by decide +kernel
theorem dX11_score_6 : decode cX11_score 6 = .ok (.getfield 99, 3) := by decide +kernel
theorem dX11_score_9 : decode cX11_score 9 = .ok (.if_icmp .ge 13, 3) := by decide +kernel
theorem dX11_score_12 : decode cX11_score 12 = .ok (.iload_n 2, 1) := by decide +kernel
theorem dX11_score_13 : decode cX11_score 13 = .ok (.i2l, 1) := by decide +kernel
theorem dX11_score_14 : decode cX11_score 14 = .ok (.lconst 0, 1) := by decide +kernel
theorem dX11_score_15 : decode cX11_score 15 = .ok (.lconst 1, 1) := by decide +kernel
theorem dX11_score_16 : decode cX11_score 16 = .ok (.invokestatic 80, 3) := by decide +kernel
theorem dX11_score_19 : decode cX11_score 19 = .ok (.ifCond .ne 7, 3) := by decide +kernel
theorem dX11_score_22 : decode cX11_score 22 = .ok (.ldc2_w 72, 3) := by decide +kernel
theorem dX11_score_25 : decode cX11_score 25 = .ok (.lreturn, 1) := by decide +kernel
theorem dX11_score_26 : decode cX11_score 26 = .ok (.aload_n 0, 1) := by decide +kernel
theorem dX11_score_27 : decode cX11_score 27 = .ok (.iload_n 1, 1) := by decide +kernel
theorem dX11_score_28 : decode cX11_score 28 = .ok (.invokevirtual 188, 3) := by decide +kernel
theorem dX11_score_31 : decode cX11_score 31 = .ok (.lstore_n 3, 1) := by decide +kernel
theorem dX11_score_32 : decode cX11_score 32 = .ok (.ldc2_w 76, 3) := by decide +kernel
theorem dX11_score_35 : decode cX11_score 35 = .ok (.lload_n 3, 1) := by decide +kernel
theorem dX11_score_36 : decode cX11_score 36 = .ok (.lmul, 1) := by decide +kernel
theorem dX11_score_37 : decode cX11_score 37 = .ok (.aload_n 0, 1) := by decide +kernel
theorem dX11_score_38 : decode cX11_score 38 = .ok (.getfield 63, 3) := by decide +kernel
theorem dX11_score_41 : decode cX11_score 41 = .ok (.bipush 8, 2) := by decide +kernel
theorem dX11_score_43 : decode cX11_score 43 = .ok (.iload_n 1, 1) := by decide +kernel
theorem dX11_score_44 : decode cX11_score 44 = .ok (.imul, 1) := by decide +kernel
theorem dX11_score_45 : decode cX11_score 45 = .ok (.aload_n 0, 1) := by decide +kernel
theorem dX11_score_46 : decode cX11_score 46 = .ok (.getfield 66, 3) := by decide +kernel
theorem dX11_score_49 : decode cX11_score 49 = .ok (.iload_n 1, 1) := by decide +kernel
theorem dX11_score_50 : decode cX11_score 50 = .ok (.iaload, 1) := by decide +kernel
theorem dX11_score_51 : decode cX11_score 51 = .ok (.iadd, 1) := by decide +kernel
theorem dX11_score_52 : decode cX11_score 52 = .ok (.iaload, 1) := by decide +kernel
theorem dX11_score_53 : decode cX11_score 53 = .ok (.i2l, 1) := by decide +kernel
theorem dX11_score_54 : decode cX11_score 54 = .ok (.lmul, 1) := by decide +kernel
theorem dX11_score_55 : decode cX11_score 55 = .ok (.aload_n 0, 1) := by decide +kernel
theorem dX11_score_56 : decode cX11_score 56 = .ok (.iload_n 1, 1) := by decide +kernel
theorem dX11_score_57 : decode cX11_score 57 = .ok (.invokevirtual 191, 3) := by decide +kernel
theorem dX11_score_60 : decode cX11_score 60 = .ok (.lsub, 1) := by decide +kernel
theorem dX11_score_61 : decode cX11_score 61 = .ok (.lload_n 3, 1) := by decide +kernel
theorem dX11_score_62 : decode cX11_score 62 = .ok (.lload_n 3, 1) := by decide +kernel
theorem dX11_score_63 : decode cX11_score 63 = .ok (.lmul, 1) := by decide +kernel
theorem dX11_score_64 : decode cX11_score 64 = .ok (.iload_n 2, 1) := by decide +kernel
theorem dX11_score_65 : decode cX11_score 65 = .ok (.invokestatic 194, 3) := by decide +kernel
theorem dX11_score_68 : decode cX11_score 68 = .ok (.lreturn, 1) := by decide +kernel
set_option maxRecDepth 20000 in
theorem ggX11_honest_X11_isTrader : GoodIn wsX11_honest wsX11_isTrader := goodIn_r _ [11, 12, 31, 32, 33, 34, 35, 36, 37, 38, 39, 40, 41, 42, 43, 44, 45, 46, 47, 48, 49, 50, 51, 52, 53, 54, 55, 56, 57] (by decide +kernel) (by decide +kernel)
set_option maxRecDepth 20000 in
theorem gX11_honest_X11_isTrader : GoodIn wsX11_honest (wsV RX11 136 RX11 yX11_isTrader wsX11_isTrader) := goodIn_app (goodIn_of _ (by decide +kernel)) ggX11_honest_X11_isTrader
set_option maxRecDepth 20000 in
theorem ggX11_honest_X11_within : GoodIn wsX11_honest wsX11_within := goodIn_r _ [15] (by decide +kernel) (by decide +kernel)
set_option maxRecDepth 20000 in
theorem gX11_honest_X11_within : GoodIn wsX11_honest (va_wsS RX11 80 yX11_within wsX11_within) := goodIn_app (goodIn_of _ (by decide +kernel)) ggX11_honest_X11_within
set_option maxRecDepth 20000 in
theorem ggX11_honest_X11_sumOf : GoodIn wsX11_honest wsX11_sumOf := goodIn_r _ [19, 3, 5, 31, 32, 33, 34, 35, 36, 37, 38, 39, 40, 41, 42, 43, 44, 45, 46, 47, 48, 49, 50, 51, 52, 53, 54, 55, 56, 57] (by decide +kernel) (by decide +kernel)
set_option maxRecDepth 20000 in
theorem gX11_honest_X11_sumOf : GoodIn wsX11_honest (wsV RX11 188 RX11 yX11_sumOf wsX11_sumOf) := goodIn_app (goodIn_of _ (by decide +kernel)) ggX11_honest_X11_sumOf
set_option maxRecDepth 20000 in
theorem ggX11_honest_X11_believed : GoodIn wsX11_honest wsX11_believed := goodIn_r _ [23, 3, 4, 31, 32, 33, 34, 35, 36, 37, 38, 39, 40, 41, 42, 43, 44, 45, 46, 47, 48, 49, 50, 51, 52, 53, 54, 55, 56, 57] (by decide +kernel) (by decide +kernel)
set_option maxRecDepth 20000 in
theorem gX11_honest_X11_believed : GoodIn wsX11_honest (wsV RX11 156 RX11 yX11_believed wsX11_believed) := goodIn_app (goodIn_of _ (by decide +kernel)) ggX11_honest_X11_believed
set_option maxRecDepth 20000 in
theorem ggX11_honest_X11_squaresOf : GoodIn wsX11_honest wsX11_squaresOf := goodIn_r _ [27, 3, 5, 31, 32, 33, 34, 35, 36, 37, 38, 39, 40, 41, 42, 43, 44, 45, 46, 47, 48, 49, 50, 51, 52, 53, 54, 55, 56, 57] (by decide +kernel) (by decide +kernel)
set_option maxRecDepth 20000 in
theorem gX11_honest_X11_squaresOf : GoodIn wsX11_honest (wsV RX11 191 RX11 yX11_squaresOf wsX11_squaresOf) := goodIn_app (goodIn_of _ (by decide +kernel)) ggX11_honest_X11_squaresOf
set_option maxRecDepth 20000 in
theorem ggX11_honest_X11_part : GoodIn wsX11_honest wsX11_part := goodIn_r _ [30] (by decide +kernel) (by decide +kernel)
set_option maxRecDepth 20000 in
theorem gX11_honest_X11_part : GoodIn wsX11_honest (va_wsS RX11 194 yX11_part wsX11_part) := goodIn_app (goodIn_of _ (by decide +kernel)) ggX11_honest_X11_part
theorem dX11_honest_0 : decode cX11_honest 0 = .ok (.aload_n 0, 1) := by decide +kernel
theorem dX11_honest_1 : decode cX11_honest 1 = .ok (.iload_n 1, 1) := by decide +kernel
theorem dX11_honest_2 : decode cX11_honest 2 = .ok (.invokevirtual 136, 3) := by decide +kernel
theorem dX11_honest_5 : decode cX11_honest 5 = .ok (.ifCond .eq 25, 3) := by decide +kernel
theorem dX11_honest_8 : decode cX11_honest 8 = .ok (.iload_n 2, 1) := by decide +kernel
theorem dX11_honest_9 : decode cX11_honest 9 = .ok (.ifCond .lt 21, 3) := by decide +kernel
theorem dX11_honest_12 : decode cX11_honest 12 = .ok (.iload_n 2, 1) := by decide +kernel
theorem dX11_honest_13 : decode cX11_honest 13 = .ok (.aload_n 0, 1) := by decide +kernel
theorem dX11_honest_14 : decode cX11_honest 14 = .ok (.getfield 99, 3) := by decide +kernel
theorem dX11_honest_17 : decode cX11_honest 17 = .ok (.if_icmp .ge 13, 3) := by decide +kernel
theorem dX11_honest_20 : decode cX11_honest 20 = .ok (.iload_n 3, 1) := by decide +kernel
theorem dX11_honest_21 : decode cX11_honest 21 = .ok (.i2l, 1) := by decide +kernel
theorem dX11_honest_22 : decode cX11_honest 22 = .ok (.lconst 0, 1) := by decide +kernel
theorem dX11_honest_23 : decode cX11_honest 23 = .ok (.lconst 1, 1) := by decide +kernel
theorem dX11_honest_24 : decode cX11_honest 24 = .ok (.invokestatic 80, 3) := by decide +kernel
theorem dX11_honest_27 : decode cX11_honest 27 = .ok (.ifCond .ne 7, 3) := by decide +kernel
theorem dX11_honest_30 : decode cX11_honest 30 = .ok (.ldc2_w 72, 3) := by decide +kernel
theorem dX11_honest_33 : decode cX11_honest 33 = .ok (.lreturn, 1) := by decide +kernel
theorem dX11_honest_34 : decode cX11_honest 34 = .ok (.aload_n 0, 1) := by decide +kernel
theorem dX11_honest_35 : decode cX11_honest 35 = .ok (.iload_n 2, 1) := by decide +kernel
theorem dX11_honest_36 : decode cX11_honest 36 = .ok (.invokevirtual 188, 3) := by decide +kernel
theorem dX11_honest_39 : decode cX11_honest 39 = .ok (.lstore 4, 2) := by decide +kernel
theorem dX11_honest_41 : decode cX11_honest 41 = .ok (.aload_n 0, 1) := by decide +kernel
theorem dX11_honest_42 : decode cX11_honest 42 = .ok (.iload_n 1, 1) := by decide +kernel
theorem dX11_honest_43 : decode cX11_honest 43 = .ok (.invokevirtual 156, 3) := by decide +kernel
theorem dX11_honest_46 : decode cX11_honest 46 = .ok (.i2l, 1) := by decide +kernel
theorem dX11_honest_47 : decode cX11_honest 47 = .ok (.lstore 6, 2) := by decide +kernel
theorem dX11_honest_49 : decode cX11_honest 49 = .ok (.lconst 0, 1) := by decide +kernel
theorem dX11_honest_50 : decode cX11_honest 50 = .ok (.lstore 8, 2) := by decide +kernel
theorem dX11_honest_52 : decode cX11_honest 52 = .ok (.iconst 0, 1) := by decide +kernel
theorem dX11_honest_53 : decode cX11_honest 53 = .ok (.istore 10, 2) := by decide +kernel
theorem dX11_honest_55 : decode cX11_honest 55 = .ok (.iload 10, 2) := by decide +kernel
theorem dX11_honest_57 : decode cX11_honest 57 = .ok (.aload_n 0, 1) := by decide +kernel
theorem dX11_honest_58 : decode cX11_honest 58 = .ok (.getfield 7, 3) := by decide +kernel
theorem dX11_honest_61 : decode cX11_honest 61 = .ok (.if_icmp .ge 41, 3) := by decide +kernel
theorem dX11_honest_64 : decode cX11_honest 64 = .ok (.lload 8, 2) := by decide +kernel
theorem dX11_honest_66 : decode cX11_honest 66 = .ok (.aload_n 0, 1) := by decide +kernel
theorem dX11_honest_67 : decode cX11_honest 67 = .ok (.getfield 36, 3) := by decide +kernel
theorem dX11_honest_70 : decode cX11_honest 70 = .ok (.bipush 8, 2) := by decide +kernel
theorem dX11_honest_72 : decode cX11_honest 72 = .ok (.iload_n 1, 1) := by decide +kernel
theorem dX11_honest_73 : decode cX11_honest 73 = .ok (.imul, 1) := by decide +kernel
theorem dX11_honest_74 : decode cX11_honest 74 = .ok (.iload 10, 2) := by decide +kernel
theorem dX11_honest_76 : decode cX11_honest 76 = .ok (.iadd, 1) := by decide +kernel
theorem dX11_honest_77 : decode cX11_honest 77 = .ok (.iaload, 1) := by decide +kernel
theorem dX11_honest_78 : decode cX11_honest 78 = .ok (.i2l, 1) := by decide +kernel
theorem dX11_honest_79 : decode cX11_honest 79 = .ok (.aload_n 0, 1) := by decide +kernel
theorem dX11_honest_80 : decode cX11_honest 80 = .ok (.getfield 63, 3) := by decide +kernel
theorem dX11_honest_83 : decode cX11_honest 83 = .ok (.bipush 8, 2) := by decide +kernel
theorem dX11_honest_85 : decode cX11_honest 85 = .ok (.iload_n 2, 1) := by decide +kernel
theorem dX11_honest_86 : decode cX11_honest 86 = .ok (.imul, 1) := by decide +kernel
theorem dX11_honest_87 : decode cX11_honest 87 = .ok (.iload 10, 2) := by decide +kernel
theorem dX11_honest_89 : decode cX11_honest 89 = .ok (.iadd, 1) := by decide +kernel
theorem dX11_honest_90 : decode cX11_honest 90 = .ok (.iaload, 1) := by decide +kernel
theorem dX11_honest_91 : decode cX11_honest 91 = .ok (.i2l, 1) := by decide +kernel
theorem dX11_honest_92 : decode cX11_honest 92 = .ok (.lmul, 1) := by decide +kernel
theorem dX11_honest_93 : decode cX11_honest 93 = .ok (.ladd, 1) := by decide +kernel
theorem dX11_honest_94 : decode cX11_honest 94 = .ok (.lstore 8, 2) := by decide +kernel
theorem dX11_honest_96 : decode cX11_honest 96 = .ok (.iinc 10 1, 3) := by decide +kernel
theorem dX11_honest_99 : decode cX11_honest 99 = .ok (.goto (-44), 3) := by decide +kernel
theorem dX11_honest_102 : decode cX11_honest 102 = .ok (.ldc2_w 76, 3) := by decide +kernel
theorem dX11_honest_105 : decode cX11_honest 105 = .ok (.lload 4, 2) := by decide +kernel
theorem dX11_honest_107 : decode cX11_honest 107 = .ok (.lmul, 1) := by decide +kernel
theorem dX11_honest_108 : decode cX11_honest 108 = .ok (.lload 8, 2) := by decide +kernel
theorem dX11_honest_110 : decode cX11_honest 110 = .ok (.lmul, 1) := by decide +kernel
theorem dX11_honest_111 : decode cX11_honest 111 = .ok (.aload_n 0, 1) := by decide +kernel
theorem dX11_honest_112 : decode cX11_honest 112 = .ok (.iload_n 2, 1) := by decide +kernel
theorem dX11_honest_113 : decode cX11_honest 113 = .ok (.invokevirtual 191, 3) := by decide +kernel
theorem dX11_honest_116 : decode cX11_honest 116 = .ok (.lload 6, 2) := by decide +kernel
theorem dX11_honest_118 : decode cX11_honest 118 = .ok (.lmul, 1) := by decide +kernel
theorem dX11_honest_119 : decode cX11_honest 119 = .ok (.lsub, 1) := by decide +kernel
theorem dX11_honest_120 : decode cX11_honest 120 = .ok (.lload 4, 2) := by decide +kernel
theorem dX11_honest_122 : decode cX11_honest 122 = .ok (.lload 4, 2) := by decide +kernel
theorem dX11_honest_124 : decode cX11_honest 124 = .ok (.lmul, 1) := by decide +kernel
theorem dX11_honest_125 : decode cX11_honest 125 = .ok (.lload 6, 2) := by decide +kernel
theorem dX11_honest_127 : decode cX11_honest 127 = .ok (.lmul, 1) := by decide +kernel
theorem dX11_honest_128 : decode cX11_honest 128 = .ok (.iload_n 3, 1) := by decide +kernel
theorem dX11_honest_129 : decode cX11_honest 129 = .ok (.invokestatic 194, 3) := by decide +kernel
theorem dX11_honest_132 : decode cX11_honest 132 = .ok (.lreturn, 1) := by decide +kernel
theorem dX11_power_0 : decode cX11_power 0 = .ok (.lconst 1, 1) := by decide +kernel
theorem dX11_power_1 : decode cX11_power 1 = .ok (.lstore_n 3, 1) := by decide +kernel
theorem dX11_power_2 : decode cX11_power 2 = .ok (.iconst 0, 1) := by decide +kernel
theorem dX11_power_3 : decode cX11_power 3 = .ok (.istore 5, 2) := by decide +kernel
theorem dX11_power_5 : decode cX11_power 5 = .ok (.iload 5, 2) := by decide +kernel
theorem dX11_power_7 : decode cX11_power 7 = .ok (.iload_n 2, 1) := by decide +kernel
theorem dX11_power_8 : decode cX11_power 8 = .ok (.if_icmp .ge 13, 3) := by decide +kernel
theorem dX11_power_11 : decode cX11_power 11 = .ok (.lload_n 3, 1) := by decide +kernel
theorem dX11_power_12 : decode cX11_power 12 = .ok (.lload_n 0, 1) := by decide +kernel
theorem dX11_power_13 : decode cX11_power 13 = .ok (.lmul, 1) := by decide +kernel
theorem dX11_power_14 : decode cX11_power 14 = .ok (.lstore_n 3, 1) := by decide +kernel
theorem dX11_power_15 : decode cX11_power 15 = .ok (.iinc 5 1, 3) := by decide +kernel
theorem dX11_power_18 : decode cX11_power 18 = .ok (.goto (-13), 3) := by decide +kernel
theorem dX11_power_21 : decode cX11_power 21 = .ok (.lload_n 3, 1) := by decide +kernel
theorem dX11_power_22 : decode cX11_power 22 = .ok (.lreturn, 1) := by decide +kernel
set_option maxRecDepth 20000 in
theorem ggX11_held_X11_isCase : GoodIn wsX11_held wsX11_isCase := goodIn_r _ [11, 12, 23, 24, 25, 26, 27, 28, 29, 30, 31, 32, 33, 34, 35, 36, 37, 38, 39, 40, 41, 42, 43, 44, 45, 46, 47, 48, 49] (by decide +kernel) (by decide +kernel)
set_option maxRecDepth 20000 in
theorem gX11_held_X11_isCase : GoodIn wsX11_held (wsV RX11 150 RX11 yX11_isCase wsX11_isCase) := goodIn_app (goodIn_of _ (by decide +kernel)) ggX11_held_X11_isCase
set_option maxRecDepth 20000 in
theorem ggX11_held_X11_within : GoodIn wsX11_held wsX11_within := goodIn_r _ [15] (by decide +kernel) (by decide +kernel)
set_option maxRecDepth 20000 in
theorem gX11_held_X11_within : GoodIn wsX11_held (va_wsS RX11 80 yX11_within wsX11_within) := goodIn_app (goodIn_of _ (by decide +kernel)) ggX11_held_X11_within
set_option maxRecDepth 20000 in
theorem ggX11_held_X11_sumOf : GoodIn wsX11_held wsX11_sumOf := goodIn_r _ [19, 12, 5, 23, 24, 25, 26, 27, 28, 29, 30, 31, 32, 33, 34, 35, 36, 37, 38, 39, 40, 41, 42, 43, 44, 45, 46, 47, 48, 49] (by decide +kernel) (by decide +kernel)
set_option maxRecDepth 20000 in
theorem gX11_held_X11_sumOf : GoodIn wsX11_held (wsV RX11 188 RX11 yX11_sumOf wsX11_sumOf) := goodIn_app (goodIn_of _ (by decide +kernel)) ggX11_held_X11_sumOf
set_option maxRecDepth 20000 in
theorem ggX11_held_X11_power : GoodIn wsX11_held wsX11_power := goodIn_r _ [22] (by decide +kernel) (by decide +kernel)
set_option maxRecDepth 20000 in
theorem gX11_held_X11_power : GoodIn wsX11_held (va_wsS RX11 200 yX11_power wsX11_power) := goodIn_app (goodIn_of _ (by decide +kernel)) ggX11_held_X11_power
theorem dX11_held_0 : decode cX11_held 0 = .ok (.aload_n 0, 1) := by decide +kernel
theorem dX11_held_1 : decode cX11_held 1 = .ok (.iload_n 1, 1) := by decide +kernel
theorem dX11_held_2 : decode cX11_held 2 = .ok (.invokevirtual 150, 3) := by decide +kernel
theorem dX11_held_5 : decode cX11_held 5 = .ok (.ifCond .eq 27, 3) := by decide +kernel
theorem dX11_held_8 : decode cX11_held 8 = .ok (.iload_n 2, 1) := by decide +kernel
theorem dX11_held_9 : decode cX11_held 9 = .ok (.i2l, 1) := by decide +kernel
theorem dX11_held_10 : decode cX11_held 10 = .ok (.lconst 0, 1) := by decide +kernel
theorem dX11_held_11 : decode cX11_held 11 = .ok (.ldc2_w 198, 3) := by decide +kernel
theorem dX11_held_14 : decode cX11_held 14 = .ok (.invokestatic 80, 3) := by decide +kernel
theorem dX11_held_17 : decode cX11_held 17 = .ok (.ifCond .eq 15, 3) := by decide +kernel
theorem dX11_held_20 : decode cX11_held 20 = .ok (.iload_n 3, 1) := by decide +kernel
theorem dX11_held_21 : decode cX11_held 21 = .ok (.i2l, 1) := by decide +kernel
theorem dX11_held_22 : decode cX11_held 22 = .ok (.lconst 0, 1) := by decide +kernel
theorem dX11_held_23 : decode cX11_held 23 = .ok (.ldc2_w 76, 3) := by decide +kernel
theorem dX11_held_26 : decode cX11_held 26 = .ok (.invokestatic 80, 3) := by decide +kernel
theorem dX11_held_29 : decode cX11_held 29 = .ok (.ifCond .ne 7, 3) := by decide +kernel
theorem dX11_held_32 : decode cX11_held 32 = .ok (.ldc2_w 72, 3) := by decide +kernel
theorem dX11_held_35 : decode cX11_held 35 = .ok (.lreturn, 1) := by decide +kernel
theorem dX11_held_36 : decode cX11_held 36 = .ok (.iconst 0, 1) := by decide +kernel
theorem dX11_held_37 : decode cX11_held 37 = .ok (.istore 4, 2) := by decide +kernel
theorem dX11_held_39 : decode cX11_held 39 = .ok (.iconst 0, 1) := by decide +kernel
theorem dX11_held_40 : decode cX11_held 40 = .ok (.istore 5, 2) := by decide +kernel
theorem dX11_held_42 : decode cX11_held 42 = .ok (.iconst 0, 1) := by decide +kernel
theorem dX11_held_43 : decode cX11_held 43 = .ok (.istore 6, 2) := by decide +kernel
theorem dX11_held_45 : decode cX11_held 45 = .ok (.iload 6, 2) := by decide +kernel
theorem dX11_held_47 : decode cX11_held 47 = .ok (.aload_n 0, 1) := by decide +kernel
theorem dX11_held_48 : decode cX11_held 48 = .ok (.getfield 99, 3) := by decide +kernel
theorem dX11_held_51 : decode cX11_held 51 = .ok (.if_icmp .ge 63, 3) := by decide +kernel
theorem dX11_held_54 : decode cX11_held 54 = .ok (.ldc2_w 198, 3) := by decide +kernel
theorem dX11_held_57 : decode cX11_held 57 = .ok (.aload_n 0, 1) := by decide +kernel
theorem dX11_held_58 : decode cX11_held 58 = .ok (.getfield 63, 3) := by decide +kernel
theorem dX11_held_61 : decode cX11_held 61 = .ok (.bipush 8, 2) := by decide +kernel
theorem dX11_held_63 : decode cX11_held 63 = .ok (.iload 6, 2) := by decide +kernel
theorem dX11_held_65 : decode cX11_held 65 = .ok (.imul, 1) := by decide +kernel
theorem dX11_held_66 : decode cX11_held 66 = .ok (.iload_n 1, 1) := by decide +kernel
theorem dX11_held_67 : decode cX11_held 67 = .ok (.iadd, 1) := by decide +kernel
theorem dX11_held_68 : decode cX11_held 68 = .ok (.iaload, 1) := by decide +kernel
theorem dX11_held_69 : decode cX11_held 69 = .ok (.i2l, 1) := by decide +kernel
theorem dX11_held_70 : decode cX11_held 70 = .ok (.lmul, 1) := by decide +kernel
theorem dX11_held_71 : decode cX11_held 71 = .ok (.iload_n 2, 1) := by decide +kernel
theorem dX11_held_72 : decode cX11_held 72 = .ok (.i2l, 1) := by decide +kernel
theorem dX11_held_73 : decode cX11_held 73 = .ok (.aload_n 0, 1) := by decide +kernel
theorem dX11_held_74 : decode cX11_held 74 = .ok (.iload 6, 2) := by decide +kernel
theorem dX11_held_76 : decode cX11_held 76 = .ok (.invokevirtual 188, 3) := by decide +kernel
theorem dX11_held_79 : decode cX11_held 79 = .ok (.lmul, 1) := by decide +kernel
theorem dX11_held_80 : decode cX11_held 80 = .ok (.lcmp, 1) := by decide +kernel
theorem dX11_held_81 : decode cX11_held 81 = .ok (.ifCond .ne 27, 3) := by decide +kernel
theorem dX11_held_84 : decode cX11_held 84 = .ok (.iinc 4 1, 3) := by decide +kernel
theorem dX11_held_87 : decode cX11_held 87 = .ok (.iload 5, 2) := by decide +kernel
theorem dX11_held_89 : decode cX11_held 89 = .ok (.aload_n 0, 1) := by decide +kernel
theorem dX11_held_90 : decode cX11_held 90 = .ok (.getfield 66, 3) := by decide +kernel
theorem dX11_held_93 : decode cX11_held 93 = .ok (.iload 6, 2) := by decide +kernel
theorem dX11_held_95 : decode cX11_held 95 = .ok (.iaload, 1) := by decide +kernel
theorem dX11_held_96 : decode cX11_held 96 = .ok (.iload_n 1, 1) := by decide +kernel
theorem dX11_held_97 : decode cX11_held 97 = .ok (.if_icmp .ne 7, 3) := by decide +kernel
theorem dX11_held_100 : decode cX11_held 100 = .ok (.iconst 1, 1) := by decide +kernel
theorem dX11_held_101 : decode cX11_held 101 = .ok (.goto 4, 3) := by decide +kernel
theorem dX11_held_104 : decode cX11_held 104 = .ok (.iconst 0, 1) := by decide +kernel
theorem dX11_held_105 : decode cX11_held 105 = .ok (.iadd, 1) := by decide +kernel
theorem dX11_held_106 : decode cX11_held 106 = .ok (.istore 5, 2) := by decide +kernel
theorem dX11_held_108 : decode cX11_held 108 = .ok (.iinc 6 1, 3) := by decide +kernel
theorem dX11_held_111 : decode cX11_held 111 = .ok (.goto (-66), 3) := by decide +kernel
theorem dX11_held_114 : decode cX11_held 114 = .ok (.iload_n 3, 1) := by decide +kernel
theorem dX11_held_115 : decode cX11_held 115 = .ok (.iconst 2, 1) := by decide +kernel
theorem dX11_held_116 : decode cX11_held 116 = .ok (.if_icmp .ge 17, 3) := by decide +kernel
theorem dX11_held_119 : decode cX11_held 119 = .ok (.iload_n 3, 1) := by decide +kernel
theorem dX11_held_120 : decode cX11_held 120 = .ok (.ifCond .ne 9, 3) := by decide +kernel
theorem dX11_held_123 : decode cX11_held 123 = .ok (.iload 4, 2) := by decide +kernel
theorem dX11_held_125 : decode cX11_held 125 = .ok (.i2l, 1) := by decide +kernel
theorem dX11_held_126 : decode cX11_held 126 = .ok (.goto 6, 3) := by decide +kernel
theorem dX11_held_129 : decode cX11_held 129 = .ok (.iload 5, 2) := by decide +kernel
theorem dX11_held_131 : decode cX11_held 131 = .ok (.i2l, 1) := by decide +kernel
theorem dX11_held_132 : decode cX11_held 132 = .ok (.lreturn, 1) := by decide +kernel
theorem dX11_held_133 : decode cX11_held 133 = .ok (.iload 4, 2) := by decide +kernel
theorem dX11_held_135 : decode cX11_held 135 = .ok (.bipush 15, 2) := by decide +kernel
theorem dX11_held_137 : decode cX11_held 137 = .ok (.if_icmp .le 7, 3) := by decide +kernel
theorem dX11_held_140 : decode cX11_held 140 = .ok (.ldc2_w 72, 3) := by decide +kernel
theorem dX11_held_143 : decode cX11_held 143 = .ok (.lreturn, 1) := by decide +kernel
theorem dX11_held_144 : decode cX11_held 144 = .ok (.lconst 0, 1) := by decide +kernel
theorem dX11_held_145 : decode cX11_held 145 = .ok (.lstore 6, 2) := by decide +kernel
theorem dX11_held_147 : decode cX11_held 147 = .ok (.lconst 1, 1) := by decide +kernel
theorem dX11_held_148 : decode cX11_held 148 = .ok (.lstore 8, 2) := by decide +kernel
theorem dX11_held_150 : decode cX11_held 150 = .ok (.iconst 0, 1) := by decide +kernel
theorem dX11_held_151 : decode cX11_held 151 = .ok (.istore 10, 2) := by decide +kernel
theorem dX11_held_153 : decode cX11_held 153 = .ok (.iload 10, 2) := by decide +kernel
theorem dX11_held_155 : decode cX11_held 155 = .ok (.iload 4, 2) := by decide +kernel
theorem dX11_held_157 : decode cX11_held 157 = .ok (.if_icmp .gt 67, 3) := by decide +kernel
theorem dX11_held_160 : decode cX11_held 160 = .ok (.lload 6, 2) := by decide +kernel
theorem dX11_held_162 : decode cX11_held 162 = .ok (.iload 10, 2) := by decide +kernel
theorem dX11_held_164 : decode cX11_held 164 = .ok (.iload 5, 2) := by decide +kernel
theorem dX11_held_166 : decode cX11_held 166 = .ok (.if_icmp .lt 31, 3) := by decide +kernel
theorem dX11_held_169 : decode cX11_held 169 = .ok (.lload 8, 2) := by decide +kernel
theorem dX11_held_171 : decode cX11_held 171 = .ok (.iload_n 2, 1) := by decide +kernel
theorem dX11_held_172 : decode cX11_held 172 = .ok (.i2l, 1) := by decide +kernel
theorem dX11_held_173 : decode cX11_held 173 = .ok (.iload 10, 2) := by decide +kernel
theorem dX11_held_175 : decode cX11_held 175 = .ok (.invokestatic 200, 3) := by decide +kernel
theorem dX11_held_178 : decode cX11_held 178 = .ok (.lmul, 1) := by decide +kernel
theorem dX11_held_179 : decode cX11_held 179 = .ok (.ldc2_w 198, 3) := by decide +kernel
theorem dX11_held_182 : decode cX11_held 182 = .ok (.iload_n 2, 1) := by decide +kernel
theorem dX11_held_183 : decode cX11_held 183 = .ok (.i2l, 1) := by decide +kernel
theorem dX11_held_184 : decode cX11_held 184 = .ok (.lsub, 1) := by decide +kernel
theorem dX11_held_185 : decode cX11_held 185 = .ok (.iload 4, 2) := by decide +kernel
theorem dX11_held_187 : decode cX11_held 187 = .ok (.iload 10, 2) := by decide +kernel
theorem dX11_held_189 : decode cX11_held 189 = .ok (.isub, 1) := by decide +kernel
theorem dX11_held_190 : decode cX11_held 190 = .ok (.invokestatic 200, 3) := by decide +kernel
theorem dX11_held_193 : decode cX11_held 193 = .ok (.lmul, 1) := by decide +kernel
theorem dX11_held_194 : decode cX11_held 194 = .ok (.goto 4, 3) := by decide +kernel
theorem dX11_held_197 : decode cX11_held 197 = .ok (.lconst 0, 1) := by decide +kernel
theorem dX11_held_198 : decode cX11_held 198 = .ok (.ladd, 1) := by decide +kernel
theorem dX11_held_199 : decode cX11_held 199 = .ok (.lstore 6, 2) := by decide +kernel
theorem dX11_held_201 : decode cX11_held 201 = .ok (.lload 8, 2) := by decide +kernel
theorem dX11_held_203 : decode cX11_held 203 = .ok (.iload 4, 2) := by decide +kernel
theorem dX11_held_205 : decode cX11_held 205 = .ok (.iload 10, 2) := by decide +kernel
theorem dX11_held_207 : decode cX11_held 207 = .ok (.isub, 1) := by decide +kernel
theorem dX11_held_208 : decode cX11_held 208 = .ok (.i2l, 1) := by decide +kernel
theorem dX11_held_209 : decode cX11_held 209 = .ok (.lmul, 1) := by decide +kernel
theorem dX11_held_210 : decode cX11_held 210 = .ok (.iload 10, 2) := by decide +kernel
theorem dX11_held_212 : decode cX11_held 212 = .ok (.iconst 1, 1) := by decide +kernel
theorem dX11_held_213 : decode cX11_held 213 = .ok (.iadd, 1) := by decide +kernel
theorem dX11_held_214 : decode cX11_held 214 = .ok (.i2l, 1) := by decide +kernel
theorem dX11_held_215 : decode cX11_held 215 = .ok (.ldiv, 1) := by decide +kernel
theorem dX11_held_216 : decode cX11_held 216 = .ok (.lstore 8, 2) := by decide +kernel
theorem dX11_held_218 : decode cX11_held 218 = .ok (.iinc 10 1, 3) := by decide +kernel
theorem dX11_held_221 : decode cX11_held 221 = .ok (.goto (-68), 3) := by decide +kernel
theorem dX11_held_224 : decode cX11_held 224 = .ok (.lload 6, 2) := by decide +kernel
theorem dX11_held_226 : decode cX11_held 226 = .ok (.lreturn, 1) := by decide +kernel
set_option maxRecDepth 20000 in
theorem ggX11_sheet_X11_within : GoodIn wsX11_sheet wsX11_within := goodIn_r _ [10] (by decide +kernel) (by decide +kernel)
set_option maxRecDepth 20000 in
theorem gX11_sheet_X11_within : GoodIn wsX11_sheet (va_wsS RX11 80 yX11_within wsX11_within) := goodIn_app (goodIn_of _ (by decide +kernel)) ggX11_sheet_X11_within
set_option maxRecDepth 20000 in
theorem ggX11_sheet_X11_fails : GoodIn wsX11_sheet wsX11_fails := goodIn_r _ [14, 1, 15, 16, 17, 18, 19, 20, 21, 22, 23, 24, 25, 26, 27, 28, 29, 30, 31, 32, 33, 34, 35, 36, 37, 38, 39, 40, 41] (by decide +kernel) (by decide +kernel)
set_option maxRecDepth 20000 in
theorem gX11_sheet_X11_fails : GoodIn wsX11_sheet (wsV RX11 162 RX11 yX11_fails wsX11_fails) := goodIn_app (goodIn_of _ (by decide +kernel)) ggX11_sheet_X11_fails
theorem dX11_sheet_0 : decode cX11_sheet 0 = .ok (.aload_n 0, 1) := by decide +kernel
theorem dX11_sheet_1 : decode cX11_sheet 1 = .ok (.iconst 0, 1) := by decide +kernel
theorem dX11_sheet_2 : decode cX11_sheet 2 = .ok (.putfield 69, 3) := by decide +kernel
theorem dX11_sheet_5 : decode cX11_sheet 5 = .ok (.iload_n 1, 1) := by decide +kernel
theorem dX11_sheet_6 : decode cX11_sheet 6 = .ok (.i2l, 1) := by decide +kernel
theorem dX11_sheet_7 : decode cX11_sheet 7 = .ok (.lconst 0, 1) := by decide +kernel
theorem dX11_sheet_8 : decode cX11_sheet 8 = .ok (.ldc2_w 165, 3) := by decide +kernel
theorem dX11_sheet_11 : decode cX11_sheet 11 = .ok (.invokestatic 80, 3) := by decide +kernel
theorem dX11_sheet_14 : decode cX11_sheet 14 = .ok (.ifCond .ne 5, 3) := by decide +kernel
theorem dX11_sheet_17 : decode cX11_sheet 17 = .ok (.iconst (-1), 1) := by decide +kernel
theorem dX11_sheet_18 : decode cX11_sheet 18 = .ok (.ireturn, 1) := by decide +kernel
theorem dX11_sheet_19 : decode cX11_sheet 19 = .ok (.iload_n 2, 1) := by decide +kernel
theorem dX11_sheet_20 : decode cX11_sheet 20 = .ok (.i2l, 1) := by decide +kernel
theorem dX11_sheet_21 : decode cX11_sheet 21 = .ok (.lconst 0, 1) := by decide +kernel
theorem dX11_sheet_22 : decode cX11_sheet 22 = .ok (.ldc2_w 76, 3) := by decide +kernel
theorem dX11_sheet_25 : decode cX11_sheet 25 = .ok (.invokestatic 80, 3) := by decide +kernel
theorem dX11_sheet_28 : decode cX11_sheet 28 = .ok (.ifCond .eq 9, 3) := by decide +kernel
theorem dX11_sheet_31 : decode cX11_sheet 31 = .ok (.iload_n 3, 1) := by decide +kernel
theorem dX11_sheet_32 : decode cX11_sheet 32 = .ok (.bipush 24, 2) := by decide +kernel
theorem dX11_sheet_34 : decode cX11_sheet 34 = .ok (.if_icmp .le 6, 3) := by decide +kernel
theorem dX11_sheet_37 : decode cX11_sheet 37 = .ok (.bipush (-2), 2) := by decide +kernel
theorem dX11_sheet_39 : decode cX11_sheet 39 = .ok (.ireturn, 1) := by decide +kernel
theorem dX11_sheet_40 : decode cX11_sheet 40 = .ok (.iload_n 3, 1) := by decide +kernel
theorem dX11_sheet_41 : decode cX11_sheet 41 = .ok (.ifCond .ge 9, 3) := by decide +kernel
theorem dX11_sheet_44 : decode cX11_sheet 44 = .ok (.aload_n 0, 1) := by decide +kernel
theorem dX11_sheet_45 : decode cX11_sheet 45 = .ok (.iconst 4, 1) := by decide +kernel
theorem dX11_sheet_46 : decode cX11_sheet 46 = .ok (.invokevirtual 162, 3) := by decide +kernel
theorem dX11_sheet_49 : decode cX11_sheet 49 = .ok (.ireturn, 1) := by decide +kernel
theorem dX11_sheet_50 : decode cX11_sheet 50 = .ok (.aload_n 0, 1) := by decide +kernel
theorem dX11_sheet_51 : decode cX11_sheet 51 = .ok (.getfield 39, 3) := by decide +kernel
theorem dX11_sheet_54 : decode cX11_sheet 54 = .ok (.iload_n 1, 1) := by decide +kernel
theorem dX11_sheet_55 : decode cX11_sheet 55 = .ok (.iload_n 2, 1) := by decide +kernel
theorem dX11_sheet_56 : decode cX11_sheet 56 = .ok (.iastore, 1) := by decide +kernel
theorem dX11_sheet_57 : decode cX11_sheet 57 = .ok (.aload_n 0, 1) := by decide +kernel
theorem dX11_sheet_58 : decode cX11_sheet 58 = .ok (.getfield 42, 3) := by decide +kernel
theorem dX11_sheet_61 : decode cX11_sheet 61 = .ok (.iload_n 1, 1) := by decide +kernel
theorem dX11_sheet_62 : decode cX11_sheet 62 = .ok (.iload_n 3, 1) := by decide +kernel
theorem dX11_sheet_63 : decode cX11_sheet 63 = .ok (.iastore, 1) := by decide +kernel
theorem dX11_sheet_64 : decode cX11_sheet 64 = .ok (.iconst 0, 1) := by decide +kernel
theorem dX11_sheet_65 : decode cX11_sheet 65 = .ok (.istore 4, 2) := by decide +kernel
theorem dX11_sheet_67 : decode cX11_sheet 67 = .ok (.iload 4, 2) := by decide +kernel
theorem dX11_sheet_69 : decode cX11_sheet 69 = .ok (.bipush 24, 2) := by decide +kernel
theorem dX11_sheet_71 : decode cX11_sheet 71 = .ok (.if_icmp .ge 22, 3) := by decide +kernel
theorem dX11_sheet_74 : decode cX11_sheet 74 = .ok (.aload_n 0, 1) := by decide +kernel
theorem dX11_sheet_75 : decode cX11_sheet 75 = .ok (.getfield 45, 3) := by decide +kernel
theorem dX11_sheet_78 : decode cX11_sheet 78 = .ok (.bipush 24, 2) := by decide +kernel
theorem dX11_sheet_80 : decode cX11_sheet 80 = .ok (.iload_n 1, 1) := by decide +kernel
theorem dX11_sheet_81 : decode cX11_sheet 81 = .ok (.imul, 1) := by decide +kernel
theorem dX11_sheet_82 : decode cX11_sheet 82 = .ok (.iload 4, 2) := by decide +kernel
theorem dX11_sheet_84 : decode cX11_sheet 84 = .ok (.iadd, 1) := by decide +kernel
theorem dX11_sheet_85 : decode cX11_sheet 85 = .ok (.iconst 0, 1) := by decide +kernel
theorem dX11_sheet_86 : decode cX11_sheet 86 = .ok (.iastore, 1) := by decide +kernel
theorem dX11_sheet_87 : decode cX11_sheet 87 = .ok (.iinc 4 1, 3) := by decide +kernel
theorem dX11_sheet_90 : decode cX11_sheet 90 = .ok (.goto (-23), 3) := by decide +kernel
theorem dX11_sheet_93 : decode cX11_sheet 93 = .ok (.iconst 1, 1) := by decide +kernel
theorem dX11_sheet_94 : decode cX11_sheet 94 = .ok (.ireturn, 1) := by decide +kernel
set_option maxRecDepth 20000 in
theorem ggX11_lose_X11_within : GoodIn wsX11_lose wsX11_within := goodIn_r _ [6] (by decide +kernel) (by decide +kernel)
set_option maxRecDepth 20000 in
theorem gX11_lose_X11_within : GoodIn wsX11_lose (va_wsS RX11 80 yX11_within wsX11_within) := goodIn_app (goodIn_of _ (by decide +kernel)) ggX11_lose_X11_within
theorem dX11_lose_0 : decode cX11_lose 0 = .ok (.iload_n 1, 1) := by decide +kernel
theorem dX11_lose_1 : decode cX11_lose 1 = .ok (.i2l, 1) := by decide +kernel
theorem dX11_lose_2 : decode cX11_lose 2 = .ok (.lconst 0, 1) := by decide +kernel
theorem dX11_lose_3 : decode cX11_lose 3 = .ok (.ldc2_w 165, 3) := by decide +kernel
theorem dX11_lose_6 : decode cX11_lose 6 = .ok (.invokestatic 80, 3) := by decide +kernel
theorem dX11_lose_9 : decode cX11_lose 9 = .ok (.ifCond .ne 5, 3) := by decide +kernel
theorem dX11_lose_12 : decode cX11_lose 12 = .ok (.iconst (-1), 1) := by decide +kernel
theorem dX11_lose_13 : decode cX11_lose 13 = .ok (.ireturn, 1) := by decide +kernel
theorem dX11_lose_14 : decode cX11_lose 14 = .ok (.aload_n 0, 1) := by decide +kernel
theorem dX11_lose_15 : decode cX11_lose 15 = .ok (.getfield 39, 3) := by decide +kernel
theorem dX11_lose_18 : decode cX11_lose 18 = .ok (.iload_n 1, 1) := by decide +kernel
theorem dX11_lose_19 : decode cX11_lose 19 = .ok (.iaload, 1) := by decide +kernel
theorem dX11_lose_20 : decode cX11_lose 20 = .ok (.bipush (-9), 2) := by decide +kernel
theorem dX11_lose_22 : decode cX11_lose 22 = .ok (.if_icmp .ne 7, 3) := by decide +kernel
theorem dX11_lose_25 : decode cX11_lose 25 = .ok (.iconst 0, 1) := by decide +kernel
theorem dX11_lose_26 : decode cX11_lose 26 = .ok (.goto 4, 3) := by decide +kernel
theorem dX11_lose_29 : decode cX11_lose 29 = .ok (.iconst 1, 1) := by decide +kernel
theorem dX11_lose_30 : decode cX11_lose 30 = .ok (.istore_n 2, 1) := by decide +kernel
theorem dX11_lose_31 : decode cX11_lose 31 = .ok (.aload_n 0, 1) := by decide +kernel
theorem dX11_lose_32 : decode cX11_lose 32 = .ok (.getfield 39, 3) := by decide +kernel
theorem dX11_lose_35 : decode cX11_lose 35 = .ok (.iload_n 1, 1) := by decide +kernel
theorem dX11_lose_36 : decode cX11_lose 36 = .ok (.bipush (-9), 2) := by decide +kernel
theorem dX11_lose_38 : decode cX11_lose 38 = .ok (.iastore, 1) := by decide +kernel
theorem dX11_lose_39 : decode cX11_lose 39 = .ok (.iload_n 2, 1) := by decide +kernel
theorem dX11_lose_40 : decode cX11_lose 40 = .ok (.ireturn, 1) := by decide +kernel
set_option maxRecDepth 20000 in
theorem ggX11_put_X11_within : GoodIn wsX11_put wsX11_within := goodIn_r _ [9] (by decide +kernel) (by decide +kernel)
set_option maxRecDepth 20000 in
theorem gX11_put_X11_within : GoodIn wsX11_put (va_wsS RX11 80 yX11_within wsX11_within) := goodIn_app (goodIn_of _ (by decide +kernel)) ggX11_put_X11_within
set_option maxRecDepth 20000 in
theorem ggX11_put_X11_fails : GoodIn wsX11_put wsX11_fails := goodIn_r _ [13, 1, 14, 15, 16, 17, 18, 19, 20, 21, 22, 23, 24, 25, 26, 27, 28, 29, 30, 31, 32, 33, 34, 35, 36, 37, 38, 39, 40] (by decide +kernel) (by decide +kernel)
set_option maxRecDepth 20000 in
theorem gX11_put_X11_fails : GoodIn wsX11_put (wsV RX11 162 RX11 yX11_fails wsX11_fails) := goodIn_app (goodIn_of _ (by decide +kernel)) ggX11_put_X11_fails
theorem dX11_put_0 : decode cX11_put 0 = .ok (.aload_n 0, 1) := by decide +kernel
theorem dX11_put_1 : decode cX11_put 1 = .ok (.iconst 0, 1) := by decide +kernel
theorem dX11_put_2 : decode cX11_put 2 = .ok (.putfield 69, 3) := by decide +kernel
theorem dX11_put_5 : decode cX11_put 5 = .ok (.iload_n 1, 1) := by decide +kernel
theorem dX11_put_6 : decode cX11_put 6 = .ok (.i2l, 1) := by decide +kernel
theorem dX11_put_7 : decode cX11_put 7 = .ok (.lconst 0, 1) := by decide +kernel
theorem dX11_put_8 : decode cX11_put 8 = .ok (.ldc2_w 165, 3) := by decide +kernel
theorem dX11_put_11 : decode cX11_put 11 = .ok (.invokestatic 80, 3) := by decide +kernel
theorem dX11_put_14 : decode cX11_put 14 = .ok (.ifCond .ne 5, 3) := by decide +kernel
theorem dX11_put_17 : decode cX11_put 17 = .ok (.iconst (-1), 1) := by decide +kernel
theorem dX11_put_18 : decode cX11_put 18 = .ok (.ireturn, 1) := by decide +kernel
theorem dX11_put_19 : decode cX11_put 19 = .ok (.aload_n 0, 1) := by decide +kernel
theorem dX11_put_20 : decode cX11_put 20 = .ok (.getfield 39, 3) := by decide +kernel
theorem dX11_put_23 : decode cX11_put 23 = .ok (.iload_n 1, 1) := by decide +kernel
theorem dX11_put_24 : decode cX11_put 24 = .ok (.iaload, 1) := by decide +kernel
theorem dX11_put_25 : decode cX11_put 25 = .ok (.bipush (-9), 2) := by decide +kernel
theorem dX11_put_27 : decode cX11_put 27 = .ok (.if_icmp .ne 9, 3) := by decide +kernel
theorem dX11_put_30 : decode cX11_put 30 = .ok (.aload_n 0, 1) := by decide +kernel
theorem dX11_put_31 : decode cX11_put 31 = .ok (.iconst 1, 1) := by decide +kernel
theorem dX11_put_32 : decode cX11_put 32 = .ok (.invokevirtual 162, 3) := by decide +kernel
theorem dX11_put_35 : decode cX11_put 35 = .ok (.ireturn, 1) := by decide +kernel
theorem dX11_put_36 : decode cX11_put 36 = .ok (.iload_n 2, 1) := by decide +kernel
theorem dX11_put_37 : decode cX11_put 37 = .ok (.i2l, 1) := by decide +kernel
theorem dX11_put_38 : decode cX11_put 38 = .ok (.lconst 0, 1) := by decide +kernel
theorem dX11_put_39 : decode cX11_put 39 = .ok (.aload_n 0, 1) := by decide +kernel
theorem dX11_put_40 : decode cX11_put 40 = .ok (.getfield 42, 3) := by decide +kernel
theorem dX11_put_43 : decode cX11_put 43 = .ok (.iload_n 1, 1) := by decide +kernel
theorem dX11_put_44 : decode cX11_put 44 = .ok (.iaload, 1) := by decide +kernel
theorem dX11_put_45 : decode cX11_put 45 = .ok (.i2l, 1) := by decide +kernel
theorem dX11_put_46 : decode cX11_put 46 = .ok (.lconst 1, 1) := by decide +kernel
theorem dX11_put_47 : decode cX11_put 47 = .ok (.lsub, 1) := by decide +kernel
theorem dX11_put_48 : decode cX11_put 48 = .ok (.invokestatic 80, 3) := by decide +kernel
theorem dX11_put_51 : decode cX11_put 51 = .ok (.ifCond .ne 9, 3) := by decide +kernel
theorem dX11_put_54 : decode cX11_put 54 = .ok (.aload_n 0, 1) := by decide +kernel
theorem dX11_put_55 : decode cX11_put 55 = .ok (.iconst 3, 1) := by decide +kernel
theorem dX11_put_56 : decode cX11_put 56 = .ok (.invokevirtual 162, 3) := by decide +kernel
theorem dX11_put_59 : decode cX11_put 59 = .ok (.ireturn, 1) := by decide +kernel
theorem dX11_put_60 : decode cX11_put 60 = .ok (.aload_n 0, 1) := by decide +kernel
theorem dX11_put_61 : decode cX11_put 61 = .ok (.getfield 45, 3) := by decide +kernel
theorem dX11_put_64 : decode cX11_put 64 = .ok (.bipush 24, 2) := by decide +kernel
theorem dX11_put_66 : decode cX11_put 66 = .ok (.iload_n 1, 1) := by decide +kernel
theorem dX11_put_67 : decode cX11_put 67 = .ok (.imul, 1) := by decide +kernel
theorem dX11_put_68 : decode cX11_put 68 = .ok (.iload_n 2, 1) := by decide +kernel
theorem dX11_put_69 : decode cX11_put 69 = .ok (.iadd, 1) := by decide +kernel
theorem dX11_put_70 : decode cX11_put 70 = .ok (.aload_n 0, 1) := by decide +kernel
theorem dX11_put_71 : decode cX11_put 71 = .ok (.getfield 39, 3) := by decide +kernel
theorem dX11_put_74 : decode cX11_put 74 = .ok (.iload_n 1, 1) := by decide +kernel
theorem dX11_put_75 : decode cX11_put 75 = .ok (.iaload, 1) := by decide +kernel
theorem dX11_put_76 : decode cX11_put 76 = .ok (.ifCond .ne 8, 3) := by decide +kernel
theorem dX11_put_79 : decode cX11_put 79 = .ok (.iload_n 3, 1) := by decide +kernel
theorem dX11_put_80 : decode cX11_put 80 = .ok (.i2b, 1) := by decide +kernel
theorem dX11_put_81 : decode cX11_put 81 = .ok (.goto 19, 3) := by decide +kernel
theorem dX11_put_84 : decode cX11_put 84 = .ok (.aload_n 0, 1) := by decide +kernel
theorem dX11_put_85 : decode cX11_put 85 = .ok (.getfield 39, 3) := by decide +kernel
theorem dX11_put_88 : decode cX11_put 88 = .ok (.iload_n 1, 1) := by decide +kernel
theorem dX11_put_89 : decode cX11_put 89 = .ok (.iaload, 1) := by decide +kernel
theorem dX11_put_90 : decode cX11_put 90 = .ok (.iconst 1, 1) := by decide +kernel
theorem dX11_put_91 : decode cX11_put 91 = .ok (.if_icmp .ne 8, 3) := by decide +kernel
theorem dX11_put_94 : decode cX11_put 94 = .ok (.iload_n 3, 1) := by decide +kernel
theorem dX11_put_95 : decode cX11_put 95 = .ok (.i2s, 1) := by decide +kernel
theorem dX11_put_96 : decode cX11_put 96 = .ok (.goto 4, 3) := by decide +kernel
theorem dX11_put_99 : decode cX11_put 99 = .ok (.iload_n 3, 1) := by decide +kernel
theorem dX11_put_100 : decode cX11_put 100 = .ok (.iastore, 1) := by decide +kernel
theorem dX11_put_101 : decode cX11_put 101 = .ok (.iconst 1, 1) := by decide +kernel
theorem dX11_put_102 : decode cX11_put 102 = .ok (.ireturn, 1) := by decide +kernel
set_option maxRecDepth 20000 in
theorem ggX11_at_X11_within : GoodIn wsX11_at wsX11_within := goodIn_r _ [11] (by decide +kernel) (by decide +kernel)
set_option maxRecDepth 20000 in
theorem gX11_at_X11_within : GoodIn wsX11_at (va_wsS RX11 80 yX11_within wsX11_within) := goodIn_app (goodIn_of _ (by decide +kernel)) ggX11_at_X11_within
set_option maxRecDepth 20000 in
theorem ggX11_at_X11_lost : GoodIn wsX11_at wsX11_lost := goodIn_r _ [15, 1, 4, 16, 17, 18, 19, 20, 21, 22, 23, 24, 25, 26, 27, 28, 29, 30, 31, 32, 33, 34, 35, 36, 37, 38, 39, 40, 41, 42] (by decide +kernel) (by decide +kernel)
set_option maxRecDepth 20000 in
theorem gX11_at_X11_lost : GoodIn wsX11_at (wsV RX11 204 RX11 yX11_lost wsX11_lost) := goodIn_app (goodIn_of _ (by decide +kernel)) ggX11_at_X11_lost
theorem dX11_at_0 : decode cX11_at 0 = .ok (.aload_n 0, 1) := by decide +kernel
theorem dX11_at_1 : decode cX11_at 1 = .ok (.iconst 0, 1) := by decide +kernel
theorem dX11_at_2 : decode cX11_at 2 = .ok (.putfield 69, 3) := by decide +kernel
theorem dX11_at_5 : decode cX11_at 5 = .ok (.iload_n 1, 1) := by decide +kernel
theorem dX11_at_6 : decode cX11_at 6 = .ok (.i2l, 1) := by decide +kernel
theorem dX11_at_7 : decode cX11_at 7 = .ok (.lconst 0, 1) := by decide +kernel
theorem dX11_at_8 : decode cX11_at 8 = .ok (.ldc2_w 165, 3) := by decide +kernel
theorem dX11_at_11 : decode cX11_at 11 = .ok (.invokestatic 80, 3) := by decide +kernel
theorem dX11_at_14 : decode cX11_at 14 = .ok (.ifCond .eq 15, 3) := by decide +kernel
theorem dX11_at_17 : decode cX11_at 17 = .ok (.iload_n 3, 1) := by decide +kernel
theorem dX11_at_18 : decode cX11_at 18 = .ok (.i2l, 1) := by decide +kernel
theorem dX11_at_19 : decode cX11_at 19 = .ok (.lconst 0, 1) := by decide +kernel
theorem dX11_at_20 : decode cX11_at 20 = .ok (.ldc2_w 76, 3) := by decide +kernel
theorem dX11_at_23 : decode cX11_at 23 = .ok (.invokestatic 80, 3) := by decide +kernel
theorem dX11_at_26 : decode cX11_at 26 = .ok (.ifCond .ne 7, 3) := by decide +kernel
theorem dX11_at_29 : decode cX11_at 29 = .ok (.ldc2_w 72, 3) := by decide +kernel
theorem dX11_at_32 : decode cX11_at 32 = .ok (.lreturn, 1) := by decide +kernel
theorem dX11_at_33 : decode cX11_at 33 = .ok (.aload_n 0, 1) := by decide +kernel
theorem dX11_at_34 : decode cX11_at 34 = .ok (.getfield 39, 3) := by decide +kernel
theorem dX11_at_37 : decode cX11_at 37 = .ok (.iload_n 1, 1) := by decide +kernel
theorem dX11_at_38 : decode cX11_at 38 = .ok (.iaload, 1) := by decide +kernel
theorem dX11_at_39 : decode cX11_at 39 = .ok (.bipush (-9), 2) := by decide +kernel
theorem dX11_at_41 : decode cX11_at 41 = .ok (.if_icmp .eq 19, 3) := by decide +kernel
theorem dX11_at_44 : decode cX11_at 44 = .ok (.aload_n 0, 1) := by decide +kernel
theorem dX11_at_45 : decode cX11_at 45 = .ok (.getfield 39, 3) := by decide +kernel
theorem dX11_at_48 : decode cX11_at 48 = .ok (.iload_n 1, 1) := by decide +kernel
theorem dX11_at_49 : decode cX11_at 49 = .ok (.iaload, 1) := by decide +kernel
theorem dX11_at_50 : decode cX11_at 50 = .ok (.iload_n 3, 1) := by decide +kernel
theorem dX11_at_51 : decode cX11_at 51 = .ok (.if_icmp .eq 9, 3) := by decide +kernel
theorem dX11_at_54 : decode cX11_at 54 = .ok (.aload_n 0, 1) := by decide +kernel
theorem dX11_at_55 : decode cX11_at 55 = .ok (.iconst 2, 1) := by decide +kernel
theorem dX11_at_56 : decode cX11_at 56 = .ok (.invokevirtual 204, 3) := by decide +kernel
theorem dX11_at_59 : decode cX11_at 59 = .ok (.lreturn, 1) := by decide +kernel
theorem dX11_at_60 : decode cX11_at 60 = .ok (.aload_n 0, 1) := by decide +kernel
theorem dX11_at_61 : decode cX11_at 61 = .ok (.getfield 39, 3) := by decide +kernel
theorem dX11_at_64 : decode cX11_at 64 = .ok (.iload_n 1, 1) := by decide +kernel
theorem dX11_at_65 : decode cX11_at 65 = .ok (.iaload, 1) := by decide +kernel
theorem dX11_at_66 : decode cX11_at 66 = .ok (.bipush (-9), 2) := by decide +kernel
theorem dX11_at_68 : decode cX11_at 68 = .ok (.if_icmp .ne 9, 3) := by decide +kernel
theorem dX11_at_71 : decode cX11_at 71 = .ok (.aload_n 0, 1) := by decide +kernel
theorem dX11_at_72 : decode cX11_at 72 = .ok (.iconst 1, 1) := by decide +kernel
theorem dX11_at_73 : decode cX11_at 73 = .ok (.invokevirtual 204, 3) := by decide +kernel
theorem dX11_at_76 : decode cX11_at 76 = .ok (.lreturn, 1) := by decide +kernel
theorem dX11_at_77 : decode cX11_at 77 = .ok (.iload_n 2, 1) := by decide +kernel
theorem dX11_at_78 : decode cX11_at 78 = .ok (.i2l, 1) := by decide +kernel
theorem dX11_at_79 : decode cX11_at 79 = .ok (.lconst 0, 1) := by decide +kernel
theorem dX11_at_80 : decode cX11_at 80 = .ok (.aload_n 0, 1) := by decide +kernel
theorem dX11_at_81 : decode cX11_at 81 = .ok (.getfield 42, 3) := by decide +kernel
theorem dX11_at_84 : decode cX11_at 84 = .ok (.iload_n 1, 1) := by decide +kernel
theorem dX11_at_85 : decode cX11_at 85 = .ok (.iaload, 1) := by decide +kernel
theorem dX11_at_86 : decode cX11_at 86 = .ok (.i2l, 1) := by decide +kernel
theorem dX11_at_87 : decode cX11_at 87 = .ok (.lconst 1, 1) := by decide +kernel
theorem dX11_at_88 : decode cX11_at 88 = .ok (.lsub, 1) := by decide +kernel
theorem dX11_at_89 : decode cX11_at 89 = .ok (.invokestatic 80, 3) := by decide +kernel
theorem dX11_at_92 : decode cX11_at 92 = .ok (.ifCond .ne 9, 3) := by decide +kernel
theorem dX11_at_95 : decode cX11_at 95 = .ok (.aload_n 0, 1) := by decide +kernel
theorem dX11_at_96 : decode cX11_at 96 = .ok (.iconst 3, 1) := by decide +kernel
theorem dX11_at_97 : decode cX11_at 97 = .ok (.invokevirtual 204, 3) := by decide +kernel
theorem dX11_at_100 : decode cX11_at 100 = .ok (.lreturn, 1) := by decide +kernel
theorem dX11_at_101 : decode cX11_at 101 = .ok (.aload_n 0, 1) := by decide +kernel
theorem dX11_at_102 : decode cX11_at 102 = .ok (.getfield 45, 3) := by decide +kernel
theorem dX11_at_105 : decode cX11_at 105 = .ok (.bipush 24, 2) := by decide +kernel
theorem dX11_at_107 : decode cX11_at 107 = .ok (.iload_n 1, 1) := by decide +kernel
theorem dX11_at_108 : decode cX11_at 108 = .ok (.imul, 1) := by decide +kernel
theorem dX11_at_109 : decode cX11_at 109 = .ok (.iload_n 2, 1) := by decide +kernel
theorem dX11_at_110 : decode cX11_at 110 = .ok (.iadd, 1) := by decide +kernel
theorem dX11_at_111 : decode cX11_at 111 = .ok (.iaload, 1) := by decide +kernel
theorem dX11_at_112 : decode cX11_at 112 = .ok (.i2l, 1) := by decide +kernel
theorem dX11_at_113 : decode cX11_at 113 = .ok (.lreturn, 1) := by decide +kernel
theorem dX11_begins_0 : decode cX11_begins 0 = .ok (.aload_n 0, 1) := by decide +kernel
theorem dX11_begins_1 : decode cX11_begins 1 = .ok (.bipush 31, 2) := by decide +kernel
theorem dX11_begins_3 : decode cX11_begins 3 = .ok (.aload_n 0, 1) := by decide +kernel
theorem dX11_begins_4 : decode cX11_begins 4 = .ok (.getfield 207, 3) := by decide +kernel
theorem dX11_begins_7 : decode cX11_begins 7 = .ok (.imul, 1) := by decide +kernel
theorem dX11_begins_8 : decode cX11_begins 8 = .ok (.iload_n 1, 1) := by decide +kernel
theorem dX11_begins_9 : decode cX11_begins 9 = .ok (.iadd, 1) := by decide +kernel
theorem dX11_begins_10 : decode cX11_begins 10 = .ok (.putfield 207, 3) := by decide +kernel
theorem dX11_begins_13 : decode cX11_begins 13 = .ok (.return_, 1) := by decide +kernel
set_option maxRecDepth 20000 in
theorem ggX11_tell_X11_isTrader : GoodIn wsX11_tell wsX11_isTrader := goodIn_r _ [7, 8, 14, 15, 16, 17, 18, 19, 20, 21, 22, 23, 24, 25, 26, 27, 28, 29, 30, 31, 32, 33, 34, 35, 36, 37, 38, 39, 40] (by decide +kernel) (by decide +kernel)
set_option maxRecDepth 20000 in
theorem gX11_tell_X11_isTrader : GoodIn wsX11_tell (wsV RX11 136 RX11 yX11_isTrader wsX11_isTrader) := goodIn_app (goodIn_of _ (by decide +kernel)) ggX11_tell_X11_isTrader
set_option maxRecDepth 20000 in
theorem ggX11_tell_X11_begins : GoodIn wsX11_tell wsX11_begins := goodIn_r _ [12, 13, 14, 15, 16, 17, 18, 19, 20, 21, 22, 23, 24, 25, 26, 27, 28, 29, 30, 31, 32, 33, 34, 35, 36, 37, 38, 39, 40] (by decide +kernel) (by decide +kernel)
set_option maxRecDepth 20000 in
theorem gX11_tell_X11_begins : GoodIn wsX11_tell (wsV RX11 210 RX11 yX11_begins wsX11_begins) := goodIn_app (goodIn_of _ (by decide +kernel)) ggX11_tell_X11_begins
theorem dX11_tell_0 : decode cX11_tell 0 = .ok (.aload_n 0, 1) := by decide +kernel
theorem dX11_tell_1 : decode cX11_tell 1 = .ok (.iload_n 1, 1) := by decide +kernel
theorem dX11_tell_2 : decode cX11_tell 2 = .ok (.invokevirtual 136, 3) := by decide +kernel
theorem dX11_tell_5 : decode cX11_tell 5 = .ok (.ifCond .ne 5, 3) := by decide +kernel
theorem dX11_tell_8 : decode cX11_tell 8 = .ok (.iconst (-1), 1) := by decide +kernel
theorem dX11_tell_9 : decode cX11_tell 9 = .ok (.ireturn, 1) := by decide +kernel
theorem dX11_tell_10 : decode cX11_tell 10 = .ok (.aload_n 0, 1) := by decide +kernel
theorem dX11_tell_11 : decode cX11_tell 11 = .ok (.getfield 23, 3) := by decide +kernel
theorem dX11_tell_14 : decode cX11_tell 14 = .ok (.iload_n 1, 1) := by decide +kernel
theorem dX11_tell_15 : decode cX11_tell 15 = .ok (.iaload, 1) := by decide +kernel
theorem dX11_tell_16 : decode cX11_tell 16 = .ok (.lookupswitch 80 #[(1, 28), (2, 48)], 28) := by decide +kernel
theorem dX11_tell_44 : decode cX11_tell 44 = .ok (.aload_n 0, 1) := by decide +kernel
theorem dX11_tell_45 : decode cX11_tell 45 = .ok (.iconst 2, 1) := by decide +kernel
theorem dX11_tell_46 : decode cX11_tell 46 = .ok (.invokevirtual 210, 3) := by decide +kernel
theorem dX11_tell_49 : decode cX11_tell 49 = .ok (.aload_n 0, 1) := by decide +kernel
theorem dX11_tell_50 : decode cX11_tell 50 = .ok (.iconst 1, 1) := by decide +kernel
theorem dX11_tell_51 : decode cX11_tell 51 = .ok (.invokevirtual 210, 3) := by decide +kernel
theorem dX11_tell_54 : decode cX11_tell 54 = .ok (.aload_n 0, 1) := by decide +kernel
theorem dX11_tell_55 : decode cX11_tell 55 = .ok (.getfield 30, 3) := by decide +kernel
theorem dX11_tell_58 : decode cX11_tell 58 = .ok (.iload_n 1, 1) := by decide +kernel
theorem dX11_tell_59 : decode cX11_tell 59 = .ok (.iaload, 1) := by decide +kernel
theorem dX11_tell_60 : decode cX11_tell 60 = .ok (.bipush 100, 2) := by decide +kernel
theorem dX11_tell_62 : decode cX11_tell 62 = .ok (.iadd, 1) := by decide +kernel
theorem dX11_tell_63 : decode cX11_tell 63 = .ok (.ireturn, 1) := by decide +kernel
theorem dX11_tell_64 : decode cX11_tell 64 = .ok (.aload_n 0, 1) := by decide +kernel
theorem dX11_tell_65 : decode cX11_tell 65 = .ok (.iconst 3, 1) := by decide +kernel
theorem dX11_tell_66 : decode cX11_tell 66 = .ok (.invokevirtual 210, 3) := by decide +kernel
theorem dX11_tell_69 : decode cX11_tell 69 = .ok (.aload_n 0, 1) := by decide +kernel
theorem dX11_tell_70 : decode cX11_tell 70 = .ok (.iconst 2, 1) := by decide +kernel
theorem dX11_tell_71 : decode cX11_tell 71 = .ok (.invokevirtual 210, 3) := by decide +kernel
theorem dX11_tell_74 : decode cX11_tell 74 = .ok (.aload_n 0, 1) := by decide +kernel
theorem dX11_tell_75 : decode cX11_tell 75 = .ok (.iconst 1, 1) := by decide +kernel
theorem dX11_tell_76 : decode cX11_tell 76 = .ok (.invokevirtual 210, 3) := by decide +kernel
theorem dX11_tell_79 : decode cX11_tell 79 = .ok (.aload_n 0, 1) := by decide +kernel
theorem dX11_tell_80 : decode cX11_tell 80 = .ok (.iconst 1, 1) := by decide +kernel
theorem dX11_tell_81 : decode cX11_tell 81 = .ok (.invokevirtual 210, 3) := by decide +kernel
theorem dX11_tell_84 : decode cX11_tell 84 = .ok (.iconst 2, 1) := by decide +kernel
theorem dX11_tell_85 : decode cX11_tell 85 = .ok (.aload_n 0, 1) := by decide +kernel
theorem dX11_tell_86 : decode cX11_tell 86 = .ok (.getfield 30, 3) := by decide +kernel
theorem dX11_tell_89 : decode cX11_tell 89 = .ok (.iload_n 1, 1) := by decide +kernel
theorem dX11_tell_90 : decode cX11_tell 90 = .ok (.iaload, 1) := by decide +kernel
theorem dX11_tell_91 : decode cX11_tell 91 = .ok (.imul, 1) := by decide +kernel
theorem dX11_tell_92 : decode cX11_tell 92 = .ok (.bipush 100, 2) := by decide +kernel
theorem dX11_tell_94 : decode cX11_tell 94 = .ok (.iadd, 1) := by decide +kernel
theorem dX11_tell_95 : decode cX11_tell 95 = .ok (.ireturn, 1) := by decide +kernel
theorem dX11_tell_96 : decode cX11_tell 96 = .ok (.aload_n 0, 1) := by decide +kernel
theorem dX11_tell_97 : decode cX11_tell 97 = .ok (.iconst 1, 1) := by decide +kernel
theorem dX11_tell_98 : decode cX11_tell 98 = .ok (.invokevirtual 210, 3) := by decide +kernel
theorem dX11_tell_101 : decode cX11_tell 101 = .ok (.aload_n 0, 1) := by decide +kernel
theorem dX11_tell_102 : decode cX11_tell 102 = .ok (.getfield 30, 3) := by decide +kernel
theorem dX11_tell_105 : decode cX11_tell 105 = .ok (.iload_n 1, 1) := by decide +kernel
theorem dX11_tell_106 : decode cX11_tell 106 = .ok (.iaload, 1) := by decide +kernel
theorem dX11_tell_107 : decode cX11_tell 107 = .ok (.ireturn, 1) := by decide +kernel
set_option maxRecDepth 20000 in
theorem ggX11_greet_X11_isTrader : GoodIn wsX11_greet wsX11_isTrader := goodIn_r _ [6, 7, 13, 14, 15, 16, 17, 18, 19, 20, 21, 22, 23, 24, 25, 26, 27, 28, 29, 30, 31, 32, 33, 34, 35, 36, 37, 38, 39] (by decide +kernel) (by decide +kernel)
set_option maxRecDepth 20000 in
theorem gX11_greet_X11_isTrader : GoodIn wsX11_greet (wsV RX11 136 RX11 yX11_isTrader wsX11_isTrader) := goodIn_app (goodIn_of _ (by decide +kernel)) ggX11_greet_X11_isTrader
set_option maxRecDepth 20000 in
theorem ggX11_greet_X11_begins : GoodIn wsX11_greet wsX11_begins := goodIn_r _ [11, 12, 13, 14, 15, 16, 17, 18, 19, 20, 21, 22, 23, 24, 25, 26, 27, 28, 29, 30, 31, 32, 33, 34, 35, 36, 37, 38, 39] (by decide +kernel) (by decide +kernel)
set_option maxRecDepth 20000 in
theorem gX11_greet_X11_begins : GoodIn wsX11_greet (wsV RX11 210 RX11 yX11_begins wsX11_begins) := goodIn_app (goodIn_of _ (by decide +kernel)) ggX11_greet_X11_begins
theorem dX11_greet_0 : decode cX11_greet 0 = .ok (.aload_n 0, 1) := by decide +kernel
theorem dX11_greet_1 : decode cX11_greet 1 = .ok (.iload_n 1, 1) := by decide +kernel
theorem dX11_greet_2 : decode cX11_greet 2 = .ok (.invokevirtual 136, 3) := by decide +kernel
theorem dX11_greet_5 : decode cX11_greet 5 = .ok (.ifCond .ne 5, 3) := by decide +kernel
theorem dX11_greet_8 : decode cX11_greet 8 = .ok (.iconst (-1), 1) := by decide +kernel
theorem dX11_greet_9 : decode cX11_greet 9 = .ok (.ireturn, 1) := by decide +kernel
theorem dX11_greet_10 : decode cX11_greet 10 = .ok (.aload_n 0, 1) := by decide +kernel
theorem dX11_greet_11 : decode cX11_greet 11 = .ok (.aload_n 0, 1) := by decide +kernel
theorem dX11_greet_12 : decode cX11_greet 12 = .ok (.getfield 23, 3) := by decide +kernel
theorem dX11_greet_15 : decode cX11_greet 15 = .ok (.iload_n 1, 1) := by decide +kernel
theorem dX11_greet_16 : decode cX11_greet 16 = .ok (.iaload, 1) := by decide +kernel
theorem dX11_greet_17 : decode cX11_greet 17 = .ok (.iconst 2, 1) := by decide +kernel
theorem dX11_greet_18 : decode cX11_greet 18 = .ok (.if_icmp .ne 7, 3) := by decide +kernel
theorem dX11_greet_21 : decode cX11_greet 21 = .ok (.iconst 5, 1) := by decide +kernel
theorem dX11_greet_22 : decode cX11_greet 22 = .ok (.goto 4, 3) := by decide +kernel
theorem dX11_greet_25 : decode cX11_greet 25 = .ok (.iconst 4, 1) := by decide +kernel
theorem dX11_greet_26 : decode cX11_greet 26 = .ok (.invokevirtual 210, 3) := by decide +kernel
theorem dX11_greet_29 : decode cX11_greet 29 = .ok (.aload_n 0, 1) := by decide +kernel
theorem dX11_greet_30 : decode cX11_greet 30 = .ok (.getfield 23, 3) := by decide +kernel
theorem dX11_greet_33 : decode cX11_greet 33 = .ok (.iload_n 1, 1) := by decide +kernel
theorem dX11_greet_34 : decode cX11_greet 34 = .ok (.iaload, 1) := by decide +kernel
theorem dX11_greet_35 : decode cX11_greet 35 = .ok (.iconst 2, 1) := by decide +kernel
theorem dX11_greet_36 : decode cX11_greet 36 = .ok (.if_icmp .ne 8, 3) := by decide +kernel
theorem dX11_greet_39 : decode cX11_greet 39 = .ok (.bipush 90, 2) := by decide +kernel
theorem dX11_greet_41 : decode cX11_greet 41 = .ok (.goto 4, 3) := by decide +kernel
theorem dX11_greet_44 : decode cX11_greet 44 = .ok (.iload_n 1, 1) := by decide +kernel
theorem dX11_greet_45 : decode cX11_greet 45 = .ok (.ireturn, 1) := by decide +kernel
set_option maxRecDepth 20000 in
theorem ggX11_as_X11_isTrader : GoodIn wsX11_as wsX11_isTrader := goodIn_r _ [8, 9, 17, 18, 19, 20, 21, 22, 23, 24, 25, 26, 27, 28, 29, 30, 31, 32, 33, 34, 35, 36, 37, 38, 39, 40, 41, 42, 43] (by decide +kernel) (by decide +kernel)
set_option maxRecDepth 20000 in
theorem gX11_as_X11_isTrader : GoodIn wsX11_as (wsV RX11 136 RX11 yX11_isTrader wsX11_isTrader) := goodIn_app (goodIn_of _ (by decide +kernel)) ggX11_as_X11_isTrader
set_option maxRecDepth 20000 in
theorem ggX11_as_X11_within : GoodIn wsX11_as wsX11_within := goodIn_r _ [12] (by decide +kernel) (by decide +kernel)
set_option maxRecDepth 20000 in
theorem gX11_as_X11_within : GoodIn wsX11_as (va_wsS RX11 80 yX11_within wsX11_within) := goodIn_app (goodIn_of _ (by decide +kernel)) ggX11_as_X11_within
set_option maxRecDepth 20000 in
theorem ggX11_as_X11_fails : GoodIn wsX11_as wsX11_fails := goodIn_r _ [16, 1, 17, 18, 19, 20, 21, 22, 23, 24, 25, 26, 27, 28, 29, 30, 31, 32, 33, 34, 35, 36, 37, 38, 39, 40, 41, 42, 43] (by decide +kernel) (by decide +kernel)
set_option maxRecDepth 20000 in
theorem gX11_as_X11_fails : GoodIn wsX11_as (wsV RX11 162 RX11 yX11_fails wsX11_fails) := goodIn_app (goodIn_of _ (by decide +kernel)) ggX11_as_X11_fails
theorem dX11_as_0 : decode cX11_as 0 = .ok (.aload_n 0, 1) := by decide +kernel
theorem dX11_as_1 : decode cX11_as 1 = .ok (.iconst 0, 1) := by decide +kernel
theorem dX11_as_2 : decode cX11_as 2 = .ok (.putfield 69, 3) := by decide +kernel
theorem dX11_as_5 : decode cX11_as 5 = .ok (.aload_n 0, 1) := by decide +kernel
theorem dX11_as_6 : decode cX11_as 6 = .ok (.iload_n 1, 1) := by decide +kernel
theorem dX11_as_7 : decode cX11_as 7 = .ok (.invokevirtual 136, 3) := by decide +kernel
theorem dX11_as_10 : decode cX11_as 10 = .ok (.ifCond .ne 5, 3) := by decide +kernel
theorem dX11_as_13 : decode cX11_as 13 = .ok (.iconst (-1), 1) := by decide +kernel
theorem dX11_as_14 : decode cX11_as 14 = .ok (.ireturn, 1) := by decide +kernel
theorem dX11_as_15 : decode cX11_as 15 = .ok (.iload_n 2, 1) := by decide +kernel
theorem dX11_as_16 : decode cX11_as 16 = .ok (.i2l, 1) := by decide +kernel
theorem dX11_as_17 : decode cX11_as 17 = .ok (.lconst 0, 1) := by decide +kernel
theorem dX11_as_18 : decode cX11_as 18 = .ok (.ldc2_w 76, 3) := by decide +kernel
theorem dX11_as_21 : decode cX11_as 21 = .ok (.invokestatic 80, 3) := by decide +kernel
theorem dX11_as_24 : decode cX11_as 24 = .ok (.ifCond .ne 6, 3) := by decide +kernel
theorem dX11_as_27 : decode cX11_as 27 = .ok (.bipush (-2), 2) := by decide +kernel
theorem dX11_as_29 : decode cX11_as 29 = .ok (.ireturn, 1) := by decide +kernel
theorem dX11_as_30 : decode cX11_as 30 = .ok (.aload_n 0, 1) := by decide +kernel
theorem dX11_as_31 : decode cX11_as 31 = .ok (.getfield 23, 3) := by decide +kernel
theorem dX11_as_34 : decode cX11_as 34 = .ok (.iload_n 1, 1) := by decide +kernel
theorem dX11_as_35 : decode cX11_as 35 = .ok (.iaload, 1) := by decide +kernel
theorem dX11_as_36 : decode cX11_as 36 = .ok (.iload_n 2, 1) := by decide +kernel
theorem dX11_as_37 : decode cX11_as 37 = .ok (.if_icmp .lt 7, 3) := by decide +kernel
theorem dX11_as_40 : decode cX11_as 40 = .ok (.iconst 1, 1) := by decide +kernel
theorem dX11_as_41 : decode cX11_as 41 = .ok (.goto 8, 3) := by decide +kernel
theorem dX11_as_44 : decode cX11_as 44 = .ok (.aload_n 0, 1) := by decide +kernel
theorem dX11_as_45 : decode cX11_as 45 = .ok (.iconst 2, 1) := by decide +kernel
theorem dX11_as_46 : decode cX11_as 46 = .ok (.invokevirtual 162, 3) := by decide +kernel
theorem dX11_as_49 : decode cX11_as 49 = .ok (.ireturn, 1) := by decide +kernel
theorem dX11_trace_0 : decode cX11_trace 0 = .ok (.aload_n 0, 1) := by decide +kernel
theorem dX11_trace_1 : decode cX11_trace 1 = .ok (.getfield 207, 3) := by decide +kernel
theorem dX11_trace_4 : decode cX11_trace 4 = .ok (.ireturn, 1) := by decide +kernel
theorem dX11_fault_0 : decode cX11_fault 0 = .ok (.aload_n 0, 1) := by decide +kernel
theorem dX11_fault_1 : decode cX11_fault 1 = .ok (.getfield 69, 3) := by decide +kernel
theorem dX11_fault_4 : decode cX11_fault 4 = .ok (.ireturn, 1) := by decide +kernel
theorem dX11_told_0 : decode cX11_told 0 = .ok (.iload_n 1, 1) := by decide +kernel
theorem dX11_told_1 : decode cX11_told 1 = .ok (.tableswitch 69 0 5 #[39, 44, 49, 54, 59, 64], 39) := by decide +kernel
theorem dX11_told_40 : decode cX11_told 40 = .ok (.aload_n 0, 1) := by decide +kernel
theorem dX11_told_41 : decode cX11_told 41 = .ok (.getfield 7, 3) := by decide +kernel
theorem dX11_told_44 : decode cX11_told 44 = .ok (.ireturn, 1) := by decide +kernel
theorem dX11_told_45 : decode cX11_told 45 = .ok (.aload_n 0, 1) := by decide +kernel
theorem dX11_told_46 : decode cX11_told 46 = .ok (.getfield 13, 3) := by decide +kernel
theorem dX11_told_49 : decode cX11_told 49 = .ok (.ireturn, 1) := by decide +kernel
theorem dX11_told_50 : decode cX11_told 50 = .ok (.aload_n 0, 1) := by decide +kernel
theorem dX11_told_51 : decode cX11_told 51 = .ok (.getfield 93, 3) := by decide +kernel
theorem dX11_told_54 : decode cX11_told 54 = .ok (.ireturn, 1) := by decide +kernel
theorem dX11_told_55 : decode cX11_told 55 = .ok (.aload_n 0, 1) := by decide +kernel
theorem dX11_told_56 : decode cX11_told 56 = .ok (.getfield 96, 3) := by decide +kernel
theorem dX11_told_59 : decode cX11_told 59 = .ok (.ireturn, 1) := by decide +kernel
theorem dX11_told_60 : decode cX11_told 60 = .ok (.aload_n 0, 1) := by decide +kernel
theorem dX11_told_61 : decode cX11_told 61 = .ok (.getfield 99, 3) := by decide +kernel
theorem dX11_told_64 : decode cX11_told 64 = .ok (.ireturn, 1) := by decide +kernel
theorem dX11_told_65 : decode cX11_told 65 = .ok (.aload_n 0, 1) := by decide +kernel
theorem dX11_told_66 : decode cX11_told 66 = .ok (.getfield 90, 3) := by decide +kernel
theorem dX11_told_69 : decode cX11_told 69 = .ok (.ireturn, 1) := by decide +kernel
theorem dX11_told_70 : decode cX11_told 70 = .ok (.bipush (-2), 2) := by decide +kernel
theorem dX11_told_72 : decode cX11_told 72 = .ok (.ireturn, 1) := by decide +kernel
