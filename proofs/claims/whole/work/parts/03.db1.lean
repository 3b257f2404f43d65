theorem dX10_score_0 : decode cX10_score 0 = .ok (.aload_n 0, 1) := by decide +kernel
theorem dX10_score_1 : decode cX10_score 1 = .ok (.getfield 34, 3) := by decide +kernel
theorem dX10_score_4 : decode cX10_score 4 = .ok (.iload_n 1, 1) := by decide +kernel
theorem dX10_score_5 : decode cX10_score 5 = .ok (.invokevirtual 243, 3) := by decide +kernel
theorem dX10_score_8 : decode cX10_score 8 = .ok (.astore_n 3, 1) := by decide +kernel
theorem dX10_score_9 : decode cX10_score 9 = .ok (.aload_n 3, 1) := by decide +kernel
theorem dX10_score_10 : decode cX10_score 10 = .ok (.ifnull 12, 3) := by decide +kernel
theorem dX10_score_13 : decode cX10_score 13 = .ok (.iload_n 2, 1) := by decide +kernel
theorem dX10_score_14 : decode cX10_score 14 = .ok (.ifCond .lt 8, 3) := by decide +kernel
theorem dX10_score_17 : decode cX10_score 17 = .ok (.iload_n 2, 1) := by decide +kernel
theorem dX10_score_18 : decode cX10_score 18 = .ok (.iconst 1, 1) := by decide +kernel
theorem dX10_score_19 : decode cX10_score 19 = .ok (.if_icmp .le 7, 3) := by decide +kernel
theorem dX10_score_22 : decode cX10_score 22 = .ok (.ldc2_w 85, 3) := by decide +kernel
theorem dX10_score_25 : decode cX10_score 25 = .ok (.lreturn, 1) := by decide +kernel
theorem dX10_score_26 : decode cX10_score 26 = .ok (.aload_n 3, 1) := by decide +kernel
theorem dX10_score_27 : decode cX10_score 27 = .ok (.aload_n 3, 1) := by decide +kernel
theorem dX10_score_28 : decode cX10_score 28 = .ok (.invokevirtual 246, 3) := by decide +kernel
theorem dX10_score_31 : decode cX10_score 31 = .ok (.invokevirtual 247, 3) := by decide +kernel
theorem dX10_score_34 : decode cX10_score 34 = .ok (.aload_n 3, 1) := by decide +kernel
theorem dX10_score_35 : decode cX10_score 35 = .ok (.invokevirtual 250, 3) := by decide +kernel
theorem dX10_score_38 : decode cX10_score 38 = .ok (.iload_n 2, 1) := by decide +kernel
theorem dX10_score_39 : decode cX10_score 39 = .ok (.invokestatic 253, 3) := by decide +kernel
theorem dX10_score_42 : decode cX10_score 42 = .ok (.lreturn, 1) := by decide +kernel
set_option maxRecDepth 20000 in
theorem ggX10_honest_X10_findTrader : GoodIn wsX10_honest wsX10_findTrader := goodIn_r _ [8, 9, 10, 69, 70, 71, 72, 73, 74, 75, 76, 77] (by decide +kernel) (by decide +kernel)
set_option maxRecDepth 20000 in
theorem gX10_honest_X10_findTrader : GoodIn wsX10_honest (wsV RX10 87 RX10 yX10_findTrader wsX10_findTrader) := goodIn_app (goodIn_of _ (by decide +kernel)) ggX10_honest_X10_findTrader
set_option maxRecDepth 20000 in
theorem ggX10_honest_X2_find : GoodIn wsX10_honest wsX2_find := goodIn_r _ [15, 16, 17, 78, 79] (by decide +kernel) (by decide +kernel)
set_option maxRecDepth 20000 in
theorem gX10_honest_X2_find : GoodIn wsX10_honest (wsV RX10 243 RX2 yX2_find wsX2_find) := goodIn_app (goodIn_of _ (by decide +kernel)) ggX10_honest_X2_find
set_option maxRecDepth 20000 in
theorem ggX10_honest_X3_cases : GoodIn wsX10_honest wsX3_cases := goodIn_r _ [22, 23, 80, 81, 82, 83, 84, 85] (by decide +kernel) (by decide +kernel)
set_option maxRecDepth 20000 in
theorem gX10_honest_X3_cases : GoodIn wsX10_honest (wsV RX10 218 RX3 yX3_cases wsX3_cases) := goodIn_app (goodIn_of _ (by decide +kernel)) ggX10_honest_X3_cases
set_option maxRecDepth 20000 in
theorem ggX10_honest_X5_weightOf : GoodIn wsX10_honest wsX5_weightOf := goodIn_r _ [28, 29, 86, 87, 88, 89, 90, 91, 92, 93, 94, 95, 96, 97, 98, 99, 100] (by decide +kernel) (by decide +kernel)
set_option maxRecDepth 20000 in
theorem gX10_honest_X5_weightOf : GoodIn wsX10_honest (wsV RX10 173 RX5 yX5_weightOf wsX5_weightOf) := goodIn_app (goodIn_of _ (by decide +kernel)) ggX10_honest_X5_weightOf
set_option maxRecDepth 20000 in
theorem gX10_honest_X5_weightOf_u173X7 : GoodIn wsX10_honest (va_wsU RX10 173 RX7 "BetMaker$Plain" ⟨"BetMaker$Plain", "weightOf", "(I)I"⟩ yX5_weightOf wsX5_weightOf) := goodIn_app (goodIn_of _ (by decide +kernel)) ggX10_honest_X5_weightOf
set_option maxRecDepth 20000 in
theorem gX10_honest_X5_weightOf_u173X9 : GoodIn wsX10_honest (va_wsU RX10 173 RX9 "BetMaker$Plain" ⟨"BetMaker$Plain", "weightOf", "(I)I"⟩ yX5_weightOf wsX5_weightOf) := goodIn_app (goodIn_of _ (by decide +kernel)) ggX10_honest_X5_weightOf
set_option maxRecDepth 20000 in
theorem ggX10_honest_X1_scoreUpper : GoodIn wsX10_honest wsX1_scoreUpper := goodIn_r _ [38, 39, 40, 41, 42, 43, 44, 37, 45, 46, 101, 102, 103, 104] (by decide +kernel) (by decide +kernel)
set_option maxRecDepth 20000 in
theorem gX10_honest_X1_scoreUpper : GoodIn wsX10_honest (wsV RX10 247 RX1 yX1_scoreUpper wsX1_scoreUpper) := goodIn_app (goodIn_of _ (by decide +kernel)) ggX10_honest_X1_scoreUpper
set_option maxRecDepth 20000 in
theorem ggX10_honest_X1_scoreLower : GoodIn wsX10_honest wsX1_scoreLower := goodIn_r _ [50, 40, 101, 102, 103, 104] (by decide +kernel) (by decide +kernel)
set_option maxRecDepth 20000 in
theorem gX10_honest_X1_scoreLower : GoodIn wsX10_honest (wsV RX10 250 RX1 yX1_scoreLower wsX1_scoreLower) := goodIn_app (goodIn_of _ (by decide +kernel)) ggX10_honest_X1_scoreLower
set_option maxRecDepth 20000 in
theorem ggX10_honest_X5_weightSum : GoodIn wsX10_honest wsX5_weightSum := goodIn_r _ [54, 29, 86, 87, 88, 89, 90, 91, 92, 93, 94, 95, 96, 97, 98, 99, 100] (by decide +kernel) (by decide +kernel)
set_option maxRecDepth 20000 in
theorem gX10_honest_X5_weightSum : GoodIn wsX10_honest (wsV RX10 163 RX5 yX5_weightSum wsX5_weightSum) := goodIn_app (goodIn_of _ (by decide +kernel)) ggX10_honest_X5_weightSum
set_option maxRecDepth 20000 in
theorem gX10_honest_X5_weightSum_u163X7 : GoodIn wsX10_honest (va_wsU RX10 163 RX7 "BetMaker$Plain" ⟨"BetMaker$Plain", "weightSum", "()J"⟩ yX5_weightSum wsX5_weightSum) := goodIn_app (goodIn_of _ (by decide +kernel)) ggX10_honest_X5_weightSum
set_option maxRecDepth 20000 in
theorem gX10_honest_X5_weightSum_u163X9 : GoodIn wsX10_honest (va_wsU RX10 163 RX9 "BetMaker$Plain" ⟨"BetMaker$Plain", "weightSum", "()J"⟩ yX5_weightSum wsX5_weightSum) := goodIn_app (goodIn_of _ (by decide +kernel)) ggX10_honest_X5_weightSum
set_option maxRecDepth 20000 in
theorem ggX10_honest_X10_leastTerms : GoodIn wsX10_honest wsX10_leastTerms := goodIn_r _ [61, 62, 63, 64, 65, 2, 66, 67, 7, 68] (by decide +kernel) (by decide +kernel)
set_option maxRecDepth 20000 in
theorem gX10_honest_X10_leastTerms : GoodIn wsX10_honest (va_wsS RX10 253 yX10_leastTerms wsX10_leastTerms) := goodIn_app (goodIn_of _ (by decide +kernel)) ggX10_honest_X10_leastTerms
theorem dX10_honest_0 : decode cX10_honest 0 = .ok (.aload_n 0, 1) := by decide +kernel
theorem dX10_honest_1 : decode cX10_honest 1 = .ok (.iload_n 1, 1) := by decide +kernel
theorem dX10_honest_2 : decode cX10_honest 2 = .ok (.invokevirtual 87, 3) := by decide +kernel
theorem dX10_honest_5 : decode cX10_honest 5 = .ok (.astore 4, 2) := by decide +kernel
theorem dX10_honest_7 : decode cX10_honest 7 = .ok (.aload_n 0, 1) := by decide +kernel
theorem dX10_honest_8 : decode cX10_honest 8 = .ok (.getfield 34, 3) := by decide +kernel
theorem dX10_honest_11 : decode cX10_honest 11 = .ok (.iload_n 2, 1) := by decide +kernel
theorem dX10_honest_12 : decode cX10_honest 12 = .ok (.invokevirtual 243, 3) := by decide +kernel
theorem dX10_honest_15 : decode cX10_honest 15 = .ok (.astore 5, 2) := by decide +kernel
theorem dX10_honest_17 : decode cX10_honest 17 = .ok (.aload 4, 2) := by decide +kernel
theorem dX10_honest_19 : decode cX10_honest 19 = .ok (.ifnull 17, 3) := by decide +kernel
theorem dX10_honest_22 : decode cX10_honest 22 = .ok (.aload 5, 2) := by decide +kernel
theorem dX10_honest_24 : decode cX10_honest 24 = .ok (.ifnull 12, 3) := by decide +kernel
theorem dX10_honest_27 : decode cX10_honest 27 = .ok (.iload_n 3, 1) := by decide +kernel
theorem dX10_honest_28 : decode cX10_honest 28 = .ok (.ifCond .lt 8, 3) := by decide +kernel
theorem dX10_honest_31 : decode cX10_honest 31 = .ok (.iload_n 3, 1) := by decide +kernel
theorem dX10_honest_32 : decode cX10_honest 32 = .ok (.iconst 1, 1) := by decide +kernel
theorem dX10_honest_33 : decode cX10_honest 33 = .ok (.if_icmp .le 7, 3) := by decide +kernel
theorem dX10_honest_36 : decode cX10_honest 36 = .ok (.ldc2_w 85, 3) := by decide +kernel
theorem dX10_honest_39 : decode cX10_honest 39 = .ok (.lreturn, 1) := by decide +kernel
theorem dX10_honest_40 : decode cX10_honest 40 = .ok (.lconst 0, 1) := by decide +kernel
theorem dX10_honest_41 : decode cX10_honest 41 = .ok (.lstore 6, 2) := by decide +kernel
theorem dX10_honest_43 : decode cX10_honest 43 = .ok (.iconst 0, 1) := by decide +kernel
theorem dX10_honest_44 : decode cX10_honest 44 = .ok (.istore 8, 2) := by decide +kernel
theorem dX10_honest_46 : decode cX10_honest 46 = .ok (.iload 8, 2) := by decide +kernel
theorem dX10_honest_48 : decode cX10_honest 48 = .ok (.aload_n 0, 1) := by decide +kernel
theorem dX10_honest_49 : decode cX10_honest 49 = .ok (.getfield 12, 3) := by decide +kernel
theorem dX10_honest_52 : decode cX10_honest 52 = .ok (.invokevirtual 218, 3) := by decide +kernel
theorem dX10_honest_55 : decode cX10_honest 55 = .ok (.if_icmp .ge 30, 3) := by decide +kernel
theorem dX10_honest_58 : decode cX10_honest 58 = .ok (.lload 6, 2) := by decide +kernel
theorem dX10_honest_60 : decode cX10_honest 60 = .ok (.aload 4, 2) := by decide +kernel
theorem dX10_honest_62 : decode cX10_honest 62 = .ok (.iload 8, 2) := by decide +kernel
theorem dX10_honest_64 : decode cX10_honest 64 = .ok (.invokevirtual 173, 3) := by decide +kernel
theorem dX10_honest_67 : decode cX10_honest 67 = .ok (.i2l, 1) := by decide +kernel
theorem dX10_honest_68 : decode cX10_honest 68 = .ok (.aload 5, 2) := by decide +kernel
theorem dX10_honest_70 : decode cX10_honest 70 = .ok (.iload 8, 2) := by decide +kernel
theorem dX10_honest_72 : decode cX10_honest 72 = .ok (.invokevirtual 247, 3) := by decide +kernel
theorem dX10_honest_75 : decode cX10_honest 75 = .ok (.lmul, 1) := by decide +kernel
theorem dX10_honest_76 : decode cX10_honest 76 = .ok (.ladd, 1) := by decide +kernel
theorem dX10_honest_77 : decode cX10_honest 77 = .ok (.lstore 6, 2) := by decide +kernel
theorem dX10_honest_79 : decode cX10_honest 79 = .ok (.iinc 8 1, 3) := by decide +kernel
theorem dX10_honest_82 : decode cX10_honest 82 = .ok (.goto (-36), 3) := by decide +kernel
theorem dX10_honest_85 : decode cX10_honest 85 = .ok (.lload 6, 2) := by decide +kernel
theorem dX10_honest_87 : decode cX10_honest 87 = .ok (.aload 5, 2) := by decide +kernel
theorem dX10_honest_89 : decode cX10_honest 89 = .ok (.invokevirtual 250, 3) := by decide +kernel
theorem dX10_honest_92 : decode cX10_honest 92 = .ok (.aload 4, 2) := by decide +kernel
theorem dX10_honest_94 : decode cX10_honest 94 = .ok (.invokevirtual 163, 3) := by decide +kernel
theorem dX10_honest_97 : decode cX10_honest 97 = .ok (.lmul, 1) := by decide +kernel
theorem dX10_honest_98 : decode cX10_honest 98 = .ok (.iload_n 3, 1) := by decide +kernel
theorem dX10_honest_99 : decode cX10_honest 99 = .ok (.invokestatic 253, 3) := by decide +kernel
theorem dX10_honest_102 : decode cX10_honest 102 = .ok (.lreturn, 1) := by decide +kernel
set_option maxRecDepth 20000 in
theorem ggX10_held_X3_isCase : GoodIn wsX10_held wsX3_isCase := goodIn_r _ [8, 9, 58, 59, 60, 61, 62, 63] (by decide +kernel) (by decide +kernel)
set_option maxRecDepth 20000 in
theorem gX10_held_X3_isCase : GoodIn wsX10_held (wsV RX10 118 RX3 yX3_isCase wsX3_isCase) := goodIn_app (goodIn_of _ (by decide +kernel)) ggX10_held_X3_isCase
set_option maxRecDepth 20000 in
theorem ggX10_held_X2_countGiven : GoodIn wsX10_held wsX2_countGiven := goodIn_r _ [14, 15, 16, 17, 18, 13, 19, 20, 21, 22, 23, 24, 25, 26, 27, 28, 29, 30, 31, 32, 64, 65, 66, 67, 68, 69] (by decide +kernel) (by decide +kernel)
set_option maxRecDepth 20000 in
theorem gX10_held_X2_countGiven : GoodIn wsX10_held (wsV RX10 257 RX2 yX2_countGiven wsX2_countGiven) := goodIn_app (goodIn_of _ (by decide +kernel)) ggX10_held_X2_countGiven
set_option maxRecDepth 20000 in
theorem ggX10_held_X2_countCame : GoodIn wsX10_held wsX2_countCame := goodIn_r _ [36, 15, 16, 17, 18, 13, 19, 20, 37, 38, 39, 24, 40, 41, 21, 22, 23, 25, 26, 27, 28, 29, 30, 31, 32, 64, 65, 66, 67, 68, 69] (by decide +kernel) (by decide +kernel)
set_option maxRecDepth 20000 in
theorem gX10_held_X2_countCame : GoodIn wsX10_held (wsV RX10 260 RX2 yX2_countCame wsX2_countCame) := goodIn_app (goodIn_of _ (by decide +kernel)) ggX10_held_X2_countCame
set_option maxRecDepth 20000 in
theorem ggX10_held_X10_howLikely : GoodIn wsX10_held wsX10_howLikely := goodIn_r _ [45, 46, 47, 44, 48] (by decide +kernel) (by decide +kernel)
set_option maxRecDepth 20000 in
theorem gX10_held_X10_howLikely : GoodIn wsX10_held (va_wsS RX10 263 yX10_howLikely wsX10_howLikely) := goodIn_app (goodIn_of _ (by decide +kernel)) ggX10_held_X10_howLikely
theorem dX10_held_0 : decode cX10_held 0 = .ok (.aload_n 0, 1) := by decide +kernel
theorem dX10_held_1 : decode cX10_held 1 = .ok (.getfield 12, 3) := by decide +kernel
theorem dX10_held_4 : decode cX10_held 4 = .ok (.iload_n 1, 1) := by decide +kernel
theorem dX10_held_5 : decode cX10_held 5 = .ok (.invokevirtual 118, 3) := by decide +kernel
theorem dX10_held_8 : decode cX10_held 8 = .ok (.ifCond .eq 13, 3) := by decide +kernel
theorem dX10_held_11 : decode cX10_held 11 = .ok (.iload_n 2, 1) := by decide +kernel
theorem dX10_held_12 : decode cX10_held 12 = .ok (.ifCond .lt 9, 3) := by decide +kernel
theorem dX10_held_15 : decode cX10_held 15 = .ok (.iload_n 2, 1) := by decide +kernel
theorem dX10_held_16 : decode cX10_held 16 = .ok (.bipush 10, 2) := by decide +kernel
theorem dX10_held_18 : decode cX10_held 18 = .ok (.if_icmp .le 7, 3) := by decide +kernel
theorem dX10_held_21 : decode cX10_held 21 = .ok (.ldc2_w 85, 3) := by decide +kernel
theorem dX10_held_24 : decode cX10_held 24 = .ok (.lreturn, 1) := by decide +kernel
theorem dX10_held_25 : decode cX10_held 25 = .ok (.aload_n 0, 1) := by decide +kernel
theorem dX10_held_26 : decode cX10_held 26 = .ok (.getfield 34, 3) := by decide +kernel
theorem dX10_held_29 : decode cX10_held 29 = .ok (.iload_n 1, 1) := by decide +kernel
theorem dX10_held_30 : decode cX10_held 30 = .ok (.iload_n 2, 1) := by decide +kernel
theorem dX10_held_31 : decode cX10_held 31 = .ok (.invokevirtual 257, 3) := by decide +kernel
theorem dX10_held_34 : decode cX10_held 34 = .ok (.istore 4, 2) := by decide +kernel
theorem dX10_held_36 : decode cX10_held 36 = .ok (.aload_n 0, 1) := by decide +kernel
theorem dX10_held_37 : decode cX10_held 37 = .ok (.getfield 34, 3) := by decide +kernel
theorem dX10_held_40 : decode cX10_held 40 = .ok (.iload_n 1, 1) := by decide +kernel
theorem dX10_held_41 : decode cX10_held 41 = .ok (.iload_n 2, 1) := by decide +kernel
theorem dX10_held_42 : decode cX10_held 42 = .ok (.invokevirtual 260, 3) := by decide +kernel
theorem dX10_held_45 : decode cX10_held 45 = .ok (.istore 5, 2) := by decide +kernel
theorem dX10_held_47 : decode cX10_held 47 = .ok (.iload_n 3, 1) := by decide +kernel
theorem dX10_held_48 : decode cX10_held 48 = .ok (.tableswitch 58 0 2 #[28, 32, 36], 28) := by decide +kernel
theorem dX10_held_76 : decode cX10_held 76 = .ok (.iload 4, 2) := by decide +kernel
theorem dX10_held_78 : decode cX10_held 78 = .ok (.i2l, 1) := by decide +kernel
theorem dX10_held_79 : decode cX10_held 79 = .ok (.lreturn, 1) := by decide +kernel
theorem dX10_held_80 : decode cX10_held 80 = .ok (.iload 5, 2) := by decide +kernel
theorem dX10_held_82 : decode cX10_held 82 = .ok (.i2l, 1) := by decide +kernel
theorem dX10_held_83 : decode cX10_held 83 = .ok (.lreturn, 1) := by decide +kernel
theorem dX10_held_84 : decode cX10_held 84 = .ok (.iload 4, 2) := by decide +kernel
theorem dX10_held_86 : decode cX10_held 86 = .ok (.bipush 15, 2) := by decide +kernel
theorem dX10_held_88 : decode cX10_held 88 = .ok (.if_icmp .le 9, 3) := by decide +kernel
theorem dX10_held_91 : decode cX10_held 91 = .ok (.ldc2_w 85, 3) := by decide +kernel
theorem dX10_held_94 : decode cX10_held 94 = .ok (.goto 11, 3) := by decide +kernel
theorem dX10_held_97 : decode cX10_held 97 = .ok (.iload 4, 2) := by decide +kernel
theorem dX10_held_99 : decode cX10_held 99 = .ok (.iload 5, 2) := by decide +kernel
theorem dX10_held_101 : decode cX10_held 101 = .ok (.iload_n 2, 1) := by decide +kernel
theorem dX10_held_102 : decode cX10_held 102 = .ok (.invokestatic 263, 3) := by decide +kernel
theorem dX10_held_105 : decode cX10_held 105 = .ok (.lreturn, 1) := by decide +kernel
theorem dX10_held_106 : decode cX10_held 106 = .ok (.ldc2_w 85, 3) := by decide +kernel
theorem dX10_held_109 : decode cX10_held 109 = .ok (.lreturn, 1) := by decide +kernel
set_option maxRecDepth 20000 in
theorem ggX10_sheet_X10_findSheet : GoodIn wsX10_sheet wsX10_findSheet := goodIn_r _ [6, 7, 28, 29, 30, 31, 32, 33, 34, 35, 36] (by decide +kernel) (by decide +kernel)
set_option maxRecDepth 20000 in
theorem gX10_sheet_X10_findSheet : GoodIn wsX10_sheet (wsV RX10 182 RX10 yX10_findSheet wsX10_findSheet) := goodIn_app (goodIn_of _ (by decide +kernel)) ggX10_sheet_X10_findSheet
set_option maxRecDepth 20000 in
theorem ggX10_sheet_X10_isLane : GoodIn wsX10_sheet wsX10_isLane := goodIn_r _ [10] (by decide +kernel) (by decide +kernel)
set_option maxRecDepth 20000 in
theorem gX10_sheet_X10_isLane : GoodIn wsX10_sheet (va_wsS RX10 267 yX10_isLane wsX10_isLane) := goodIn_app (goodIn_of _ (by decide +kernel)) ggX10_sheet_X10_isLane
set_option maxRecDepth 20000 in
theorem ggX10_sheet_X10_meet : GoodIn wsX10_sheet wsX10_meet := goodIn_r _ [14, 1, 28, 29, 30, 31, 32, 33, 34, 35, 36] (by decide +kernel) (by decide +kernel)
set_option maxRecDepth 20000 in
theorem gX10_sheet_X10_meet : GoodIn wsX10_sheet (wsV RX10 270 RX10 yX10_meet wsX10_meet) := goodIn_app (goodIn_of _ (by decide +kernel)) ggX10_sheet_X10_meet
set_option maxRecDepth 20000 in
theorem ggX10_sheet_X6_renew : GoodIn wsX10_sheet wsX6_renew := goodIn_r _ [19, 20, 21, 22, 23, 24, 25, 26, 27, 37, 38, 39, 40] (by decide +kernel) (by decide +kernel)
set_option maxRecDepth 20000 in
theorem gX10_sheet_X6_renew : GoodIn wsX10_sheet (wsV RX10 273 RX6 yX6_renew wsX6_renew) := goodIn_app (goodIn_of _ (by decide +kernel)) ggX10_sheet_X6_renew
theorem dX10_sheet_0 : decode cX10_sheet 0 = .ok (.aload_n 0, 1) := by decide +kernel
theorem dX10_sheet_1 : decode cX10_sheet 1 = .ok (.iconst 0, 1) := by decide +kernel
theorem dX10_sheet_2 : decode cX10_sheet 2 = .ok (.putfield 179, 3) := by decide +kernel
theorem dX10_sheet_5 : decode cX10_sheet 5 = .ok (.aload_n 0, 1) := by decide +kernel
theorem dX10_sheet_6 : decode cX10_sheet 6 = .ok (.iload_n 1, 1) := by decide +kernel
theorem dX10_sheet_7 : decode cX10_sheet 7 = .ok (.invokevirtual 182, 3) := by decide +kernel
theorem dX10_sheet_10 : decode cX10_sheet 10 = .ok (.astore 4, 2) := by decide +kernel
theorem dX10_sheet_12 : decode cX10_sheet 12 = .ok (.aload 4, 2) := by decide +kernel
theorem dX10_sheet_14 : decode cX10_sheet 14 = .ok (.ifnonnull 5, 3) := by decide +kernel
theorem dX10_sheet_17 : decode cX10_sheet 17 = .ok (.iconst (-1), 1) := by decide +kernel
theorem dX10_sheet_18 : decode cX10_sheet 18 = .ok (.ireturn, 1) := by decide +kernel
theorem dX10_sheet_19 : decode cX10_sheet 19 = .ok (.iload_n 2, 1) := by decide +kernel
theorem dX10_sheet_20 : decode cX10_sheet 20 = .ok (.invokestatic 267, 3) := by decide +kernel
theorem dX10_sheet_23 : decode cX10_sheet 23 = .ok (.ifCond .eq 9, 3) := by decide +kernel
theorem dX10_sheet_26 : decode cX10_sheet 26 = .ok (.iload_n 3, 1) := by decide +kernel
theorem dX10_sheet_27 : decode cX10_sheet 27 = .ok (.bipush 24, 2) := by decide +kernel
theorem dX10_sheet_29 : decode cX10_sheet 29 = .ok (.if_icmp .le 6, 3) := by decide +kernel
theorem dX10_sheet_32 : decode cX10_sheet 32 = .ok (.bipush (-2), 2) := by decide +kernel
theorem dX10_sheet_34 : decode cX10_sheet 34 = .ok (.ireturn, 1) := by decide +kernel
theorem dX10_sheet_35 : decode cX10_sheet 35 = .ok (.iload_n 3, 1) := by decide +kernel
theorem dX10_sheet_36 : decode cX10_sheet 36 = .ok (.ifCond .ge 9, 3) := by decide +kernel
theorem dX10_sheet_39 : decode cX10_sheet 39 = .ok (.aload_n 0, 1) := by decide +kernel
theorem dX10_sheet_40 : decode cX10_sheet 40 = .ok (.iconst 4, 1) := by decide +kernel
theorem dX10_sheet_41 : decode cX10_sheet 41 = .ok (.invokevirtual 270, 3) := by decide +kernel
theorem dX10_sheet_44 : decode cX10_sheet 44 = .ok (.ireturn, 1) := by decide +kernel
theorem dX10_sheet_45 : decode cX10_sheet 45 = .ok (.aload 4, 2) := by decide +kernel
theorem dX10_sheet_47 : decode cX10_sheet 47 = .ok (.iload_n 2, 1) := by decide +kernel
theorem dX10_sheet_48 : decode cX10_sheet 48 = .ok (.iload_n 3, 1) := by decide +kernel
theorem dX10_sheet_49 : decode cX10_sheet 49 = .ok (.invokevirtual 273, 3) := by decide +kernel
theorem dX10_sheet_52 : decode cX10_sheet 52 = .ok (.iconst 1, 1) := by decide +kernel
theorem dX10_sheet_53 : decode cX10_sheet 53 = .ok (.ireturn, 1) := by decide +kernel
set_option maxRecDepth 20000 in
theorem ggX10_lose_X10_findSheet : GoodIn wsX10_lose wsX10_findSheet := goodIn_r _ [5, 6, 13, 14, 15, 16, 17, 18, 19, 20, 21] (by decide +kernel) (by decide +kernel)
set_option maxRecDepth 20000 in
theorem gX10_lose_X10_findSheet : GoodIn wsX10_lose (wsV RX10 182 RX10 yX10_findSheet wsX10_findSheet) := goodIn_app (goodIn_of _ (by decide +kernel)) ggX10_lose_X10_findSheet
set_option maxRecDepth 20000 in
theorem ggX10_lose_X6_drop : GoodIn wsX10_lose wsX6_drop := goodIn_r _ [11, 12, 22, 23, 24, 25] (by decide +kernel) (by decide +kernel)
set_option maxRecDepth 20000 in
theorem gX10_lose_X6_drop : GoodIn wsX10_lose (wsV RX10 276 RX6 yX6_drop wsX6_drop) := goodIn_app (goodIn_of _ (by decide +kernel)) ggX10_lose_X6_drop
theorem dX10_lose_0 : decode cX10_lose 0 = .ok (.aload_n 0, 1) := by decide +kernel
theorem dX10_lose_1 : decode cX10_lose 1 = .ok (.iload_n 1, 1) := by decide +kernel
theorem dX10_lose_2 : decode cX10_lose 2 = .ok (.invokevirtual 182, 3) := by decide +kernel
theorem dX10_lose_5 : decode cX10_lose 5 = .ok (.astore_n 2, 1) := by decide +kernel
theorem dX10_lose_6 : decode cX10_lose 6 = .ok (.aload_n 2, 1) := by decide +kernel
theorem dX10_lose_7 : decode cX10_lose 7 = .ok (.ifnonnull 5, 3) := by decide +kernel
theorem dX10_lose_10 : decode cX10_lose 10 = .ok (.iconst (-1), 1) := by decide +kernel
theorem dX10_lose_11 : decode cX10_lose 11 = .ok (.ireturn, 1) := by decide +kernel
theorem dX10_lose_12 : decode cX10_lose 12 = .ok (.aload_n 2, 1) := by decide +kernel
theorem dX10_lose_13 : decode cX10_lose 13 = .ok (.invokevirtual 276, 3) := by decide +kernel
theorem dX10_lose_16 : decode cX10_lose 16 = .ok (.ifCond .eq 7, 3) := by decide +kernel
theorem dX10_lose_19 : decode cX10_lose 19 = .ok (.iconst 1, 1) := by decide +kernel
theorem dX10_lose_20 : decode cX10_lose 20 = .ok (.goto 4, 3) := by decide +kernel
theorem dX10_lose_23 : decode cX10_lose 23 = .ok (.iconst 0, 1) := by decide +kernel
theorem dX10_lose_24 : decode cX10_lose 24 = .ok (.ireturn, 1) := by decide +kernel
set_option maxRecDepth 20000 in
theorem ggX10_put_X10_findSheet : GoodIn wsX10_put wsX10_findSheet := goodIn_r _ [6, 7, 29, 30, 31, 32, 33, 34, 35, 36, 37] (by decide +kernel) (by decide +kernel)
set_option maxRecDepth 20000 in
theorem gX10_put_X10_findSheet : GoodIn wsX10_put (wsV RX10 182 RX10 yX10_findSheet wsX10_findSheet) := goodIn_app (goodIn_of _ (by decide +kernel)) ggX10_put_X10_findSheet
set_option maxRecDepth 20000 in
theorem ggX10_put_X6_reachFault : GoodIn wsX10_put wsX6_reachFault := goodIn_r _ [12, 13, 14, 38, 39, 40, 41] (by decide +kernel) (by decide +kernel)
set_option maxRecDepth 20000 in
theorem gX10_put_X6_reachFault : GoodIn wsX10_put (wsV RX10 279 RX6 yX6_reachFault wsX6_reachFault) := goodIn_app (goodIn_of _ (by decide +kernel)) ggX10_put_X6_reachFault
set_option maxRecDepth 20000 in
theorem ggX10_put_X10_meet : GoodIn wsX10_put wsX10_meet := goodIn_r _ [18, 1, 29, 30, 31, 32, 33, 34, 35, 36, 37] (by decide +kernel) (by decide +kernel)
set_option maxRecDepth 20000 in
theorem gX10_put_X10_meet : GoodIn wsX10_put (wsV RX10 270 RX10 yX10_meet wsX10_meet) := goodIn_app (goodIn_of _ (by decide +kernel)) ggX10_put_X10_meet
set_option maxRecDepth 20000 in
theorem ggX10_put_X6_write : GoodIn wsX10_put wsX6_write := goodIn_r _ [22, 14, 23, 24, 25, 26, 11, 27, 28, 38, 39, 40, 41] (by decide +kernel) (by decide +kernel)
set_option maxRecDepth 20000 in
theorem gX10_put_X6_write : GoodIn wsX10_put (wsV RX10 282 RX6 yX6_write wsX6_write) := goodIn_app (goodIn_of _ (by decide +kernel)) ggX10_put_X6_write
theorem dX10_put_0 : decode cX10_put 0 = .ok (.aload_n 0, 1) := by decide +kernel
theorem dX10_put_1 : decode cX10_put 1 = .ok (.iconst 0, 1) := by decide +kernel
theorem dX10_put_2 : decode cX10_put 2 = .ok (.putfield 179, 3) := by decide +kernel
theorem dX10_put_5 : decode cX10_put 5 = .ok (.aload_n 0, 1) := by decide +kernel
theorem dX10_put_6 : decode cX10_put 6 = .ok (.iload_n 1, 1) := by decide +kernel
theorem dX10_put_7 : decode cX10_put 7 = .ok (.invokevirtual 182, 3) := by decide +kernel
theorem dX10_put_10 : decode cX10_put 10 = .ok (.astore 4, 2) := by decide +kernel
theorem dX10_put_12 : decode cX10_put 12 = .ok (.aload 4, 2) := by decide +kernel
theorem dX10_put_14 : decode cX10_put 14 = .ok (.ifnonnull 5, 3) := by decide +kernel
theorem dX10_put_17 : decode cX10_put 17 = .ok (.iconst (-1), 1) := by decide +kernel
theorem dX10_put_18 : decode cX10_put 18 = .ok (.ireturn, 1) := by decide +kernel
theorem dX10_put_19 : decode cX10_put 19 = .ok (.aload 4, 2) := by decide +kernel
theorem dX10_put_21 : decode cX10_put 21 = .ok (.iload_n 2, 1) := by decide +kernel
theorem dX10_put_22 : decode cX10_put 22 = .ok (.iconst 1, 1) := by decide +kernel
theorem dX10_put_23 : decode cX10_put 23 = .ok (.invokevirtual 279, 3) := by decide +kernel
theorem dX10_put_26 : decode cX10_put 26 = .ok (.istore 5, 2) := by decide +kernel
theorem dX10_put_28 : decode cX10_put 28 = .ok (.iload 5, 2) := by decide +kernel
theorem dX10_put_30 : decode cX10_put 30 = .ok (.ifCond .eq 10, 3) := by decide +kernel
theorem dX10_put_33 : decode cX10_put 33 = .ok (.aload_n 0, 1) := by decide +kernel
theorem dX10_put_34 : decode cX10_put 34 = .ok (.iload 5, 2) := by decide +kernel
theorem dX10_put_36 : decode cX10_put 36 = .ok (.invokevirtual 270, 3) := by decide +kernel
theorem dX10_put_39 : decode cX10_put 39 = .ok (.ireturn, 1) := by decide +kernel
theorem dX10_put_40 : decode cX10_put 40 = .ok (.aload 4, 2) := by decide +kernel
theorem dX10_put_42 : decode cX10_put 42 = .ok (.iload_n 2, 1) := by decide +kernel
theorem dX10_put_43 : decode cX10_put 43 = .ok (.iload_n 3, 1) := by decide +kernel
theorem dX10_put_44 : decode cX10_put 44 = .ok (.invokevirtual 282, 3) := by decide +kernel
theorem dX10_put_47 : decode cX10_put 47 = .ok (.iconst 1, 1) := by decide +kernel
theorem dX10_put_48 : decode cX10_put 48 = .ok (.ireturn, 1) := by decide +kernel
set_option maxRecDepth 20000 in
theorem ggX10_at_X10_findSheet : GoodIn wsX10_at wsX10_findSheet := goodIn_r _ [7, 8, 33, 34, 35, 36, 37, 38, 39, 40, 41] (by decide +kernel) (by decide +kernel)
set_option maxRecDepth 20000 in
theorem gX10_at_X10_findSheet : GoodIn wsX10_at (wsV RX10 182 RX10 yX10_findSheet wsX10_findSheet) := goodIn_app (goodIn_of _ (by decide +kernel)) ggX10_at_X10_findSheet
set_option maxRecDepth 20000 in
theorem ggX10_at_X10_isLane : GoodIn wsX10_at wsX10_isLane := goodIn_r _ [11] (by decide +kernel) (by decide +kernel)
set_option maxRecDepth 20000 in
theorem gX10_at_X10_isLane : GoodIn wsX10_at (va_wsS RX10 267 yX10_isLane wsX10_isLane) := goodIn_app (goodIn_of _ (by decide +kernel)) ggX10_at_X10_isLane
set_option maxRecDepth 20000 in
theorem ggX10_at_X6_readFault : GoodIn wsX10_at wsX6_readFault := goodIn_r _ [16, 17, 18, 19, 20, 21, 15, 22, 23, 42, 43, 44, 45] (by decide +kernel) (by decide +kernel)
set_option maxRecDepth 20000 in
theorem gX10_at_X6_readFault : GoodIn wsX10_at (wsV RX10 285 RX6 yX6_readFault wsX6_readFault) := goodIn_app (goodIn_of _ (by decide +kernel)) ggX10_at_X6_readFault
set_option maxRecDepth 20000 in
theorem ggX10_at_X10_meet : GoodIn wsX10_at wsX10_meet := goodIn_r _ [27, 1, 33, 34, 35, 36, 37, 38, 39, 40, 41] (by decide +kernel) (by decide +kernel)
set_option maxRecDepth 20000 in
theorem gX10_at_X10_meet : GoodIn wsX10_at (wsV RX10 270 RX10 yX10_meet wsX10_meet) := goodIn_app (goodIn_of _ (by decide +kernel)) ggX10_at_X10_meet
set_option maxRecDepth 20000 in
theorem ggX10_at_X6_read : GoodIn wsX10_at wsX6_read := goodIn_r _ [31, 23, 32, 42, 43, 44, 45] (by decide +kernel) (by decide +kernel)
set_option maxRecDepth 20000 in
theorem gX10_at_X6_read : GoodIn wsX10_at (wsV RX10 289 RX6 yX6_read wsX6_read) := goodIn_app (goodIn_of _ (by decide +kernel)) ggX10_at_X6_read
theorem dX10_at_0 : decode cX10_at 0 = .ok (.aload_n 0, 1) := by decide +kernel
theorem dX10_at_1 : decode cX10_at 1 = .ok (.iconst 0, 1) := by decide +kernel
theorem dX10_at_2 : decode cX10_at 2 = .ok (.putfield 179, 3) := by decide +kernel
theorem dX10_at_5 : decode cX10_at 5 = .ok (.aload_n 0, 1) := by decide +kernel
theorem dX10_at_6 : decode cX10_at 6 = .ok (.iload_n 1, 1) := by decide +kernel
theorem dX10_at_7 : decode cX10_at 7 = .ok (.invokevirtual 182, 3) := by decide +kernel
theorem dX10_at_10 : decode cX10_at 10 = .ok (.astore 4, 2) := by decide +kernel
theorem dX10_at_12 : decode cX10_at 12 = .ok (.aload 4, 2) := by decide +kernel
theorem dX10_at_14 : decode cX10_at 14 = .ok (.ifnull 10, 3) := by decide +kernel
theorem dX10_at_17 : decode cX10_at 17 = .ok (.iload_n 3, 1) := by decide +kernel
theorem dX10_at_18 : decode cX10_at 18 = .ok (.invokestatic 267, 3) := by decide +kernel
theorem dX10_at_21 : decode cX10_at 21 = .ok (.ifCond .ne 7, 3) := by decide +kernel
theorem dX10_at_24 : decode cX10_at 24 = .ok (.ldc2_w 85, 3) := by decide +kernel
theorem dX10_at_27 : decode cX10_at 27 = .ok (.lreturn, 1) := by decide +kernel
theorem dX10_at_28 : decode cX10_at 28 = .ok (.aload 4, 2) := by decide +kernel
theorem dX10_at_30 : decode cX10_at 30 = .ok (.iload_n 3, 1) := by decide +kernel
theorem dX10_at_31 : decode cX10_at 31 = .ok (.iload_n 2, 1) := by decide +kernel
theorem dX10_at_32 : decode cX10_at 32 = .ok (.iconst 1, 1) := by decide +kernel
theorem dX10_at_33 : decode cX10_at 33 = .ok (.invokevirtual 285, 3) := by decide +kernel
theorem dX10_at_36 : decode cX10_at 36 = .ok (.istore 5, 2) := by decide +kernel
theorem dX10_at_38 : decode cX10_at 38 = .ok (.iload 5, 2) := by decide +kernel
theorem dX10_at_40 : decode cX10_at 40 = .ok (.ifCond .eq 14, 3) := by decide +kernel
theorem dX10_at_43 : decode cX10_at 43 = .ok (.aload_n 0, 1) := by decide +kernel
theorem dX10_at_44 : decode cX10_at 44 = .ok (.iload 5, 2) := by decide +kernel
theorem dX10_at_46 : decode cX10_at 46 = .ok (.invokevirtual 270, 3) := by decide +kernel
theorem dX10_at_49 : decode cX10_at 49 = .ok (.pop, 1) := by decide +kernel
theorem dX10_at_50 : decode cX10_at 50 = .ok (.ldc2_w 85, 3) := by decide +kernel
theorem dX10_at_53 : decode cX10_at 53 = .ok (.lreturn, 1) := by decide +kernel
theorem dX10_at_54 : decode cX10_at 54 = .ok (.aload 4, 2) := by decide +kernel
theorem dX10_at_56 : decode cX10_at 56 = .ok (.iload_n 2, 1) := by decide +kernel
theorem dX10_at_57 : decode cX10_at 57 = .ok (.invokevirtual 289, 3) := by decide +kernel
theorem dX10_at_60 : decode cX10_at 60 = .ok (.i2l, 1) := by decide +kernel
theorem dX10_at_61 : decode cX10_at 61 = .ok (.lreturn, 1) := by decide +kernel
set_option maxRecDepth 20000 in
theorem ggX10_tell_X10_findTrader : GoodIn wsX10_tell wsX10_findTrader := goodIn_r _ [6, 7, 8, 52, 53, 54, 55, 56, 57, 58, 59, 60] (by decide +kernel) (by decide +kernel)
set_option maxRecDepth 20000 in
theorem gX10_tell_X10_findTrader : GoodIn wsX10_tell (wsV RX10 87 RX10 yX10_findTrader wsX10_findTrader) := goodIn_app (goodIn_of _ (by decide +kernel)) ggX10_tell_X10_findTrader
set_option maxRecDepth 20000 in
theorem ggX10_tell_X5_telling : GoodIn wsX10_tell wsX5_telling := goodIn_r _ [13, 14, 15, 16, 12, 17, 18, 19, 20, 21, 22, 23, 24, 25, 26, 27, 28, 61, 62, 63, 64, 65, 66, 67, 68, 69, 70, 71, 72, 73, 74, 75, 76] (by decide +kernel) (by decide +kernel)
set_option maxRecDepth 20000 in
theorem gX10_tell_X5_telling : GoodIn wsX10_tell (wsV RX10 292 RX5 yX5_telling wsX5_telling) := goodIn_app (goodIn_of _ (by decide +kernel)) ggX10_tell_X5_telling
set_option maxRecDepth 20000 in
theorem ggX10_tell_X7_telling : GoodIn wsX10_tell wsX7_telling := goodIn_r _ [35, 36, 20, 21, 22, 23, 24, 37, 38, 39, 40, 41, 42, 43, 44, 45, 46, 15, 12, 17, 18, 19, 47, 48, 49, 50, 76, 61, 62, 63, 64, 65, 66, 67, 68, 69, 70, 71, 72, 73, 74, 75] (by decide +kernel) (by decide +kernel)
set_option maxRecDepth 20000 in
theorem gX10_tell_X7_telling_u292X7 : GoodIn wsX10_tell (va_wsO RX10 292 RX7 "BetMaker$Plain" ⟨"BetMaker$Plain", "telling", "(LBetMaker$Trace;)I"⟩ yX7_telling wsX7_telling) := goodIn_app (goodIn_of _ (by decide +kernel)) ggX10_tell_X7_telling
set_option maxRecDepth 20000 in
theorem ggX10_tell_X9_telling : GoodIn wsX10_tell wsX9_telling := goodIn_r _ [42, 43, 20, 21, 22, 23, 24, 44, 45, 46, 15, 12, 17, 18, 19, 47, 76, 61, 62, 63, 64, 65, 66, 67, 68, 69, 70, 71, 72, 73, 74, 75] (by decide +kernel) (by decide +kernel)
set_option maxRecDepth 20000 in
theorem gX10_tell_X9_telling_u292X9 : GoodIn wsX10_tell (va_wsO RX10 292 RX9 "BetMaker$Plain" ⟨"BetMaker$Plain", "telling", "(LBetMaker$Trace;)I"⟩ yX9_telling wsX9_telling) := goodIn_app (goodIn_of _ (by decide +kernel)) ggX10_tell_X9_telling
theorem dX10_tell_0 : decode cX10_tell 0 = .ok (.aload_n 0, 1) := by decide +kernel
theorem dX10_tell_1 : decode cX10_tell 1 = .ok (.iload_n 1, 1) := by decide +kernel
theorem dX10_tell_2 : decode cX10_tell 2 = .ok (.invokevirtual 87, 3) := by decide +kernel
theorem dX10_tell_5 : decode cX10_tell 5 = .ok (.astore_n 2, 1) := by decide +kernel
theorem dX10_tell_6 : decode cX10_tell 6 = .ok (.aload_n 2, 1) := by decide +kernel
theorem dX10_tell_7 : decode cX10_tell 7 = .ok (.ifnonnull 7, 3) := by decide +kernel
theorem dX10_tell_10 : decode cX10_tell 10 = .ok (.iconst (-1), 1) := by decide +kernel
theorem dX10_tell_11 : decode cX10_tell 11 = .ok (.goto 11, 3) := by decide +kernel
theorem dX10_tell_14 : decode cX10_tell 14 = .ok (.aload_n 2, 1) := by decide +kernel
theorem dX10_tell_15 : decode cX10_tell 15 = .ok (.aload_n 0, 1) := by decide +kernel
theorem dX10_tell_16 : decode cX10_tell 16 = .ok (.getfield 47, 3) := by decide +kernel
theorem dX10_tell_19 : decode cX10_tell 19 = .ok (.invokevirtual 292, 3) := by decide +kernel
theorem dX10_tell_22 : decode cX10_tell 22 = .ok (.ireturn, 1) := by decide +kernel
set_option maxRecDepth 20000 in
theorem ggX10_greet_X10_findTrader : GoodIn wsX10_greet wsX10_findTrader := goodIn_r _ [6, 7, 8, 30, 31, 32, 33, 34, 35, 36, 37, 38] (by decide +kernel) (by decide +kernel)
set_option maxRecDepth 20000 in
theorem gX10_greet_X10_findTrader : GoodIn wsX10_greet (wsV RX10 87 RX10 yX10_findTrader wsX10_findTrader) := goodIn_app (goodIn_of _ (by decide +kernel)) ggX10_greet_X10_findTrader
set_option maxRecDepth 20000 in
theorem ggX10_greet_X5_greeting : GoodIn wsX10_greet wsX5_greeting := goodIn_r _ [13, 14, 15, 16, 17, 18, 19, 20, 39, 40, 41, 42, 43, 44, 45, 46, 47, 48, 49, 50, 51, 52, 53, 54] (by decide +kernel) (by decide +kernel)
set_option maxRecDepth 20000 in
theorem gX10_greet_X5_greeting : GoodIn wsX10_greet (wsV RX10 296 RX5 yX5_greeting wsX5_greeting) := goodIn_app (goodIn_of _ (by decide +kernel)) ggX10_greet_X5_greeting
set_option maxRecDepth 20000 in
theorem ggX10_greet_X7_greeting : GoodIn wsX10_greet wsX7_greeting := goodIn_r _ [27, 28, 16, 17, 18, 19, 20, 54] (by decide +kernel) (by decide +kernel)
set_option maxRecDepth 20000 in
theorem gX10_greet_X7_greeting_u296X7 : GoodIn wsX10_greet (va_wsO RX10 296 RX7 "BetMaker$Plain" ⟨"BetMaker$Plain", "greeting", "(LBetMaker$Trace;)I"⟩ yX7_greeting wsX7_greeting) := goodIn_app (goodIn_of _ (by decide +kernel)) ggX10_greet_X7_greeting
set_option maxRecDepth 20000 in
theorem gX10_greet_X5_greeting_u296X9 : GoodIn wsX10_greet (va_wsU RX10 296 RX9 "BetMaker$Plain" ⟨"BetMaker$Plain", "greeting", "(LBetMaker$Trace;)I"⟩ yX5_greeting wsX5_greeting) := goodIn_app (goodIn_of _ (by decide +kernel)) ggX10_greet_X5_greeting
theorem dX10_greet_0 : decode cX10_greet 0 = .ok (.aload_n 0, 1) := by decide +kernel
theorem dX10_greet_1 : decode cX10_greet 1 = .ok (.iload_n 1, 1) := by decide +kernel
theorem dX10_greet_2 : decode cX10_greet 2 = .ok (.invokevirtual 87, 3) := by decide +kernel
theorem dX10_greet_5 : decode cX10_greet 5 = .ok (.astore_n 2, 1) := by decide +kernel
theorem dX10_greet_6 : decode cX10_greet 6 = .ok (.aload_n 2, 1) := by decide +kernel
theorem dX10_greet_7 : decode cX10_greet 7 = .ok (.ifnonnull 7, 3) := by decide +kernel
theorem dX10_greet_10 : decode cX10_greet 10 = .ok (.iconst (-1), 1) := by decide +kernel
theorem dX10_greet_11 : decode cX10_greet 11 = .ok (.goto 11, 3) := by decide +kernel
theorem dX10_greet_14 : decode cX10_greet 14 = .ok (.aload_n 2, 1) := by decide +kernel
theorem dX10_greet_15 : decode cX10_greet 15 = .ok (.aload_n 0, 1) := by decide +kernel
theorem dX10_greet_16 : decode cX10_greet 16 = .ok (.getfield 47, 3) := by decide +kernel
theorem dX10_greet_19 : decode cX10_greet 19 = .ok (.invokevirtual 296, 3) := by decide +kernel
theorem dX10_greet_22 : decode cX10_greet 22 = .ok (.ireturn, 1) := by decide +kernel
set_option maxRecDepth 20000 in
theorem ggX10_as_X10_findTrader : GoodIn wsX10_as wsX10_findTrader := goodIn_r _ [6, 7, 8, 21, 22, 23, 24, 25, 26, 27, 28, 29] (by decide +kernel) (by decide +kernel)
set_option maxRecDepth 20000 in
theorem gX10_as_X10_findTrader : GoodIn wsX10_as (wsV RX10 87 RX10 yX10_findTrader wsX10_findTrader) := goodIn_app (goodIn_of _ (by decide +kernel)) ggX10_as_X10_findTrader
set_option maxRecDepth 20000 in
theorem ggX10_as_X10_isKind : GoodIn wsX10_as wsX10_isKind := goodIn_r _ [11] (by decide +kernel) (by decide +kernel)
set_option maxRecDepth 20000 in
theorem gX10_as_X10_isKind : GoodIn wsX10_as (va_wsS RX10 68 yX10_isKind wsX10_isKind) := goodIn_app (goodIn_of _ (by decide +kernel)) ggX10_as_X10_isKind
set_option maxRecDepth 20000 in
theorem ggX10_as_X10_isOfKind : GoodIn wsX10_as wsX10_isOfKind := goodIn_r _ [14, 15, 16] (by decide +kernel) (by decide +kernel)
set_option maxRecDepth 20000 in
theorem gX10_as_X10_isOfKind : GoodIn wsX10_as (va_wsS RX10 299 yX10_isOfKind wsX10_isOfKind) := goodIn_app (goodIn_of _ (by decide +kernel)) ggX10_as_X10_isOfKind
set_option maxRecDepth 20000 in
theorem ggX10_as_X10_meet : GoodIn wsX10_as wsX10_meet := goodIn_r _ [20, 1, 21, 22, 23, 24, 25, 26, 27, 28, 29] (by decide +kernel) (by decide +kernel)
set_option maxRecDepth 20000 in
theorem gX10_as_X10_meet : GoodIn wsX10_as (wsV RX10 270 RX10 yX10_meet wsX10_meet) := goodIn_app (goodIn_of _ (by decide +kernel)) ggX10_as_X10_meet
theorem dX10_as_0 : decode cX10_as 0 = .ok (.aload_n 0, 1) := by decide +kernel
theorem dX10_as_1 : decode cX10_as 1 = .ok (.iconst 0, 1) := by decide +kernel
theorem dX10_as_2 : decode cX10_as 2 = .ok (.putfield 179, 3) := by decide +kernel
theorem dX10_as_5 : decode cX10_as 5 = .ok (.aload_n 0, 1) := by decide +kernel
theorem dX10_as_6 : decode cX10_as 6 = .ok (.iload_n 1, 1) := by decide +kernel
theorem dX10_as_7 : decode cX10_as 7 = .ok (.invokevirtual 87, 3) := by decide +kernel
theorem dX10_as_10 : decode cX10_as 10 = .ok (.astore_n 3, 1) := by decide +kernel
theorem dX10_as_11 : decode cX10_as 11 = .ok (.aload_n 3, 1) := by decide +kernel
theorem dX10_as_12 : decode cX10_as 12 = .ok (.ifnonnull 5, 3) := by decide +kernel
theorem dX10_as_15 : decode cX10_as 15 = .ok (.iconst (-1), 1) := by decide +kernel
theorem dX10_as_16 : decode cX10_as 16 = .ok (.ireturn, 1) := by decide +kernel
theorem dX10_as_17 : decode cX10_as 17 = .ok (.iload_n 2, 1) := by decide +kernel
theorem dX10_as_18 : decode cX10_as 18 = .ok (.invokestatic 68, 3) := by decide +kernel
theorem dX10_as_21 : decode cX10_as 21 = .ok (.ifCond .ne 6, 3) := by decide +kernel
theorem dX10_as_24 : decode cX10_as 24 = .ok (.bipush (-2), 2) := by decide +kernel
theorem dX10_as_26 : decode cX10_as 26 = .ok (.ireturn, 1) := by decide +kernel
theorem dX10_as_27 : decode cX10_as 27 = .ok (.aload_n 3, 1) := by decide +kernel
theorem dX10_as_28 : decode cX10_as 28 = .ok (.iload_n 2, 1) := by decide +kernel
theorem dX10_as_29 : decode cX10_as 29 = .ok (.invokestatic 299, 3) := by decide +kernel
theorem dX10_as_32 : decode cX10_as 32 = .ok (.ifCond .eq 7, 3) := by decide +kernel
theorem dX10_as_35 : decode cX10_as 35 = .ok (.iconst 1, 1) := by decide +kernel
theorem dX10_as_36 : decode cX10_as 36 = .ok (.goto 8, 3) := by decide +kernel
theorem dX10_as_39 : decode cX10_as 39 = .ok (.aload_n 0, 1) := by decide +kernel
theorem dX10_as_40 : decode cX10_as 40 = .ok (.iconst 2, 1) := by decide +kernel
theorem dX10_as_41 : decode cX10_as 41 = .ok (.invokevirtual 270, 3) := by decide +kernel
theorem dX10_as_44 : decode cX10_as 44 = .ok (.ireturn, 1) := by decide +kernel
set_option maxRecDepth 20000 in
theorem ggX10_trace_X8_value : GoodIn wsX10_trace wsX8_value := goodIn_r _ [6, 7, 17] (by decide +kernel) (by decide +kernel)
set_option maxRecDepth 20000 in
theorem gX10_trace_X8_value : GoodIn wsX10_trace (wsV RX10 303 RX8 yX8_value wsX8_value) := goodIn_app (goodIn_of _ (by decide +kernel)) ggX10_trace_X8_value
theorem dX10_trace_0 : decode cX10_trace 0 = .ok (.aload_n 0, 1) := by decide +kernel
theorem dX10_trace_1 : decode cX10_trace 1 = .ok (.getfield 47, 3) := by decide +kernel
theorem dX10_trace_4 : decode cX10_trace 4 = .ok (.invokevirtual 303, 3) := by decide +kernel
theorem dX10_trace_7 : decode cX10_trace 7 = .ok (.ireturn, 1) := by decide +kernel
theorem dX10_fault_0 : decode cX10_fault 0 = .ok (.aload_n 0, 1) := by decide +kernel
theorem dX10_fault_1 : decode cX10_fault 1 = .ok (.getfield 179, 3) := by decide +kernel
theorem dX10_fault_4 : decode cX10_fault 4 = .ok (.ireturn, 1) := by decide +kernel
set_option maxRecDepth 20000 in
theorem ggX10_told_X3_cases : GoodIn wsX10_told wsX3_cases := goodIn_r _ [9, 10, 57, 58, 59, 60, 61, 62] (by decide +kernel) (by decide +kernel)
set_option maxRecDepth 20000 in
theorem gX10_told_X3_cases : GoodIn wsX10_told (wsV RX10 218 RX3 yX3_cases wsX3_cases) := goodIn_app (goodIn_of _ (by decide +kernel)) ggX10_told_X3_cases
set_option maxRecDepth 20000 in
theorem ggX10_told_X3_breadth : GoodIn wsX10_told wsX3_breadth := goodIn_r _ [14, 15, 57, 58, 59, 60, 61, 62] (by decide +kernel) (by decide +kernel)
set_option maxRecDepth 20000 in
theorem gX10_told_X3_breadth : GoodIn wsX10_told (wsV RX10 306 RX3 yX3_breadth wsX3_breadth) := goodIn_app (goodIn_of _ (by decide +kernel)) ggX10_told_X3_breadth
set_option maxRecDepth 20000 in
theorem ggX10_told_X0_size : GoodIn wsX10_told wsX0_size := goodIn_r _ [20, 21, 63, 64, 65, 66, 67, 68, 69, 70] (by decide +kernel) (by decide +kernel)
set_option maxRecDepth 20000 in
theorem gX10_told_X0_size : GoodIn wsX10_told (wsV RX10 309 RX0 yX0_size wsX0_size) := goodIn_app (goodIn_of _ (by decide +kernel)) ggX10_told_X0_size
set_option maxRecDepth 20000 in
theorem ggX10_told_X2_size : GoodIn wsX10_told wsX2_size := goodIn_r _ [26, 27, 71, 72] (by decide +kernel) (by decide +kernel)
set_option maxRecDepth 20000 in
theorem gX10_told_X2_size : GoodIn wsX10_told (wsV RX10 312 RX2 yX2_size wsX2_size) := goodIn_app (goodIn_of _ (by decide +kernel)) ggX10_told_X2_size
set_option maxRecDepth 20000 in
theorem ggX10_told_X10_countDeals : GoodIn wsX10_told wsX10_countDeals := goodIn_r _ [32, 2, 33, 34, 35, 31, 36, 37, 38, 39, 40, 41, 42, 43, 44, 45, 46, 47, 48, 49, 50, 51, 52, 53, 54, 55, 56, 73, 74, 75, 76, 77, 78, 79, 80, 81, 82, 83, 84, 85, 86, 87] (by decide +kernel) (by decide +kernel)
set_option maxRecDepth 20000 in
theorem gX10_told_X10_countDeals : GoodIn wsX10_told (wsV RX10 313 RX10 yX10_countDeals wsX10_countDeals) := goodIn_app (goodIn_of _ (by decide +kernel)) ggX10_told_X10_countDeals
theorem dX10_told_0 : decode cX10_told 0 = .ok (.iload_n 1, 1) := by decide +kernel
theorem dX10_told_1 : decode cX10_told 1 = .ok (.tableswitch 81 0 5 #[39, 47, 55, 60, 68, 76], 39) := by decide +kernel
theorem dX10_told_40 : decode cX10_told 40 = .ok (.aload_n 0, 1) := by decide +kernel
theorem dX10_told_41 : decode cX10_told 41 = .ok (.getfield 12, 3) := by decide +kernel
theorem dX10_told_44 : decode cX10_told 44 = .ok (.invokevirtual 218, 3) := by decide +kernel
theorem dX10_told_47 : decode cX10_told 47 = .ok (.ireturn, 1) := by decide +kernel
theorem dX10_told_48 : decode cX10_told 48 = .ok (.aload_n 0, 1) := by decide +kernel
theorem dX10_told_49 : decode cX10_told 49 = .ok (.getfield 12, 3) := by decide +kernel
theorem dX10_told_52 : decode cX10_told 52 = .ok (.invokevirtual 306, 3) := by decide +kernel
theorem dX10_told_55 : decode cX10_told 55 = .ok (.ireturn, 1) := by decide +kernel
theorem dX10_told_56 : decode cX10_told 56 = .ok (.aload_n 0, 1) := by decide +kernel
theorem dX10_told_57 : decode cX10_told 57 = .ok (.getfield 60, 3) := by decide +kernel
theorem dX10_told_60 : decode cX10_told 60 = .ok (.ireturn, 1) := by decide +kernel
theorem dX10_told_61 : decode cX10_told 61 = .ok (.aload_n 0, 1) := by decide +kernel
theorem dX10_told_62 : decode cX10_told 62 = .ok (.getfield 27, 3) := by decide +kernel
theorem dX10_told_65 : decode cX10_told 65 = .ok (.invokevirtual 309, 3) := by decide +kernel
theorem dX10_told_68 : decode cX10_told 68 = .ok (.ireturn, 1) := by decide +kernel
theorem dX10_told_69 : decode cX10_told 69 = .ok (.aload_n 0, 1) := by decide +kernel
theorem dX10_told_70 : decode cX10_told 70 = .ok (.getfield 34, 3) := by decide +kernel
theorem dX10_told_73 : decode cX10_told 73 = .ok (.invokevirtual 312, 3) := by decide +kernel
theorem dX10_told_76 : decode cX10_told 76 = .ok (.ireturn, 1) := by decide +kernel
theorem dX10_told_77 : decode cX10_told 77 = .ok (.aload_n 0, 1) := by decide +kernel
theorem dX10_told_78 : decode cX10_told 78 = .ok (.invokevirtual 313, 3) := by decide +kernel
theorem dX10_told_81 : decode cX10_told 81 = .ok (.ireturn, 1) := by decide +kernel
theorem dX10_told_82 : decode cX10_told 82 = .ok (.bipush (-2), 2) := by decide +kernel
theorem dX10_told_84 : decode cX10_told 84 = .ok (.ireturn, 1) := by decide +kernel
theorem dX10_isKind_0 : decode cX10_isKind 0 = .ok (.iload_n 0, 1) := by decide +kernel
theorem dX10_isKind_1 : decode cX10_isKind 1 = .ok (.ifCond .lt 12, 3) := by decide +kernel
theorem dX10_isKind_4 : decode cX10_isKind 4 = .ok (.iload_n 0, 1) := by decide +kernel
theorem dX10_isKind_5 : decode cX10_isKind 5 = .ok (.iconst 2, 1) := by decide +kernel
theorem dX10_isKind_6 : decode cX10_isKind 6 = .ok (.if_icmp .gt 7, 3) := by decide +kernel
theorem dX10_isKind_9 : decode cX10_isKind 9 = .ok (.iconst 1, 1) := by decide +kernel
theorem dX10_isKind_10 : decode cX10_isKind 10 = .ok (.goto 4, 3) := by decide +kernel
theorem dX10_isKind_13 : decode cX10_isKind 13 = .ok (.iconst 0, 1) := by decide +kernel
theorem dX10_isKind_14 : decode cX10_isKind 14 = .ok (.ireturn, 1) := by decide +kernel
theorem dX10_isLane_0 : decode cX10_isLane 0 = .ok (.iload_n 0, 1) := by decide +kernel
theorem dX10_isLane_1 : decode cX10_isLane 1 = .ok (.ifCond .lt 12, 3) := by decide +kernel
theorem dX10_isLane_4 : decode cX10_isLane 4 = .ok (.iload_n 0, 1) := by decide +kernel
theorem dX10_isLane_5 : decode cX10_isLane 5 = .ok (.iconst 2, 1) := by decide +kernel
theorem dX10_isLane_6 : decode cX10_isLane 6 = .ok (.if_icmp .gt 7, 3) := by decide +kernel
theorem dX10_isLane_9 : decode cX10_isLane 9 = .ok (.iconst 1, 1) := by decide +kernel
theorem dX10_isLane_10 : decode cX10_isLane 10 = .ok (.goto 4, 3) := by decide +kernel
theorem dX10_isLane_13 : decode cX10_isLane 13 = .ok (.iconst 0, 1) := by decide +kernel
theorem dX10_isLane_14 : decode cX10_isLane 14 = .ok (.ireturn, 1) := by decide +kernel
theorem dX10_isWeight_0 : decode cX10_isWeight 0 = .ok (.iload_n 0, 1) := by decide +kernel
theorem dX10_isWeight_1 : decode cX10_isWeight 1 = .ok (.ifCond .lt 13, 3) := by decide +kernel
theorem dX10_isWeight_4 : decode cX10_isWeight 4 = .ok (.iload_n 0, 1) := by decide +kernel
theorem dX10_isWeight_5 : decode cX10_isWeight 5 = .ok (.bipush 100, 2) := by decide +kernel
theorem dX10_isWeight_7 : decode cX10_isWeight 7 = .ok (.if_icmp .gt 7, 3) := by decide +kernel
theorem dX10_isWeight_10 : decode cX10_isWeight 10 = .ok (.iconst 1, 1) := by decide +kernel
theorem dX10_isWeight_11 : decode cX10_isWeight 11 = .ok (.goto 4, 3) := by decide +kernel
theorem dX10_isWeight_14 : decode cX10_isWeight 14 = .ok (.iconst 0, 1) := by decide +kernel
theorem dX10_isWeight_15 : decode cX10_isWeight 15 = .ok (.ireturn, 1) := by decide +kernel
set_option maxRecDepth 20000 in
theorem ggX10_isOrder_X3_isSet : GoodIn wsX10_isOrder wsX3_isSet := goodIn_r _ [6, 7, 17, 18, 19, 20, 21, 22] (by decide +kernel) (by decide +kernel)
set_option maxRecDepth 20000 in
theorem gX10_isOrder_X3_isSet : GoodIn wsX10_isOrder (wsV RX10 78 RX3 yX3_isSet wsX3_isSet) := goodIn_app (goodIn_of _ (by decide +kernel)) ggX10_isOrder_X3_isSet
theorem dX10_isOrder_0 : decode cX10_isOrder 0 = .ok (.aload_n 0, 1) := by decide +kernel
theorem dX10_isOrder_1 : decode cX10_isOrder 1 = .ok (.getfield 12, 3) := by decide +kernel
theorem dX10_isOrder_4 : decode cX10_isOrder 4 = .ok (.iload_n 1, 1) := by decide +kernel
theorem dX10_isOrder_5 : decode cX10_isOrder 5 = .ok (.invokevirtual 78, 3) := by decide +kernel
theorem dX10_isOrder_8 : decode cX10_isOrder 8 = .ok (.ifCond .eq 25, 3) := by decide +kernel
theorem dX10_isOrder_11 : decode cX10_isOrder 11 = .ok (.iload_n 2, 1) := by decide +kernel
theorem dX10_isOrder_12 : decode cX10_isOrder 12 = .ok (.ifCond .eq 21, 3) := by decide +kernel
theorem dX10_isOrder_15 : decode cX10_isOrder 15 = .ok (.iload_n 2, 1) := by decide +kernel
theorem dX10_isOrder_16 : decode cX10_isOrder 16 = .ok (.sipush (-1000), 3) := by decide +kernel
theorem dX10_isOrder_19 : decode cX10_isOrder 19 = .ok (.if_icmp .lt 14, 3) := by decide +kernel
theorem dX10_isOrder_22 : decode cX10_isOrder 22 = .ok (.iload_n 2, 1) := by decide +kernel
theorem dX10_isOrder_23 : decode cX10_isOrder 23 = .ok (.sipush 1000, 3) := by decide +kernel
theorem dX10_isOrder_26 : decode cX10_isOrder 26 = .ok (.if_icmp .gt 7, 3) := by decide +kernel
theorem dX10_isOrder_29 : decode cX10_isOrder 29 = .ok (.iconst 1, 1) := by decide +kernel
theorem dX10_isOrder_30 : decode cX10_isOrder 30 = .ok (.goto 4, 3) := by decide +kernel
theorem dX10_isOrder_33 : decode cX10_isOrder 33 = .ok (.iconst 0, 1) := by decide +kernel
theorem dX10_isOrder_34 : decode cX10_isOrder 34 = .ok (.ireturn, 1) := by decide +kernel
theorem dX10_findTrader_0 : decode cX10_findTrader 0 = .ok (.iload_n 1, 1) := by decide +kernel
theorem dX10_findTrader_1 : decode cX10_findTrader 1 = .ok (.ifCond .lt 26, 3) := by decide +kernel
theorem dX10_findTrader_4 : decode cX10_findTrader 4 = .ok (.iload_n 1, 1) := by decide +kernel
theorem dX10_findTrader_5 : decode cX10_findTrader 5 = .ok (.aload_n 0, 1) := by decide +kernel
theorem dX10_findTrader_6 : decode cX10_findTrader 6 = .ok (.getfield 60, 3) := by decide +kernel
theorem dX10_findTrader_9 : decode cX10_findTrader 9 = .ok (.if_icmp .ge 18, 3) := by decide +kernel
theorem dX10_findTrader_12 : decode cX10_findTrader 12 = .ok (.iload_n 1, 1) := by decide +kernel
theorem dX10_findTrader_13 : decode cX10_findTrader 13 = .ok (.bipush 6, 2) := by decide +kernel
theorem dX10_findTrader_15 : decode cX10_findTrader 15 = .ok (.if_icmp .ge 12, 3) := by decide +kernel
theorem dX10_findTrader_18 : decode cX10_findTrader 18 = .ok (.aload_n 0, 1) := by decide +kernel
theorem dX10_findTrader_19 : decode cX10_findTrader 19 = .ok (.getfield 20, 3) := by decide +kernel
theorem dX10_findTrader_22 : decode cX10_findTrader 22 = .ok (.iload_n 1, 1) := by decide +kernel
theorem dX10_findTrader_23 : decode cX10_findTrader 23 = .ok (.aaload, 1) := by decide +kernel
theorem dX10_findTrader_24 : decode cX10_findTrader 24 = .ok (.goto 4, 3) := by decide +kernel
theorem dX10_findTrader_27 : decode cX10_findTrader 27 = .ok (.aconst_null, 1) := by decide +kernel
theorem dX10_findTrader_28 : decode cX10_findTrader 28 = .ok (.areturn, 1) := by decide +kernel
theorem dX10_findSheet_0 : decode cX10_findSheet 0 = .ok (.iload_n 1, 1) := by decide +kernel
theorem dX10_findSheet_1 : decode cX10_findSheet 1 = .ok (.ifCond .lt 17, 3) := by decide +kernel
theorem dX10_findSheet_4 : decode cX10_findSheet 4 = .ok (.iload_n 1, 1) := by decide +kernel
theorem dX10_findSheet_5 : decode cX10_findSheet 5 = .ok (.iconst 4, 1) := by decide +kernel
theorem dX10_findSheet_6 : decode cX10_findSheet 6 = .ok (.if_icmp .ge 12, 3) := by decide +kernel
theorem dX10_findSheet_9 : decode cX10_findSheet 9 = .ok (.aload_n 0, 1) := by decide +kernel
theorem dX10_findSheet_10 : decode cX10_findSheet 10 = .ok (.getfield 40, 3) := by decide +kernel
theorem dX10_findSheet_13 : decode cX10_findSheet 13 = .ok (.iload_n 1, 1) := by decide +kernel
theorem dX10_findSheet_14 : decode cX10_findSheet 14 = .ok (.aaload, 1) := by decide +kernel
theorem dX10_findSheet_15 : decode cX10_findSheet 15 = .ok (.goto 4, 3) := by decide +kernel
theorem dX10_findSheet_18 : decode cX10_findSheet 18 = .ok (.aconst_null, 1) := by decide +kernel
theorem dX10_findSheet_19 : decode cX10_findSheet 19 = .ok (.areturn, 1) := by decide +kernel
set_option maxRecDepth 20000 in
theorem ggX10_newTrader_X3_cases : GoodIn wsX10_newTrader wsX3_cases := goodIn_r _ [15, 16, 65, 66, 67, 68, 69, 70] (by decide +kernel) (by decide +kernel)
set_option maxRecDepth 20000 in
theorem gX10_newTrader_X3_cases : GoodIn wsX10_newTrader (wsV RX10 218 RX3 yX3_cases wsX3_cases) := goodIn_app (goodIn_of _ (by decide +kernel)) ggX10_newTrader_X3_cases
set_option maxRecDepth 20000 in
theorem ggX10_newTrader_X7_init : GoodIn wsX10_newTrader wsX7_init := goodIn_r _ [19, 20, 21, 7, 22, 23, 24, 10, 25, 26, 27, 28, 29, 30, 31, 32, 33, 34, 35, 36, 37, 38, 60, 61, 62, 63, 64, 41, 42, 43, 44, 45, 55, 56, 57, 58, 59] (by decide +kernel) (by decide +kernel)
set_option maxRecDepth 20000 in
theorem gX10_newTrader_X7_init : GoodIn wsX10_newTrader (wsX7_init) := ggX10_newTrader_X7_init
set_option maxRecDepth 20000 in
theorem ggX10_newTrader_X9_init : GoodIn wsX10_newTrader wsX9_init := goodIn_r _ [22, 23, 24, 10, 25, 26, 27, 28, 29, 30, 31, 32, 33, 34, 35, 36, 37, 38, 60, 61, 62, 63, 64, 41, 42, 43, 44, 45, 55, 56, 57, 58, 59] (by decide +kernel) (by decide +kernel)
set_option maxRecDepth 20000 in
theorem gX10_newTrader_X9_init : GoodIn wsX10_newTrader (wsX9_init) := ggX10_newTrader_X9_init
set_option maxRecDepth 20000 in
theorem ggX10_newTrader_X5_init : GoodIn wsX10_newTrader wsX5_init := goodIn_r _ [25, 26, 27, 28, 29, 30, 31, 32, 33, 34, 35, 36, 37, 38, 60, 61, 62, 63, 64, 41, 42, 43, 44, 45, 55, 56, 57, 58, 59] (by decide +kernel) (by decide +kernel)
set_option maxRecDepth 20000 in
theorem gX10_newTrader_X5_init : GoodIn wsX10_newTrader (wsX5_init) := ggX10_newTrader_X5_init
theorem dX10_newTrader_0 : decode cX10_newTrader 0 = .ok (.iload_n 1, 1) := by decide +kernel
theorem dX10_newTrader_1 : decode cX10_newTrader 1 = .ok (.lookupswitch 61 #[(1, 44), (2, 27)], 27) := by decide +kernel
theorem dX10_newTrader_28 : decode cX10_newTrader 28 = .ok (.new 316, 3) := by decide +kernel
theorem dX10_newTrader_31 : decode cX10_newTrader 31 = .ok (.dup, 1) := by decide +kernel
theorem dX10_newTrader_32 : decode cX10_newTrader 32 = .ok (.iload_n 2, 1) := by decide +kernel
theorem dX10_newTrader_33 : decode cX10_newTrader 33 = .ok (.lload_n 3, 1) := by decide +kernel
theorem dX10_newTrader_34 : decode cX10_newTrader 34 = .ok (.aload_n 0, 1) := by decide +kernel
theorem dX10_newTrader_35 : decode cX10_newTrader 35 = .ok (.getfield 12, 3) := by decide +kernel
theorem dX10_newTrader_38 : decode cX10_newTrader 38 = .ok (.invokevirtual 218, 3) := by decide +kernel
theorem dX10_newTrader_41 : decode cX10_newTrader 41 = .ok (.invokespecial 318, 3) := by decide +kernel
theorem dX10_newTrader_44 : decode cX10_newTrader 44 = .ok (.areturn, 1) := by decide +kernel
theorem dX10_newTrader_45 : decode cX10_newTrader 45 = .ok (.new 321, 3) := by decide +kernel
theorem dX10_newTrader_48 : decode cX10_newTrader 48 = .ok (.dup, 1) := by decide +kernel
theorem dX10_newTrader_49 : decode cX10_newTrader 49 = .ok (.iload_n 2, 1) := by decide +kernel
theorem dX10_newTrader_50 : decode cX10_newTrader 50 = .ok (.lload_n 3, 1) := by decide +kernel
theorem dX10_newTrader_51 : decode cX10_newTrader 51 = .ok (.aload_n 0, 1) := by decide +kernel
theorem dX10_newTrader_52 : decode cX10_newTrader 52 = .ok (.getfield 12, 3) := by decide +kernel
theorem dX10_newTrader_55 : decode cX10_newTrader 55 = .ok (.invokevirtual 218, 3) := by decide +kernel
theorem dX10_newTrader_58 : decode cX10_newTrader 58 = .ok (.invokespecial 323, 3) := by decide +kernel
theorem dX10_newTrader_61 : decode cX10_newTrader 61 = .ok (.areturn, 1) := by decide +kernel
theorem dX10_newTrader_62 : decode cX10_newTrader 62 = .ok (.new 18, 3) := by decide +kernel
theorem dX10_newTrader_65 : decode cX10_newTrader 65 = .ok (.dup, 1) := by decide +kernel
theorem dX10_newTrader_66 : decode cX10_newTrader 66 = .ok (.iload_n 2, 1) := by decide +kernel
theorem dX10_newTrader_67 : decode cX10_newTrader 67 = .ok (.lload_n 3, 1) := by decide +kernel
theorem dX10_newTrader_68 : decode cX10_newTrader 68 = .ok (.aload_n 0, 1) := by decide +kernel
theorem dX10_newTrader_69 : decode cX10_newTrader 69 = .ok (.getfield 12, 3) := by decide +kernel
theorem dX10_newTrader_72 : decode cX10_newTrader 72 = .ok (.invokevirtual 218, 3) := by decide +kernel
theorem dX10_newTrader_75 : decode cX10_newTrader 75 = .ok (.invokespecial 324, 3) := by decide +kernel
theorem dX10_newTrader_78 : decode cX10_newTrader 78 = .ok (.areturn, 1) := by decide +kernel
theorem dX10_isOfKind_0 : decode cX10_isOfKind 0 = .ok (.iload_n 1, 1) := by decide +kernel
theorem dX10_isOfKind_1 : decode cX10_isOfKind 1 = .ok (.lookupswitch 37 #[(1, 32), (2, 27)], 27) := by decide +kernel
theorem dX10_isOfKind_28 : decode cX10_isOfKind 28 = .ok (.aload_n 0, 1) := by decide +kernel
theorem dX10_isOfKind_29 : decode cX10_isOfKind 29 = .ok (.instanceof 316, 3) := by decide +kernel
theorem dX10_isOfKind_32 : decode cX10_isOfKind 32 = .ok (.ireturn, 1) := by decide +kernel
theorem dX10_isOfKind_33 : decode cX10_isOfKind 33 = .ok (.aload_n 0, 1) := by decide +kernel
theorem dX10_isOfKind_34 : decode cX10_isOfKind 34 = .ok (.instanceof 321, 3) := by decide +kernel
theorem dX10_isOfKind_37 : decode cX10_isOfKind 37 = .ok (.ireturn, 1) := by decide +kernel
theorem dX10_isOfKind_38 : decode cX10_isOfKind 38 = .ok (.iconst 1, 1) := by decide +kernel
theorem dX10_isOfKind_39 : decode cX10_isOfKind 39 = .ok (.ireturn, 1) := by decide +kernel
theorem dX10_meet_0 : decode cX10_meet 0 = .ok (.aload_n 0, 1) := by decide +kernel
theorem dX10_meet_1 : decode cX10_meet 1 = .ok (.iload_n 1, 1) := by decide +kernel
theorem dX10_meet_2 : decode cX10_meet 2 = .ok (.putfield 179, 3) := by decide +kernel
theorem dX10_meet_5 : decode cX10_meet 5 = .ok (.bipush (-10), 2) := by decide +kernel
theorem dX10_meet_7 : decode cX10_meet 7 = .ok (.iload_n 1, 1) := by decide +kernel
theorem dX10_meet_8 : decode cX10_meet 8 = .ok (.isub, 1) := by decide +kernel
theorem dX10_meet_9 : decode cX10_meet 9 = .ok (.ireturn, 1) := by decide +kernel
set_option maxRecDepth 20000 in
theorem ggX10_whyBarred_X3_allowsPrices : GoodIn wsX10_whyBarred wsX3_allowsPrices := goodIn_r _ [6, 7, 8, 9, 10, 11, 12, 13, 14, 15, 16, 17, 18, 19, 20, 21, 5, 22, 23, 24, 25, 26, 27, 28, 29, 30, 31, 32, 33, 34, 35, 36, 37, 38, 81, 82, 83, 84, 85, 86] (by decide +kernel) (by decide +kernel)
set_option maxRecDepth 20000 in
theorem gX10_whyBarred_X3_allowsPrices : GoodIn wsX10_whyBarred (wsV RX10 325 RX3 yX3_allowsPrices wsX3_allowsPrices) := goodIn_app (goodIn_of _ (by decide +kernel)) ggX10_whyBarred_X3_allowsPrices
set_option maxRecDepth 20000 in
theorem ggX10_whyBarred_X5_purse : GoodIn wsX10_whyBarred wsX5_purse := goodIn_r _ [43, 44, 87, 88, 89, 90, 91, 92, 93, 94, 95, 96, 97, 98, 99, 100, 101] (by decide +kernel) (by decide +kernel)
set_option maxRecDepth 20000 in
theorem gX10_whyBarred_X5_purse : GoodIn wsX10_whyBarred (wsV RX10 154 RX5 yX5_purse wsX5_purse) := goodIn_app (goodIn_of _ (by decide +kernel)) ggX10_whyBarred_X5_purse
set_option maxRecDepth 20000 in
theorem gX10_whyBarred_X5_purse_u154X7 : GoodIn wsX10_whyBarred (va_wsU RX10 154 RX7 "BetMaker$Plain" ⟨"BetMaker$Plain", "purse", "()J"⟩ yX5_purse wsX5_purse) := goodIn_app (goodIn_of _ (by decide +kernel)) ggX10_whyBarred_X5_purse
set_option maxRecDepth 20000 in
theorem gX10_whyBarred_X5_purse_u154X9 : GoodIn wsX10_whyBarred (va_wsU RX10 154 RX9 "BetMaker$Plain" ⟨"BetMaker$Plain", "purse", "()J"⟩ yX5_purse wsX5_purse) := goodIn_app (goodIn_of _ (by decide +kernel)) ggX10_whyBarred_X5_purse
set_option maxRecDepth 20000 in
theorem ggX10_whyBarred_X3_cost : GoodIn wsX10_whyBarred wsX3_cost := goodIn_r _ [52, 7, 9, 10, 11, 12, 13, 14, 15, 53, 54, 55, 5, 56, 16, 17, 18, 19, 20, 21, 22, 23, 24, 8, 25, 26, 27, 28, 29, 30, 31, 32, 33, 34, 81, 82, 83, 84, 85, 86] (by decide +kernel) (by decide +kernel)
set_option maxRecDepth 20000 in
theorem gX10_whyBarred_X3_cost : GoodIn wsX10_whyBarred (wsV RX10 95 RX3 yX3_cost wsX3_cost) := goodIn_app (goodIn_of _ (by decide +kernel)) ggX10_whyBarred_X3_cost
set_option maxRecDepth 20000 in
theorem ggX10_whyBarred_X3_unit : GoodIn wsX10_whyBarred wsX3_unit := goodIn_r _ [38, 23, 24, 7, 81, 82, 83, 84, 85, 86] (by decide +kernel) (by decide +kernel)
set_option maxRecDepth 20000 in
theorem gX10_whyBarred_X3_unit : GoodIn wsX10_whyBarred (wsV RX10 121 RX3 yX3_unit wsX3_unit) := goodIn_app (goodIn_of _ (by decide +kernel)) ggX10_whyBarred_X3_unit
set_option maxRecDepth 20000 in
theorem ggX10_whyBarred_X5_leastHeld : GoodIn wsX10_whyBarred wsX5_leastHeld := goodIn_r _ [61, 62, 63, 64, 65, 66, 67, 16, 17, 18, 87, 88, 89, 90, 91, 92, 93, 94, 95, 96, 97, 98, 99, 100, 101] (by decide +kernel) (by decide +kernel)
set_option maxRecDepth 20000 in
theorem gX10_whyBarred_X5_leastHeld : GoodIn wsX10_whyBarred (wsV RX10 157 RX5 yX5_leastHeld wsX5_leastHeld) := goodIn_app (goodIn_of _ (by decide +kernel)) ggX10_whyBarred_X5_leastHeld
set_option maxRecDepth 20000 in
theorem gX10_whyBarred_X5_leastHeld_u157X7 : GoodIn wsX10_whyBarred (va_wsU RX10 157 RX7 "BetMaker$Plain" ⟨"BetMaker$Plain", "leastHeld", "(II)J"⟩ yX5_leastHeld wsX5_leastHeld) := goodIn_app (goodIn_of _ (by decide +kernel)) ggX10_whyBarred_X5_leastHeld
set_option maxRecDepth 20000 in
theorem gX10_whyBarred_X5_leastHeld_u157X9 : GoodIn wsX10_whyBarred (va_wsU RX10 157 RX9 "BetMaker$Plain" ⟨"BetMaker$Plain", "leastHeld", "(II)J"⟩ yX5_leastHeld wsX5_leastHeld) := goodIn_app (goodIn_of _ (by decide +kernel)) ggX10_whyBarred_X5_leastHeld
theorem dX10_whyBarred_0 : decode cX10_whyBarred 0 = .ok (.aload_n 0, 1) := by decide +kernel
theorem dX10_whyBarred_1 : decode cX10_whyBarred 1 = .ok (.getfield 12, 3) := by decide +kernel
theorem dX10_whyBarred_4 : decode cX10_whyBarred 4 = .ok (.iload_n 2, 1) := by decide +kernel
theorem dX10_whyBarred_5 : decode cX10_whyBarred 5 = .ok (.iload_n 3, 1) := by decide +kernel
theorem dX10_whyBarred_6 : decode cX10_whyBarred 6 = .ok (.invokevirtual 325, 3) := by decide +kernel
theorem dX10_whyBarred_9 : decode cX10_whyBarred 9 = .ok (.ifCond .ne 5, 3) := by decide +kernel
theorem dX10_whyBarred_12 : decode cX10_whyBarred 12 = .ok (.iconst 1, 1) := by decide +kernel
theorem dX10_whyBarred_13 : decode cX10_whyBarred 13 = .ok (.ireturn, 1) := by decide +kernel
theorem dX10_whyBarred_14 : decode cX10_whyBarred 14 = .ok (.aload_n 1, 1) := by decide +kernel
theorem dX10_whyBarred_15 : decode cX10_whyBarred 15 = .ok (.invokevirtual 154, 3) := by decide +kernel
theorem dX10_whyBarred_18 : decode cX10_whyBarred 18 = .ok (.aload_n 0, 1) := by decide +kernel
theorem dX10_whyBarred_19 : decode cX10_whyBarred 19 = .ok (.getfield 12, 3) := by decide +kernel
theorem dX10_whyBarred_22 : decode cX10_whyBarred 22 = .ok (.iload_n 2, 1) := by decide +kernel
theorem dX10_whyBarred_23 : decode cX10_whyBarred 23 = .ok (.iload_n 3, 1) := by decide +kernel
theorem dX10_whyBarred_24 : decode cX10_whyBarred 24 = .ok (.invokevirtual 95, 3) := by decide +kernel
theorem dX10_whyBarred_27 : decode cX10_whyBarred 27 = .ok (.lsub, 1) := by decide +kernel
theorem dX10_whyBarred_28 : decode cX10_whyBarred 28 = .ok (.lstore 4, 2) := by decide +kernel
theorem dX10_whyBarred_30 : decode cX10_whyBarred 30 = .ok (.lload 4, 2) := by decide +kernel
theorem dX10_whyBarred_32 : decode cX10_whyBarred 32 = .ok (.aload_n 0, 1) := by decide +kernel
theorem dX10_whyBarred_33 : decode cX10_whyBarred 33 = .ok (.getfield 12, 3) := by decide +kernel
theorem dX10_whyBarred_36 : decode cX10_whyBarred 36 = .ok (.invokevirtual 121, 3) := by decide +kernel
theorem dX10_whyBarred_39 : decode cX10_whyBarred 39 = .ok (.aload_n 1, 1) := by decide +kernel
theorem dX10_whyBarred_40 : decode cX10_whyBarred 40 = .ok (.iload_n 2, 1) := by decide +kernel
theorem dX10_whyBarred_41 : decode cX10_whyBarred 41 = .ok (.iload_n 3, 1) := by decide +kernel
theorem dX10_whyBarred_42 : decode cX10_whyBarred 42 = .ok (.invokevirtual 157, 3) := by decide +kernel
theorem dX10_whyBarred_45 : decode cX10_whyBarred 45 = .ok (.lmul, 1) := by decide +kernel
theorem dX10_whyBarred_46 : decode cX10_whyBarred 46 = .ok (.ladd, 1) := by decide +kernel
theorem dX10_whyBarred_47 : decode cX10_whyBarred 47 = .ok (.lconst 0, 1) := by decide +kernel
theorem dX10_whyBarred_48 : decode cX10_whyBarred 48 = .ok (.lcmp, 1) := by decide +kernel
theorem dX10_whyBarred_49 : decode cX10_whyBarred 49 = .ok (.ifCond .ge 7, 3) := by decide +kernel
theorem dX10_whyBarred_52 : decode cX10_whyBarred 52 = .ok (.iconst 2, 1) := by decide +kernel
theorem dX10_whyBarred_53 : decode cX10_whyBarred 53 = .ok (.goto 4, 3) := by decide +kernel
theorem dX10_whyBarred_56 : decode cX10_whyBarred 56 = .ok (.iconst 0, 1) := by decide +kernel
theorem dX10_whyBarred_57 : decode cX10_whyBarred 57 = .ok (.ireturn, 1) := by decide +kernel
set_option maxRecDepth 20000 in
theorem ggX10_worthTo_X5_weightIn : GoodIn wsX10_worthTo wsX5_weightIn := goodIn_r _ [6, 7, 8, 9, 10, 70, 71, 72, 73, 74, 75, 76, 77, 78, 79, 80, 81, 82, 83, 84] (by decide +kernel) (by decide +kernel)
set_option maxRecDepth 20000 in
theorem gX10_worthTo_X5_weightIn : GoodIn wsX10_worthTo (wsV RX10 328 RX5 yX5_weightIn wsX5_weightIn) := goodIn_app (goodIn_of _ (by decide +kernel)) ggX10_worthTo_X5_weightIn
set_option maxRecDepth 20000 in
theorem gX10_worthTo_X5_weightIn_u328X7 : GoodIn wsX10_worthTo (va_wsU RX10 328 RX7 "BetMaker$Plain" ⟨"BetMaker$Plain", "weightIn", "(I)J"⟩ yX5_weightIn wsX5_weightIn) := goodIn_app (goodIn_of _ (by decide +kernel)) ggX10_worthTo_X5_weightIn
set_option maxRecDepth 20000 in
theorem gX10_worthTo_X5_weightIn_u328X9 : GoodIn wsX10_worthTo (va_wsU RX10 328 RX9 "BetMaker$Plain" ⟨"BetMaker$Plain", "weightIn", "(I)J"⟩ yX5_weightIn wsX5_weightIn) := goodIn_app (goodIn_of _ (by decide +kernel)) ggX10_worthTo_X5_weightIn
set_option maxRecDepth 20000 in
theorem ggX10_worthTo_X3_unit : GoodIn wsX10_worthTo wsX3_unit := goodIn_r _ [19, 20, 21, 22, 85, 86, 87, 88, 89, 90] (by decide +kernel) (by decide +kernel)
set_option maxRecDepth 20000 in
theorem gX10_worthTo_X3_unit : GoodIn wsX10_worthTo (wsV RX10 121 RX3 yX3_unit wsX3_unit) := goodIn_app (goodIn_of _ (by decide +kernel)) ggX10_worthTo_X3_unit
set_option maxRecDepth 20000 in
theorem ggX10_worthTo_X5_weightSum : GoodIn wsX10_worthTo wsX5_weightSum := goodIn_r _ [26, 7, 70, 71, 72, 73, 74, 75, 76, 77, 78, 79, 80, 81, 82, 83, 84] (by decide +kernel) (by decide +kernel)
set_option maxRecDepth 20000 in
theorem gX10_worthTo_X5_weightSum : GoodIn wsX10_worthTo (wsV RX10 163 RX5 yX5_weightSum wsX5_weightSum) := goodIn_app (goodIn_of _ (by decide +kernel)) ggX10_worthTo_X5_weightSum
set_option maxRecDepth 20000 in
theorem gX10_worthTo_X5_weightSum_u163X7 : GoodIn wsX10_worthTo (va_wsU RX10 163 RX7 "BetMaker$Plain" ⟨"BetMaker$Plain", "weightSum", "()J"⟩ yX5_weightSum wsX5_weightSum) := goodIn_app (goodIn_of _ (by decide +kernel)) ggX10_worthTo_X5_weightSum
set_option maxRecDepth 20000 in
theorem gX10_worthTo_X5_weightSum_u163X9 : GoodIn wsX10_worthTo (va_wsU RX10 163 RX9 "BetMaker$Plain" ⟨"BetMaker$Plain", "weightSum", "()J"⟩ yX5_weightSum wsX5_weightSum) := goodIn_app (goodIn_of _ (by decide +kernel)) ggX10_worthTo_X5_weightSum
set_option maxRecDepth 20000 in
theorem ggX10_worthTo_X3_cost : GoodIn wsX10_worthTo wsX3_cost := goodIn_r _ [34, 22, 35, 36, 37, 38, 39, 40, 41, 42, 43, 44, 18, 45, 8, 9, 10, 46, 47, 48, 49, 20, 21, 50, 51, 52, 53, 54, 55, 56, 57, 58, 59, 60, 85, 86, 87, 88, 89, 90] (by decide +kernel) (by decide +kernel)
set_option maxRecDepth 20000 in
theorem gX10_worthTo_X3_cost : GoodIn wsX10_worthTo (wsV RX10 95 RX3 yX3_cost wsX3_cost) := goodIn_app (goodIn_of _ (by decide +kernel)) ggX10_worthTo_X3_cost
theorem dX10_worthTo_0 : decode cX10_worthTo 0 = .ok (.aload_n 1, 1) := by decide +kernel
theorem dX10_worthTo_1 : decode cX10_worthTo 1 = .ok (.iload_n 2, 1) := by decide +kernel
theorem dX10_worthTo_2 : decode cX10_worthTo 2 = .ok (.invokevirtual 328, 3) := by decide +kernel
theorem dX10_worthTo_5 : decode cX10_worthTo 5 = .ok (.iload_n 3, 1) := by decide +kernel
theorem dX10_worthTo_6 : decode cX10_worthTo 6 = .ok (.i2l, 1) := by decide +kernel
theorem dX10_worthTo_7 : decode cX10_worthTo 7 = .ok (.lmul, 1) := by decide +kernel
theorem dX10_worthTo_8 : decode cX10_worthTo 8 = .ok (.aload_n 0, 1) := by decide +kernel
theorem dX10_worthTo_9 : decode cX10_worthTo 9 = .ok (.getfield 12, 3) := by decide +kernel
theorem dX10_worthTo_12 : decode cX10_worthTo 12 = .ok (.invokevirtual 121, 3) := by decide +kernel
theorem dX10_worthTo_15 : decode cX10_worthTo 15 = .ok (.lmul, 1) := by decide +kernel
theorem dX10_worthTo_16 : decode cX10_worthTo 16 = .ok (.aload_n 1, 1) := by decide +kernel
theorem dX10_worthTo_17 : decode cX10_worthTo 17 = .ok (.invokevirtual 163, 3) := by decide +kernel
theorem dX10_worthTo_20 : decode cX10_worthTo 20 = .ok (.aload_n 0, 1) := by decide +kernel
theorem dX10_worthTo_21 : decode cX10_worthTo 21 = .ok (.getfield 12, 3) := by decide +kernel
theorem dX10_worthTo_24 : decode cX10_worthTo 24 = .ok (.iload_n 2, 1) := by decide +kernel
theorem dX10_worthTo_25 : decode cX10_worthTo 25 = .ok (.iload_n 3, 1) := by decide +kernel
theorem dX10_worthTo_26 : decode cX10_worthTo 26 = .ok (.invokevirtual 95, 3) := by decide +kernel
theorem dX10_worthTo_29 : decode cX10_worthTo 29 = .ok (.lmul, 1) := by decide +kernel
theorem dX10_worthTo_30 : decode cX10_worthTo 30 = .ok (.lsub, 1) := by decide +kernel
theorem dX10_worthTo_31 : decode cX10_worthTo 31 = .ok (.lreturn, 1) := by decide +kernel
set_option maxRecDepth 20000 in
theorem ggX10_countHolders_X10_findTrader : GoodIn wsX10_countHolders wsX10_findTrader := goodIn_r _ [6, 1, 7, 18, 19, 20, 21, 22, 23, 24, 25, 26] (by decide +kernel) (by decide +kernel)
set_option maxRecDepth 20000 in
theorem gX10_countHolders_X10_findTrader : GoodIn wsX10_countHolders (wsV RX10 87 RX10 yX10_findTrader wsX10_findTrader) := goodIn_app (goodIn_of _ (by decide +kernel)) ggX10_countHolders_X10_findTrader
set_option maxRecDepth 20000 in
theorem ggX10_countHolders_X5_heldOf : GoodIn wsX10_countHolders wsX5_heldOf := goodIn_r _ [12, 13, 27, 28, 29, 30, 31, 32, 33, 34, 35, 36, 37, 38, 39, 40, 41] (by decide +kernel) (by decide +kernel)
set_option maxRecDepth 20000 in
theorem gX10_countHolders_X5_heldOf : GoodIn wsX10_countHolders (wsV RX10 331 RX5 yX5_heldOf wsX5_heldOf) := goodIn_app (goodIn_of _ (by decide +kernel)) ggX10_countHolders_X5_heldOf
set_option maxRecDepth 20000 in
theorem gX10_countHolders_X5_heldOf_u331X7 : GoodIn wsX10_countHolders (va_wsU RX10 331 RX7 "BetMaker$Plain" ⟨"BetMaker$Plain", "heldOf", "(I)J"⟩ yX5_heldOf wsX5_heldOf) := goodIn_app (goodIn_of _ (by decide +kernel)) ggX10_countHolders_X5_heldOf
set_option maxRecDepth 20000 in
theorem gX10_countHolders_X5_heldOf_u331X9 : GoodIn wsX10_countHolders (va_wsU RX10 331 RX9 "BetMaker$Plain" ⟨"BetMaker$Plain", "heldOf", "(I)J"⟩ yX5_heldOf wsX5_heldOf) := goodIn_app (goodIn_of _ (by decide +kernel)) ggX10_countHolders_X5_heldOf
theorem dX10_countHolders_0 : decode cX10_countHolders 0 = .ok (.iconst 0, 1) := by decide +kernel
theorem dX10_countHolders_1 : decode cX10_countHolders 1 = .ok (.istore_n 2, 1) := by decide +kernel
theorem dX10_countHolders_2 : decode cX10_countHolders 2 = .ok (.iconst 0, 1) := by decide +kernel
theorem dX10_countHolders_3 : decode cX10_countHolders 3 = .ok (.istore_n 3, 1) := by decide +kernel
theorem dX10_countHolders_4 : decode cX10_countHolders 4 = .ok (.iload_n 3, 1) := by decide +kernel
theorem dX10_countHolders_5 : decode cX10_countHolders 5 = .ok (.aload_n 0, 1) := by decide +kernel
theorem dX10_countHolders_6 : decode cX10_countHolders 6 = .ok (.getfield 60, 3) := by decide +kernel
theorem dX10_countHolders_9 : decode cX10_countHolders 9 = .ok (.if_icmp .ge 35, 3) := by decide +kernel
theorem dX10_countHolders_12 : decode cX10_countHolders 12 = .ok (.aload_n 0, 1) := by decide +kernel
theorem dX10_countHolders_13 : decode cX10_countHolders 13 = .ok (.iload_n 3, 1) := by decide +kernel
theorem dX10_countHolders_14 : decode cX10_countHolders 14 = .ok (.invokevirtual 87, 3) := by decide +kernel
theorem dX10_countHolders_17 : decode cX10_countHolders 17 = .ok (.astore 4, 2) := by decide +kernel
theorem dX10_countHolders_19 : decode cX10_countHolders 19 = .ok (.aload 4, 2) := by decide +kernel
theorem dX10_countHolders_21 : decode cX10_countHolders 21 = .ok (.ifnull 17, 3) := by decide +kernel
theorem dX10_countHolders_24 : decode cX10_countHolders 24 = .ok (.aload 4, 2) := by decide +kernel
theorem dX10_countHolders_26 : decode cX10_countHolders 26 = .ok (.iload_n 1, 1) := by decide +kernel
theorem dX10_countHolders_27 : decode cX10_countHolders 27 = .ok (.invokevirtual 331, 3) := by decide +kernel
theorem dX10_countHolders_30 : decode cX10_countHolders 30 = .ok (.lconst 0, 1) := by decide +kernel
theorem dX10_countHolders_31 : decode cX10_countHolders 31 = .ok (.lcmp, 1) := by decide +kernel
theorem dX10_countHolders_32 : decode cX10_countHolders 32 = .ok (.ifCond .le 6, 3) := by decide +kernel
theorem dX10_countHolders_35 : decode cX10_countHolders 35 = .ok (.iinc 2 1, 3) := by decide +kernel
theorem dX10_countHolders_38 : decode cX10_countHolders 38 = .ok (.iinc 3 1, 3) := by decide +kernel
theorem dX10_countHolders_41 : decode cX10_countHolders 41 = .ok (.goto (-37), 3) := by decide +kernel
theorem dX10_countHolders_44 : decode cX10_countHolders 44 = .ok (.iload_n 2, 1) := by decide +kernel
theorem dX10_countHolders_45 : decode cX10_countHolders 45 = .ok (.ireturn, 1) := by decide +kernel
set_option maxRecDepth 20000 in
theorem ggX10_countDeals_X10_findTrader : GoodIn wsX10_countDeals wsX10_findTrader := goodIn_r _ [6, 1, 7, 18, 19, 20, 21, 22, 23, 24, 25, 26] (by decide +kernel) (by decide +kernel)
set_option maxRecDepth 20000 in
theorem gX10_countDeals_X10_findTrader : GoodIn wsX10_countDeals (wsV RX10 87 RX10 yX10_findTrader wsX10_findTrader) := goodIn_app (goodIn_of _ (by decide +kernel)) ggX10_countDeals_X10_findTrader
set_option maxRecDepth 20000 in
theorem ggX10_countDeals_X5_deals : GoodIn wsX10_countDeals wsX5_deals := goodIn_r _ [12, 13, 27, 28, 29, 30, 31, 32, 33, 34, 35, 36, 37, 38, 39, 40, 41] (by decide +kernel) (by decide +kernel)
set_option maxRecDepth 20000 in
theorem gX10_countDeals_X5_deals : GoodIn wsX10_countDeals (wsV RX10 114 RX5 yX5_deals wsX5_deals) := goodIn_app (goodIn_of _ (by decide +kernel)) ggX10_countDeals_X5_deals
set_option maxRecDepth 20000 in
theorem gX10_countDeals_X5_deals_u114X7 : GoodIn wsX10_countDeals (va_wsU RX10 114 RX7 "BetMaker$Plain" ⟨"BetMaker$Plain", "deals", "()I"⟩ yX5_deals wsX5_deals) := goodIn_app (goodIn_of _ (by decide +kernel)) ggX10_countDeals_X5_deals
set_option maxRecDepth 20000 in
theorem gX10_countDeals_X5_deals_u114X9 : GoodIn wsX10_countDeals (va_wsU RX10 114 RX9 "BetMaker$Plain" ⟨"BetMaker$Plain", "deals", "()I"⟩ yX5_deals wsX5_deals) := goodIn_app (goodIn_of _ (by decide +kernel)) ggX10_countDeals_X5_deals
theorem dX10_countDeals_0 : decode cX10_countDeals 0 = .ok (.iconst 0, 1) := by decide +kernel
theorem dX10_countDeals_1 : decode cX10_countDeals 1 = .ok (.istore_n 1, 1) := by decide +kernel
theorem dX10_countDeals_2 : decode cX10_countDeals 2 = .ok (.iconst 0, 1) := by decide +kernel
theorem dX10_countDeals_3 : decode cX10_countDeals 3 = .ok (.istore_n 2, 1) := by decide +kernel
theorem dX10_countDeals_4 : decode cX10_countDeals 4 = .ok (.iload_n 2, 1) := by decide +kernel
theorem dX10_countDeals_5 : decode cX10_countDeals 5 = .ok (.aload_n 0, 1) := by decide +kernel
theorem dX10_countDeals_6 : decode cX10_countDeals 6 = .ok (.getfield 60, 3) := by decide +kernel
theorem dX10_countDeals_9 : decode cX10_countDeals 9 = .ok (.if_icmp .ge 26, 3) := by decide +kernel
theorem dX10_countDeals_12 : decode cX10_countDeals 12 = .ok (.aload_n 0, 1) := by decide +kernel
theorem dX10_countDeals_13 : decode cX10_countDeals 13 = .ok (.iload_n 2, 1) := by decide +kernel
theorem dX10_countDeals_14 : decode cX10_countDeals 14 = .ok (.invokevirtual 87, 3) := by decide +kernel
theorem dX10_countDeals_17 : decode cX10_countDeals 17 = .ok (.astore_n 3, 1) := by decide +kernel
theorem dX10_countDeals_18 : decode cX10_countDeals 18 = .ok (.aload_n 3, 1) := by decide +kernel
theorem dX10_countDeals_19 : decode cX10_countDeals 19 = .ok (.ifnull 10, 3) := by decide +kernel
theorem dX10_countDeals_22 : decode cX10_countDeals 22 = .ok (.iload_n 1, 1) := by decide +kernel
theorem dX10_countDeals_23 : decode cX10_countDeals 23 = .ok (.aload_n 3, 1) := by decide +kernel
theorem dX10_countDeals_24 : decode cX10_countDeals 24 = .ok (.invokevirtual 114, 3) := by decide +kernel
theorem dX10_countDeals_27 : decode cX10_countDeals 27 = .ok (.iadd, 1) := by decide +kernel
theorem dX10_countDeals_28 : decode cX10_countDeals 28 = .ok (.istore_n 1, 1) := by decide +kernel
theorem dX10_countDeals_29 : decode cX10_countDeals 29 = .ok (.iinc 2 1, 3) := by decide +kernel
theorem dX10_countDeals_32 : decode cX10_countDeals 32 = .ok (.goto (-28), 3) := by decide +kernel
theorem dX10_countDeals_35 : decode cX10_countDeals 35 = .ok (.iload_n 1, 1) := by decide +kernel
theorem dX10_countDeals_36 : decode cX10_countDeals 36 = .ok (.ireturn, 1) := by decide +kernel
set_option maxRecDepth 20000 in
theorem ggX10_ofCase_X3_isCase : GoodIn wsX10_ofCase wsX3_isCase := goodIn_r _ [7, 8, 37, 38, 39, 40, 41, 42] (by decide +kernel) (by decide +kernel)
set_option maxRecDepth 20000 in
theorem gX10_ofCase_X3_isCase : GoodIn wsX10_ofCase (wsV RX10 118 RX3 yX3_isCase wsX3_isCase) := goodIn_app (goodIn_of _ (by decide +kernel)) ggX10_ofCase_X3_isCase
set_option maxRecDepth 20000 in
theorem ggX10_ofCase_X5_heldOf : GoodIn wsX10_ofCase wsX5_heldOf := goodIn_r _ [13, 14, 43, 44, 45, 46, 47, 48, 49, 50, 51, 52, 53, 54, 55, 56, 57] (by decide +kernel) (by decide +kernel)
set_option maxRecDepth 20000 in
theorem gX10_ofCase_X5_heldOf : GoodIn wsX10_ofCase (wsV RX10 331 RX5 yX5_heldOf wsX5_heldOf) := goodIn_app (goodIn_of _ (by decide +kernel)) ggX10_ofCase_X5_heldOf
set_option maxRecDepth 20000 in
theorem gX10_ofCase_X5_heldOf_u331X7 : GoodIn wsX10_ofCase (va_wsU RX10 331 RX7 "BetMaker$Plain" ⟨"BetMaker$Plain", "heldOf", "(I)J"⟩ yX5_heldOf wsX5_heldOf) := goodIn_app (goodIn_of _ (by decide +kernel)) ggX10_ofCase_X5_heldOf
set_option maxRecDepth 20000 in
theorem gX10_ofCase_X5_heldOf_u331X9 : GoodIn wsX10_ofCase (va_wsU RX10 331 RX9 "BetMaker$Plain" ⟨"BetMaker$Plain", "heldOf", "(I)J"⟩ yX5_heldOf wsX5_heldOf) := goodIn_app (goodIn_of _ (by decide +kernel)) ggX10_ofCase_X5_heldOf
set_option maxRecDepth 20000 in
theorem ggX10_ofCase_X5_weightOf : GoodIn wsX10_ofCase wsX5_weightOf := goodIn_r _ [22, 23, 43, 44, 45, 46, 47, 48, 49, 50, 51, 52, 53, 54, 55, 56, 57] (by decide +kernel) (by decide +kernel)
set_option maxRecDepth 20000 in
theorem gX10_ofCase_X5_weightOf : GoodIn wsX10_ofCase (wsV RX10 173 RX5 yX5_weightOf wsX5_weightOf) := goodIn_app (goodIn_of _ (by decide +kernel)) ggX10_ofCase_X5_weightOf
set_option maxRecDepth 20000 in
theorem gX10_ofCase_X5_weightOf_u173X7 : GoodIn wsX10_ofCase (va_wsU RX10 173 RX7 "BetMaker$Plain" ⟨"BetMaker$Plain", "weightOf", "(I)I"⟩ yX5_weightOf wsX5_weightOf) := goodIn_app (goodIn_of _ (by decide +kernel)) ggX10_ofCase_X5_weightOf
set_option maxRecDepth 20000 in
theorem gX10_ofCase_X5_weightOf_u173X9 : GoodIn wsX10_ofCase (va_wsU RX10 173 RX9 "BetMaker$Plain" ⟨"BetMaker$Plain", "weightOf", "(I)I"⟩ yX5_weightOf wsX5_weightOf) := goodIn_app (goodIn_of _ (by decide +kernel)) ggX10_ofCase_X5_weightOf
theorem dX10_ofCase_0 : decode cX10_ofCase 0 = .ok (.iload_n 2, 1) := by decide +kernel
theorem dX10_ofCase_1 : decode cX10_ofCase 1 = .ok (.bipush 10, 2) := by decide +kernel
theorem dX10_ofCase_3 : decode cX10_ofCase 3 = .ok (.if_icmp .lt 26, 3) := by decide +kernel
theorem dX10_ofCase_6 : decode cX10_ofCase 6 = .ok (.aload_n 0, 1) := by decide +kernel
theorem dX10_ofCase_7 : decode cX10_ofCase 7 = .ok (.getfield 12, 3) := by decide +kernel
theorem dX10_ofCase_10 : decode cX10_ofCase 10 = .ok (.iload_n 2, 1) := by decide +kernel
theorem dX10_ofCase_11 : decode cX10_ofCase 11 = .ok (.bipush 10, 2) := by decide +kernel
theorem dX10_ofCase_13 : decode cX10_ofCase 13 = .ok (.isub, 1) := by decide +kernel
theorem dX10_ofCase_14 : decode cX10_ofCase 14 = .ok (.invokevirtual 118, 3) := by decide +kernel
theorem dX10_ofCase_17 : decode cX10_ofCase 17 = .ok (.ifCond .eq 12, 3) := by decide +kernel
theorem dX10_ofCase_20 : decode cX10_ofCase 20 = .ok (.aload_n 1, 1) := by decide +kernel
theorem dX10_ofCase_21 : decode cX10_ofCase 21 = .ok (.iload_n 2, 1) := by decide +kernel
theorem dX10_ofCase_22 : decode cX10_ofCase 22 = .ok (.bipush 10, 2) := by decide +kernel
theorem dX10_ofCase_24 : decode cX10_ofCase 24 = .ok (.isub, 1) := by decide +kernel
theorem dX10_ofCase_25 : decode cX10_ofCase 25 = .ok (.invokevirtual 331, 3) := by decide +kernel
theorem dX10_ofCase_28 : decode cX10_ofCase 28 = .ok (.lreturn, 1) := by decide +kernel
theorem dX10_ofCase_29 : decode cX10_ofCase 29 = .ok (.iload_n 2, 1) := by decide +kernel
theorem dX10_ofCase_30 : decode cX10_ofCase 30 = .ok (.bipush 20, 2) := by decide +kernel
theorem dX10_ofCase_32 : decode cX10_ofCase 32 = .ok (.if_icmp .lt 27, 3) := by decide +kernel
theorem dX10_ofCase_35 : decode cX10_ofCase 35 = .ok (.aload_n 0, 1) := by decide +kernel
theorem dX10_ofCase_36 : decode cX10_ofCase 36 = .ok (.getfield 12, 3) := by decide +kernel
theorem dX10_ofCase_39 : decode cX10_ofCase 39 = .ok (.iload_n 2, 1) := by decide +kernel
theorem dX10_ofCase_40 : decode cX10_ofCase 40 = .ok (.bipush 20, 2) := by decide +kernel
theorem dX10_ofCase_42 : decode cX10_ofCase 42 = .ok (.isub, 1) := by decide +kernel
theorem dX10_ofCase_43 : decode cX10_ofCase 43 = .ok (.invokevirtual 118, 3) := by decide +kernel
theorem dX10_ofCase_46 : decode cX10_ofCase 46 = .ok (.ifCond .eq 13, 3) := by decide +kernel
theorem dX10_ofCase_49 : decode cX10_ofCase 49 = .ok (.aload_n 1, 1) := by decide +kernel
theorem dX10_ofCase_50 : decode cX10_ofCase 50 = .ok (.iload_n 2, 1) := by decide +kernel
theorem dX10_ofCase_51 : decode cX10_ofCase 51 = .ok (.bipush 20, 2) := by decide +kernel
theorem dX10_ofCase_53 : decode cX10_ofCase 53 = .ok (.isub, 1) := by decide +kernel
theorem dX10_ofCase_54 : decode cX10_ofCase 54 = .ok (.invokevirtual 173, 3) := by decide +kernel
theorem dX10_ofCase_57 : decode cX10_ofCase 57 = .ok (.i2l, 1) := by decide +kernel
theorem dX10_ofCase_58 : decode cX10_ofCase 58 = .ok (.lreturn, 1) := by decide +kernel
theorem dX10_ofCase_59 : decode cX10_ofCase 59 = .ok (.ldc2_w 85, 3) := by decide +kernel
theorem dX10_ofCase_62 : decode cX10_ofCase 62 = .ok (.lreturn, 1) := by decide +kernel
set_option maxRecDepth 20000 in
theorem ggX10_takeWeights_X10_isLane : GoodIn wsX10_takeWeights wsX10_isLane := goodIn_r _ [6] (by decide +kernel) (by decide +kernel)
set_option maxRecDepth 20000 in
theorem gX10_takeWeights_X10_isLane : GoodIn wsX10_takeWeights (va_wsS RX10 267 yX10_isLane wsX10_isLane) := goodIn_app (goodIn_of _ (by decide +kernel)) ggX10_takeWeights_X10_isLane
set_option maxRecDepth 20000 in
theorem ggX10_takeWeights_X3_cases : GoodIn wsX10_takeWeights wsX3_cases := goodIn_r _ [11, 12, 47, 48, 49, 50, 51, 52] (by decide +kernel) (by decide +kernel)
set_option maxRecDepth 20000 in
theorem gX10_takeWeights_X3_cases : GoodIn wsX10_takeWeights (wsV RX10 218 RX3 yX3_cases wsX3_cases) := goodIn_app (goodIn_of _ (by decide +kernel)) ggX10_takeWeights_X3_cases
set_option maxRecDepth 20000 in
theorem ggX10_takeWeights_X6_readFault : GoodIn wsX10_takeWeights wsX6_readFault := goodIn_r _ [17, 18, 19, 20, 21, 22, 16, 23, 24, 53, 54, 55, 56] (by decide +kernel) (by decide +kernel)
set_option maxRecDepth 20000 in
theorem gX10_takeWeights_X6_readFault : GoodIn wsX10_takeWeights (wsV RX10 285 RX6 yX6_readFault wsX6_readFault) := goodIn_app (goodIn_of _ (by decide +kernel)) ggX10_takeWeights_X6_readFault
set_option maxRecDepth 20000 in
theorem ggX10_takeWeights_X10_meet : GoodIn wsX10_takeWeights wsX10_meet := goodIn_r _ [28, 29, 38, 39, 40, 41, 42, 43, 44, 45, 46] (by decide +kernel) (by decide +kernel)
set_option maxRecDepth 20000 in
theorem gX10_takeWeights_X10_meet : GoodIn wsX10_takeWeights (wsV RX10 270 RX10 yX10_meet wsX10_meet) := goodIn_app (goodIn_of _ (by decide +kernel)) ggX10_takeWeights_X10_meet
set_option maxRecDepth 20000 in
theorem ggX10_takeWeights_X6_read : GoodIn wsX10_takeWeights wsX6_read := goodIn_r _ [33, 24, 34, 53, 54, 55, 56] (by decide +kernel) (by decide +kernel)
set_option maxRecDepth 20000 in
theorem gX10_takeWeights_X6_read : GoodIn wsX10_takeWeights (wsV RX10 289 RX6 yX6_read wsX6_read) := goodIn_app (goodIn_of _ (by decide +kernel)) ggX10_takeWeights_X6_read
set_option maxRecDepth 20000 in
theorem ggX10_takeWeights_X10_isWeight : GoodIn wsX10_takeWeights wsX10_isWeight := goodIn_r _ [37] (by decide +kernel) (by decide +kernel)
set_option maxRecDepth 20000 in
theorem gX10_takeWeights_X10_isWeight : GoodIn wsX10_takeWeights (va_wsS RX10 170 yX10_isWeight wsX10_isWeight) := goodIn_app (goodIn_of _ (by decide +kernel)) ggX10_takeWeights_X10_isWeight
theorem dX10_takeWeights_0 : decode cX10_takeWeights 0 = .ok (.iload_n 2, 1) := by decide +kernel
theorem dX10_takeWeights_1 : decode cX10_takeWeights 1 = .ok (.invokestatic 267, 3) := by decide +kernel
theorem dX10_takeWeights_4 : decode cX10_takeWeights 4 = .ok (.ifCond .ne 6, 3) := by decide +kernel
theorem dX10_takeWeights_7 : decode cX10_takeWeights 7 = .ok (.bipush (-2), 2) := by decide +kernel
theorem dX10_takeWeights_9 : decode cX10_takeWeights 9 = .ok (.ireturn, 1) := by decide +kernel
theorem dX10_takeWeights_10 : decode cX10_takeWeights 10 = .ok (.aload_n 1, 1) := by decide +kernel
theorem dX10_takeWeights_11 : decode cX10_takeWeights 11 = .ok (.iload_n 2, 1) := by decide +kernel
theorem dX10_takeWeights_12 : decode cX10_takeWeights 12 = .ok (.iload_n 3, 1) := by decide +kernel
theorem dX10_takeWeights_13 : decode cX10_takeWeights 13 = .ok (.aload_n 0, 1) := by decide +kernel
theorem dX10_takeWeights_14 : decode cX10_takeWeights 14 = .ok (.getfield 12, 3) := by decide +kernel
theorem dX10_takeWeights_17 : decode cX10_takeWeights 17 = .ok (.invokevirtual 218, 3) := by decide +kernel
theorem dX10_takeWeights_20 : decode cX10_takeWeights 20 = .ok (.invokevirtual 285, 3) := by decide +kernel
theorem dX10_takeWeights_23 : decode cX10_takeWeights 23 = .ok (.istore 4, 2) := by decide +kernel
theorem dX10_takeWeights_25 : decode cX10_takeWeights 25 = .ok (.iload 4, 2) := by decide +kernel
theorem dX10_takeWeights_27 : decode cX10_takeWeights 27 = .ok (.ifCond .eq 10, 3) := by decide +kernel
theorem dX10_takeWeights_30 : decode cX10_takeWeights 30 = .ok (.aload_n 0, 1) := by decide +kernel
theorem dX10_takeWeights_31 : decode cX10_takeWeights 31 = .ok (.iload 4, 2) := by decide +kernel
theorem dX10_takeWeights_33 : decode cX10_takeWeights 33 = .ok (.invokevirtual 270, 3) := by decide +kernel
theorem dX10_takeWeights_36 : decode cX10_takeWeights 36 = .ok (.ireturn, 1) := by decide +kernel
theorem dX10_takeWeights_37 : decode cX10_takeWeights 37 = .ok (.iconst 0, 1) := by decide +kernel
theorem dX10_takeWeights_38 : decode cX10_takeWeights 38 = .ok (.istore 5, 2) := by decide +kernel
theorem dX10_takeWeights_40 : decode cX10_takeWeights 40 = .ok (.iconst 0, 1) := by decide +kernel
theorem dX10_takeWeights_41 : decode cX10_takeWeights 41 = .ok (.istore 6, 2) := by decide +kernel
theorem dX10_takeWeights_43 : decode cX10_takeWeights 43 = .ok (.iload 6, 2) := by decide +kernel
theorem dX10_takeWeights_45 : decode cX10_takeWeights 45 = .ok (.aload_n 0, 1) := by decide +kernel
theorem dX10_takeWeights_46 : decode cX10_takeWeights 46 = .ok (.getfield 12, 3) := by decide +kernel
theorem dX10_takeWeights_49 : decode cX10_takeWeights 49 = .ok (.invokevirtual 218, 3) := by decide +kernel
theorem dX10_takeWeights_52 : decode cX10_takeWeights 52 = .ok (.if_icmp .ge 53, 3) := by decide +kernel
theorem dX10_takeWeights_55 : decode cX10_takeWeights 55 = .ok (.iload 6, 2) := by decide +kernel
theorem dX10_takeWeights_57 : decode cX10_takeWeights 57 = .ok (.bipush 8, 2) := by decide +kernel
theorem dX10_takeWeights_59 : decode cX10_takeWeights 59 = .ok (.if_icmp .ge 46, 3) := by decide +kernel
theorem dX10_takeWeights_62 : decode cX10_takeWeights 62 = .ok (.aload_n 1, 1) := by decide +kernel
theorem dX10_takeWeights_63 : decode cX10_takeWeights 63 = .ok (.iload_n 3, 1) := by decide +kernel
theorem dX10_takeWeights_64 : decode cX10_takeWeights 64 = .ok (.iload 6, 2) := by decide +kernel
theorem dX10_takeWeights_66 : decode cX10_takeWeights 66 = .ok (.iadd, 1) := by decide +kernel
theorem dX10_takeWeights_67 : decode cX10_takeWeights 67 = .ok (.invokevirtual 289, 3) := by decide +kernel
theorem dX10_takeWeights_70 : decode cX10_takeWeights 70 = .ok (.istore 7, 2) := by decide +kernel
theorem dX10_takeWeights_72 : decode cX10_takeWeights 72 = .ok (.iload 7, 2) := by decide +kernel
theorem dX10_takeWeights_74 : decode cX10_takeWeights 74 = .ok (.invokestatic 170, 3) := by decide +kernel
theorem dX10_takeWeights_77 : decode cX10_takeWeights 77 = .ok (.ifCond .ne 6, 3) := by decide +kernel
theorem dX10_takeWeights_80 : decode cX10_takeWeights 80 = .ok (.bipush (-2), 2) := by decide +kernel
theorem dX10_takeWeights_82 : decode cX10_takeWeights 82 = .ok (.ireturn, 1) := by decide +kernel
theorem dX10_takeWeights_83 : decode cX10_takeWeights 83 = .ok (.aload_n 0, 1) := by decide +kernel
theorem dX10_takeWeights_84 : decode cX10_takeWeights 84 = .ok (.getfield 51, 3) := by decide +kernel
theorem dX10_takeWeights_87 : decode cX10_takeWeights 87 = .ok (.iload 6, 2) := by decide +kernel
theorem dX10_takeWeights_89 : decode cX10_takeWeights 89 = .ok (.iload 7, 2) := by decide +kernel
theorem dX10_takeWeights_91 : decode cX10_takeWeights 91 = .ok (.iastore, 1) := by decide +kernel
theorem dX10_takeWeights_92 : decode cX10_takeWeights 92 = .ok (.iload 5, 2) := by decide +kernel
theorem dX10_takeWeights_94 : decode cX10_takeWeights 94 = .ok (.iload 7, 2) := by decide +kernel
theorem dX10_takeWeights_96 : decode cX10_takeWeights 96 = .ok (.iadd, 1) := by decide +kernel
theorem dX10_takeWeights_97 : decode cX10_takeWeights 97 = .ok (.istore 5, 2) := by decide +kernel
theorem dX10_takeWeights_99 : decode cX10_takeWeights 99 = .ok (.iinc 6 1, 3) := by decide +kernel
theorem dX10_takeWeights_102 : decode cX10_takeWeights 102 = .ok (.goto (-59), 3) := by decide +kernel
theorem dX10_takeWeights_105 : decode cX10_takeWeights 105 = .ok (.iload 5, 2) := by decide +kernel
theorem dX10_takeWeights_107 : decode cX10_takeWeights 107 = .ok (.ifCond .ne 8, 3) := by decide +kernel
theorem dX10_takeWeights_110 : decode cX10_takeWeights 110 = .ok (.bipush (-2), 2) := by decide +kernel
theorem dX10_takeWeights_112 : decode cX10_takeWeights 112 = .ok (.goto 5, 3) := by decide +kernel
theorem dX10_takeWeights_115 : decode cX10_takeWeights 115 = .ok (.iload 5, 2) := by decide +kernel
theorem dX10_takeWeights_117 : decode cX10_takeWeights 117 = .ok (.ireturn, 1) := by decide +kernel
set_option maxRecDepth 20000 in
theorem ggX10_leastTerms_X10_greatestDivisor : GoodIn wsX10_leastTerms wsX10_greatestDivisor := goodIn_r _ [9] (by decide +kernel) (by decide +kernel)
set_option maxRecDepth 20000 in
theorem gX10_leastTerms_X10_greatestDivisor : GoodIn wsX10_leastTerms (va_wsS RX10 340 yX10_greatestDivisor wsX10_greatestDivisor) := goodIn_app (goodIn_of _ (by decide +kernel)) ggX10_leastTerms_X10_greatestDivisor
theorem dX10_leastTerms_0 : decode cX10_leastTerms 0 = .ok (.lload_n 0, 1) := by decide +kernel
theorem dX10_leastTerms_1 : decode cX10_leastTerms 1 = .ok (.invokestatic 334, 3) := by decide +kernel
theorem dX10_leastTerms_4 : decode cX10_leastTerms 4 = .ok (.lload_n 2, 1) := by decide +kernel
theorem dX10_leastTerms_5 : decode cX10_leastTerms 5 = .ok (.invokestatic 340, 3) := by decide +kernel
theorem dX10_leastTerms_8 : decode cX10_leastTerms 8 = .ok (.lstore 5, 2) := by decide +kernel
theorem dX10_leastTerms_10 : decode cX10_leastTerms 10 = .ok (.lload 5, 2) := by decide +kernel
theorem dX10_leastTerms_12 : decode cX10_leastTerms 12 = .ok (.lconst 0, 1) := by decide +kernel
theorem dX10_leastTerms_13 : decode cX10_leastTerms 13 = .ok (.lcmp, 1) := by decide +kernel
theorem dX10_leastTerms_14 : decode cX10_leastTerms 14 = .ok (.ifCond .ne 7, 3) := by decide +kernel
theorem dX10_leastTerms_17 : decode cX10_leastTerms 17 = .ok (.ldc2_w 85, 3) := by decide +kernel
theorem dX10_leastTerms_20 : decode cX10_leastTerms 20 = .ok (.lreturn, 1) := by decide +kernel
theorem dX10_leastTerms_21 : decode cX10_leastTerms 21 = .ok (.iload 4, 2) := by decide +kernel
theorem dX10_leastTerms_23 : decode cX10_leastTerms 23 = .ok (.ifCond .ne 10, 3) := by decide +kernel
theorem dX10_leastTerms_26 : decode cX10_leastTerms 26 = .ok (.lload_n 0, 1) := by decide +kernel
theorem dX10_leastTerms_27 : decode cX10_leastTerms 27 = .ok (.lload 5, 2) := by decide +kernel
theorem dX10_leastTerms_29 : decode cX10_leastTerms 29 = .ok (.ldiv, 1) := by decide +kernel
theorem dX10_leastTerms_30 : decode cX10_leastTerms 30 = .ok (.goto 7, 3) := by decide +kernel
theorem dX10_leastTerms_33 : decode cX10_leastTerms 33 = .ok (.lload_n 2, 1) := by decide +kernel
theorem dX10_leastTerms_34 : decode cX10_leastTerms 34 = .ok (.lload 5, 2) := by decide +kernel
theorem dX10_leastTerms_36 : decode cX10_leastTerms 36 = .ok (.ldiv, 1) := by decide +kernel
theorem dX10_leastTerms_37 : decode cX10_leastTerms 37 = .ok (.lreturn, 1) := by decide +kernel
theorem dX10_greatestDivisor_0 : decode cX10_greatestDivisor 0 = .ok (.iconst 0, 1) := by decide +kernel
theorem dX10_greatestDivisor_1 : decode cX10_greatestDivisor 1 = .ok (.istore 4, 2) := by decide +kernel
theorem dX10_greatestDivisor_3 : decode cX10_greatestDivisor 3 = .ok (.iload 4, 2) := by decide +kernel
theorem dX10_greatestDivisor_5 : decode cX10_greatestDivisor 5 = .ok (.bipush 100, 2) := by decide +kernel
theorem dX10_greatestDivisor_7 : decode cX10_greatestDivisor 7 = .ok (.if_icmp .ge 25, 3) := by decide +kernel
theorem dX10_greatestDivisor_10 : decode cX10_greatestDivisor 10 = .ok (.lload_n 2, 1) := by decide +kernel
theorem dX10_greatestDivisor_11 : decode cX10_greatestDivisor 11 = .ok (.lconst 0, 1) := by decide +kernel
theorem dX10_greatestDivisor_12 : decode cX10_greatestDivisor 12 = .ok (.lcmp, 1) := by decide +kernel
theorem dX10_greatestDivisor_13 : decode cX10_greatestDivisor 13 = .ok (.ifCond .eq 19, 3) := by decide +kernel
theorem dX10_greatestDivisor_16 : decode cX10_greatestDivisor 16 = .ok (.lload_n 0, 1) := by decide +kernel
theorem dX10_greatestDivisor_17 : decode cX10_greatestDivisor 17 = .ok (.lload_n 2, 1) := by decide +kernel
theorem dX10_greatestDivisor_18 : decode cX10_greatestDivisor 18 = .ok (.lrem, 1) := by decide +kernel
theorem dX10_greatestDivisor_19 : decode cX10_greatestDivisor 19 = .ok (.lstore 5, 2) := by decide +kernel
theorem dX10_greatestDivisor_21 : decode cX10_greatestDivisor 21 = .ok (.lload_n 2, 1) := by decide +kernel
theorem dX10_greatestDivisor_22 : decode cX10_greatestDivisor 22 = .ok (.lstore_n 0, 1) := by decide +kernel
theorem dX10_greatestDivisor_23 : decode cX10_greatestDivisor 23 = .ok (.lload 5, 2) := by decide +kernel
theorem dX10_greatestDivisor_25 : decode cX10_greatestDivisor 25 = .ok (.lstore_n 2, 1) := by decide +kernel
theorem dX10_greatestDivisor_26 : decode cX10_greatestDivisor 26 = .ok (.iinc 4 1, 3) := by decide +kernel
theorem dX10_greatestDivisor_29 : decode cX10_greatestDivisor 29 = .ok (.goto (-26), 3) := by decide +kernel
theorem dX10_greatestDivisor_32 : decode cX10_greatestDivisor 32 = .ok (.lload_n 0, 1) := by decide +kernel
theorem dX10_greatestDivisor_33 : decode cX10_greatestDivisor 33 = .ok (.lreturn, 1) := by decide +kernel
set_option maxRecDepth 20000 in
theorem ggX10_howLikely_X10_power : GoodIn wsX10_howLikely wsX10_power := goodIn_r _ [4] (by decide +kernel) (by decide +kernel)
set_option maxRecDepth 20000 in
theorem gX10_howLikely_X10_power : GoodIn wsX10_howLikely (va_wsS RX10 344 yX10_power wsX10_power) := goodIn_app (goodIn_of _ (by decide +kernel)) ggX10_howLikely_X10_power
theorem dX10_howLikely_0 : decode cX10_howLikely 0 = .ok (.lconst 0, 1) := by decide +kernel
theorem dX10_howLikely_1 : decode cX10_howLikely 1 = .ok (.lstore_n 3, 1) := by decide +kernel
theorem dX10_howLikely_2 : decode cX10_howLikely 2 = .ok (.lconst 1, 1) := by decide +kernel
theorem dX10_howLikely_3 : decode cX10_howLikely 3 = .ok (.lstore 5, 2) := by decide +kernel
theorem dX10_howLikely_5 : decode cX10_howLikely 5 = .ok (.iconst 0, 1) := by decide +kernel
theorem dX10_howLikely_6 : decode cX10_howLikely 6 = .ok (.istore 7, 2) := by decide +kernel
theorem dX10_howLikely_8 : decode cX10_howLikely 8 = .ok (.iload 7, 2) := by decide +kernel
theorem dX10_howLikely_10 : decode cX10_howLikely 10 = .ok (.iload_n 0, 1) := by decide +kernel
theorem dX10_howLikely_11 : decode cX10_howLikely 11 = .ok (.if_icmp .gt 55, 3) := by decide +kernel
theorem dX10_howLikely_14 : decode cX10_howLikely 14 = .ok (.iload 7, 2) := by decide +kernel
theorem dX10_howLikely_16 : decode cX10_howLikely 16 = .ok (.iload_n 1, 1) := by decide +kernel
theorem dX10_howLikely_17 : decode cX10_howLikely 17 = .ok (.if_icmp .lt 27, 3) := by decide +kernel
theorem dX10_howLikely_20 : decode cX10_howLikely 20 = .ok (.lload_n 3, 1) := by decide +kernel
theorem dX10_howLikely_21 : decode cX10_howLikely 21 = .ok (.lload 5, 2) := by decide +kernel
theorem dX10_howLikely_23 : decode cX10_howLikely 23 = .ok (.iload_n 2, 1) := by decide +kernel
theorem dX10_howLikely_24 : decode cX10_howLikely 24 = .ok (.iload 7, 2) := by decide +kernel
theorem dX10_howLikely_26 : decode cX10_howLikely 26 = .ok (.invokestatic 344, 3) := by decide +kernel
theorem dX10_howLikely_29 : decode cX10_howLikely 29 = .ok (.lmul, 1) := by decide +kernel
theorem dX10_howLikely_30 : decode cX10_howLikely 30 = .ok (.bipush 10, 2) := by decide +kernel
theorem dX10_howLikely_32 : decode cX10_howLikely 32 = .ok (.iload_n 2, 1) := by decide +kernel
theorem dX10_howLikely_33 : decode cX10_howLikely 33 = .ok (.isub, 1) := by decide +kernel
theorem dX10_howLikely_34 : decode cX10_howLikely 34 = .ok (.iload_n 0, 1) := by decide +kernel
theorem dX10_howLikely_35 : decode cX10_howLikely 35 = .ok (.iload 7, 2) := by decide +kernel
theorem dX10_howLikely_37 : decode cX10_howLikely 37 = .ok (.isub, 1) := by decide +kernel
theorem dX10_howLikely_38 : decode cX10_howLikely 38 = .ok (.invokestatic 344, 3) := by decide +kernel
theorem dX10_howLikely_41 : decode cX10_howLikely 41 = .ok (.lmul, 1) := by decide +kernel
theorem dX10_howLikely_42 : decode cX10_howLikely 42 = .ok (.ladd, 1) := by decide +kernel
theorem dX10_howLikely_43 : decode cX10_howLikely 43 = .ok (.lstore_n 3, 1) := by decide +kernel
theorem dX10_howLikely_44 : decode cX10_howLikely 44 = .ok (.lload 5, 2) := by decide +kernel
theorem dX10_howLikely_46 : decode cX10_howLikely 46 = .ok (.iload_n 0, 1) := by decide +kernel
theorem dX10_howLikely_47 : decode cX10_howLikely 47 = .ok (.iload 7, 2) := by decide +kernel
theorem dX10_howLikely_49 : decode cX10_howLikely 49 = .ok (.isub, 1) := by decide +kernel
theorem dX10_howLikely_50 : decode cX10_howLikely 50 = .ok (.i2l, 1) := by decide +kernel
theorem dX10_howLikely_51 : decode cX10_howLikely 51 = .ok (.lmul, 1) := by decide +kernel
theorem dX10_howLikely_52 : decode cX10_howLikely 52 = .ok (.iload 7, 2) := by decide +kernel
theorem dX10_howLikely_54 : decode cX10_howLikely 54 = .ok (.iconst 1, 1) := by decide +kernel
theorem dX10_howLikely_55 : decode cX10_howLikely 55 = .ok (.iadd, 1) := by decide +kernel
theorem dX10_howLikely_56 : decode cX10_howLikely 56 = .ok (.i2l, 1) := by decide +kernel
theorem dX10_howLikely_57 : decode cX10_howLikely 57 = .ok (.ldiv, 1) := by decide +kernel
theorem dX10_howLikely_58 : decode cX10_howLikely 58 = .ok (.lstore 5, 2) := by decide +kernel
theorem dX10_howLikely_60 : decode cX10_howLikely 60 = .ok (.iinc 7 1, 3) := by decide +kernel
theorem dX10_howLikely_63 : decode cX10_howLikely 63 = .ok (.goto (-55), 3) := by decide +kernel
theorem dX10_howLikely_66 : decode cX10_howLikely 66 = .ok (.lload_n 3, 1) := by decide +kernel
theorem dX10_howLikely_67 : decode cX10_howLikely 67 = .ok (.lreturn, 1) := by decide +kernel
theorem dX10_power_0 : decode cX10_power 0 = .ok (.lconst 1, 1) := by decide +kernel
theorem dX10_power_1 : decode cX10_power 1 = .ok (.lstore_n 2, 1) := by decide +kernel
theorem dX10_power_2 : decode cX10_power 2 = .ok (.iconst 0, 1) := by decide +kernel
theorem dX10_power_3 : decode cX10_power 3 = .ok (.istore 4, 2) := by decide +kernel
theorem dX10_power_5 : decode cX10_power 5 = .ok (.iload 4, 2) := by decide +kernel
theorem dX10_power_7 : decode cX10_power 7 = .ok (.iload_n 1, 1) := by decide +kernel
theorem dX10_power_8 : decode cX10_power 8 = .ok (.if_icmp .ge 14, 3) := by decide +kernel
theorem dX10_power_11 : decode cX10_power 11 = .ok (.lload_n 2, 1) := by decide +kernel
theorem dX10_power_12 : decode cX10_power 12 = .ok (.iload_n 0, 1) := by decide +kernel
theorem dX10_power_13 : decode cX10_power 13 = .ok (.i2l, 1) := by decide +kernel
theorem dX10_power_14 : decode cX10_power 14 = .ok (.lmul, 1) := by decide +kernel
theorem dX10_power_15 : decode cX10_power 15 = .ok (.lstore_n 2, 1) := by decide +kernel
theorem dX10_power_16 : decode cX10_power 16 = .ok (.iinc 4 1, 3) := by decide +kernel
theorem dX10_power_19 : decode cX10_power 19 = .ok (.goto (-14), 3) := by decide +kernel
theorem dX10_power_22 : decode cX10_power 22 = .ok (.lload_n 2, 1) := by decide +kernel
theorem dX10_power_23 : decode cX10_power 23 = .ok (.lreturn, 1) := by decide +kernel
