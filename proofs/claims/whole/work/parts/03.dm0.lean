theorem dX11_init_0 : decode cX11_init 0 = .ok (.aload_n 0, 1) := by decide +kernel
theorem dX11_init_1 : decode cX11_init 1 = .ok (.invokespecial 1, 3) := by decide +kernel
theorem dX11_init_4 : decode cX11_init 4 = .ok (.aload_n 0, 1) := by decide +kernel
theorem dX11_init_5 : decode cX11_init 5 = .ok (.iconst 2, 1) := by decide +kernel
theorem dX11_init_6 : decode cX11_init 6 = .ok (.putfield 7, 3) := by decide +kernel
theorem dX11_init_9 : decode cX11_init 9 = .ok (.aload_n 0, 1) := by decide +kernel
theorem dX11_init_10 : decode cX11_init 10 = .ok (.bipush 100, 2) := by decide +kernel
theorem dX11_init_12 : decode cX11_init 12 = .ok (.putfield 13, 3) := by decide +kernel
theorem dX11_init_15 : decode cX11_init 15 = .ok (.aload_n 0, 1) := by decide +kernel
theorem dX11_init_16 : decode cX11_init 16 = .ok (.bipush 8, 2) := by decide +kernel
theorem dX11_init_18 : decode cX11_init 18 = .ok (.newarray .long, 2) := by decide +kernel
theorem dX11_init_20 : decode cX11_init 20 = .ok (.putfield 16, 3) := by decide +kernel
theorem dX11_init_23 : decode cX11_init 23 = .ok (.aload_n 0, 1) := by decide +kernel
theorem dX11_init_24 : decode cX11_init 24 = .ok (.bipush (-9), 2) := by decide +kernel
theorem dX11_init_26 : decode cX11_init 26 = .ok (.putfield 20, 3) := by decide +kernel
theorem dX11_init_29 : decode cX11_init 29 = .ok (.aload_n 0, 1) := by decide +kernel
theorem dX11_init_30 : decode cX11_init 30 = .ok (.bipush 6, 2) := by decide +kernel
theorem dX11_init_32 : decode cX11_init 32 = .ok (.newarray .int, 2) := by decide +kernel
theorem dX11_init_34 : decode cX11_init 34 = .ok (.putfield 23, 3) := by decide +kernel
theorem dX11_init_37 : decode cX11_init 37 = .ok (.aload_n 0, 1) := by decide +kernel
theorem dX11_init_38 : decode cX11_init 38 = .ok (.bipush 6, 2) := by decide +kernel
theorem dX11_init_40 : decode cX11_init 40 = .ok (.newarray .long, 2) := by decide +kernel
theorem dX11_init_42 : decode cX11_init 42 = .ok (.putfield 27, 3) := by decide +kernel
theorem dX11_init_45 : decode cX11_init 45 = .ok (.aload_n 0, 1) := by decide +kernel
theorem dX11_init_46 : decode cX11_init 46 = .ok (.bipush 6, 2) := by decide +kernel
theorem dX11_init_48 : decode cX11_init 48 = .ok (.newarray .int, 2) := by decide +kernel
theorem dX11_init_50 : decode cX11_init 50 = .ok (.putfield 30, 3) := by decide +kernel
theorem dX11_init_53 : decode cX11_init 53 = .ok (.aload_n 0, 1) := by decide +kernel
theorem dX11_init_54 : decode cX11_init 54 = .ok (.bipush 48, 2) := by decide +kernel
theorem dX11_init_56 : decode cX11_init 56 = .ok (.newarray .long, 2) := by decide +kernel
theorem dX11_init_58 : decode cX11_init 58 = .ok (.putfield 33, 3) := by decide +kernel
theorem dX11_init_61 : decode cX11_init 61 = .ok (.aload_n 0, 1) := by decide +kernel
theorem dX11_init_62 : decode cX11_init 62 = .ok (.bipush 48, 2) := by decide +kernel
theorem dX11_init_64 : decode cX11_init 64 = .ok (.newarray .int, 2) := by decide +kernel
theorem dX11_init_66 : decode cX11_init 66 = .ok (.putfield 36, 3) := by decide +kernel
theorem dX11_init_69 : decode cX11_init 69 = .ok (.aload_n 0, 1) := by decide +kernel
theorem dX11_init_70 : decode cX11_init 70 = .ok (.iconst 4, 1) := by decide +kernel
theorem dX11_init_71 : decode cX11_init 71 = .ok (.newarray .int, 2) := by decide +kernel
theorem dX11_init_73 : decode cX11_init 73 = .ok (.dup, 1) := by decide +kernel
theorem dX11_init_74 : decode cX11_init 74 = .ok (.iconst 0, 1) := by decide +kernel
theorem dX11_init_75 : decode cX11_init 75 = .ok (.bipush (-9), 2) := by decide +kernel
theorem dX11_init_77 : decode cX11_init 77 = .ok (.iastore, 1) := by decide +kernel
theorem dX11_init_78 : decode cX11_init 78 = .ok (.dup, 1) := by decide +kernel
theorem dX11_init_79 : decode cX11_init 79 = .ok (.iconst 1, 1) := by decide +kernel
theorem dX11_init_80 : decode cX11_init 80 = .ok (.bipush (-9), 2) := by decide +kernel
theorem dX11_init_82 : decode cX11_init 82 = .ok (.iastore, 1) := by decide +kernel
theorem dX11_init_83 : decode cX11_init 83 = .ok (.dup, 1) := by decide +kernel
theorem dX11_init_84 : decode cX11_init 84 = .ok (.iconst 2, 1) := by decide +kernel
theorem dX11_init_85 : decode cX11_init 85 = .ok (.bipush (-9), 2) := by decide +kernel
theorem dX11_init_87 : decode cX11_init 87 = .ok (.iastore, 1) := by decide +kernel
theorem dX11_init_88 : decode cX11_init 88 = .ok (.dup, 1) := by decide +kernel
theorem dX11_init_89 : decode cX11_init 89 = .ok (.iconst 3, 1) := by decide +kernel
theorem dX11_init_90 : decode cX11_init 90 = .ok (.bipush (-9), 2) := by decide +kernel
theorem dX11_init_92 : decode cX11_init 92 = .ok (.iastore, 1) := by decide +kernel
theorem dX11_init_93 : decode cX11_init 93 = .ok (.putfield 39, 3) := by decide +kernel
theorem dX11_init_96 : decode cX11_init 96 = .ok (.aload_n 0, 1) := by decide +kernel
theorem dX11_init_97 : decode cX11_init 97 = .ok (.iconst 4, 1) := by decide +kernel
theorem dX11_init_98 : decode cX11_init 98 = .ok (.newarray .int, 2) := by decide +kernel
theorem dX11_init_100 : decode cX11_init 100 = .ok (.putfield 42, 3) := by decide +kernel
theorem dX11_init_103 : decode cX11_init 103 = .ok (.aload_n 0, 1) := by decide +kernel
theorem dX11_init_104 : decode cX11_init 104 = .ok (.bipush 96, 2) := by decide +kernel
theorem dX11_init_106 : decode cX11_init 106 = .ok (.newarray .int, 2) := by decide +kernel
theorem dX11_init_108 : decode cX11_init 108 = .ok (.putfield 45, 3) := by decide +kernel
theorem dX11_init_111 : decode cX11_init 111 = .ok (.aload_n 0, 1) := by decide +kernel
theorem dX11_init_112 : decode cX11_init 112 = .ok (.bipush 6, 2) := by decide +kernel
theorem dX11_init_114 : decode cX11_init 114 = .ok (.newarray .int, 2) := by decide +kernel
theorem dX11_init_116 : decode cX11_init 116 = .ok (.putfield 48, 3) := by decide +kernel
theorem dX11_init_119 : decode cX11_init 119 = .ok (.aload_n 0, 1) := by decide +kernel
theorem dX11_init_120 : decode cX11_init 120 = .ok (.bipush 6, 2) := by decide +kernel
theorem dX11_init_122 : decode cX11_init 122 = .ok (.newarray .int, 2) := by decide +kernel
theorem dX11_init_124 : decode cX11_init 124 = .ok (.putfield 51, 3) := by decide +kernel
theorem dX11_init_127 : decode cX11_init 127 = .ok (.aload_n 0, 1) := by decide +kernel
theorem dX11_init_128 : decode cX11_init 128 = .ok (.bipush 6, 2) := by decide +kernel
theorem dX11_init_130 : decode cX11_init 130 = .ok (.newarray .int, 2) := by decide +kernel
theorem dX11_init_132 : decode cX11_init 132 = .ok (.putfield 54, 3) := by decide +kernel
theorem dX11_init_135 : decode cX11_init 135 = .ok (.aload_n 0, 1) := by decide +kernel
theorem dX11_init_136 : decode cX11_init 136 = .ok (.bipush 6, 2) := by decide +kernel
theorem dX11_init_138 : decode cX11_init 138 = .ok (.newarray .int, 2) := by decide +kernel
theorem dX11_init_140 : decode cX11_init 140 = .ok (.putfield 57, 3) := by decide +kernel
theorem dX11_init_143 : decode cX11_init 143 = .ok (.aload_n 0, 1) := by decide +kernel
theorem dX11_init_144 : decode cX11_init 144 = .ok (.bipush 6, 2) := by decide +kernel
theorem dX11_init_146 : decode cX11_init 146 = .ok (.newarray .int, 2) := by decide +kernel
theorem dX11_init_148 : decode cX11_init 148 = .ok (.putfield 60, 3) := by decide +kernel
theorem dX11_init_151 : decode cX11_init 151 = .ok (.aload_n 0, 1) := by decide +kernel
theorem dX11_init_152 : decode cX11_init 152 = .ok (.sipush 320, 3) := by decide +kernel
theorem dX11_init_155 : decode cX11_init 155 = .ok (.newarray .int, 2) := by decide +kernel
theorem dX11_init_157 : decode cX11_init 157 = .ok (.putfield 63, 3) := by decide +kernel
theorem dX11_init_160 : decode cX11_init 160 = .ok (.aload_n 0, 1) := by decide +kernel
theorem dX11_init_161 : decode cX11_init 161 = .ok (.bipush 40, 2) := by decide +kernel
theorem dX11_init_163 : decode cX11_init 163 = .ok (.newarray .int, 2) := by decide +kernel
theorem dX11_init_165 : decode cX11_init 165 = .ok (.putfield 66, 3) := by decide +kernel
theorem dX11_init_168 : decode cX11_init 168 = .ok (.return_, 1) := by decide +kernel
theorem dX11_fails_0 : decode cX11_fails 0 = .ok (.aload_n 0, 1) := by decide +kernel
theorem dX11_fails_1 : decode cX11_fails 1 = .ok (.iload_n 1, 1) := by decide +kernel
theorem dX11_fails_2 : decode cX11_fails 2 = .ok (.putfield 69, 3) := by decide +kernel
theorem dX11_fails_5 : decode cX11_fails 5 = .ok (.bipush (-10), 2) := by decide +kernel
theorem dX11_fails_7 : decode cX11_fails 7 = .ok (.iload_n 1, 1) := by decide +kernel
theorem dX11_fails_8 : decode cX11_fails 8 = .ok (.isub, 1) := by decide +kernel
theorem dX11_fails_9 : decode cX11_fails 9 = .ok (.ireturn, 1) := by decide +kernel
theorem dX11_lost_0 : decode cX11_lost 0 = .ok (.aload_n 0, 1) := by decide +kernel
theorem dX11_lost_1 : decode cX11_lost 1 = .ok (.iload_n 1, 1) := by decide +kernel
theorem dX11_lost_2 : decode cX11_lost 2 = .ok (.putfield 69, 3) := by decide +kernel
theorem dX11_lost_5 : decode cX11_lost 5 = .ok (.ldc2_w 72, 3) := by decide +kernel
theorem dX11_lost_8 : decode cX11_lost 8 = .ok (.lreturn, 1) := by decide +kernel
theorem dX11_within_0 : decode cX11_within 0 = .ok (.lload_n 0, 1) := by decide +kernel
theorem dX11_within_1 : decode cX11_within 1 = .ok (.lload_n 2, 1) := by decide +kernel
theorem dX11_within_2 : decode cX11_within 2 = .ok (.lcmp, 1) := by decide +kernel
theorem dX11_within_3 : decode cX11_within 3 = .ok (.ifCond .lt 14, 3) := by decide +kernel
theorem dX11_within_6 : decode cX11_within 6 = .ok (.lload_n 0, 1) := by decide +kernel
theorem dX11_within_7 : decode cX11_within 7 = .ok (.lload 4, 2) := by decide +kernel
theorem dX11_within_9 : decode cX11_within 9 = .ok (.lcmp, 1) := by decide +kernel
theorem dX11_within_10 : decode cX11_within 10 = .ok (.ifCond .gt 7, 3) := by decide +kernel
theorem dX11_within_13 : decode cX11_within 13 = .ok (.iconst 1, 1) := by decide +kernel
theorem dX11_within_14 : decode cX11_within 14 = .ok (.goto 4, 3) := by decide +kernel
theorem dX11_within_17 : decode cX11_within 17 = .ok (.iconst 0, 1) := by decide +kernel
theorem dX11_within_18 : decode cX11_within 18 = .ok (.ireturn, 1) := by decide +kernel
theorem dX11_grains_0 : decode cX11_grains 0 = .ok (.ldc2_w 74, 3) := by decide +kernel
theorem dX11_grains_3 : decode cX11_grains 3 = .ok (.aload_n 0, 1) := by decide +kernel
theorem dX11_grains_4 : decode cX11_grains 4 = .ok (.getfield 13, 3) := by decide +kernel
theorem dX11_grains_7 : decode cX11_grains 7 = .ok (.i2l, 1) := by decide +kernel
theorem dX11_grains_8 : decode cX11_grains 8 = .ok (.lmul, 1) := by decide +kernel
theorem dX11_grains_9 : decode cX11_grains 9 = .ok (.aload_n 0, 1) := by decide +kernel
theorem dX11_grains_10 : decode cX11_grains 10 = .ok (.getfield 7, 3) := by decide +kernel
theorem dX11_grains_13 : decode cX11_grains 13 = .ok (.i2l, 1) := by decide +kernel
theorem dX11_grains_14 : decode cX11_grains 14 = .ok (.lmul, 1) := by decide +kernel
theorem dX11_grains_15 : decode cX11_grains 15 = .ok (.lreturn, 1) := by decide +kernel
set_option maxRecDepth 20000 in
theorem ggX11_begin_X11_within : GoodIn wsX11_begin wsX11_within := goodIn_r _ [16] (by decide +kernel) (by decide +kernel)
set_option maxRecDepth 20000 in
theorem gX11_begin_X11_within : GoodIn wsX11_begin (va_wsS RX11 80 yX11_within wsX11_within) := goodIn_app (goodIn_of _ (by decide +kernel)) ggX11_begin_X11_within
theorem dX11_begin_0 : decode cX11_begin 0 = .ok (.iload_n 1, 1) := by decide +kernel
theorem dX11_begin_1 : decode cX11_begin 1 = .ok (.i2l, 1) := by decide +kernel
theorem dX11_begin_2 : decode cX11_begin 2 = .ok (.ldc2_w 76, 3) := by decide +kernel
theorem dX11_begin_5 : decode cX11_begin 5 = .ok (.ldc2_w 78, 3) := by decide +kernel
theorem dX11_begin_8 : decode cX11_begin 8 = .ok (.invokestatic 80, 3) := by decide +kernel
theorem dX11_begin_11 : decode cX11_begin 11 = .ok (.ifCond .eq 15, 3) := by decide +kernel
theorem dX11_begin_14 : decode cX11_begin 14 = .ok (.iload_n 2, 1) := by decide +kernel
theorem dX11_begin_15 : decode cX11_begin 15 = .ok (.i2l, 1) := by decide +kernel
theorem dX11_begin_16 : decode cX11_begin 16 = .ok (.lconst 1, 1) := by decide +kernel
theorem dX11_begin_17 : decode cX11_begin 17 = .ok (.ldc2_w 84, 3) := by decide +kernel
theorem dX11_begin_20 : decode cX11_begin 20 = .ok (.invokestatic 80, 3) := by decide +kernel
theorem dX11_begin_23 : decode cX11_begin 23 = .ok (.ifCond .ne 6, 3) := by decide +kernel
theorem dX11_begin_26 : decode cX11_begin 26 = .ok (.bipush (-2), 2) := by decide +kernel
theorem dX11_begin_28 : decode cX11_begin 28 = .ok (.ireturn, 1) := by decide +kernel
theorem dX11_begin_29 : decode cX11_begin 29 = .ok (.aload_n 0, 1) := by decide +kernel
theorem dX11_begin_30 : decode cX11_begin 30 = .ok (.iload_n 1, 1) := by decide +kernel
theorem dX11_begin_31 : decode cX11_begin 31 = .ok (.putfield 7, 3) := by decide +kernel
theorem dX11_begin_34 : decode cX11_begin 34 = .ok (.aload_n 0, 1) := by decide +kernel
theorem dX11_begin_35 : decode cX11_begin 35 = .ok (.iload_n 2, 1) := by decide +kernel
theorem dX11_begin_36 : decode cX11_begin 36 = .ok (.putfield 13, 3) := by decide +kernel
theorem dX11_begin_39 : decode cX11_begin 39 = .ok (.iconst 0, 1) := by decide +kernel
theorem dX11_begin_40 : decode cX11_begin 40 = .ok (.istore_n 3, 1) := by decide +kernel
theorem dX11_begin_41 : decode cX11_begin 41 = .ok (.iload_n 3, 1) := by decide +kernel
theorem dX11_begin_42 : decode cX11_begin 42 = .ok (.bipush 8, 2) := by decide +kernel
theorem dX11_begin_44 : decode cX11_begin 44 = .ok (.if_icmp .ge 16, 3) := by decide +kernel
theorem dX11_begin_47 : decode cX11_begin 47 = .ok (.aload_n 0, 1) := by decide +kernel
theorem dX11_begin_48 : decode cX11_begin 48 = .ok (.getfield 16, 3) := by decide +kernel
theorem dX11_begin_51 : decode cX11_begin 51 = .ok (.iload_n 3, 1) := by decide +kernel
theorem dX11_begin_52 : decode cX11_begin 52 = .ok (.lconst 0, 1) := by decide +kernel
theorem dX11_begin_53 : decode cX11_begin 53 = .ok (.lastore, 1) := by decide +kernel
theorem dX11_begin_54 : decode cX11_begin 54 = .ok (.iinc 3 1, 3) := by decide +kernel
theorem dX11_begin_57 : decode cX11_begin 57 = .ok (.goto (-16), 3) := by decide +kernel
theorem dX11_begin_60 : decode cX11_begin 60 = .ok (.aload_n 0, 1) := by decide +kernel
theorem dX11_begin_61 : decode cX11_begin 61 = .ok (.lconst 0, 1) := by decide +kernel
theorem dX11_begin_62 : decode cX11_begin 62 = .ok (.putfield 86, 3) := by decide +kernel
theorem dX11_begin_65 : decode cX11_begin 65 = .ok (.aload_n 0, 1) := by decide +kernel
theorem dX11_begin_66 : decode cX11_begin 66 = .ok (.bipush (-9), 2) := by decide +kernel
theorem dX11_begin_68 : decode cX11_begin 68 = .ok (.putfield 20, 3) := by decide +kernel
theorem dX11_begin_71 : decode cX11_begin 71 = .ok (.aload_n 0, 1) := by decide +kernel
theorem dX11_begin_72 : decode cX11_begin 72 = .ok (.iconst 0, 1) := by decide +kernel
theorem dX11_begin_73 : decode cX11_begin 73 = .ok (.putfield 90, 3) := by decide +kernel
theorem dX11_begin_76 : decode cX11_begin 76 = .ok (.aload_n 0, 1) := by decide +kernel
theorem dX11_begin_77 : decode cX11_begin 77 = .ok (.iconst 0, 1) := by decide +kernel
theorem dX11_begin_78 : decode cX11_begin 78 = .ok (.putfield 93, 3) := by decide +kernel
theorem dX11_begin_81 : decode cX11_begin 81 = .ok (.aload_n 0, 1) := by decide +kernel
theorem dX11_begin_82 : decode cX11_begin 82 = .ok (.iconst 0, 1) := by decide +kernel
theorem dX11_begin_83 : decode cX11_begin 83 = .ok (.putfield 96, 3) := by decide +kernel
theorem dX11_begin_86 : decode cX11_begin 86 = .ok (.aload_n 0, 1) := by decide +kernel
theorem dX11_begin_87 : decode cX11_begin 87 = .ok (.iconst 0, 1) := by decide +kernel
theorem dX11_begin_88 : decode cX11_begin 88 = .ok (.putfield 99, 3) := by decide +kernel
theorem dX11_begin_91 : decode cX11_begin 91 = .ok (.iconst 1, 1) := by decide +kernel
theorem dX11_begin_92 : decode cX11_begin 92 = .ok (.ireturn, 1) := by decide +kernel
theorem dX11_isCase_0 : decode cX11_isCase 0 = .ok (.iload_n 1, 1) := by decide +kernel
theorem dX11_isCase_1 : decode cX11_isCase 1 = .ok (.ifCond .lt 15, 3) := by decide +kernel
theorem dX11_isCase_4 : decode cX11_isCase 4 = .ok (.iload_n 1, 1) := by decide +kernel
theorem dX11_isCase_5 : decode cX11_isCase 5 = .ok (.aload_n 0, 1) := by decide +kernel
theorem dX11_isCase_6 : decode cX11_isCase 6 = .ok (.getfield 7, 3) := by decide +kernel
theorem dX11_isCase_9 : decode cX11_isCase 9 = .ok (.if_icmp .ge 7, 3) := by decide +kernel
theorem dX11_isCase_12 : decode cX11_isCase 12 = .ok (.iconst 1, 1) := by decide +kernel
theorem dX11_isCase_13 : decode cX11_isCase 13 = .ok (.goto 4, 3) := by decide +kernel
theorem dX11_isCase_16 : decode cX11_isCase 16 = .ok (.iconst 0, 1) := by decide +kernel
theorem dX11_isCase_17 : decode cX11_isCase 17 = .ok (.ireturn, 1) := by decide +kernel
set_option maxRecDepth 20000 in
theorem ggX11_isSet_X11_within : GoodIn wsX11_isSet wsX11_within := goodIn_r _ [6] (by decide +kernel) (by decide +kernel)
set_option maxRecDepth 20000 in
theorem gX11_isSet_X11_within : GoodIn wsX11_isSet (va_wsS RX11 80 yX11_within wsX11_within) := goodIn_app (goodIn_of _ (by decide +kernel)) ggX11_isSet_X11_within
theorem dX11_isSet_0 : decode cX11_isSet 0 = .ok (.iload_n 1, 1) := by decide +kernel
theorem dX11_isSet_1 : decode cX11_isSet 1 = .ok (.i2l, 1) := by decide +kernel
theorem dX11_isSet_2 : decode cX11_isSet 2 = .ok (.lconst 1, 1) := by decide +kernel
theorem dX11_isSet_3 : decode cX11_isSet 3 = .ok (.lconst 1, 1) := by decide +kernel
theorem dX11_isSet_4 : decode cX11_isSet 4 = .ok (.aload_n 0, 1) := by decide +kernel
theorem dX11_isSet_5 : decode cX11_isSet 5 = .ok (.getfield 7, 3) := by decide +kernel
theorem dX11_isSet_8 : decode cX11_isSet 8 = .ok (.lshl, 1) := by decide +kernel
theorem dX11_isSet_9 : decode cX11_isSet 9 = .ok (.ldc2_w 76, 3) := by decide +kernel
theorem dX11_isSet_12 : decode cX11_isSet 12 = .ok (.lsub, 1) := by decide +kernel
theorem dX11_isSet_13 : decode cX11_isSet 13 = .ok (.invokestatic 80, 3) := by decide +kernel
theorem dX11_isSet_16 : decode cX11_isSet 16 = .ok (.ireturn, 1) := by decide +kernel
set_option maxRecDepth 20000 in
theorem ggX11_isShares_X11_within : GoodIn wsX11_isShares wsX11_within := goodIn_r _ [6] (by decide +kernel) (by decide +kernel)
set_option maxRecDepth 20000 in
theorem gX11_isShares_X11_within : GoodIn wsX11_isShares (va_wsS RX11 80 yX11_within wsX11_within) := goodIn_app (goodIn_of _ (by decide +kernel)) ggX11_isShares_X11_within
theorem dX11_isShares_0 : decode cX11_isShares 0 = .ok (.iload_n 0, 1) := by decide +kernel
theorem dX11_isShares_1 : decode cX11_isShares 1 = .ok (.ifCond .eq 21, 3) := by decide +kernel
theorem dX11_isShares_4 : decode cX11_isShares 4 = .ok (.iload_n 0, 1) := by decide +kernel
theorem dX11_isShares_5 : decode cX11_isShares 5 = .ok (.i2l, 1) := by decide +kernel
theorem dX11_isShares_6 : decode cX11_isShares 6 = .ok (.ldc2_w 102, 3) := by decide +kernel
theorem dX11_isShares_9 : decode cX11_isShares 9 = .ok (.ldc2_w 84, 3) := by decide +kernel
theorem dX11_isShares_12 : decode cX11_isShares 12 = .ok (.invokestatic 80, 3) := by decide +kernel
theorem dX11_isShares_15 : decode cX11_isShares 15 = .ok (.ifCond .eq 7, 3) := by decide +kernel
theorem dX11_isShares_18 : decode cX11_isShares 18 = .ok (.iconst 1, 1) := by decide +kernel
theorem dX11_isShares_19 : decode cX11_isShares 19 = .ok (.goto 4, 3) := by decide +kernel
theorem dX11_isShares_22 : decode cX11_isShares 22 = .ok (.iconst 0, 1) := by decide +kernel
theorem dX11_isShares_23 : decode cX11_isShares 23 = .ok (.ireturn, 1) := by decide +kernel
theorem dX11_in_0 : decode cX11_in 0 = .ok (.iload_n 0, 1) := by decide +kernel
theorem dX11_in_1 : decode cX11_in 1 = .ok (.iload_n 1, 1) := by decide +kernel
theorem dX11_in_2 : decode cX11_in 2 = .ok (.ishr, 1) := by decide +kernel
theorem dX11_in_3 : decode cX11_in 3 = .ok (.iconst 1, 1) := by decide +kernel
theorem dX11_in_4 : decode cX11_in 4 = .ok (.iand, 1) := by decide +kernel
theorem dX11_in_5 : decode cX11_in 5 = .ok (.ireturn, 1) := by decide +kernel
theorem dX11_sumSold_0 : decode cX11_sumSold 0 = .ok (.lconst 0, 1) := by decide +kernel
theorem dX11_sumSold_1 : decode cX11_sumSold 1 = .ok (.lstore_n 1, 1) := by decide +kernel
theorem dX11_sumSold_2 : decode cX11_sumSold 2 = .ok (.iconst 0, 1) := by decide +kernel
theorem dX11_sumSold_3 : decode cX11_sumSold 3 = .ok (.istore_n 3, 1) := by decide +kernel
theorem dX11_sumSold_4 : decode cX11_sumSold 4 = .ok (.iload_n 3, 1) := by decide +kernel
theorem dX11_sumSold_5 : decode cX11_sumSold 5 = .ok (.aload_n 0, 1) := by decide +kernel
theorem dX11_sumSold_6 : decode cX11_sumSold 6 = .ok (.getfield 7, 3) := by decide +kernel
theorem dX11_sumSold_9 : decode cX11_sumSold 9 = .ok (.if_icmp .ge 18, 3) := by decide +kernel
theorem dX11_sumSold_12 : decode cX11_sumSold 12 = .ok (.lload_n 1, 1) := by decide +kernel
theorem dX11_sumSold_13 : decode cX11_sumSold 13 = .ok (.aload_n 0, 1) := by decide +kernel
theorem dX11_sumSold_14 : decode cX11_sumSold 14 = .ok (.getfield 16, 3) := by decide +kernel
theorem dX11_sumSold_17 : decode cX11_sumSold 17 = .ok (.iload_n 3, 1) := by decide +kernel
theorem dX11_sumSold_18 : decode cX11_sumSold 18 = .ok (.laload, 1) := by decide +kernel
theorem dX11_sumSold_19 : decode cX11_sumSold 19 = .ok (.ladd, 1) := by decide +kernel
theorem dX11_sumSold_20 : decode cX11_sumSold 20 = .ok (.lstore_n 1, 1) := by decide +kernel
theorem dX11_sumSold_21 : decode cX11_sumSold 21 = .ok (.iinc 3 1, 3) := by decide +kernel
theorem dX11_sumSold_24 : decode cX11_sumSold 24 = .ok (.goto (-20), 3) := by decide +kernel
theorem dX11_sumSold_27 : decode cX11_sumSold 27 = .ok (.lload_n 1, 1) := by decide +kernel
theorem dX11_sumSold_28 : decode cX11_sumSold 28 = .ok (.lreturn, 1) := by decide +kernel
set_option maxRecDepth 20000 in
theorem ggX11_priceOf_X11_sumSold : GoodIn wsX11_priceOf wsX11_sumSold := goodIn_r _ [10, 4, 5, 11, 12, 13, 14, 15, 16, 17, 18, 19, 20, 21, 22, 23, 24, 25, 26, 27, 28, 29, 30, 31, 32, 33, 34, 35, 36, 37] (by decide +kernel) (by decide +kernel)
set_option maxRecDepth 20000 in
theorem gX11_priceOf_X11_sumSold : GoodIn wsX11_priceOf (wsV RX11 104 RX11 yX11_sumSold wsX11_sumSold) := goodIn_app (goodIn_of _ (by decide +kernel)) ggX11_priceOf_X11_sumSold
theorem dX11_priceOf_0 : decode cX11_priceOf 0 = .ok (.ldc2_w 74, 3) := by decide +kernel
theorem dX11_priceOf_3 : decode cX11_priceOf 3 = .ok (.aload_n 0, 1) := by decide +kernel
theorem dX11_priceOf_4 : decode cX11_priceOf 4 = .ok (.getfield 13, 3) := by decide +kernel
theorem dX11_priceOf_7 : decode cX11_priceOf 7 = .ok (.i2l, 1) := by decide +kernel
theorem dX11_priceOf_8 : decode cX11_priceOf 8 = .ok (.lmul, 1) := by decide +kernel
theorem dX11_priceOf_9 : decode cX11_priceOf 9 = .ok (.ldc2_w 76, 3) := by decide +kernel
theorem dX11_priceOf_12 : decode cX11_priceOf 12 = .ok (.aload_n 0, 1) := by decide +kernel
theorem dX11_priceOf_13 : decode cX11_priceOf 13 = .ok (.getfield 7, 3) := by decide +kernel
theorem dX11_priceOf_16 : decode cX11_priceOf 16 = .ok (.i2l, 1) := by decide +kernel
theorem dX11_priceOf_17 : decode cX11_priceOf 17 = .ok (.aload_n 0, 1) := by decide +kernel
theorem dX11_priceOf_18 : decode cX11_priceOf 18 = .ok (.getfield 16, 3) := by decide +kernel
theorem dX11_priceOf_21 : decode cX11_priceOf 21 = .ok (.iload_n 1, 1) := by decide +kernel
theorem dX11_priceOf_22 : decode cX11_priceOf 22 = .ok (.laload, 1) := by decide +kernel
theorem dX11_priceOf_23 : decode cX11_priceOf 23 = .ok (.lmul, 1) := by decide +kernel
theorem dX11_priceOf_24 : decode cX11_priceOf 24 = .ok (.aload_n 0, 1) := by decide +kernel
theorem dX11_priceOf_25 : decode cX11_priceOf 25 = .ok (.invokevirtual 104, 3) := by decide +kernel
theorem dX11_priceOf_28 : decode cX11_priceOf 28 = .ok (.lsub, 1) := by decide +kernel
theorem dX11_priceOf_29 : decode cX11_priceOf 29 = .ok (.lmul, 1) := by decide +kernel
theorem dX11_priceOf_30 : decode cX11_priceOf 30 = .ok (.ladd, 1) := by decide +kernel
theorem dX11_priceOf_31 : decode cX11_priceOf 31 = .ok (.lreturn, 1) := by decide +kernel
set_option maxRecDepth 20000 in
theorem ggX11_levelWith_X11_in : GoodIn wsX11_levelWith wsX11_in := goodIn_r _ [8] (by decide +kernel) (by decide +kernel)
set_option maxRecDepth 20000 in
theorem gX11_levelWith_X11_in : GoodIn wsX11_levelWith (va_wsS RX11 108 yX11_in wsX11_in) := goodIn_app (goodIn_of _ (by decide +kernel)) ggX11_levelWith_X11_in
theorem dX11_levelWith_0 : decode cX11_levelWith 0 = .ok (.lconst 0, 1) := by decide +kernel
theorem dX11_levelWith_1 : decode cX11_levelWith 1 = .ok (.lstore 4, 2) := by decide +kernel
theorem dX11_levelWith_3 : decode cX11_levelWith 3 = .ok (.lconst 0, 1) := by decide +kernel
theorem dX11_levelWith_4 : decode cX11_levelWith 4 = .ok (.lstore 6, 2) := by decide +kernel
theorem dX11_levelWith_6 : decode cX11_levelWith 6 = .ok (.iconst 0, 1) := by decide +kernel
theorem dX11_levelWith_7 : decode cX11_levelWith 7 = .ok (.istore 8, 2) := by decide +kernel
theorem dX11_levelWith_9 : decode cX11_levelWith 9 = .ok (.iload 8, 2) := by decide +kernel
theorem dX11_levelWith_11 : decode cX11_levelWith 11 = .ok (.aload_n 0, 1) := by decide +kernel
theorem dX11_levelWith_12 : decode cX11_levelWith 12 = .ok (.getfield 7, 3) := by decide +kernel
theorem dX11_levelWith_15 : decode cX11_levelWith 15 = .ok (.if_icmp .ge 45, 3) := by decide +kernel
theorem dX11_levelWith_18 : decode cX11_levelWith 18 = .ok (.aload_n 0, 1) := by decide +kernel
theorem dX11_levelWith_19 : decode cX11_levelWith 19 = .ok (.getfield 16, 3) := by decide +kernel
theorem dX11_levelWith_22 : decode cX11_levelWith 22 = .ok (.iload 8, 2) := by decide +kernel
theorem dX11_levelWith_24 : decode cX11_levelWith 24 = .ok (.laload, 1) := by decide +kernel
theorem dX11_levelWith_25 : decode cX11_levelWith 25 = .ok (.lload_n 2, 1) := by decide +kernel
theorem dX11_levelWith_26 : decode cX11_levelWith 26 = .ok (.iload_n 1, 1) := by decide +kernel
theorem dX11_levelWith_27 : decode cX11_levelWith 27 = .ok (.iload 8, 2) := by decide +kernel
theorem dX11_levelWith_29 : decode cX11_levelWith 29 = .ok (.invokestatic 108, 3) := by decide +kernel
theorem dX11_levelWith_32 : decode cX11_levelWith 32 = .ok (.i2l, 1) := by decide +kernel
theorem dX11_levelWith_33 : decode cX11_levelWith 33 = .ok (.lmul, 1) := by decide +kernel
theorem dX11_levelWith_34 : decode cX11_levelWith 34 = .ok (.ladd, 1) := by decide +kernel
theorem dX11_levelWith_35 : decode cX11_levelWith 35 = .ok (.lstore 9, 2) := by decide +kernel
theorem dX11_levelWith_37 : decode cX11_levelWith 37 = .ok (.lload 4, 2) := by decide +kernel
theorem dX11_levelWith_39 : decode cX11_levelWith 39 = .ok (.lload 9, 2) := by decide +kernel
theorem dX11_levelWith_41 : decode cX11_levelWith 41 = .ok (.ladd, 1) := by decide +kernel
theorem dX11_levelWith_42 : decode cX11_levelWith 42 = .ok (.lstore 4, 2) := by decide +kernel
theorem dX11_levelWith_44 : decode cX11_levelWith 44 = .ok (.lload 6, 2) := by decide +kernel
theorem dX11_levelWith_46 : decode cX11_levelWith 46 = .ok (.lload 9, 2) := by decide +kernel
theorem dX11_levelWith_48 : decode cX11_levelWith 48 = .ok (.lload 9, 2) := by decide +kernel
theorem dX11_levelWith_50 : decode cX11_levelWith 50 = .ok (.lmul, 1) := by decide +kernel
theorem dX11_levelWith_51 : decode cX11_levelWith 51 = .ok (.ladd, 1) := by decide +kernel
theorem dX11_levelWith_52 : decode cX11_levelWith 52 = .ok (.lstore 6, 2) := by decide +kernel
theorem dX11_levelWith_54 : decode cX11_levelWith 54 = .ok (.iinc 8 1, 3) := by decide +kernel
theorem dX11_levelWith_57 : decode cX11_levelWith 57 = .ok (.goto (-48), 3) := by decide +kernel
theorem dX11_levelWith_60 : decode cX11_levelWith 60 = .ok (.ldc2_w 74, 3) := by decide +kernel
theorem dX11_levelWith_63 : decode cX11_levelWith 63 = .ok (.aload_n 0, 1) := by decide +kernel
theorem dX11_levelWith_64 : decode cX11_levelWith 64 = .ok (.getfield 13, 3) := by decide +kernel
theorem dX11_levelWith_67 : decode cX11_levelWith 67 = .ok (.i2l, 1) := by decide +kernel
theorem dX11_levelWith_68 : decode cX11_levelWith 68 = .ok (.lmul, 1) := by decide +kernel
theorem dX11_levelWith_69 : decode cX11_levelWith 69 = .ok (.lload 4, 2) := by decide +kernel
theorem dX11_levelWith_71 : decode cX11_levelWith 71 = .ok (.lmul, 1) := by decide +kernel
theorem dX11_levelWith_72 : decode cX11_levelWith 72 = .ok (.aload_n 0, 1) := by decide +kernel
theorem dX11_levelWith_73 : decode cX11_levelWith 73 = .ok (.getfield 7, 3) := by decide +kernel
theorem dX11_levelWith_76 : decode cX11_levelWith 76 = .ok (.i2l, 1) := by decide +kernel
theorem dX11_levelWith_77 : decode cX11_levelWith 77 = .ok (.lload 6, 2) := by decide +kernel
theorem dX11_levelWith_79 : decode cX11_levelWith 79 = .ok (.lmul, 1) := by decide +kernel
theorem dX11_levelWith_80 : decode cX11_levelWith 80 = .ok (.ladd, 1) := by decide +kernel
theorem dX11_levelWith_81 : decode cX11_levelWith 81 = .ok (.lload 4, 2) := by decide +kernel
theorem dX11_levelWith_83 : decode cX11_levelWith 83 = .ok (.lload 4, 2) := by decide +kernel
theorem dX11_levelWith_85 : decode cX11_levelWith 85 = .ok (.lmul, 1) := by decide +kernel
theorem dX11_levelWith_86 : decode cX11_levelWith 86 = .ok (.lsub, 1) := by decide +kernel
theorem dX11_levelWith_87 : decode cX11_levelWith 87 = .ok (.lreturn, 1) := by decide +kernel
set_option maxRecDepth 20000 in
theorem ggX11_paid_X11_levelWith : GoodIn wsX11_paid wsX11_levelWith := goodIn_r _ [5, 6, 7, 8, 9, 10, 11, 4, 12, 13, 14, 15, 16, 17, 18, 19, 20, 21, 22, 23, 24, 25, 26, 27, 28, 29, 30, 31, 32, 33, 34, 35, 36, 37, 38, 39] (by decide +kernel) (by decide +kernel)
set_option maxRecDepth 20000 in
theorem gX11_paid_X11_levelWith : GoodIn wsX11_paid (wsV RX11 112 RX11 yX11_levelWith wsX11_levelWith) := goodIn_app (goodIn_of _ (by decide +kernel)) ggX11_paid_X11_levelWith
theorem dX11_paid_0 : decode cX11_paid 0 = .ok (.aload_n 0, 1) := by decide +kernel
theorem dX11_paid_1 : decode cX11_paid 1 = .ok (.iload_n 1, 1) := by decide +kernel
theorem dX11_paid_2 : decode cX11_paid 2 = .ok (.lload_n 2, 1) := by decide +kernel
theorem dX11_paid_3 : decode cX11_paid 3 = .ok (.invokevirtual 112, 3) := by decide +kernel
theorem dX11_paid_6 : decode cX11_paid 6 = .ok (.aload_n 0, 1) := by decide +kernel
theorem dX11_paid_7 : decode cX11_paid 7 = .ok (.iconst 0, 1) := by decide +kernel
theorem dX11_paid_8 : decode cX11_paid 8 = .ok (.lconst 0, 1) := by decide +kernel
theorem dX11_paid_9 : decode cX11_paid 9 = .ok (.invokevirtual 112, 3) := by decide +kernel
theorem dX11_paid_12 : decode cX11_paid 12 = .ok (.lsub, 1) := by decide +kernel
theorem dX11_paid_13 : decode cX11_paid 13 = .ok (.lreturn, 1) := by decide +kernel
set_option maxRecDepth 20000 in
theorem ggX11_price_X11_isSet : GoodIn wsX11_price wsX11_isSet := goodIn_r _ [7, 2, 8, 9, 10, 6, 11, 26, 27, 28, 29, 30, 31, 32, 33, 34, 35, 36, 37, 38, 39, 40, 41, 42, 43, 44, 45, 46, 47, 48, 49, 50, 51, 52] (by decide +kernel) (by decide +kernel)
set_option maxRecDepth 20000 in
theorem gX11_price_X11_isSet : GoodIn wsX11_price (wsV RX11 116 RX11 yX11_isSet wsX11_isSet) := goodIn_app (goodIn_of _ (by decide +kernel)) ggX11_price_X11_isSet
set_option maxRecDepth 20000 in
theorem ggX11_price_X11_in : GoodIn wsX11_price wsX11_in := goodIn_r _ [14] (by decide +kernel) (by decide +kernel)
set_option maxRecDepth 20000 in
theorem gX11_price_X11_in : GoodIn wsX11_price (va_wsS RX11 108 yX11_in wsX11_in) := goodIn_app (goodIn_of _ (by decide +kernel)) ggX11_price_X11_in
set_option maxRecDepth 20000 in
theorem ggX11_price_X11_priceOf : GoodIn wsX11_price wsX11_priceOf := goodIn_r _ [18, 19, 20, 8, 2, 21, 22, 23, 24, 6, 25, 26, 27, 28, 29, 30, 31, 32, 33, 34, 35, 36, 37, 38, 39, 40, 41, 42, 43, 44, 45, 46, 47, 48, 49, 50, 51, 52] (by decide +kernel) (by decide +kernel)
set_option maxRecDepth 20000 in
theorem gX11_price_X11_priceOf : GoodIn wsX11_price (wsV RX11 120 RX11 yX11_priceOf wsX11_priceOf) := goodIn_app (goodIn_of _ (by decide +kernel)) ggX11_price_X11_priceOf
theorem dX11_price_0 : decode cX11_price 0 = .ok (.aload_n 0, 1) := by decide +kernel
theorem dX11_price_1 : decode cX11_price 1 = .ok (.iload_n 1, 1) := by decide +kernel
theorem dX11_price_2 : decode cX11_price 2 = .ok (.invokevirtual 116, 3) := by decide +kernel
theorem dX11_price_5 : decode cX11_price 5 = .ok (.ifCond .ne 7, 3) := by decide +kernel
theorem dX11_price_8 : decode cX11_price 8 = .ok (.ldc2_w 72, 3) := by decide +kernel
theorem dX11_price_11 : decode cX11_price 11 = .ok (.lreturn, 1) := by decide +kernel
theorem dX11_price_12 : decode cX11_price 12 = .ok (.lconst 0, 1) := by decide +kernel
theorem dX11_price_13 : decode cX11_price 13 = .ok (.lstore_n 2, 1) := by decide +kernel
theorem dX11_price_14 : decode cX11_price 14 = .ok (.iconst 0, 1) := by decide +kernel
theorem dX11_price_15 : decode cX11_price 15 = .ok (.istore 4, 2) := by decide +kernel
theorem dX11_price_17 : decode cX11_price 17 = .ok (.iload 4, 2) := by decide +kernel
theorem dX11_price_19 : decode cX11_price 19 = .ok (.aload_n 0, 1) := by decide +kernel
theorem dX11_price_20 : decode cX11_price 20 = .ok (.getfield 7, 3) := by decide +kernel
theorem dX11_price_23 : decode cX11_price 23 = .ok (.if_icmp .ge 26, 3) := by decide +kernel
theorem dX11_price_26 : decode cX11_price 26 = .ok (.lload_n 2, 1) := by decide +kernel
theorem dX11_price_27 : decode cX11_price 27 = .ok (.iload_n 1, 1) := by decide +kernel
theorem dX11_price_28 : decode cX11_price 28 = .ok (.iload 4, 2) := by decide +kernel
theorem dX11_price_30 : decode cX11_price 30 = .ok (.invokestatic 108, 3) := by decide +kernel
theorem dX11_price_33 : decode cX11_price 33 = .ok (.i2l, 1) := by decide +kernel
theorem dX11_price_34 : decode cX11_price 34 = .ok (.aload_n 0, 1) := by decide +kernel
theorem dX11_price_35 : decode cX11_price 35 = .ok (.iload 4, 2) := by decide +kernel
theorem dX11_price_37 : decode cX11_price 37 = .ok (.invokevirtual 120, 3) := by decide +kernel
theorem dX11_price_40 : decode cX11_price 40 = .ok (.lmul, 1) := by decide +kernel
theorem dX11_price_41 : decode cX11_price 41 = .ok (.ladd, 1) := by decide +kernel
theorem dX11_price_42 : decode cX11_price 42 = .ok (.lstore_n 2, 1) := by decide +kernel
theorem dX11_price_43 : decode cX11_price 43 = .ok (.iinc 4 1, 3) := by decide +kernel
theorem dX11_price_46 : decode cX11_price 46 = .ok (.goto (-29), 3) := by decide +kernel
theorem dX11_price_49 : decode cX11_price 49 = .ok (.lload_n 2, 1) := by decide +kernel
theorem dX11_price_50 : decode cX11_price 50 = .ok (.lreturn, 1) := by decide +kernel
theorem dX11_isTrader_0 : decode cX11_isTrader 0 = .ok (.iload_n 1, 1) := by decide +kernel
theorem dX11_isTrader_1 : decode cX11_isTrader 1 = .ok (.ifCond .lt 15, 3) := by decide +kernel
theorem dX11_isTrader_4 : decode cX11_isTrader 4 = .ok (.iload_n 1, 1) := by decide +kernel
theorem dX11_isTrader_5 : decode cX11_isTrader 5 = .ok (.aload_n 0, 1) := by decide +kernel
theorem dX11_isTrader_6 : decode cX11_isTrader 6 = .ok (.getfield 93, 3) := by decide +kernel
theorem dX11_isTrader_9 : decode cX11_isTrader 9 = .ok (.if_icmp .ge 7, 3) := by decide +kernel
theorem dX11_isTrader_12 : decode cX11_isTrader 12 = .ok (.iconst 1, 1) := by decide +kernel
theorem dX11_isTrader_13 : decode cX11_isTrader 13 = .ok (.goto 4, 3) := by decide +kernel
theorem dX11_isTrader_16 : decode cX11_isTrader 16 = .ok (.iconst 0, 1) := by decide +kernel
theorem dX11_isTrader_17 : decode cX11_isTrader 17 = .ok (.ireturn, 1) := by decide +kernel
set_option maxRecDepth 20000 in
theorem ggX11_trader_X11_within : GoodIn wsX11_trader wsX11_within := goodIn_r _ [13] (by decide +kernel) (by decide +kernel)
set_option maxRecDepth 20000 in
theorem gX11_trader_X11_within : GoodIn wsX11_trader (va_wsS RX11 80 yX11_within wsX11_within) := goodIn_app (goodIn_of _ (by decide +kernel)) ggX11_trader_X11_within
theorem dX11_trader_0 : decode cX11_trader 0 = .ok (.iload_n 1, 1) := by decide +kernel
theorem dX11_trader_1 : decode cX11_trader 1 = .ok (.i2l, 1) := by decide +kernel
theorem dX11_trader_2 : decode cX11_trader 2 = .ok (.lconst 0, 1) := by decide +kernel
theorem dX11_trader_3 : decode cX11_trader 3 = .ok (.ldc2_w 76, 3) := by decide +kernel
theorem dX11_trader_6 : decode cX11_trader 6 = .ok (.invokestatic 80, 3) := by decide +kernel
theorem dX11_trader_9 : decode cX11_trader 9 = .ok (.ifCond .eq 14, 3) := by decide +kernel
theorem dX11_trader_12 : decode cX11_trader 12 = .ok (.lload_n 2, 1) := by decide +kernel
theorem dX11_trader_13 : decode cX11_trader 13 = .ok (.lconst 0, 1) := by decide +kernel
theorem dX11_trader_14 : decode cX11_trader 14 = .ok (.ldc2_w 124, 3) := by decide +kernel
theorem dX11_trader_17 : decode cX11_trader 17 = .ok (.invokestatic 80, 3) := by decide +kernel
theorem dX11_trader_20 : decode cX11_trader 20 = .ok (.ifCond .ne 6, 3) := by decide +kernel
theorem dX11_trader_23 : decode cX11_trader 23 = .ok (.bipush (-2), 2) := by decide +kernel
theorem dX11_trader_25 : decode cX11_trader 25 = .ok (.ireturn, 1) := by decide +kernel
theorem dX11_trader_26 : decode cX11_trader 26 = .ok (.aload_n 0, 1) := by decide +kernel
theorem dX11_trader_27 : decode cX11_trader 27 = .ok (.getfield 93, 3) := by decide +kernel
theorem dX11_trader_30 : decode cX11_trader 30 = .ok (.bipush 6, 2) := by decide +kernel
theorem dX11_trader_32 : decode cX11_trader 32 = .ok (.if_icmp .ne 6, 3) := by decide +kernel
theorem dX11_trader_35 : decode cX11_trader 35 = .ok (.bipush (-4), 2) := by decide +kernel
theorem dX11_trader_37 : decode cX11_trader 37 = .ok (.ireturn, 1) := by decide +kernel
theorem dX11_trader_38 : decode cX11_trader 38 = .ok (.aload_n 0, 1) := by decide +kernel
theorem dX11_trader_39 : decode cX11_trader 39 = .ok (.getfield 23, 3) := by decide +kernel
theorem dX11_trader_42 : decode cX11_trader 42 = .ok (.aload_n 0, 1) := by decide +kernel
theorem dX11_trader_43 : decode cX11_trader 43 = .ok (.getfield 93, 3) := by decide +kernel
theorem dX11_trader_46 : decode cX11_trader 46 = .ok (.iload_n 1, 1) := by decide +kernel
theorem dX11_trader_47 : decode cX11_trader 47 = .ok (.iastore, 1) := by decide +kernel
theorem dX11_trader_48 : decode cX11_trader 48 = .ok (.aload_n 0, 1) := by decide +kernel
theorem dX11_trader_49 : decode cX11_trader 49 = .ok (.getfield 27, 3) := by decide +kernel
theorem dX11_trader_52 : decode cX11_trader 52 = .ok (.aload_n 0, 1) := by decide +kernel
theorem dX11_trader_53 : decode cX11_trader 53 = .ok (.getfield 93, 3) := by decide +kernel
theorem dX11_trader_56 : decode cX11_trader 56 = .ok (.lload_n 2, 1) := by decide +kernel
theorem dX11_trader_57 : decode cX11_trader 57 = .ok (.lastore, 1) := by decide +kernel
theorem dX11_trader_58 : decode cX11_trader 58 = .ok (.aload_n 0, 1) := by decide +kernel
theorem dX11_trader_59 : decode cX11_trader 59 = .ok (.getfield 30, 3) := by decide +kernel
theorem dX11_trader_62 : decode cX11_trader 62 = .ok (.aload_n 0, 1) := by decide +kernel
theorem dX11_trader_63 : decode cX11_trader 63 = .ok (.getfield 93, 3) := by decide +kernel
theorem dX11_trader_66 : decode cX11_trader 66 = .ok (.iconst 0, 1) := by decide +kernel
theorem dX11_trader_67 : decode cX11_trader 67 = .ok (.iastore, 1) := by decide +kernel
theorem dX11_trader_68 : decode cX11_trader 68 = .ok (.iconst 0, 1) := by decide +kernel
theorem dX11_trader_69 : decode cX11_trader 69 = .ok (.istore 4, 2) := by decide +kernel
theorem dX11_trader_71 : decode cX11_trader 71 = .ok (.iload 4, 2) := by decide +kernel
theorem dX11_trader_73 : decode cX11_trader 73 = .ok (.bipush 8, 2) := by decide +kernel
theorem dX11_trader_75 : decode cX11_trader 75 = .ok (.if_icmp .ge 54, 3) := by decide +kernel
theorem dX11_trader_78 : decode cX11_trader 78 = .ok (.aload_n 0, 1) := by decide +kernel
theorem dX11_trader_79 : decode cX11_trader 79 = .ok (.getfield 33, 3) := by decide +kernel
theorem dX11_trader_82 : decode cX11_trader 82 = .ok (.bipush 8, 2) := by decide +kernel
theorem dX11_trader_84 : decode cX11_trader 84 = .ok (.aload_n 0, 1) := by decide +kernel
theorem dX11_trader_85 : decode cX11_trader 85 = .ok (.getfield 93, 3) := by decide +kernel
theorem dX11_trader_88 : decode cX11_trader 88 = .ok (.imul, 1) := by decide +kernel
theorem dX11_trader_89 : decode cX11_trader 89 = .ok (.iload 4, 2) := by decide +kernel
theorem dX11_trader_91 : decode cX11_trader 91 = .ok (.iadd, 1) := by decide +kernel
theorem dX11_trader_92 : decode cX11_trader 92 = .ok (.lconst 0, 1) := by decide +kernel
theorem dX11_trader_93 : decode cX11_trader 93 = .ok (.lastore, 1) := by decide +kernel
theorem dX11_trader_94 : decode cX11_trader 94 = .ok (.aload_n 0, 1) := by decide +kernel
theorem dX11_trader_95 : decode cX11_trader 95 = .ok (.getfield 36, 3) := by decide +kernel
theorem dX11_trader_98 : decode cX11_trader 98 = .ok (.bipush 8, 2) := by decide +kernel
theorem dX11_trader_100 : decode cX11_trader 100 = .ok (.aload_n 0, 1) := by decide +kernel
theorem dX11_trader_101 : decode cX11_trader 101 = .ok (.getfield 93, 3) := by decide +kernel
theorem dX11_trader_104 : decode cX11_trader 104 = .ok (.imul, 1) := by decide +kernel
theorem dX11_trader_105 : decode cX11_trader 105 = .ok (.iload 4, 2) := by decide +kernel
theorem dX11_trader_107 : decode cX11_trader 107 = .ok (.iadd, 1) := by decide +kernel
theorem dX11_trader_108 : decode cX11_trader 108 = .ok (.iload 4, 2) := by decide +kernel
theorem dX11_trader_110 : decode cX11_trader 110 = .ok (.aload_n 0, 1) := by decide +kernel
theorem dX11_trader_111 : decode cX11_trader 111 = .ok (.getfield 7, 3) := by decide +kernel
theorem dX11_trader_114 : decode cX11_trader 114 = .ok (.if_icmp .ge 7, 3) := by decide +kernel
theorem dX11_trader_117 : decode cX11_trader 117 = .ok (.iconst 1, 1) := by decide +kernel
theorem dX11_trader_118 : decode cX11_trader 118 = .ok (.goto 4, 3) := by decide +kernel
theorem dX11_trader_121 : decode cX11_trader 121 = .ok (.iconst 0, 1) := by decide +kernel
theorem dX11_trader_122 : decode cX11_trader 122 = .ok (.iastore, 1) := by decide +kernel
theorem dX11_trader_123 : decode cX11_trader 123 = .ok (.iinc 4 1, 3) := by decide +kernel
theorem dX11_trader_126 : decode cX11_trader 126 = .ok (.goto (-55), 3) := by decide +kernel
theorem dX11_trader_129 : decode cX11_trader 129 = .ok (.aload_n 0, 1) := by decide +kernel
theorem dX11_trader_130 : decode cX11_trader 130 = .ok (.dup, 1) := by decide +kernel
theorem dX11_trader_131 : decode cX11_trader 131 = .ok (.getfield 93, 3) := by decide +kernel
theorem dX11_trader_134 : decode cX11_trader 134 = .ok (.iconst 1, 1) := by decide +kernel
theorem dX11_trader_135 : decode cX11_trader 135 = .ok (.iadd, 1) := by decide +kernel
theorem dX11_trader_136 : decode cX11_trader 136 = .ok (.putfield 93, 3) := by decide +kernel
theorem dX11_trader_139 : decode cX11_trader 139 = .ok (.aload_n 0, 1) := by decide +kernel
theorem dX11_trader_140 : decode cX11_trader 140 = .ok (.getfield 93, 3) := by decide +kernel
theorem dX11_trader_143 : decode cX11_trader 143 = .ok (.iconst 1, 1) := by decide +kernel
theorem dX11_trader_144 : decode cX11_trader 144 = .ok (.isub, 1) := by decide +kernel
theorem dX11_trader_145 : decode cX11_trader 145 = .ok (.ireturn, 1) := by decide +kernel
set_option maxRecDepth 20000 in
theorem ggX11_leastWith_X11_in : GoodIn wsX11_leastWith wsX11_in := goodIn_r _ [6] (by decide +kernel) (by decide +kernel)
set_option maxRecDepth 20000 in
theorem gX11_leastWith_X11_in : GoodIn wsX11_leastWith (va_wsS RX11 108 yX11_in wsX11_in) := goodIn_app (goodIn_of _ (by decide +kernel)) ggX11_leastWith_X11_in
theorem dX11_leastWith_0 : decode cX11_leastWith 0 = .ok (.aload_n 0, 1) := by decide +kernel
theorem dX11_leastWith_1 : decode cX11_leastWith 1 = .ok (.getfield 33, 3) := by decide +kernel
theorem dX11_leastWith_4 : decode cX11_leastWith 4 = .ok (.bipush 8, 2) := by decide +kernel
theorem dX11_leastWith_6 : decode cX11_leastWith 6 = .ok (.iload_n 1, 1) := by decide +kernel
theorem dX11_leastWith_7 : decode cX11_leastWith 7 = .ok (.imul, 1) := by decide +kernel
theorem dX11_leastWith_8 : decode cX11_leastWith 8 = .ok (.laload, 1) := by decide +kernel
theorem dX11_leastWith_9 : decode cX11_leastWith 9 = .ok (.lload_n 3, 1) := by decide +kernel
theorem dX11_leastWith_10 : decode cX11_leastWith 10 = .ok (.iload_n 2, 1) := by decide +kernel
theorem dX11_leastWith_11 : decode cX11_leastWith 11 = .ok (.iconst 0, 1) := by decide +kernel
theorem dX11_leastWith_12 : decode cX11_leastWith 12 = .ok (.invokestatic 108, 3) := by decide +kernel
theorem dX11_leastWith_15 : decode cX11_leastWith 15 = .ok (.i2l, 1) := by decide +kernel
theorem dX11_leastWith_16 : decode cX11_leastWith 16 = .ok (.lmul, 1) := by decide +kernel
theorem dX11_leastWith_17 : decode cX11_leastWith 17 = .ok (.ladd, 1) := by decide +kernel
theorem dX11_leastWith_18 : decode cX11_leastWith 18 = .ok (.lstore 5, 2) := by decide +kernel
theorem dX11_leastWith_20 : decode cX11_leastWith 20 = .ok (.iconst 1, 1) := by decide +kernel
theorem dX11_leastWith_21 : decode cX11_leastWith 21 = .ok (.istore 7, 2) := by decide +kernel
theorem dX11_leastWith_23 : decode cX11_leastWith 23 = .ok (.iload 7, 2) := by decide +kernel
theorem dX11_leastWith_25 : decode cX11_leastWith 25 = .ok (.aload_n 0, 1) := by decide +kernel
theorem dX11_leastWith_26 : decode cX11_leastWith 26 = .ok (.getfield 7, 3) := by decide +kernel
theorem dX11_leastWith_29 : decode cX11_leastWith 29 = .ok (.if_icmp .ge 50, 3) := by decide +kernel
theorem dX11_leastWith_32 : decode cX11_leastWith 32 = .ok (.aload_n 0, 1) := by decide +kernel
theorem dX11_leastWith_33 : decode cX11_leastWith 33 = .ok (.getfield 33, 3) := by decide +kernel
theorem dX11_leastWith_36 : decode cX11_leastWith 36 = .ok (.bipush 8, 2) := by decide +kernel
theorem dX11_leastWith_38 : decode cX11_leastWith 38 = .ok (.iload_n 1, 1) := by decide +kernel
theorem dX11_leastWith_39 : decode cX11_leastWith 39 = .ok (.imul, 1) := by decide +kernel
theorem dX11_leastWith_40 : decode cX11_leastWith 40 = .ok (.iload 7, 2) := by decide +kernel
theorem dX11_leastWith_42 : decode cX11_leastWith 42 = .ok (.iadd, 1) := by decide +kernel
theorem dX11_leastWith_43 : decode cX11_leastWith 43 = .ok (.laload, 1) := by decide +kernel
theorem dX11_leastWith_44 : decode cX11_leastWith 44 = .ok (.lload_n 3, 1) := by decide +kernel
theorem dX11_leastWith_45 : decode cX11_leastWith 45 = .ok (.iload_n 2, 1) := by decide +kernel
theorem dX11_leastWith_46 : decode cX11_leastWith 46 = .ok (.iload 7, 2) := by decide +kernel
theorem dX11_leastWith_48 : decode cX11_leastWith 48 = .ok (.invokestatic 108, 3) := by decide +kernel
theorem dX11_leastWith_51 : decode cX11_leastWith 51 = .ok (.i2l, 1) := by decide +kernel
theorem dX11_leastWith_52 : decode cX11_leastWith 52 = .ok (.lmul, 1) := by decide +kernel
theorem dX11_leastWith_53 : decode cX11_leastWith 53 = .ok (.ladd, 1) := by decide +kernel
theorem dX11_leastWith_54 : decode cX11_leastWith 54 = .ok (.lstore 8, 2) := by decide +kernel
theorem dX11_leastWith_56 : decode cX11_leastWith 56 = .ok (.lload 8, 2) := by decide +kernel
theorem dX11_leastWith_58 : decode cX11_leastWith 58 = .ok (.lload 5, 2) := by decide +kernel
theorem dX11_leastWith_60 : decode cX11_leastWith 60 = .ok (.lcmp, 1) := by decide +kernel
theorem dX11_leastWith_61 : decode cX11_leastWith 61 = .ok (.ifCond .ge 8, 3) := by decide +kernel
theorem dX11_leastWith_64 : decode cX11_leastWith 64 = .ok (.lload 8, 2) := by decide +kernel
theorem dX11_leastWith_66 : decode cX11_leastWith 66 = .ok (.goto 5, 3) := by decide +kernel
theorem dX11_leastWith_69 : decode cX11_leastWith 69 = .ok (.lload 5, 2) := by decide +kernel
theorem dX11_leastWith_71 : decode cX11_leastWith 71 = .ok (.lstore 5, 2) := by decide +kernel
theorem dX11_leastWith_73 : decode cX11_leastWith 73 = .ok (.iinc 7 1, 3) := by decide +kernel
theorem dX11_leastWith_76 : decode cX11_leastWith 76 = .ok (.goto (-53), 3) := by decide +kernel
theorem dX11_leastWith_79 : decode cX11_leastWith 79 = .ok (.lload 5, 2) := by decide +kernel
theorem dX11_leastWith_81 : decode cX11_leastWith 81 = .ok (.lreturn, 1) := by decide +kernel
set_option maxRecDepth 20000 in
theorem ggX11_why_X11_sumSold : GoodIn wsX11_why wsX11_sumSold := goodIn_r _ [11, 1, 5, 35, 36, 37, 38, 39, 40, 41, 42, 43, 44, 45, 46, 47, 48, 49, 50, 51, 52, 53, 54, 55, 56, 57, 58, 59, 60, 61] (by decide +kernel) (by decide +kernel)
set_option maxRecDepth 20000 in
theorem gX11_why_X11_sumSold : GoodIn wsX11_why (wsV RX11 104 RX11 yX11_sumSold wsX11_sumSold) := goodIn_app (goodIn_of _ (by decide +kernel)) ggX11_why_X11_sumSold
set_option maxRecDepth 20000 in
theorem ggX11_why_X11_in : GoodIn wsX11_why wsX11_in := goodIn_r _ [14] (by decide +kernel) (by decide +kernel)
set_option maxRecDepth 20000 in
theorem gX11_why_X11_in : GoodIn wsX11_why (va_wsS RX11 108 yX11_in wsX11_in) := goodIn_app (goodIn_of _ (by decide +kernel)) ggX11_why_X11_in
set_option maxRecDepth 20000 in
theorem ggX11_why_X11_grains : GoodIn wsX11_why wsX11_grains := goodIn_r _ [18, 2, 3, 1, 35, 36, 37, 38, 39, 40, 41, 42, 43, 44, 45, 46, 47, 48, 49, 50, 51, 52, 53, 54, 55, 56, 57, 58, 59, 60, 61] (by decide +kernel) (by decide +kernel)
set_option maxRecDepth 20000 in
theorem gX11_why_X11_grains : GoodIn wsX11_why (wsV RX11 126 RX11 yX11_grains wsX11_grains) := goodIn_app (goodIn_of _ (by decide +kernel)) ggX11_why_X11_grains
set_option maxRecDepth 20000 in
theorem ggX11_why_X11_within : GoodIn wsX11_why wsX11_within := goodIn_r _ [21] (by decide +kernel) (by decide +kernel)
set_option maxRecDepth 20000 in
theorem gX11_why_X11_within : GoodIn wsX11_why (va_wsS RX11 80 yX11_within wsX11_within) := goodIn_app (goodIn_of _ (by decide +kernel)) ggX11_why_X11_within
set_option maxRecDepth 20000 in
theorem ggX11_why_X11_paid : GoodIn wsX11_why wsX11_paid := goodIn_r _ [25, 26, 27, 28, 10, 29, 1, 5, 2, 3, 12, 13, 14, 35, 36, 37, 38, 39, 40, 41, 42, 43, 44, 45, 46, 47, 48, 49, 50, 51, 52, 53, 54, 55, 56, 57, 58, 59, 60, 61] (by decide +kernel) (by decide +kernel)
set_option maxRecDepth 20000 in
theorem gX11_why_X11_paid : GoodIn wsX11_why (wsV RX11 129 RX11 yX11_paid wsX11_paid) := goodIn_app (goodIn_of _ (by decide +kernel)) ggX11_why_X11_paid
set_option maxRecDepth 20000 in
theorem ggX11_why_X11_leastWith : GoodIn wsX11_why wsX11_leastWith := goodIn_r _ [33, 34, 1, 12, 13, 10, 14, 35, 36, 37, 38, 39, 40, 41, 42, 43, 44, 45, 46, 47, 48, 49, 50, 51, 52, 53, 54, 55, 56, 57, 58, 59, 60, 61] (by decide +kernel) (by decide +kernel)
set_option maxRecDepth 20000 in
theorem gX11_why_X11_leastWith : GoodIn wsX11_why (wsV RX11 132 RX11 yX11_leastWith wsX11_leastWith) := goodIn_app (goodIn_of _ (by decide +kernel)) ggX11_why_X11_leastWith
theorem dX11_why_0 : decode cX11_why 0 = .ok (.aload_n 0, 1) := by decide +kernel
theorem dX11_why_1 : decode cX11_why 1 = .ok (.invokevirtual 104, 3) := by decide +kernel
theorem dX11_why_4 : decode cX11_why 4 = .ok (.lstore 5, 2) := by decide +kernel
theorem dX11_why_6 : decode cX11_why 6 = .ok (.iconst 0, 1) := by decide +kernel
theorem dX11_why_7 : decode cX11_why 7 = .ok (.istore 7, 2) := by decide +kernel
theorem dX11_why_9 : decode cX11_why 9 = .ok (.iload 7, 2) := by decide +kernel
theorem dX11_why_11 : decode cX11_why 11 = .ok (.aload_n 0, 1) := by decide +kernel
theorem dX11_why_12 : decode cX11_why 12 = .ok (.getfield 7, 3) := by decide +kernel
theorem dX11_why_15 : decode cX11_why 15 = .ok (.if_icmp .ge 23, 3) := by decide +kernel
theorem dX11_why_18 : decode cX11_why 18 = .ok (.lload 5, 2) := by decide +kernel
theorem dX11_why_20 : decode cX11_why 20 = .ok (.lload_n 3, 1) := by decide +kernel
theorem dX11_why_21 : decode cX11_why 21 = .ok (.iload_n 2, 1) := by decide +kernel
theorem dX11_why_22 : decode cX11_why 22 = .ok (.iload 7, 2) := by decide +kernel
theorem dX11_why_24 : decode cX11_why 24 = .ok (.invokestatic 108, 3) := by decide +kernel
theorem dX11_why_27 : decode cX11_why 27 = .ok (.i2l, 1) := by decide +kernel
theorem dX11_why_28 : decode cX11_why 28 = .ok (.lmul, 1) := by decide +kernel
theorem dX11_why_29 : decode cX11_why 29 = .ok (.ladd, 1) := by decide +kernel
theorem dX11_why_30 : decode cX11_why 30 = .ok (.lstore 5, 2) := by decide +kernel
theorem dX11_why_32 : decode cX11_why 32 = .ok (.iinc 7 1, 3) := by decide +kernel
theorem dX11_why_35 : decode cX11_why 35 = .ok (.goto (-26), 3) := by decide +kernel
theorem dX11_why_38 : decode cX11_why 38 = .ok (.iconst 0, 1) := by decide +kernel
theorem dX11_why_39 : decode cX11_why 39 = .ok (.istore 7, 2) := by decide +kernel
theorem dX11_why_41 : decode cX11_why 41 = .ok (.iload 7, 2) := by decide +kernel
theorem dX11_why_43 : decode cX11_why 43 = .ok (.aload_n 0, 1) := by decide +kernel
theorem dX11_why_44 : decode cX11_why 44 = .ok (.getfield 7, 3) := by decide +kernel
theorem dX11_why_47 : decode cX11_why 47 = .ok (.if_icmp .ge 66, 3) := by decide +kernel
theorem dX11_why_50 : decode cX11_why 50 = .ok (.ldc2_w 74, 3) := by decide +kernel
theorem dX11_why_53 : decode cX11_why 53 = .ok (.aload_n 0, 1) := by decide +kernel
theorem dX11_why_54 : decode cX11_why 54 = .ok (.getfield 13, 3) := by decide +kernel
theorem dX11_why_57 : decode cX11_why 57 = .ok (.i2l, 1) := by decide +kernel
theorem dX11_why_58 : decode cX11_why 58 = .ok (.lmul, 1) := by decide +kernel
theorem dX11_why_59 : decode cX11_why 59 = .ok (.ldc2_w 76, 3) := by decide +kernel
theorem dX11_why_62 : decode cX11_why 62 = .ok (.aload_n 0, 1) := by decide +kernel
theorem dX11_why_63 : decode cX11_why 63 = .ok (.getfield 7, 3) := by decide +kernel
theorem dX11_why_66 : decode cX11_why 66 = .ok (.i2l, 1) := by decide +kernel
theorem dX11_why_67 : decode cX11_why 67 = .ok (.aload_n 0, 1) := by decide +kernel
theorem dX11_why_68 : decode cX11_why 68 = .ok (.getfield 16, 3) := by decide +kernel
theorem dX11_why_71 : decode cX11_why 71 = .ok (.iload 7, 2) := by decide +kernel
theorem dX11_why_73 : decode cX11_why 73 = .ok (.laload, 1) := by decide +kernel
theorem dX11_why_74 : decode cX11_why 74 = .ok (.lload_n 3, 1) := by decide +kernel
theorem dX11_why_75 : decode cX11_why 75 = .ok (.iload_n 2, 1) := by decide +kernel
theorem dX11_why_76 : decode cX11_why 76 = .ok (.iload 7, 2) := by decide +kernel
theorem dX11_why_78 : decode cX11_why 78 = .ok (.invokestatic 108, 3) := by decide +kernel
theorem dX11_why_81 : decode cX11_why 81 = .ok (.i2l, 1) := by decide +kernel
theorem dX11_why_82 : decode cX11_why 82 = .ok (.lmul, 1) := by decide +kernel
theorem dX11_why_83 : decode cX11_why 83 = .ok (.ladd, 1) := by decide +kernel
theorem dX11_why_84 : decode cX11_why 84 = .ok (.lmul, 1) := by decide +kernel
theorem dX11_why_85 : decode cX11_why 85 = .ok (.lload 5, 2) := by decide +kernel
theorem dX11_why_87 : decode cX11_why 87 = .ok (.lsub, 1) := by decide +kernel
theorem dX11_why_88 : decode cX11_why 88 = .ok (.lmul, 1) := by decide +kernel
theorem dX11_why_89 : decode cX11_why 89 = .ok (.ladd, 1) := by decide +kernel
theorem dX11_why_90 : decode cX11_why 90 = .ok (.lstore 8, 2) := by decide +kernel
theorem dX11_why_92 : decode cX11_why 92 = .ok (.lload 8, 2) := by decide +kernel
theorem dX11_why_94 : decode cX11_why 94 = .ok (.lconst 0, 1) := by decide +kernel
theorem dX11_why_95 : decode cX11_why 95 = .ok (.aload_n 0, 1) := by decide +kernel
theorem dX11_why_96 : decode cX11_why 96 = .ok (.invokevirtual 126, 3) := by decide +kernel
theorem dX11_why_99 : decode cX11_why 99 = .ok (.invokestatic 80, 3) := by decide +kernel
theorem dX11_why_102 : decode cX11_why 102 = .ok (.ifCond .ne 5, 3) := by decide +kernel
theorem dX11_why_105 : decode cX11_why 105 = .ok (.iconst 1, 1) := by decide +kernel
theorem dX11_why_106 : decode cX11_why 106 = .ok (.ireturn, 1) := by decide +kernel
theorem dX11_why_107 : decode cX11_why 107 = .ok (.iinc 7 1, 3) := by decide +kernel
theorem dX11_why_110 : decode cX11_why 110 = .ok (.goto (-69), 3) := by decide +kernel
theorem dX11_why_113 : decode cX11_why 113 = .ok (.aload_n 0, 1) := by decide +kernel
theorem dX11_why_114 : decode cX11_why 114 = .ok (.getfield 27, 3) := by decide +kernel
theorem dX11_why_117 : decode cX11_why 117 = .ok (.iload_n 1, 1) := by decide +kernel
theorem dX11_why_118 : decode cX11_why 118 = .ok (.laload, 1) := by decide +kernel
theorem dX11_why_119 : decode cX11_why 119 = .ok (.aload_n 0, 1) := by decide +kernel
theorem dX11_why_120 : decode cX11_why 120 = .ok (.iload_n 2, 1) := by decide +kernel
theorem dX11_why_121 : decode cX11_why 121 = .ok (.lload_n 3, 1) := by decide +kernel
theorem dX11_why_122 : decode cX11_why 122 = .ok (.invokevirtual 129, 3) := by decide +kernel
theorem dX11_why_125 : decode cX11_why 125 = .ok (.lsub, 1) := by decide +kernel
theorem dX11_why_126 : decode cX11_why 126 = .ok (.aload_n 0, 1) := by decide +kernel
theorem dX11_why_127 : decode cX11_why 127 = .ok (.invokevirtual 126, 3) := by decide +kernel
theorem dX11_why_130 : decode cX11_why 130 = .ok (.aload_n 0, 1) := by decide +kernel
theorem dX11_why_131 : decode cX11_why 131 = .ok (.iload_n 1, 1) := by decide +kernel
theorem dX11_why_132 : decode cX11_why 132 = .ok (.iload_n 2, 1) := by decide +kernel
theorem dX11_why_133 : decode cX11_why 133 = .ok (.lload_n 3, 1) := by decide +kernel
theorem dX11_why_134 : decode cX11_why 134 = .ok (.invokevirtual 132, 3) := by decide +kernel
theorem dX11_why_137 : decode cX11_why 137 = .ok (.lmul, 1) := by decide +kernel
theorem dX11_why_138 : decode cX11_why 138 = .ok (.ladd, 1) := by decide +kernel
theorem dX11_why_139 : decode cX11_why 139 = .ok (.lconst 0, 1) := by decide +kernel
theorem dX11_why_140 : decode cX11_why 140 = .ok (.lcmp, 1) := by decide +kernel
theorem dX11_why_141 : decode cX11_why 141 = .ok (.ifCond .ge 7, 3) := by decide +kernel
theorem dX11_why_144 : decode cX11_why 144 = .ok (.iconst 2, 1) := by decide +kernel
theorem dX11_why_145 : decode cX11_why 145 = .ok (.goto 4, 3) := by decide +kernel
theorem dX11_why_148 : decode cX11_why 148 = .ok (.iconst 0, 1) := by decide +kernel
theorem dX11_why_149 : decode cX11_why 149 = .ok (.ireturn, 1) := by decide +kernel
set_option maxRecDepth 20000 in
theorem ggX11_quote_X11_isTrader : GoodIn wsX11_quote wsX11_isTrader := goodIn_r _ [6, 7, 36, 37, 38, 39, 40, 41, 42, 43, 44, 45, 46, 47, 48, 49, 50, 51, 52, 53, 54, 55, 56, 57, 58, 59, 60, 61, 62] (by decide +kernel) (by decide +kernel)
set_option maxRecDepth 20000 in
theorem gX11_quote_X11_isTrader : GoodIn wsX11_quote (wsV RX11 136 RX11 yX11_isTrader wsX11_isTrader) := goodIn_app (goodIn_of _ (by decide +kernel)) ggX11_quote_X11_isTrader
set_option maxRecDepth 20000 in
theorem ggX11_quote_X11_isSet : GoodIn wsX11_quote wsX11_isSet := goodIn_r _ [11, 12, 13, 14, 15, 5, 16, 36, 37, 38, 39, 40, 41, 42, 43, 44, 45, 46, 47, 48, 49, 50, 51, 52, 53, 54, 55, 56, 57, 58, 59, 60, 61, 62] (by decide +kernel) (by decide +kernel)
set_option maxRecDepth 20000 in
theorem gX11_quote_X11_isSet : GoodIn wsX11_quote (wsV RX11 116 RX11 yX11_isSet wsX11_isSet) := goodIn_app (goodIn_of _ (by decide +kernel)) ggX11_quote_X11_isSet
set_option maxRecDepth 20000 in
theorem ggX11_quote_X11_isShares : GoodIn wsX11_quote wsX11_isShares := goodIn_r _ [19, 20, 21, 14, 15, 5, 16] (by decide +kernel) (by decide +kernel)
set_option maxRecDepth 20000 in
theorem gX11_quote_X11_isShares : GoodIn wsX11_quote (va_wsS RX11 139 yX11_isShares wsX11_isShares) := goodIn_app (goodIn_of _ (by decide +kernel)) ggX11_quote_X11_isShares
set_option maxRecDepth 20000 in
theorem ggX11_quote_X11_paid : GoodIn wsX11_quote wsX11_paid := goodIn_r _ [25, 26, 27, 28, 5, 29, 12, 30, 31, 32, 33, 34, 35, 36, 37, 38, 39, 40, 41, 42, 43, 44, 45, 46, 47, 48, 49, 50, 51, 52, 53, 54, 55, 56, 57, 58, 59, 60, 61, 62] (by decide +kernel) (by decide +kernel)
set_option maxRecDepth 20000 in
theorem gX11_quote_X11_paid : GoodIn wsX11_quote (wsV RX11 129 RX11 yX11_paid wsX11_paid) := goodIn_app (goodIn_of _ (by decide +kernel)) ggX11_quote_X11_paid
theorem dX11_quote_0 : decode cX11_quote 0 = .ok (.aload_n 0, 1) := by decide +kernel
theorem dX11_quote_1 : decode cX11_quote 1 = .ok (.iload_n 1, 1) := by decide +kernel
theorem dX11_quote_2 : decode cX11_quote 2 = .ok (.invokevirtual 136, 3) := by decide +kernel
theorem dX11_quote_5 : decode cX11_quote 5 = .ok (.ifCond .eq 28, 3) := by decide +kernel
theorem dX11_quote_8 : decode cX11_quote 8 = .ok (.aload_n 0, 1) := by decide +kernel
theorem dX11_quote_9 : decode cX11_quote 9 = .ok (.iload_n 2, 1) := by decide +kernel
theorem dX11_quote_10 : decode cX11_quote 10 = .ok (.invokevirtual 116, 3) := by decide +kernel
theorem dX11_quote_13 : decode cX11_quote 13 = .ok (.ifCond .eq 20, 3) := by decide +kernel
theorem dX11_quote_16 : decode cX11_quote 16 = .ok (.iload_n 3, 1) := by decide +kernel
theorem dX11_quote_17 : decode cX11_quote 17 = .ok (.invokestatic 139, 3) := by decide +kernel
theorem dX11_quote_20 : decode cX11_quote 20 = .ok (.ifCond .eq 13, 3) := by decide +kernel
theorem dX11_quote_23 : decode cX11_quote 23 = .ok (.aload_n 0, 1) := by decide +kernel
theorem dX11_quote_24 : decode cX11_quote 24 = .ok (.iload_n 2, 1) := by decide +kernel
theorem dX11_quote_25 : decode cX11_quote 25 = .ok (.iload_n 3, 1) := by decide +kernel
theorem dX11_quote_26 : decode cX11_quote 26 = .ok (.i2l, 1) := by decide +kernel
theorem dX11_quote_27 : decode cX11_quote 27 = .ok (.invokevirtual 129, 3) := by decide +kernel
theorem dX11_quote_30 : decode cX11_quote 30 = .ok (.goto 6, 3) := by decide +kernel
theorem dX11_quote_33 : decode cX11_quote 33 = .ok (.ldc2_w 72, 3) := by decide +kernel
theorem dX11_quote_36 : decode cX11_quote 36 = .ok (.lreturn, 1) := by decide +kernel
set_option maxRecDepth 20000 in
theorem ggX11_barred_X11_isTrader : GoodIn wsX11_barred wsX11_isTrader := goodIn_r _ [6, 7, 54, 55, 56, 57, 58, 59, 60, 61, 62, 63, 64, 65, 66, 67, 68, 69, 70, 71, 72, 73, 74, 75, 76, 77, 78, 79, 80] (by decide +kernel) (by decide +kernel)
set_option maxRecDepth 20000 in
theorem gX11_barred_X11_isTrader : GoodIn wsX11_barred (wsV RX11 136 RX11 yX11_isTrader wsX11_isTrader) := goodIn_app (goodIn_of _ (by decide +kernel)) ggX11_barred_X11_isTrader
set_option maxRecDepth 20000 in
theorem ggX11_barred_X11_isSet : GoodIn wsX11_barred wsX11_isSet := goodIn_r _ [11, 12, 13, 14, 15, 5, 16, 54, 55, 56, 57, 58, 59, 60, 61, 62, 63, 64, 65, 66, 67, 68, 69, 70, 71, 72, 73, 74, 75, 76, 77, 78, 79, 80] (by decide +kernel) (by decide +kernel)
set_option maxRecDepth 20000 in
theorem gX11_barred_X11_isSet : GoodIn wsX11_barred (wsV RX11 116 RX11 yX11_isSet wsX11_isSet) := goodIn_app (goodIn_of _ (by decide +kernel)) ggX11_barred_X11_isSet
set_option maxRecDepth 20000 in
theorem ggX11_barred_X11_isShares : GoodIn wsX11_barred wsX11_isShares := goodIn_r _ [19, 20, 21, 14, 15, 5, 16] (by decide +kernel) (by decide +kernel)
set_option maxRecDepth 20000 in
theorem gX11_barred_X11_isShares : GoodIn wsX11_barred (va_wsS RX11 139 yX11_isShares wsX11_isShares) := goodIn_app (goodIn_of _ (by decide +kernel)) ggX11_barred_X11_isShares
set_option maxRecDepth 20000 in
theorem ggX11_barred_X11_why : GoodIn wsX11_barred wsX11_why := goodIn_r _ [25, 12, 26, 27, 13, 28, 29, 30, 31, 32, 5, 33, 34, 35, 36, 37, 38, 39, 40, 14, 15, 16, 41, 42, 43, 44, 45, 46, 47, 48, 49, 50, 51, 52, 53, 54, 55, 56, 57, 58, 59, 60, 61, 62, 63, 64, 65, 66, 67, 68, 69, 70, 71, 72, 73, 74, 75, 76, 77, 78, 79, 80] (by decide +kernel) (by decide +kernel)
set_option maxRecDepth 20000 in
theorem gX11_barred_X11_why : GoodIn wsX11_barred (wsV RX11 142 RX11 yX11_why wsX11_why) := goodIn_app (goodIn_of _ (by decide +kernel)) ggX11_barred_X11_why
theorem dX11_barred_0 : decode cX11_barred 0 = .ok (.aload_n 0, 1) := by decide +kernel
theorem dX11_barred_1 : decode cX11_barred 1 = .ok (.iload_n 1, 1) := by decide +kernel
theorem dX11_barred_2 : decode cX11_barred 2 = .ok (.invokevirtual 136, 3) := by decide +kernel
theorem dX11_barred_5 : decode cX11_barred 5 = .ok (.ifCond .ne 5, 3) := by decide +kernel
theorem dX11_barred_8 : decode cX11_barred 8 = .ok (.iconst (-1), 1) := by decide +kernel
theorem dX11_barred_9 : decode cX11_barred 9 = .ok (.ireturn, 1) := by decide +kernel
theorem dX11_barred_10 : decode cX11_barred 10 = .ok (.aload_n 0, 1) := by decide +kernel
theorem dX11_barred_11 : decode cX11_barred 11 = .ok (.iload_n 2, 1) := by decide +kernel
theorem dX11_barred_12 : decode cX11_barred 12 = .ok (.invokevirtual 116, 3) := by decide +kernel
theorem dX11_barred_15 : decode cX11_barred 15 = .ok (.ifCond .eq 10, 3) := by decide +kernel
theorem dX11_barred_18 : decode cX11_barred 18 = .ok (.iload_n 3, 1) := by decide +kernel
theorem dX11_barred_19 : decode cX11_barred 19 = .ok (.invokestatic 139, 3) := by decide +kernel
theorem dX11_barred_22 : decode cX11_barred 22 = .ok (.ifCond .ne 6, 3) := by decide +kernel
theorem dX11_barred_25 : decode cX11_barred 25 = .ok (.bipush (-2), 2) := by decide +kernel
theorem dX11_barred_27 : decode cX11_barred 27 = .ok (.ireturn, 1) := by decide +kernel
theorem dX11_barred_28 : decode cX11_barred 28 = .ok (.aload_n 0, 1) := by decide +kernel
theorem dX11_barred_29 : decode cX11_barred 29 = .ok (.getfield 20, 3) := by decide +kernel
theorem dX11_barred_32 : decode cX11_barred 32 = .ok (.bipush (-9), 2) := by decide +kernel
theorem dX11_barred_34 : decode cX11_barred 34 = .ok (.if_icmp .eq 8, 3) := by decide +kernel
theorem dX11_barred_37 : decode cX11_barred 37 = .ok (.bipush (-3), 2) := by decide +kernel
theorem dX11_barred_39 : decode cX11_barred 39 = .ok (.goto 11, 3) := by decide +kernel
theorem dX11_barred_42 : decode cX11_barred 42 = .ok (.aload_n 0, 1) := by decide +kernel
theorem dX11_barred_43 : decode cX11_barred 43 = .ok (.iload_n 1, 1) := by decide +kernel
theorem dX11_barred_44 : decode cX11_barred 44 = .ok (.iload_n 2, 1) := by decide +kernel
theorem dX11_barred_45 : decode cX11_barred 45 = .ok (.iload_n 3, 1) := by decide +kernel
theorem dX11_barred_46 : decode cX11_barred 46 = .ok (.i2l, 1) := by decide +kernel
theorem dX11_barred_47 : decode cX11_barred 47 = .ok (.invokevirtual 142, 3) := by decide +kernel
theorem dX11_barred_50 : decode cX11_barred 50 = .ok (.ireturn, 1) := by decide +kernel
set_option maxRecDepth 20000 in
theorem ggX11_deal_X11_barred : GoodIn wsX11_deal wsX11_barred := goodIn_r _ [12, 13, 14, 15, 16, 11, 17, 18, 19, 20, 21, 22, 3, 23, 24, 25, 26, 27, 28, 29, 30, 31, 32, 33, 34, 35, 36, 37, 4, 1, 38, 39, 40, 41, 42, 43, 44, 45, 46, 47, 48, 49, 50, 51, 52, 53, 54, 55, 56, 57, 58, 59, 60, 5, 61, 62, 63, 64, 65, 66, 67, 68, 69, 70, 71, 72, 73, 74, 75, 76, 77, 78, 79, 80, 81, 82, 83, 84, 85, 86, 87] (by decide +kernel) (by decide +kernel)
set_option maxRecDepth 20000 in
theorem gX11_deal_X11_barred : GoodIn wsX11_deal (wsV RX11 146 RX11 yX11_barred wsX11_barred) := goodIn_app (goodIn_of _ (by decide +kernel)) ggX11_deal_X11_barred
set_option maxRecDepth 20000 in
theorem ggX11_deal_X11_paid : GoodIn wsX11_deal wsX11_paid := goodIn_r _ [52, 53, 54, 55, 11, 56, 3, 4, 36, 37, 42, 43, 44, 61, 62, 63, 64, 65, 66, 67, 68, 69, 70, 71, 72, 73, 74, 75, 76, 77, 78, 79, 80, 81, 82, 83, 84, 85, 86, 87] (by decide +kernel) (by decide +kernel)
set_option maxRecDepth 20000 in
theorem gX11_deal_X11_paid : GoodIn wsX11_deal (wsV RX11 129 RX11 yX11_paid wsX11_paid) := goodIn_app (goodIn_of _ (by decide +kernel)) ggX11_deal_X11_paid
set_option maxRecDepth 20000 in
theorem ggX11_deal_X11_in : GoodIn wsX11_deal wsX11_in := goodIn_r _ [44] (by decide +kernel) (by decide +kernel)
set_option maxRecDepth 20000 in
theorem gX11_deal_X11_in : GoodIn wsX11_deal (va_wsS RX11 108 yX11_in wsX11_in) := goodIn_app (goodIn_of _ (by decide +kernel)) ggX11_deal_X11_in
theorem dX11_deal_0 : decode cX11_deal 0 = .ok (.aload_n 0, 1) := by decide +kernel
theorem dX11_deal_1 : decode cX11_deal 1 = .ok (.iload_n 1, 1) := by decide +kernel
theorem dX11_deal_2 : decode cX11_deal 2 = .ok (.iload_n 2, 1) := by decide +kernel
theorem dX11_deal_3 : decode cX11_deal 3 = .ok (.iload_n 3, 1) := by decide +kernel
theorem dX11_deal_4 : decode cX11_deal 4 = .ok (.invokevirtual 146, 3) := by decide +kernel
theorem dX11_deal_7 : decode cX11_deal 7 = .ok (.istore 4, 2) := by decide +kernel
theorem dX11_deal_9 : decode cX11_deal 9 = .ok (.iload 4, 2) := by decide +kernel
theorem dX11_deal_11 : decode cX11_deal 11 = .ok (.ifCond .eq 19, 3) := by decide +kernel
theorem dX11_deal_14 : decode cX11_deal 14 = .ok (.iload 4, 2) := by decide +kernel
theorem dX11_deal_16 : decode cX11_deal 16 = .ok (.ifCond .ge 8, 3) := by decide +kernel
theorem dX11_deal_19 : decode cX11_deal 19 = .ok (.iload 4, 2) := by decide +kernel
theorem dX11_deal_21 : decode cX11_deal 21 = .ok (.goto 8, 3) := by decide +kernel
theorem dX11_deal_24 : decode cX11_deal 24 = .ok (.bipush (-20), 2) := by decide +kernel
theorem dX11_deal_26 : decode cX11_deal 26 = .ok (.iload 4, 2) := by decide +kernel
theorem dX11_deal_28 : decode cX11_deal 28 = .ok (.isub, 1) := by decide +kernel
theorem dX11_deal_29 : decode cX11_deal 29 = .ok (.ireturn, 1) := by decide +kernel
theorem dX11_deal_30 : decode cX11_deal 30 = .ok (.aload_n 0, 1) := by decide +kernel
theorem dX11_deal_31 : decode cX11_deal 31 = .ok (.iload_n 2, 1) := by decide +kernel
theorem dX11_deal_32 : decode cX11_deal 32 = .ok (.iload_n 3, 1) := by decide +kernel
theorem dX11_deal_33 : decode cX11_deal 33 = .ok (.i2l, 1) := by decide +kernel
theorem dX11_deal_34 : decode cX11_deal 34 = .ok (.invokevirtual 129, 3) := by decide +kernel
theorem dX11_deal_37 : decode cX11_deal 37 = .ok (.lstore 5, 2) := by decide +kernel
theorem dX11_deal_39 : decode cX11_deal 39 = .ok (.aload_n 0, 1) := by decide +kernel
theorem dX11_deal_40 : decode cX11_deal 40 = .ok (.getfield 27, 3) := by decide +kernel
theorem dX11_deal_43 : decode cX11_deal 43 = .ok (.iload_n 1, 1) := by decide +kernel
theorem dX11_deal_44 : decode cX11_deal 44 = .ok (.dup2, 1) := by decide +kernel
theorem dX11_deal_45 : decode cX11_deal 45 = .ok (.laload, 1) := by decide +kernel
theorem dX11_deal_46 : decode cX11_deal 46 = .ok (.lload 5, 2) := by decide +kernel
theorem dX11_deal_48 : decode cX11_deal 48 = .ok (.lsub, 1) := by decide +kernel
theorem dX11_deal_49 : decode cX11_deal 49 = .ok (.lastore, 1) := by decide +kernel
theorem dX11_deal_50 : decode cX11_deal 50 = .ok (.aload_n 0, 1) := by decide +kernel
theorem dX11_deal_51 : decode cX11_deal 51 = .ok (.dup, 1) := by decide +kernel
theorem dX11_deal_52 : decode cX11_deal 52 = .ok (.getfield 86, 3) := by decide +kernel
theorem dX11_deal_55 : decode cX11_deal 55 = .ok (.lload 5, 2) := by decide +kernel
theorem dX11_deal_57 : decode cX11_deal 57 = .ok (.ladd, 1) := by decide +kernel
theorem dX11_deal_58 : decode cX11_deal 58 = .ok (.putfield 86, 3) := by decide +kernel
theorem dX11_deal_61 : decode cX11_deal 61 = .ok (.iconst 0, 1) := by decide +kernel
theorem dX11_deal_62 : decode cX11_deal 62 = .ok (.istore 7, 2) := by decide +kernel
theorem dX11_deal_64 : decode cX11_deal 64 = .ok (.iload 7, 2) := by decide +kernel
theorem dX11_deal_66 : decode cX11_deal 66 = .ok (.aload_n 0, 1) := by decide +kernel
theorem dX11_deal_67 : decode cX11_deal 67 = .ok (.getfield 7, 3) := by decide +kernel
theorem dX11_deal_70 : decode cX11_deal 70 = .ok (.if_icmp .ge 52, 3) := by decide +kernel
theorem dX11_deal_73 : decode cX11_deal 73 = .ok (.aload_n 0, 1) := by decide +kernel
theorem dX11_deal_74 : decode cX11_deal 74 = .ok (.getfield 16, 3) := by decide +kernel
theorem dX11_deal_77 : decode cX11_deal 77 = .ok (.iload 7, 2) := by decide +kernel
theorem dX11_deal_79 : decode cX11_deal 79 = .ok (.dup2, 1) := by decide +kernel
theorem dX11_deal_80 : decode cX11_deal 80 = .ok (.laload, 1) := by decide +kernel
theorem dX11_deal_81 : decode cX11_deal 81 = .ok (.iload_n 3, 1) := by decide +kernel
theorem dX11_deal_82 : decode cX11_deal 82 = .ok (.iload_n 2, 1) := by decide +kernel
theorem dX11_deal_83 : decode cX11_deal 83 = .ok (.iload 7, 2) := by decide +kernel
theorem dX11_deal_85 : decode cX11_deal 85 = .ok (.invokestatic 108, 3) := by decide +kernel
theorem dX11_deal_88 : decode cX11_deal 88 = .ok (.imul, 1) := by decide +kernel
theorem dX11_deal_89 : decode cX11_deal 89 = .ok (.i2l, 1) := by decide +kernel
theorem dX11_deal_90 : decode cX11_deal 90 = .ok (.ladd, 1) := by decide +kernel
theorem dX11_deal_91 : decode cX11_deal 91 = .ok (.lastore, 1) := by decide +kernel
theorem dX11_deal_92 : decode cX11_deal 92 = .ok (.aload_n 0, 1) := by decide +kernel
theorem dX11_deal_93 : decode cX11_deal 93 = .ok (.getfield 33, 3) := by decide +kernel
theorem dX11_deal_96 : decode cX11_deal 96 = .ok (.bipush 8, 2) := by decide +kernel
theorem dX11_deal_98 : decode cX11_deal 98 = .ok (.iload_n 1, 1) := by decide +kernel
theorem dX11_deal_99 : decode cX11_deal 99 = .ok (.imul, 1) := by decide +kernel
theorem dX11_deal_100 : decode cX11_deal 100 = .ok (.iload 7, 2) := by decide +kernel
theorem dX11_deal_102 : decode cX11_deal 102 = .ok (.iadd, 1) := by decide +kernel
theorem dX11_deal_103 : decode cX11_deal 103 = .ok (.dup2, 1) := by decide +kernel
theorem dX11_deal_104 : decode cX11_deal 104 = .ok (.laload, 1) := by decide +kernel
theorem dX11_deal_105 : decode cX11_deal 105 = .ok (.iload_n 3, 1) := by decide +kernel
theorem dX11_deal_106 : decode cX11_deal 106 = .ok (.iload_n 2, 1) := by decide +kernel
theorem dX11_deal_107 : decode cX11_deal 107 = .ok (.iload 7, 2) := by decide +kernel
theorem dX11_deal_109 : decode cX11_deal 109 = .ok (.invokestatic 108, 3) := by decide +kernel
theorem dX11_deal_112 : decode cX11_deal 112 = .ok (.imul, 1) := by decide +kernel
theorem dX11_deal_113 : decode cX11_deal 113 = .ok (.i2l, 1) := by decide +kernel
theorem dX11_deal_114 : decode cX11_deal 114 = .ok (.ladd, 1) := by decide +kernel
theorem dX11_deal_115 : decode cX11_deal 115 = .ok (.lastore, 1) := by decide +kernel
theorem dX11_deal_116 : decode cX11_deal 116 = .ok (.iinc 7 1, 3) := by decide +kernel
theorem dX11_deal_119 : decode cX11_deal 119 = .ok (.goto (-55), 3) := by decide +kernel
theorem dX11_deal_122 : decode cX11_deal 122 = .ok (.aload_n 0, 1) := by decide +kernel
theorem dX11_deal_123 : decode cX11_deal 123 = .ok (.getfield 30, 3) := by decide +kernel
theorem dX11_deal_126 : decode cX11_deal 126 = .ok (.iload_n 1, 1) := by decide +kernel
theorem dX11_deal_127 : decode cX11_deal 127 = .ok (.dup2, 1) := by decide +kernel
theorem dX11_deal_128 : decode cX11_deal 128 = .ok (.iaload, 1) := by decide +kernel
theorem dX11_deal_129 : decode cX11_deal 129 = .ok (.iconst 1, 1) := by decide +kernel
theorem dX11_deal_130 : decode cX11_deal 130 = .ok (.iadd, 1) := by decide +kernel
theorem dX11_deal_131 : decode cX11_deal 131 = .ok (.iastore, 1) := by decide +kernel
theorem dX11_deal_132 : decode cX11_deal 132 = .ok (.aload_n 0, 1) := by decide +kernel
theorem dX11_deal_133 : decode cX11_deal 133 = .ok (.dup, 1) := by decide +kernel
theorem dX11_deal_134 : decode cX11_deal 134 = .ok (.getfield 90, 3) := by decide +kernel
theorem dX11_deal_137 : decode cX11_deal 137 = .ok (.iconst 1, 1) := by decide +kernel
theorem dX11_deal_138 : decode cX11_deal 138 = .ok (.iadd, 1) := by decide +kernel
theorem dX11_deal_139 : decode cX11_deal 139 = .ok (.putfield 90, 3) := by decide +kernel
theorem dX11_deal_142 : decode cX11_deal 142 = .ok (.aload_n 0, 1) := by decide +kernel
theorem dX11_deal_143 : decode cX11_deal 143 = .ok (.getfield 30, 3) := by decide +kernel
theorem dX11_deal_146 : decode cX11_deal 146 = .ok (.iload_n 1, 1) := by decide +kernel
theorem dX11_deal_147 : decode cX11_deal 147 = .ok (.iaload, 1) := by decide +kernel
theorem dX11_deal_148 : decode cX11_deal 148 = .ok (.ireturn, 1) := by decide +kernel
set_option maxRecDepth 20000 in
theorem ggX11_comes_X11_isCase : GoodIn wsX11_comes wsX11_isCase := goodIn_r _ [10, 11, 18, 19, 20, 21, 22, 23, 24, 25, 26, 27, 28, 29, 30, 31, 32, 33, 34, 35, 36, 37, 38, 39, 40, 41, 42, 43, 44] (by decide +kernel) (by decide +kernel)
set_option maxRecDepth 20000 in
theorem gX11_comes_X11_isCase : GoodIn wsX11_comes (wsV RX11 150 RX11 yX11_isCase wsX11_isCase) := goodIn_app (goodIn_of _ (by decide +kernel)) ggX11_comes_X11_isCase
set_option maxRecDepth 20000 in
theorem ggX11_comes_X11_grains : GoodIn wsX11_comes wsX11_grains := goodIn_r _ [15, 16, 17, 11, 18, 19, 20, 21, 22, 23, 24, 25, 26, 27, 28, 29, 30, 31, 32, 33, 34, 35, 36, 37, 38, 39, 40, 41, 42, 43, 44] (by decide +kernel) (by decide +kernel)
set_option maxRecDepth 20000 in
theorem gX11_comes_X11_grains : GoodIn wsX11_comes (wsV RX11 126 RX11 yX11_grains wsX11_grains) := goodIn_app (goodIn_of _ (by decide +kernel)) ggX11_comes_X11_grains
theorem dX11_comes_0 : decode cX11_comes 0 = .ok (.aload_n 0, 1) := by decide +kernel
theorem dX11_comes_1 : decode cX11_comes 1 = .ok (.iload_n 1, 1) := by decide +kernel
theorem dX11_comes_2 : decode cX11_comes 2 = .ok (.invokevirtual 150, 3) := by decide +kernel
theorem dX11_comes_5 : decode cX11_comes 5 = .ok (.ifCond .ne 5, 3) := by decide +kernel
theorem dX11_comes_8 : decode cX11_comes 8 = .ok (.iconst (-1), 1) := by decide +kernel
theorem dX11_comes_9 : decode cX11_comes 9 = .ok (.ireturn, 1) := by decide +kernel
theorem dX11_comes_10 : decode cX11_comes 10 = .ok (.aload_n 0, 1) := by decide +kernel
theorem dX11_comes_11 : decode cX11_comes 11 = .ok (.getfield 20, 3) := by decide +kernel
theorem dX11_comes_14 : decode cX11_comes 14 = .ok (.bipush (-9), 2) := by decide +kernel
theorem dX11_comes_16 : decode cX11_comes 16 = .ok (.if_icmp .eq 6, 3) := by decide +kernel
theorem dX11_comes_19 : decode cX11_comes 19 = .ok (.bipush (-3), 2) := by decide +kernel
theorem dX11_comes_21 : decode cX11_comes 21 = .ok (.ireturn, 1) := by decide +kernel
theorem dX11_comes_22 : decode cX11_comes 22 = .ok (.aload_n 0, 1) := by decide +kernel
theorem dX11_comes_23 : decode cX11_comes 23 = .ok (.iload_n 1, 1) := by decide +kernel
theorem dX11_comes_24 : decode cX11_comes 24 = .ok (.putfield 20, 3) := by decide +kernel
theorem dX11_comes_27 : decode cX11_comes 27 = .ok (.iconst 0, 1) := by decide +kernel
theorem dX11_comes_28 : decode cX11_comes 28 = .ok (.istore_n 2, 1) := by decide +kernel
theorem dX11_comes_29 : decode cX11_comes 29 = .ok (.iload_n 2, 1) := by decide +kernel
theorem dX11_comes_30 : decode cX11_comes 30 = .ok (.aload_n 0, 1) := by decide +kernel
theorem dX11_comes_31 : decode cX11_comes 31 = .ok (.getfield 93, 3) := by decide +kernel
theorem dX11_comes_34 : decode cX11_comes 34 = .ok (.if_icmp .ge 75, 3) := by decide +kernel
theorem dX11_comes_37 : decode cX11_comes 37 = .ok (.aload_n 0, 1) := by decide +kernel
theorem dX11_comes_38 : decode cX11_comes 38 = .ok (.invokevirtual 126, 3) := by decide +kernel
theorem dX11_comes_41 : decode cX11_comes 41 = .ok (.aload_n 0, 1) := by decide +kernel
theorem dX11_comes_42 : decode cX11_comes 42 = .ok (.getfield 33, 3) := by decide +kernel
theorem dX11_comes_45 : decode cX11_comes 45 = .ok (.bipush 8, 2) := by decide +kernel
theorem dX11_comes_47 : decode cX11_comes 47 = .ok (.iload_n 2, 1) := by decide +kernel
theorem dX11_comes_48 : decode cX11_comes 48 = .ok (.imul, 1) := by decide +kernel
theorem dX11_comes_49 : decode cX11_comes 49 = .ok (.iload_n 1, 1) := by decide +kernel
theorem dX11_comes_50 : decode cX11_comes 50 = .ok (.iadd, 1) := by decide +kernel
theorem dX11_comes_51 : decode cX11_comes 51 = .ok (.laload, 1) := by decide +kernel
theorem dX11_comes_52 : decode cX11_comes 52 = .ok (.lmul, 1) := by decide +kernel
theorem dX11_comes_53 : decode cX11_comes 53 = .ok (.lstore_n 3, 1) := by decide +kernel
theorem dX11_comes_54 : decode cX11_comes 54 = .ok (.aload_n 0, 1) := by decide +kernel
theorem dX11_comes_55 : decode cX11_comes 55 = .ok (.getfield 27, 3) := by decide +kernel
theorem dX11_comes_58 : decode cX11_comes 58 = .ok (.iload_n 2, 1) := by decide +kernel
theorem dX11_comes_59 : decode cX11_comes 59 = .ok (.dup2, 1) := by decide +kernel
theorem dX11_comes_60 : decode cX11_comes 60 = .ok (.laload, 1) := by decide +kernel
theorem dX11_comes_61 : decode cX11_comes 61 = .ok (.lload_n 3, 1) := by decide +kernel
theorem dX11_comes_62 : decode cX11_comes 62 = .ok (.ladd, 1) := by decide +kernel
theorem dX11_comes_63 : decode cX11_comes 63 = .ok (.lastore, 1) := by decide +kernel
theorem dX11_comes_64 : decode cX11_comes 64 = .ok (.aload_n 0, 1) := by decide +kernel
theorem dX11_comes_65 : decode cX11_comes 65 = .ok (.dup, 1) := by decide +kernel
theorem dX11_comes_66 : decode cX11_comes 66 = .ok (.getfield 86, 3) := by decide +kernel
theorem dX11_comes_69 : decode cX11_comes 69 = .ok (.lload_n 3, 1) := by decide +kernel
theorem dX11_comes_70 : decode cX11_comes 70 = .ok (.lsub, 1) := by decide +kernel
theorem dX11_comes_71 : decode cX11_comes 71 = .ok (.putfield 86, 3) := by decide +kernel
theorem dX11_comes_74 : decode cX11_comes 74 = .ok (.iconst 0, 1) := by decide +kernel
theorem dX11_comes_75 : decode cX11_comes 75 = .ok (.istore 5, 2) := by decide +kernel
theorem dX11_comes_77 : decode cX11_comes 77 = .ok (.iload 5, 2) := by decide +kernel
theorem dX11_comes_79 : decode cX11_comes 79 = .ok (.bipush 8, 2) := by decide +kernel
theorem dX11_comes_81 : decode cX11_comes 81 = .ok (.if_icmp .ge 22, 3) := by decide +kernel
theorem dX11_comes_84 : decode cX11_comes 84 = .ok (.aload_n 0, 1) := by decide +kernel
theorem dX11_comes_85 : decode cX11_comes 85 = .ok (.getfield 33, 3) := by decide +kernel
theorem dX11_comes_88 : decode cX11_comes 88 = .ok (.bipush 8, 2) := by decide +kernel
theorem dX11_comes_90 : decode cX11_comes 90 = .ok (.iload_n 2, 1) := by decide +kernel
theorem dX11_comes_91 : decode cX11_comes 91 = .ok (.imul, 1) := by decide +kernel
theorem dX11_comes_92 : decode cX11_comes 92 = .ok (.iload 5, 2) := by decide +kernel
theorem dX11_comes_94 : decode cX11_comes 94 = .ok (.iadd, 1) := by decide +kernel
theorem dX11_comes_95 : decode cX11_comes 95 = .ok (.lconst 0, 1) := by decide +kernel
theorem dX11_comes_96 : decode cX11_comes 96 = .ok (.lastore, 1) := by decide +kernel
theorem dX11_comes_97 : decode cX11_comes 97 = .ok (.iinc 5 1, 3) := by decide +kernel
theorem dX11_comes_100 : decode cX11_comes 100 = .ok (.goto (-23), 3) := by decide +kernel
theorem dX11_comes_103 : decode cX11_comes 103 = .ok (.iinc 2 1, 3) := by decide +kernel
theorem dX11_comes_106 : decode cX11_comes 106 = .ok (.goto (-77), 3) := by decide +kernel
theorem dX11_comes_109 : decode cX11_comes 109 = .ok (.iconst 1, 1) := by decide +kernel
theorem dX11_comes_110 : decode cX11_comes 110 = .ok (.ireturn, 1) := by decide +kernel
set_option maxRecDepth 20000 in
theorem ggX11_about_X11_isCase : GoodIn wsX11_about wsX11_isCase := goodIn_r _ [9, 10, 22, 23, 24, 25, 26, 27, 28, 29, 30, 31, 32, 33, 34, 35, 36, 37, 38, 39, 40, 41, 42, 43, 44, 45, 46, 47, 48] (by decide +kernel) (by decide +kernel)
set_option maxRecDepth 20000 in
theorem gX11_about_X11_isCase : GoodIn wsX11_about (wsV RX11 150 RX11 yX11_isCase wsX11_isCase) := goodIn_app (goodIn_of _ (by decide +kernel)) ggX11_about_X11_isCase
set_option maxRecDepth 20000 in
theorem ggX11_about_X11_priceOf : GoodIn wsX11_about wsX11_priceOf := goodIn_r _ [14, 15, 16, 17, 10, 2, 18, 19, 20, 8, 21, 22, 23, 24, 25, 26, 27, 28, 29, 30, 31, 32, 33, 34, 35, 36, 37, 38, 39, 40, 41, 42, 43, 44, 45, 46, 47, 48] (by decide +kernel) (by decide +kernel)
set_option maxRecDepth 20000 in
theorem gX11_about_X11_priceOf : GoodIn wsX11_about (wsV RX11 120 RX11 yX11_priceOf wsX11_priceOf) := goodIn_app (goodIn_of _ (by decide +kernel)) ggX11_about_X11_priceOf
theorem dX11_about_0 : decode cX11_about 0 = .ok (.aload_n 0, 1) := by decide +kernel
theorem dX11_about_1 : decode cX11_about 1 = .ok (.iload_n 1, 1) := by decide +kernel
theorem dX11_about_2 : decode cX11_about 2 = .ok (.invokevirtual 150, 3) := by decide +kernel
theorem dX11_about_5 : decode cX11_about 5 = .ok (.ifCond .ne 7, 3) := by decide +kernel
theorem dX11_about_8 : decode cX11_about 8 = .ok (.ldc2_w 72, 3) := by decide +kernel
theorem dX11_about_11 : decode cX11_about 11 = .ok (.lreturn, 1) := by decide +kernel
theorem dX11_about_12 : decode cX11_about 12 = .ok (.iload_n 2, 1) := by decide +kernel
theorem dX11_about_13 : decode cX11_about 13 = .ok (.tableswitch 87 0 2 #[27, 34, 40], 27) := by decide +kernel
theorem dX11_about_40 : decode cX11_about 40 = .ok (.aload_n 0, 1) := by decide +kernel
theorem dX11_about_41 : decode cX11_about 41 = .ok (.getfield 16, 3) := by decide +kernel
theorem dX11_about_44 : decode cX11_about 44 = .ok (.iload_n 1, 1) := by decide +kernel
theorem dX11_about_45 : decode cX11_about 45 = .ok (.laload, 1) := by decide +kernel
theorem dX11_about_46 : decode cX11_about 46 = .ok (.lreturn, 1) := by decide +kernel
theorem dX11_about_47 : decode cX11_about 47 = .ok (.aload_n 0, 1) := by decide +kernel
theorem dX11_about_48 : decode cX11_about 48 = .ok (.iload_n 1, 1) := by decide +kernel
