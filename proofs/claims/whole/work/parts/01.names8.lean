theorem dX10_oddsOf_59 : decode cX10_oddsOf 59 = .ok (.iload_n 3, 1) := by decide +kernel
theorem dX10_oddsOf_60 : decode cX10_oddsOf 60 = .ok (.invokestatic 212, 3) := by decide +kernel
theorem dX10_oddsOf_63 : decode cX10_oddsOf 63 = .ok (.lstore 8, 2) := by decide +kernel
theorem dX10_oddsOf_65 : decode cX10_oddsOf 65 = .ok (.ldc2_w 168, 3) := by decide +kernel
theorem dX10_oddsOf_68 : decode cX10_oddsOf 68 = .ok (.aload_n 0, 1) := by decide +kernel
theorem dX10_oddsOf_69 : decode cX10_oddsOf 69 = .ok (.getfield 29, 3) := by decide +kernel
theorem dX10_oddsOf_72 : decode cX10_oddsOf 72 = .ok (.iload_n 1, 1) := by decide +kernel
theorem dX10_oddsOf_73 : decode cX10_oddsOf 73 = .ok (.iaload, 1) := by decide +kernel
theorem dX10_oddsOf_74 : decode cX10_oddsOf 74 = .ok (.i2l, 1) := by decide +kernel
theorem dX10_oddsOf_75 : decode cX10_oddsOf 75 = .ok (.lsub, 1) := by decide +kernel
theorem dX10_oddsOf_76 : decode cX10_oddsOf 76 = .ok (.ldc2_w 168, 3) := by decide +kernel
theorem dX10_oddsOf_79 : decode cX10_oddsOf 79 = .ok (.aload_n 0, 1) := by decide +kernel
theorem dX10_oddsOf_80 : decode cX10_oddsOf 80 = .ok (.getfield 32, 3) := by decide +kernel
theorem dX10_oddsOf_83 : decode cX10_oddsOf 83 = .ok (.iload_n 1, 1) := by decide +kernel
theorem dX10_oddsOf_84 : decode cX10_oddsOf 84 = .ok (.iaload, 1) := by decide +kernel
theorem dX10_oddsOf_85 : decode cX10_oddsOf 85 = .ok (.i2l, 1) := by decide +kernel
theorem dX10_oddsOf_86 : decode cX10_oddsOf 86 = .ok (.lsub, 1) := by decide +kernel
theorem dX10_oddsOf_87 : decode cX10_oddsOf 87 = .ok (.lmul, 1) := by decide +kernel
theorem dX10_oddsOf_88 : decode cX10_oddsOf 88 = .ok (.iload 5, 2) := by decide +kernel
theorem dX10_oddsOf_90 : decode cX10_oddsOf 90 = .ok (.invokestatic 212, 3) := by decide +kernel
theorem dX10_oddsOf_93 : decode cX10_oddsOf 93 = .ok (.lstore 10, 2) := by decide +kernel
theorem dX10_oddsOf_95 : decode cX10_oddsOf 95 = .ok (.lload 6, 2) := by decide +kernel
theorem dX10_oddsOf_97 : decode cX10_oddsOf 97 = .ok (.lconst 0, 1) := by decide +kernel
theorem dX10_oddsOf_98 : decode cX10_oddsOf 98 = .ok (.lcmp, 1) := by decide +kernel
theorem dX10_oddsOf_99 : decode cX10_oddsOf 99 = .ok (.ifCond .eq 17, 3) := by decide +kernel
theorem dX10_oddsOf_102 : decode cX10_oddsOf 102 = .ok (.lload 8, 2) := by decide +kernel
theorem dX10_oddsOf_104 : decode cX10_oddsOf 104 = .ok (.lconst 0, 1) := by decide +kernel
theorem dX10_oddsOf_105 : decode cX10_oddsOf 105 = .ok (.lcmp, 1) := by decide +kernel
theorem dX10_oddsOf_106 : decode cX10_oddsOf 106 = .ok (.ifCond .eq 10, 3) := by decide +kernel
theorem dX10_oddsOf_109 : decode cX10_oddsOf 109 = .ok (.lload 10, 2) := by decide +kernel
theorem dX10_oddsOf_111 : decode cX10_oddsOf 111 = .ok (.lconst 0, 1) := by decide +kernel
theorem dX10_oddsOf_112 : decode cX10_oddsOf 112 = .ok (.lcmp, 1) := by decide +kernel
theorem dX10_oddsOf_113 : decode cX10_oddsOf 113 = .ok (.ifCond .ne 7, 3) := by decide +kernel
theorem dX10_oddsOf_116 : decode cX10_oddsOf 116 = .ok (.lconst 0, 1) := by decide +kernel
theorem dX10_oddsOf_117 : decode cX10_oddsOf 117 = .ok (.goto 27, 3) := by decide +kernel
theorem dX10_oddsOf_120 : decode cX10_oddsOf 120 = .ok (.iload 4, 2) := by decide +kernel
theorem dX10_oddsOf_122 : decode cX10_oddsOf 122 = .ok (.iload_n 2, 1) := by decide +kernel
theorem dX10_oddsOf_123 : decode cX10_oddsOf 123 = .ok (.invokestatic 216, 3) := by decide +kernel
theorem dX10_oddsOf_126 : decode cX10_oddsOf 126 = .ok (.iload 4, 2) := by decide +kernel
theorem dX10_oddsOf_128 : decode cX10_oddsOf 128 = .ok (.iload_n 2, 1) := by decide +kernel
theorem dX10_oddsOf_129 : decode cX10_oddsOf 129 = .ok (.isub, 1) := by decide +kernel
theorem dX10_oddsOf_130 : decode cX10_oddsOf 130 = .ok (.iload_n 3, 1) := by decide +kernel
theorem dX10_oddsOf_131 : decode cX10_oddsOf 131 = .ok (.invokestatic 216, 3) := by decide +kernel
theorem dX10_oddsOf_134 : decode cX10_oddsOf 134 = .ok (.lmul, 1) := by decide +kernel
theorem dX10_oddsOf_135 : decode cX10_oddsOf 135 = .ok (.lload 6, 2) := by decide +kernel
theorem dX10_oddsOf_137 : decode cX10_oddsOf 137 = .ok (.lload 8, 2) := by decide +kernel
theorem dX10_oddsOf_139 : decode cX10_oddsOf 139 = .ok (.lmul, 1) := by decide +kernel
theorem dX10_oddsOf_140 : decode cX10_oddsOf 140 = .ok (.lload 10, 2) := by decide +kernel
theorem dX10_oddsOf_142 : decode cX10_oddsOf 142 = .ok (.lmul, 1) := by decide +kernel
theorem dX10_oddsOf_143 : decode cX10_oddsOf 143 = .ok (.lmul, 1) := by decide +kernel
theorem dX10_oddsOf_144 : decode cX10_oddsOf 144 = .ok (.lreturn, 1) := by decide +kernel
set_option maxRecDepth 20000 in
theorem ggX10_whole_X10_power : GoodIn wsX10_whole wsX10_power := goodIn_r _ [6] (by decide +kernel) (by decide +kernel)
set_option maxRecDepth 20000 in
theorem gX10_whole_X10_power : GoodIn wsX10_whole (va_wsS RX10 212 yX10_power wsX10_power) := goodIn_app (goodIn_of _ (by decide +kernel)) ggX10_whole_X10_power
theorem dX10_whole_0 : decode cX10_whole 0 = .ok (.ldc2_w 220, 3) := by decide +kernel
theorem dX10_whole_3 : decode cX10_whole 3 = .ok (.aload_n 0, 1) := by decide +kernel
theorem dX10_whole_4 : decode cX10_whole 4 = .ok (.getfield 26, 3) := by decide +kernel
theorem dX10_whole_7 : decode cX10_whole 7 = .ok (.iload_n 1, 1) := by decide +kernel
theorem dX10_whole_8 : decode cX10_whole 8 = .ok (.iaload, 1) := by decide +kernel
theorem dX10_whole_9 : decode cX10_whole 9 = .ok (.invokestatic 212, 3) := by decide +kernel
theorem dX10_whole_12 : decode cX10_whole 12 = .ok (.lreturn, 1) := by decide +kernel
set_option maxRecDepth 20000 in
theorem ggX10_odds_X10_isParish : GoodIn wsX10_odds wsX10_isParish := goodIn_r _ [8, 9, 10, 11, 7, 12, 34, 35, 36, 37, 38, 39, 40, 41, 42, 43, 44, 45, 46, 47, 48, 49, 50, 51, 52, 53, 54, 55, 56, 57, 58, 59, 60, 61, 62, 63, 64, 65, 66, 67, 68] (by decide +kernel) (by decide +kernel)
set_option maxRecDepth 20000 in
theorem gX10_odds_X10_isParish : GoodIn wsX10_odds (wsV RX10 123 RX10 yX10_isParish wsX10_isParish) := goodIn_app (goodIn_of _ (by decide +kernel)) ggX10_odds_X10_isParish
set_option maxRecDepth 20000 in
theorem ggX10_odds_X10_within : GoodIn wsX10_odds wsX10_within := goodIn_r _ [12] (by decide +kernel) (by decide +kernel)
set_option maxRecDepth 20000 in
theorem gX10_odds_X10_within : GoodIn wsX10_odds (va_wsS RX10 72 yX10_within wsX10_within) := goodIn_app (goodIn_of _ (by decide +kernel)) ggX10_odds_X10_within
set_option maxRecDepth 20000 in
theorem ggX10_odds_X10_oddsOf : GoodIn wsX10_odds wsX10_oddsOf := goodIn_r _ [16, 2, 17, 18, 19, 20, 21, 7, 22, 23, 24, 25, 34, 35, 36, 37, 38, 39, 40, 41, 42, 43, 44, 45, 46, 47, 48, 49, 50, 51, 52, 53, 54, 55, 56, 57, 58, 59, 60, 61, 62, 63, 64, 65, 66, 67, 68] (by decide +kernel) (by decide +kernel)
set_option maxRecDepth 20000 in
theorem gX10_odds_X10_oddsOf : GoodIn wsX10_odds (wsV RX10 226 RX10 yX10_oddsOf wsX10_oddsOf) := goodIn_app (goodIn_of _ (by decide +kernel)) ggX10_odds_X10_oddsOf
set_option maxRecDepth 20000 in
theorem ggX10_odds_X10_whole : GoodIn wsX10_odds wsX10_whole := goodIn_r _ [29, 30, 2, 20, 21, 7, 22, 34, 35, 36, 37, 38, 39, 40, 41, 42, 43, 44, 45, 46, 47, 48, 49, 50, 51, 52, 53, 54, 55, 56, 57, 58, 59, 60, 61, 62, 63, 64, 65, 66, 67, 68] (by decide +kernel) (by decide +kernel)
set_option maxRecDepth 20000 in
theorem gX10_odds_X10_whole : GoodIn wsX10_odds (wsV RX10 230 RX10 yX10_whole wsX10_whole) := goodIn_app (goodIn_of _ (by decide +kernel)) ggX10_odds_X10_whole
set_option maxRecDepth 20000 in
theorem ggX10_odds_X10_lowest : GoodIn wsX10_odds wsX10_lowest := goodIn_r _ [33] (by decide +kernel) (by decide +kernel)
set_option maxRecDepth 20000 in
theorem gX10_odds_X10_lowest : GoodIn wsX10_odds (va_wsS RX10 234 yX10_lowest wsX10_lowest) := goodIn_app (goodIn_of _ (by decide +kernel)) ggX10_odds_X10_lowest
theorem dX10_odds_0 : decode cX10_odds 0 = .ok (.aload_n 0, 1) := by decide +kernel
theorem dX10_odds_1 : decode cX10_odds 1 = .ok (.iload_n 1, 1) := by decide +kernel
theorem dX10_odds_2 : decode cX10_odds 2 = .ok (.invokevirtual 123, 3) := by decide +kernel
theorem dX10_odds_5 : decode cX10_odds 5 = .ok (.ifCond .ne 7, 3) := by decide +kernel
theorem dX10_odds_8 : decode cX10_odds 8 = .ok (.ldc2_w 222, 3) := by decide +kernel
theorem dX10_odds_11 : decode cX10_odds 11 = .ok (.lreturn, 1) := by decide +kernel
theorem dX10_odds_12 : decode cX10_odds 12 = .ok (.iload_n 2, 1) := by decide +kernel
theorem dX10_odds_13 : decode cX10_odds 13 = .ok (.iconst 0, 1) := by decide +kernel
theorem dX10_odds_14 : decode cX10_odds 14 = .ok (.bipush 9, 2) := by decide +kernel
theorem dX10_odds_16 : decode cX10_odds 16 = .ok (.invokestatic 72, 3) := by decide +kernel
theorem dX10_odds_19 : decode cX10_odds 19 = .ok (.ifCond .eq 29, 3) := by decide +kernel
theorem dX10_odds_22 : decode cX10_odds 22 = .ok (.iload_n 3, 1) := by decide +kernel
theorem dX10_odds_23 : decode cX10_odds 23 = .ok (.iconst 0, 1) := by decide +kernel
theorem dX10_odds_24 : decode cX10_odds 24 = .ok (.bipush 9, 2) := by decide +kernel
theorem dX10_odds_26 : decode cX10_odds 26 = .ok (.invokestatic 72, 3) := by decide +kernel
theorem dX10_odds_29 : decode cX10_odds 29 = .ok (.ifCond .eq 19, 3) := by decide +kernel
theorem dX10_odds_32 : decode cX10_odds 32 = .ok (.iload_n 2, 1) := by decide +kernel
theorem dX10_odds_33 : decode cX10_odds 33 = .ok (.iload_n 3, 1) := by decide +kernel
theorem dX10_odds_34 : decode cX10_odds 34 = .ok (.iadd, 1) := by decide +kernel
theorem dX10_odds_35 : decode cX10_odds 35 = .ok (.aload_n 0, 1) := by decide +kernel
theorem dX10_odds_36 : decode cX10_odds 36 = .ok (.getfield 26, 3) := by decide +kernel
theorem dX10_odds_39 : decode cX10_odds 39 = .ok (.iload_n 1, 1) := by decide +kernel
theorem dX10_odds_40 : decode cX10_odds 40 = .ok (.iaload, 1) := by decide +kernel
theorem dX10_odds_41 : decode cX10_odds 41 = .ok (.if_icmp .gt 7, 3) := by decide +kernel
theorem dX10_odds_44 : decode cX10_odds 44 = .ok (.iconst 1, 1) := by decide +kernel
theorem dX10_odds_45 : decode cX10_odds 45 = .ok (.goto 4, 3) := by decide +kernel
theorem dX10_odds_48 : decode cX10_odds 48 = .ok (.iconst 0, 1) := by decide +kernel
theorem dX10_odds_49 : decode cX10_odds 49 = .ok (.istore 5, 2) := by decide +kernel
theorem dX10_odds_51 : decode cX10_odds 51 = .ok (.iload 5, 2) := by decide +kernel
theorem dX10_odds_53 : decode cX10_odds 53 = .ok (.ifCond .eq 13, 3) := by decide +kernel
theorem dX10_odds_56 : decode cX10_odds 56 = .ok (.iload 4, 2) := by decide +kernel
theorem dX10_odds_58 : decode cX10_odds 58 = .ok (.iconst 0, 1) := by decide +kernel
theorem dX10_odds_59 : decode cX10_odds 59 = .ok (.iconst 1, 1) := by decide +kernel
theorem dX10_odds_60 : decode cX10_odds 60 = .ok (.invokestatic 72, 3) := by decide +kernel
theorem dX10_odds_63 : decode cX10_odds 63 = .ok (.ifCond .ne 7, 3) := by decide +kernel
theorem dX10_odds_66 : decode cX10_odds 66 = .ok (.ldc2_w 224, 3) := by decide +kernel
theorem dX10_odds_69 : decode cX10_odds 69 = .ok (.lreturn, 1) := by decide +kernel
theorem dX10_odds_70 : decode cX10_odds 70 = .ok (.aload_n 0, 1) := by decide +kernel
theorem dX10_odds_71 : decode cX10_odds 71 = .ok (.iload_n 1, 1) := by decide +kernel
theorem dX10_odds_72 : decode cX10_odds 72 = .ok (.iload_n 2, 1) := by decide +kernel
theorem dX10_odds_73 : decode cX10_odds 73 = .ok (.iload_n 3, 1) := by decide +kernel
theorem dX10_odds_74 : decode cX10_odds 74 = .ok (.invokevirtual 226, 3) := by decide +kernel
theorem dX10_odds_77 : decode cX10_odds 77 = .ok (.aload_n 0, 1) := by decide +kernel
theorem dX10_odds_78 : decode cX10_odds 78 = .ok (.iload_n 1, 1) := by decide +kernel
theorem dX10_odds_79 : decode cX10_odds 79 = .ok (.invokevirtual 230, 3) := by decide +kernel
theorem dX10_odds_82 : decode cX10_odds 82 = .ok (.iload 4, 2) := by decide +kernel
theorem dX10_odds_84 : decode cX10_odds 84 = .ok (.invokestatic 234, 3) := by decide +kernel
theorem dX10_odds_87 : decode cX10_odds 87 = .ok (.lreturn, 1) := by decide +kernel
set_option maxRecDepth 20000 in
theorem ggX10_netOf_X10_gift : GoodIn wsX10_netOf wsX10_gift := goodIn_r _ [6, 1, 7, 8, 9, 10, 11, 12, 13, 14, 15, 16, 17, 18, 19, 20, 21, 22, 23, 24, 25, 26, 27, 28, 29, 30, 31, 32, 33, 34, 35, 36, 37, 38, 39, 40, 41, 42] (by decide +kernel) (by decide +kernel)
set_option maxRecDepth 20000 in
theorem gX10_netOf_X10_gift : GoodIn wsX10_netOf (wsV RX10 126 RX10 yX10_gift wsX10_gift) := goodIn_app (goodIn_of _ (by decide +kernel)) ggX10_netOf_X10_gift
theorem dX10_netOf_0 : decode cX10_netOf 0 = .ok (.aload_n 0, 1) := by decide +kernel
theorem dX10_netOf_1 : decode cX10_netOf 1 = .ok (.iload_n 1, 1) := by decide +kernel
theorem dX10_netOf_2 : decode cX10_netOf 2 = .ok (.invokevirtual 126, 3) := by decide +kernel
theorem dX10_netOf_5 : decode cX10_netOf 5 = .ok (.iload_n 2, 1) := by decide +kernel
theorem dX10_netOf_6 : decode cX10_netOf 6 = .ok (.imul, 1) := by decide +kernel
theorem dX10_netOf_7 : decode cX10_netOf 7 = .ok (.aload_n 0, 1) := by decide +kernel
theorem dX10_netOf_8 : decode cX10_netOf 8 = .ok (.getfield 20, 3) := by decide +kernel
theorem dX10_netOf_11 : decode cX10_netOf 11 = .ok (.iload_n 1, 1) := by decide +kernel
theorem dX10_netOf_12 : decode cX10_netOf 12 = .ok (.iaload, 1) := by decide +kernel
theorem dX10_netOf_13 : decode cX10_netOf 13 = .ok (.iconst 2, 1) := by decide +kernel
theorem dX10_netOf_14 : decode cX10_netOf 14 = .ok (.if_icmp .eq 13, 3) := by decide +kernel
theorem dX10_netOf_17 : decode cX10_netOf 17 = .ok (.aload_n 0, 1) := by decide +kernel
theorem dX10_netOf_18 : decode cX10_netOf 18 = .ok (.getfield 20, 3) := by decide +kernel
theorem dX10_netOf_21 : decode cX10_netOf 21 = .ok (.iload_n 1, 1) := by decide +kernel
theorem dX10_netOf_22 : decode cX10_netOf 22 = .ok (.iaload, 1) := by decide +kernel
theorem dX10_netOf_23 : decode cX10_netOf 23 = .ok (.iconst 3, 1) := by decide +kernel
theorem dX10_netOf_24 : decode cX10_netOf 24 = .ok (.if_icmp .ne 7, 3) := by decide +kernel
theorem dX10_netOf_27 : decode cX10_netOf 27 = .ok (.iconst 0, 1) := by decide +kernel
theorem dX10_netOf_28 : decode cX10_netOf 28 = .ok (.goto 4, 3) := by decide +kernel
theorem dX10_netOf_31 : decode cX10_netOf 31 = .ok (.iload_n 3, 1) := by decide +kernel
theorem dX10_netOf_32 : decode cX10_netOf 32 = .ok (.isub, 1) := by decide +kernel
theorem dX10_netOf_33 : decode cX10_netOf 33 = .ok (.ireturn, 1) := by decide +kernel
set_option maxRecDepth 20000 in
theorem ggX10_netOdds_X10_netOf : GoodIn wsX10_netOdds wsX10_netOf := goodIn_r _ [6, 7, 8, 9, 10, 5, 11, 12, 26, 27, 28, 29, 30, 31, 32, 33, 34, 35, 36, 37, 38, 39, 40, 41, 42, 43, 44, 45, 46, 47, 48, 49, 50, 51, 52, 53, 54, 55, 56, 57, 58, 59, 60] (by decide +kernel) (by decide +kernel)
set_option maxRecDepth 20000 in
theorem gX10_netOdds_X10_netOf : GoodIn wsX10_netOdds (wsV RX10 238 RX10 yX10_netOf wsX10_netOf) := goodIn_app (goodIn_of _ (by decide +kernel)) ggX10_netOdds_X10_netOf
set_option maxRecDepth 20000 in
theorem ggX10_netOdds_X10_oddsOf : GoodIn wsX10_netOdds wsX10_oddsOf := goodIn_r _ [16, 1, 17, 18, 19, 20, 21, 5, 22, 23, 24, 25, 26, 27, 28, 29, 30, 31, 32, 33, 34, 35, 36, 37, 38, 39, 40, 41, 42, 43, 44, 45, 46, 47, 48, 49, 50, 51, 52, 53, 54, 55, 56, 57, 58, 59, 60] (by decide +kernel) (by decide +kernel)
set_option maxRecDepth 20000 in
theorem gX10_netOdds_X10_oddsOf : GoodIn wsX10_netOdds (wsV RX10 226 RX10 yX10_oddsOf wsX10_oddsOf) := goodIn_app (goodIn_of _ (by decide +kernel)) ggX10_netOdds_X10_oddsOf
theorem dX10_netOdds_0 : decode cX10_netOdds 0 = .ok (.lconst 0, 1) := by decide +kernel
theorem dX10_netOdds_1 : decode cX10_netOdds 1 = .ok (.lstore 4, 2) := by decide +kernel
theorem dX10_netOdds_3 : decode cX10_netOdds 3 = .ok (.iconst 0, 1) := by decide +kernel
theorem dX10_netOdds_4 : decode cX10_netOdds 4 = .ok (.istore 6, 2) := by decide +kernel
theorem dX10_netOdds_6 : decode cX10_netOdds 6 = .ok (.iload 6, 2) := by decide +kernel
theorem dX10_netOdds_8 : decode cX10_netOdds 8 = .ok (.aload_n 0, 1) := by decide +kernel
theorem dX10_netOdds_9 : decode cX10_netOdds 9 = .ok (.getfield 26, 3) := by decide +kernel
theorem dX10_netOdds_12 : decode cX10_netOdds 12 = .ok (.iload_n 1, 1) := by decide +kernel
theorem dX10_netOdds_13 : decode cX10_netOdds 13 = .ok (.iaload, 1) := by decide +kernel
theorem dX10_netOdds_14 : decode cX10_netOdds 14 = .ok (.if_icmp .gt 63, 3) := by decide +kernel
theorem dX10_netOdds_17 : decode cX10_netOdds 17 = .ok (.iload_n 3, 1) := by decide +kernel
theorem dX10_netOdds_18 : decode cX10_netOdds 18 = .ok (.istore 7, 2) := by decide +kernel
theorem dX10_netOdds_20 : decode cX10_netOdds 20 = .ok (.iload 7, 2) := by decide +kernel
theorem dX10_netOdds_22 : decode cX10_netOdds 22 = .ok (.iload 6, 2) := by decide +kernel
theorem dX10_netOdds_24 : decode cX10_netOdds 24 = .ok (.iadd, 1) := by decide +kernel
theorem dX10_netOdds_25 : decode cX10_netOdds 25 = .ok (.aload_n 0, 1) := by decide +kernel
theorem dX10_netOdds_26 : decode cX10_netOdds 26 = .ok (.getfield 26, 3) := by decide +kernel
theorem dX10_netOdds_29 : decode cX10_netOdds 29 = .ok (.iload_n 1, 1) := by decide +kernel
theorem dX10_netOdds_30 : decode cX10_netOdds 30 = .ok (.iaload, 1) := by decide +kernel
theorem dX10_netOdds_31 : decode cX10_netOdds 31 = .ok (.if_icmp .gt 40, 3) := by decide +kernel
theorem dX10_netOdds_34 : decode cX10_netOdds 34 = .ok (.lload 4, 2) := by decide +kernel
theorem dX10_netOdds_36 : decode cX10_netOdds 36 = .ok (.aload_n 0, 1) := by decide +kernel
theorem dX10_netOdds_37 : decode cX10_netOdds 37 = .ok (.iload_n 1, 1) := by decide +kernel
theorem dX10_netOdds_38 : decode cX10_netOdds 38 = .ok (.iload 6, 2) := by decide +kernel
theorem dX10_netOdds_40 : decode cX10_netOdds 40 = .ok (.iload 7, 2) := by decide +kernel
theorem dX10_netOdds_42 : decode cX10_netOdds 42 = .ok (.invokevirtual 238, 3) := by decide +kernel
theorem dX10_netOdds_45 : decode cX10_netOdds 45 = .ok (.iload_n 2, 1) := by decide +kernel
theorem dX10_netOdds_46 : decode cX10_netOdds 46 = .ok (.if_icmp .ne 15, 3) := by decide +kernel
theorem dX10_netOdds_49 : decode cX10_netOdds 49 = .ok (.aload_n 0, 1) := by decide +kernel
theorem dX10_netOdds_50 : decode cX10_netOdds 50 = .ok (.iload_n 1, 1) := by decide +kernel
theorem dX10_netOdds_51 : decode cX10_netOdds 51 = .ok (.iload 6, 2) := by decide +kernel
theorem dX10_netOdds_53 : decode cX10_netOdds 53 = .ok (.iload 7, 2) := by decide +kernel
theorem dX10_netOdds_55 : decode cX10_netOdds 55 = .ok (.invokevirtual 226, 3) := by decide +kernel
theorem dX10_netOdds_58 : decode cX10_netOdds 58 = .ok (.goto 4, 3) := by decide +kernel
theorem dX10_netOdds_61 : decode cX10_netOdds 61 = .ok (.lconst 0, 1) := by decide +kernel
theorem dX10_netOdds_62 : decode cX10_netOdds 62 = .ok (.ladd, 1) := by decide +kernel
theorem dX10_netOdds_63 : decode cX10_netOdds 63 = .ok (.lstore 4, 2) := by decide +kernel
theorem dX10_netOdds_65 : decode cX10_netOdds 65 = .ok (.iinc 7 1, 3) := by decide +kernel
theorem dX10_netOdds_68 : decode cX10_netOdds 68 = .ok (.goto (-48), 3) := by decide +kernel
theorem dX10_netOdds_71 : decode cX10_netOdds 71 = .ok (.iinc 6 1, 3) := by decide +kernel
theorem dX10_netOdds_74 : decode cX10_netOdds 74 = .ok (.goto (-68), 3) := by decide +kernel
theorem dX10_netOdds_77 : decode cX10_netOdds 77 = .ok (.lload 4, 2) := by decide +kernel
theorem dX10_netOdds_79 : decode cX10_netOdds 79 = .ok (.lreturn, 1) := by decide +kernel
set_option maxRecDepth 20000 in
theorem ggX10_isNet_X10_within : GoodIn wsX10_isNet wsX10_within := goodIn_r _ [4] (by decide +kernel) (by decide +kernel)
set_option maxRecDepth 20000 in
theorem gX10_isNet_X10_within : GoodIn wsX10_isNet (va_wsS RX10 72 yX10_within wsX10_within) := goodIn_app (goodIn_of _ (by decide +kernel)) ggX10_isNet_X10_within
theorem dX10_isNet_0 : decode cX10_isNet 0 = .ok (.iload_n 0, 1) := by decide +kernel
theorem dX10_isNet_1 : decode cX10_isNet 1 = .ok (.bipush (-9), 2) := by decide +kernel
theorem dX10_isNet_3 : decode cX10_isNet 3 = .ok (.bipush 36, 2) := by decide +kernel
theorem dX10_isNet_5 : decode cX10_isNet 5 = .ok (.invokestatic 72, 3) := by decide +kernel
theorem dX10_isNet_8 : decode cX10_isNet 8 = .ok (.ifCond .eq 16, 3) := by decide +kernel
theorem dX10_isNet_11 : decode cX10_isNet 11 = .ok (.iload_n 1, 1) := by decide +kernel
theorem dX10_isNet_12 : decode cX10_isNet 12 = .ok (.iconst 0, 1) := by decide +kernel
theorem dX10_isNet_13 : decode cX10_isNet 13 = .ok (.iconst 1, 1) := by decide +kernel
theorem dX10_isNet_14 : decode cX10_isNet 14 = .ok (.invokestatic 72, 3) := by decide +kernel
theorem dX10_isNet_17 : decode cX10_isNet 17 = .ok (.ifCond .eq 7, 3) := by decide +kernel
theorem dX10_isNet_20 : decode cX10_isNet 20 = .ok (.iconst 1, 1) := by decide +kernel
theorem dX10_isNet_21 : decode cX10_isNet 21 = .ok (.goto 4, 3) := by decide +kernel
theorem dX10_isNet_24 : decode cX10_isNet 24 = .ok (.iconst 0, 1) := by decide +kernel
theorem dX10_isNet_25 : decode cX10_isNet 25 = .ok (.ireturn, 1) := by decide +kernel
set_option maxRecDepth 20000 in
theorem ggX10_chance_X10_isParish : GoodIn wsX10_chance wsX10_isParish := goodIn_r _ [7, 8, 9, 10, 6, 11, 51, 52, 53, 54, 55, 56, 57, 58, 59, 60, 61, 62, 63, 64, 65, 66, 67, 68, 69, 70, 71, 72, 73, 74, 75, 76, 77, 78, 79, 80, 81, 82, 83, 84, 85] (by decide +kernel) (by decide +kernel)
set_option maxRecDepth 20000 in
theorem gX10_chance_X10_isParish : GoodIn wsX10_chance (wsV RX10 123 RX10 yX10_isParish wsX10_isParish) := goodIn_app (goodIn_of _ (by decide +kernel)) ggX10_chance_X10_isParish
set_option maxRecDepth 20000 in
theorem ggX10_chance_X10_isNet : GoodIn wsX10_chance wsX10_isNet := goodIn_r _ [14, 9, 10, 6, 11] (by decide +kernel) (by decide +kernel)
set_option maxRecDepth 20000 in
theorem gX10_chance_X10_isNet : GoodIn wsX10_chance (va_wsS RX10 241 yX10_isNet wsX10_isNet) := goodIn_app (goodIn_of _ (by decide +kernel)) ggX10_chance_X10_isNet
set_option maxRecDepth 20000 in
theorem ggX10_chance_X10_netOdds : GoodIn wsX10_chance wsX10_netOdds := goodIn_r _ [18, 19, 20, 21, 22, 6, 23, 24, 25, 26, 27, 28, 29, 30, 31, 32, 33, 34, 35, 36, 37, 38, 39, 40, 41, 42, 51, 52, 53, 54, 55, 56, 57, 58, 59, 60, 61, 62, 63, 64, 65, 66, 67, 68, 69, 70, 71, 72, 73, 74, 75, 76, 77, 78, 79, 80, 81, 82, 83, 84, 85] (by decide +kernel) (by decide +kernel)
set_option maxRecDepth 20000 in
theorem gX10_chance_X10_netOdds : GoodIn wsX10_chance (wsV RX10 244 RX10 yX10_netOdds wsX10_netOdds) := goodIn_app (goodIn_of _ (by decide +kernel)) ggX10_chance_X10_netOdds
set_option maxRecDepth 20000 in
theorem ggX10_chance_X10_whole : GoodIn wsX10_chance wsX10_whole := goodIn_r _ [46, 47, 19, 37, 38, 6, 39, 51, 52, 53, 54, 55, 56, 57, 58, 59, 60, 61, 62, 63, 64, 65, 66, 67, 68, 69, 70, 71, 72, 73, 74, 75, 76, 77, 78, 79, 80, 81, 82, 83, 84, 85] (by decide +kernel) (by decide +kernel)
set_option maxRecDepth 20000 in
theorem gX10_chance_X10_whole : GoodIn wsX10_chance (wsV RX10 230 RX10 yX10_whole wsX10_whole) := goodIn_app (goodIn_of _ (by decide +kernel)) ggX10_chance_X10_whole
set_option maxRecDepth 20000 in
theorem ggX10_chance_X10_lowest : GoodIn wsX10_chance wsX10_lowest := goodIn_r _ [50] (by decide +kernel) (by decide +kernel)
set_option maxRecDepth 20000 in
theorem gX10_chance_X10_lowest : GoodIn wsX10_chance (va_wsS RX10 234 yX10_lowest wsX10_lowest) := goodIn_app (goodIn_of _ (by decide +kernel)) ggX10_chance_X10_lowest
theorem dX10_chance_0 : decode cX10_chance 0 = .ok (.aload_n 0, 1) := by decide +kernel
theorem dX10_chance_1 : decode cX10_chance 1 = .ok (.iload_n 1, 1) := by decide +kernel
theorem dX10_chance_2 : decode cX10_chance 2 = .ok (.invokevirtual 123, 3) := by decide +kernel
theorem dX10_chance_5 : decode cX10_chance 5 = .ok (.ifCond .ne 7, 3) := by decide +kernel
theorem dX10_chance_8 : decode cX10_chance 8 = .ok (.ldc2_w 222, 3) := by decide +kernel
theorem dX10_chance_11 : decode cX10_chance 11 = .ok (.lreturn, 1) := by decide +kernel
theorem dX10_chance_12 : decode cX10_chance 12 = .ok (.iload_n 2, 1) := by decide +kernel
theorem dX10_chance_13 : decode cX10_chance 13 = .ok (.iload_n 3, 1) := by decide +kernel
theorem dX10_chance_14 : decode cX10_chance 14 = .ok (.invokestatic 241, 3) := by decide +kernel
theorem dX10_chance_17 : decode cX10_chance 17 = .ok (.ifCond .eq 22, 3) := by decide +kernel
theorem dX10_chance_20 : decode cX10_chance 20 = .ok (.aload_n 0, 1) := by decide +kernel
theorem dX10_chance_21 : decode cX10_chance 21 = .ok (.iload_n 1, 1) := by decide +kernel
theorem dX10_chance_22 : decode cX10_chance 22 = .ok (.iload_n 2, 1) := by decide +kernel
theorem dX10_chance_23 : decode cX10_chance 23 = .ok (.iconst 0, 1) := by decide +kernel
theorem dX10_chance_24 : decode cX10_chance 24 = .ok (.invokevirtual 244, 3) := by decide +kernel
theorem dX10_chance_27 : decode cX10_chance 27 = .ok (.aload_n 0, 1) := by decide +kernel
theorem dX10_chance_28 : decode cX10_chance 28 = .ok (.iload_n 1, 1) := by decide +kernel
theorem dX10_chance_29 : decode cX10_chance 29 = .ok (.invokevirtual 230, 3) := by decide +kernel
theorem dX10_chance_32 : decode cX10_chance 32 = .ok (.iload_n 3, 1) := by decide +kernel
theorem dX10_chance_33 : decode cX10_chance 33 = .ok (.invokestatic 234, 3) := by decide +kernel
theorem dX10_chance_36 : decode cX10_chance 36 = .ok (.goto 6, 3) := by decide +kernel
theorem dX10_chance_39 : decode cX10_chance 39 = .ok (.ldc2_w 224, 3) := by decide +kernel
theorem dX10_chance_42 : decode cX10_chance 42 = .ok (.lreturn, 1) := by decide +kernel
set_option maxRecDepth 20000 in
theorem ggX10_sinned_X10_isParish : GoodIn wsX10_sinned wsX10_isParish := goodIn_r _ [8, 9, 10, 11, 7, 12, 47, 48, 49, 50, 51, 52, 53, 54, 55, 56, 57, 58, 59, 60, 61, 62, 63, 64, 65, 66, 67, 68, 69, 70, 71, 72, 73, 74, 75, 76, 77, 78, 79, 80, 81] (by decide +kernel) (by decide +kernel)
set_option maxRecDepth 20000 in
theorem gX10_sinned_X10_isParish : GoodIn wsX10_sinned (wsV RX10 123 RX10 yX10_isParish wsX10_isParish) := goodIn_app (goodIn_of _ (by decide +kernel)) ggX10_sinned_X10_isParish
set_option maxRecDepth 20000 in
theorem ggX10_sinned_X10_isNet : GoodIn wsX10_sinned wsX10_isNet := goodIn_r _ [15, 10, 11, 7, 12] (by decide +kernel) (by decide +kernel)
set_option maxRecDepth 20000 in
theorem gX10_sinned_X10_isNet : GoodIn wsX10_sinned (va_wsS RX10 241 yX10_isNet wsX10_isNet) := goodIn_app (goodIn_of _ (by decide +kernel)) ggX10_sinned_X10_isNet
set_option maxRecDepth 20000 in
theorem ggX10_sinned_X10_netOdds : GoodIn wsX10_sinned wsX10_netOdds := goodIn_r _ [19, 20, 21, 22, 23, 7, 24, 25, 26, 27, 28, 29, 30, 31, 32, 33, 34, 35, 36, 37, 38, 39, 40, 41, 42, 43, 47, 48, 49, 50, 51, 52, 53, 54, 55, 56, 57, 58, 59, 60, 61, 62, 63, 64, 65, 66, 67, 68, 69, 70, 71, 72, 73, 74, 75, 76, 77, 78, 79, 80, 81] (by decide +kernel) (by decide +kernel)
set_option maxRecDepth 20000 in
theorem gX10_sinned_X10_netOdds : GoodIn wsX10_sinned (wsV RX10 244 RX10 yX10_netOdds wsX10_netOdds) := goodIn_app (goodIn_of _ (by decide +kernel)) ggX10_sinned_X10_netOdds
set_option maxRecDepth 20000 in
theorem ggX10_sinned_X10_lowest : GoodIn wsX10_sinned wsX10_lowest := goodIn_r _ [46] (by decide +kernel) (by decide +kernel)
set_option maxRecDepth 20000 in
theorem gX10_sinned_X10_lowest : GoodIn wsX10_sinned (va_wsS RX10 234 yX10_lowest wsX10_lowest) := goodIn_app (goodIn_of _ (by decide +kernel)) ggX10_sinned_X10_lowest
theorem dX10_sinned_0 : decode cX10_sinned 0 = .ok (.aload_n 0, 1) := by decide +kernel
theorem dX10_sinned_1 : decode cX10_sinned 1 = .ok (.iload_n 1, 1) := by decide +kernel
theorem dX10_sinned_2 : decode cX10_sinned 2 = .ok (.invokevirtual 123, 3) := by decide +kernel
theorem dX10_sinned_5 : decode cX10_sinned 5 = .ok (.ifCond .ne 7, 3) := by decide +kernel
theorem dX10_sinned_8 : decode cX10_sinned 8 = .ok (.ldc2_w 222, 3) := by decide +kernel
theorem dX10_sinned_11 : decode cX10_sinned 11 = .ok (.lreturn, 1) := by decide +kernel
theorem dX10_sinned_12 : decode cX10_sinned 12 = .ok (.iload_n 2, 1) := by decide +kernel
theorem dX10_sinned_13 : decode cX10_sinned 13 = .ok (.iload_n 3, 1) := by decide +kernel
theorem dX10_sinned_14 : decode cX10_sinned 14 = .ok (.invokestatic 241, 3) := by decide +kernel
theorem dX10_sinned_17 : decode cX10_sinned 17 = .ok (.ifCond .ne 7, 3) := by decide +kernel
theorem dX10_sinned_20 : decode cX10_sinned 20 = .ok (.ldc2_w 224, 3) := by decide +kernel
theorem dX10_sinned_23 : decode cX10_sinned 23 = .ok (.lreturn, 1) := by decide +kernel
theorem dX10_sinned_24 : decode cX10_sinned 24 = .ok (.aload_n 0, 1) := by decide +kernel
theorem dX10_sinned_25 : decode cX10_sinned 25 = .ok (.iload_n 1, 1) := by decide +kernel
theorem dX10_sinned_26 : decode cX10_sinned 26 = .ok (.iload_n 2, 1) := by decide +kernel
theorem dX10_sinned_27 : decode cX10_sinned 27 = .ok (.iconst 0, 1) := by decide +kernel
theorem dX10_sinned_28 : decode cX10_sinned 28 = .ok (.invokevirtual 244, 3) := by decide +kernel
theorem dX10_sinned_31 : decode cX10_sinned 31 = .ok (.lstore 4, 2) := by decide +kernel
theorem dX10_sinned_33 : decode cX10_sinned 33 = .ok (.lload 4, 2) := by decide +kernel
theorem dX10_sinned_35 : decode cX10_sinned 35 = .ok (.lconst 0, 1) := by decide +kernel
theorem dX10_sinned_36 : decode cX10_sinned 36 = .ok (.lcmp, 1) := by decide +kernel
theorem dX10_sinned_37 : decode cX10_sinned 37 = .ok (.ifCond .ne 9, 3) := by decide +kernel
theorem dX10_sinned_40 : decode cX10_sinned 40 = .ok (.ldc2_w 247, 3) := by decide +kernel
theorem dX10_sinned_43 : decode cX10_sinned 43 = .ok (.goto 16, 3) := by decide +kernel
theorem dX10_sinned_46 : decode cX10_sinned 46 = .ok (.aload_n 0, 1) := by decide +kernel
theorem dX10_sinned_47 : decode cX10_sinned 47 = .ok (.iload_n 1, 1) := by decide +kernel
theorem dX10_sinned_48 : decode cX10_sinned 48 = .ok (.iload_n 2, 1) := by decide +kernel
theorem dX10_sinned_49 : decode cX10_sinned 49 = .ok (.iconst 1, 1) := by decide +kernel
theorem dX10_sinned_50 : decode cX10_sinned 50 = .ok (.invokevirtual 244, 3) := by decide +kernel
theorem dX10_sinned_53 : decode cX10_sinned 53 = .ok (.lload 4, 2) := by decide +kernel
theorem dX10_sinned_55 : decode cX10_sinned 55 = .ok (.iload_n 3, 1) := by decide +kernel
theorem dX10_sinned_56 : decode cX10_sinned 56 = .ok (.invokestatic 234, 3) := by decide +kernel
theorem dX10_sinned_59 : decode cX10_sinned 59 = .ok (.lreturn, 1) := by decide +kernel
theorem dX10_canBe_0 : decode cX10_canBe 0 = .ok (.aload_n 0, 1) := by decide +kernel
theorem dX10_canBe_1 : decode cX10_canBe 1 = .ok (.getfield 26, 3) := by decide +kernel
theorem dX10_canBe_4 : decode cX10_canBe 4 = .ok (.iload_n 1, 1) := by decide +kernel
theorem dX10_canBe_5 : decode cX10_canBe 5 = .ok (.iaload, 1) := by decide +kernel
theorem dX10_canBe_6 : decode cX10_canBe 6 = .ok (.iload_n 2, 1) := by decide +kernel
theorem dX10_canBe_7 : decode cX10_canBe 7 = .ok (.isub, 1) := by decide +kernel
theorem dX10_canBe_8 : decode cX10_canBe 8 = .ok (.iload_n 3, 1) := by decide +kernel
theorem dX10_canBe_9 : decode cX10_canBe 9 = .ok (.isub, 1) := by decide +kernel
theorem dX10_canBe_10 : decode cX10_canBe 10 = .ok (.istore 4, 2) := by decide +kernel
theorem dX10_canBe_12 : decode cX10_canBe 12 = .ok (.iload_n 2, 1) := by decide +kernel
theorem dX10_canBe_13 : decode cX10_canBe 13 = .ok (.ifCond .eq 12, 3) := by decide +kernel
theorem dX10_canBe_16 : decode cX10_canBe 16 = .ok (.aload_n 0, 1) := by decide +kernel
theorem dX10_canBe_17 : decode cX10_canBe 17 = .ok (.getfield 29, 3) := by decide +kernel
theorem dX10_canBe_20 : decode cX10_canBe 20 = .ok (.iload_n 1, 1) := by decide +kernel
theorem dX10_canBe_21 : decode cX10_canBe 21 = .ok (.iaload, 1) := by decide +kernel
theorem dX10_canBe_22 : decode cX10_canBe 22 = .ok (.ifCond .le 7, 3) := by decide +kernel
theorem dX10_canBe_25 : decode cX10_canBe 25 = .ok (.iconst 1, 1) := by decide +kernel
theorem dX10_canBe_26 : decode cX10_canBe 26 = .ok (.goto 4, 3) := by decide +kernel
theorem dX10_canBe_29 : decode cX10_canBe 29 = .ok (.iconst 0, 1) := by decide +kernel
theorem dX10_canBe_30 : decode cX10_canBe 30 = .ok (.istore 5, 2) := by decide +kernel
theorem dX10_canBe_32 : decode cX10_canBe 32 = .ok (.iload_n 3, 1) := by decide +kernel
theorem dX10_canBe_33 : decode cX10_canBe 33 = .ok (.ifCond .eq 23, 3) := by decide +kernel
theorem dX10_canBe_36 : decode cX10_canBe 36 = .ok (.aload_n 0, 1) := by decide +kernel
theorem dX10_canBe_37 : decode cX10_canBe 37 = .ok (.getfield 29, 3) := by decide +kernel
theorem dX10_canBe_40 : decode cX10_canBe 40 = .ok (.iload_n 1, 1) := by decide +kernel
theorem dX10_canBe_41 : decode cX10_canBe 41 = .ok (.iaload, 1) := by decide +kernel
theorem dX10_canBe_42 : decode cX10_canBe 42 = .ok (.bipush 10, 2) := by decide +kernel
theorem dX10_canBe_44 : decode cX10_canBe 44 = .ok (.if_icmp .ge 16, 3) := by decide +kernel
theorem dX10_canBe_47 : decode cX10_canBe 47 = .ok (.aload_n 0, 1) := by decide +kernel
theorem dX10_canBe_48 : decode cX10_canBe 48 = .ok (.getfield 32, 3) := by decide +kernel
theorem dX10_canBe_51 : decode cX10_canBe 51 = .ok (.iload_n 1, 1) := by decide +kernel
theorem dX10_canBe_52 : decode cX10_canBe 52 = .ok (.iaload, 1) := by decide +kernel
theorem dX10_canBe_53 : decode cX10_canBe 53 = .ok (.ifCond .le 7, 3) := by decide +kernel
theorem dX10_canBe_56 : decode cX10_canBe 56 = .ok (.iconst 1, 1) := by decide +kernel
theorem dX10_canBe_57 : decode cX10_canBe 57 = .ok (.goto 4, 3) := by decide +kernel
theorem dX10_canBe_60 : decode cX10_canBe 60 = .ok (.iconst 0, 1) := by decide +kernel
theorem dX10_canBe_61 : decode cX10_canBe 61 = .ok (.istore 6, 2) := by decide +kernel
theorem dX10_canBe_63 : decode cX10_canBe 63 = .ok (.iload 4, 2) := by decide +kernel
theorem dX10_canBe_65 : decode cX10_canBe 65 = .ok (.ifCond .lt 44, 3) := by decide +kernel
theorem dX10_canBe_68 : decode cX10_canBe 68 = .ok (.iload 5, 2) := by decide +kernel
theorem dX10_canBe_70 : decode cX10_canBe 70 = .ok (.ifCond .eq 39, 3) := by decide +kernel
theorem dX10_canBe_73 : decode cX10_canBe 73 = .ok (.iload 6, 2) := by decide +kernel
theorem dX10_canBe_75 : decode cX10_canBe 75 = .ok (.ifCond .eq 34, 3) := by decide +kernel
theorem dX10_canBe_78 : decode cX10_canBe 78 = .ok (.iload 4, 2) := by decide +kernel
theorem dX10_canBe_80 : decode cX10_canBe 80 = .ok (.ifCond .eq 25, 3) := by decide +kernel
theorem dX10_canBe_83 : decode cX10_canBe 83 = .ok (.aload_n 0, 1) := by decide +kernel
theorem dX10_canBe_84 : decode cX10_canBe 84 = .ok (.getfield 29, 3) := by decide +kernel
theorem dX10_canBe_87 : decode cX10_canBe 87 = .ok (.iload_n 1, 1) := by decide +kernel
theorem dX10_canBe_88 : decode cX10_canBe 88 = .ok (.iaload, 1) := by decide +kernel
theorem dX10_canBe_89 : decode cX10_canBe 89 = .ok (.bipush 10, 2) := by decide +kernel
theorem dX10_canBe_91 : decode cX10_canBe 91 = .ok (.if_icmp .ge 18, 3) := by decide +kernel
theorem dX10_canBe_94 : decode cX10_canBe 94 = .ok (.aload_n 0, 1) := by decide +kernel
theorem dX10_canBe_95 : decode cX10_canBe 95 = .ok (.getfield 32, 3) := by decide +kernel
theorem dX10_canBe_98 : decode cX10_canBe 98 = .ok (.iload_n 1, 1) := by decide +kernel
theorem dX10_canBe_99 : decode cX10_canBe 99 = .ok (.iaload, 1) := by decide +kernel
theorem dX10_canBe_100 : decode cX10_canBe 100 = .ok (.bipush 10, 2) := by decide +kernel
theorem dX10_canBe_102 : decode cX10_canBe 102 = .ok (.if_icmp .ge 7, 3) := by decide +kernel
theorem dX10_canBe_105 : decode cX10_canBe 105 = .ok (.iconst 1, 1) := by decide +kernel
theorem dX10_canBe_106 : decode cX10_canBe 106 = .ok (.goto 4, 3) := by decide +kernel
theorem dX10_canBe_109 : decode cX10_canBe 109 = .ok (.iconst 0, 1) := by decide +kernel
theorem dX10_canBe_110 : decode cX10_canBe 110 = .ok (.ireturn, 1) := by decide +kernel
set_option maxRecDepth 20000 in
theorem ggX10_addWay_X10_within : GoodIn wsX10_addWay wsX10_within := goodIn_r _ [9] (by decide +kernel) (by decide +kernel)
set_option maxRecDepth 20000 in
theorem gX10_addWay_X10_within : GoodIn wsX10_addWay (va_wsS RX10 72 yX10_within wsX10_within) := goodIn_app (goodIn_of _ (by decide +kernel)) ggX10_addWay_X10_within
theorem dX10_addWay_0 : decode cX10_addWay 0 = .ok (.iconst 0, 1) := by decide +kernel
theorem dX10_addWay_1 : decode cX10_addWay 1 = .ok (.istore_n 3, 1) := by decide +kernel
theorem dX10_addWay_2 : decode cX10_addWay 2 = .ok (.iload_n 3, 1) := by decide +kernel
theorem dX10_addWay_3 : decode cX10_addWay 3 = .ok (.sipush 271, 3) := by decide +kernel
theorem dX10_addWay_6 : decode cX10_addWay 6 = .ok (.if_icmp .ge 119, 3) := by decide +kernel
theorem dX10_addWay_9 : decode cX10_addWay 9 = .ok (.iload_n 3, 1) := by decide +kernel
theorem dX10_addWay_10 : decode cX10_addWay 10 = .ok (.iload_n 1, 1) := by decide +kernel
theorem dX10_addWay_11 : decode cX10_addWay 11 = .ok (.iadd, 1) := by decide +kernel
theorem dX10_addWay_12 : decode cX10_addWay 12 = .ok (.istore 4, 2) := by decide +kernel
theorem dX10_addWay_14 : decode cX10_addWay 14 = .ok (.aload_n 0, 1) := by decide +kernel
theorem dX10_addWay_15 : decode cX10_addWay 15 = .ok (.getfield 54, 3) := by decide +kernel
theorem dX10_addWay_18 : decode cX10_addWay 18 = .ok (.iload_n 3, 1) := by decide +kernel
theorem dX10_addWay_19 : decode cX10_addWay 19 = .ok (.iaload, 1) := by decide +kernel
theorem dX10_addWay_20 : decode cX10_addWay 20 = .ok (.ldc 249, 2) := by decide +kernel
theorem dX10_addWay_22 : decode cX10_addWay 22 = .ok (.if_icmp .ge 97, 3) := by decide +kernel
theorem dX10_addWay_25 : decode cX10_addWay 25 = .ok (.iload 4, 2) := by decide +kernel
theorem dX10_addWay_27 : decode cX10_addWay 27 = .ok (.iconst 0, 1) := by decide +kernel
theorem dX10_addWay_28 : decode cX10_addWay 28 = .ok (.sipush 270, 3) := by decide +kernel
theorem dX10_addWay_31 : decode cX10_addWay 31 = .ok (.invokestatic 72, 3) := by decide +kernel
theorem dX10_addWay_34 : decode cX10_addWay 34 = .ok (.ifCond .eq 85, 3) := by decide +kernel
theorem dX10_addWay_37 : decode cX10_addWay 37 = .ok (.aload_n 0, 1) := by decide +kernel
theorem dX10_addWay_38 : decode cX10_addWay 38 = .ok (.getfield 54, 3) := by decide +kernel
theorem dX10_addWay_41 : decode cX10_addWay 41 = .ok (.iload_n 3, 1) := by decide +kernel
theorem dX10_addWay_42 : decode cX10_addWay 42 = .ok (.iaload, 1) := by decide +kernel
theorem dX10_addWay_43 : decode cX10_addWay 43 = .ok (.iload_n 2, 1) := by decide +kernel
theorem dX10_addWay_44 : decode cX10_addWay 44 = .ok (.iadd, 1) := by decide +kernel
theorem dX10_addWay_45 : decode cX10_addWay 45 = .ok (.istore 5, 2) := by decide +kernel
theorem dX10_addWay_47 : decode cX10_addWay 47 = .ok (.aload_n 0, 1) := by decide +kernel
theorem dX10_addWay_48 : decode cX10_addWay 48 = .ok (.getfield 57, 3) := by decide +kernel
theorem dX10_addWay_51 : decode cX10_addWay 51 = .ok (.iload_n 3, 1) := by decide +kernel
theorem dX10_addWay_52 : decode cX10_addWay 52 = .ok (.iaload, 1) := by decide +kernel
theorem dX10_addWay_53 : decode cX10_addWay 53 = .ok (.iload_n 2, 1) := by decide +kernel
theorem dX10_addWay_54 : decode cX10_addWay 54 = .ok (.iadd, 1) := by decide +kernel
theorem dX10_addWay_55 : decode cX10_addWay 55 = .ok (.istore 6, 2) := by decide +kernel
theorem dX10_addWay_57 : decode cX10_addWay 57 = .ok (.aload_n 0, 1) := by decide +kernel
theorem dX10_addWay_58 : decode cX10_addWay 58 = .ok (.getfield 60, 3) := by decide +kernel
theorem dX10_addWay_61 : decode cX10_addWay 61 = .ok (.iload 4, 2) := by decide +kernel
theorem dX10_addWay_63 : decode cX10_addWay 63 = .ok (.iload 5, 2) := by decide +kernel
theorem dX10_addWay_65 : decode cX10_addWay 65 = .ok (.aload_n 0, 1) := by decide +kernel
theorem dX10_addWay_66 : decode cX10_addWay 66 = .ok (.getfield 60, 3) := by decide +kernel
theorem dX10_addWay_69 : decode cX10_addWay 69 = .ok (.iload 4, 2) := by decide +kernel
theorem dX10_addWay_71 : decode cX10_addWay 71 = .ok (.iaload, 1) := by decide +kernel
theorem dX10_addWay_72 : decode cX10_addWay 72 = .ok (.if_icmp .ge 8, 3) := by decide +kernel
theorem dX10_addWay_75 : decode cX10_addWay 75 = .ok (.iload 5, 2) := by decide +kernel
theorem dX10_addWay_77 : decode cX10_addWay 77 = .ok (.goto 10, 3) := by decide +kernel
theorem dX10_addWay_80 : decode cX10_addWay 80 = .ok (.aload_n 0, 1) := by decide +kernel
theorem dX10_addWay_81 : decode cX10_addWay 81 = .ok (.getfield 60, 3) := by decide +kernel
theorem dX10_addWay_84 : decode cX10_addWay 84 = .ok (.iload 4, 2) := by decide +kernel
theorem dX10_addWay_86 : decode cX10_addWay 86 = .ok (.iaload, 1) := by decide +kernel
theorem dX10_addWay_87 : decode cX10_addWay 87 = .ok (.iastore, 1) := by decide +kernel
theorem dX10_addWay_88 : decode cX10_addWay 88 = .ok (.aload_n 0, 1) := by decide +kernel
theorem dX10_addWay_89 : decode cX10_addWay 89 = .ok (.getfield 63, 3) := by decide +kernel
theorem dX10_addWay_92 : decode cX10_addWay 92 = .ok (.iload 4, 2) := by decide +kernel
theorem dX10_addWay_94 : decode cX10_addWay 94 = .ok (.iload 6, 2) := by decide +kernel
theorem dX10_addWay_96 : decode cX10_addWay 96 = .ok (.aload_n 0, 1) := by decide +kernel
theorem dX10_addWay_97 : decode cX10_addWay 97 = .ok (.getfield 63, 3) := by decide +kernel
theorem dX10_addWay_100 : decode cX10_addWay 100 = .ok (.iload 4, 2) := by decide +kernel
theorem dX10_addWay_102 : decode cX10_addWay 102 = .ok (.iaload, 1) := by decide +kernel
theorem dX10_addWay_103 : decode cX10_addWay 103 = .ok (.if_icmp .le 8, 3) := by decide +kernel
theorem dX10_addWay_106 : decode cX10_addWay 106 = .ok (.iload 6, 2) := by decide +kernel
theorem dX10_addWay_108 : decode cX10_addWay 108 = .ok (.goto 10, 3) := by decide +kernel
theorem dX10_addWay_111 : decode cX10_addWay 111 = .ok (.aload_n 0, 1) := by decide +kernel
theorem dX10_addWay_112 : decode cX10_addWay 112 = .ok (.getfield 63, 3) := by decide +kernel
theorem dX10_addWay_115 : decode cX10_addWay 115 = .ok (.iload 4, 2) := by decide +kernel
theorem dX10_addWay_117 : decode cX10_addWay 117 = .ok (.iaload, 1) := by decide +kernel
theorem dX10_addWay_118 : decode cX10_addWay 118 = .ok (.iastore, 1) := by decide +kernel
theorem dX10_addWay_119 : decode cX10_addWay 119 = .ok (.iinc 3 1, 3) := by decide +kernel
theorem dX10_addWay_122 : decode cX10_addWay 122 = .ok (.goto (-120), 3) := by decide +kernel
theorem dX10_addWay_125 : decode cX10_addWay 125 = .ok (.return_, 1) := by decide +kernel
set_option maxRecDepth 20000 in
theorem ggX10_layNets_X10_within : GoodIn wsX10_layNets wsX10_within := goodIn_r _ [11] (by decide +kernel) (by decide +kernel)
set_option maxRecDepth 20000 in
theorem gX10_layNets_X10_within : GoodIn wsX10_layNets (va_wsS RX10 72 yX10_within wsX10_within) := goodIn_app (goodIn_of _ (by decide +kernel)) ggX10_layNets_X10_within
set_option maxRecDepth 20000 in
theorem ggX10_layNets_X10_canBe : GoodIn wsX10_layNets wsX10_canBe := goodIn_r _ [15, 7, 16, 17, 32, 33, 34, 35, 36, 37, 38, 39, 40, 41, 42, 43, 44, 45, 46, 47, 48, 49, 50, 51, 52, 53, 54, 55, 56, 57, 58, 59, 60, 61, 62, 63, 64, 65, 66] (by decide +kernel) (by decide +kernel)
set_option maxRecDepth 20000 in
theorem gX10_layNets_X10_canBe : GoodIn wsX10_layNets (wsV RX10 250 RX10 yX10_canBe wsX10_canBe) := goodIn_app (goodIn_of _ (by decide +kernel)) ggX10_layNets_X10_canBe
set_option maxRecDepth 20000 in
theorem ggX10_layNets_X10_netOf : GoodIn wsX10_layNets wsX10_netOf := goodIn_r _ [21, 22, 23, 24, 25, 10, 26, 27, 32, 33, 34, 35, 36, 37, 38, 39, 40, 41, 42, 43, 44, 45, 46, 47, 48, 49, 50, 51, 52, 53, 54, 55, 56, 57, 58, 59, 60, 61, 62, 63, 64, 65, 66] (by decide +kernel) (by decide +kernel)
set_option maxRecDepth 20000 in
theorem gX10_layNets_X10_netOf : GoodIn wsX10_layNets (wsV RX10 238 RX10 yX10_netOf wsX10_netOf) := goodIn_app (goodIn_of _ (by decide +kernel)) ggX10_layNets_X10_netOf
set_option maxRecDepth 20000 in
theorem ggX10_layNets_X10_addWay : GoodIn wsX10_layNets wsX10_addWay := goodIn_r _ [31, 1, 2, 3, 5, 6, 8, 9, 10, 11, 32, 33, 34, 35, 36, 37, 38, 39, 40, 41, 42, 43, 44, 45, 46, 47, 48, 49, 50, 51, 52, 53, 54, 55, 56, 57, 58, 59, 60, 61, 62, 63, 64, 65, 66] (by decide +kernel) (by decide +kernel)
set_option maxRecDepth 20000 in
theorem gX10_layNets_X10_addWay : GoodIn wsX10_layNets (wsV RX10 253 RX10 yX10_addWay wsX10_addWay) := goodIn_app (goodIn_of _ (by decide +kernel)) ggX10_layNets_X10_addWay
theorem dX10_layNets_0 : decode cX10_layNets 0 = .ok (.iconst 0, 1) := by decide +kernel
theorem dX10_layNets_1 : decode cX10_layNets 1 = .ok (.istore 4, 2) := by decide +kernel
theorem dX10_layNets_3 : decode cX10_layNets 3 = .ok (.iload 4, 2) := by decide +kernel
theorem dX10_layNets_5 : decode cX10_layNets 5 = .ok (.sipush 271, 3) := by decide +kernel
theorem dX10_layNets_8 : decode cX10_layNets 8 = .ok (.if_icmp .ge 48, 3) := by decide +kernel
theorem dX10_layNets_11 : decode cX10_layNets 11 = .ok (.aload_n 0, 1) := by decide +kernel
theorem dX10_layNets_12 : decode cX10_layNets 12 = .ok (.getfield 54, 3) := by decide +kernel
theorem dX10_layNets_15 : decode cX10_layNets 15 = .ok (.iload 4, 2) := by decide +kernel
theorem dX10_layNets_17 : decode cX10_layNets 17 = .ok (.iload 4, 2) := by decide +kernel
theorem dX10_layNets_19 : decode cX10_layNets 19 = .ok (.bipush 54, 2) := by decide +kernel
theorem dX10_layNets_21 : decode cX10_layNets 21 = .ok (.if_icmp .ne 7, 3) := by decide +kernel
theorem dX10_layNets_24 : decode cX10_layNets 24 = .ok (.iconst 0, 1) := by decide +kernel
theorem dX10_layNets_25 : decode cX10_layNets 25 = .ok (.goto 5, 3) := by decide +kernel
theorem dX10_layNets_28 : decode cX10_layNets 28 = .ok (.ldc 249, 2) := by decide +kernel
theorem dX10_layNets_30 : decode cX10_layNets 30 = .ok (.iastore, 1) := by decide +kernel
theorem dX10_layNets_31 : decode cX10_layNets 31 = .ok (.aload_n 0, 1) := by decide +kernel
theorem dX10_layNets_32 : decode cX10_layNets 32 = .ok (.getfield 57, 3) := by decide +kernel
theorem dX10_layNets_35 : decode cX10_layNets 35 = .ok (.iload 4, 2) := by decide +kernel
theorem dX10_layNets_37 : decode cX10_layNets 37 = .ok (.iload 4, 2) := by decide +kernel
theorem dX10_layNets_39 : decode cX10_layNets 39 = .ok (.bipush 54, 2) := by decide +kernel
theorem dX10_layNets_41 : decode cX10_layNets 41 = .ok (.if_icmp .ne 7, 3) := by decide +kernel
theorem dX10_layNets_44 : decode cX10_layNets 44 = .ok (.iconst 0, 1) := by decide +kernel
theorem dX10_layNets_45 : decode cX10_layNets 45 = .ok (.goto 4, 3) := by decide +kernel
theorem dX10_layNets_48 : decode cX10_layNets 48 = .ok (.iconst (-1), 1) := by decide +kernel
theorem dX10_layNets_49 : decode cX10_layNets 49 = .ok (.iastore, 1) := by decide +kernel
theorem dX10_layNets_50 : decode cX10_layNets 50 = .ok (.iinc 4 1, 3) := by decide +kernel
theorem dX10_layNets_53 : decode cX10_layNets 53 = .ok (.goto (-50), 3) := by decide +kernel
theorem dX10_layNets_56 : decode cX10_layNets 56 = .ok (.iconst 0, 1) := by decide +kernel
theorem dX10_layNets_57 : decode cX10_layNets 57 = .ok (.istore 4, 2) := by decide +kernel
theorem dX10_layNets_59 : decode cX10_layNets 59 = .ok (.iload 4, 2) := by decide +kernel
theorem dX10_layNets_61 : decode cX10_layNets 61 = .ok (.aload_n 0, 1) := by decide +kernel
theorem dX10_layNets_62 : decode cX10_layNets 62 = .ok (.getfield 113, 3) := by decide +kernel
theorem dX10_layNets_65 : decode cX10_layNets 65 = .ok (.if_icmp .ge 190, 3) := by decide +kernel
theorem dX10_layNets_68 : decode cX10_layNets 68 = .ok (.iconst 0, 1) := by decide +kernel
theorem dX10_layNets_69 : decode cX10_layNets 69 = .ok (.istore 5, 2) := by decide +kernel
theorem dX10_layNets_71 : decode cX10_layNets 71 = .ok (.iload 5, 2) := by decide +kernel
theorem dX10_layNets_73 : decode cX10_layNets 73 = .ok (.sipush 271, 3) := by decide +kernel
theorem dX10_layNets_76 : decode cX10_layNets 76 = .ok (.if_icmp .ge 26, 3) := by decide +kernel
theorem dX10_layNets_79 : decode cX10_layNets 79 = .ok (.aload_n 0, 1) := by decide +kernel
theorem dX10_layNets_80 : decode cX10_layNets 80 = .ok (.getfield 60, 3) := by decide +kernel
theorem dX10_layNets_83 : decode cX10_layNets 83 = .ok (.iload 5, 2) := by decide +kernel
theorem dX10_layNets_85 : decode cX10_layNets 85 = .ok (.ldc 249, 2) := by decide +kernel
theorem dX10_layNets_87 : decode cX10_layNets 87 = .ok (.iastore, 1) := by decide +kernel
theorem dX10_layNets_88 : decode cX10_layNets 88 = .ok (.aload_n 0, 1) := by decide +kernel
theorem dX10_layNets_89 : decode cX10_layNets 89 = .ok (.getfield 63, 3) := by decide +kernel
theorem dX10_layNets_92 : decode cX10_layNets 92 = .ok (.iload 5, 2) := by decide +kernel
theorem dX10_layNets_94 : decode cX10_layNets 94 = .ok (.iconst (-1), 1) := by decide +kernel
theorem dX10_layNets_95 : decode cX10_layNets 95 = .ok (.iastore, 1) := by decide +kernel
theorem dX10_layNets_96 : decode cX10_layNets 96 = .ok (.iinc 5 1, 3) := by decide +kernel
theorem dX10_layNets_99 : decode cX10_layNets 99 = .ok (.goto (-28), 3) := by decide +kernel
theorem dX10_layNets_102 : decode cX10_layNets 102 = .ok (.iconst 0, 1) := by decide +kernel
theorem dX10_layNets_103 : decode cX10_layNets 103 = .ok (.istore 5, 2) := by decide +kernel
theorem dX10_layNets_105 : decode cX10_layNets 105 = .ok (.iload 5, 2) := by decide +kernel
theorem dX10_layNets_107 : decode cX10_layNets 107 = .ok (.aload_n 0, 1) := by decide +kernel
theorem dX10_layNets_108 : decode cX10_layNets 108 = .ok (.getfield 26, 3) := by decide +kernel
theorem dX10_layNets_111 : decode cX10_layNets 111 = .ok (.iload 4, 2) := by decide +kernel
theorem dX10_layNets_113 : decode cX10_layNets 113 = .ok (.iaload, 1) := by decide +kernel
theorem dX10_layNets_114 : decode cX10_layNets 114 = .ok (.if_icmp .gt 90, 3) := by decide +kernel
theorem dX10_layNets_117 : decode cX10_layNets 117 = .ok (.iconst 0, 1) := by decide +kernel
theorem dX10_layNets_118 : decode cX10_layNets 118 = .ok (.istore 6, 2) := by decide +kernel
theorem dX10_layNets_120 : decode cX10_layNets 120 = .ok (.iload 6, 2) := by decide +kernel
theorem dX10_layNets_122 : decode cX10_layNets 122 = .ok (.iload 5, 2) := by decide +kernel
theorem dX10_layNets_124 : decode cX10_layNets 124 = .ok (.iadd, 1) := by decide +kernel
theorem dX10_layNets_125 : decode cX10_layNets 125 = .ok (.aload_n 0, 1) := by decide +kernel
theorem dX10_layNets_126 : decode cX10_layNets 126 = .ok (.getfield 26, 3) := by decide +kernel
theorem dX10_layNets_129 : decode cX10_layNets 129 = .ok (.iload 4, 2) := by decide +kernel
theorem dX10_layNets_131 : decode cX10_layNets 131 = .ok (.iaload, 1) := by decide +kernel
theorem dX10_layNets_132 : decode cX10_layNets 132 = .ok (.if_icmp .gt 66, 3) := by decide +kernel
theorem dX10_layNets_135 : decode cX10_layNets 135 = .ok (.iload 4, 2) := by decide +kernel
theorem dX10_layNets_137 : decode cX10_layNets 137 = .ok (.iload_n 1, 1) := by decide +kernel
theorem dX10_layNets_138 : decode cX10_layNets 138 = .ok (.if_icmp .ne 13, 3) := by decide +kernel
theorem dX10_layNets_141 : decode cX10_layNets 141 = .ok (.iload 6, 2) := by decide +kernel
theorem dX10_layNets_143 : decode cX10_layNets 143 = .ok (.iload_n 2, 1) := by decide +kernel
theorem dX10_layNets_144 : decode cX10_layNets 144 = .ok (.iload_n 3, 1) := by decide +kernel
theorem dX10_layNets_145 : decode cX10_layNets 145 = .ok (.invokestatic 72, 3) := by decide +kernel
theorem dX10_layNets_148 : decode cX10_layNets 148 = .ok (.ifCond .eq 7, 3) := by decide +kernel
theorem dX10_layNets_151 : decode cX10_layNets 151 = .ok (.iconst 1, 1) := by decide +kernel
theorem dX10_layNets_152 : decode cX10_layNets 152 = .ok (.goto 4, 3) := by decide +kernel
theorem dX10_layNets_155 : decode cX10_layNets 155 = .ok (.iconst 0, 1) := by decide +kernel
theorem dX10_layNets_156 : decode cX10_layNets 156 = .ok (.istore 7, 2) := by decide +kernel
theorem dX10_layNets_158 : decode cX10_layNets 158 = .ok (.iload 7, 2) := by decide +kernel
theorem dX10_layNets_160 : decode cX10_layNets 160 = .ok (.ifCond .eq 32, 3) := by decide +kernel
theorem dX10_layNets_163 : decode cX10_layNets 163 = .ok (.aload_n 0, 1) := by decide +kernel
theorem dX10_layNets_164 : decode cX10_layNets 164 = .ok (.iload 4, 2) := by decide +kernel
theorem dX10_layNets_166 : decode cX10_layNets 166 = .ok (.iload 5, 2) := by decide +kernel
theorem dX10_layNets_168 : decode cX10_layNets 168 = .ok (.iload 6, 2) := by decide +kernel
theorem dX10_layNets_170 : decode cX10_layNets 170 = .ok (.invokevirtual 250, 3) := by decide +kernel
theorem dX10_layNets_173 : decode cX10_layNets 173 = .ok (.ifCond .eq 19, 3) := by decide +kernel
theorem dX10_layNets_176 : decode cX10_layNets 176 = .ok (.aload_n 0, 1) := by decide +kernel
theorem dX10_layNets_177 : decode cX10_layNets 177 = .ok (.aload_n 0, 1) := by decide +kernel
theorem dX10_layNets_178 : decode cX10_layNets 178 = .ok (.iload 4, 2) := by decide +kernel
theorem dX10_layNets_180 : decode cX10_layNets 180 = .ok (.iload 5, 2) := by decide +kernel
theorem dX10_layNets_182 : decode cX10_layNets 182 = .ok (.iload 6, 2) := by decide +kernel
theorem dX10_layNets_184 : decode cX10_layNets 184 = .ok (.invokevirtual 238, 3) := by decide +kernel
theorem dX10_layNets_187 : decode cX10_layNets 187 = .ok (.iload 6, 2) := by decide +kernel
theorem dX10_layNets_189 : decode cX10_layNets 189 = .ok (.invokevirtual 253, 3) := by decide +kernel
theorem dX10_layNets_192 : decode cX10_layNets 192 = .ok (.iinc 6 1, 3) := by decide +kernel
theorem dX10_layNets_195 : decode cX10_layNets 195 = .ok (.goto (-75), 3) := by decide +kernel
theorem dX10_layNets_198 : decode cX10_layNets 198 = .ok (.iinc 5 1, 3) := by decide +kernel
theorem dX10_layNets_201 : decode cX10_layNets 201 = .ok (.goto (-96), 3) := by decide +kernel
theorem dX10_layNets_204 : decode cX10_layNets 204 = .ok (.iconst 0, 1) := by decide +kernel
theorem dX10_layNets_205 : decode cX10_layNets 205 = .ok (.istore 5, 2) := by decide +kernel
theorem dX10_layNets_207 : decode cX10_layNets 207 = .ok (.iload 5, 2) := by decide +kernel
theorem dX10_layNets_209 : decode cX10_layNets 209 = .ok (.sipush 271, 3) := by decide +kernel
theorem dX10_layNets_212 : decode cX10_layNets 212 = .ok (.if_icmp .ge 37, 3) := by decide +kernel
theorem dX10_layNets_215 : decode cX10_layNets 215 = .ok (.aload_n 0, 1) := by decide +kernel
theorem dX10_layNets_216 : decode cX10_layNets 216 = .ok (.getfield 54, 3) := by decide +kernel
theorem dX10_layNets_219 : decode cX10_layNets 219 = .ok (.iload 5, 2) := by decide +kernel
theorem dX10_layNets_221 : decode cX10_layNets 221 = .ok (.aload_n 0, 1) := by decide +kernel
theorem dX10_layNets_222 : decode cX10_layNets 222 = .ok (.getfield 60, 3) := by decide +kernel
theorem dX10_layNets_225 : decode cX10_layNets 225 = .ok (.iload 5, 2) := by decide +kernel
theorem dX10_layNets_227 : decode cX10_layNets 227 = .ok (.iaload, 1) := by decide +kernel
theorem dX10_layNets_228 : decode cX10_layNets 228 = .ok (.iastore, 1) := by decide +kernel
theorem dX10_layNets_229 : decode cX10_layNets 229 = .ok (.aload_n 0, 1) := by decide +kernel
theorem dX10_layNets_230 : decode cX10_layNets 230 = .ok (.getfield 57, 3) := by decide +kernel
theorem dX10_layNets_233 : decode cX10_layNets 233 = .ok (.iload 5, 2) := by decide +kernel
theorem dX10_layNets_235 : decode cX10_layNets 235 = .ok (.aload_n 0, 1) := by decide +kernel
theorem dX10_layNets_236 : decode cX10_layNets 236 = .ok (.getfield 63, 3) := by decide +kernel
theorem dX10_layNets_239 : decode cX10_layNets 239 = .ok (.iload 5, 2) := by decide +kernel
theorem dX10_layNets_241 : decode cX10_layNets 241 = .ok (.iaload, 1) := by decide +kernel
theorem dX10_layNets_242 : decode cX10_layNets 242 = .ok (.iastore, 1) := by decide +kernel
theorem dX10_layNets_243 : decode cX10_layNets 243 = .ok (.iinc 5 1, 3) := by decide +kernel
theorem dX10_layNets_246 : decode cX10_layNets 246 = .ok (.goto (-39), 3) := by decide +kernel
theorem dX10_layNets_249 : decode cX10_layNets 249 = .ok (.iinc 4 1, 3) := by decide +kernel
theorem dX10_layNets_252 : decode cX10_layNets 252 = .ok (.goto (-193), 3) := by decide +kernel
theorem dX10_layNets_255 : decode cX10_layNets 255 = .ok (.return_, 1) := by decide +kernel
set_option maxRecDepth 20000 in
theorem ggX10_canNet_X10_layNets : GoodIn wsX10_canNet wsX10_layNets := goodIn_r _ [7, 1, 2, 8, 9, 10, 11, 12, 13, 14, 6, 15, 16, 17, 18, 19, 20, 21, 22, 23, 24, 25, 26, 27, 28, 29, 30, 31, 32, 33, 34, 35, 36, 37, 38, 39, 40, 41, 42, 43, 44, 45, 46, 47, 48, 49, 50, 51, 52, 53, 54, 55, 56, 57, 58, 59, 60, 61, 62, 63, 64, 65, 66, 67, 68, 69, 70] (by decide +kernel) (by decide +kernel)
set_option maxRecDepth 20000 in
theorem gX10_canNet_X10_layNets : GoodIn wsX10_canNet (wsV RX10 256 RX10 yX10_layNets wsX10_layNets) := goodIn_app (goodIn_of _ (by decide +kernel)) ggX10_canNet_X10_layNets
theorem dX10_canNet_0 : decode cX10_canNet 0 = .ok (.aload_n 0, 1) := by decide +kernel
theorem dX10_canNet_1 : decode cX10_canNet 1 = .ok (.iload_n 2, 1) := by decide +kernel
theorem dX10_canNet_2 : decode cX10_canNet 2 = .ok (.iload_n 3, 1) := by decide +kernel
theorem dX10_canNet_3 : decode cX10_canNet 3 = .ok (.iload 4, 2) := by decide +kernel
theorem dX10_canNet_5 : decode cX10_canNet 5 = .ok (.invokevirtual 256, 3) := by decide +kernel
theorem dX10_canNet_8 : decode cX10_canNet 8 = .ok (.aload_n 0, 1) := by decide +kernel
theorem dX10_canNet_9 : decode cX10_canNet 9 = .ok (.getfield 54, 3) := by decide +kernel
theorem dX10_canNet_12 : decode cX10_canNet 12 = .ok (.iload_n 1, 1) := by decide +kernel
theorem dX10_canNet_13 : decode cX10_canNet 13 = .ok (.bipush (-54), 2) := by decide +kernel
theorem dX10_canNet_15 : decode cX10_canNet 15 = .ok (.isub, 1) := by decide +kernel
theorem dX10_canNet_16 : decode cX10_canNet 16 = .ok (.iaload, 1) := by decide +kernel
theorem dX10_canNet_17 : decode cX10_canNet 17 = .ok (.ldc 249, 2) := by decide +kernel
theorem dX10_canNet_19 : decode cX10_canNet 19 = .ok (.if_icmp .ge 7, 3) := by decide +kernel
theorem dX10_canNet_22 : decode cX10_canNet 22 = .ok (.iconst 1, 1) := by decide +kernel
theorem dX10_canNet_23 : decode cX10_canNet 23 = .ok (.goto 4, 3) := by decide +kernel
theorem dX10_canNet_26 : decode cX10_canNet 26 = .ok (.iconst 0, 1) := by decide +kernel
theorem dX10_canNet_27 : decode cX10_canNet 27 = .ok (.ireturn, 1) := by decide +kernel
set_option maxRecDepth 20000 in
theorem ggX10_boundsOf_X10_canNet : GoodIn wsX10_boundsOf wsX10_canNet := goodIn_r _ [8, 1, 9, 10, 11, 12, 7, 13, 2, 3, 14, 15, 16, 17, 18, 19, 20, 21, 22, 23, 24, 25, 26, 27, 28, 29, 30, 31, 32, 33, 34, 35, 36, 37, 38, 39, 40, 41, 42, 43, 44, 45, 46, 47, 48, 49, 50, 51, 52, 53, 54, 55, 56, 57, 58, 59, 60, 61, 62, 63, 64, 65, 66, 67, 68, 69, 70, 71, 72, 73, 74] (by decide +kernel) (by decide +kernel)
set_option maxRecDepth 20000 in
theorem gX10_boundsOf_X10_canNet : GoodIn wsX10_boundsOf (wsV RX10 260 RX10 yX10_canNet wsX10_canNet) := goodIn_app (goodIn_of _ (by decide +kernel)) ggX10_boundsOf_X10_canNet
theorem dX10_boundsOf_0 : decode cX10_boundsOf 0 = .ok (.aload_n 0, 1) := by decide +kernel
theorem dX10_boundsOf_1 : decode cX10_boundsOf 1 = .ok (.iload_n 1, 1) := by decide +kernel
theorem dX10_boundsOf_2 : decode cX10_boundsOf 2 = .ok (.iconst (-1), 1) := by decide +kernel
theorem dX10_boundsOf_3 : decode cX10_boundsOf 3 = .ok (.iconst 0, 1) := by decide +kernel
theorem dX10_boundsOf_4 : decode cX10_boundsOf 4 = .ok (.iconst 0, 1) := by decide +kernel
theorem dX10_boundsOf_5 : decode cX10_boundsOf 5 = .ok (.invokevirtual 260, 3) := by decide +kernel
theorem dX10_boundsOf_8 : decode cX10_boundsOf 8 = .ok (.istore_n 3, 1) := by decide +kernel
theorem dX10_boundsOf_9 : decode cX10_boundsOf 9 = .ok (.iload_n 2, 1) := by decide +kernel
theorem dX10_boundsOf_10 : decode cX10_boundsOf 10 = .ok (.iconst 2, 1) := by decide +kernel
theorem dX10_boundsOf_11 : decode cX10_boundsOf 11 = .ok (.if_icmp .ge 37, 3) := by decide +kernel
theorem dX10_boundsOf_14 : decode cX10_boundsOf 14 = .ok (.iload_n 3, 1) := by decide +kernel
theorem dX10_boundsOf_15 : decode cX10_boundsOf 15 = .ok (.ifCond .ne 7, 3) := by decide +kernel
theorem dX10_boundsOf_18 : decode cX10_boundsOf 18 = .ok (.iconst (-1), 1) := by decide +kernel
theorem dX10_boundsOf_19 : decode cX10_boundsOf 19 = .ok (.goto 28, 3) := by decide +kernel
theorem dX10_boundsOf_22 : decode cX10_boundsOf 22 = .ok (.iload_n 2, 1) := by decide +kernel
theorem dX10_boundsOf_23 : decode cX10_boundsOf 23 = .ok (.ifCond .ne 15, 3) := by decide +kernel
theorem dX10_boundsOf_26 : decode cX10_boundsOf 26 = .ok (.aload_n 0, 1) := by decide +kernel
theorem dX10_boundsOf_27 : decode cX10_boundsOf 27 = .ok (.getfield 54, 3) := by decide +kernel
theorem dX10_boundsOf_30 : decode cX10_boundsOf 30 = .ok (.iload_n 1, 1) := by decide +kernel
theorem dX10_boundsOf_31 : decode cX10_boundsOf 31 = .ok (.bipush (-54), 2) := by decide +kernel
theorem dX10_boundsOf_33 : decode cX10_boundsOf 33 = .ok (.isub, 1) := by decide +kernel
theorem dX10_boundsOf_34 : decode cX10_boundsOf 34 = .ok (.iaload, 1) := by decide +kernel
theorem dX10_boundsOf_35 : decode cX10_boundsOf 35 = .ok (.goto 12, 3) := by decide +kernel
theorem dX10_boundsOf_38 : decode cX10_boundsOf 38 = .ok (.aload_n 0, 1) := by decide +kernel
theorem dX10_boundsOf_39 : decode cX10_boundsOf 39 = .ok (.getfield 57, 3) := by decide +kernel
theorem dX10_boundsOf_42 : decode cX10_boundsOf 42 = .ok (.iload_n 1, 1) := by decide +kernel
theorem dX10_boundsOf_43 : decode cX10_boundsOf 43 = .ok (.bipush (-54), 2) := by decide +kernel
theorem dX10_boundsOf_45 : decode cX10_boundsOf 45 = .ok (.isub, 1) := by decide +kernel
theorem dX10_boundsOf_46 : decode cX10_boundsOf 46 = .ok (.iaload, 1) := by decide +kernel
theorem dX10_boundsOf_47 : decode cX10_boundsOf 47 = .ok (.ireturn, 1) := by decide +kernel
theorem dX10_boundsOf_48 : decode cX10_boundsOf 48 = .ok (.iconst 0, 1) := by decide +kernel
theorem dX10_boundsOf_49 : decode cX10_boundsOf 49 = .ok (.istore 4, 2) := by decide +kernel
theorem dX10_boundsOf_51 : decode cX10_boundsOf 51 = .ok (.iconst 0, 1) := by decide +kernel
theorem dX10_boundsOf_52 : decode cX10_boundsOf 52 = .ok (.istore 5, 2) := by decide +kernel
theorem dX10_boundsOf_54 : decode cX10_boundsOf 54 = .ok (.iload 5, 2) := by decide +kernel
theorem dX10_boundsOf_56 : decode cX10_boundsOf 56 = .ok (.aload_n 0, 1) := by decide +kernel
theorem dX10_boundsOf_57 : decode cX10_boundsOf 57 = .ok (.getfield 113, 3) := by decide +kernel
theorem dX10_boundsOf_60 : decode cX10_boundsOf 60 = .ok (.if_icmp .ge 68, 3) := by decide +kernel
theorem dX10_boundsOf_63 : decode cX10_boundsOf 63 = .ok (.iload_n 3, 1) := by decide +kernel
theorem dX10_boundsOf_64 : decode cX10_boundsOf 64 = .ok (.ifCond .eq 64, 3) := by decide +kernel
theorem dX10_boundsOf_67 : decode cX10_boundsOf 67 = .ok (.iload_n 2, 1) := by decide +kernel
theorem dX10_boundsOf_68 : decode cX10_boundsOf 68 = .ok (.iconst 2, 1) := by decide +kernel
theorem dX10_boundsOf_69 : decode cX10_boundsOf 69 = .ok (.if_icmp .ne 23, 3) := by decide +kernel
theorem dX10_boundsOf_72 : decode cX10_boundsOf 72 = .ok (.aload_n 0, 1) := by decide +kernel
theorem dX10_boundsOf_73 : decode cX10_boundsOf 73 = .ok (.iload_n 1, 1) := by decide +kernel
theorem dX10_boundsOf_74 : decode cX10_boundsOf 74 = .ok (.iload 5, 2) := by decide +kernel
theorem dX10_boundsOf_76 : decode cX10_boundsOf 76 = .ok (.iconst 0, 1) := by decide +kernel
theorem dX10_boundsOf_77 : decode cX10_boundsOf 77 = .ok (.iconst 0, 1) := by decide +kernel
theorem dX10_boundsOf_78 : decode cX10_boundsOf 78 = .ok (.invokevirtual 260, 3) := by decide +kernel
theorem dX10_boundsOf_81 : decode cX10_boundsOf 81 = .ok (.ifCond .ne 7, 3) := by decide +kernel
theorem dX10_boundsOf_84 : decode cX10_boundsOf 84 = .ok (.iconst 1, 1) := by decide +kernel
theorem dX10_boundsOf_85 : decode cX10_boundsOf 85 = .ok (.goto 17, 3) := by decide +kernel
theorem dX10_boundsOf_88 : decode cX10_boundsOf 88 = .ok (.iconst 0, 1) := by decide +kernel
theorem dX10_boundsOf_89 : decode cX10_boundsOf 89 = .ok (.goto 13, 3) := by decide +kernel
theorem dX10_boundsOf_92 : decode cX10_boundsOf 92 = .ok (.aload_n 0, 1) := by decide +kernel
theorem dX10_boundsOf_93 : decode cX10_boundsOf 93 = .ok (.iload_n 1, 1) := by decide +kernel
theorem dX10_boundsOf_94 : decode cX10_boundsOf 94 = .ok (.iload 5, 2) := by decide +kernel
theorem dX10_boundsOf_96 : decode cX10_boundsOf 96 = .ok (.iconst 1, 1) := by decide +kernel
theorem dX10_boundsOf_97 : decode cX10_boundsOf 97 = .ok (.bipush 9, 2) := by decide +kernel
theorem dX10_boundsOf_99 : decode cX10_boundsOf 99 = .ok (.invokevirtual 260, 3) := by decide +kernel
theorem dX10_boundsOf_102 : decode cX10_boundsOf 102 = .ok (.istore 6, 2) := by decide +kernel
theorem dX10_boundsOf_104 : decode cX10_boundsOf 104 = .ok (.iload 4, 2) := by decide +kernel
theorem dX10_boundsOf_106 : decode cX10_boundsOf 106 = .ok (.iload 6, 2) := by decide +kernel
theorem dX10_boundsOf_108 : decode cX10_boundsOf 108 = .ok (.ifCond .eq 10, 3) := by decide +kernel
theorem dX10_boundsOf_111 : decode cX10_boundsOf 111 = .ok (.iconst 1, 1) := by decide +kernel
theorem dX10_boundsOf_112 : decode cX10_boundsOf 112 = .ok (.iload 5, 2) := by decide +kernel
theorem dX10_boundsOf_114 : decode cX10_boundsOf 114 = .ok (.ishl, 1) := by decide +kernel
theorem dX10_boundsOf_115 : decode cX10_boundsOf 115 = .ok (.goto 4, 3) := by decide +kernel
theorem dX10_boundsOf_118 : decode cX10_boundsOf 118 = .ok (.iconst 0, 1) := by decide +kernel
theorem dX10_boundsOf_119 : decode cX10_boundsOf 119 = .ok (.ior, 1) := by decide +kernel
theorem dX10_boundsOf_120 : decode cX10_boundsOf 120 = .ok (.istore 4, 2) := by decide +kernel
theorem dX10_boundsOf_122 : decode cX10_boundsOf 122 = .ok (.iinc 5 1, 3) := by decide +kernel
theorem dX10_boundsOf_125 : decode cX10_boundsOf 125 = .ok (.goto (-71), 3) := by decide +kernel
theorem dX10_boundsOf_128 : decode cX10_boundsOf 128 = .ok (.iload 4, 2) := by decide +kernel
theorem dX10_boundsOf_130 : decode cX10_boundsOf 130 = .ok (.ireturn, 1) := by decide +kernel
set_option maxRecDepth 20000 in
theorem ggX10_bounds_X10_within : GoodIn wsX10_bounds wsX10_within := goodIn_r _ [4] (by decide +kernel) (by decide +kernel)
set_option maxRecDepth 20000 in
theorem gX10_bounds_X10_within : GoodIn wsX10_bounds (va_wsS RX10 72 yX10_within wsX10_within) := goodIn_app (goodIn_of _ (by decide +kernel)) ggX10_bounds_X10_within
set_option maxRecDepth 20000 in
theorem ggX10_bounds_X10_boundsOf : GoodIn wsX10_bounds wsX10_boundsOf := goodIn_r _ [8, 9, 10, 11, 12, 13, 14, 3, 15, 16, 17, 18, 19, 20, 21, 22, 23, 1, 2, 4, 24, 25, 26, 27, 28, 29, 30, 31, 32, 33, 34, 35, 36, 37, 38, 39, 40, 41, 42, 43, 44, 45, 46, 47, 48, 49, 50, 51, 52, 53, 54, 55, 56, 57, 58, 59, 60, 61, 62, 63, 64, 65, 66, 67, 68, 69, 70, 71, 72, 73, 74, 75, 76, 77, 78] (by decide +kernel) (by decide +kernel)
set_option maxRecDepth 20000 in
theorem gX10_bounds_X10_boundsOf : GoodIn wsX10_bounds (wsV RX10 264 RX10 yX10_boundsOf wsX10_boundsOf) := goodIn_app (goodIn_of _ (by decide +kernel)) ggX10_bounds_X10_boundsOf
theorem dX10_bounds_0 : decode cX10_bounds 0 = .ok (.iload_n 1, 1) := by decide +kernel
theorem dX10_bounds_1 : decode cX10_bounds 1 = .ok (.bipush (-54), 2) := by decide +kernel
theorem dX10_bounds_3 : decode cX10_bounds 3 = .ok (.sipush 216, 3) := by decide +kernel
theorem dX10_bounds_6 : decode cX10_bounds 6 = .ok (.invokestatic 72, 3) := by decide +kernel
theorem dX10_bounds_9 : decode cX10_bounds 9 = .ok (.ifCond .eq 21, 3) := by decide +kernel
theorem dX10_bounds_12 : decode cX10_bounds 12 = .ok (.iload_n 2, 1) := by decide +kernel
theorem dX10_bounds_13 : decode cX10_bounds 13 = .ok (.iconst 0, 1) := by decide +kernel
theorem dX10_bounds_14 : decode cX10_bounds 14 = .ok (.iconst 3, 1) := by decide +kernel
theorem dX10_bounds_15 : decode cX10_bounds 15 = .ok (.invokestatic 72, 3) := by decide +kernel
theorem dX10_bounds_18 : decode cX10_bounds 18 = .ok (.ifCond .eq 12, 3) := by decide +kernel
theorem dX10_bounds_21 : decode cX10_bounds 21 = .ok (.aload_n 0, 1) := by decide +kernel
theorem dX10_bounds_22 : decode cX10_bounds 22 = .ok (.iload_n 1, 1) := by decide +kernel
theorem dX10_bounds_23 : decode cX10_bounds 23 = .ok (.iload_n 2, 1) := by decide +kernel
theorem dX10_bounds_24 : decode cX10_bounds 24 = .ok (.invokevirtual 264, 3) := by decide +kernel
theorem dX10_bounds_27 : decode cX10_bounds 27 = .ok (.goto 5, 3) := by decide +kernel
theorem dX10_bounds_30 : decode cX10_bounds 30 = .ok (.bipush (-102), 2) := by decide +kernel
theorem dX10_bounds_32 : decode cX10_bounds 32 = .ok (.ireturn, 1) := by decide +kernel
theorem dX10_isAlone_0 : decode cX10_isAlone 0 = .ok (.iconst 1, 1) := by decide +kernel
theorem dX10_isAlone_1 : decode cX10_isAlone 1 = .ok (.istore_n 2, 1) := by decide +kernel
theorem dX10_isAlone_2 : decode cX10_isAlone 2 = .ok (.iconst 0, 1) := by decide +kernel
theorem dX10_isAlone_3 : decode cX10_isAlone 3 = .ok (.istore_n 3, 1) := by decide +kernel
theorem dX10_isAlone_4 : decode cX10_isAlone 4 = .ok (.iload_n 3, 1) := by decide +kernel
theorem dX10_isAlone_5 : decode cX10_isAlone 5 = .ok (.bipush 7, 2) := by decide +kernel
theorem dX10_isAlone_7 : decode cX10_isAlone 7 = .ok (.if_icmp .ge 39, 3) := by decide +kernel
theorem dX10_isAlone_10 : decode cX10_isAlone 10 = .ok (.iload_n 2, 1) := by decide +kernel
theorem dX10_isAlone_11 : decode cX10_isAlone 11 = .ok (.ifCond .eq 27, 3) := by decide +kernel
theorem dX10_isAlone_14 : decode cX10_isAlone 14 = .ok (.iload_n 3, 1) := by decide +kernel
theorem dX10_isAlone_15 : decode cX10_isAlone 15 = .ok (.iload_n 1, 1) := by decide +kernel
theorem dX10_isAlone_16 : decode cX10_isAlone 16 = .ok (.if_icmp .eq 18, 3) := by decide +kernel
theorem dX10_isAlone_19 : decode cX10_isAlone 19 = .ok (.aload_n 0, 1) := by decide +kernel
theorem dX10_isAlone_20 : decode cX10_isAlone 20 = .ok (.getfield 13, 3) := by decide +kernel
theorem dX10_isAlone_23 : decode cX10_isAlone 23 = .ok (.iload_n 3, 1) := by decide +kernel
theorem dX10_isAlone_24 : decode cX10_isAlone 24 = .ok (.iaload, 1) := by decide +kernel
theorem dX10_isAlone_25 : decode cX10_isAlone 25 = .ok (.aload_n 0, 1) := by decide +kernel
theorem dX10_isAlone_26 : decode cX10_isAlone 26 = .ok (.getfield 13, 3) := by decide +kernel
theorem dX10_isAlone_29 : decode cX10_isAlone 29 = .ok (.iload_n 1, 1) := by decide +kernel
theorem dX10_isAlone_30 : decode cX10_isAlone 30 = .ok (.iaload, 1) := by decide +kernel
theorem dX10_isAlone_31 : decode cX10_isAlone 31 = .ok (.if_icmp .ge 7, 3) := by decide +kernel
theorem dX10_isAlone_34 : decode cX10_isAlone 34 = .ok (.iconst 1, 1) := by decide +kernel
theorem dX10_isAlone_35 : decode cX10_isAlone 35 = .ok (.goto 4, 3) := by decide +kernel
theorem dX10_isAlone_38 : decode cX10_isAlone 38 = .ok (.iconst 0, 1) := by decide +kernel
theorem dX10_isAlone_39 : decode cX10_isAlone 39 = .ok (.istore_n 2, 1) := by decide +kernel
theorem dX10_isAlone_40 : decode cX10_isAlone 40 = .ok (.iinc 3 1, 3) := by decide +kernel
theorem dX10_isAlone_43 : decode cX10_isAlone 43 = .ok (.goto (-39), 3) := by decide +kernel
theorem dX10_isAlone_46 : decode cX10_isAlone 46 = .ok (.iload_n 2, 1) := by decide +kernel
theorem dX10_isAlone_47 : decode cX10_isAlone 47 = .ok (.ireturn, 1) := by decide +kernel
set_option maxRecDepth 20000 in
theorem ggX10_shows_X10_isCustom : GoodIn wsX10_shows wsX10_isCustom := goodIn_r _ [5, 6, 7, 8, 4, 9, 97, 98, 99, 100, 101, 102, 103, 104, 105, 106, 107, 108, 109, 110, 111, 112, 113, 114, 115, 116, 117, 118, 119, 120, 121, 122, 123, 124, 125, 126, 127, 128, 129, 130, 131] (by decide +kernel) (by decide +kernel)
set_option maxRecDepth 20000 in
theorem gX10_shows_X10_isCustom : GoodIn wsX10_shows (wsV RX10 106 RX10 yX10_isCustom wsX10_isCustom) := goodIn_app (goodIn_of _ (by decide +kernel)) ggX10_shows_X10_isCustom
set_option maxRecDepth 20000 in
theorem ggX10_shows_X10_isCairn : GoodIn wsX10_shows wsX10_isCairn := goodIn_r _ [12, 7, 8, 4, 9] (by decide +kernel) (by decide +kernel)
set_option maxRecDepth 20000 in
theorem gX10_shows_X10_isCairn : GoodIn wsX10_shows (va_wsS RX10 148 yX10_isCairn wsX10_isCairn) := goodIn_app (goodIn_of _ (by decide +kernel)) ggX10_shows_X10_isCairn
set_option maxRecDepth 20000 in
theorem ggX10_shows_X10_within : GoodIn wsX10_shows wsX10_within := goodIn_r _ [9] (by decide +kernel) (by decide +kernel)
set_option maxRecDepth 20000 in
theorem gX10_shows_X10_within : GoodIn wsX10_shows (va_wsS RX10 72 yX10_within wsX10_within) := goodIn_app (goodIn_of _ (by decide +kernel)) ggX10_shows_X10_within
set_option maxRecDepth 20000 in
theorem ggX10_shows_X10_save : GoodIn wsX10_shows wsX10_save := goodIn_r _ [16, 17, 18, 19, 20, 21, 22, 23, 24, 25, 26, 97, 98, 99, 100, 101, 102, 103, 104, 105, 106, 107, 108, 109, 110, 111, 112, 113, 114, 115, 116, 117, 118, 119, 120, 121, 122, 123, 124, 125, 126, 127, 128, 129, 130, 131] (by decide +kernel) (by decide +kernel)
set_option maxRecDepth 20000 in
theorem gX10_shows_X10_save : GoodIn wsX10_shows (wsV RX10 202 RX10 yX10_save wsX10_save) := goodIn_app (goodIn_of _ (by decide +kernel)) ggX10_shows_X10_save
set_option maxRecDepth 20000 in
theorem ggX10_shows_X10_layAll : GoodIn wsX10_shows wsX10_layAll := goodIn_r _ [30, 24, 22, 31, 32, 33, 4, 34, 21, 26, 20, 97, 98, 99, 100, 101, 102, 103, 104, 105, 106, 107, 108, 109, 110, 111, 112, 113, 114, 115, 116, 117, 118, 119, 120, 121, 122, 123, 124, 125, 126, 127, 128, 129, 130, 131] (by decide +kernel) (by decide +kernel)
set_option maxRecDepth 20000 in
theorem gX10_shows_X10_layAll : GoodIn wsX10_shows (wsV RX10 151 RX10 yX10_layAll wsX10_layAll) := goodIn_app (goodIn_of _ (by decide +kernel)) ggX10_shows_X10_layAll
set_option maxRecDepth 20000 in
theorem ggX10_shows_X10_isAlone : GoodIn wsX10_shows wsX10_isAlone := goodIn_r _ [38, 21, 97, 98, 99, 100, 101, 102, 103, 104, 105, 106, 107, 108, 109, 110, 111, 112, 113, 114, 115, 116, 117, 118, 119, 120, 121, 122, 123, 124, 125, 126, 127, 128, 129, 130, 131] (by decide +kernel) (by decide +kernel)
set_option maxRecDepth 20000 in
theorem gX10_shows_X10_isAlone : GoodIn wsX10_shows (wsV RX10 267 RX10 yX10_isAlone wsX10_isAlone) := goodIn_app (goodIn_of _ (by decide +kernel)) ggX10_shows_X10_isAlone
set_option maxRecDepth 20000 in
theorem ggX10_shows_X10_goWeek : GoodIn wsX10_shows wsX10_goWeek := goodIn_r _ [42, 22, 43, 44, 45, 46, 47, 21, 48, 49, 50, 4, 51, 52, 17, 53, 54, 55, 56, 57, 58, 59, 60, 61, 23, 62, 63, 64, 65, 66, 67, 68, 69, 70, 71, 72, 73, 74, 75, 76, 77, 78, 79, 27, 28, 29, 30, 24, 31, 32, 33, 34, 26, 20, 80, 81, 82, 83, 84, 85, 86, 87, 88, 89, 90, 91, 92, 25, 97, 98, 99, 100, 101, 102, 103, 104, 105, 106, 107, 108, 109, 110, 111, 112, 113, 114, 115, 116, 117, 118, 119, 120, 121, 122, 123, 124, 125, 126, 127, 128, 129, 130, 131] (by decide +kernel) (by decide +kernel)
set_option maxRecDepth 20000 in
theorem gX10_shows_X10_goWeek : GoodIn wsX10_shows (wsV RX10 192 RX10 yX10_goWeek wsX10_goWeek) := goodIn_app (goodIn_of _ (by decide +kernel)) ggX10_shows_X10_goWeek
set_option maxRecDepth 20000 in
theorem ggX10_shows_X10_back : GoodIn wsX10_shows wsX10_back := goodIn_r _ [96, 18, 17, 20, 19, 21, 22, 23, 24, 25, 26, 97, 98, 99, 100, 101, 102, 103, 104, 105, 106, 107, 108, 109, 110, 111, 112, 113, 114, 115, 116, 117, 118, 119, 120, 121, 122, 123, 124, 125, 126, 127, 128, 129, 130, 131] (by decide +kernel) (by decide +kernel)
set_option maxRecDepth 20000 in
theorem gX10_shows_X10_back : GoodIn wsX10_shows (wsV RX10 205 RX10 yX10_back wsX10_back) := goodIn_app (goodIn_of _ (by decide +kernel)) ggX10_shows_X10_back
theorem dX10_shows_0 : decode cX10_shows 0 = .ok (.aload_n 0, 1) := by decide +kernel
theorem dX10_shows_1 : decode cX10_shows 1 = .ok (.iload_n 1, 1) := by decide +kernel
theorem dX10_shows_2 : decode cX10_shows 2 = .ok (.invokevirtual 106, 3) := by decide +kernel
theorem dX10_shows_5 : decode cX10_shows 5 = .ok (.ifCond .eq 10, 3) := by decide +kernel
theorem dX10_shows_8 : decode cX10_shows 8 = .ok (.iload_n 2, 1) := by decide +kernel
theorem dX10_shows_9 : decode cX10_shows 9 = .ok (.invokestatic 148, 3) := by decide +kernel
theorem dX10_shows_12 : decode cX10_shows 12 = .ok (.ifCond .ne 6, 3) := by decide +kernel
theorem dX10_shows_15 : decode cX10_shows 15 = .ok (.bipush (-101), 2) := by decide +kernel
theorem dX10_shows_17 : decode cX10_shows 17 = .ok (.ireturn, 1) := by decide +kernel
theorem dX10_shows_18 : decode cX10_shows 18 = .ok (.iload_n 3, 1) := by decide +kernel
theorem dX10_shows_19 : decode cX10_shows 19 = .ok (.iconst 0, 1) := by decide +kernel
theorem dX10_shows_20 : decode cX10_shows 20 = .ok (.bipush 60, 2) := by decide +kernel
theorem dX10_shows_22 : decode cX10_shows 22 = .ok (.invokestatic 72, 3) := by decide +kernel
theorem dX10_shows_25 : decode cX10_shows 25 = .ok (.ifCond .ne 6, 3) := by decide +kernel
theorem dX10_shows_28 : decode cX10_shows 28 = .ok (.bipush (-102), 2) := by decide +kernel
theorem dX10_shows_30 : decode cX10_shows 30 = .ok (.ireturn, 1) := by decide +kernel
theorem dX10_shows_31 : decode cX10_shows 31 = .ok (.aload_n 0, 1) := by decide +kernel
theorem dX10_shows_32 : decode cX10_shows 32 = .ok (.invokevirtual 202, 3) := by decide +kernel
theorem dX10_shows_35 : decode cX10_shows 35 = .ok (.aload_n 0, 1) := by decide +kernel
theorem dX10_shows_36 : decode cX10_shows 36 = .ok (.iload_n 2, 1) := by decide +kernel
theorem dX10_shows_37 : decode cX10_shows 37 = .ok (.iload_n 3, 1) := by decide +kernel
theorem dX10_shows_38 : decode cX10_shows 38 = .ok (.invokevirtual 151, 3) := by decide +kernel
theorem dX10_shows_41 : decode cX10_shows 41 = .ok (.iconst 0, 1) := by decide +kernel
theorem dX10_shows_42 : decode cX10_shows 42 = .ok (.istore 4, 2) := by decide +kernel
theorem dX10_shows_44 : decode cX10_shows 44 = .ok (.iload 4, 2) := by decide +kernel
theorem dX10_shows_46 : decode cX10_shows 46 = .ok (.bipush 60, 2) := by decide +kernel
theorem dX10_shows_48 : decode cX10_shows 48 = .ok (.if_icmp .gt 22, 3) := by decide +kernel
theorem dX10_shows_51 : decode cX10_shows 51 = .ok (.aload_n 0, 1) := by decide +kernel
theorem dX10_shows_52 : decode cX10_shows 52 = .ok (.iload_n 2, 1) := by decide +kernel
theorem dX10_shows_53 : decode cX10_shows 53 = .ok (.invokevirtual 267, 3) := by decide +kernel
theorem dX10_shows_56 : decode cX10_shows 56 = .ok (.ifCond .eq 14, 3) := by decide +kernel
theorem dX10_shows_59 : decode cX10_shows 59 = .ok (.aload_n 0, 1) := by decide +kernel
theorem dX10_shows_60 : decode cX10_shows 60 = .ok (.iload_n 1, 1) := by decide +kernel
theorem dX10_shows_61 : decode cX10_shows 61 = .ok (.invokevirtual 192, 3) := by decide +kernel
theorem dX10_shows_64 : decode cX10_shows 64 = .ok (.iinc 4 1, 3) := by decide +kernel
theorem dX10_shows_67 : decode cX10_shows 67 = .ok (.goto (-23), 3) := by decide +kernel
theorem dX10_shows_70 : decode cX10_shows 70 = .ok (.aload_n 0, 1) := by decide +kernel
theorem dX10_shows_71 : decode cX10_shows 71 = .ok (.invokevirtual 205, 3) := by decide +kernel
theorem dX10_shows_74 : decode cX10_shows 74 = .ok (.iload 4, 2) := by decide +kernel
theorem dX10_shows_76 : decode cX10_shows 76 = .ok (.bipush 60, 2) := by decide +kernel
theorem dX10_shows_78 : decode cX10_shows 78 = .ok (.if_icmp .le 7, 3) := by decide +kernel
theorem dX10_shows_81 : decode cX10_shows 81 = .ok (.iconst (-1), 1) := by decide +kernel
theorem dX10_shows_82 : decode cX10_shows 82 = .ok (.goto 5, 3) := by decide +kernel
theorem dX10_shows_85 : decode cX10_shows 85 = .ok (.iload 4, 2) := by decide +kernel
theorem dX10_shows_87 : decode cX10_shows 87 = .ok (.ireturn, 1) := by decide +kernel
set_option maxRecDepth 20000 in
theorem ggX10_gone_X10_isCustom : GoodIn wsX10_gone wsX10_isCustom := goodIn_r _ [6, 7, 8, 9, 5, 10, 93, 94, 95, 96, 97, 98, 99, 100, 101, 102, 103, 104, 105, 106, 107, 108, 109, 110, 111, 112, 113, 114, 115, 116, 117, 118, 119, 120, 121, 122, 123, 124, 125, 126, 127] (by decide +kernel) (by decide +kernel)
set_option maxRecDepth 20000 in
theorem gX10_gone_X10_isCustom : GoodIn wsX10_gone (wsV RX10 106 RX10 yX10_isCustom wsX10_isCustom) := goodIn_app (goodIn_of _ (by decide +kernel)) ggX10_gone_X10_isCustom
set_option maxRecDepth 20000 in
theorem ggX10_gone_X10_isCairn : GoodIn wsX10_gone wsX10_isCairn := goodIn_r _ [13, 8, 9, 5, 10] (by decide +kernel) (by decide +kernel)
set_option maxRecDepth 20000 in
theorem gX10_gone_X10_isCairn : GoodIn wsX10_gone (va_wsS RX10 148 yX10_isCairn wsX10_isCairn) := goodIn_app (goodIn_of _ (by decide +kernel)) ggX10_gone_X10_isCairn
set_option maxRecDepth 20000 in
theorem ggX10_gone_X10_save : GoodIn wsX10_gone wsX10_save := goodIn_r _ [17, 18, 19, 20, 21, 1, 22, 23, 24, 25, 26, 93, 94, 95, 96, 97, 98, 99, 100, 101, 102, 103, 104, 105, 106, 107, 108, 109, 110, 111, 112, 113, 114, 115, 116, 117, 118, 119, 120, 121, 122, 123, 124, 125, 126, 127] (by decide +kernel) (by decide +kernel)
set_option maxRecDepth 20000 in
theorem gX10_gone_X10_save : GoodIn wsX10_gone (wsV RX10 202 RX10 yX10_save wsX10_save) := goodIn_app (goodIn_of _ (by decide +kernel)) ggX10_gone_X10_save
set_option maxRecDepth 20000 in
theorem ggX10_gone_X10_goWeek : GoodIn wsX10_gone wsX10_goWeek := goodIn_r _ [30, 22, 31, 32, 33, 34, 35, 1, 36, 37, 38, 5, 39, 40, 18, 41, 42, 43, 44, 45, 46, 47, 48, 49, 23, 50, 51, 52, 53, 54, 55, 56, 57, 58, 59, 60, 61, 62, 63, 64, 65, 66, 67, 68, 69, 70, 71, 24, 72, 73, 74, 75, 26, 21, 76, 77, 78, 79, 80, 81, 82, 83, 84, 85, 86, 87, 88, 25, 93, 94, 95, 96, 97, 98, 99, 100, 101, 102, 103, 104, 105, 106, 107, 108, 109, 110, 111, 112, 113, 114, 115, 116, 117, 118, 119, 120, 121, 122, 123, 124, 125, 126, 127] (by decide +kernel) (by decide +kernel)
set_option maxRecDepth 20000 in
theorem gX10_gone_X10_goWeek : GoodIn wsX10_gone (wsV RX10 192 RX10 yX10_goWeek wsX10_goWeek) := goodIn_app (goodIn_of _ (by decide +kernel)) ggX10_gone_X10_goWeek
set_option maxRecDepth 20000 in
theorem ggX10_gone_X10_back : GoodIn wsX10_gone wsX10_back := goodIn_r _ [92, 19, 18, 21, 20, 1, 22, 23, 24, 25, 26, 93, 94, 95, 96, 97, 98, 99, 100, 101, 102, 103, 104, 105, 106, 107, 108, 109, 110, 111, 112, 113, 114, 115, 116, 117, 118, 119, 120, 121, 122, 123, 124, 125, 126, 127] (by decide +kernel) (by decide +kernel)
set_option maxRecDepth 20000 in
theorem gX10_gone_X10_back : GoodIn wsX10_gone (wsV RX10 205 RX10 yX10_back wsX10_back) := goodIn_app (goodIn_of _ (by decide +kernel)) ggX10_gone_X10_back
theorem dX10_gone_0 : decode cX10_gone 0 = .ok (.aload_n 0, 1) := by decide +kernel
theorem dX10_gone_1 : decode cX10_gone 1 = .ok (.iload_n 1, 1) := by decide +kernel
theorem dX10_gone_2 : decode cX10_gone 2 = .ok (.invokevirtual 106, 3) := by decide +kernel
theorem dX10_gone_5 : decode cX10_gone 5 = .ok (.ifCond .eq 10, 3) := by decide +kernel
theorem dX10_gone_8 : decode cX10_gone 8 = .ok (.iload_n 2, 1) := by decide +kernel
theorem dX10_gone_9 : decode cX10_gone 9 = .ok (.invokestatic 148, 3) := by decide +kernel
theorem dX10_gone_12 : decode cX10_gone 12 = .ok (.ifCond .ne 6, 3) := by decide +kernel
theorem dX10_gone_15 : decode cX10_gone 15 = .ok (.bipush (-101), 2) := by decide +kernel
theorem dX10_gone_17 : decode cX10_gone 17 = .ok (.ireturn, 1) := by decide +kernel
theorem dX10_gone_18 : decode cX10_gone 18 = .ok (.aload_n 0, 1) := by decide +kernel
theorem dX10_gone_19 : decode cX10_gone 19 = .ok (.invokevirtual 202, 3) := by decide +kernel
theorem dX10_gone_22 : decode cX10_gone 22 = .ok (.iconst 0, 1) := by decide +kernel
theorem dX10_gone_23 : decode cX10_gone 23 = .ok (.istore_n 3, 1) := by decide +kernel
theorem dX10_gone_24 : decode cX10_gone 24 = .ok (.iload_n 3, 1) := by decide +kernel
theorem dX10_gone_25 : decode cX10_gone 25 = .ok (.bipush 60, 2) := by decide +kernel
theorem dX10_gone_27 : decode cX10_gone 27 = .ok (.if_icmp .gt 23, 3) := by decide +kernel
theorem dX10_gone_30 : decode cX10_gone 30 = .ok (.aload_n 0, 1) := by decide +kernel
theorem dX10_gone_31 : decode cX10_gone 31 = .ok (.getfield 13, 3) := by decide +kernel
theorem dX10_gone_34 : decode cX10_gone 34 = .ok (.iload_n 2, 1) := by decide +kernel
theorem dX10_gone_35 : decode cX10_gone 35 = .ok (.iaload, 1) := by decide +kernel
theorem dX10_gone_36 : decode cX10_gone 36 = .ok (.ifCond .le 14, 3) := by decide +kernel
theorem dX10_gone_39 : decode cX10_gone 39 = .ok (.aload_n 0, 1) := by decide +kernel
theorem dX10_gone_40 : decode cX10_gone 40 = .ok (.iload_n 1, 1) := by decide +kernel
theorem dX10_gone_41 : decode cX10_gone 41 = .ok (.invokevirtual 192, 3) := by decide +kernel
theorem dX10_gone_44 : decode cX10_gone 44 = .ok (.iinc 3 1, 3) := by decide +kernel
theorem dX10_gone_47 : decode cX10_gone 47 = .ok (.goto (-23), 3) := by decide +kernel
theorem dX10_gone_50 : decode cX10_gone 50 = .ok (.aload_n 0, 1) := by decide +kernel
theorem dX10_gone_51 : decode cX10_gone 51 = .ok (.invokevirtual 205, 3) := by decide +kernel
theorem dX10_gone_54 : decode cX10_gone 54 = .ok (.iload_n 3, 1) := by decide +kernel
theorem dX10_gone_55 : decode cX10_gone 55 = .ok (.bipush 60, 2) := by decide +kernel
theorem dX10_gone_57 : decode cX10_gone 57 = .ok (.if_icmp .le 7, 3) := by decide +kernel
theorem dX10_gone_60 : decode cX10_gone 60 = .ok (.iconst (-1), 1) := by decide +kernel
theorem dX10_gone_61 : decode cX10_gone 61 = .ok (.goto 4, 3) := by decide +kernel
theorem dX10_gone_64 : decode cX10_gone 64 = .ok (.iload_n 3, 1) := by decide +kernel
theorem dX10_gone_65 : decode cX10_gone 65 = .ok (.ireturn, 1) := by decide +kernel
set_option maxRecDepth 20000 in
theorem ggX10_saves_X10_save : GoodIn wsX10_saves wsX10_save := goodIn_r _ [6, 7, 8, 9, 10, 1, 11, 12, 13, 14, 15, 82, 83, 84, 85, 86, 87, 88, 89, 90, 91, 92, 93, 94, 95, 96, 97, 98, 99, 100, 101, 102, 103, 104, 105, 106, 107, 108, 109, 110, 111, 112, 113, 114, 115, 116] (by decide +kernel) (by decide +kernel)
set_option maxRecDepth 20000 in
theorem gX10_saves_X10_save : GoodIn wsX10_saves (wsV RX10 202 RX10 yX10_save wsX10_save) := goodIn_app (goodIn_of _ (by decide +kernel)) ggX10_saves_X10_save
set_option maxRecDepth 20000 in
theorem ggX10_saves_X10_layAll : GoodIn wsX10_saves wsX10_layAll := goodIn_r _ [19, 13, 11, 20, 21, 22, 5, 23, 1, 15, 10, 82, 83, 84, 85, 86, 87, 88, 89, 90, 91, 92, 93, 94, 95, 96, 97, 98, 99, 100, 101, 102, 103, 104, 105, 106, 107, 108, 109, 110, 111, 112, 113, 114, 115, 116] (by decide +kernel) (by decide +kernel)
set_option maxRecDepth 20000 in
theorem gX10_saves_X10_layAll : GoodIn wsX10_saves (wsV RX10 151 RX10 yX10_layAll wsX10_layAll) := goodIn_app (goodIn_of _ (by decide +kernel)) ggX10_saves_X10_layAll
set_option maxRecDepth 20000 in
theorem ggX10_saves_X10_goWeek : GoodIn wsX10_saves wsX10_goWeek := goodIn_r _ [27, 11, 28, 29, 30, 31, 32, 1, 33, 34, 35, 5, 36, 37, 7, 38, 39, 40, 41, 42, 43, 44, 45, 46, 12, 47, 48, 49, 50, 51, 52, 53, 54, 55, 56, 57, 58, 59, 60, 61, 62, 63, 64, 16, 17, 18, 19, 13, 20, 21, 22, 23, 15, 10, 65, 66, 67, 68, 69, 70, 71, 72, 73, 74, 75, 76, 77, 14, 82, 83, 84, 85, 86, 87, 88, 89, 90, 91, 92, 93, 94, 95, 96, 97, 98, 99, 100, 101, 102, 103, 104, 105, 106, 107, 108, 109, 110, 111, 112, 113, 114, 115, 116] (by decide +kernel) (by decide +kernel)
set_option maxRecDepth 20000 in
theorem gX10_saves_X10_goWeek : GoodIn wsX10_saves (wsV RX10 192 RX10 yX10_goWeek wsX10_goWeek) := goodIn_app (goodIn_of _ (by decide +kernel)) ggX10_saves_X10_goWeek
set_option maxRecDepth 20000 in
theorem ggX10_saves_X10_back : GoodIn wsX10_saves wsX10_back := goodIn_r _ [81, 8, 7, 10, 9, 1, 11, 12, 13, 14, 15, 82, 83, 84, 85, 86, 87, 88, 89, 90, 91, 92, 93, 94, 95, 96, 97, 98, 99, 100, 101, 102, 103, 104, 105, 106, 107, 108, 109, 110, 111, 112, 113, 114, 115, 116] (by decide +kernel) (by decide +kernel)
set_option maxRecDepth 20000 in
theorem gX10_saves_X10_back : GoodIn wsX10_saves (wsV RX10 205 RX10 yX10_back wsX10_back) := goodIn_app (goodIn_of _ (by decide +kernel)) ggX10_saves_X10_back
theorem dX10_saves_0 : decode cX10_saves 0 = .ok (.aload_n 0, 1) := by decide +kernel
theorem dX10_saves_1 : decode cX10_saves 1 = .ok (.invokevirtual 202, 3) := by decide +kernel
theorem dX10_saves_4 : decode cX10_saves 4 = .ok (.aload_n 0, 1) := by decide +kernel
theorem dX10_saves_5 : decode cX10_saves 5 = .ok (.iload_n 2, 1) := by decide +kernel
theorem dX10_saves_6 : decode cX10_saves 6 = .ok (.iload 4, 2) := by decide +kernel
