theorem dX9_gone_17 : decode cX9_gone 17 = .ok (.bipush (-101), 2) := by decide +kernel
theorem dX9_gone_19 : decode cX9_gone 19 = .ok (.ireturn, 1) := by decide +kernel
theorem dX9_gone_20 : decode cX9_gone 20 = .ok (.aload_n 0, 1) := by decide +kernel
theorem dX9_gone_21 : decode cX9_gone 21 = .ok (.getfield 38, 3) := by decide +kernel
theorem dX9_gone_24 : decode cX9_gone 24 = .ok (.aload_n 0, 1) := by decide +kernel
theorem dX9_gone_25 : decode cX9_gone 25 = .ok (.getfield 31, 3) := by decide +kernel
theorem dX9_gone_28 : decode cX9_gone 28 = .ok (.invokevirtual 196, 3) := by decide +kernel
theorem dX9_gone_31 : decode cX9_gone 31 = .ok (.aload_n 0, 1) := by decide +kernel
theorem dX9_gone_32 : decode cX9_gone 32 = .ok (.getfield 38, 3) := by decide +kernel
theorem dX9_gone_35 : decode cX9_gone 35 = .ok (.getfield 127, 3) := by decide +kernel
theorem dX9_gone_38 : decode cX9_gone 38 = .ok (.iload_n 2, 1) := by decide +kernel
theorem dX9_gone_39 : decode cX9_gone 39 = .ok (.iaload, 1) := by decide +kernel
theorem dX9_gone_40 : decode cX9_gone 40 = .ok (.ifCond .ne 5, 3) := by decide +kernel
theorem dX9_gone_43 : decode cX9_gone 43 = .ok (.iconst 0, 1) := by decide +kernel
theorem dX9_gone_44 : decode cX9_gone 44 = .ok (.ireturn, 1) := by decide +kernel
theorem dX9_gone_45 : decode cX9_gone 45 = .ok (.aload_n 0, 1) := by decide +kernel
theorem dX9_gone_46 : decode cX9_gone 46 = .ok (.aload_n 3, 1) := by decide +kernel
theorem dX9_gone_47 : decode cX9_gone 47 = .ok (.iload_n 2, 1) := by decide +kernel
theorem dX9_gone_48 : decode cX9_gone 48 = .ok (.bipush 60, 2) := by decide +kernel
theorem dX9_gone_50 : decode cX9_gone 50 = .ok (.invokevirtual 203, 3) := by decide +kernel
theorem dX9_gone_53 : decode cX9_gone 53 = .ok (.istore 4, 2) := by decide +kernel
theorem dX9_gone_55 : decode cX9_gone 55 = .ok (.iload 4, 2) := by decide +kernel
theorem dX9_gone_57 : decode cX9_gone 57 = .ok (.bipush 60, 2) := by decide +kernel
theorem dX9_gone_59 : decode cX9_gone 59 = .ok (.if_icmp .le 7, 3) := by decide +kernel
theorem dX9_gone_62 : decode cX9_gone 62 = .ok (.iconst (-1), 1) := by decide +kernel
theorem dX9_gone_63 : decode cX9_gone 63 = .ok (.goto 5, 3) := by decide +kernel
theorem dX9_gone_66 : decode cX9_gone 66 = .ok (.iload 4, 2) := by decide +kernel
theorem dX9_gone_68 : decode cX9_gone 68 = .ok (.ireturn, 1) := by decide +kernel
set_option maxRecDepth 20000 in
theorem ggX9_saved_X9_customAt : GoodIn wsX9_saved wsX9_customAt := goodIn_r _ [8, 9, 146, 147, 148, 149, 150, 151, 152, 153, 154, 155, 156] (by decide +kernel) (by decide +kernel)
set_option maxRecDepth 20000 in
theorem gX9_saved_X9_customAt : GoodIn wsX9_saved (wsV RX9 79 RX9 yX9_customAt wsX9_customAt) := goodIn_app (goodIn_of _ (by decide +kernel)) ggX9_saved_X9_customAt
set_option maxRecDepth 20000 in
theorem ggX9_saved_X9_isCairn : GoodIn wsX9_saved wsX9_isCairn := goodIn_r _ [12] (by decide +kernel) (by decide +kernel)
set_option maxRecDepth 20000 in
theorem gX9_saved_X9_isCairn : GoodIn wsX9_saved (va_wsS RX9 119 yX9_isCairn wsX9_isCairn) := goodIn_app (goodIn_of _ (by decide +kernel)) ggX9_saved_X9_isCairn
set_option maxRecDepth 20000 in
theorem ggX9_saved_X2_become : GoodIn wsX9_saved wsX2_become := goodIn_r _ [17, 18, 19, 20, 21, 22, 23, 24, 25, 26, 27, 28, 29, 157, 158, 159, 160, 161, 162, 163, 164] (by decide +kernel) (by decide +kernel)
set_option maxRecDepth 20000 in
theorem gX9_saved_X2_become : GoodIn wsX9_saved (wsV RX9 196 RX2 yX2_become wsX2_become) := goodIn_app (goodIn_of _ (by decide +kernel)) ggX9_saved_X2_become
set_option maxRecDepth 20000 in
theorem ggX9_saved_X2_layNew : GoodIn wsX9_saved wsX2_layNew := goodIn_r _ [33, 24, 27, 34, 35, 36, 16, 37, 18, 29, 23, 11, 7, 12, 157, 158, 159, 160, 161, 162, 163, 164] (by decide +kernel) (by decide +kernel)
set_option maxRecDepth 20000 in
theorem gX9_saved_X2_layNew : GoodIn wsX9_saved (wsV RX9 123 RX2 yX2_layNew wsX2_layNew) := goodIn_app (goodIn_of _ (by decide +kernel)) ggX9_saved_X2_layNew
set_option maxRecDepth 20000 in
theorem ggX9_saved_X9_dreamTillEmpty : GoodIn wsX9_saved wsX9_dreamTillEmpty := goodIn_r _ [41, 3, 42, 2, 43, 44, 45, 16, 46, 24, 47, 48, 49, 50, 51, 52, 53, 25, 54, 55, 56, 57, 58, 59, 60, 26, 61, 62, 63, 64, 65, 66, 67, 68, 69, 70, 18, 71, 72, 73, 74, 75, 76, 77, 78, 79, 80, 81, 82, 83, 84, 85, 86, 87, 88, 89, 90, 91, 31, 32, 33, 27, 34, 35, 36, 37, 29, 23, 11, 7, 12, 92, 93, 94, 95, 96, 97, 98, 99, 100, 101, 102, 103, 104, 105, 106, 107, 108, 109, 110, 111, 112, 113, 114, 115, 116, 117, 118, 119, 120, 121, 122, 123, 124, 125, 126, 127, 128, 129, 130, 131, 28, 132, 133, 134, 135, 136, 137, 138, 139, 140, 141, 142, 143, 144, 145, 10, 146, 147, 148, 149, 150, 151, 152, 153, 154, 155, 156, 157, 158, 159, 160, 161, 162, 163, 164, 165, 166, 167, 168, 169, 170, 171, 172, 173, 174, 175, 176, 177, 178, 179, 180, 181, 182, 183] (by decide +kernel) (by decide +kernel)
set_option maxRecDepth 20000 in
theorem gX9_saved_X9_dreamTillEmpty : GoodIn wsX9_saved (wsV RX9 203 RX9 yX9_dreamTillEmpty wsX9_dreamTillEmpty) := goodIn_app (goodIn_of _ (by decide +kernel)) ggX9_saved_X9_dreamTillEmpty
theorem dX9_saved_0 : decode cX9_saved 0 = .ok (.aload_n 0, 1) := by decide +kernel
theorem dX9_saved_1 : decode cX9_saved 1 = .ok (.iload_n 1, 1) := by decide +kernel
theorem dX9_saved_2 : decode cX9_saved 2 = .ok (.invokevirtual 79, 3) := by decide +kernel
theorem dX9_saved_5 : decode cX9_saved 5 = .ok (.astore 4, 2) := by decide +kernel
theorem dX9_saved_7 : decode cX9_saved 7 = .ok (.aload 4, 2) := by decide +kernel
theorem dX9_saved_9 : decode cX9_saved 9 = .ok (.ifnull 10, 3) := by decide +kernel
theorem dX9_saved_12 : decode cX9_saved 12 = .ok (.iload_n 2, 1) := by decide +kernel
theorem dX9_saved_13 : decode cX9_saved 13 = .ok (.invokestatic 119, 3) := by decide +kernel
theorem dX9_saved_16 : decode cX9_saved 16 = .ok (.ifCond .ne 6, 3) := by decide +kernel
theorem dX9_saved_19 : decode cX9_saved 19 = .ok (.bipush (-101), 2) := by decide +kernel
theorem dX9_saved_21 : decode cX9_saved 21 = .ok (.ireturn, 1) := by decide +kernel
theorem dX9_saved_22 : decode cX9_saved 22 = .ok (.iload_n 3, 1) := by decide +kernel
theorem dX9_saved_23 : decode cX9_saved 23 = .ok (.iconst 1, 1) := by decide +kernel
theorem dX9_saved_24 : decode cX9_saved 24 = .ok (.if_icmp .lt 9, 3) := by decide +kernel
theorem dX9_saved_27 : decode cX9_saved 27 = .ok (.iload_n 3, 1) := by decide +kernel
theorem dX9_saved_28 : decode cX9_saved 28 = .ok (.bipush 60, 2) := by decide +kernel
theorem dX9_saved_30 : decode cX9_saved 30 = .ok (.if_icmp .le 6, 3) := by decide +kernel
theorem dX9_saved_33 : decode cX9_saved 33 = .ok (.bipush (-102), 2) := by decide +kernel
theorem dX9_saved_35 : decode cX9_saved 35 = .ok (.ireturn, 1) := by decide +kernel
theorem dX9_saved_36 : decode cX9_saved 36 = .ok (.bipush 60, 2) := by decide +kernel
theorem dX9_saved_38 : decode cX9_saved 38 = .ok (.aload_n 0, 1) := by decide +kernel
theorem dX9_saved_39 : decode cX9_saved 39 = .ok (.getfield 31, 3) := by decide +kernel
theorem dX9_saved_42 : decode cX9_saved 42 = .ok (.getfield 127, 3) := by decide +kernel
theorem dX9_saved_45 : decode cX9_saved 45 = .ok (.iload_n 2, 1) := by decide +kernel
theorem dX9_saved_46 : decode cX9_saved 46 = .ok (.iaload, 1) := by decide +kernel
theorem dX9_saved_47 : decode cX9_saved 47 = .ok (.isub, 1) := by decide +kernel
theorem dX9_saved_48 : decode cX9_saved 48 = .ok (.istore 5, 2) := by decide +kernel
theorem dX9_saved_50 : decode cX9_saved 50 = .ok (.iconst 0, 1) := by decide +kernel
theorem dX9_saved_51 : decode cX9_saved 51 = .ok (.istore 6, 2) := by decide +kernel
theorem dX9_saved_53 : decode cX9_saved 53 = .ok (.iload 6, 2) := by decide +kernel
theorem dX9_saved_55 : decode cX9_saved 55 = .ok (.iload 5, 2) := by decide +kernel
theorem dX9_saved_57 : decode cX9_saved 57 = .ok (.if_icmp .gt 52, 3) := by decide +kernel
theorem dX9_saved_60 : decode cX9_saved 60 = .ok (.iload 6, 2) := by decide +kernel
theorem dX9_saved_62 : decode cX9_saved 62 = .ok (.bipush 60, 2) := by decide +kernel
theorem dX9_saved_64 : decode cX9_saved 64 = .ok (.if_icmp .gt 45, 3) := by decide +kernel
theorem dX9_saved_67 : decode cX9_saved 67 = .ok (.aload_n 0, 1) := by decide +kernel
theorem dX9_saved_68 : decode cX9_saved 68 = .ok (.getfield 38, 3) := by decide +kernel
theorem dX9_saved_71 : decode cX9_saved 71 = .ok (.aload_n 0, 1) := by decide +kernel
theorem dX9_saved_72 : decode cX9_saved 72 = .ok (.getfield 31, 3) := by decide +kernel
theorem dX9_saved_75 : decode cX9_saved 75 = .ok (.invokevirtual 196, 3) := by decide +kernel
theorem dX9_saved_78 : decode cX9_saved 78 = .ok (.aload_n 0, 1) := by decide +kernel
theorem dX9_saved_79 : decode cX9_saved 79 = .ok (.getfield 38, 3) := by decide +kernel
theorem dX9_saved_82 : decode cX9_saved 82 = .ok (.iload_n 2, 1) := by decide +kernel
theorem dX9_saved_83 : decode cX9_saved 83 = .ok (.iload 6, 2) := by decide +kernel
theorem dX9_saved_85 : decode cX9_saved 85 = .ok (.invokevirtual 123, 3) := by decide +kernel
theorem dX9_saved_88 : decode cX9_saved 88 = .ok (.aload_n 0, 1) := by decide +kernel
theorem dX9_saved_89 : decode cX9_saved 89 = .ok (.aload 4, 2) := by decide +kernel
theorem dX9_saved_91 : decode cX9_saved 91 = .ok (.iload_n 2, 1) := by decide +kernel
theorem dX9_saved_92 : decode cX9_saved 92 = .ok (.iload_n 3, 1) := by decide +kernel
theorem dX9_saved_93 : decode cX9_saved 93 = .ok (.invokevirtual 203, 3) := by decide +kernel
theorem dX9_saved_96 : decode cX9_saved 96 = .ok (.iload_n 3, 1) := by decide +kernel
theorem dX9_saved_97 : decode cX9_saved 97 = .ok (.if_icmp .le 6, 3) := by decide +kernel
theorem dX9_saved_100 : decode cX9_saved 100 = .ok (.iload 6, 2) := by decide +kernel
theorem dX9_saved_102 : decode cX9_saved 102 = .ok (.ireturn, 1) := by decide +kernel
theorem dX9_saved_103 : decode cX9_saved 103 = .ok (.iinc 6 1, 3) := by decide +kernel
theorem dX9_saved_106 : decode cX9_saved 106 = .ok (.goto (-53), 3) := by decide +kernel
theorem dX9_saved_109 : decode cX9_saved 109 = .ok (.iconst (-1), 1) := by decide +kernel
theorem dX9_saved_110 : decode cX9_saved 110 = .ok (.ireturn, 1) := by decide +kernel
set_option maxRecDepth 20000 in
theorem ggX9_unlike_X9_customAt : GoodIn wsX9_unlike wsX9_customAt := goodIn_r _ [12, 13, 148, 149, 150, 151, 152, 153, 154, 155, 156, 157, 158] (by decide +kernel) (by decide +kernel)
set_option maxRecDepth 20000 in
theorem gX9_unlike_X9_customAt : GoodIn wsX9_unlike (wsV RX9 79 RX9 yX9_customAt wsX9_customAt) := goodIn_app (goodIn_of _ (by decide +kernel)) ggX9_unlike_X9_customAt
set_option maxRecDepth 20000 in
theorem ggX9_unlike_X9_dreamOf : GoodIn wsX9_unlike wsX9_dreamOf := goodIn_r _ [17, 2, 18, 19, 20, 21, 22, 23, 24, 25, 26, 27, 28, 29, 30, 31, 32, 33, 34, 35, 36, 37, 38, 39, 40, 41, 42, 43, 44, 45, 46, 47, 48, 49, 50, 51, 52, 53, 54, 55, 56, 57, 58, 59, 60, 61, 62, 63, 64, 65, 66, 67, 68, 69, 70, 71, 72, 73, 74, 75, 76, 77, 78, 79, 80, 81, 82, 83, 84, 85, 86, 87, 88, 89, 90, 91, 92, 93, 11, 94, 95, 96, 97, 98, 99, 100, 101, 102, 103, 104, 105, 106, 107, 108, 109, 110, 111, 112, 113, 114, 115, 116, 117, 118, 119, 120, 121, 122, 123, 124, 125, 126, 127, 128, 129, 130, 131, 132, 6, 133, 134, 135, 136, 137, 138, 139, 140, 141, 142, 143, 144, 145, 146, 147, 148, 149, 150, 151, 152, 153, 154, 155, 156, 157, 158, 159, 160, 161, 162, 163, 164, 165, 166, 167, 168, 169, 170, 171, 172, 173, 174, 175, 176, 177, 178, 179, 180, 181, 182, 183, 184, 185] (by decide +kernel) (by decide +kernel)
set_option maxRecDepth 20000 in
theorem gX9_unlike_X9_dreamOf : GoodIn wsX9_unlike (wsV RX9 150 RX9 yX9_dreamOf wsX9_dreamOf) := goodIn_app (goodIn_of _ (by decide +kernel)) ggX9_unlike_X9_dreamOf
theorem dX9_unlike_0 : decode cX9_unlike 0 = .ok (.aload_n 0, 1) := by decide +kernel
theorem dX9_unlike_1 : decode cX9_unlike 1 = .ok (.iload_n 1, 1) := by decide +kernel
theorem dX9_unlike_2 : decode cX9_unlike 2 = .ok (.invokevirtual 79, 3) := by decide +kernel
theorem dX9_unlike_5 : decode cX9_unlike 5 = .ok (.astore 4, 2) := by decide +kernel
theorem dX9_unlike_7 : decode cX9_unlike 7 = .ok (.aload_n 0, 1) := by decide +kernel
theorem dX9_unlike_8 : decode cX9_unlike 8 = .ok (.iload_n 2, 1) := by decide +kernel
theorem dX9_unlike_9 : decode cX9_unlike 9 = .ok (.invokevirtual 79, 3) := by decide +kernel
theorem dX9_unlike_12 : decode cX9_unlike 12 = .ok (.astore 5, 2) := by decide +kernel
theorem dX9_unlike_14 : decode cX9_unlike 14 = .ok (.aload 4, 2) := by decide +kernel
theorem dX9_unlike_16 : decode cX9_unlike 16 = .ok (.ifnull 8, 3) := by decide +kernel
theorem dX9_unlike_19 : decode cX9_unlike 19 = .ok (.aload 5, 2) := by decide +kernel
theorem dX9_unlike_21 : decode cX9_unlike 21 = .ok (.ifnonnull 6, 3) := by decide +kernel
theorem dX9_unlike_24 : decode cX9_unlike 24 = .ok (.bipush (-101), 2) := by decide +kernel
theorem dX9_unlike_26 : decode cX9_unlike 26 = .ok (.ireturn, 1) := by decide +kernel
theorem dX9_unlike_27 : decode cX9_unlike 27 = .ok (.iload_n 3, 1) := by decide +kernel
theorem dX9_unlike_28 : decode cX9_unlike 28 = .ok (.ifCond .lt 9, 3) := by decide +kernel
theorem dX9_unlike_31 : decode cX9_unlike 31 = .ok (.iload_n 3, 1) := by decide +kernel
theorem dX9_unlike_32 : decode cX9_unlike 32 = .ok (.bipush 60, 2) := by decide +kernel
theorem dX9_unlike_34 : decode cX9_unlike 34 = .ok (.if_icmp .le 6, 3) := by decide +kernel
theorem dX9_unlike_37 : decode cX9_unlike 37 = .ok (.bipush (-102), 2) := by decide +kernel
theorem dX9_unlike_39 : decode cX9_unlike 39 = .ok (.ireturn, 1) := by decide +kernel
theorem dX9_unlike_40 : decode cX9_unlike 40 = .ok (.aload_n 0, 1) := by decide +kernel
theorem dX9_unlike_41 : decode cX9_unlike 41 = .ok (.aload 4, 2) := by decide +kernel
theorem dX9_unlike_43 : decode cX9_unlike 43 = .ok (.iload_n 3, 1) := by decide +kernel
theorem dX9_unlike_44 : decode cX9_unlike 44 = .ok (.invokevirtual 150, 3) := by decide +kernel
theorem dX9_unlike_47 : decode cX9_unlike 47 = .ok (.iconst 0, 1) := by decide +kernel
theorem dX9_unlike_48 : decode cX9_unlike 48 = .ok (.istore 6, 2) := by decide +kernel
theorem dX9_unlike_50 : decode cX9_unlike 50 = .ok (.iload 6, 2) := by decide +kernel
theorem dX9_unlike_52 : decode cX9_unlike 52 = .ok (.bipush 7, 2) := by decide +kernel
theorem dX9_unlike_54 : decode cX9_unlike 54 = .ok (.if_icmp .ge 26, 3) := by decide +kernel
theorem dX9_unlike_57 : decode cX9_unlike 57 = .ok (.aload_n 0, 1) := by decide +kernel
theorem dX9_unlike_58 : decode cX9_unlike 58 = .ok (.getfield 41, 3) := by decide +kernel
theorem dX9_unlike_61 : decode cX9_unlike 61 = .ok (.iload 6, 2) := by decide +kernel
theorem dX9_unlike_63 : decode cX9_unlike 63 = .ok (.aload_n 0, 1) := by decide +kernel
theorem dX9_unlike_64 : decode cX9_unlike 64 = .ok (.getfield 38, 3) := by decide +kernel
theorem dX9_unlike_67 : decode cX9_unlike 67 = .ok (.getfield 127, 3) := by decide +kernel
theorem dX9_unlike_70 : decode cX9_unlike 70 = .ok (.iload 6, 2) := by decide +kernel
theorem dX9_unlike_72 : decode cX9_unlike 72 = .ok (.iaload, 1) := by decide +kernel
theorem dX9_unlike_73 : decode cX9_unlike 73 = .ok (.iastore, 1) := by decide +kernel
theorem dX9_unlike_74 : decode cX9_unlike 74 = .ok (.iinc 6 1, 3) := by decide +kernel
theorem dX9_unlike_77 : decode cX9_unlike 77 = .ok (.goto (-27), 3) := by decide +kernel
theorem dX9_unlike_80 : decode cX9_unlike 80 = .ok (.aload_n 0, 1) := by decide +kernel
theorem dX9_unlike_81 : decode cX9_unlike 81 = .ok (.aload 5, 2) := by decide +kernel
theorem dX9_unlike_83 : decode cX9_unlike 83 = .ok (.iload_n 3, 1) := by decide +kernel
theorem dX9_unlike_84 : decode cX9_unlike 84 = .ok (.invokevirtual 150, 3) := by decide +kernel
theorem dX9_unlike_87 : decode cX9_unlike 87 = .ok (.iconst 0, 1) := by decide +kernel
theorem dX9_unlike_88 : decode cX9_unlike 88 = .ok (.istore 6, 2) := by decide +kernel
theorem dX9_unlike_90 : decode cX9_unlike 90 = .ok (.iconst 0, 1) := by decide +kernel
theorem dX9_unlike_91 : decode cX9_unlike 91 = .ok (.istore 7, 2) := by decide +kernel
theorem dX9_unlike_93 : decode cX9_unlike 93 = .ok (.iload 7, 2) := by decide +kernel
theorem dX9_unlike_95 : decode cX9_unlike 95 = .ok (.bipush 7, 2) := by decide +kernel
theorem dX9_unlike_97 : decode cX9_unlike 97 = .ok (.if_icmp .ge 35, 3) := by decide +kernel
theorem dX9_unlike_100 : decode cX9_unlike 100 = .ok (.iload 6, 2) := by decide +kernel
theorem dX9_unlike_102 : decode cX9_unlike 102 = .ok (.aload_n 0, 1) := by decide +kernel
theorem dX9_unlike_103 : decode cX9_unlike 103 = .ok (.getfield 41, 3) := by decide +kernel
theorem dX9_unlike_106 : decode cX9_unlike 106 = .ok (.iload 7, 2) := by decide +kernel
theorem dX9_unlike_108 : decode cX9_unlike 108 = .ok (.iaload, 1) := by decide +kernel
theorem dX9_unlike_109 : decode cX9_unlike 109 = .ok (.aload_n 0, 1) := by decide +kernel
theorem dX9_unlike_110 : decode cX9_unlike 110 = .ok (.getfield 38, 3) := by decide +kernel
theorem dX9_unlike_113 : decode cX9_unlike 113 = .ok (.getfield 127, 3) := by decide +kernel
theorem dX9_unlike_116 : decode cX9_unlike 116 = .ok (.iload 7, 2) := by decide +kernel
theorem dX9_unlike_118 : decode cX9_unlike 118 = .ok (.iaload, 1) := by decide +kernel
theorem dX9_unlike_119 : decode cX9_unlike 119 = .ok (.isub, 1) := by decide +kernel
theorem dX9_unlike_120 : decode cX9_unlike 120 = .ok (.invokestatic 207, 3) := by decide +kernel
theorem dX9_unlike_123 : decode cX9_unlike 123 = .ok (.iadd, 1) := by decide +kernel
theorem dX9_unlike_124 : decode cX9_unlike 124 = .ok (.istore 6, 2) := by decide +kernel
theorem dX9_unlike_126 : decode cX9_unlike 126 = .ok (.iinc 7 1, 3) := by decide +kernel
theorem dX9_unlike_129 : decode cX9_unlike 129 = .ok (.goto (-36), 3) := by decide +kernel
theorem dX9_unlike_132 : decode cX9_unlike 132 = .ok (.iload 6, 2) := by decide +kernel
theorem dX9_unlike_134 : decode cX9_unlike 134 = .ok (.ireturn, 1) := by decide +kernel
set_option maxRecDepth 20000 in
theorem ggX9_lie_X9_isCairn : GoodIn wsX9_lie wsX9_isCairn := goodIn_r _ [6] (by decide +kernel) (by decide +kernel)
set_option maxRecDepth 20000 in
theorem gX9_lie_X9_isCairn : GoodIn wsX9_lie (va_wsS RX9 119 yX9_isCairn wsX9_isCairn) := goodIn_app (goodIn_of _ (by decide +kernel)) ggX9_lie_X9_isCairn
set_option maxRecDepth 20000 in
theorem ggX9_lie_X2_pebbles : GoodIn wsX9_lie wsX2_pebbles := goodIn_r _ [11, 12, 28, 29, 30, 31, 32, 33, 34, 35] (by decide +kernel) (by decide +kernel)
set_option maxRecDepth 20000 in
theorem gX9_lie_X2_pebbles : GoodIn wsX9_lie (wsV RX9 147 RX2 yX2_pebbles wsX2_pebbles) := goodIn_app (goodIn_of _ (by decide +kernel)) ggX9_lie_X2_pebbles
set_option maxRecDepth 20000 in
theorem ggX9_lie_X2_surplusOver : GoodIn wsX9_lie wsX2_surplusOver := goodIn_r _ [16, 12, 28, 29, 30, 31, 32, 33, 34, 35] (by decide +kernel) (by decide +kernel)
set_option maxRecDepth 20000 in
theorem gX9_lie_X2_surplusOver : GoodIn wsX9_lie (wsV RX9 212 RX2 yX2_surplusOver wsX2_surplusOver) := goodIn_app (goodIn_of _ (by decide +kernel)) ggX9_lie_X2_surplusOver
theorem dX9_lie_0 : decode cX9_lie 0 = .ok (.iload_n 1, 1) := by decide +kernel
theorem dX9_lie_1 : decode cX9_lie 1 = .ok (.invokestatic 119, 3) := by decide +kernel
theorem dX9_lie_4 : decode cX9_lie 4 = .ok (.ifCond .ne 6, 3) := by decide +kernel
theorem dX9_lie_7 : decode cX9_lie 7 = .ok (.bipush (-101), 2) := by decide +kernel
theorem dX9_lie_9 : decode cX9_lie 9 = .ok (.ireturn, 1) := by decide +kernel
theorem dX9_lie_10 : decode cX9_lie 10 = .ok (.aload_n 0, 1) := by decide +kernel
theorem dX9_lie_11 : decode cX9_lie 11 = .ok (.getfield 31, 3) := by decide +kernel
theorem dX9_lie_14 : decode cX9_lie 14 = .ok (.getfield 127, 3) := by decide +kernel
theorem dX9_lie_17 : decode cX9_lie 17 = .ok (.iload_n 1, 1) := by decide +kernel
theorem dX9_lie_18 : decode cX9_lie 18 = .ok (.iaload, 1) := by decide +kernel
theorem dX9_lie_19 : decode cX9_lie 19 = .ok (.istore_n 2, 1) := by decide +kernel
theorem dX9_lie_20 : decode cX9_lie 20 = .ok (.aload_n 0, 1) := by decide +kernel
theorem dX9_lie_21 : decode cX9_lie 21 = .ok (.getfield 31, 3) := by decide +kernel
theorem dX9_lie_24 : decode cX9_lie 24 = .ok (.invokevirtual 147, 3) := by decide +kernel
theorem dX9_lie_27 : decode cX9_lie 27 = .ok (.iload_n 2, 1) := by decide +kernel
theorem dX9_lie_28 : decode cX9_lie 28 = .ok (.isub, 1) := by decide +kernel
theorem dX9_lie_29 : decode cX9_lie 29 = .ok (.istore_n 3, 1) := by decide +kernel
theorem dX9_lie_30 : decode cX9_lie 30 = .ok (.iconst 0, 1) := by decide +kernel
theorem dX9_lie_31 : decode cX9_lie 31 = .ok (.istore 4, 2) := by decide +kernel
theorem dX9_lie_33 : decode cX9_lie 33 = .ok (.iload 4, 2) := by decide +kernel
theorem dX9_lie_35 : decode cX9_lie 35 = .ok (.iload_n 3, 1) := by decide +kernel
theorem dX9_lie_36 : decode cX9_lie 36 = .ok (.if_icmp .gt 31, 3) := by decide +kernel
theorem dX9_lie_39 : decode cX9_lie 39 = .ok (.aload_n 0, 1) := by decide +kernel
theorem dX9_lie_40 : decode cX9_lie 40 = .ok (.getfield 31, 3) := by decide +kernel
theorem dX9_lie_43 : decode cX9_lie 43 = .ok (.iload_n 2, 1) := by decide +kernel
theorem dX9_lie_44 : decode cX9_lie 44 = .ok (.iload 4, 2) := by decide +kernel
theorem dX9_lie_46 : decode cX9_lie 46 = .ok (.iadd, 1) := by decide +kernel
theorem dX9_lie_47 : decode cX9_lie 47 = .ok (.iconst 1, 1) := by decide +kernel
theorem dX9_lie_48 : decode cX9_lie 48 = .ok (.isub, 1) := by decide +kernel
theorem dX9_lie_49 : decode cX9_lie 49 = .ok (.iload_n 1, 1) := by decide +kernel
theorem dX9_lie_50 : decode cX9_lie 50 = .ok (.invokevirtual 212, 3) := by decide +kernel
theorem dX9_lie_53 : decode cX9_lie 53 = .ok (.iload 4, 2) := by decide +kernel
theorem dX9_lie_55 : decode cX9_lie 55 = .ok (.if_icmp .gt 6, 3) := by decide +kernel
theorem dX9_lie_58 : decode cX9_lie 58 = .ok (.iload 4, 2) := by decide +kernel
theorem dX9_lie_60 : decode cX9_lie 60 = .ok (.ireturn, 1) := by decide +kernel
theorem dX9_lie_61 : decode cX9_lie 61 = .ok (.iinc 4 1, 3) := by decide +kernel
theorem dX9_lie_64 : decode cX9_lie 64 = .ok (.goto (-31), 3) := by decide +kernel
theorem dX9_lie_67 : decode cX9_lie 67 = .ok (.iconst (-1), 1) := by decide +kernel
theorem dX9_lie_68 : decode cX9_lie 68 = .ok (.ireturn, 1) := by decide +kernel
set_option maxRecDepth 20000 in
theorem ggX9_image_X2_become : GoodIn wsX9_image wsX2_become := goodIn_r _ [8, 9, 10, 11, 12, 13, 14, 15, 16, 17, 18, 19, 20, 36, 37, 38, 39, 40, 41, 42, 43] (by decide +kernel) (by decide +kernel)
set_option maxRecDepth 20000 in
theorem gX9_image_X2_become : GoodIn wsX9_image (wsV RX9 196 RX2 yX2_become wsX2_become) := goodIn_app (goodIn_of _ (by decide +kernel)) ggX9_image_X2_become
set_option maxRecDepth 20000 in
theorem ggX9_image_X2_pebbles : GoodIn wsX9_image wsX2_pebbles := goodIn_r _ [24, 9, 36, 37, 38, 39, 40, 41, 42, 43] (by decide +kernel) (by decide +kernel)
set_option maxRecDepth 20000 in
theorem gX9_image_X2_pebbles : GoodIn wsX9_image (wsV RX9 147 RX2 yX2_pebbles wsX2_pebbles) := goodIn_app (goodIn_of _ (by decide +kernel)) ggX9_image_X2_pebbles
theorem dX9_image_0 : decode cX9_image 0 = .ok (.aload_n 0, 1) := by decide +kernel
theorem dX9_image_1 : decode cX9_image 1 = .ok (.getfield 35, 3) := by decide +kernel
theorem dX9_image_4 : decode cX9_image 4 = .ok (.aload_n 0, 1) := by decide +kernel
theorem dX9_image_5 : decode cX9_image 5 = .ok (.getfield 31, 3) := by decide +kernel
theorem dX9_image_8 : decode cX9_image 8 = .ok (.invokevirtual 196, 3) := by decide +kernel
theorem dX9_image_11 : decode cX9_image 11 = .ok (.aload_n 0, 1) := by decide +kernel
theorem dX9_image_12 : decode cX9_image 12 = .ok (.iconst 1, 1) := by decide +kernel
theorem dX9_image_13 : decode cX9_image 13 = .ok (.putfield 215, 3) := by decide +kernel
theorem dX9_image_16 : decode cX9_image 16 = .ok (.aload_n 0, 1) := by decide +kernel
theorem dX9_image_17 : decode cX9_image 17 = .ok (.getfield 31, 3) := by decide +kernel
theorem dX9_image_20 : decode cX9_image 20 = .ok (.invokevirtual 147, 3) := by decide +kernel
theorem dX9_image_23 : decode cX9_image 23 = .ok (.ireturn, 1) := by decide +kernel
set_option maxRecDepth 20000 in
theorem ggX9_restore_X2_become : GoodIn wsX9_restore wsX2_become := goodIn_r _ [8, 9, 10, 11, 12, 13, 14, 15, 16, 17, 18, 19, 20, 36, 37, 38, 39, 40, 41, 42, 43] (by decide +kernel) (by decide +kernel)
set_option maxRecDepth 20000 in
theorem gX9_restore_X2_become : GoodIn wsX9_restore (wsV RX9 196 RX2 yX2_become wsX2_become) := goodIn_app (goodIn_of _ (by decide +kernel)) ggX9_restore_X2_become
set_option maxRecDepth 20000 in
theorem ggX9_restore_X2_pebbles : GoodIn wsX9_restore wsX2_pebbles := goodIn_r _ [24, 9, 36, 37, 38, 39, 40, 41, 42, 43] (by decide +kernel) (by decide +kernel)
set_option maxRecDepth 20000 in
theorem gX9_restore_X2_pebbles : GoodIn wsX9_restore (wsV RX9 147 RX2 yX2_pebbles wsX2_pebbles) := goodIn_app (goodIn_of _ (by decide +kernel)) ggX9_restore_X2_pebbles
theorem dX9_restore_0 : decode cX9_restore 0 = .ok (.aload_n 0, 1) := by decide +kernel
theorem dX9_restore_1 : decode cX9_restore 1 = .ok (.getfield 215, 3) := by decide +kernel
theorem dX9_restore_4 : decode cX9_restore 4 = .ok (.ifCond .ne 6, 3) := by decide +kernel
theorem dX9_restore_7 : decode cX9_restore 7 = .ok (.bipush (-103), 2) := by decide +kernel
theorem dX9_restore_9 : decode cX9_restore 9 = .ok (.ireturn, 1) := by decide +kernel
theorem dX9_restore_10 : decode cX9_restore 10 = .ok (.aload_n 0, 1) := by decide +kernel
theorem dX9_restore_11 : decode cX9_restore 11 = .ok (.getfield 31, 3) := by decide +kernel
theorem dX9_restore_14 : decode cX9_restore 14 = .ok (.aload_n 0, 1) := by decide +kernel
theorem dX9_restore_15 : decode cX9_restore 15 = .ok (.getfield 35, 3) := by decide +kernel
theorem dX9_restore_18 : decode cX9_restore 18 = .ok (.invokevirtual 196, 3) := by decide +kernel
theorem dX9_restore_21 : decode cX9_restore 21 = .ok (.aload_n 0, 1) := by decide +kernel
theorem dX9_restore_22 : decode cX9_restore 22 = .ok (.getfield 31, 3) := by decide +kernel
theorem dX9_restore_25 : decode cX9_restore 25 = .ok (.invokevirtual 147, 3) := by decide +kernel
theorem dX9_restore_28 : decode cX9_restore 28 = .ok (.ireturn, 1) := by decide +kernel
set_option maxRecDepth 20000 in
theorem ggX9_count_X2_pebbles : GoodIn wsX9_count wsX2_pebbles := goodIn_r _ [16, 17, 29, 30, 31, 32, 33, 34, 35, 36] (by decide +kernel) (by decide +kernel)
set_option maxRecDepth 20000 in
theorem gX9_count_X2_pebbles : GoodIn wsX9_count (wsV RX9 147 RX2 yX2_pebbles wsX2_pebbles) := goodIn_app (goodIn_of _ (by decide +kernel)) ggX9_count_X2_pebbles
theorem dX9_count_0 : decode cX9_count 0 = .ok (.iload_n 1, 1) := by decide +kernel
theorem dX9_count_1 : decode cX9_count 1 = .ok (.tableswitch 129 0 9 #[55, 60, 65, 73, 81, 89, 97, 105, 113, 121], 55) := by decide +kernel
theorem dX9_count_56 : decode cX9_count 56 = .ok (.aload_n 0, 1) := by decide +kernel
theorem dX9_count_57 : decode cX9_count 57 = .ok (.getfield 94, 3) := by decide +kernel
theorem dX9_count_60 : decode cX9_count 60 = .ok (.ireturn, 1) := by decide +kernel
theorem dX9_count_61 : decode cX9_count 61 = .ok (.aload_n 0, 1) := by decide +kernel
theorem dX9_count_62 : decode cX9_count 62 = .ok (.getfield 72, 3) := by decide +kernel
theorem dX9_count_65 : decode cX9_count 65 = .ok (.ireturn, 1) := by decide +kernel
theorem dX9_count_66 : decode cX9_count 66 = .ok (.aload_n 0, 1) := by decide +kernel
theorem dX9_count_67 : decode cX9_count 67 = .ok (.getfield 31, 3) := by decide +kernel
theorem dX9_count_70 : decode cX9_count 70 = .ok (.invokevirtual 147, 3) := by decide +kernel
theorem dX9_count_73 : decode cX9_count 73 = .ok (.ireturn, 1) := by decide +kernel
theorem dX9_count_74 : decode cX9_count 74 = .ok (.aload_n 0, 1) := by decide +kernel
theorem dX9_count_75 : decode cX9_count 75 = .ok (.getfield 31, 3) := by decide +kernel
theorem dX9_count_78 : decode cX9_count 78 = .ok (.getfield 140, 3) := by decide +kernel
theorem dX9_count_81 : decode cX9_count 81 = .ok (.ireturn, 1) := by decide +kernel
theorem dX9_count_82 : decode cX9_count 82 = .ok (.aload_n 0, 1) := by decide +kernel
theorem dX9_count_83 : decode cX9_count 83 = .ok (.getfield 31, 3) := by decide +kernel
theorem dX9_count_86 : decode cX9_count 86 = .ok (.getfield 137, 3) := by decide +kernel
theorem dX9_count_89 : decode cX9_count 89 = .ok (.ireturn, 1) := by decide +kernel
theorem dX9_count_90 : decode cX9_count 90 = .ok (.aload_n 0, 1) := by decide +kernel
theorem dX9_count_91 : decode cX9_count 91 = .ok (.getfield 31, 3) := by decide +kernel
theorem dX9_count_94 : decode cX9_count 94 = .ok (.getfield 219, 3) := by decide +kernel
theorem dX9_count_97 : decode cX9_count 97 = .ok (.ireturn, 1) := by decide +kernel
theorem dX9_count_98 : decode cX9_count 98 = .ok (.aload_n 0, 1) := by decide +kernel
theorem dX9_count_99 : decode cX9_count 99 = .ok (.getfield 31, 3) := by decide +kernel
theorem dX9_count_102 : decode cX9_count 102 = .ok (.getfield 222, 3) := by decide +kernel
theorem dX9_count_105 : decode cX9_count 105 = .ok (.ireturn, 1) := by decide +kernel
theorem dX9_count_106 : decode cX9_count 106 = .ok (.aload_n 0, 1) := by decide +kernel
theorem dX9_count_107 : decode cX9_count 107 = .ok (.getfield 31, 3) := by decide +kernel
theorem dX9_count_110 : decode cX9_count 110 = .ok (.getfield 225, 3) := by decide +kernel
theorem dX9_count_113 : decode cX9_count 113 = .ok (.ireturn, 1) := by decide +kernel
theorem dX9_count_114 : decode cX9_count 114 = .ok (.aload_n 0, 1) := by decide +kernel
theorem dX9_count_115 : decode cX9_count 115 = .ok (.getfield 31, 3) := by decide +kernel
theorem dX9_count_118 : decode cX9_count 118 = .ok (.getfield 228, 3) := by decide +kernel
theorem dX9_count_121 : decode cX9_count 121 = .ok (.ireturn, 1) := by decide +kernel
theorem dX9_count_122 : decode cX9_count 122 = .ok (.aload_n 0, 1) := by decide +kernel
theorem dX9_count_123 : decode cX9_count 123 = .ok (.getfield 12, 3) := by decide +kernel
theorem dX9_count_126 : decode cX9_count 126 = .ok (.getfield 56, 3) := by decide +kernel
theorem dX9_count_129 : decode cX9_count 129 = .ok (.ireturn, 1) := by decide +kernel
theorem dX9_count_130 : decode cX9_count 130 = .ok (.bipush (-102), 2) := by decide +kernel
theorem dX9_count_132 : decode cX9_count 132 = .ok (.ireturn, 1) := by decide +kernel
set_option maxRecDepth 20000 in
theorem ggX9_digest_X9_withCairns : GoodIn wsX9_digest wsX9_withCairns := goodIn_r _ [10, 2, 11, 12, 13, 14, 15, 16, 17, 18, 19, 20, 9, 21, 309, 310, 311, 312, 313, 314, 315, 316, 317, 318, 319, 322, 323, 324, 325, 326, 327, 328, 329] (by decide +kernel) (by decide +kernel)
set_option maxRecDepth 20000 in
theorem gX9_digest_X9_withCairns : GoodIn wsX9_digest (wsV RX9 233 RX9 yX9_withCairns wsX9_withCairns) := goodIn_app (goodIn_of _ (by decide +kernel)) ggX9_digest_X9_withCairns
set_option maxRecDepth 20000 in
theorem ggX9_digest_X9_withParishes : GoodIn wsX9_digest wsX9_withParishes := goodIn_r _ [25, 26, 2, 27, 28, 29, 30, 31, 32, 33, 34, 35, 36, 37, 38, 39, 40, 41, 42, 43, 44, 45, 46, 47, 48, 49, 50, 51, 52, 53, 54, 55, 56, 57, 58, 59, 60, 61, 62, 63, 64, 65, 66, 67, 68, 69, 70, 71, 72, 73, 309, 310, 311, 312, 313, 314, 315, 316, 317, 318, 319, 330, 331, 332, 333, 334, 335, 336, 337, 338, 339, 340, 341, 342, 343, 344, 345] (by decide +kernel) (by decide +kernel)
set_option maxRecDepth 20000 in
theorem gX9_digest_X9_withParishes : GoodIn wsX9_digest (wsV RX9 237 RX9 yX9_withParishes wsX9_withParishes) := goodIn_app (goodIn_of _ (by decide +kernel)) ggX9_digest_X9_withParishes
set_option maxRecDepth 20000 in
theorem ggX9_digest_X9_withCustoms : GoodIn wsX9_digest wsX9_withCustoms := goodIn_r _ [77, 78, 2, 79, 11, 26, 12, 80, 81, 82, 83, 84, 85, 86, 87, 88, 89, 90, 16, 91, 18, 92, 93, 94, 95, 19, 96, 97, 98, 99, 100, 101, 102, 103, 104, 105, 106, 107, 108, 109, 110, 111, 112, 113, 114, 115, 116, 117, 118, 119, 120, 121, 122, 123, 124, 125, 126, 127, 128, 129, 130, 131, 132, 133, 134, 57, 58, 59, 31, 60, 135, 62, 63, 64, 65, 50, 66, 67, 68, 69, 136, 137, 138, 139, 140, 141, 142, 143, 20, 9, 21, 144, 145, 146, 147, 148, 42, 149, 150, 151, 152, 153, 154, 155, 156, 157, 158, 159, 160, 54, 161, 162, 163, 164, 165, 166, 167, 168, 169, 170, 171, 172, 173, 174, 175, 176, 177, 178, 179, 180, 181, 182, 14, 15, 17, 183, 184, 185, 186, 187, 188, 189, 190, 309, 310, 311, 312, 313, 314, 315, 316, 317, 318, 319, 322, 323, 324, 325, 326, 327, 328, 329, 346, 347, 348, 330, 331, 332, 333, 334, 335, 336, 337, 338, 339, 340, 341, 342, 343, 344, 345] (by decide +kernel) (by decide +kernel)
set_option maxRecDepth 20000 in
theorem gX9_digest_X9_withCustoms : GoodIn wsX9_digest (wsV RX9 240 RX9 yX9_withCustoms wsX9_withCustoms) := goodIn_app (goodIn_of _ (by decide +kernel)) ggX9_digest_X9_withCustoms
set_option maxRecDepth 20000 in
theorem ggX9_digest_X9_bounds : GoodIn wsX9_digest wsX9_bounds := goodIn_r _ [194, 195, 26, 196, 197, 198, 199, 200, 201, 202, 203, 204, 205, 206, 207, 208, 209, 210, 211, 212, 213, 214, 215, 216, 217, 218, 219, 220, 221, 222, 223, 224, 225, 226, 227, 31, 228, 35, 36, 229, 230, 231, 232, 233, 234, 235, 236, 237, 238, 239, 240, 241, 242, 57, 58, 59, 60, 243, 62, 63, 64, 65, 50, 66, 67, 68, 69, 244, 245, 246, 247, 248, 249, 250, 251, 252, 54, 253, 254, 255, 256, 257, 258, 259, 260, 261, 262, 263, 264, 265, 266, 267, 268, 269, 270, 271, 272, 273, 274, 275, 276, 277, 278, 279, 280, 281, 282, 283, 284, 285, 286, 287, 288, 289, 290, 291, 292, 309, 310, 311, 312, 313, 314, 315, 316, 317, 318, 319, 349, 350, 330, 331, 332, 333, 334, 335, 336, 337, 338, 339, 340, 341, 342, 343, 344, 345] (by decide +kernel) (by decide +kernel)
set_option maxRecDepth 20000 in
theorem gX9_digest_X9_bounds : GoodIn wsX9_digest (wsV RX9 245 RX9 yX9_bounds wsX9_bounds) := goodIn_app (goodIn_of _ (by decide +kernel)) ggX9_digest_X9_bounds
set_option maxRecDepth 20000 in
theorem ggX9_digest_X9_count : GoodIn wsX9_digest wsX9_count := goodIn_r _ [296, 297, 298, 11, 299, 300, 301, 302, 303, 304, 3, 4, 305, 306, 307, 16, 308, 18, 309, 310, 311, 312, 313, 314, 315, 316, 317, 318, 319, 322, 323, 324, 325, 326, 327, 328, 329, 320, 321] (by decide +kernel) (by decide +kernel)
set_option maxRecDepth 20000 in
theorem gX9_digest_X9_count : GoodIn wsX9_digest (wsV RX9 251 RX9 yX9_count wsX9_count) := goodIn_app (goodIn_of _ (by decide +kernel)) ggX9_digest_X9_count
theorem dX9_digest_0 : decode cX9_digest 0 = .ok (.aload_n 0, 1) := by decide +kernel
theorem dX9_digest_1 : decode cX9_digest 1 = .ok (.ldc2_w 231, 3) := by decide +kernel
theorem dX9_digest_4 : decode cX9_digest 4 = .ok (.invokevirtual 233, 3) := by decide +kernel
theorem dX9_digest_7 : decode cX9_digest 7 = .ok (.lstore_n 1, 1) := by decide +kernel
theorem dX9_digest_8 : decode cX9_digest 8 = .ok (.aload_n 0, 1) := by decide +kernel
theorem dX9_digest_9 : decode cX9_digest 9 = .ok (.lload_n 1, 1) := by decide +kernel
theorem dX9_digest_10 : decode cX9_digest 10 = .ok (.invokevirtual 237, 3) := by decide +kernel
theorem dX9_digest_13 : decode cX9_digest 13 = .ok (.lstore_n 1, 1) := by decide +kernel
theorem dX9_digest_14 : decode cX9_digest 14 = .ok (.aload_n 0, 1) := by decide +kernel
theorem dX9_digest_15 : decode cX9_digest 15 = .ok (.lload_n 1, 1) := by decide +kernel
theorem dX9_digest_16 : decode cX9_digest 16 = .ok (.invokevirtual 240, 3) := by decide +kernel
theorem dX9_digest_19 : decode cX9_digest 19 = .ok (.lstore_n 1, 1) := by decide +kernel
theorem dX9_digest_20 : decode cX9_digest 20 = .ok (.iconst 0, 1) := by decide +kernel
theorem dX9_digest_21 : decode cX9_digest 21 = .ok (.istore_n 3, 1) := by decide +kernel
theorem dX9_digest_22 : decode cX9_digest 22 = .ok (.iload_n 3, 1) := by decide +kernel
theorem dX9_digest_23 : decode cX9_digest 23 = .ok (.iconst 3, 1) := by decide +kernel
theorem dX9_digest_24 : decode cX9_digest 24 = .ok (.if_icmp .gt 23, 3) := by decide +kernel
theorem dX9_digest_27 : decode cX9_digest 27 = .ok (.ldc2_w 243, 3) := by decide +kernel
theorem dX9_digest_30 : decode cX9_digest 30 = .ok (.lload_n 1, 1) := by decide +kernel
theorem dX9_digest_31 : decode cX9_digest 31 = .ok (.lmul, 1) := by decide +kernel
theorem dX9_digest_32 : decode cX9_digest 32 = .ok (.aload_n 0, 1) := by decide +kernel
theorem dX9_digest_33 : decode cX9_digest 33 = .ok (.iconst 1, 1) := by decide +kernel
theorem dX9_digest_34 : decode cX9_digest 34 = .ok (.iload_n 3, 1) := by decide +kernel
theorem dX9_digest_35 : decode cX9_digest 35 = .ok (.invokevirtual 245, 3) := by decide +kernel
theorem dX9_digest_38 : decode cX9_digest 38 = .ok (.i2l, 1) := by decide +kernel
theorem dX9_digest_39 : decode cX9_digest 39 = .ok (.ladd, 1) := by decide +kernel
theorem dX9_digest_40 : decode cX9_digest 40 = .ok (.lstore_n 1, 1) := by decide +kernel
theorem dX9_digest_41 : decode cX9_digest 41 = .ok (.iinc 3 1, 3) := by decide +kernel
theorem dX9_digest_44 : decode cX9_digest 44 = .ok (.goto (-22), 3) := by decide +kernel
theorem dX9_digest_47 : decode cX9_digest 47 = .ok (.iconst 0, 1) := by decide +kernel
theorem dX9_digest_48 : decode cX9_digest 48 = .ok (.istore_n 3, 1) := by decide +kernel
theorem dX9_digest_49 : decode cX9_digest 49 = .ok (.iload_n 3, 1) := by decide +kernel
theorem dX9_digest_50 : decode cX9_digest 50 = .ok (.aload_n 0, 1) := by decide +kernel
theorem dX9_digest_51 : decode cX9_digest 51 = .ok (.getfield 12, 3) := by decide +kernel
theorem dX9_digest_54 : decode cX9_digest 54 = .ok (.getfield 56, 3) := by decide +kernel
theorem dX9_digest_57 : decode cX9_digest 57 = .ok (.if_icmp .ge 32, 3) := by decide +kernel
theorem dX9_digest_60 : decode cX9_digest 60 = .ok (.iload_n 3, 1) := by decide +kernel
theorem dX9_digest_61 : decode cX9_digest 61 = .ok (.bipush 16, 2) := by decide +kernel
theorem dX9_digest_63 : decode cX9_digest 63 = .ok (.if_icmp .ge 26, 3) := by decide +kernel
theorem dX9_digest_66 : decode cX9_digest 66 = .ok (.ldc2_w 243, 3) := by decide +kernel
theorem dX9_digest_69 : decode cX9_digest 69 = .ok (.lload_n 1, 1) := by decide +kernel
theorem dX9_digest_70 : decode cX9_digest 70 = .ok (.lmul, 1) := by decide +kernel
theorem dX9_digest_71 : decode cX9_digest 71 = .ok (.aload_n 0, 1) := by decide +kernel
theorem dX9_digest_72 : decode cX9_digest 72 = .ok (.getfield 12, 3) := by decide +kernel
theorem dX9_digest_75 : decode cX9_digest 75 = .ok (.getfield 248, 3) := by decide +kernel
theorem dX9_digest_78 : decode cX9_digest 78 = .ok (.iload_n 3, 1) := by decide +kernel
theorem dX9_digest_79 : decode cX9_digest 79 = .ok (.iaload, 1) := by decide +kernel
theorem dX9_digest_80 : decode cX9_digest 80 = .ok (.i2l, 1) := by decide +kernel
theorem dX9_digest_81 : decode cX9_digest 81 = .ok (.ladd, 1) := by decide +kernel
theorem dX9_digest_82 : decode cX9_digest 82 = .ok (.lstore_n 1, 1) := by decide +kernel
theorem dX9_digest_83 : decode cX9_digest 83 = .ok (.iinc 3 1, 3) := by decide +kernel
theorem dX9_digest_86 : decode cX9_digest 86 = .ok (.goto (-37), 3) := by decide +kernel
theorem dX9_digest_89 : decode cX9_digest 89 = .ok (.iconst 0, 1) := by decide +kernel
theorem dX9_digest_90 : decode cX9_digest 90 = .ok (.istore_n 3, 1) := by decide +kernel
theorem dX9_digest_91 : decode cX9_digest 91 = .ok (.iload_n 3, 1) := by decide +kernel
theorem dX9_digest_92 : decode cX9_digest 92 = .ok (.bipush 9, 2) := by decide +kernel
theorem dX9_digest_94 : decode cX9_digest 94 = .ok (.if_icmp .gt 22, 3) := by decide +kernel
theorem dX9_digest_97 : decode cX9_digest 97 = .ok (.ldc2_w 243, 3) := by decide +kernel
theorem dX9_digest_100 : decode cX9_digest 100 = .ok (.lload_n 1, 1) := by decide +kernel
theorem dX9_digest_101 : decode cX9_digest 101 = .ok (.lmul, 1) := by decide +kernel
theorem dX9_digest_102 : decode cX9_digest 102 = .ok (.aload_n 0, 1) := by decide +kernel
theorem dX9_digest_103 : decode cX9_digest 103 = .ok (.iload_n 3, 1) := by decide +kernel
theorem dX9_digest_104 : decode cX9_digest 104 = .ok (.invokevirtual 251, 3) := by decide +kernel
theorem dX9_digest_107 : decode cX9_digest 107 = .ok (.i2l, 1) := by decide +kernel
theorem dX9_digest_108 : decode cX9_digest 108 = .ok (.ladd, 1) := by decide +kernel
theorem dX9_digest_109 : decode cX9_digest 109 = .ok (.lstore_n 1, 1) := by decide +kernel
theorem dX9_digest_110 : decode cX9_digest 110 = .ok (.iinc 3 1, 3) := by decide +kernel
theorem dX9_digest_113 : decode cX9_digest 113 = .ok (.goto (-22), 3) := by decide +kernel
theorem dX9_digest_116 : decode cX9_digest 116 = .ok (.lload_n 1, 1) := by decide +kernel
theorem dX9_digest_117 : decode cX9_digest 117 = .ok (.lreturn, 1) := by decide +kernel
set_option maxRecDepth 20000 in
theorem ggX9_withCairns_X2_markAt : GoodIn wsX9_withCairns wsX2_markAt := goodIn_r _ [8, 9, 10, 11, 12, 13, 25, 26, 27, 28, 29, 30, 31, 32] (by decide +kernel) (by decide +kernel)
set_option maxRecDepth 20000 in
theorem gX9_withCairns_X2_markAt : GoodIn wsX9_withCairns (wsV RX9 133 RX2 yX2_markAt wsX2_markAt) := goodIn_app (goodIn_of _ (by decide +kernel)) ggX9_withCairns_X2_markAt
theorem dX9_withCairns_0 : decode cX9_withCairns 0 = .ok (.lload_n 1, 1) := by decide +kernel
theorem dX9_withCairns_1 : decode cX9_withCairns 1 = .ok (.lstore_n 3, 1) := by decide +kernel
theorem dX9_withCairns_2 : decode cX9_withCairns 2 = .ok (.iconst 0, 1) := by decide +kernel
theorem dX9_withCairns_3 : decode cX9_withCairns 3 = .ok (.istore 5, 2) := by decide +kernel
theorem dX9_withCairns_5 : decode cX9_withCairns 5 = .ok (.iload 5, 2) := by decide +kernel
theorem dX9_withCairns_7 : decode cX9_withCairns 7 = .ok (.bipush 7, 2) := by decide +kernel
theorem dX9_withCairns_9 : decode cX9_withCairns 9 = .ok (.if_icmp .ge 70, 3) := by decide +kernel
theorem dX9_withCairns_12 : decode cX9_withCairns 12 = .ok (.ldc2_w 243, 3) := by decide +kernel
theorem dX9_withCairns_15 : decode cX9_withCairns 15 = .ok (.lload_n 3, 1) := by decide +kernel
theorem dX9_withCairns_16 : decode cX9_withCairns 16 = .ok (.lmul, 1) := by decide +kernel
theorem dX9_withCairns_17 : decode cX9_withCairns 17 = .ok (.aload_n 0, 1) := by decide +kernel
theorem dX9_withCairns_18 : decode cX9_withCairns 18 = .ok (.getfield 31, 3) := by decide +kernel
theorem dX9_withCairns_21 : decode cX9_withCairns 21 = .ok (.getfield 127, 3) := by decide +kernel
theorem dX9_withCairns_24 : decode cX9_withCairns 24 = .ok (.iload 5, 2) := by decide +kernel
theorem dX9_withCairns_26 : decode cX9_withCairns 26 = .ok (.iaload, 1) := by decide +kernel
theorem dX9_withCairns_27 : decode cX9_withCairns 27 = .ok (.i2l, 1) := by decide +kernel
theorem dX9_withCairns_28 : decode cX9_withCairns 28 = .ok (.ladd, 1) := by decide +kernel
theorem dX9_withCairns_29 : decode cX9_withCairns 29 = .ok (.lstore_n 3, 1) := by decide +kernel
theorem dX9_withCairns_30 : decode cX9_withCairns 30 = .ok (.iconst 0, 1) := by decide +kernel
theorem dX9_withCairns_31 : decode cX9_withCairns 31 = .ok (.istore 6, 2) := by decide +kernel
theorem dX9_withCairns_33 : decode cX9_withCairns 33 = .ok (.iload 6, 2) := by decide +kernel
theorem dX9_withCairns_35 : decode cX9_withCairns 35 = .ok (.aload_n 0, 1) := by decide +kernel
theorem dX9_withCairns_36 : decode cX9_withCairns 36 = .ok (.getfield 31, 3) := by decide +kernel
theorem dX9_withCairns_39 : decode cX9_withCairns 39 = .ok (.getfield 127, 3) := by decide +kernel
theorem dX9_withCairns_42 : decode cX9_withCairns 42 = .ok (.iload 5, 2) := by decide +kernel
theorem dX9_withCairns_44 : decode cX9_withCairns 44 = .ok (.iaload, 1) := by decide +kernel
theorem dX9_withCairns_45 : decode cX9_withCairns 45 = .ok (.if_icmp .ge 28, 3) := by decide +kernel
theorem dX9_withCairns_48 : decode cX9_withCairns 48 = .ok (.ldc2_w 243, 3) := by decide +kernel
theorem dX9_withCairns_51 : decode cX9_withCairns 51 = .ok (.lload_n 3, 1) := by decide +kernel
theorem dX9_withCairns_52 : decode cX9_withCairns 52 = .ok (.lmul, 1) := by decide +kernel
theorem dX9_withCairns_53 : decode cX9_withCairns 53 = .ok (.aload_n 0, 1) := by decide +kernel
theorem dX9_withCairns_54 : decode cX9_withCairns 54 = .ok (.getfield 31, 3) := by decide +kernel
theorem dX9_withCairns_57 : decode cX9_withCairns 57 = .ok (.iload 5, 2) := by decide +kernel
theorem dX9_withCairns_59 : decode cX9_withCairns 59 = .ok (.iload 6, 2) := by decide +kernel
theorem dX9_withCairns_61 : decode cX9_withCairns 61 = .ok (.invokevirtual 133, 3) := by decide +kernel
theorem dX9_withCairns_64 : decode cX9_withCairns 64 = .ok (.i2l, 1) := by decide +kernel
theorem dX9_withCairns_65 : decode cX9_withCairns 65 = .ok (.ladd, 1) := by decide +kernel
theorem dX9_withCairns_66 : decode cX9_withCairns 66 = .ok (.lstore_n 3, 1) := by decide +kernel
theorem dX9_withCairns_67 : decode cX9_withCairns 67 = .ok (.iinc 6 1, 3) := by decide +kernel
theorem dX9_withCairns_70 : decode cX9_withCairns 70 = .ok (.goto (-37), 3) := by decide +kernel
theorem dX9_withCairns_73 : decode cX9_withCairns 73 = .ok (.iinc 5 1, 3) := by decide +kernel
theorem dX9_withCairns_76 : decode cX9_withCairns 76 = .ok (.goto (-71), 3) := by decide +kernel
theorem dX9_withCairns_79 : decode cX9_withCairns 79 = .ok (.lload_n 3, 1) := by decide +kernel
theorem dX9_withCairns_80 : decode cX9_withCairns 80 = .ok (.lreturn, 1) := by decide +kernel
set_option maxRecDepth 20000 in
theorem ggX9_withParishes_X5_told : GoodIn wsX9_withParishes wsX5_told := goodIn_r _ [8, 9, 10, 11, 12, 13, 14, 15, 16, 17, 18, 19, 20, 21, 22, 23, 7, 24, 25, 26, 27, 28, 29, 30, 31, 32, 33, 34, 35, 36, 37, 38, 39, 40, 41, 42, 43, 44, 45, 61, 62, 63, 64, 65, 66, 67, 68, 69, 70, 71, 72, 73, 74, 75, 76] (by decide +kernel) (by decide +kernel)
set_option maxRecDepth 20000 in
theorem gX9_withParishes_X5_told_u118X0 : GoodIn wsX9_withParishes (va_wsU RX9 118 RX0 "KneelingStones$Parish" ⟨"KneelingStones$Parish", "told", "(I)I"⟩ yX5_told wsX5_told) := goodIn_app (goodIn_of _ (by decide +kernel)) ggX9_withParishes_X5_told
set_option maxRecDepth 20000 in
theorem gX9_withParishes_X5_told : GoodIn wsX9_withParishes (wsV RX9 118 RX5 yX5_told wsX5_told) := goodIn_app (goodIn_of _ (by decide +kernel)) ggX9_withParishes_X5_told
set_option maxRecDepth 20000 in
theorem gX9_withParishes_X5_told_u118X6 : GoodIn wsX9_withParishes (va_wsU RX9 118 RX6 "KneelingStones$Parish" ⟨"KneelingStones$Parish", "told", "(I)I"⟩ yX5_told wsX5_told) := goodIn_app (goodIn_of _ (by decide +kernel)) ggX9_withParishes_X5_told
set_option maxRecDepth 20000 in
theorem gX9_withParishes_X5_told_u118X7 : GoodIn wsX9_withParishes (va_wsU RX9 118 RX7 "KneelingStones$Parish" ⟨"KneelingStones$Parish", "told", "(I)I"⟩ yX5_told wsX5_told) := goodIn_app (goodIn_of _ (by decide +kernel)) ggX9_withParishes_X5_told
theorem dX9_withParishes_0 : decode cX9_withParishes 0 = .ok (.lload_n 1, 1) := by decide +kernel
theorem dX9_withParishes_1 : decode cX9_withParishes 1 = .ok (.lstore_n 3, 1) := by decide +kernel
theorem dX9_withParishes_2 : decode cX9_withParishes 2 = .ok (.iconst 0, 1) := by decide +kernel
theorem dX9_withParishes_3 : decode cX9_withParishes 3 = .ok (.istore 5, 2) := by decide +kernel
theorem dX9_withParishes_5 : decode cX9_withParishes 5 = .ok (.iload 5, 2) := by decide +kernel
theorem dX9_withParishes_7 : decode cX9_withParishes 7 = .ok (.bipush 6, 2) := by decide +kernel
theorem dX9_withParishes_9 : decode cX9_withParishes 9 = .ok (.if_icmp .ge 56, 3) := by decide +kernel
theorem dX9_withParishes_12 : decode cX9_withParishes 12 = .ok (.aload_n 0, 1) := by decide +kernel
theorem dX9_withParishes_13 : decode cX9_withParishes 13 = .ok (.getfield 24, 3) := by decide +kernel
theorem dX9_withParishes_16 : decode cX9_withParishes 16 = .ok (.iload 5, 2) := by decide +kernel
theorem dX9_withParishes_18 : decode cX9_withParishes 18 = .ok (.aaload, 1) := by decide +kernel
theorem dX9_withParishes_19 : decode cX9_withParishes 19 = .ok (.astore 6, 2) := by decide +kernel
theorem dX9_withParishes_21 : decode cX9_withParishes 21 = .ok (.aload 6, 2) := by decide +kernel
theorem dX9_withParishes_23 : decode cX9_withParishes 23 = .ok (.ifnonnull 6, 3) := by decide +kernel
theorem dX9_withParishes_26 : decode cX9_withParishes 26 = .ok (.goto 39, 3) := by decide +kernel
theorem dX9_withParishes_29 : decode cX9_withParishes 29 = .ok (.iconst 0, 1) := by decide +kernel
theorem dX9_withParishes_30 : decode cX9_withParishes 30 = .ok (.istore 7, 2) := by decide +kernel
theorem dX9_withParishes_32 : decode cX9_withParishes 32 = .ok (.iload 7, 2) := by decide +kernel
theorem dX9_withParishes_34 : decode cX9_withParishes 34 = .ok (.iconst 5, 1) := by decide +kernel
theorem dX9_withParishes_35 : decode cX9_withParishes 35 = .ok (.if_icmp .gt 24, 3) := by decide +kernel
theorem dX9_withParishes_38 : decode cX9_withParishes 38 = .ok (.ldc2_w 243, 3) := by decide +kernel
theorem dX9_withParishes_41 : decode cX9_withParishes 41 = .ok (.lload_n 3, 1) := by decide +kernel
theorem dX9_withParishes_42 : decode cX9_withParishes 42 = .ok (.lmul, 1) := by decide +kernel
theorem dX9_withParishes_43 : decode cX9_withParishes 43 = .ok (.aload 6, 2) := by decide +kernel
theorem dX9_withParishes_45 : decode cX9_withParishes 45 = .ok (.iload 7, 2) := by decide +kernel
theorem dX9_withParishes_47 : decode cX9_withParishes 47 = .ok (.invokevirtual 118, 3) := by decide +kernel
theorem dX9_withParishes_50 : decode cX9_withParishes 50 = .ok (.i2l, 1) := by decide +kernel
theorem dX9_withParishes_51 : decode cX9_withParishes 51 = .ok (.ladd, 1) := by decide +kernel
theorem dX9_withParishes_52 : decode cX9_withParishes 52 = .ok (.lstore_n 3, 1) := by decide +kernel
theorem dX9_withParishes_53 : decode cX9_withParishes 53 = .ok (.iinc 7 1, 3) := by decide +kernel
theorem dX9_withParishes_56 : decode cX9_withParishes 56 = .ok (.goto (-24), 3) := by decide +kernel
theorem dX9_withParishes_59 : decode cX9_withParishes 59 = .ok (.iinc 5 1, 3) := by decide +kernel
theorem dX9_withParishes_62 : decode cX9_withParishes 62 = .ok (.goto (-57), 3) := by decide +kernel
theorem dX9_withParishes_65 : decode cX9_withParishes 65 = .ok (.lload_n 3, 1) := by decide +kernel
theorem dX9_withParishes_66 : decode cX9_withParishes 66 = .ok (.lreturn, 1) := by decide +kernel
set_option maxRecDepth 20000 in
theorem ggX9_withCustoms_X1_told : GoodIn wsX9_withCustoms wsX1_told := goodIn_r _ [11, 12, 13, 14, 162, 163, 164] (by decide +kernel) (by decide +kernel)
set_option maxRecDepth 20000 in
theorem gX9_withCustoms_X1_told : GoodIn wsX9_withCustoms (wsV RX9 83 RX1 yX1_told wsX1_told) := goodIn_app (goodIn_of _ (by decide +kernel)) ggX9_withCustoms_X1_told
set_option maxRecDepth 20000 in
theorem ggX9_withCustoms_X2_become : GoodIn wsX9_withCustoms wsX2_become := goodIn_r _ [19, 20, 21, 22, 23, 24, 25, 26, 27, 28, 29, 30, 31, 154, 155, 156, 157, 158, 159, 160, 161] (by decide +kernel) (by decide +kernel)
set_option maxRecDepth 20000 in
theorem gX9_withCustoms_X2_become : GoodIn wsX9_withCustoms (wsV RX9 196 RX2 yX2_become wsX2_become) := goodIn_app (goodIn_of _ (by decide +kernel)) ggX9_withCustoms_X2_become
set_option maxRecDepth 20000 in
theorem ggX9_withCustoms_X2_goOneWeek : GoodIn wsX9_withCustoms wsX2_goOneWeek := goodIn_r _ [35, 26, 36, 37, 38, 39, 18, 40, 41, 42, 27, 43, 44, 45, 46, 47, 48, 49, 28, 50, 51, 52, 53, 54, 55, 56, 57, 58, 59, 20, 60, 61, 62, 63, 64, 65, 66, 67, 68, 69, 70, 71, 72, 73, 74, 75, 76, 77, 78, 79, 80, 81, 82, 83, 29, 84, 85, 86, 87, 31, 25, 88, 89, 90, 91, 92, 93, 94, 95, 96, 97, 98, 99, 100, 101, 102, 103, 104, 105, 106, 107, 108, 109, 110, 111, 112, 113, 114, 115, 116, 117, 118, 119, 120, 121, 122, 123, 124, 125, 126, 127, 128, 129, 130, 30, 131, 132, 133, 134, 135, 136, 137, 10, 138, 14, 139, 140, 141, 142, 154, 155, 156, 157, 158, 159, 160, 161, 165, 166, 167, 168, 169, 170, 171, 172, 173, 174, 175, 176, 177, 178, 179, 180, 162, 163, 164] (by decide +kernel) (by decide +kernel)
set_option maxRecDepth 20000 in
theorem gX9_withCustoms_X2_goOneWeek : GoodIn wsX9_withCustoms (wsV RX9 143 RX2 yX2_goOneWeek wsX2_goOneWeek) := goodIn_app (goodIn_of _ (by decide +kernel)) ggX9_withCustoms_X2_goOneWeek
theorem dX9_withCustoms_0 : decode cX9_withCustoms 0 = .ok (.lload_n 1, 1) := by decide +kernel
theorem dX9_withCustoms_1 : decode cX9_withCustoms 1 = .ok (.lstore_n 3, 1) := by decide +kernel
theorem dX9_withCustoms_2 : decode cX9_withCustoms 2 = .ok (.iconst 0, 1) := by decide +kernel
theorem dX9_withCustoms_3 : decode cX9_withCustoms 3 = .ok (.istore 5, 2) := by decide +kernel
theorem dX9_withCustoms_5 : decode cX9_withCustoms 5 = .ok (.iload 5, 2) := by decide +kernel
theorem dX9_withCustoms_7 : decode cX9_withCustoms 7 = .ok (.iconst 4, 1) := by decide +kernel
theorem dX9_withCustoms_8 : decode cX9_withCustoms 8 = .ok (.if_icmp .ge 127, 3) := by decide +kernel
theorem dX9_withCustoms_11 : decode cX9_withCustoms 11 = .ok (.aload_n 0, 1) := by decide +kernel
theorem dX9_withCustoms_12 : decode cX9_withCustoms 12 = .ok (.getfield 18, 3) := by decide +kernel
theorem dX9_withCustoms_15 : decode cX9_withCustoms 15 = .ok (.iload 5, 2) := by decide +kernel
theorem dX9_withCustoms_17 : decode cX9_withCustoms 17 = .ok (.aaload, 1) := by decide +kernel
theorem dX9_withCustoms_18 : decode cX9_withCustoms 18 = .ok (.astore 6, 2) := by decide +kernel
theorem dX9_withCustoms_20 : decode cX9_withCustoms 20 = .ok (.aload 6, 2) := by decide +kernel
theorem dX9_withCustoms_22 : decode cX9_withCustoms 22 = .ok (.ifnonnull 6, 3) := by decide +kernel
theorem dX9_withCustoms_25 : decode cX9_withCustoms 25 = .ok (.goto 110, 3) := by decide +kernel
theorem dX9_withCustoms_28 : decode cX9_withCustoms 28 = .ok (.iconst 0, 1) := by decide +kernel
theorem dX9_withCustoms_29 : decode cX9_withCustoms 29 = .ok (.istore 7, 2) := by decide +kernel
theorem dX9_withCustoms_31 : decode cX9_withCustoms 31 = .ok (.iload 7, 2) := by decide +kernel
theorem dX9_withCustoms_33 : decode cX9_withCustoms 33 = .ok (.iconst 2, 1) := by decide +kernel
theorem dX9_withCustoms_34 : decode cX9_withCustoms 34 = .ok (.if_icmp .gt 24, 3) := by decide +kernel
theorem dX9_withCustoms_37 : decode cX9_withCustoms 37 = .ok (.ldc2_w 243, 3) := by decide +kernel
theorem dX9_withCustoms_40 : decode cX9_withCustoms 40 = .ok (.lload_n 3, 1) := by decide +kernel
theorem dX9_withCustoms_41 : decode cX9_withCustoms 41 = .ok (.lmul, 1) := by decide +kernel
theorem dX9_withCustoms_42 : decode cX9_withCustoms 42 = .ok (.aload 6, 2) := by decide +kernel
theorem dX9_withCustoms_44 : decode cX9_withCustoms 44 = .ok (.iload 7, 2) := by decide +kernel
theorem dX9_withCustoms_46 : decode cX9_withCustoms 46 = .ok (.invokevirtual 83, 3) := by decide +kernel
theorem dX9_withCustoms_49 : decode cX9_withCustoms 49 = .ok (.i2l, 1) := by decide +kernel
theorem dX9_withCustoms_50 : decode cX9_withCustoms 50 = .ok (.ladd, 1) := by decide +kernel
theorem dX9_withCustoms_51 : decode cX9_withCustoms 51 = .ok (.lstore_n 3, 1) := by decide +kernel
theorem dX9_withCustoms_52 : decode cX9_withCustoms 52 = .ok (.iinc 7 1, 3) := by decide +kernel
theorem dX9_withCustoms_55 : decode cX9_withCustoms 55 = .ok (.goto (-24), 3) := by decide +kernel
theorem dX9_withCustoms_58 : decode cX9_withCustoms 58 = .ok (.aload_n 0, 1) := by decide +kernel
theorem dX9_withCustoms_59 : decode cX9_withCustoms 59 = .ok (.getfield 38, 3) := by decide +kernel
theorem dX9_withCustoms_62 : decode cX9_withCustoms 62 = .ok (.aload_n 0, 1) := by decide +kernel
theorem dX9_withCustoms_63 : decode cX9_withCustoms 63 = .ok (.getfield 31, 3) := by decide +kernel
theorem dX9_withCustoms_66 : decode cX9_withCustoms 66 = .ok (.invokevirtual 196, 3) := by decide +kernel
theorem dX9_withCustoms_69 : decode cX9_withCustoms 69 = .ok (.aload_n 0, 1) := by decide +kernel
theorem dX9_withCustoms_70 : decode cX9_withCustoms 70 = .ok (.getfield 38, 3) := by decide +kernel
theorem dX9_withCustoms_73 : decode cX9_withCustoms 73 = .ok (.aload 6, 2) := by decide +kernel
theorem dX9_withCustoms_75 : decode cX9_withCustoms 75 = .ok (.aload_n 0, 1) := by decide +kernel
theorem dX9_withCustoms_76 : decode cX9_withCustoms 76 = .ok (.getfield 24, 3) := by decide +kernel
theorem dX9_withCustoms_79 : decode cX9_withCustoms 79 = .ok (.invokevirtual 143, 3) := by decide +kernel
theorem dX9_withCustoms_82 : decode cX9_withCustoms 82 = .ok (.aload_n 0, 1) := by decide +kernel
theorem dX9_withCustoms_83 : decode cX9_withCustoms 83 = .ok (.getfield 38, 3) := by decide +kernel
theorem dX9_withCustoms_86 : decode cX9_withCustoms 86 = .ok (.aload 6, 2) := by decide +kernel
theorem dX9_withCustoms_88 : decode cX9_withCustoms 88 = .ok (.aload_n 0, 1) := by decide +kernel
theorem dX9_withCustoms_89 : decode cX9_withCustoms 89 = .ok (.getfield 24, 3) := by decide +kernel
theorem dX9_withCustoms_92 : decode cX9_withCustoms 92 = .ok (.invokevirtual 143, 3) := by decide +kernel
theorem dX9_withCustoms_95 : decode cX9_withCustoms 95 = .ok (.iconst 0, 1) := by decide +kernel
theorem dX9_withCustoms_96 : decode cX9_withCustoms 96 = .ok (.istore 7, 2) := by decide +kernel
theorem dX9_withCustoms_98 : decode cX9_withCustoms 98 = .ok (.iload 7, 2) := by decide +kernel
theorem dX9_withCustoms_100 : decode cX9_withCustoms 100 = .ok (.bipush 7, 2) := by decide +kernel
theorem dX9_withCustoms_102 : decode cX9_withCustoms 102 = .ok (.if_icmp .ge 27, 3) := by decide +kernel
theorem dX9_withCustoms_105 : decode cX9_withCustoms 105 = .ok (.ldc2_w 243, 3) := by decide +kernel
theorem dX9_withCustoms_108 : decode cX9_withCustoms 108 = .ok (.lload_n 3, 1) := by decide +kernel
theorem dX9_withCustoms_109 : decode cX9_withCustoms 109 = .ok (.lmul, 1) := by decide +kernel
theorem dX9_withCustoms_110 : decode cX9_withCustoms 110 = .ok (.aload_n 0, 1) := by decide +kernel
theorem dX9_withCustoms_111 : decode cX9_withCustoms 111 = .ok (.getfield 38, 3) := by decide +kernel
theorem dX9_withCustoms_114 : decode cX9_withCustoms 114 = .ok (.getfield 127, 3) := by decide +kernel
theorem dX9_withCustoms_117 : decode cX9_withCustoms 117 = .ok (.iload 7, 2) := by decide +kernel
theorem dX9_withCustoms_119 : decode cX9_withCustoms 119 = .ok (.iaload, 1) := by decide +kernel
theorem dX9_withCustoms_120 : decode cX9_withCustoms 120 = .ok (.i2l, 1) := by decide +kernel
theorem dX9_withCustoms_121 : decode cX9_withCustoms 121 = .ok (.ladd, 1) := by decide +kernel
theorem dX9_withCustoms_122 : decode cX9_withCustoms 122 = .ok (.lstore_n 3, 1) := by decide +kernel
theorem dX9_withCustoms_123 : decode cX9_withCustoms 123 = .ok (.iinc 7 1, 3) := by decide +kernel
theorem dX9_withCustoms_126 : decode cX9_withCustoms 126 = .ok (.goto (-28), 3) := by decide +kernel
theorem dX9_withCustoms_129 : decode cX9_withCustoms 129 = .ok (.iinc 5 1, 3) := by decide +kernel
theorem dX9_withCustoms_132 : decode cX9_withCustoms 132 = .ok (.goto (-127), 3) := by decide +kernel
theorem dX9_withCustoms_135 : decode cX9_withCustoms 135 = .ok (.lload_n 3, 1) := by decide +kernel
theorem dX9_withCustoms_136 : decode cX9_withCustoms 136 = .ok (.lreturn, 1) := by decide +kernel
theorem dX9_customAt_0 : decode cX9_customAt 0 = .ok (.iload_n 1, 1) := by decide +kernel
theorem dX9_customAt_1 : decode cX9_customAt 1 = .ok (.ifCond .lt 8, 3) := by decide +kernel
theorem dX9_customAt_4 : decode cX9_customAt 4 = .ok (.iload_n 1, 1) := by decide +kernel
theorem dX9_customAt_5 : decode cX9_customAt 5 = .ok (.iconst 4, 1) := by decide +kernel
theorem dX9_customAt_6 : decode cX9_customAt 6 = .ok (.if_icmp .lt 7, 3) := by decide +kernel
theorem dX9_customAt_9 : decode cX9_customAt 9 = .ok (.aconst_null, 1) := by decide +kernel
theorem dX9_customAt_10 : decode cX9_customAt 10 = .ok (.goto 9, 3) := by decide +kernel
theorem dX9_customAt_13 : decode cX9_customAt 13 = .ok (.aload_n 0, 1) := by decide +kernel
theorem dX9_customAt_14 : decode cX9_customAt 14 = .ok (.getfield 18, 3) := by decide +kernel
theorem dX9_customAt_17 : decode cX9_customAt 17 = .ok (.iload_n 1, 1) := by decide +kernel
theorem dX9_customAt_18 : decode cX9_customAt 18 = .ok (.aaload, 1) := by decide +kernel
theorem dX9_customAt_19 : decode cX9_customAt 19 = .ok (.areturn, 1) := by decide +kernel
theorem dX9_parishAt_0 : decode cX9_parishAt 0 = .ok (.iload_n 1, 1) := by decide +kernel
theorem dX9_parishAt_1 : decode cX9_parishAt 1 = .ok (.ifCond .lt 9, 3) := by decide +kernel
theorem dX9_parishAt_4 : decode cX9_parishAt 4 = .ok (.iload_n 1, 1) := by decide +kernel
theorem dX9_parishAt_5 : decode cX9_parishAt 5 = .ok (.bipush 6, 2) := by decide +kernel
theorem dX9_parishAt_7 : decode cX9_parishAt 7 = .ok (.if_icmp .lt 7, 3) := by decide +kernel
theorem dX9_parishAt_10 : decode cX9_parishAt 10 = .ok (.aconst_null, 1) := by decide +kernel
theorem dX9_parishAt_11 : decode cX9_parishAt 11 = .ok (.goto 9, 3) := by decide +kernel
theorem dX9_parishAt_14 : decode cX9_parishAt 14 = .ok (.aload_n 0, 1) := by decide +kernel
theorem dX9_parishAt_15 : decode cX9_parishAt 15 = .ok (.getfield 24, 3) := by decide +kernel
theorem dX9_parishAt_18 : decode cX9_parishAt 18 = .ok (.iload_n 1, 1) := by decide +kernel
theorem dX9_parishAt_19 : decode cX9_parishAt 19 = .ok (.aaload, 1) := by decide +kernel
theorem dX9_parishAt_20 : decode cX9_parishAt 20 = .ok (.areturn, 1) := by decide +kernel
theorem dX9_isCairn_0 : decode cX9_isCairn 0 = .ok (.iload_n 0, 1) := by decide +kernel
theorem dX9_isCairn_1 : decode cX9_isCairn 1 = .ok (.ifCond .lt 13, 3) := by decide +kernel
theorem dX9_isCairn_4 : decode cX9_isCairn 4 = .ok (.iload_n 0, 1) := by decide +kernel
theorem dX9_isCairn_5 : decode cX9_isCairn 5 = .ok (.bipush 7, 2) := by decide +kernel
theorem dX9_isCairn_7 : decode cX9_isCairn 7 = .ok (.if_icmp .ge 7, 3) := by decide +kernel
theorem dX9_isCairn_10 : decode cX9_isCairn 10 = .ok (.iconst 1, 1) := by decide +kernel
theorem dX9_isCairn_11 : decode cX9_isCairn 11 = .ok (.goto 4, 3) := by decide +kernel
theorem dX9_isCairn_14 : decode cX9_isCairn 14 = .ok (.iconst 0, 1) := by decide +kernel
theorem dX9_isCairn_15 : decode cX9_isCairn 15 = .ok (.ireturn, 1) := by decide +kernel
theorem dX9_isNetOfOne_0 : decode cX9_isNetOfOne 0 = .ok (.iload_n 0, 1) := by decide +kernel
theorem dX9_isNetOfOne_1 : decode cX9_isNetOfOne 1 = .ok (.bipush (-9), 2) := by decide +kernel
theorem dX9_isNetOfOne_3 : decode cX9_isNetOfOne 3 = .ok (.if_icmp .lt 13, 3) := by decide +kernel
theorem dX9_isNetOfOne_6 : decode cX9_isNetOfOne 6 = .ok (.iload_n 0, 1) := by decide +kernel
theorem dX9_isNetOfOne_7 : decode cX9_isNetOfOne 7 = .ok (.bipush 36, 2) := by decide +kernel
theorem dX9_isNetOfOne_9 : decode cX9_isNetOfOne 9 = .ok (.if_icmp .gt 7, 3) := by decide +kernel
theorem dX9_isNetOfOne_12 : decode cX9_isNetOfOne 12 = .ok (.iconst 1, 1) := by decide +kernel
theorem dX9_isNetOfOne_13 : decode cX9_isNetOfOne 13 = .ok (.goto 4, 3) := by decide +kernel
theorem dX9_isNetOfOne_16 : decode cX9_isNetOfOne 16 = .ok (.iconst 0, 1) := by decide +kernel
theorem dX9_isNetOfOne_17 : decode cX9_isNetOfOne 17 = .ok (.ireturn, 1) := by decide +kernel
set_option maxRecDepth 20000 in
theorem ggX9_isKindWith_X9_isCairn : GoodIn wsX9_isKindWith wsX9_isCairn := goodIn_r _ [4] (by decide +kernel) (by decide +kernel)
set_option maxRecDepth 20000 in
theorem gX9_isKindWith_X9_isCairn : GoodIn wsX9_isKindWith (va_wsS RX9 119 yX9_isCairn wsX9_isCairn) := goodIn_app (goodIn_of _ (by decide +kernel)) ggX9_isKindWith_X9_isCairn
theorem dX9_isKindWith_0 : decode cX9_isKindWith 0 = .ok (.iload_n 0, 1) := by decide +kernel
theorem dX9_isKindWith_1 : decode cX9_isKindWith 1 = .ok (.tableswitch 67 0 3 #[31, 41, 57, 62], 31) := by decide +kernel
theorem dX9_isKindWith_32 : decode cX9_isKindWith 32 = .ok (.iload_n 1, 1) := by decide +kernel
theorem dX9_isKindWith_33 : decode cX9_isKindWith 33 = .ok (.ifCond .ne 7, 3) := by decide +kernel
theorem dX9_isKindWith_36 : decode cX9_isKindWith 36 = .ok (.iconst 1, 1) := by decide +kernel
theorem dX9_isKindWith_37 : decode cX9_isKindWith 37 = .ok (.goto 4, 3) := by decide +kernel
theorem dX9_isKindWith_40 : decode cX9_isKindWith 40 = .ok (.iconst 0, 1) := by decide +kernel
theorem dX9_isKindWith_41 : decode cX9_isKindWith 41 = .ok (.ireturn, 1) := by decide +kernel
theorem dX9_isKindWith_42 : decode cX9_isKindWith 42 = .ok (.iload_n 1, 1) := by decide +kernel
theorem dX9_isKindWith_43 : decode cX9_isKindWith 43 = .ok (.iconst 2, 1) := by decide +kernel
theorem dX9_isKindWith_44 : decode cX9_isKindWith 44 = .ok (.if_icmp .lt 12, 3) := by decide +kernel
theorem dX9_isKindWith_47 : decode cX9_isKindWith 47 = .ok (.iload_n 1, 1) := by decide +kernel
theorem dX9_isKindWith_48 : decode cX9_isKindWith 48 = .ok (.iconst 4, 1) := by decide +kernel
theorem dX9_isKindWith_49 : decode cX9_isKindWith 49 = .ok (.if_icmp .gt 7, 3) := by decide +kernel
theorem dX9_isKindWith_52 : decode cX9_isKindWith 52 = .ok (.iconst 1, 1) := by decide +kernel
theorem dX9_isKindWith_53 : decode cX9_isKindWith 53 = .ok (.goto 4, 3) := by decide +kernel
theorem dX9_isKindWith_56 : decode cX9_isKindWith 56 = .ok (.iconst 0, 1) := by decide +kernel
theorem dX9_isKindWith_57 : decode cX9_isKindWith 57 = .ok (.ireturn, 1) := by decide +kernel
theorem dX9_isKindWith_58 : decode cX9_isKindWith 58 = .ok (.iload_n 1, 1) := by decide +kernel
theorem dX9_isKindWith_59 : decode cX9_isKindWith 59 = .ok (.invokestatic 119, 3) := by decide +kernel
theorem dX9_isKindWith_62 : decode cX9_isKindWith 62 = .ok (.ireturn, 1) := by decide +kernel
theorem dX9_isKindWith_63 : decode cX9_isKindWith 63 = .ok (.iload_n 1, 1) := by decide +kernel
theorem dX9_isKindWith_64 : decode cX9_isKindWith 64 = .ok (.invokestatic 119, 3) := by decide +kernel
theorem dX9_isKindWith_67 : decode cX9_isKindWith 67 = .ok (.ireturn, 1) := by decide +kernel
theorem dX9_isKindWith_68 : decode cX9_isKindWith 68 = .ok (.iconst 0, 1) := by decide +kernel
theorem dX9_isKindWith_69 : decode cX9_isKindWith 69 = .ok (.ireturn, 1) := by decide +kernel
theorem dX9_mayBe_0 : decode cX9_mayBe 0 = .ok (.iload_n 0, 1) := by decide +kernel
theorem dX9_mayBe_1 : decode cX9_mayBe 1 = .ok (.tableswitch 76 2 4 #[27, 44, 60], 27) := by decide +kernel
theorem dX9_mayBe_28 : decode cX9_mayBe 28 = .ok (.iload_n 1, 1) := by decide +kernel
theorem dX9_mayBe_29 : decode cX9_mayBe 29 = .ok (.iconst 1, 1) := by decide +kernel
theorem dX9_mayBe_30 : decode cX9_mayBe 30 = .ok (.if_icmp .lt 13, 3) := by decide +kernel
theorem dX9_mayBe_33 : decode cX9_mayBe 33 = .ok (.iload_n 1, 1) := by decide +kernel
theorem dX9_mayBe_34 : decode cX9_mayBe 34 = .ok (.bipush 9, 2) := by decide +kernel
theorem dX9_mayBe_36 : decode cX9_mayBe 36 = .ok (.if_icmp .gt 7, 3) := by decide +kernel
theorem dX9_mayBe_39 : decode cX9_mayBe 39 = .ok (.iconst 1, 1) := by decide +kernel
theorem dX9_mayBe_40 : decode cX9_mayBe 40 = .ok (.goto 4, 3) := by decide +kernel
theorem dX9_mayBe_43 : decode cX9_mayBe 43 = .ok (.iconst 0, 1) := by decide +kernel
theorem dX9_mayBe_44 : decode cX9_mayBe 44 = .ok (.ireturn, 1) := by decide +kernel
theorem dX9_mayBe_45 : decode cX9_mayBe 45 = .ok (.iload_n 1, 1) := by decide +kernel
theorem dX9_mayBe_46 : decode cX9_mayBe 46 = .ok (.ifCond .lt 13, 3) := by decide +kernel
theorem dX9_mayBe_49 : decode cX9_mayBe 49 = .ok (.iload_n 1, 1) := by decide +kernel
theorem dX9_mayBe_50 : decode cX9_mayBe 50 = .ok (.bipush 10, 2) := by decide +kernel
theorem dX9_mayBe_52 : decode cX9_mayBe 52 = .ok (.if_icmp .gt 7, 3) := by decide +kernel
theorem dX9_mayBe_55 : decode cX9_mayBe 55 = .ok (.iconst 1, 1) := by decide +kernel
theorem dX9_mayBe_56 : decode cX9_mayBe 56 = .ok (.goto 4, 3) := by decide +kernel
theorem dX9_mayBe_59 : decode cX9_mayBe 59 = .ok (.iconst 0, 1) := by decide +kernel
theorem dX9_mayBe_60 : decode cX9_mayBe 60 = .ok (.ireturn, 1) := by decide +kernel
theorem dX9_mayBe_61 : decode cX9_mayBe 61 = .ok (.iload_n 1, 1) := by decide +kernel
theorem dX9_mayBe_62 : decode cX9_mayBe 62 = .ok (.ifCond .lt 13, 3) := by decide +kernel
theorem dX9_mayBe_65 : decode cX9_mayBe 65 = .ok (.iload_n 1, 1) := by decide +kernel
theorem dX9_mayBe_66 : decode cX9_mayBe 66 = .ok (.bipush 10, 2) := by decide +kernel
theorem dX9_mayBe_68 : decode cX9_mayBe 68 = .ok (.if_icmp .gt 7, 3) := by decide +kernel
theorem dX9_mayBe_71 : decode cX9_mayBe 71 = .ok (.iconst 1, 1) := by decide +kernel
theorem dX9_mayBe_72 : decode cX9_mayBe 72 = .ok (.goto 4, 3) := by decide +kernel
theorem dX9_mayBe_75 : decode cX9_mayBe 75 = .ok (.iconst 0, 1) := by decide +kernel
theorem dX9_mayBe_76 : decode cX9_mayBe 76 = .ok (.ireturn, 1) := by decide +kernel
theorem dX9_mayBe_77 : decode cX9_mayBe 77 = .ok (.iconst 0, 1) := by decide +kernel
theorem dX9_mayBe_78 : decode cX9_mayBe 78 = .ok (.ireturn, 1) := by decide +kernel
set_option maxRecDepth 20000 in
theorem ggX9_madeOf_X6_init : GoodIn wsX9_madeOf wsX6_init := goodIn_r _ [15, 16, 17, 12, 18, 19, 20, 21, 22, 40, 41, 42, 43, 44, 45, 46, 47, 32, 33, 34, 35, 36, 37, 38, 39] (by decide +kernel) (by decide +kernel)
set_option maxRecDepth 20000 in
theorem gX9_madeOf_X6_init : GoodIn wsX9_madeOf (wsX6_init) := ggX9_madeOf_X6_init
set_option maxRecDepth 20000 in
theorem ggX9_madeOf_X7_init : GoodIn wsX9_madeOf wsX7_init := goodIn_r _ [25, 26, 17, 12, 18, 19, 20, 21, 22, 40, 41, 42, 43, 44, 45, 46, 47, 32, 33, 34, 35, 36, 37, 38, 39] (by decide +kernel) (by decide +kernel)
set_option maxRecDepth 20000 in
theorem gX9_madeOf_X7_init : GoodIn wsX9_madeOf (wsX7_init) := ggX9_madeOf_X7_init
set_option maxRecDepth 20000 in
theorem ggX9_madeOf_X0_init : GoodIn wsX9_madeOf wsX0_init := goodIn_r _ [29, 30, 24, 6, 25, 26, 17, 12, 18, 19, 20, 21, 22, 40, 41, 42, 43, 44, 45, 46, 47, 32, 33, 34, 35, 36, 37, 38, 39] (by decide +kernel) (by decide +kernel)
set_option maxRecDepth 20000 in
theorem gX9_madeOf_X0_init : GoodIn wsX9_madeOf (wsX0_init) := ggX9_madeOf_X0_init
set_option maxRecDepth 20000 in
theorem ggX9_madeOf_X5_init : GoodIn wsX9_madeOf wsX5_init := goodIn_r _ [18, 19, 20, 21, 22, 40, 41, 42, 43, 44, 45, 46, 47, 32, 33, 34, 35, 36, 37, 38, 39] (by decide +kernel) (by decide +kernel)
set_option maxRecDepth 20000 in
theorem gX9_madeOf_X5_init : GoodIn wsX9_madeOf (wsX5_init) := ggX9_madeOf_X5_init
theorem dX9_madeOf_0 : decode cX9_madeOf 0 = .ok (.iload_n 0, 1) := by decide +kernel
theorem dX9_madeOf_1 : decode cX9_madeOf 1 = .ok (.tableswitch 54 1 3 #[27, 36, 45], 27) := by decide +kernel
theorem dX9_madeOf_28 : decode cX9_madeOf 28 = .ok (.new 254, 3) := by decide +kernel
theorem dX9_madeOf_31 : decode cX9_madeOf 31 = .ok (.dup, 1) := by decide +kernel
theorem dX9_madeOf_32 : decode cX9_madeOf 32 = .ok (.iload_n 1, 1) := by decide +kernel
theorem dX9_madeOf_33 : decode cX9_madeOf 33 = .ok (.invokespecial 256, 3) := by decide +kernel
theorem dX9_madeOf_36 : decode cX9_madeOf 36 = .ok (.areturn, 1) := by decide +kernel
theorem dX9_madeOf_37 : decode cX9_madeOf 37 = .ok (.new 259, 3) := by decide +kernel
theorem dX9_madeOf_40 : decode cX9_madeOf 40 = .ok (.dup, 1) := by decide +kernel
theorem dX9_madeOf_41 : decode cX9_madeOf 41 = .ok (.iload_n 1, 1) := by decide +kernel
theorem dX9_madeOf_42 : decode cX9_madeOf 42 = .ok (.invokespecial 261, 3) := by decide +kernel
theorem dX9_madeOf_45 : decode cX9_madeOf 45 = .ok (.areturn, 1) := by decide +kernel
theorem dX9_madeOf_46 : decode cX9_madeOf 46 = .ok (.new 262, 3) := by decide +kernel
theorem dX9_madeOf_49 : decode cX9_madeOf 49 = .ok (.dup, 1) := by decide +kernel
theorem dX9_madeOf_50 : decode cX9_madeOf 50 = .ok (.iload_n 1, 1) := by decide +kernel
theorem dX9_madeOf_51 : decode cX9_madeOf 51 = .ok (.invokespecial 264, 3) := by decide +kernel
theorem dX9_madeOf_54 : decode cX9_madeOf 54 = .ok (.areturn, 1) := by decide +kernel
theorem dX9_madeOf_55 : decode cX9_madeOf 55 = .ok (.new 22, 3) := by decide +kernel
theorem dX9_madeOf_58 : decode cX9_madeOf 58 = .ok (.dup, 1) := by decide +kernel
theorem dX9_madeOf_59 : decode cX9_madeOf 59 = .ok (.iload_n 1, 1) := by decide +kernel
theorem dX9_madeOf_60 : decode cX9_madeOf 60 = .ok (.invokespecial 265, 3) := by decide +kernel
theorem dX9_madeOf_63 : decode cX9_madeOf 63 = .ok (.areturn, 1) := by decide +kernel
theorem dX9_isOf_0 : decode cX9_isOf 0 = .ok (.iload_n 1, 1) := by decide +kernel
theorem dX9_isOf_1 : decode cX9_isOf 1 = .ok (.tableswitch 42 1 3 #[27, 32, 37], 27) := by decide +kernel
theorem dX9_isOf_28 : decode cX9_isOf 28 = .ok (.aload_n 0, 1) := by decide +kernel
theorem dX9_isOf_29 : decode cX9_isOf 29 = .ok (.instanceof 254, 3) := by decide +kernel
theorem dX9_isOf_32 : decode cX9_isOf 32 = .ok (.ireturn, 1) := by decide +kernel
theorem dX9_isOf_33 : decode cX9_isOf 33 = .ok (.aload_n 0, 1) := by decide +kernel
theorem dX9_isOf_34 : decode cX9_isOf 34 = .ok (.instanceof 259, 3) := by decide +kernel
theorem dX9_isOf_37 : decode cX9_isOf 37 = .ok (.ireturn, 1) := by decide +kernel
theorem dX9_isOf_38 : decode cX9_isOf 38 = .ok (.aload_n 0, 1) := by decide +kernel
theorem dX9_isOf_39 : decode cX9_isOf 39 = .ok (.instanceof 262, 3) := by decide +kernel
theorem dX9_isOf_42 : decode cX9_isOf 42 = .ok (.ireturn, 1) := by decide +kernel
theorem dX9_isOf_43 : decode cX9_isOf 43 = .ok (.iconst 1, 1) := by decide +kernel
theorem dX9_isOf_44 : decode cX9_isOf 44 = .ok (.ireturn, 1) := by decide +kernel
set_option maxRecDepth 20000 in
theorem ggX9_dreamOf_X2_become : GoodIn wsX9_dreamOf wsX2_become := goodIn_r _ [8, 9, 10, 11, 12, 13, 14, 15, 16, 17, 18, 19, 20, 145, 146, 147, 148, 149, 150, 151, 152] (by decide +kernel) (by decide +kernel)
set_option maxRecDepth 20000 in
theorem gX9_dreamOf_X2_become : GoodIn wsX9_dreamOf (wsV RX9 196 RX2 yX2_become wsX2_become) := goodIn_app (goodIn_of _ (by decide +kernel)) ggX9_dreamOf_X2_become
set_option maxRecDepth 20000 in
theorem ggX9_dreamOf_X2_goOneWeek : GoodIn wsX9_dreamOf wsX2_goOneWeek := goodIn_r _ [24, 15, 25, 26, 27, 28, 7, 29, 30, 31, 16, 32, 33, 34, 35, 36, 37, 38, 17, 39, 40, 41, 42, 43, 44, 45, 46, 47, 48, 9, 49, 50, 51, 52, 53, 54, 55, 56, 57, 58, 59, 60, 61, 62, 63, 64, 65, 66, 67, 68, 69, 70, 71, 72, 18, 73, 74, 75, 76, 20, 14, 77, 78, 79, 80, 81, 82, 83, 84, 85, 86, 87, 88, 89, 90, 91, 92, 93, 94, 95, 96, 97, 98, 99, 100, 101, 102, 103, 104, 105, 106, 107, 108, 109, 110, 111, 112, 113, 114, 115, 116, 117, 118, 119, 19, 120, 121, 122, 123, 124, 125, 126, 127, 128, 129, 130, 131, 132, 133, 145, 146, 147, 148, 149, 150, 151, 152, 153, 154, 155, 156, 157, 158, 159, 160, 161, 162, 163, 164, 165, 166, 167, 168, 169, 170, 171] (by decide +kernel) (by decide +kernel)
set_option maxRecDepth 20000 in
theorem gX9_dreamOf_X2_goOneWeek : GoodIn wsX9_dreamOf (wsV RX9 143 RX2 yX2_goOneWeek wsX2_goOneWeek) := goodIn_app (goodIn_of _ (by decide +kernel)) ggX9_dreamOf_X2_goOneWeek
theorem dX9_dreamOf_0 : decode cX9_dreamOf 0 = .ok (.aload_n 0, 1) := by decide +kernel
theorem dX9_dreamOf_1 : decode cX9_dreamOf 1 = .ok (.getfield 38, 3) := by decide +kernel
theorem dX9_dreamOf_4 : decode cX9_dreamOf 4 = .ok (.aload_n 0, 1) := by decide +kernel
theorem dX9_dreamOf_5 : decode cX9_dreamOf 5 = .ok (.getfield 31, 3) := by decide +kernel
theorem dX9_dreamOf_8 : decode cX9_dreamOf 8 = .ok (.invokevirtual 196, 3) := by decide +kernel
theorem dX9_dreamOf_11 : decode cX9_dreamOf 11 = .ok (.iconst 0, 1) := by decide +kernel
theorem dX9_dreamOf_12 : decode cX9_dreamOf 12 = .ok (.istore_n 3, 1) := by decide +kernel
theorem dX9_dreamOf_13 : decode cX9_dreamOf 13 = .ok (.iload_n 3, 1) := by decide +kernel
theorem dX9_dreamOf_14 : decode cX9_dreamOf 14 = .ok (.iload_n 2, 1) := by decide +kernel
theorem dX9_dreamOf_15 : decode cX9_dreamOf 15 = .ok (.if_icmp .ge 21, 3) := by decide +kernel
theorem dX9_dreamOf_18 : decode cX9_dreamOf 18 = .ok (.aload_n 0, 1) := by decide +kernel
theorem dX9_dreamOf_19 : decode cX9_dreamOf 19 = .ok (.getfield 38, 3) := by decide +kernel
theorem dX9_dreamOf_22 : decode cX9_dreamOf 22 = .ok (.aload_n 1, 1) := by decide +kernel
theorem dX9_dreamOf_23 : decode cX9_dreamOf 23 = .ok (.aload_n 0, 1) := by decide +kernel
theorem dX9_dreamOf_24 : decode cX9_dreamOf 24 = .ok (.getfield 24, 3) := by decide +kernel
theorem dX9_dreamOf_27 : decode cX9_dreamOf 27 = .ok (.invokevirtual 143, 3) := by decide +kernel
theorem dX9_dreamOf_30 : decode cX9_dreamOf 30 = .ok (.iinc 3 1, 3) := by decide +kernel
theorem dX9_dreamOf_33 : decode cX9_dreamOf 33 = .ok (.goto (-20), 3) := by decide +kernel
theorem dX9_dreamOf_36 : decode cX9_dreamOf 36 = .ok (.return_, 1) := by decide +kernel
set_option maxRecDepth 20000 in
theorem ggX9_dreamTillEmpty_X2_goOneWeek : GoodIn wsX9_dreamTillEmpty wsX2_goOneWeek := goodIn_r _ [8, 9, 10, 11, 12, 13, 7, 14, 15, 16, 17, 18, 19, 20, 21, 22, 23, 24, 25, 26, 27, 28, 29, 30, 31, 32, 33, 34, 35, 36, 37, 38, 39, 40, 41, 42, 43, 44, 45, 46, 47, 48, 49, 50, 51, 52, 53, 54, 55, 56, 57, 58, 59, 60, 61, 62, 63, 64, 65, 66, 67, 68, 69, 70, 71, 72, 73, 74, 75, 76, 77, 78, 79, 80, 81, 82, 83, 84, 85, 86, 87, 88, 89, 90, 91, 92, 93, 94, 95, 96, 97, 98, 99, 100, 101, 102, 103, 104, 105, 106, 107, 108, 109, 110, 111, 112, 113, 114, 115, 116, 117, 118, 119, 120, 121, 122, 123, 124, 125, 138, 139, 140, 141, 142, 143, 144, 145, 146, 147, 148, 149, 150, 151, 152, 153, 154, 155, 156, 157, 158, 159, 160, 161, 162, 163, 164] (by decide +kernel) (by decide +kernel)
set_option maxRecDepth 20000 in
theorem gX9_dreamTillEmpty_X2_goOneWeek : GoodIn wsX9_dreamTillEmpty (wsV RX9 143 RX2 yX2_goOneWeek wsX2_goOneWeek) := goodIn_app (goodIn_of _ (by decide +kernel)) ggX9_dreamTillEmpty_X2_goOneWeek
set_option maxRecDepth 20000 in
theorem ggX9_dreamTillEmpty_X9_isCairn : GoodIn wsX9_dreamTillEmpty wsX9_isCairn := goodIn_r _ [70] (by decide +kernel) (by decide +kernel)
set_option maxRecDepth 20000 in
theorem gX9_dreamTillEmpty_X9_isCairn : GoodIn wsX9_dreamTillEmpty (va_wsS RX9 119 yX9_isCairn wsX9_isCairn) := goodIn_app (goodIn_of _ (by decide +kernel)) ggX9_dreamTillEmpty_X9_isCairn
theorem dX9_dreamTillEmpty_0 : decode cX9_dreamTillEmpty 0 = .ok (.iconst 1, 1) := by decide +kernel
theorem dX9_dreamTillEmpty_1 : decode cX9_dreamTillEmpty 1 = .ok (.istore 4, 2) := by decide +kernel
theorem dX9_dreamTillEmpty_3 : decode cX9_dreamTillEmpty 3 = .ok (.iload 4, 2) := by decide +kernel
theorem dX9_dreamTillEmpty_5 : decode cX9_dreamTillEmpty 5 = .ok (.iload_n 3, 1) := by decide +kernel
theorem dX9_dreamTillEmpty_6 : decode cX9_dreamTillEmpty 6 = .ok (.if_icmp .gt 43, 3) := by decide +kernel
theorem dX9_dreamTillEmpty_9 : decode cX9_dreamTillEmpty 9 = .ok (.aload_n 0, 1) := by decide +kernel
theorem dX9_dreamTillEmpty_10 : decode cX9_dreamTillEmpty 10 = .ok (.getfield 38, 3) := by decide +kernel
theorem dX9_dreamTillEmpty_13 : decode cX9_dreamTillEmpty 13 = .ok (.aload_n 1, 1) := by decide +kernel
theorem dX9_dreamTillEmpty_14 : decode cX9_dreamTillEmpty 14 = .ok (.aload_n 0, 1) := by decide +kernel
theorem dX9_dreamTillEmpty_15 : decode cX9_dreamTillEmpty 15 = .ok (.getfield 24, 3) := by decide +kernel
theorem dX9_dreamTillEmpty_18 : decode cX9_dreamTillEmpty 18 = .ok (.invokevirtual 143, 3) := by decide +kernel
theorem dX9_dreamTillEmpty_21 : decode cX9_dreamTillEmpty 21 = .ok (.iload_n 2, 1) := by decide +kernel
theorem dX9_dreamTillEmpty_22 : decode cX9_dreamTillEmpty 22 = .ok (.invokestatic 119, 3) := by decide +kernel
theorem dX9_dreamTillEmpty_25 : decode cX9_dreamTillEmpty 25 = .ok (.ifCond .eq 18, 3) := by decide +kernel
theorem dX9_dreamTillEmpty_28 : decode cX9_dreamTillEmpty 28 = .ok (.aload_n 0, 1) := by decide +kernel
theorem dX9_dreamTillEmpty_29 : decode cX9_dreamTillEmpty 29 = .ok (.getfield 38, 3) := by decide +kernel
theorem dX9_dreamTillEmpty_32 : decode cX9_dreamTillEmpty 32 = .ok (.getfield 127, 3) := by decide +kernel
theorem dX9_dreamTillEmpty_35 : decode cX9_dreamTillEmpty 35 = .ok (.iload_n 2, 1) := by decide +kernel
theorem dX9_dreamTillEmpty_36 : decode cX9_dreamTillEmpty 36 = .ok (.iaload, 1) := by decide +kernel
theorem dX9_dreamTillEmpty_37 : decode cX9_dreamTillEmpty 37 = .ok (.ifCond .ne 6, 3) := by decide +kernel
theorem dX9_dreamTillEmpty_40 : decode cX9_dreamTillEmpty 40 = .ok (.iload 4, 2) := by decide +kernel
theorem dX9_dreamTillEmpty_42 : decode cX9_dreamTillEmpty 42 = .ok (.ireturn, 1) := by decide +kernel
theorem dX9_dreamTillEmpty_43 : decode cX9_dreamTillEmpty 43 = .ok (.iinc 4 1, 3) := by decide +kernel
theorem dX9_dreamTillEmpty_46 : decode cX9_dreamTillEmpty 46 = .ok (.goto (-43), 3) := by decide +kernel
theorem dX9_dreamTillEmpty_49 : decode cX9_dreamTillEmpty 49 = .ok (.iload_n 3, 1) := by decide +kernel
theorem dX9_dreamTillEmpty_50 : decode cX9_dreamTillEmpty 50 = .ok (.iconst 1, 1) := by decide +kernel
theorem dX9_dreamTillEmpty_51 : decode cX9_dreamTillEmpty 51 = .ok (.iadd, 1) := by decide +kernel
theorem dX9_dreamTillEmpty_52 : decode cX9_dreamTillEmpty 52 = .ok (.ireturn, 1) := by decide +kernel
set_option maxRecDepth 20000 in
theorem ggX9_inLowest_X9_commonDivisor : GoodIn wsX9_inLowest wsX9_commonDivisor := goodIn_r _ [5] (by decide +kernel) (by decide +kernel)
set_option maxRecDepth 20000 in
theorem gX9_inLowest_X9_commonDivisor : GoodIn wsX9_inLowest (va_wsS RX9 266 yX9_commonDivisor wsX9_commonDivisor) := goodIn_app (goodIn_of _ (by decide +kernel)) ggX9_inLowest_X9_commonDivisor
theorem dX9_inLowest_0 : decode cX9_inLowest 0 = .ok (.lload_n 0, 1) := by decide +kernel
theorem dX9_inLowest_1 : decode cX9_inLowest 1 = .ok (.lload_n 2, 1) := by decide +kernel
theorem dX9_inLowest_2 : decode cX9_inLowest 2 = .ok (.invokestatic 266, 3) := by decide +kernel
theorem dX9_inLowest_5 : decode cX9_inLowest 5 = .ok (.lstore 5, 2) := by decide +kernel
theorem dX9_inLowest_7 : decode cX9_inLowest 7 = .ok (.lload 5, 2) := by decide +kernel
theorem dX9_inLowest_9 : decode cX9_inLowest 9 = .ok (.lconst 0, 1) := by decide +kernel
theorem dX9_inLowest_10 : decode cX9_inLowest 10 = .ok (.lcmp, 1) := by decide +kernel
theorem dX9_inLowest_11 : decode cX9_inLowest 11 = .ok (.ifCond .ne 7, 3) := by decide +kernel
theorem dX9_inLowest_14 : decode cX9_inLowest 14 = .ok (.ldc2_w 159, 3) := by decide +kernel
theorem dX9_inLowest_17 : decode cX9_inLowest 17 = .ok (.lreturn, 1) := by decide +kernel
theorem dX9_inLowest_18 : decode cX9_inLowest 18 = .ok (.iload 4, 2) := by decide +kernel
theorem dX9_inLowest_20 : decode cX9_inLowest 20 = .ok (.ifCond .ne 10, 3) := by decide +kernel
theorem dX9_inLowest_23 : decode cX9_inLowest 23 = .ok (.lload_n 0, 1) := by decide +kernel
theorem dX9_inLowest_24 : decode cX9_inLowest 24 = .ok (.lload 5, 2) := by decide +kernel
theorem dX9_inLowest_26 : decode cX9_inLowest 26 = .ok (.ldiv, 1) := by decide +kernel
theorem dX9_inLowest_27 : decode cX9_inLowest 27 = .ok (.goto 7, 3) := by decide +kernel
theorem dX9_inLowest_30 : decode cX9_inLowest 30 = .ok (.lload_n 2, 1) := by decide +kernel
theorem dX9_inLowest_31 : decode cX9_inLowest 31 = .ok (.lload 5, 2) := by decide +kernel
theorem dX9_inLowest_33 : decode cX9_inLowest 33 = .ok (.ldiv, 1) := by decide +kernel
theorem dX9_inLowest_34 : decode cX9_inLowest 34 = .ok (.lreturn, 1) := by decide +kernel
theorem dX9_commonDivisor_0 : decode cX9_commonDivisor 0 = .ok (.lload_n 0, 1) := by decide +kernel
theorem dX9_commonDivisor_1 : decode cX9_commonDivisor 1 = .ok (.lstore 4, 2) := by decide +kernel
theorem dX9_commonDivisor_3 : decode cX9_commonDivisor 3 = .ok (.lload_n 2, 1) := by decide +kernel
theorem dX9_commonDivisor_4 : decode cX9_commonDivisor 4 = .ok (.lstore 6, 2) := by decide +kernel
theorem dX9_commonDivisor_6 : decode cX9_commonDivisor 6 = .ok (.iconst 0, 1) := by decide +kernel
theorem dX9_commonDivisor_7 : decode cX9_commonDivisor 7 = .ok (.istore 8, 2) := by decide +kernel
theorem dX9_commonDivisor_9 : decode cX9_commonDivisor 9 = .ok (.iload 8, 2) := by decide +kernel
theorem dX9_commonDivisor_11 : decode cX9_commonDivisor 11 = .ok (.sipush 200, 3) := by decide +kernel
theorem dX9_commonDivisor_14 : decode cX9_commonDivisor 14 = .ok (.if_icmp .ge 31, 3) := by decide +kernel
theorem dX9_commonDivisor_17 : decode cX9_commonDivisor 17 = .ok (.lload 6, 2) := by decide +kernel
theorem dX9_commonDivisor_19 : decode cX9_commonDivisor 19 = .ok (.lconst 0, 1) := by decide +kernel
theorem dX9_commonDivisor_20 : decode cX9_commonDivisor 20 = .ok (.lcmp, 1) := by decide +kernel
theorem dX9_commonDivisor_21 : decode cX9_commonDivisor 21 = .ok (.ifCond .eq 24, 3) := by decide +kernel
theorem dX9_commonDivisor_24 : decode cX9_commonDivisor 24 = .ok (.lload 4, 2) := by decide +kernel
theorem dX9_commonDivisor_26 : decode cX9_commonDivisor 26 = .ok (.lload 6, 2) := by decide +kernel
theorem dX9_commonDivisor_28 : decode cX9_commonDivisor 28 = .ok (.lrem, 1) := by decide +kernel
theorem dX9_commonDivisor_29 : decode cX9_commonDivisor 29 = .ok (.lstore 9, 2) := by decide +kernel
theorem dX9_commonDivisor_31 : decode cX9_commonDivisor 31 = .ok (.lload 6, 2) := by decide +kernel
theorem dX9_commonDivisor_33 : decode cX9_commonDivisor 33 = .ok (.lstore 4, 2) := by decide +kernel
theorem dX9_commonDivisor_35 : decode cX9_commonDivisor 35 = .ok (.lload 9, 2) := by decide +kernel
theorem dX9_commonDivisor_37 : decode cX9_commonDivisor 37 = .ok (.lstore 6, 2) := by decide +kernel
theorem dX9_commonDivisor_39 : decode cX9_commonDivisor 39 = .ok (.iinc 8 1, 3) := by decide +kernel
theorem dX9_commonDivisor_42 : decode cX9_commonDivisor 42 = .ok (.goto (-33), 3) := by decide +kernel
theorem dX9_commonDivisor_45 : decode cX9_commonDivisor 45 = .ok (.lload 4, 2) := by decide +kernel
theorem dX9_commonDivisor_47 : decode cX9_commonDivisor 47 = .ok (.lreturn, 1) := by decide +kernel
theorem dX10_init_0 : decode cX10_init 0 = .ok (.aload_n 0, 1) := by decide +kernel
theorem dX10_init_1 : decode cX10_init 1 = .ok (.invokespecial 1, 3) := by decide +kernel
theorem dX10_init_4 : decode cX10_init 4 = .ok (.aload_n 0, 1) := by decide +kernel
theorem dX10_init_5 : decode cX10_init 5 = .ok (.sipush 420, 3) := by decide +kernel
theorem dX10_init_8 : decode cX10_init 8 = .ok (.newarray .int, 2) := by decide +kernel
theorem dX10_init_10 : decode cX10_init 10 = .ok (.putfield 7, 3) := by decide +kernel
theorem dX10_init_13 : decode cX10_init 13 = .ok (.aload_n 0, 1) := by decide +kernel
theorem dX10_init_14 : decode cX10_init 14 = .ok (.bipush 7, 2) := by decide +kernel
theorem dX10_init_16 : decode cX10_init 16 = .ok (.newarray .int, 2) := by decide +kernel
theorem dX10_init_18 : decode cX10_init 18 = .ok (.putfield 13, 3) := by decide +kernel
theorem dX10_init_21 : decode cX10_init 21 = .ok (.aload_n 0, 1) := by decide +kernel
theorem dX10_init_22 : decode cX10_init 22 = .ok (.lconst 1, 1) := by decide +kernel
theorem dX10_init_23 : decode cX10_init 23 = .ok (.putfield 16, 3) := by decide +kernel
theorem dX10_init_26 : decode cX10_init 26 = .ok (.aload_n 0, 1) := by decide +kernel
theorem dX10_init_27 : decode cX10_init 27 = .ok (.bipush 6, 2) := by decide +kernel
theorem dX10_init_29 : decode cX10_init 29 = .ok (.newarray .int, 2) := by decide +kernel
theorem dX10_init_31 : decode cX10_init 31 = .ok (.putfield 20, 3) := by decide +kernel
theorem dX10_init_34 : decode cX10_init 34 = .ok (.aload_n 0, 1) := by decide +kernel
theorem dX10_init_35 : decode cX10_init 35 = .ok (.bipush 6, 2) := by decide +kernel
theorem dX10_init_37 : decode cX10_init 37 = .ok (.newarray .int, 2) := by decide +kernel
theorem dX10_init_39 : decode cX10_init 39 = .ok (.putfield 23, 3) := by decide +kernel
theorem dX10_init_42 : decode cX10_init 42 = .ok (.aload_n 0, 1) := by decide +kernel
theorem dX10_init_43 : decode cX10_init 43 = .ok (.bipush 6, 2) := by decide +kernel
theorem dX10_init_45 : decode cX10_init 45 = .ok (.newarray .int, 2) := by decide +kernel
theorem dX10_init_47 : decode cX10_init 47 = .ok (.putfield 26, 3) := by decide +kernel
theorem dX10_init_50 : decode cX10_init 50 = .ok (.aload_n 0, 1) := by decide +kernel
theorem dX10_init_51 : decode cX10_init 51 = .ok (.bipush 6, 2) := by decide +kernel
theorem dX10_init_53 : decode cX10_init 53 = .ok (.newarray .int, 2) := by decide +kernel
theorem dX10_init_55 : decode cX10_init 55 = .ok (.putfield 29, 3) := by decide +kernel
theorem dX10_init_58 : decode cX10_init 58 = .ok (.aload_n 0, 1) := by decide +kernel
theorem dX10_init_59 : decode cX10_init 59 = .ok (.bipush 6, 2) := by decide +kernel
theorem dX10_init_61 : decode cX10_init 61 = .ok (.newarray .int, 2) := by decide +kernel
theorem dX10_init_63 : decode cX10_init 63 = .ok (.putfield 32, 3) := by decide +kernel
theorem dX10_init_66 : decode cX10_init 66 = .ok (.aload_n 0, 1) := by decide +kernel
theorem dX10_init_67 : decode cX10_init 67 = .ok (.iconst 4, 1) := by decide +kernel
theorem dX10_init_68 : decode cX10_init 68 = .ok (.newarray .int, 2) := by decide +kernel
theorem dX10_init_70 : decode cX10_init 70 = .ok (.putfield 35, 3) := by decide +kernel
theorem dX10_init_73 : decode cX10_init 73 = .ok (.aload_n 0, 1) := by decide +kernel
theorem dX10_init_74 : decode cX10_init 74 = .ok (.iconst 4, 1) := by decide +kernel
theorem dX10_init_75 : decode cX10_init 75 = .ok (.newarray .int, 2) := by decide +kernel
theorem dX10_init_77 : decode cX10_init 77 = .ok (.putfield 38, 3) := by decide +kernel
theorem dX10_init_80 : decode cX10_init 80 = .ok (.aload_n 0, 1) := by decide +kernel
theorem dX10_init_81 : decode cX10_init 81 = .ok (.iconst 4, 1) := by decide +kernel
theorem dX10_init_82 : decode cX10_init 82 = .ok (.newarray .int, 2) := by decide +kernel
