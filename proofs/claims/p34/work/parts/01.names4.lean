theorem dX9_mark_10 : decode cX9_mark 10 = .ok (.iload_n 2, 1) := by decide +kernel
theorem dX9_mark_11 : decode cX9_mark 11 = .ok (.ifCond .lt 9, 3) := by decide +kernel
theorem dX9_mark_14 : decode cX9_mark 14 = .ok (.iload_n 2, 1) := by decide +kernel
theorem dX9_mark_15 : decode cX9_mark 15 = .ok (.bipush 60, 2) := by decide +kernel
theorem dX9_mark_17 : decode cX9_mark 17 = .ok (.if_icmp .lt 6, 3) := by decide +kernel
theorem dX9_mark_20 : decode cX9_mark 20 = .ok (.bipush (-102), 2) := by decide +kernel
theorem dX9_mark_22 : decode cX9_mark 22 = .ok (.ireturn, 1) := by decide +kernel
theorem dX9_mark_23 : decode cX9_mark 23 = .ok (.aload_n 0, 1) := by decide +kernel
theorem dX9_mark_24 : decode cX9_mark 24 = .ok (.getfield 31, 3) := by decide +kernel
theorem dX9_mark_27 : decode cX9_mark 27 = .ok (.iload_n 1, 1) := by decide +kernel
theorem dX9_mark_28 : decode cX9_mark 28 = .ok (.iload_n 2, 1) := by decide +kernel
theorem dX9_mark_29 : decode cX9_mark 29 = .ok (.invokevirtual 133, 3) := by decide +kernel
theorem dX9_mark_32 : decode cX9_mark 32 = .ok (.ireturn, 1) := by decide +kernel
set_option maxRecDepth 20000 in
theorem ggX9_dated_X9_isCairn : GoodIn wsX9_dated wsX9_isCairn := goodIn_r _ [6] (by decide +kernel) (by decide +kernel)
set_option maxRecDepth 20000 in
theorem gX9_dated_X9_isCairn : GoodIn wsX9_dated (va_wsS RX9 119 yX9_isCairn wsX9_isCairn) := goodIn_app (goodIn_of _ (by decide +kernel)) ggX9_dated_X9_isCairn
set_option maxRecDepth 20000 in
theorem ggX9_dated_X2_markAt : GoodIn wsX9_dated wsX2_markAt := goodIn_r _ [11, 12, 13, 4, 5, 6, 25, 26, 27, 28, 29, 30, 31, 32] (by decide +kernel) (by decide +kernel)
set_option maxRecDepth 20000 in
theorem gX9_dated_X2_markAt : GoodIn wsX9_dated (wsV RX9 133 RX2 yX2_markAt wsX2_markAt) := goodIn_app (goodIn_of _ (by decide +kernel)) ggX9_dated_X2_markAt
theorem dX9_dated_0 : decode cX9_dated 0 = .ok (.iload_n 1, 1) := by decide +kernel
theorem dX9_dated_1 : decode cX9_dated 1 = .ok (.invokestatic 119, 3) := by decide +kernel
theorem dX9_dated_4 : decode cX9_dated 4 = .ok (.ifCond .ne 6, 3) := by decide +kernel
theorem dX9_dated_7 : decode cX9_dated 7 = .ok (.bipush (-101), 2) := by decide +kernel
theorem dX9_dated_9 : decode cX9_dated 9 = .ok (.ireturn, 1) := by decide +kernel
theorem dX9_dated_10 : decode cX9_dated 10 = .ok (.iload_n 2, 1) := by decide +kernel
theorem dX9_dated_11 : decode cX9_dated 11 = .ok (.ifCond .lt 10, 3) := by decide +kernel
theorem dX9_dated_14 : decode cX9_dated 14 = .ok (.iload_n 2, 1) := by decide +kernel
theorem dX9_dated_15 : decode cX9_dated 15 = .ok (.sipush 9999, 3) := by decide +kernel
theorem dX9_dated_18 : decode cX9_dated 18 = .ok (.if_icmp .le 6, 3) := by decide +kernel
theorem dX9_dated_21 : decode cX9_dated 21 = .ok (.bipush (-102), 2) := by decide +kernel
theorem dX9_dated_23 : decode cX9_dated 23 = .ok (.ireturn, 1) := by decide +kernel
theorem dX9_dated_24 : decode cX9_dated 24 = .ok (.iconst 0, 1) := by decide +kernel
theorem dX9_dated_25 : decode cX9_dated 25 = .ok (.istore_n 3, 1) := by decide +kernel
theorem dX9_dated_26 : decode cX9_dated 26 = .ok (.iconst 0, 1) := by decide +kernel
theorem dX9_dated_27 : decode cX9_dated 27 = .ok (.istore 4, 2) := by decide +kernel
theorem dX9_dated_29 : decode cX9_dated 29 = .ok (.iload 4, 2) := by decide +kernel
theorem dX9_dated_31 : decode cX9_dated 31 = .ok (.aload_n 0, 1) := by decide +kernel
theorem dX9_dated_32 : decode cX9_dated 32 = .ok (.getfield 31, 3) := by decide +kernel
theorem dX9_dated_35 : decode cX9_dated 35 = .ok (.getfield 127, 3) := by decide +kernel
theorem dX9_dated_38 : decode cX9_dated 38 = .ok (.iload_n 1, 1) := by decide +kernel
theorem dX9_dated_39 : decode cX9_dated 39 = .ok (.iaload, 1) := by decide +kernel
theorem dX9_dated_40 : decode cX9_dated 40 = .ok (.if_icmp .ge 26, 3) := by decide +kernel
theorem dX9_dated_43 : decode cX9_dated 43 = .ok (.aload_n 0, 1) := by decide +kernel
theorem dX9_dated_44 : decode cX9_dated 44 = .ok (.getfield 31, 3) := by decide +kernel
theorem dX9_dated_47 : decode cX9_dated 47 = .ok (.iload_n 1, 1) := by decide +kernel
theorem dX9_dated_48 : decode cX9_dated 48 = .ok (.iload 4, 2) := by decide +kernel
theorem dX9_dated_50 : decode cX9_dated 50 = .ok (.invokevirtual 133, 3) := by decide +kernel
theorem dX9_dated_53 : decode cX9_dated 53 = .ok (.iload_n 2, 1) := by decide +kernel
theorem dX9_dated_54 : decode cX9_dated 54 = .ok (.if_icmp .ne 6, 3) := by decide +kernel
theorem dX9_dated_57 : decode cX9_dated 57 = .ok (.iinc 3 1, 3) := by decide +kernel
theorem dX9_dated_60 : decode cX9_dated 60 = .ok (.iinc 4 1, 3) := by decide +kernel
theorem dX9_dated_63 : decode cX9_dated 63 = .ok (.goto (-34), 3) := by decide +kernel
theorem dX9_dated_66 : decode cX9_dated 66 = .ok (.iload_n 3, 1) := by decide +kernel
theorem dX9_dated_67 : decode cX9_dated 67 = .ok (.ireturn, 1) := by decide +kernel
theorem dX9_seed_0 : decode cX9_seed 0 = .ok (.iload_n 1, 1) := by decide +kernel
theorem dX9_seed_1 : decode cX9_seed 1 = .ok (.ifCond .ge 6, 3) := by decide +kernel
theorem dX9_seed_4 : decode cX9_seed 4 = .ok (.bipush (-102), 2) := by decide +kernel
theorem dX9_seed_6 : decode cX9_seed 6 = .ok (.ireturn, 1) := by decide +kernel
theorem dX9_seed_7 : decode cX9_seed 7 = .ok (.aload_n 0, 1) := by decide +kernel
theorem dX9_seed_8 : decode cX9_seed 8 = .ok (.getfield 31, 3) := by decide +kernel
theorem dX9_seed_11 : decode cX9_seed 11 = .ok (.getfield 137, 3) := by decide +kernel
theorem dX9_seed_14 : decode cX9_seed 14 = .ok (.istore_n 2, 1) := by decide +kernel
theorem dX9_seed_15 : decode cX9_seed 15 = .ok (.aload_n 0, 1) := by decide +kernel
theorem dX9_seed_16 : decode cX9_seed 16 = .ok (.getfield 31, 3) := by decide +kernel
theorem dX9_seed_19 : decode cX9_seed 19 = .ok (.iload_n 1, 1) := by decide +kernel
theorem dX9_seed_20 : decode cX9_seed 20 = .ok (.putfield 137, 3) := by decide +kernel
theorem dX9_seed_23 : decode cX9_seed 23 = .ok (.iload_n 2, 1) := by decide +kernel
theorem dX9_seed_24 : decode cX9_seed 24 = .ok (.ireturn, 1) := by decide +kernel
set_option maxRecDepth 20000 in
theorem ggX9_weeks_X9_customAt : GoodIn wsX9_weeks wsX9_customAt := goodIn_r _ [8, 9, 135, 136, 137, 138, 139, 140, 141, 142, 143, 144, 145] (by decide +kernel) (by decide +kernel)
set_option maxRecDepth 20000 in
theorem gX9_weeks_X9_customAt : GoodIn wsX9_weeks (wsV RX9 79 RX9 yX9_customAt wsX9_customAt) := goodIn_app (goodIn_of _ (by decide +kernel)) ggX9_weeks_X9_customAt
set_option maxRecDepth 20000 in
theorem ggX9_weeks_X2_goOneWeek : GoodIn wsX9_weeks wsX2_goOneWeek := goodIn_r _ [14, 15, 16, 17, 18, 19, 13, 20, 21, 22, 23, 24, 25, 26, 27, 28, 29, 30, 31, 32, 33, 34, 35, 36, 37, 38, 39, 40, 41, 42, 43, 44, 45, 46, 47, 48, 49, 50, 51, 52, 53, 54, 55, 56, 57, 58, 59, 60, 61, 62, 63, 64, 65, 66, 67, 68, 69, 70, 71, 72, 73, 74, 7, 75, 76, 77, 78, 79, 80, 81, 82, 83, 84, 85, 86, 87, 88, 89, 90, 91, 92, 93, 94, 95, 96, 97, 98, 99, 100, 101, 102, 103, 104, 105, 106, 107, 108, 109, 110, 111, 112, 113, 114, 115, 116, 117, 118, 119, 120, 121, 122, 123, 124, 125, 126, 127, 128, 129, 130, 146, 147, 148, 149, 150, 151, 152, 153, 154, 155, 156, 157, 158, 159, 160, 161, 162, 163, 164, 165, 166, 167, 168, 169, 170, 171, 172] (by decide +kernel) (by decide +kernel)
set_option maxRecDepth 20000 in
theorem gX9_weeks_X2_goOneWeek : GoodIn wsX9_weeks (wsV RX9 143 RX2 yX2_goOneWeek wsX2_goOneWeek) := goodIn_app (goodIn_of _ (by decide +kernel)) ggX9_weeks_X2_goOneWeek
set_option maxRecDepth 20000 in
theorem ggX9_weeks_X2_pebbles : GoodIn wsX9_weeks wsX2_pebbles := goodIn_r _ [134, 42, 146, 147, 148, 149, 150, 151, 152, 153] (by decide +kernel) (by decide +kernel)
set_option maxRecDepth 20000 in
theorem gX9_weeks_X2_pebbles : GoodIn wsX9_weeks (wsV RX9 147 RX2 yX2_pebbles wsX2_pebbles) := goodIn_app (goodIn_of _ (by decide +kernel)) ggX9_weeks_X2_pebbles
theorem dX9_weeks_0 : decode cX9_weeks 0 = .ok (.aload_n 0, 1) := by decide +kernel
theorem dX9_weeks_1 : decode cX9_weeks 1 = .ok (.iload_n 1, 1) := by decide +kernel
theorem dX9_weeks_2 : decode cX9_weeks 2 = .ok (.invokevirtual 79, 3) := by decide +kernel
theorem dX9_weeks_5 : decode cX9_weeks 5 = .ok (.astore_n 3, 1) := by decide +kernel
theorem dX9_weeks_6 : decode cX9_weeks 6 = .ok (.aload_n 3, 1) := by decide +kernel
theorem dX9_weeks_7 : decode cX9_weeks 7 = .ok (.ifnonnull 6, 3) := by decide +kernel
theorem dX9_weeks_10 : decode cX9_weeks 10 = .ok (.bipush (-101), 2) := by decide +kernel
theorem dX9_weeks_12 : decode cX9_weeks 12 = .ok (.ireturn, 1) := by decide +kernel
theorem dX9_weeks_13 : decode cX9_weeks 13 = .ok (.iload_n 2, 1) := by decide +kernel
theorem dX9_weeks_14 : decode cX9_weeks 14 = .ok (.iconst 1, 1) := by decide +kernel
theorem dX9_weeks_15 : decode cX9_weeks 15 = .ok (.if_icmp .lt 9, 3) := by decide +kernel
theorem dX9_weeks_18 : decode cX9_weeks 18 = .ok (.iload_n 2, 1) := by decide +kernel
theorem dX9_weeks_19 : decode cX9_weeks 19 = .ok (.bipush 60, 2) := by decide +kernel
theorem dX9_weeks_21 : decode cX9_weeks 21 = .ok (.if_icmp .le 6, 3) := by decide +kernel
theorem dX9_weeks_24 : decode cX9_weeks 24 = .ok (.bipush (-102), 2) := by decide +kernel
theorem dX9_weeks_26 : decode cX9_weeks 26 = .ok (.ireturn, 1) := by decide +kernel
theorem dX9_weeks_27 : decode cX9_weeks 27 = .ok (.aload_n 0, 1) := by decide +kernel
theorem dX9_weeks_28 : decode cX9_weeks 28 = .ok (.getfield 31, 3) := by decide +kernel
theorem dX9_weeks_31 : decode cX9_weeks 31 = .ok (.getfield 140, 3) := by decide +kernel
theorem dX9_weeks_34 : decode cX9_weeks 34 = .ok (.iload_n 2, 1) := by decide +kernel
theorem dX9_weeks_35 : decode cX9_weeks 35 = .ok (.iadd, 1) := by decide +kernel
theorem dX9_weeks_36 : decode cX9_weeks 36 = .ok (.sipush 9999, 3) := by decide +kernel
theorem dX9_weeks_39 : decode cX9_weeks 39 = .ok (.if_icmp .le 6, 3) := by decide +kernel
theorem dX9_weeks_42 : decode cX9_weeks 42 = .ok (.bipush (-103), 2) := by decide +kernel
theorem dX9_weeks_44 : decode cX9_weeks 44 = .ok (.ireturn, 1) := by decide +kernel
theorem dX9_weeks_45 : decode cX9_weeks 45 = .ok (.iconst 0, 1) := by decide +kernel
theorem dX9_weeks_46 : decode cX9_weeks 46 = .ok (.istore 4, 2) := by decide +kernel
theorem dX9_weeks_48 : decode cX9_weeks 48 = .ok (.iload 4, 2) := by decide +kernel
theorem dX9_weeks_50 : decode cX9_weeks 50 = .ok (.iload_n 2, 1) := by decide +kernel
theorem dX9_weeks_51 : decode cX9_weeks 51 = .ok (.if_icmp .ge 21, 3) := by decide +kernel
theorem dX9_weeks_54 : decode cX9_weeks 54 = .ok (.aload_n 0, 1) := by decide +kernel
theorem dX9_weeks_55 : decode cX9_weeks 55 = .ok (.getfield 31, 3) := by decide +kernel
theorem dX9_weeks_58 : decode cX9_weeks 58 = .ok (.aload_n 3, 1) := by decide +kernel
theorem dX9_weeks_59 : decode cX9_weeks 59 = .ok (.aload_n 0, 1) := by decide +kernel
theorem dX9_weeks_60 : decode cX9_weeks 60 = .ok (.getfield 24, 3) := by decide +kernel
theorem dX9_weeks_63 : decode cX9_weeks 63 = .ok (.invokevirtual 143, 3) := by decide +kernel
theorem dX9_weeks_66 : decode cX9_weeks 66 = .ok (.iinc 4 1, 3) := by decide +kernel
theorem dX9_weeks_69 : decode cX9_weeks 69 = .ok (.goto (-21), 3) := by decide +kernel
theorem dX9_weeks_72 : decode cX9_weeks 72 = .ok (.aload_n 0, 1) := by decide +kernel
theorem dX9_weeks_73 : decode cX9_weeks 73 = .ok (.getfield 31, 3) := by decide +kernel
theorem dX9_weeks_76 : decode cX9_weeks 76 = .ok (.invokevirtual 147, 3) := by decide +kernel
theorem dX9_weeks_79 : decode cX9_weeks 79 = .ok (.ireturn, 1) := by decide +kernel
set_option maxRecDepth 20000 in
theorem ggX9_would_X9_customAt : GoodIn wsX9_would wsX9_customAt := goodIn_r _ [7, 8, 145, 146, 147, 148, 149, 150, 151, 152, 153, 154, 155] (by decide +kernel) (by decide +kernel)
set_option maxRecDepth 20000 in
theorem gX9_would_X9_customAt : GoodIn wsX9_would (wsV RX9 79 RX9 yX9_customAt wsX9_customAt) := goodIn_app (goodIn_of _ (by decide +kernel)) ggX9_would_X9_customAt
set_option maxRecDepth 20000 in
theorem ggX9_would_X9_isCairn : GoodIn wsX9_would wsX9_isCairn := goodIn_r _ [11] (by decide +kernel) (by decide +kernel)
set_option maxRecDepth 20000 in
theorem gX9_would_X9_isCairn : GoodIn wsX9_would (va_wsS RX9 119 yX9_isCairn wsX9_isCairn) := goodIn_app (goodIn_of _ (by decide +kernel)) ggX9_would_X9_isCairn
set_option maxRecDepth 20000 in
theorem ggX9_would_X9_dreamOf : GoodIn wsX9_would wsX9_dreamOf := goodIn_r _ [15, 1, 16, 17, 18, 19, 20, 21, 22, 23, 24, 25, 26, 27, 28, 29, 30, 31, 32, 33, 34, 35, 36, 37, 38, 39, 40, 41, 42, 43, 44, 45, 46, 47, 48, 49, 50, 51, 52, 53, 54, 55, 56, 57, 58, 59, 60, 61, 62, 63, 64, 65, 66, 67, 68, 69, 70, 71, 72, 73, 74, 75, 76, 77, 78, 79, 80, 81, 82, 83, 84, 85, 86, 87, 88, 89, 90, 10, 6, 11, 91, 92, 93, 94, 95, 96, 97, 98, 99, 100, 101, 102, 103, 104, 105, 106, 107, 108, 109, 110, 111, 112, 113, 114, 115, 116, 117, 118, 119, 120, 121, 122, 123, 124, 125, 126, 127, 128, 129, 130, 131, 132, 133, 134, 135, 136, 137, 138, 139, 140, 141, 142, 143, 144, 145, 146, 147, 148, 149, 150, 151, 152, 153, 154, 155, 156, 157, 158, 159, 160, 161, 162, 163, 164, 165, 166, 167, 168, 169, 170, 171, 172, 173, 174, 175, 176, 177, 178, 179, 180, 181, 182] (by decide +kernel) (by decide +kernel)
set_option maxRecDepth 20000 in
theorem gX9_would_X9_dreamOf : GoodIn wsX9_would (wsV RX9 150 RX9 yX9_dreamOf wsX9_dreamOf) := goodIn_app (goodIn_of _ (by decide +kernel)) ggX9_would_X9_dreamOf
theorem dX9_would_0 : decode cX9_would 0 = .ok (.aload_n 0, 1) := by decide +kernel
theorem dX9_would_1 : decode cX9_would 1 = .ok (.iload_n 1, 1) := by decide +kernel
theorem dX9_would_2 : decode cX9_would 2 = .ok (.invokevirtual 79, 3) := by decide +kernel
theorem dX9_would_5 : decode cX9_would 5 = .ok (.astore 4, 2) := by decide +kernel
theorem dX9_would_7 : decode cX9_would 7 = .ok (.aload 4, 2) := by decide +kernel
theorem dX9_would_9 : decode cX9_would 9 = .ok (.ifnull 10, 3) := by decide +kernel
theorem dX9_would_12 : decode cX9_would 12 = .ok (.iload_n 2, 1) := by decide +kernel
theorem dX9_would_13 : decode cX9_would 13 = .ok (.invokestatic 119, 3) := by decide +kernel
theorem dX9_would_16 : decode cX9_would 16 = .ok (.ifCond .ne 6, 3) := by decide +kernel
theorem dX9_would_19 : decode cX9_would 19 = .ok (.bipush (-101), 2) := by decide +kernel
theorem dX9_would_21 : decode cX9_would 21 = .ok (.ireturn, 1) := by decide +kernel
theorem dX9_would_22 : decode cX9_would 22 = .ok (.iload_n 3, 1) := by decide +kernel
theorem dX9_would_23 : decode cX9_would 23 = .ok (.ifCond .lt 9, 3) := by decide +kernel
theorem dX9_would_26 : decode cX9_would 26 = .ok (.iload_n 3, 1) := by decide +kernel
theorem dX9_would_27 : decode cX9_would 27 = .ok (.bipush 60, 2) := by decide +kernel
theorem dX9_would_29 : decode cX9_would 29 = .ok (.if_icmp .le 6, 3) := by decide +kernel
theorem dX9_would_32 : decode cX9_would 32 = .ok (.bipush (-102), 2) := by decide +kernel
theorem dX9_would_34 : decode cX9_would 34 = .ok (.ireturn, 1) := by decide +kernel
theorem dX9_would_35 : decode cX9_would 35 = .ok (.aload_n 0, 1) := by decide +kernel
theorem dX9_would_36 : decode cX9_would 36 = .ok (.aload 4, 2) := by decide +kernel
theorem dX9_would_38 : decode cX9_would 38 = .ok (.iload_n 3, 1) := by decide +kernel
theorem dX9_would_39 : decode cX9_would 39 = .ok (.invokevirtual 150, 3) := by decide +kernel
theorem dX9_would_42 : decode cX9_would 42 = .ok (.aload_n 0, 1) := by decide +kernel
theorem dX9_would_43 : decode cX9_would 43 = .ok (.getfield 38, 3) := by decide +kernel
theorem dX9_would_46 : decode cX9_would 46 = .ok (.getfield 127, 3) := by decide +kernel
theorem dX9_would_49 : decode cX9_would 49 = .ok (.iload_n 2, 1) := by decide +kernel
theorem dX9_would_50 : decode cX9_would 50 = .ok (.iaload, 1) := by decide +kernel
theorem dX9_would_51 : decode cX9_would 51 = .ok (.ireturn, 1) := by decide +kernel
set_option maxRecDepth 20000 in
theorem ggX9_count_X2_pebbles : GoodIn wsX9_count wsX2_pebbles := goodIn_r _ [16, 17, 29, 30, 31, 32, 33, 34, 35, 36] (by decide +kernel) (by decide +kernel)
set_option maxRecDepth 20000 in
theorem gX9_count_X2_pebbles : GoodIn wsX9_count (wsV RX9 147 RX2 yX2_pebbles wsX2_pebbles) := goodIn_app (goodIn_of _ (by decide +kernel)) ggX9_count_X2_pebbles
theorem dX9_count_0 : decode cX9_count 0 = .ok (.iload_n 1, 1) := by decide +kernel
theorem dX9_count_1 : decode cX9_count 1 = .ok (.tableswitch 129 0 9 #[55, 60, 65, 73, 81, 89, 97, 105, 113, 121], 55) := by decide +kernel
theorem dX9_count_56 : decode cX9_count 56 = .ok (.aload_n 0, 1) := by decide +kernel
theorem dX9_count_57 : decode cX9_count 57 = .ok (.getfield 94, 3) := by decide +kernel
theorem dX9_count_60 : decode cX9_count 60 = .ok (.ireturn, 1) := by decide +kernel
theorem dX9_count_61 : decode cX9_count 61 = .ok (.aload_n 0, 1) := by decide +kernel
theorem dX9_count_62 : decode cX9_count 62 = .ok (.getfield 72, 3) := by decide +kernel
theorem dX9_count_65 : decode cX9_count 65 = .ok (.ireturn, 1) := by decide +kernel
theorem dX9_count_66 : decode cX9_count 66 = .ok (.aload_n 0, 1) := by decide +kernel
theorem dX9_count_67 : decode cX9_count 67 = .ok (.getfield 31, 3) := by decide +kernel
theorem dX9_count_70 : decode cX9_count 70 = .ok (.invokevirtual 147, 3) := by decide +kernel
theorem dX9_count_73 : decode cX9_count 73 = .ok (.ireturn, 1) := by decide +kernel
theorem dX9_count_74 : decode cX9_count 74 = .ok (.aload_n 0, 1) := by decide +kernel
theorem dX9_count_75 : decode cX9_count 75 = .ok (.getfield 31, 3) := by decide +kernel
theorem dX9_count_78 : decode cX9_count 78 = .ok (.getfield 140, 3) := by decide +kernel
theorem dX9_count_81 : decode cX9_count 81 = .ok (.ireturn, 1) := by decide +kernel
theorem dX9_count_82 : decode cX9_count 82 = .ok (.aload_n 0, 1) := by decide +kernel
theorem dX9_count_83 : decode cX9_count 83 = .ok (.getfield 31, 3) := by decide +kernel
theorem dX9_count_86 : decode cX9_count 86 = .ok (.getfield 137, 3) := by decide +kernel
theorem dX9_count_89 : decode cX9_count 89 = .ok (.ireturn, 1) := by decide +kernel
theorem dX9_count_90 : decode cX9_count 90 = .ok (.aload_n 0, 1) := by decide +kernel
theorem dX9_count_91 : decode cX9_count 91 = .ok (.getfield 31, 3) := by decide +kernel
theorem dX9_count_94 : decode cX9_count 94 = .ok (.getfield 219, 3) := by decide +kernel
theorem dX9_count_97 : decode cX9_count 97 = .ok (.ireturn, 1) := by decide +kernel
theorem dX9_count_98 : decode cX9_count 98 = .ok (.aload_n 0, 1) := by decide +kernel
theorem dX9_count_99 : decode cX9_count 99 = .ok (.getfield 31, 3) := by decide +kernel
theorem dX9_count_102 : decode cX9_count 102 = .ok (.getfield 222, 3) := by decide +kernel
theorem dX9_count_105 : decode cX9_count 105 = .ok (.ireturn, 1) := by decide +kernel
theorem dX9_count_106 : decode cX9_count 106 = .ok (.aload_n 0, 1) := by decide +kernel
theorem dX9_count_107 : decode cX9_count 107 = .ok (.getfield 31, 3) := by decide +kernel
theorem dX9_count_110 : decode cX9_count 110 = .ok (.getfield 225, 3) := by decide +kernel
theorem dX9_count_113 : decode cX9_count 113 = .ok (.ireturn, 1) := by decide +kernel
theorem dX9_count_114 : decode cX9_count 114 = .ok (.aload_n 0, 1) := by decide +kernel
theorem dX9_count_115 : decode cX9_count 115 = .ok (.getfield 31, 3) := by decide +kernel
theorem dX9_count_118 : decode cX9_count 118 = .ok (.getfield 228, 3) := by decide +kernel
theorem dX9_count_121 : decode cX9_count 121 = .ok (.ireturn, 1) := by decide +kernel
theorem dX9_count_122 : decode cX9_count 122 = .ok (.aload_n 0, 1) := by decide +kernel
theorem dX9_count_123 : decode cX9_count 123 = .ok (.getfield 12, 3) := by decide +kernel
theorem dX9_count_126 : decode cX9_count 126 = .ok (.getfield 56, 3) := by decide +kernel
theorem dX9_count_129 : decode cX9_count 129 = .ok (.ireturn, 1) := by decide +kernel
theorem dX9_count_130 : decode cX9_count 130 = .ok (.bipush (-102), 2) := by decide +kernel
theorem dX9_count_132 : decode cX9_count 132 = .ok (.ireturn, 1) := by decide +kernel
theorem dX9_customAt_0 : decode cX9_customAt 0 = .ok (.iload_n 1, 1) := by decide +kernel
theorem dX9_customAt_1 : decode cX9_customAt 1 = .ok (.ifCond .lt 8, 3) := by decide +kernel
theorem dX9_customAt_4 : decode cX9_customAt 4 = .ok (.iload_n 1, 1) := by decide +kernel
theorem dX9_customAt_5 : decode cX9_customAt 5 = .ok (.iconst 4, 1) := by decide +kernel
theorem dX9_customAt_6 : decode cX9_customAt 6 = .ok (.if_icmp .lt 7, 3) := by decide +kernel
theorem dX9_customAt_9 : decode cX9_customAt 9 = .ok (.aconst_null, 1) := by decide +kernel
theorem dX9_customAt_10 : decode cX9_customAt 10 = .ok (.goto 9, 3) := by decide +kernel
theorem dX9_customAt_13 : decode cX9_customAt 13 = .ok (.aload_n 0, 1) := by decide +kernel
theorem dX9_customAt_14 : decode cX9_customAt 14 = .ok (.getfield 18, 3) := by decide +kernel
theorem dX9_customAt_17 : decode cX9_customAt 17 = .ok (.iload_n 1, 1) := by decide +kernel
theorem dX9_customAt_18 : decode cX9_customAt 18 = .ok (.aaload, 1) := by decide +kernel
theorem dX9_customAt_19 : decode cX9_customAt 19 = .ok (.areturn, 1) := by decide +kernel
theorem dX9_isCairn_0 : decode cX9_isCairn 0 = .ok (.iload_n 0, 1) := by decide +kernel
theorem dX9_isCairn_1 : decode cX9_isCairn 1 = .ok (.ifCond .lt 13, 3) := by decide +kernel
theorem dX9_isCairn_4 : decode cX9_isCairn 4 = .ok (.iload_n 0, 1) := by decide +kernel
theorem dX9_isCairn_5 : decode cX9_isCairn 5 = .ok (.bipush 7, 2) := by decide +kernel
theorem dX9_isCairn_7 : decode cX9_isCairn 7 = .ok (.if_icmp .ge 7, 3) := by decide +kernel
theorem dX9_isCairn_10 : decode cX9_isCairn 10 = .ok (.iconst 1, 1) := by decide +kernel
theorem dX9_isCairn_11 : decode cX9_isCairn 11 = .ok (.goto 4, 3) := by decide +kernel
theorem dX9_isCairn_14 : decode cX9_isCairn 14 = .ok (.iconst 0, 1) := by decide +kernel
theorem dX9_isCairn_15 : decode cX9_isCairn 15 = .ok (.ireturn, 1) := by decide +kernel
set_option maxRecDepth 20000 in
theorem ggX9_isKindWith_X9_isCairn : GoodIn wsX9_isKindWith wsX9_isCairn := goodIn_r _ [4] (by decide +kernel) (by decide +kernel)
set_option maxRecDepth 20000 in
theorem gX9_isKindWith_X9_isCairn : GoodIn wsX9_isKindWith (va_wsS RX9 119 yX9_isCairn wsX9_isCairn) := goodIn_app (goodIn_of _ (by decide +kernel)) ggX9_isKindWith_X9_isCairn
theorem dX9_isKindWith_0 : decode cX9_isKindWith 0 = .ok (.iload_n 0, 1) := by decide +kernel
theorem dX9_isKindWith_1 : decode cX9_isKindWith 1 = .ok (.tableswitch 67 0 3 #[31, 41, 57, 62], 31) := by decide +kernel
theorem dX9_isKindWith_32 : decode cX9_isKindWith 32 = .ok (.iload_n 1, 1) := by decide +kernel
theorem dX9_isKindWith_33 : decode cX9_isKindWith 33 = .ok (.ifCond .ne 7, 3) := by decide +kernel
theorem dX9_isKindWith_36 : decode cX9_isKindWith 36 = .ok (.iconst 1, 1) := by decide +kernel
theorem dX9_isKindWith_37 : decode cX9_isKindWith 37 = .ok (.goto 4, 3) := by decide +kernel
theorem dX9_isKindWith_40 : decode cX9_isKindWith 40 = .ok (.iconst 0, 1) := by decide +kernel
theorem dX9_isKindWith_41 : decode cX9_isKindWith 41 = .ok (.ireturn, 1) := by decide +kernel
theorem dX9_isKindWith_42 : decode cX9_isKindWith 42 = .ok (.iload_n 1, 1) := by decide +kernel
theorem dX9_isKindWith_43 : decode cX9_isKindWith 43 = .ok (.iconst 2, 1) := by decide +kernel
theorem dX9_isKindWith_44 : decode cX9_isKindWith 44 = .ok (.if_icmp .lt 12, 3) := by decide +kernel
theorem dX9_isKindWith_47 : decode cX9_isKindWith 47 = .ok (.iload_n 1, 1) := by decide +kernel
theorem dX9_isKindWith_48 : decode cX9_isKindWith 48 = .ok (.iconst 4, 1) := by decide +kernel
theorem dX9_isKindWith_49 : decode cX9_isKindWith 49 = .ok (.if_icmp .gt 7, 3) := by decide +kernel
theorem dX9_isKindWith_52 : decode cX9_isKindWith 52 = .ok (.iconst 1, 1) := by decide +kernel
theorem dX9_isKindWith_53 : decode cX9_isKindWith 53 = .ok (.goto 4, 3) := by decide +kernel
theorem dX9_isKindWith_56 : decode cX9_isKindWith 56 = .ok (.iconst 0, 1) := by decide +kernel
theorem dX9_isKindWith_57 : decode cX9_isKindWith 57 = .ok (.ireturn, 1) := by decide +kernel
theorem dX9_isKindWith_58 : decode cX9_isKindWith 58 = .ok (.iload_n 1, 1) := by decide +kernel
theorem dX9_isKindWith_59 : decode cX9_isKindWith 59 = .ok (.invokestatic 119, 3) := by decide +kernel
theorem dX9_isKindWith_62 : decode cX9_isKindWith 62 = .ok (.ireturn, 1) := by decide +kernel
theorem dX9_isKindWith_63 : decode cX9_isKindWith 63 = .ok (.iload_n 1, 1) := by decide +kernel
theorem dX9_isKindWith_64 : decode cX9_isKindWith 64 = .ok (.invokestatic 119, 3) := by decide +kernel
theorem dX9_isKindWith_67 : decode cX9_isKindWith 67 = .ok (.ireturn, 1) := by decide +kernel
theorem dX9_isKindWith_68 : decode cX9_isKindWith 68 = .ok (.iconst 0, 1) := by decide +kernel
theorem dX9_isKindWith_69 : decode cX9_isKindWith 69 = .ok (.ireturn, 1) := by decide +kernel
theorem dX9_mayBe_0 : decode cX9_mayBe 0 = .ok (.iload_n 0, 1) := by decide +kernel
theorem dX9_mayBe_1 : decode cX9_mayBe 1 = .ok (.tableswitch 76 2 4 #[27, 44, 60], 27) := by decide +kernel
theorem dX9_mayBe_28 : decode cX9_mayBe 28 = .ok (.iload_n 1, 1) := by decide +kernel
theorem dX9_mayBe_29 : decode cX9_mayBe 29 = .ok (.iconst 1, 1) := by decide +kernel
theorem dX9_mayBe_30 : decode cX9_mayBe 30 = .ok (.if_icmp .lt 13, 3) := by decide +kernel
theorem dX9_mayBe_33 : decode cX9_mayBe 33 = .ok (.iload_n 1, 1) := by decide +kernel
theorem dX9_mayBe_34 : decode cX9_mayBe 34 = .ok (.bipush 9, 2) := by decide +kernel
theorem dX9_mayBe_36 : decode cX9_mayBe 36 = .ok (.if_icmp .gt 7, 3) := by decide +kernel
theorem dX9_mayBe_39 : decode cX9_mayBe 39 = .ok (.iconst 1, 1) := by decide +kernel
theorem dX9_mayBe_40 : decode cX9_mayBe 40 = .ok (.goto 4, 3) := by decide +kernel
theorem dX9_mayBe_43 : decode cX9_mayBe 43 = .ok (.iconst 0, 1) := by decide +kernel
theorem dX9_mayBe_44 : decode cX9_mayBe 44 = .ok (.ireturn, 1) := by decide +kernel
theorem dX9_mayBe_45 : decode cX9_mayBe 45 = .ok (.iload_n 1, 1) := by decide +kernel
theorem dX9_mayBe_46 : decode cX9_mayBe 46 = .ok (.ifCond .lt 13, 3) := by decide +kernel
theorem dX9_mayBe_49 : decode cX9_mayBe 49 = .ok (.iload_n 1, 1) := by decide +kernel
theorem dX9_mayBe_50 : decode cX9_mayBe 50 = .ok (.bipush 10, 2) := by decide +kernel
theorem dX9_mayBe_52 : decode cX9_mayBe 52 = .ok (.if_icmp .gt 7, 3) := by decide +kernel
theorem dX9_mayBe_55 : decode cX9_mayBe 55 = .ok (.iconst 1, 1) := by decide +kernel
theorem dX9_mayBe_56 : decode cX9_mayBe 56 = .ok (.goto 4, 3) := by decide +kernel
theorem dX9_mayBe_59 : decode cX9_mayBe 59 = .ok (.iconst 0, 1) := by decide +kernel
theorem dX9_mayBe_60 : decode cX9_mayBe 60 = .ok (.ireturn, 1) := by decide +kernel
theorem dX9_mayBe_61 : decode cX9_mayBe 61 = .ok (.iload_n 1, 1) := by decide +kernel
theorem dX9_mayBe_62 : decode cX9_mayBe 62 = .ok (.ifCond .lt 13, 3) := by decide +kernel
theorem dX9_mayBe_65 : decode cX9_mayBe 65 = .ok (.iload_n 1, 1) := by decide +kernel
theorem dX9_mayBe_66 : decode cX9_mayBe 66 = .ok (.bipush 10, 2) := by decide +kernel
theorem dX9_mayBe_68 : decode cX9_mayBe 68 = .ok (.if_icmp .gt 7, 3) := by decide +kernel
theorem dX9_mayBe_71 : decode cX9_mayBe 71 = .ok (.iconst 1, 1) := by decide +kernel
theorem dX9_mayBe_72 : decode cX9_mayBe 72 = .ok (.goto 4, 3) := by decide +kernel
theorem dX9_mayBe_75 : decode cX9_mayBe 75 = .ok (.iconst 0, 1) := by decide +kernel
theorem dX9_mayBe_76 : decode cX9_mayBe 76 = .ok (.ireturn, 1) := by decide +kernel
theorem dX9_mayBe_77 : decode cX9_mayBe 77 = .ok (.iconst 0, 1) := by decide +kernel
theorem dX9_mayBe_78 : decode cX9_mayBe 78 = .ok (.ireturn, 1) := by decide +kernel
set_option maxRecDepth 20000 in
theorem ggX9_madeOf_X6_init : GoodIn wsX9_madeOf wsX6_init := goodIn_r _ [15, 16, 17, 12, 18, 19, 20, 21, 22, 40, 41, 42, 43, 44, 45, 46, 47, 32, 33, 34, 35, 36, 37, 38, 39] (by decide +kernel) (by decide +kernel)
set_option maxRecDepth 20000 in
theorem gX9_madeOf_X6_init : GoodIn wsX9_madeOf (wsX6_init) := ggX9_madeOf_X6_init
set_option maxRecDepth 20000 in
theorem ggX9_madeOf_X7_init : GoodIn wsX9_madeOf wsX7_init := goodIn_r _ [25, 26, 17, 12, 18, 19, 20, 21, 22, 40, 41, 42, 43, 44, 45, 46, 47, 32, 33, 34, 35, 36, 37, 38, 39] (by decide +kernel) (by decide +kernel)
set_option maxRecDepth 20000 in
theorem gX9_madeOf_X7_init : GoodIn wsX9_madeOf (wsX7_init) := ggX9_madeOf_X7_init
set_option maxRecDepth 20000 in
theorem ggX9_madeOf_X0_init : GoodIn wsX9_madeOf wsX0_init := goodIn_r _ [29, 30, 24, 6, 25, 26, 17, 12, 18, 19, 20, 21, 22, 40, 41, 42, 43, 44, 45, 46, 47, 32, 33, 34, 35, 36, 37, 38, 39] (by decide +kernel) (by decide +kernel)
set_option maxRecDepth 20000 in
theorem gX9_madeOf_X0_init : GoodIn wsX9_madeOf (wsX0_init) := ggX9_madeOf_X0_init
set_option maxRecDepth 20000 in
theorem ggX9_madeOf_X5_init : GoodIn wsX9_madeOf wsX5_init := goodIn_r _ [18, 19, 20, 21, 22, 40, 41, 42, 43, 44, 45, 46, 47, 32, 33, 34, 35, 36, 37, 38, 39] (by decide +kernel) (by decide +kernel)
set_option maxRecDepth 20000 in
theorem gX9_madeOf_X5_init : GoodIn wsX9_madeOf (wsX5_init) := ggX9_madeOf_X5_init
theorem dX9_madeOf_0 : decode cX9_madeOf 0 = .ok (.iload_n 0, 1) := by decide +kernel
theorem dX9_madeOf_1 : decode cX9_madeOf 1 = .ok (.tableswitch 54 1 3 #[27, 36, 45], 27) := by decide +kernel
theorem dX9_madeOf_28 : decode cX9_madeOf 28 = .ok (.new 254, 3) := by decide +kernel
theorem dX9_madeOf_31 : decode cX9_madeOf 31 = .ok (.dup, 1) := by decide +kernel
theorem dX9_madeOf_32 : decode cX9_madeOf 32 = .ok (.iload_n 1, 1) := by decide +kernel
theorem dX9_madeOf_33 : decode cX9_madeOf 33 = .ok (.invokespecial 256, 3) := by decide +kernel
theorem dX9_madeOf_36 : decode cX9_madeOf 36 = .ok (.areturn, 1) := by decide +kernel
theorem dX9_madeOf_37 : decode cX9_madeOf 37 = .ok (.new 259, 3) := by decide +kernel
theorem dX9_madeOf_40 : decode cX9_madeOf 40 = .ok (.dup, 1) := by decide +kernel
theorem dX9_madeOf_41 : decode cX9_madeOf 41 = .ok (.iload_n 1, 1) := by decide +kernel
theorem dX9_madeOf_42 : decode cX9_madeOf 42 = .ok (.invokespecial 261, 3) := by decide +kernel
theorem dX9_madeOf_45 : decode cX9_madeOf 45 = .ok (.areturn, 1) := by decide +kernel
theorem dX9_madeOf_46 : decode cX9_madeOf 46 = .ok (.new 262, 3) := by decide +kernel
theorem dX9_madeOf_49 : decode cX9_madeOf 49 = .ok (.dup, 1) := by decide +kernel
theorem dX9_madeOf_50 : decode cX9_madeOf 50 = .ok (.iload_n 1, 1) := by decide +kernel
theorem dX9_madeOf_51 : decode cX9_madeOf 51 = .ok (.invokespecial 264, 3) := by decide +kernel
theorem dX9_madeOf_54 : decode cX9_madeOf 54 = .ok (.areturn, 1) := by decide +kernel
theorem dX9_madeOf_55 : decode cX9_madeOf 55 = .ok (.new 22, 3) := by decide +kernel
theorem dX9_madeOf_58 : decode cX9_madeOf 58 = .ok (.dup, 1) := by decide +kernel
theorem dX9_madeOf_59 : decode cX9_madeOf 59 = .ok (.iload_n 1, 1) := by decide +kernel
theorem dX9_madeOf_60 : decode cX9_madeOf 60 = .ok (.invokespecial 265, 3) := by decide +kernel
theorem dX9_madeOf_63 : decode cX9_madeOf 63 = .ok (.areturn, 1) := by decide +kernel
set_option maxRecDepth 20000 in
theorem ggX9_dreamOf_X2_become : GoodIn wsX9_dreamOf wsX2_become := goodIn_r _ [8, 9, 10, 11, 12, 13, 14, 15, 16, 17, 18, 19, 20, 145, 146, 147, 148, 149, 150, 151, 152] (by decide +kernel) (by decide +kernel)
set_option maxRecDepth 20000 in
theorem gX9_dreamOf_X2_become : GoodIn wsX9_dreamOf (wsV RX9 196 RX2 yX2_become wsX2_become) := goodIn_app (goodIn_of _ (by decide +kernel)) ggX9_dreamOf_X2_become
set_option maxRecDepth 20000 in
theorem ggX9_dreamOf_X2_goOneWeek : GoodIn wsX9_dreamOf wsX2_goOneWeek := goodIn_r _ [24, 15, 25, 26, 27, 28, 7, 29, 30, 31, 16, 32, 33, 34, 35, 36, 37, 38, 17, 39, 40, 41, 42, 43, 44, 45, 46, 47, 48, 9, 49, 50, 51, 52, 53, 54, 55, 56, 57, 58, 59, 60, 61, 62, 63, 64, 65, 66, 67, 68, 69, 70, 71, 72, 18, 73, 74, 75, 76, 20, 14, 77, 78, 79, 80, 81, 82, 83, 84, 85, 86, 87, 88, 89, 90, 91, 92, 93, 94, 95, 96, 97, 98, 99, 100, 101, 102, 103, 104, 105, 106, 107, 108, 109, 110, 111, 112, 113, 114, 115, 116, 117, 118, 119, 19, 120, 121, 122, 123, 124, 125, 126, 127, 128, 129, 130, 131, 132, 133, 145, 146, 147, 148, 149, 150, 151, 152, 153, 154, 155, 156, 157, 158, 159, 160, 161, 162, 163, 164, 165, 166, 167, 168, 169, 170, 171] (by decide +kernel) (by decide +kernel)
set_option maxRecDepth 20000 in
theorem gX9_dreamOf_X2_goOneWeek : GoodIn wsX9_dreamOf (wsV RX9 143 RX2 yX2_goOneWeek wsX2_goOneWeek) := goodIn_app (goodIn_of _ (by decide +kernel)) ggX9_dreamOf_X2_goOneWeek
theorem dX9_dreamOf_0 : decode cX9_dreamOf 0 = .ok (.aload_n 0, 1) := by decide +kernel
theorem dX9_dreamOf_1 : decode cX9_dreamOf 1 = .ok (.getfield 38, 3) := by decide +kernel
theorem dX9_dreamOf_4 : decode cX9_dreamOf 4 = .ok (.aload_n 0, 1) := by decide +kernel
theorem dX9_dreamOf_5 : decode cX9_dreamOf 5 = .ok (.getfield 31, 3) := by decide +kernel
theorem dX9_dreamOf_8 : decode cX9_dreamOf 8 = .ok (.invokevirtual 196, 3) := by decide +kernel
theorem dX9_dreamOf_11 : decode cX9_dreamOf 11 = .ok (.iconst 0, 1) := by decide +kernel
theorem dX9_dreamOf_12 : decode cX9_dreamOf 12 = .ok (.istore_n 3, 1) := by decide +kernel
theorem dX9_dreamOf_13 : decode cX9_dreamOf 13 = .ok (.iload_n 3, 1) := by decide +kernel
theorem dX9_dreamOf_14 : decode cX9_dreamOf 14 = .ok (.iload_n 2, 1) := by decide +kernel
theorem dX9_dreamOf_15 : decode cX9_dreamOf 15 = .ok (.if_icmp .ge 21, 3) := by decide +kernel
theorem dX9_dreamOf_18 : decode cX9_dreamOf 18 = .ok (.aload_n 0, 1) := by decide +kernel
theorem dX9_dreamOf_19 : decode cX9_dreamOf 19 = .ok (.getfield 38, 3) := by decide +kernel
theorem dX9_dreamOf_22 : decode cX9_dreamOf 22 = .ok (.aload_n 1, 1) := by decide +kernel
theorem dX9_dreamOf_23 : decode cX9_dreamOf 23 = .ok (.aload_n 0, 1) := by decide +kernel
theorem dX9_dreamOf_24 : decode cX9_dreamOf 24 = .ok (.getfield 24, 3) := by decide +kernel
theorem dX9_dreamOf_27 : decode cX9_dreamOf 27 = .ok (.invokevirtual 143, 3) := by decide +kernel
theorem dX9_dreamOf_30 : decode cX9_dreamOf 30 = .ok (.iinc 3 1, 3) := by decide +kernel
theorem dX9_dreamOf_33 : decode cX9_dreamOf 33 = .ok (.goto (-20), 3) := by decide +kernel
theorem dX9_dreamOf_36 : decode cX9_dreamOf 36 = .ok (.return_, 1) := by decide +kernel
theorem dJ9_min_7cf53_0 : decode cJ9_min_7cf53 0 = .ok (.iload_n 0, 1) := by decide +kernel
theorem dJ9_min_7cf53_1 : decode cJ9_min_7cf53 1 = .ok (.iload_n 1, 1) := by decide +kernel
theorem dJ9_min_7cf53_2 : decode cJ9_min_7cf53 2 = .ok (.if_icmp .gt 7, 3) := by decide +kernel
theorem dJ9_min_7cf53_5 : decode cJ9_min_7cf53 5 = .ok (.iload_n 0, 1) := by decide +kernel
theorem dJ9_min_7cf53_6 : decode cJ9_min_7cf53 6 = .ok (.goto 4, 3) := by decide +kernel
theorem dJ9_min_7cf53_9 : decode cJ9_min_7cf53 9 = .ok (.iload_n 1, 1) := by decide +kernel
theorem dJ9_min_7cf53_10 : decode cJ9_min_7cf53 10 = .ok (.ireturn, 1) := by decide +kernel
theorem dL_cell_0 : decode cL_cell 0 = .ok (.iload_n 1, 1) := by decide +kernel
theorem dL_cell_1 : decode cL_cell 1 = .ok (.aload_n 0, 1) := by decide +kernel
theorem dL_cell_2 : decode cL_cell 2 = .ok (.arraylength, 1) := by decide +kernel
theorem dL_cell_3 : decode cL_cell 3 = .ok (.if_icmp .ge 9, 3) := by decide +kernel
theorem dL_cell_6 : decode cL_cell 6 = .ok (.aload_n 0, 1) := by decide +kernel
theorem dL_cell_7 : decode cL_cell 7 = .ok (.iload_n 1, 1) := by decide +kernel
theorem dL_cell_8 : decode cL_cell 8 = .ok (.iaload, 1) := by decide +kernel
theorem dL_cell_9 : decode cL_cell 9 = .ok (.goto 11, 3) := by decide +kernel
theorem dL_cell_12 : decode cL_cell 12 = .ok (.sipush 7919, 3) := by decide +kernel
theorem dL_cell_15 : decode cL_cell 15 = .ok (.iload_n 1, 1) := by decide +kernel
theorem dL_cell_16 : decode cL_cell 16 = .ok (.imul, 1) := by decide +kernel
theorem dL_cell_17 : decode cL_cell 17 = .ok (.bipush 13, 2) := by decide +kernel
theorem dL_cell_19 : decode cL_cell 19 = .ok (.iadd, 1) := by decide +kernel
theorem dL_cell_20 : decode cL_cell 20 = .ok (.ldc 7, 2) := by decide +kernel
theorem dL_cell_22 : decode cL_cell 22 = .ok (.iand, 1) := by decide +kernel
theorem dL_cell_23 : decode cL_cell 23 = .ok (.ireturn, 1) := by decide +kernel
set_option maxRecDepth 20000 in
theorem ggL_put_X9_letters : GoodIn wsL_put wsX9_letters := goodIn_r _ [5, 6, 7, 8, 9, 10, 11, 12, 13, 14, 15, 16, 17, 18, 19, 20, 21, 22, 23, 24, 25, 26, 27, 28, 29, 30, 31, 32, 33, 34] (by decide +kernel) (by decide +kernel)
set_option maxRecDepth 20000 in
theorem gL_put_X9_letters : GoodIn wsL_put (wsV RL 8 RX9 yX9_letters wsX9_letters) := goodIn_app (goodIn_of _ (by decide +kernel)) ggL_put_X9_letters
theorem dL_put_0 : decode cL_put 0 = .ok (.aload_n 0, 1) := by decide +kernel
theorem dL_put_1 : decode cL_put 1 = .ok (.iload_n 1, 1) := by decide +kernel
theorem dL_put_2 : decode cL_put 2 = .ok (.i2l, 1) := by decide +kernel
theorem dL_put_3 : decode cL_put 3 = .ok (.invokevirtual 8, 3) := by decide +kernel
theorem dL_put_6 : decode cL_put 6 = .ok (.ifCond .le 7, 3) := by decide +kernel
theorem dL_put_9 : decode cL_put 9 = .ok (.iconst 1, 1) := by decide +kernel
theorem dL_put_10 : decode cL_put 10 = .ok (.goto 4, 3) := by decide +kernel
theorem dL_put_13 : decode cL_put 13 = .ok (.iconst 0, 1) := by decide +kernel
theorem dL_put_14 : decode cL_put 14 = .ok (.ireturn, 1) := by decide +kernel
theorem dL_letter_0 : decode cL_letter 0 = .ok (.iload_n 0, 1) := by decide +kernel
theorem dL_letter_1 : decode cL_letter 1 = .ok (.bipush 7, 2) := by decide +kernel
theorem dL_letter_3 : decode cL_letter 3 = .ok (.if_icmp .ge 10, 3) := by decide +kernel
theorem dL_letter_6 : decode cL_letter 6 = .ok (.bipush 48, 2) := by decide +kernel
theorem dL_letter_8 : decode cL_letter 8 = .ok (.iload_n 0, 1) := by decide +kernel
theorem dL_letter_9 : decode cL_letter 9 = .ok (.iadd, 1) := by decide +kernel
theorem dL_letter_10 : decode cL_letter 10 = .ok (.goto 38, 3) := by decide +kernel
theorem dL_letter_13 : decode cL_letter 13 = .ok (.iload_n 0, 1) := by decide +kernel
theorem dL_letter_14 : decode cL_letter 14 = .ok (.bipush 7, 2) := by decide +kernel
theorem dL_letter_16 : decode cL_letter 16 = .ok (.if_icmp .ne 8, 3) := by decide +kernel
theorem dL_letter_19 : decode cL_letter 19 = .ok (.bipush 109, 2) := by decide +kernel
theorem dL_letter_21 : decode cL_letter 21 = .ok (.goto 27, 3) := by decide +kernel
theorem dL_letter_24 : decode cL_letter 24 = .ok (.iload_n 0, 1) := by decide +kernel
theorem dL_letter_25 : decode cL_letter 25 = .ok (.bipush 8, 2) := by decide +kernel
theorem dL_letter_27 : decode cL_letter 27 = .ok (.if_icmp .ne 8, 3) := by decide +kernel
theorem dL_letter_30 : decode cL_letter 30 = .ok (.bipush 108, 2) := by decide +kernel
theorem dL_letter_32 : decode cL_letter 32 = .ok (.goto 16, 3) := by decide +kernel
theorem dL_letter_35 : decode cL_letter 35 = .ok (.iload_n 0, 1) := by decide +kernel
theorem dL_letter_36 : decode cL_letter 36 = .ok (.bipush 9, 2) := by decide +kernel
theorem dL_letter_38 : decode cL_letter 38 = .ok (.if_icmp .ne 8, 3) := by decide +kernel
theorem dL_letter_41 : decode cL_letter 41 = .ok (.bipush 112, 2) := by decide +kernel
theorem dL_letter_43 : decode cL_letter 43 = .ok (.goto 5, 3) := by decide +kernel
theorem dL_letter_46 : decode cL_letter 46 = .ok (.bipush 110, 2) := by decide +kernel
theorem dL_letter_48 : decode cL_letter 48 = .ok (.ireturn, 1) := by decide +kernel
set_option maxRecDepth 20000 in
theorem ggL_custom_L_put : GoodIn wsL_custom wsL_put := goodIn_r _ [4, 5, 6, 7, 8, 9, 10, 11, 12, 13, 14, 15, 16, 17, 18, 19, 20, 21, 22, 23, 24, 25, 92, 93, 94, 95, 96, 97, 98, 99, 100, 101, 102, 103, 104] (by decide +kernel) (by decide +kernel)
set_option maxRecDepth 20000 in
theorem gL_custom_L_put : GoodIn wsL_custom (va_wsS RL 14 yL_put wsL_put) := goodIn_app (goodIn_of _ (by decide +kernel)) ggL_custom_L_put
set_option maxRecDepth 20000 in
theorem ggL_custom_L_letter : GoodIn wsL_custom wsL_letter := goodIn_r _ [28] (by decide +kernel) (by decide +kernel)
set_option maxRecDepth 20000 in
theorem gL_custom_L_letter : GoodIn wsL_custom (va_wsS RL 20 yL_letter wsL_letter) := goodIn_app (goodIn_of _ (by decide +kernel)) ggL_custom_L_letter
set_option maxRecDepth 20000 in
theorem ggL_custom_X9_fault : GoodIn wsL_custom wsX9_fault := goodIn_r _ [32, 10, 33, 34, 35, 14, 36, 24, 37, 38, 39, 40, 25, 41, 42, 43, 44, 45, 46, 92, 93, 94, 95, 96, 97, 98, 99, 100, 101, 102, 103, 104] (by decide +kernel) (by decide +kernel)
set_option maxRecDepth 20000 in
theorem gL_custom_X9_fault : GoodIn wsL_custom (wsV RL 24 RX9 yX9_fault wsX9_fault) := goodIn_app (goodIn_of _ (by decide +kernel)) ggL_custom_X9_fault
set_option maxRecDepth 20000 in
theorem ggL_custom_X9_count : GoodIn wsL_custom wsX9_count := goodIn_r _ [50, 51, 52, 53, 54, 55, 56, 57, 58, 59, 10, 11, 60, 61, 62, 63, 64, 65, 92, 93, 94, 95, 96, 97, 98, 99, 100, 101, 102, 105, 106, 107, 108, 109, 110, 111, 112, 103, 104] (by decide +kernel) (by decide +kernel)
set_option maxRecDepth 20000 in
theorem gL_custom_X9_count : GoodIn wsL_custom (wsV RL 28 RX9 yX9_count wsX9_count) := goodIn_app (goodIn_of _ (by decide +kernel)) ggL_custom_X9_count
set_option maxRecDepth 20000 in
theorem ggL_custom_X9_custom : GoodIn wsL_custom wsX9_custom := goodIn_r _ [69, 10, 52, 70, 11, 71, 72, 73, 14, 74, 24, 75, 34, 35, 36, 37, 38, 39, 40, 25, 41, 42, 43, 44, 45, 46, 76, 77, 78, 79, 80, 81, 82, 83, 84, 85, 86, 87, 88, 89, 90, 91, 92, 93, 94, 95, 96, 97, 98, 99, 100, 101, 102, 103, 104, 113, 114, 115] (by decide +kernel) (by decide +kernel)
set_option maxRecDepth 20000 in
theorem gL_custom_X9_custom : GoodIn wsL_custom (wsV RL 31 RX9 yX9_custom wsX9_custom) := goodIn_app (goodIn_of _ (by decide +kernel)) ggL_custom_X9_custom
theorem dL_custom_0 : decode cL_custom 0 = .ok (.aload_n 3, 1) := by decide +kernel
theorem dL_custom_1 : decode cL_custom 1 = .ok (.iconst 0, 1) := by decide +kernel
theorem dL_custom_2 : decode cL_custom 2 = .ok (.iload_n 1, 1) := by decide +kernel
theorem dL_custom_3 : decode cL_custom 3 = .ok (.bipush 11, 2) := by decide +kernel
theorem dL_custom_5 : decode cL_custom 5 = .ok (.irem, 1) := by decide +kernel
theorem dL_custom_6 : decode cL_custom 6 = .ok (.iastore, 1) := by decide +kernel
theorem dL_custom_7 : decode cL_custom 7 = .ok (.aload_n 3, 1) := by decide +kernel
theorem dL_custom_8 : decode cL_custom 8 = .ok (.iconst 1, 1) := by decide +kernel
theorem dL_custom_9 : decode cL_custom 9 = .ok (.iload_n 1, 1) := by decide +kernel
theorem dL_custom_10 : decode cL_custom 10 = .ok (.bipush 16, 2) := by decide +kernel
theorem dL_custom_12 : decode cL_custom 12 = .ok (.idiv, 1) := by decide +kernel
theorem dL_custom_13 : decode cL_custom 13 = .ok (.bipush 11, 2) := by decide +kernel
theorem dL_custom_15 : decode cL_custom 15 = .ok (.irem, 1) := by decide +kernel
theorem dL_custom_16 : decode cL_custom 16 = .ok (.iastore, 1) := by decide +kernel
theorem dL_custom_17 : decode cL_custom 17 = .ok (.aload_n 3, 1) := by decide +kernel
theorem dL_custom_18 : decode cL_custom 18 = .ok (.iconst 2, 1) := by decide +kernel
theorem dL_custom_19 : decode cL_custom 19 = .ok (.iload_n 1, 1) := by decide +kernel
theorem dL_custom_20 : decode cL_custom 20 = .ok (.sipush 256, 3) := by decide +kernel
theorem dL_custom_23 : decode cL_custom 23 = .ok (.idiv, 1) := by decide +kernel
theorem dL_custom_24 : decode cL_custom 24 = .ok (.iconst 3, 1) := by decide +kernel
theorem dL_custom_25 : decode cL_custom 25 = .ok (.irem, 1) := by decide +kernel
theorem dL_custom_26 : decode cL_custom 26 = .ok (.ifCond .ne 16, 3) := by decide +kernel
theorem dL_custom_29 : decode cL_custom 29 = .ok (.iconst 1, 1) := by decide +kernel
theorem dL_custom_30 : decode cL_custom 30 = .ok (.iload_n 1, 1) := by decide +kernel
theorem dL_custom_31 : decode cL_custom 31 = .ok (.sipush 1024, 3) := by decide +kernel
theorem dL_custom_34 : decode cL_custom 34 = .ok (.idiv, 1) := by decide +kernel
theorem dL_custom_35 : decode cL_custom 35 = .ok (.bipush 9, 2) := by decide +kernel
theorem dL_custom_37 : decode cL_custom 37 = .ok (.irem, 1) := by decide +kernel
theorem dL_custom_38 : decode cL_custom 38 = .ok (.iadd, 1) := by decide +kernel
theorem dL_custom_39 : decode cL_custom 39 = .ok (.goto 4, 3) := by decide +kernel
theorem dL_custom_42 : decode cL_custom 42 = .ok (.iconst 0, 1) := by decide +kernel
theorem dL_custom_43 : decode cL_custom 43 = .ok (.iastore, 1) := by decide +kernel
theorem dL_custom_44 : decode cL_custom 44 = .ok (.aload_n 0, 1) := by decide +kernel
theorem dL_custom_45 : decode cL_custom 45 = .ok (.bipush 119, 2) := by decide +kernel
theorem dL_custom_47 : decode cL_custom 47 = .ok (.invokestatic 14, 3) := by decide +kernel
theorem dL_custom_50 : decode cL_custom 50 = .ok (.ifCond .eq 70, 3) := by decide +kernel
theorem dL_custom_53 : decode cL_custom 53 = .ok (.aload_n 0, 1) := by decide +kernel
theorem dL_custom_54 : decode cL_custom 54 = .ok (.aload_n 3, 1) := by decide +kernel
theorem dL_custom_55 : decode cL_custom 55 = .ok (.iconst 0, 1) := by decide +kernel
theorem dL_custom_56 : decode cL_custom 56 = .ok (.iaload, 1) := by decide +kernel
theorem dL_custom_57 : decode cL_custom 57 = .ok (.invokestatic 20, 3) := by decide +kernel
theorem dL_custom_60 : decode cL_custom 60 = .ok (.invokestatic 14, 3) := by decide +kernel
theorem dL_custom_63 : decode cL_custom 63 = .ok (.ifCond .eq 57, 3) := by decide +kernel
theorem dL_custom_66 : decode cL_custom 66 = .ok (.aload_n 0, 1) := by decide +kernel
theorem dL_custom_67 : decode cL_custom 67 = .ok (.bipush 115, 2) := by decide +kernel
theorem dL_custom_69 : decode cL_custom 69 = .ok (.invokestatic 14, 3) := by decide +kernel
theorem dL_custom_72 : decode cL_custom 72 = .ok (.ifCond .eq 48, 3) := by decide +kernel
theorem dL_custom_75 : decode cL_custom 75 = .ok (.aload_n 0, 1) := by decide +kernel
theorem dL_custom_76 : decode cL_custom 76 = .ok (.aload_n 3, 1) := by decide +kernel
theorem dL_custom_77 : decode cL_custom 77 = .ok (.iconst 1, 1) := by decide +kernel
theorem dL_custom_78 : decode cL_custom 78 = .ok (.iaload, 1) := by decide +kernel
theorem dL_custom_79 : decode cL_custom 79 = .ok (.invokestatic 20, 3) := by decide +kernel
theorem dL_custom_82 : decode cL_custom 82 = .ok (.invokestatic 14, 3) := by decide +kernel
theorem dL_custom_85 : decode cL_custom 85 = .ok (.ifCond .eq 35, 3) := by decide +kernel
theorem dL_custom_88 : decode cL_custom 88 = .ok (.aload_n 3, 1) := by decide +kernel
theorem dL_custom_89 : decode cL_custom 89 = .ok (.iconst 2, 1) := by decide +kernel
theorem dL_custom_90 : decode cL_custom 90 = .ok (.iaload, 1) := by decide +kernel
theorem dL_custom_91 : decode cL_custom 91 = .ok (.ifCond .eq 25, 3) := by decide +kernel
theorem dL_custom_94 : decode cL_custom 94 = .ok (.aload_n 0, 1) := by decide +kernel
theorem dL_custom_95 : decode cL_custom 95 = .ok (.bipush 102, 2) := by decide +kernel
theorem dL_custom_97 : decode cL_custom 97 = .ok (.invokestatic 14, 3) := by decide +kernel
theorem dL_custom_100 : decode cL_custom 100 = .ok (.ifCond .eq 20, 3) := by decide +kernel
theorem dL_custom_103 : decode cL_custom 103 = .ok (.aload_n 0, 1) := by decide +kernel
theorem dL_custom_104 : decode cL_custom 104 = .ok (.bipush 48, 2) := by decide +kernel
theorem dL_custom_106 : decode cL_custom 106 = .ok (.aload_n 3, 1) := by decide +kernel
theorem dL_custom_107 : decode cL_custom 107 = .ok (.iconst 2, 1) := by decide +kernel
theorem dL_custom_108 : decode cL_custom 108 = .ok (.iaload, 1) := by decide +kernel
theorem dL_custom_109 : decode cL_custom 109 = .ok (.iadd, 1) := by decide +kernel
theorem dL_custom_110 : decode cL_custom 110 = .ok (.invokestatic 14, 3) := by decide +kernel
theorem dL_custom_113 : decode cL_custom 113 = .ok (.ifCond .eq 7, 3) := by decide +kernel
theorem dL_custom_116 : decode cL_custom 116 = .ok (.iconst 1, 1) := by decide +kernel
theorem dL_custom_117 : decode cL_custom 117 = .ok (.goto 4, 3) := by decide +kernel
theorem dL_custom_120 : decode cL_custom 120 = .ok (.iconst 0, 1) := by decide +kernel
theorem dL_custom_121 : decode cL_custom 121 = .ok (.istore 4, 2) := by decide +kernel
theorem dL_custom_123 : decode cL_custom 123 = .ok (.iload 4, 2) := by decide +kernel
theorem dL_custom_125 : decode cL_custom 125 = .ok (.ifCond .eq 28, 3) := by decide +kernel
theorem dL_custom_128 : decode cL_custom 128 = .ok (.aload_n 0, 1) := by decide +kernel
theorem dL_custom_129 : decode cL_custom 129 = .ok (.invokevirtual 24, 3) := by decide +kernel
theorem dL_custom_132 : decode cL_custom 132 = .ok (.aload_n 0, 1) := by decide +kernel
theorem dL_custom_133 : decode cL_custom 133 = .ok (.bipush 9, 2) := by decide +kernel
theorem dL_custom_135 : decode cL_custom 135 = .ok (.invokevirtual 28, 3) := by decide +kernel
theorem dL_custom_138 : decode cL_custom 138 = .ok (.if_icmp .ne 15, 3) := by decide +kernel
theorem dL_custom_141 : decode cL_custom 141 = .ok (.aload_n 0, 1) := by decide +kernel
theorem dL_custom_142 : decode cL_custom 142 = .ok (.invokevirtual 31, 3) := by decide +kernel
theorem dL_custom_145 : decode cL_custom 145 = .ok (.iload_n 2, 1) := by decide +kernel
theorem dL_custom_146 : decode cL_custom 146 = .ok (.if_icmp .ne 7, 3) := by decide +kernel
theorem dL_custom_149 : decode cL_custom 149 = .ok (.iconst 1, 1) := by decide +kernel
theorem dL_custom_150 : decode cL_custom 150 = .ok (.goto 4, 3) := by decide +kernel
theorem dL_custom_153 : decode cL_custom 153 = .ok (.iconst 0, 1) := by decide +kernel
theorem dL_custom_154 : decode cL_custom 154 = .ok (.ireturn, 1) := by decide +kernel
set_option maxRecDepth 20000 in
theorem ggL_parishes_L_cell : GoodIn wsL_parishes wsL_cell := goodIn_r _ [4, 5] (by decide +kernel) (by decide +kernel)
set_option maxRecDepth 20000 in
theorem gL_parishes_L_cell : GoodIn wsL_parishes (va_wsS RL 34 yL_cell wsL_cell) := goodIn_app (goodIn_of _ (by decide +kernel)) ggL_parishes_L_cell
set_option maxRecDepth 20000 in
theorem ggL_parishes_X9_parish : GoodIn wsL_parishes wsX9_parish := goodIn_r _ [10, 11, 12, 13, 14, 15, 16, 17, 9, 18, 19, 20, 21, 22, 23, 24, 25, 26, 27, 28, 29, 30, 31, 32, 33, 34, 35, 36, 37, 38, 39, 40, 41, 42, 43, 44, 45, 46, 47, 48, 49, 50, 51, 52, 53, 54, 55, 56, 57, 58, 59, 60, 61, 62, 63, 64, 65, 66, 67, 68, 69, 70, 71, 72, 73, 74, 75, 76, 77, 78, 79, 80, 81, 82, 83, 84, 85] (by decide +kernel) (by decide +kernel)
set_option maxRecDepth 20000 in
theorem gL_parishes_X9_parish : GoodIn wsL_parishes (wsV RL 38 RX9 yX9_parish wsX9_parish) := goodIn_app (goodIn_of _ (by decide +kernel)) ggL_parishes_X9_parish
theorem dL_parishes_0 : decode cL_parishes 0 = .ok (.iconst 0, 1) := by decide +kernel
theorem dL_parishes_1 : decode cL_parishes 1 = .ok (.istore 6, 2) := by decide +kernel
theorem dL_parishes_3 : decode cL_parishes 3 = .ok (.iload 6, 2) := by decide +kernel
theorem dL_parishes_5 : decode cL_parishes 5 = .ok (.iload_n 3, 1) := by decide +kernel
theorem dL_parishes_6 : decode cL_parishes 6 = .ok (.if_icmp .ge 182, 3) := by decide +kernel
theorem dL_parishes_9 : decode cL_parishes 9 = .ok (.aload_n 1, 1) := by decide +kernel
theorem dL_parishes_10 : decode cL_parishes 10 = .ok (.iload_n 2, 1) := by decide +kernel
theorem dL_parishes_11 : decode cL_parishes 11 = .ok (.iload 6, 2) := by decide +kernel
theorem dL_parishes_13 : decode cL_parishes 13 = .ok (.iadd, 1) := by decide +kernel
theorem dL_parishes_14 : decode cL_parishes 14 = .ok (.invokestatic 34, 3) := by decide +kernel
theorem dL_parishes_17 : decode cL_parishes 17 = .ok (.istore 7, 2) := by decide +kernel
theorem dL_parishes_19 : decode cL_parishes 19 = .ok (.iload 7, 2) := by decide +kernel
theorem dL_parishes_21 : decode cL_parishes 21 = .ok (.iconst 4, 1) := by decide +kernel
theorem dL_parishes_22 : decode cL_parishes 22 = .ok (.irem, 1) := by decide +kernel
theorem dL_parishes_23 : decode cL_parishes 23 = .ok (.istore 8, 2) := by decide +kernel
theorem dL_parishes_25 : decode cL_parishes 25 = .ok (.aload 5, 2) := by decide +kernel
theorem dL_parishes_27 : decode cL_parishes 27 = .ok (.iconst 5, 1) := by decide +kernel
theorem dL_parishes_28 : decode cL_parishes 28 = .ok (.iload 6, 2) := by decide +kernel
theorem dL_parishes_30 : decode cL_parishes 30 = .ok (.imul, 1) := by decide +kernel
theorem dL_parishes_31 : decode cL_parishes 31 = .ok (.iload 8, 2) := by decide +kernel
theorem dL_parishes_33 : decode cL_parishes 33 = .ok (.iastore, 1) := by decide +kernel
theorem dL_parishes_34 : decode cL_parishes 34 = .ok (.aload 5, 2) := by decide +kernel
theorem dL_parishes_36 : decode cL_parishes 36 = .ok (.iconst 5, 1) := by decide +kernel
theorem dL_parishes_37 : decode cL_parishes 37 = .ok (.iload 6, 2) := by decide +kernel
theorem dL_parishes_39 : decode cL_parishes 39 = .ok (.imul, 1) := by decide +kernel
theorem dL_parishes_40 : decode cL_parishes 40 = .ok (.iconst 1, 1) := by decide +kernel
theorem dL_parishes_41 : decode cL_parishes 41 = .ok (.iadd, 1) := by decide +kernel
theorem dL_parishes_42 : decode cL_parishes 42 = .ok (.iload 8, 2) := by decide +kernel
theorem dL_parishes_44 : decode cL_parishes 44 = .ok (.ifCond .ne 7, 3) := by decide +kernel
theorem dL_parishes_47 : decode cL_parishes 47 = .ok (.iconst 0, 1) := by decide +kernel
theorem dL_parishes_48 : decode cL_parishes 48 = .ok (.goto 29, 3) := by decide +kernel
theorem dL_parishes_51 : decode cL_parishes 51 = .ok (.iload 8, 2) := by decide +kernel
theorem dL_parishes_53 : decode cL_parishes 53 = .ok (.iconst 1, 1) := by decide +kernel
theorem dL_parishes_54 : decode cL_parishes 54 = .ok (.if_icmp .ne 15, 3) := by decide +kernel
theorem dL_parishes_57 : decode cL_parishes 57 = .ok (.iconst 2, 1) := by decide +kernel
theorem dL_parishes_58 : decode cL_parishes 58 = .ok (.iload 7, 2) := by decide +kernel
theorem dL_parishes_60 : decode cL_parishes 60 = .ok (.bipush 8, 2) := by decide +kernel
theorem dL_parishes_62 : decode cL_parishes 62 = .ok (.idiv, 1) := by decide +kernel
theorem dL_parishes_63 : decode cL_parishes 63 = .ok (.iconst 3, 1) := by decide +kernel
theorem dL_parishes_64 : decode cL_parishes 64 = .ok (.irem, 1) := by decide +kernel
theorem dL_parishes_65 : decode cL_parishes 65 = .ok (.iadd, 1) := by decide +kernel
theorem dL_parishes_66 : decode cL_parishes 66 = .ok (.goto 11, 3) := by decide +kernel
theorem dL_parishes_69 : decode cL_parishes 69 = .ok (.iload 7, 2) := by decide +kernel
theorem dL_parishes_71 : decode cL_parishes 71 = .ok (.bipush 8, 2) := by decide +kernel
theorem dL_parishes_73 : decode cL_parishes 73 = .ok (.idiv, 1) := by decide +kernel
theorem dL_parishes_74 : decode cL_parishes 74 = .ok (.bipush 7, 2) := by decide +kernel
theorem dL_parishes_76 : decode cL_parishes 76 = .ok (.irem, 1) := by decide +kernel
theorem dL_parishes_77 : decode cL_parishes 77 = .ok (.iastore, 1) := by decide +kernel
theorem dL_parishes_78 : decode cL_parishes 78 = .ok (.aload 5, 2) := by decide +kernel
theorem dL_parishes_80 : decode cL_parishes 80 = .ok (.iconst 5, 1) := by decide +kernel
theorem dL_parishes_81 : decode cL_parishes 81 = .ok (.iload 6, 2) := by decide +kernel
theorem dL_parishes_83 : decode cL_parishes 83 = .ok (.imul, 1) := by decide +kernel
theorem dL_parishes_84 : decode cL_parishes 84 = .ok (.iconst 2, 1) := by decide +kernel
theorem dL_parishes_85 : decode cL_parishes 85 = .ok (.iadd, 1) := by decide +kernel
theorem dL_parishes_86 : decode cL_parishes 86 = .ok (.iconst 1, 1) := by decide +kernel
theorem dL_parishes_87 : decode cL_parishes 87 = .ok (.iload 7, 2) := by decide +kernel
theorem dL_parishes_89 : decode cL_parishes 89 = .ok (.bipush 64, 2) := by decide +kernel
theorem dL_parishes_91 : decode cL_parishes 91 = .ok (.idiv, 1) := by decide +kernel
theorem dL_parishes_92 : decode cL_parishes 92 = .ok (.iload 4, 2) := by decide +kernel
theorem dL_parishes_94 : decode cL_parishes 94 = .ok (.irem, 1) := by decide +kernel
theorem dL_parishes_95 : decode cL_parishes 95 = .ok (.iadd, 1) := by decide +kernel
theorem dL_parishes_96 : decode cL_parishes 96 = .ok (.iastore, 1) := by decide +kernel
theorem dL_parishes_97 : decode cL_parishes 97 = .ok (.aload 5, 2) := by decide +kernel
theorem dL_parishes_99 : decode cL_parishes 99 = .ok (.iconst 5, 1) := by decide +kernel
