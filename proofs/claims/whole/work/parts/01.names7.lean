theorem dX10_take_0 : decode cX10_take 0 = .ok (.iload_n 1, 1) := by decide +kernel
theorem dX10_take_1 : decode cX10_take 1 = .ok (.invokestatic 148, 3) := by decide +kernel
theorem dX10_take_4 : decode cX10_take 4 = .ok (.ifCond .ne 6, 3) := by decide +kernel
theorem dX10_take_7 : decode cX10_take 7 = .ok (.bipush (-101), 2) := by decide +kernel
theorem dX10_take_9 : decode cX10_take 9 = .ok (.ireturn, 1) := by decide +kernel
theorem dX10_take_10 : decode cX10_take 10 = .ok (.iload_n 2, 1) := by decide +kernel
theorem dX10_take_11 : decode cX10_take 11 = .ok (.iconst 1, 1) := by decide +kernel
theorem dX10_take_12 : decode cX10_take 12 = .ok (.bipush 60, 2) := by decide +kernel
theorem dX10_take_14 : decode cX10_take 14 = .ok (.invokestatic 72, 3) := by decide +kernel
theorem dX10_take_17 : decode cX10_take 17 = .ok (.ifCond .ne 6, 3) := by decide +kernel
theorem dX10_take_20 : decode cX10_take 20 = .ok (.bipush (-102), 2) := by decide +kernel
theorem dX10_take_22 : decode cX10_take 22 = .ok (.ireturn, 1) := by decide +kernel
theorem dX10_take_23 : decode cX10_take 23 = .ok (.aload_n 0, 1) := by decide +kernel
theorem dX10_take_24 : decode cX10_take 24 = .ok (.iload_n 1, 1) := by decide +kernel
theorem dX10_take_25 : decode cX10_take 25 = .ok (.iload_n 2, 1) := by decide +kernel
theorem dX10_take_26 : decode cX10_take 26 = .ok (.invokevirtual 154, 3) := by decide +kernel
theorem dX10_take_29 : decode cX10_take 29 = .ok (.aload_n 0, 1) := by decide +kernel
theorem dX10_take_30 : decode cX10_take 30 = .ok (.getfield 13, 3) := by decide +kernel
theorem dX10_take_33 : decode cX10_take 33 = .ok (.iload_n 1, 1) := by decide +kernel
theorem dX10_take_34 : decode cX10_take 34 = .ok (.iaload, 1) := by decide +kernel
theorem dX10_take_35 : decode cX10_take 35 = .ok (.ireturn, 1) := by decide +kernel
set_option maxRecDepth 20000 in
theorem ggX10_height_X10_isCairn : GoodIn wsX10_height wsX10_isCairn := goodIn_r _ [5, 6, 7, 4, 8] (by decide +kernel) (by decide +kernel)
set_option maxRecDepth 20000 in
theorem gX10_height_X10_isCairn : GoodIn wsX10_height (va_wsS RX10 148 yX10_isCairn wsX10_isCairn) := goodIn_app (goodIn_of _ (by decide +kernel)) ggX10_height_X10_isCairn
theorem dX10_height_0 : decode cX10_height 0 = .ok (.iload_n 1, 1) := by decide +kernel
theorem dX10_height_1 : decode cX10_height 1 = .ok (.invokestatic 148, 3) := by decide +kernel
theorem dX10_height_4 : decode cX10_height 4 = .ok (.ifCond .eq 12, 3) := by decide +kernel
theorem dX10_height_7 : decode cX10_height 7 = .ok (.aload_n 0, 1) := by decide +kernel
theorem dX10_height_8 : decode cX10_height 8 = .ok (.getfield 13, 3) := by decide +kernel
theorem dX10_height_11 : decode cX10_height 11 = .ok (.iload_n 1, 1) := by decide +kernel
theorem dX10_height_12 : decode cX10_height 12 = .ok (.iaload, 1) := by decide +kernel
theorem dX10_height_13 : decode cX10_height 13 = .ok (.goto 5, 3) := by decide +kernel
theorem dX10_height_16 : decode cX10_height 16 = .ok (.bipush (-101), 2) := by decide +kernel
theorem dX10_height_18 : decode cX10_height 18 = .ok (.ireturn, 1) := by decide +kernel
theorem dX10_markOf_0 : decode cX10_markOf 0 = .ok (.iload_n 2, 1) := by decide +kernel
theorem dX10_markOf_1 : decode cX10_markOf 1 = .ok (.aload_n 0, 1) := by decide +kernel
theorem dX10_markOf_2 : decode cX10_markOf 2 = .ok (.getfield 13, 3) := by decide +kernel
theorem dX10_markOf_5 : decode cX10_markOf 5 = .ok (.iload_n 1, 1) := by decide +kernel
theorem dX10_markOf_6 : decode cX10_markOf 6 = .ok (.iaload, 1) := by decide +kernel
theorem dX10_markOf_7 : decode cX10_markOf 7 = .ok (.if_icmp .ge 26, 3) := by decide +kernel
theorem dX10_markOf_10 : decode cX10_markOf 10 = .ok (.aload_n 0, 1) := by decide +kernel
theorem dX10_markOf_11 : decode cX10_markOf 11 = .ok (.getfield 7, 3) := by decide +kernel
theorem dX10_markOf_14 : decode cX10_markOf 14 = .ok (.bipush 60, 2) := by decide +kernel
theorem dX10_markOf_16 : decode cX10_markOf 16 = .ok (.iload_n 1, 1) := by decide +kernel
theorem dX10_markOf_17 : decode cX10_markOf 17 = .ok (.imul, 1) := by decide +kernel
theorem dX10_markOf_18 : decode cX10_markOf 18 = .ok (.aload_n 0, 1) := by decide +kernel
theorem dX10_markOf_19 : decode cX10_markOf 19 = .ok (.getfield 13, 3) := by decide +kernel
theorem dX10_markOf_22 : decode cX10_markOf 22 = .ok (.iload_n 1, 1) := by decide +kernel
theorem dX10_markOf_23 : decode cX10_markOf 23 = .ok (.iaload, 1) := by decide +kernel
theorem dX10_markOf_24 : decode cX10_markOf 24 = .ok (.iadd, 1) := by decide +kernel
theorem dX10_markOf_25 : decode cX10_markOf 25 = .ok (.iconst 1, 1) := by decide +kernel
theorem dX10_markOf_26 : decode cX10_markOf 26 = .ok (.isub, 1) := by decide +kernel
theorem dX10_markOf_27 : decode cX10_markOf 27 = .ok (.iload_n 2, 1) := by decide +kernel
theorem dX10_markOf_28 : decode cX10_markOf 28 = .ok (.isub, 1) := by decide +kernel
theorem dX10_markOf_29 : decode cX10_markOf 29 = .ok (.iaload, 1) := by decide +kernel
theorem dX10_markOf_30 : decode cX10_markOf 30 = .ok (.goto 4, 3) := by decide +kernel
theorem dX10_markOf_33 : decode cX10_markOf 33 = .ok (.iconst (-1), 1) := by decide +kernel
theorem dX10_markOf_34 : decode cX10_markOf 34 = .ok (.ireturn, 1) := by decide +kernel
set_option maxRecDepth 20000 in
theorem ggX10_mark_X10_isCairn : GoodIn wsX10_mark wsX10_isCairn := goodIn_r _ [4, 5, 6, 3, 7] (by decide +kernel) (by decide +kernel)
set_option maxRecDepth 20000 in
theorem gX10_mark_X10_isCairn : GoodIn wsX10_mark (va_wsS RX10 148 yX10_isCairn wsX10_isCairn) := goodIn_app (goodIn_of _ (by decide +kernel)) ggX10_mark_X10_isCairn
set_option maxRecDepth 20000 in
theorem ggX10_mark_X10_within : GoodIn wsX10_mark wsX10_within := goodIn_r _ [7] (by decide +kernel) (by decide +kernel)
set_option maxRecDepth 20000 in
theorem gX10_mark_X10_within : GoodIn wsX10_mark (va_wsS RX10 72 yX10_within wsX10_within) := goodIn_app (goodIn_of _ (by decide +kernel)) ggX10_mark_X10_within
set_option maxRecDepth 20000 in
theorem ggX10_mark_X10_markOf : GoodIn wsX10_mark wsX10_markOf := goodIn_r _ [11, 12, 13, 14, 15, 16, 17, 18, 19, 20, 21, 22, 23, 24, 25, 26, 27, 28, 29, 30, 31, 32, 33, 34, 35, 36, 37, 38, 39, 40, 41, 42, 43, 44, 45, 46, 47, 48] (by decide +kernel) (by decide +kernel)
set_option maxRecDepth 20000 in
theorem gX10_mark_X10_markOf : GoodIn wsX10_mark (wsV RX10 157 RX10 yX10_markOf wsX10_markOf) := goodIn_app (goodIn_of _ (by decide +kernel)) ggX10_mark_X10_markOf
theorem dX10_mark_0 : decode cX10_mark 0 = .ok (.iload_n 1, 1) := by decide +kernel
theorem dX10_mark_1 : decode cX10_mark 1 = .ok (.invokestatic 148, 3) := by decide +kernel
theorem dX10_mark_4 : decode cX10_mark 4 = .ok (.ifCond .ne 8, 3) := by decide +kernel
theorem dX10_mark_7 : decode cX10_mark 7 = .ok (.bipush (-101), 2) := by decide +kernel
theorem dX10_mark_9 : decode cX10_mark 9 = .ok (.goto 24, 3) := by decide +kernel
theorem dX10_mark_12 : decode cX10_mark 12 = .ok (.iload_n 2, 1) := by decide +kernel
theorem dX10_mark_13 : decode cX10_mark 13 = .ok (.iconst 0, 1) := by decide +kernel
theorem dX10_mark_14 : decode cX10_mark 14 = .ok (.bipush 59, 2) := by decide +kernel
theorem dX10_mark_16 : decode cX10_mark 16 = .ok (.invokestatic 72, 3) := by decide +kernel
theorem dX10_mark_19 : decode cX10_mark 19 = .ok (.ifCond .eq 12, 3) := by decide +kernel
theorem dX10_mark_22 : decode cX10_mark 22 = .ok (.aload_n 0, 1) := by decide +kernel
theorem dX10_mark_23 : decode cX10_mark 23 = .ok (.iload_n 1, 1) := by decide +kernel
theorem dX10_mark_24 : decode cX10_mark 24 = .ok (.iload_n 2, 1) := by decide +kernel
theorem dX10_mark_25 : decode cX10_mark 25 = .ok (.invokevirtual 157, 3) := by decide +kernel
theorem dX10_mark_28 : decode cX10_mark 28 = .ok (.goto 5, 3) := by decide +kernel
theorem dX10_mark_31 : decode cX10_mark 31 = .ok (.bipush (-102), 2) := by decide +kernel
theorem dX10_mark_33 : decode cX10_mark 33 = .ok (.ireturn, 1) := by decide +kernel
set_option maxRecDepth 20000 in
theorem ggX10_dated_X10_isCairn : GoodIn wsX10_dated wsX10_isCairn := goodIn_r _ [6, 7, 8, 5, 9] (by decide +kernel) (by decide +kernel)
set_option maxRecDepth 20000 in
theorem gX10_dated_X10_isCairn : GoodIn wsX10_dated (va_wsS RX10 148 yX10_isCairn wsX10_isCairn) := goodIn_app (goodIn_of _ (by decide +kernel)) ggX10_dated_X10_isCairn
set_option maxRecDepth 20000 in
theorem ggX10_dated_X10_within : GoodIn wsX10_dated wsX10_within := goodIn_r _ [9] (by decide +kernel) (by decide +kernel)
set_option maxRecDepth 20000 in
theorem gX10_dated_X10_within : GoodIn wsX10_dated (va_wsS RX10 72 yX10_within wsX10_within) := goodIn_app (goodIn_of _ (by decide +kernel)) ggX10_dated_X10_within
theorem dX10_dated_0 : decode cX10_dated 0 = .ok (.iload_n 1, 1) := by decide +kernel
theorem dX10_dated_1 : decode cX10_dated 1 = .ok (.invokestatic 148, 3) := by decide +kernel
theorem dX10_dated_4 : decode cX10_dated 4 = .ok (.ifCond .ne 6, 3) := by decide +kernel
theorem dX10_dated_7 : decode cX10_dated 7 = .ok (.bipush (-101), 2) := by decide +kernel
theorem dX10_dated_9 : decode cX10_dated 9 = .ok (.ireturn, 1) := by decide +kernel
theorem dX10_dated_10 : decode cX10_dated 10 = .ok (.iload_n 2, 1) := by decide +kernel
theorem dX10_dated_11 : decode cX10_dated 11 = .ok (.iconst 0, 1) := by decide +kernel
theorem dX10_dated_12 : decode cX10_dated 12 = .ok (.sipush 9999, 3) := by decide +kernel
theorem dX10_dated_15 : decode cX10_dated 15 = .ok (.invokestatic 72, 3) := by decide +kernel
theorem dX10_dated_18 : decode cX10_dated 18 = .ok (.ifCond .ne 6, 3) := by decide +kernel
theorem dX10_dated_21 : decode cX10_dated 21 = .ok (.bipush (-102), 2) := by decide +kernel
theorem dX10_dated_23 : decode cX10_dated 23 = .ok (.ireturn, 1) := by decide +kernel
theorem dX10_dated_24 : decode cX10_dated 24 = .ok (.iconst 0, 1) := by decide +kernel
theorem dX10_dated_25 : decode cX10_dated 25 = .ok (.istore_n 3, 1) := by decide +kernel
theorem dX10_dated_26 : decode cX10_dated 26 = .ok (.iconst 0, 1) := by decide +kernel
theorem dX10_dated_27 : decode cX10_dated 27 = .ok (.istore 4, 2) := by decide +kernel
theorem dX10_dated_29 : decode cX10_dated 29 = .ok (.iload 4, 2) := by decide +kernel
theorem dX10_dated_31 : decode cX10_dated 31 = .ok (.aload_n 0, 1) := by decide +kernel
theorem dX10_dated_32 : decode cX10_dated 32 = .ok (.getfield 13, 3) := by decide +kernel
theorem dX10_dated_35 : decode cX10_dated 35 = .ok (.iload_n 1, 1) := by decide +kernel
theorem dX10_dated_36 : decode cX10_dated 36 = .ok (.iaload, 1) := by decide +kernel
theorem dX10_dated_37 : decode cX10_dated 37 = .ok (.if_icmp .ge 33, 3) := by decide +kernel
theorem dX10_dated_40 : decode cX10_dated 40 = .ok (.iload_n 3, 1) := by decide +kernel
theorem dX10_dated_41 : decode cX10_dated 41 = .ok (.aload_n 0, 1) := by decide +kernel
theorem dX10_dated_42 : decode cX10_dated 42 = .ok (.getfield 7, 3) := by decide +kernel
theorem dX10_dated_45 : decode cX10_dated 45 = .ok (.bipush 60, 2) := by decide +kernel
theorem dX10_dated_47 : decode cX10_dated 47 = .ok (.iload_n 1, 1) := by decide +kernel
theorem dX10_dated_48 : decode cX10_dated 48 = .ok (.imul, 1) := by decide +kernel
theorem dX10_dated_49 : decode cX10_dated 49 = .ok (.iload 4, 2) := by decide +kernel
theorem dX10_dated_51 : decode cX10_dated 51 = .ok (.iadd, 1) := by decide +kernel
theorem dX10_dated_52 : decode cX10_dated 52 = .ok (.iaload, 1) := by decide +kernel
theorem dX10_dated_53 : decode cX10_dated 53 = .ok (.iload_n 2, 1) := by decide +kernel
theorem dX10_dated_54 : decode cX10_dated 54 = .ok (.if_icmp .ne 7, 3) := by decide +kernel
theorem dX10_dated_57 : decode cX10_dated 57 = .ok (.iconst 1, 1) := by decide +kernel
theorem dX10_dated_58 : decode cX10_dated 58 = .ok (.goto 4, 3) := by decide +kernel
theorem dX10_dated_61 : decode cX10_dated 61 = .ok (.iconst 0, 1) := by decide +kernel
theorem dX10_dated_62 : decode cX10_dated 62 = .ok (.iadd, 1) := by decide +kernel
theorem dX10_dated_63 : decode cX10_dated 63 = .ok (.istore_n 3, 1) := by decide +kernel
theorem dX10_dated_64 : decode cX10_dated 64 = .ok (.iinc 4 1, 3) := by decide +kernel
theorem dX10_dated_67 : decode cX10_dated 67 = .ok (.goto (-38), 3) := by decide +kernel
theorem dX10_dated_70 : decode cX10_dated 70 = .ok (.iload_n 3, 1) := by decide +kernel
theorem dX10_dated_71 : decode cX10_dated 71 = .ok (.ireturn, 1) := by decide +kernel
theorem dX10_seed_0 : decode cX10_seed 0 = .ok (.iload_n 1, 1) := by decide +kernel
theorem dX10_seed_1 : decode cX10_seed 1 = .ok (.ifCond .ge 6, 3) := by decide +kernel
theorem dX10_seed_4 : decode cX10_seed 4 = .ok (.bipush (-102), 2) := by decide +kernel
theorem dX10_seed_6 : decode cX10_seed 6 = .ok (.ireturn, 1) := by decide +kernel
theorem dX10_seed_7 : decode cX10_seed 7 = .ok (.aload_n 0, 1) := by decide +kernel
theorem dX10_seed_8 : decode cX10_seed 8 = .ok (.getfield 16, 3) := by decide +kernel
theorem dX10_seed_11 : decode cX10_seed 11 = .ok (.l2i, 1) := by decide +kernel
theorem dX10_seed_12 : decode cX10_seed 12 = .ok (.istore_n 2, 1) := by decide +kernel
theorem dX10_seed_13 : decode cX10_seed 13 = .ok (.aload_n 0, 1) := by decide +kernel
theorem dX10_seed_14 : decode cX10_seed 14 = .ok (.iload_n 1, 1) := by decide +kernel
theorem dX10_seed_15 : decode cX10_seed 15 = .ok (.i2l, 1) := by decide +kernel
theorem dX10_seed_16 : decode cX10_seed 16 = .ok (.putfield 16, 3) := by decide +kernel
theorem dX10_seed_19 : decode cX10_seed 19 = .ok (.iload_n 2, 1) := by decide +kernel
theorem dX10_seed_20 : decode cX10_seed 20 = .ok (.ireturn, 1) := by decide +kernel
theorem dX10_pebbles_0 : decode cX10_pebbles 0 = .ok (.iconst 0, 1) := by decide +kernel
theorem dX10_pebbles_1 : decode cX10_pebbles 1 = .ok (.istore_n 1, 1) := by decide +kernel
theorem dX10_pebbles_2 : decode cX10_pebbles 2 = .ok (.iconst 0, 1) := by decide +kernel
theorem dX10_pebbles_3 : decode cX10_pebbles 3 = .ok (.istore_n 2, 1) := by decide +kernel
theorem dX10_pebbles_4 : decode cX10_pebbles 4 = .ok (.iload_n 2, 1) := by decide +kernel
theorem dX10_pebbles_5 : decode cX10_pebbles 5 = .ok (.bipush 7, 2) := by decide +kernel
theorem dX10_pebbles_7 : decode cX10_pebbles 7 = .ok (.if_icmp .ge 18, 3) := by decide +kernel
theorem dX10_pebbles_10 : decode cX10_pebbles 10 = .ok (.iload_n 1, 1) := by decide +kernel
theorem dX10_pebbles_11 : decode cX10_pebbles 11 = .ok (.aload_n 0, 1) := by decide +kernel
theorem dX10_pebbles_12 : decode cX10_pebbles 12 = .ok (.getfield 13, 3) := by decide +kernel
theorem dX10_pebbles_15 : decode cX10_pebbles 15 = .ok (.iload_n 2, 1) := by decide +kernel
theorem dX10_pebbles_16 : decode cX10_pebbles 16 = .ok (.iaload, 1) := by decide +kernel
theorem dX10_pebbles_17 : decode cX10_pebbles 17 = .ok (.iadd, 1) := by decide +kernel
theorem dX10_pebbles_18 : decode cX10_pebbles 18 = .ok (.istore_n 1, 1) := by decide +kernel
theorem dX10_pebbles_19 : decode cX10_pebbles 19 = .ok (.iinc 2 1, 3) := by decide +kernel
theorem dX10_pebbles_22 : decode cX10_pebbles 22 = .ok (.goto (-18), 3) := by decide +kernel
theorem dX10_pebbles_25 : decode cX10_pebbles 25 = .ok (.iload_n 1, 1) := by decide +kernel
theorem dX10_pebbles_26 : decode cX10_pebbles 26 = .ok (.ireturn, 1) := by decide +kernel
theorem dX10_draw_0 : decode cX10_draw 0 = .ok (.aload_n 0, 1) := by decide +kernel
theorem dX10_draw_1 : decode cX10_draw 1 = .ok (.ldc2_w 160, 3) := by decide +kernel
theorem dX10_draw_4 : decode cX10_draw 4 = .ok (.aload_n 0, 1) := by decide +kernel
theorem dX10_draw_5 : decode cX10_draw 5 = .ok (.getfield 16, 3) := by decide +kernel
theorem dX10_draw_8 : decode cX10_draw 8 = .ok (.lmul, 1) := by decide +kernel
theorem dX10_draw_9 : decode cX10_draw 9 = .ok (.ldc2_w 162, 3) := by decide +kernel
theorem dX10_draw_12 : decode cX10_draw 12 = .ok (.ladd, 1) := by decide +kernel
theorem dX10_draw_13 : decode cX10_draw 13 = .ok (.ldc2_w 164, 3) := by decide +kernel
theorem dX10_draw_16 : decode cX10_draw 16 = .ok (.land, 1) := by decide +kernel
theorem dX10_draw_17 : decode cX10_draw 17 = .ok (.putfield 16, 3) := by decide +kernel
theorem dX10_draw_20 : decode cX10_draw 20 = .ok (.aload_n 0, 1) := by decide +kernel
theorem dX10_draw_21 : decode cX10_draw 21 = .ok (.getfield 16, 3) := by decide +kernel
theorem dX10_draw_24 : decode cX10_draw 24 = .ok (.ldc2_w 166, 3) := by decide +kernel
theorem dX10_draw_27 : decode cX10_draw 27 = .ok (.ldiv, 1) := by decide +kernel
theorem dX10_draw_28 : decode cX10_draw 28 = .ok (.ldc2_w 168, 3) := by decide +kernel
theorem dX10_draw_31 : decode cX10_draw 31 = .ok (.lrem, 1) := by decide +kernel
theorem dX10_draw_32 : decode cX10_draw 32 = .ok (.l2i, 1) := by decide +kernel
theorem dX10_draw_33 : decode cX10_draw 33 = .ok (.ireturn, 1) := by decide +kernel
theorem dX10_withMost_0 : decode cX10_withMost 0 = .ok (.iconst 0, 1) := by decide +kernel
theorem dX10_withMost_1 : decode cX10_withMost 1 = .ok (.istore_n 1, 1) := by decide +kernel
theorem dX10_withMost_2 : decode cX10_withMost 2 = .ok (.iconst 1, 1) := by decide +kernel
theorem dX10_withMost_3 : decode cX10_withMost 3 = .ok (.istore_n 2, 1) := by decide +kernel
theorem dX10_withMost_4 : decode cX10_withMost 4 = .ok (.iload_n 2, 1) := by decide +kernel
theorem dX10_withMost_5 : decode cX10_withMost 5 = .ok (.bipush 7, 2) := by decide +kernel
theorem dX10_withMost_7 : decode cX10_withMost 7 = .ok (.if_icmp .ge 30, 3) := by decide +kernel
theorem dX10_withMost_10 : decode cX10_withMost 10 = .ok (.aload_n 0, 1) := by decide +kernel
theorem dX10_withMost_11 : decode cX10_withMost 11 = .ok (.getfield 13, 3) := by decide +kernel
theorem dX10_withMost_14 : decode cX10_withMost 14 = .ok (.iload_n 2, 1) := by decide +kernel
theorem dX10_withMost_15 : decode cX10_withMost 15 = .ok (.iaload, 1) := by decide +kernel
theorem dX10_withMost_16 : decode cX10_withMost 16 = .ok (.aload_n 0, 1) := by decide +kernel
theorem dX10_withMost_17 : decode cX10_withMost 17 = .ok (.getfield 13, 3) := by decide +kernel
theorem dX10_withMost_20 : decode cX10_withMost 20 = .ok (.iload_n 1, 1) := by decide +kernel
theorem dX10_withMost_21 : decode cX10_withMost 21 = .ok (.iaload, 1) := by decide +kernel
theorem dX10_withMost_22 : decode cX10_withMost 22 = .ok (.if_icmp .le 7, 3) := by decide +kernel
theorem dX10_withMost_25 : decode cX10_withMost 25 = .ok (.iload_n 2, 1) := by decide +kernel
theorem dX10_withMost_26 : decode cX10_withMost 26 = .ok (.goto 4, 3) := by decide +kernel
theorem dX10_withMost_29 : decode cX10_withMost 29 = .ok (.iload_n 1, 1) := by decide +kernel
theorem dX10_withMost_30 : decode cX10_withMost 30 = .ok (.istore_n 1, 1) := by decide +kernel
theorem dX10_withMost_31 : decode cX10_withMost 31 = .ok (.iinc 2 1, 3) := by decide +kernel
theorem dX10_withMost_34 : decode cX10_withMost 34 = .ok (.goto (-30), 3) := by decide +kernel
theorem dX10_withMost_37 : decode cX10_withMost 37 = .ok (.iload_n 1, 1) := by decide +kernel
theorem dX10_withMost_38 : decode cX10_withMost 38 = .ok (.ireturn, 1) := by decide +kernel
theorem dX10_withLeast_0 : decode cX10_withLeast 0 = .ok (.iconst 0, 1) := by decide +kernel
theorem dX10_withLeast_1 : decode cX10_withLeast 1 = .ok (.istore_n 1, 1) := by decide +kernel
theorem dX10_withLeast_2 : decode cX10_withLeast 2 = .ok (.iconst 1, 1) := by decide +kernel
theorem dX10_withLeast_3 : decode cX10_withLeast 3 = .ok (.istore_n 2, 1) := by decide +kernel
theorem dX10_withLeast_4 : decode cX10_withLeast 4 = .ok (.iload_n 2, 1) := by decide +kernel
theorem dX10_withLeast_5 : decode cX10_withLeast 5 = .ok (.bipush 7, 2) := by decide +kernel
theorem dX10_withLeast_7 : decode cX10_withLeast 7 = .ok (.if_icmp .ge 30, 3) := by decide +kernel
theorem dX10_withLeast_10 : decode cX10_withLeast 10 = .ok (.aload_n 0, 1) := by decide +kernel
theorem dX10_withLeast_11 : decode cX10_withLeast 11 = .ok (.getfield 13, 3) := by decide +kernel
theorem dX10_withLeast_14 : decode cX10_withLeast 14 = .ok (.iload_n 2, 1) := by decide +kernel
theorem dX10_withLeast_15 : decode cX10_withLeast 15 = .ok (.iaload, 1) := by decide +kernel
theorem dX10_withLeast_16 : decode cX10_withLeast 16 = .ok (.aload_n 0, 1) := by decide +kernel
theorem dX10_withLeast_17 : decode cX10_withLeast 17 = .ok (.getfield 13, 3) := by decide +kernel
theorem dX10_withLeast_20 : decode cX10_withLeast 20 = .ok (.iload_n 1, 1) := by decide +kernel
theorem dX10_withLeast_21 : decode cX10_withLeast 21 = .ok (.iaload, 1) := by decide +kernel
theorem dX10_withLeast_22 : decode cX10_withLeast 22 = .ok (.if_icmp .ge 7, 3) := by decide +kernel
theorem dX10_withLeast_25 : decode cX10_withLeast 25 = .ok (.iload_n 2, 1) := by decide +kernel
theorem dX10_withLeast_26 : decode cX10_withLeast 26 = .ok (.goto 4, 3) := by decide +kernel
theorem dX10_withLeast_29 : decode cX10_withLeast 29 = .ok (.iload_n 1, 1) := by decide +kernel
theorem dX10_withLeast_30 : decode cX10_withLeast 30 = .ok (.istore_n 1, 1) := by decide +kernel
theorem dX10_withLeast_31 : decode cX10_withLeast 31 = .ok (.iinc 2 1, 3) := by decide +kernel
theorem dX10_withLeast_34 : decode cX10_withLeast 34 = .ok (.goto (-30), 3) := by decide +kernel
theorem dX10_withLeast_37 : decode cX10_withLeast 37 = .ok (.iload_n 1, 1) := by decide +kernel
theorem dX10_withLeast_38 : decode cX10_withLeast 38 = .ok (.ireturn, 1) := by decide +kernel
set_option maxRecDepth 20000 in
theorem ggX10_cairnBy_X10_withMost : GoodIn wsX10_cairnBy wsX10_withMost := goodIn_r _ [6, 7, 12, 13, 14, 15, 16, 17, 18, 19, 20, 21, 22, 23, 24, 25, 26, 27, 28, 29, 30, 31, 32, 33, 34, 35, 36, 37, 38, 39, 40, 41, 42, 43, 44, 45, 46] (by decide +kernel) (by decide +kernel)
set_option maxRecDepth 20000 in
theorem gX10_cairnBy_X10_withMost : GoodIn wsX10_cairnBy (wsV RX10 170 RX10 yX10_withMost wsX10_withMost) := goodIn_app (goodIn_of _ (by decide +kernel)) ggX10_cairnBy_X10_withMost
set_option maxRecDepth 20000 in
theorem ggX10_cairnBy_X10_withLeast : GoodIn wsX10_cairnBy wsX10_withLeast := goodIn_r _ [11, 7, 12, 13, 14, 15, 16, 17, 18, 19, 20, 21, 22, 23, 24, 25, 26, 27, 28, 29, 30, 31, 32, 33, 34, 35, 36, 37, 38, 39, 40, 41, 42, 43, 44, 45, 46] (by decide +kernel) (by decide +kernel)
set_option maxRecDepth 20000 in
theorem gX10_cairnBy_X10_withLeast : GoodIn wsX10_cairnBy (wsV RX10 174 RX10 yX10_withLeast wsX10_withLeast) := goodIn_app (goodIn_of _ (by decide +kernel)) ggX10_cairnBy_X10_withLeast
theorem dX10_cairnBy_0 : decode cX10_cairnBy 0 = .ok (.iload_n 1, 1) := by decide +kernel
theorem dX10_cairnBy_1 : decode cX10_cairnBy 1 = .ok (.tableswitch 39 7 9 #[27, 32, 37], 27) := by decide +kernel
theorem dX10_cairnBy_28 : decode cX10_cairnBy 28 = .ok (.aload_n 0, 1) := by decide +kernel
theorem dX10_cairnBy_29 : decode cX10_cairnBy 29 = .ok (.invokevirtual 170, 3) := by decide +kernel
theorem dX10_cairnBy_32 : decode cX10_cairnBy 32 = .ok (.ireturn, 1) := by decide +kernel
theorem dX10_cairnBy_33 : decode cX10_cairnBy 33 = .ok (.aload_n 0, 1) := by decide +kernel
theorem dX10_cairnBy_34 : decode cX10_cairnBy 34 = .ok (.invokevirtual 174, 3) := by decide +kernel
theorem dX10_cairnBy_37 : decode cX10_cairnBy 37 = .ok (.ireturn, 1) := by decide +kernel
theorem dX10_cairnBy_38 : decode cX10_cairnBy 38 = .ok (.iload_n 2, 1) := by decide +kernel
theorem dX10_cairnBy_39 : decode cX10_cairnBy 39 = .ok (.ireturn, 1) := by decide +kernel
theorem dX10_cairnBy_40 : decode cX10_cairnBy 40 = .ok (.iload_n 1, 1) := by decide +kernel
theorem dX10_cairnBy_41 : decode cX10_cairnBy 41 = .ok (.bipush 7, 2) := by decide +kernel
theorem dX10_cairnBy_43 : decode cX10_cairnBy 43 = .ok (.if_icmp .ge 7, 3) := by decide +kernel
theorem dX10_cairnBy_46 : decode cX10_cairnBy 46 = .ok (.iload_n 1, 1) := by decide +kernel
theorem dX10_cairnBy_47 : decode cX10_cairnBy 47 = .ok (.goto 12, 3) := by decide +kernel
theorem dX10_cairnBy_50 : decode cX10_cairnBy 50 = .ok (.aload_n 0, 1) := by decide +kernel
theorem dX10_cairnBy_51 : decode cX10_cairnBy 51 = .ok (.getfield 177, 3) := by decide +kernel
theorem dX10_cairnBy_54 : decode cX10_cairnBy 54 = .ok (.iconst 1, 1) := by decide +kernel
theorem dX10_cairnBy_55 : decode cX10_cairnBy 55 = .ok (.iadd, 1) := by decide +kernel
theorem dX10_cairnBy_56 : decode cX10_cairnBy 56 = .ok (.bipush 7, 2) := by decide +kernel
theorem dX10_cairnBy_58 : decode cX10_cairnBy 58 = .ok (.irem, 1) := by decide +kernel
theorem dX10_cairnBy_59 : decode cX10_cairnBy 59 = .ok (.ireturn, 1) := by decide +kernel
set_option maxRecDepth 20000 in
theorem ggX10_doWish_X10_cairnBy : GoodIn wsX10_doWish wsX10_cairnBy := goodIn_r _ [7, 2, 8, 9, 10, 6, 11, 12, 13, 14, 15, 16, 35, 36, 37, 38, 39, 40, 41, 42, 43, 44, 45, 46, 47, 48, 49, 50, 51, 52, 53, 54, 55, 56, 57, 58, 59, 60, 61, 62, 63, 64, 65, 66, 67, 68, 69] (by decide +kernel) (by decide +kernel)
set_option maxRecDepth 20000 in
theorem gX10_doWish_X10_cairnBy : GoodIn wsX10_doWish (wsV RX10 180 RX10 yX10_cairnBy wsX10_cairnBy) := goodIn_app (goodIn_of _ (by decide +kernel)) ggX10_doWish_X10_cairnBy
set_option maxRecDepth 20000 in
theorem ggX10_doWish_X10_gift : GoodIn wsX10_doWish wsX10_gift := goodIn_r _ [20, 21, 22, 35, 36, 37, 38, 39, 40, 41, 42, 43, 44, 45, 46, 47, 48, 49, 50, 51, 52, 53, 54, 55, 56, 57, 58, 59, 60, 61, 62, 63, 64, 65, 66, 67, 68, 69] (by decide +kernel) (by decide +kernel)
set_option maxRecDepth 20000 in
theorem gX10_doWish_X10_gift : GoodIn wsX10_doWish (wsV RX10 126 RX10 yX10_gift wsX10_gift) := goodIn_app (goodIn_of _ (by decide +kernel)) ggX10_doWish_X10_gift
set_option maxRecDepth 20000 in
theorem ggX10_doWish_X10_layAll : GoodIn wsX10_doWish wsX10_layAll := goodIn_r _ [26, 27, 28, 29, 30, 31, 6, 32, 12, 33, 34, 35, 36, 37, 38, 39, 40, 41, 42, 43, 44, 45, 46, 47, 48, 49, 50, 51, 52, 53, 54, 55, 56, 57, 58, 59, 60, 61, 62, 63, 64, 65, 66, 67, 68, 69] (by decide +kernel) (by decide +kernel)
set_option maxRecDepth 20000 in
theorem gX10_doWish_X10_layAll : GoodIn wsX10_doWish (wsV RX10 151 RX10 yX10_layAll wsX10_layAll) := goodIn_app (goodIn_of _ (by decide +kernel)) ggX10_doWish_X10_layAll
theorem dX10_doWish_0 : decode cX10_doWish 0 = .ok (.aload_n 0, 1) := by decide +kernel
theorem dX10_doWish_1 : decode cX10_doWish 1 = .ok (.aload_n 0, 1) := by decide +kernel
theorem dX10_doWish_2 : decode cX10_doWish 2 = .ok (.getfield 35, 3) := by decide +kernel
theorem dX10_doWish_5 : decode cX10_doWish 5 = .ok (.iload_n 1, 1) := by decide +kernel
theorem dX10_doWish_6 : decode cX10_doWish 6 = .ok (.iaload, 1) := by decide +kernel
theorem dX10_doWish_7 : decode cX10_doWish 7 = .ok (.iload_n 2, 1) := by decide +kernel
theorem dX10_doWish_8 : decode cX10_doWish 8 = .ok (.invokevirtual 180, 3) := by decide +kernel
theorem dX10_doWish_11 : decode cX10_doWish 11 = .ok (.istore_n 3, 1) := by decide +kernel
theorem dX10_doWish_12 : decode cX10_doWish 12 = .ok (.aload_n 0, 1) := by decide +kernel
theorem dX10_doWish_13 : decode cX10_doWish 13 = .ok (.iload_n 3, 1) := by decide +kernel
theorem dX10_doWish_14 : decode cX10_doWish 14 = .ok (.aload_n 0, 1) := by decide +kernel
theorem dX10_doWish_15 : decode cX10_doWish 15 = .ok (.iload_n 2, 1) := by decide +kernel
theorem dX10_doWish_16 : decode cX10_doWish 16 = .ok (.invokevirtual 126, 3) := by decide +kernel
theorem dX10_doWish_19 : decode cX10_doWish 19 = .ok (.invokevirtual 151, 3) := by decide +kernel
theorem dX10_doWish_22 : decode cX10_doWish 22 = .ok (.aload_n 0, 1) := by decide +kernel
theorem dX10_doWish_23 : decode cX10_doWish 23 = .ok (.iload_n 3, 1) := by decide +kernel
theorem dX10_doWish_24 : decode cX10_doWish 24 = .ok (.putfield 177, 3) := by decide +kernel
theorem dX10_doWish_27 : decode cX10_doWish 27 = .ok (.return_, 1) := by decide +kernel
set_option maxRecDepth 20000 in
theorem ggX10_doSin_X10_withMost : GoodIn wsX10_doSin wsX10_withMost := goodIn_r _ [10, 4, 34, 35, 36, 37, 38, 39, 40, 41, 42, 43, 44, 45, 46, 47, 48, 49, 50, 51, 52, 53, 54, 55, 56, 57, 58, 59, 60, 61, 62, 63, 64, 65, 66, 67, 68] (by decide +kernel) (by decide +kernel)
set_option maxRecDepth 20000 in
theorem gX10_doSin_X10_withMost : GoodIn wsX10_doSin (wsV RX10 170 RX10 yX10_withMost wsX10_withMost) := goodIn_app (goodIn_of _ (by decide +kernel)) ggX10_doSin_X10_withMost
set_option maxRecDepth 20000 in
theorem ggX10_doSin_X10_cairnBy : GoodIn wsX10_doSin wsX10_cairnBy := goodIn_r _ [14, 3, 6, 7, 8, 9, 10, 4, 15, 16, 17, 18, 34, 35, 36, 37, 38, 39, 40, 41, 42, 43, 44, 45, 46, 47, 48, 49, 50, 51, 52, 53, 54, 55, 56, 57, 58, 59, 60, 61, 62, 63, 64, 65, 66, 67, 68] (by decide +kernel) (by decide +kernel)
set_option maxRecDepth 20000 in
theorem gX10_doSin_X10_cairnBy : GoodIn wsX10_doSin (wsV RX10 180 RX10 yX10_cairnBy wsX10_cairnBy) := goodIn_app (goodIn_of _ (by decide +kernel)) ggX10_doSin_X10_cairnBy
set_option maxRecDepth 20000 in
theorem ggX10_doSin_X10_markOf : GoodIn wsX10_doSin wsX10_markOf := goodIn_r _ [22, 4, 23, 34, 35, 36, 37, 38, 39, 40, 41, 42, 43, 44, 45, 46, 47, 48, 49, 50, 51, 52, 53, 54, 55, 56, 57, 58, 59, 60, 61, 62, 63, 64, 65, 66, 67, 68] (by decide +kernel) (by decide +kernel)
set_option maxRecDepth 20000 in
theorem gX10_doSin_X10_markOf : GoodIn wsX10_doSin (wsV RX10 157 RX10 yX10_markOf wsX10_markOf) := goodIn_app (goodIn_of _ (by decide +kernel)) ggX10_doSin_X10_markOf
set_option maxRecDepth 20000 in
theorem ggX10_doSin_X10_put : GoodIn wsX10_doSin wsX10_put := goodIn_r _ [27, 4, 28, 23, 34, 35, 36, 37, 38, 39, 40, 41, 42, 43, 44, 45, 46, 47, 48, 49, 50, 51, 52, 53, 54, 55, 56, 57, 58, 59, 60, 61, 62, 63, 64, 65, 66, 67, 68] (by decide +kernel) (by decide +kernel)
set_option maxRecDepth 20000 in
theorem gX10_doSin_X10_put : GoodIn wsX10_doSin (wsV RX10 141 RX10 yX10_put wsX10_put) := goodIn_app (goodIn_of _ (by decide +kernel)) ggX10_doSin_X10_put
set_option maxRecDepth 20000 in
theorem ggX10_doSin_X10_takeAll : GoodIn wsX10_doSin wsX10_takeAll := goodIn_r _ [32, 4, 33, 34, 35, 36, 37, 38, 39, 40, 41, 42, 43, 44, 45, 46, 47, 48, 49, 50, 51, 52, 53, 54, 55, 56, 57, 58, 59, 60, 61, 62, 63, 64, 65, 66, 67, 68] (by decide +kernel) (by decide +kernel)
set_option maxRecDepth 20000 in
theorem gX10_doSin_X10_takeAll : GoodIn wsX10_doSin (wsV RX10 154 RX10 yX10_takeAll wsX10_takeAll) := goodIn_app (goodIn_of _ (by decide +kernel)) ggX10_doSin_X10_takeAll
theorem dX10_doSin_0 : decode cX10_doSin 0 = .ok (.aload_n 0, 1) := by decide +kernel
theorem dX10_doSin_1 : decode cX10_doSin 1 = .ok (.getfield 20, 3) := by decide +kernel
theorem dX10_doSin_4 : decode cX10_doSin 4 = .ok (.iload_n 2, 1) := by decide +kernel
theorem dX10_doSin_5 : decode cX10_doSin 5 = .ok (.iaload, 1) := by decide +kernel
theorem dX10_doSin_6 : decode cX10_doSin 6 = .ok (.iconst 3, 1) := by decide +kernel
theorem dX10_doSin_7 : decode cX10_doSin 7 = .ok (.if_icmp .ne 10, 3) := by decide +kernel
theorem dX10_doSin_10 : decode cX10_doSin 10 = .ok (.aload_n 0, 1) := by decide +kernel
theorem dX10_doSin_11 : decode cX10_doSin 11 = .ok (.invokevirtual 170, 3) := by decide +kernel
theorem dX10_doSin_14 : decode cX10_doSin 14 = .ok (.goto 14, 3) := by decide +kernel
theorem dX10_doSin_17 : decode cX10_doSin 17 = .ok (.aload_n 0, 1) := by decide +kernel
theorem dX10_doSin_18 : decode cX10_doSin 18 = .ok (.aload_n 0, 1) := by decide +kernel
theorem dX10_doSin_19 : decode cX10_doSin 19 = .ok (.getfield 38, 3) := by decide +kernel
theorem dX10_doSin_22 : decode cX10_doSin 22 = .ok (.iload_n 1, 1) := by decide +kernel
theorem dX10_doSin_23 : decode cX10_doSin 23 = .ok (.iaload, 1) := by decide +kernel
theorem dX10_doSin_24 : decode cX10_doSin 24 = .ok (.iload_n 2, 1) := by decide +kernel
theorem dX10_doSin_25 : decode cX10_doSin 25 = .ok (.invokevirtual 180, 3) := by decide +kernel
theorem dX10_doSin_28 : decode cX10_doSin 28 = .ok (.istore_n 3, 1) := by decide +kernel
theorem dX10_doSin_29 : decode cX10_doSin 29 = .ok (.aload_n 0, 1) := by decide +kernel
theorem dX10_doSin_30 : decode cX10_doSin 30 = .ok (.iload_n 3, 1) := by decide +kernel
theorem dX10_doSin_31 : decode cX10_doSin 31 = .ok (.putfield 177, 3) := by decide +kernel
theorem dX10_doSin_34 : decode cX10_doSin 34 = .ok (.aload_n 0, 1) := by decide +kernel
theorem dX10_doSin_35 : decode cX10_doSin 35 = .ok (.getfield 13, 3) := by decide +kernel
theorem dX10_doSin_38 : decode cX10_doSin 38 = .ok (.iload_n 3, 1) := by decide +kernel
theorem dX10_doSin_39 : decode cX10_doSin 39 = .ok (.iaload, 1) := by decide +kernel
theorem dX10_doSin_40 : decode cX10_doSin 40 = .ok (.ifCond .ne 4, 3) := by decide +kernel
theorem dX10_doSin_43 : decode cX10_doSin 43 = .ok (.return_, 1) := by decide +kernel
theorem dX10_doSin_44 : decode cX10_doSin 44 = .ok (.aload_n 0, 1) := by decide +kernel
theorem dX10_doSin_45 : decode cX10_doSin 45 = .ok (.getfield 20, 3) := by decide +kernel
theorem dX10_doSin_48 : decode cX10_doSin 48 = .ok (.iload_n 2, 1) := by decide +kernel
theorem dX10_doSin_49 : decode cX10_doSin 49 = .ok (.iaload, 1) := by decide +kernel
theorem dX10_doSin_50 : decode cX10_doSin 50 = .ok (.iconst 2, 1) := by decide +kernel
theorem dX10_doSin_51 : decode cX10_doSin 51 = .ok (.if_icmp .eq 13, 3) := by decide +kernel
theorem dX10_doSin_54 : decode cX10_doSin 54 = .ok (.aload_n 0, 1) := by decide +kernel
theorem dX10_doSin_55 : decode cX10_doSin 55 = .ok (.getfield 20, 3) := by decide +kernel
theorem dX10_doSin_58 : decode cX10_doSin 58 = .ok (.iload_n 2, 1) := by decide +kernel
theorem dX10_doSin_59 : decode cX10_doSin 59 = .ok (.iaload, 1) := by decide +kernel
theorem dX10_doSin_60 : decode cX10_doSin 60 = .ok (.iconst 3, 1) := by decide +kernel
theorem dX10_doSin_61 : decode cX10_doSin 61 = .ok (.if_icmp .ne 36, 3) := by decide +kernel
theorem dX10_doSin_64 : decode cX10_doSin 64 = .ok (.aload_n 0, 1) := by decide +kernel
theorem dX10_doSin_65 : decode cX10_doSin 65 = .ok (.iload_n 3, 1) := by decide +kernel
theorem dX10_doSin_66 : decode cX10_doSin 66 = .ok (.iconst 0, 1) := by decide +kernel
theorem dX10_doSin_67 : decode cX10_doSin 67 = .ok (.invokevirtual 157, 3) := by decide +kernel
theorem dX10_doSin_70 : decode cX10_doSin 70 = .ok (.istore 4, 2) := by decide +kernel
theorem dX10_doSin_72 : decode cX10_doSin 72 = .ok (.aload_n 0, 1) := by decide +kernel
theorem dX10_doSin_73 : decode cX10_doSin 73 = .ok (.getfield 13, 3) := by decide +kernel
theorem dX10_doSin_76 : decode cX10_doSin 76 = .ok (.iload_n 3, 1) := by decide +kernel
theorem dX10_doSin_77 : decode cX10_doSin 77 = .ok (.dup2, 1) := by decide +kernel
theorem dX10_doSin_78 : decode cX10_doSin 78 = .ok (.iaload, 1) := by decide +kernel
theorem dX10_doSin_79 : decode cX10_doSin 79 = .ok (.iconst 1, 1) := by decide +kernel
theorem dX10_doSin_80 : decode cX10_doSin 80 = .ok (.isub, 1) := by decide +kernel
theorem dX10_doSin_81 : decode cX10_doSin 81 = .ok (.iastore, 1) := by decide +kernel
theorem dX10_doSin_82 : decode cX10_doSin 82 = .ok (.aload_n 0, 1) := by decide +kernel
theorem dX10_doSin_83 : decode cX10_doSin 83 = .ok (.aload_n 0, 1) := by decide +kernel
theorem dX10_doSin_84 : decode cX10_doSin 84 = .ok (.getfield 23, 3) := by decide +kernel
theorem dX10_doSin_87 : decode cX10_doSin 87 = .ok (.iload_n 2, 1) := by decide +kernel
theorem dX10_doSin_88 : decode cX10_doSin 88 = .ok (.iaload, 1) := by decide +kernel
theorem dX10_doSin_89 : decode cX10_doSin 89 = .ok (.iload 4, 2) := by decide +kernel
theorem dX10_doSin_91 : decode cX10_doSin 91 = .ok (.invokevirtual 141, 3) := by decide +kernel
theorem dX10_doSin_94 : decode cX10_doSin 94 = .ok (.goto 9, 3) := by decide +kernel
theorem dX10_doSin_97 : decode cX10_doSin 97 = .ok (.aload_n 0, 1) := by decide +kernel
theorem dX10_doSin_98 : decode cX10_doSin 98 = .ok (.iload_n 3, 1) := by decide +kernel
theorem dX10_doSin_99 : decode cX10_doSin 99 = .ok (.iconst 1, 1) := by decide +kernel
theorem dX10_doSin_100 : decode cX10_doSin 100 = .ok (.invokevirtual 154, 3) := by decide +kernel
theorem dX10_doSin_103 : decode cX10_doSin 103 = .ok (.return_, 1) := by decide +kernel
set_option maxRecDepth 20000 in
theorem ggX10_goWeek_X10_draw : GoodIn wsX10_goWeek wsX10_draw := goodIn_r _ [12, 13, 14, 15, 16, 17, 18, 68, 69, 70, 71, 72, 73, 74, 75, 76, 77, 78, 79, 80, 81, 82, 83, 84, 85, 86, 87, 88, 89, 90, 91, 92, 93, 94, 95, 96, 97, 98, 99, 100, 101, 102] (by decide +kernel) (by decide +kernel)
set_option maxRecDepth 20000 in
theorem gX10_goWeek_X10_draw : GoodIn wsX10_goWeek (wsV RX10 183 RX10 yX10_draw wsX10_draw) := goodIn_app (goodIn_of _ (by decide +kernel)) ggX10_goWeek_X10_draw
set_option maxRecDepth 20000 in
theorem ggX10_goWeek_X10_doWish : GoodIn wsX10_goWeek wsX10_doWish := goodIn_r _ [22, 23, 24, 25, 26, 27, 11, 28, 29, 30, 31, 32, 7, 33, 34, 35, 36, 37, 38, 39, 40, 41, 42, 43, 44, 45, 46, 47, 1, 48, 49, 50, 51, 52, 53, 68, 69, 70, 71, 72, 73, 74, 75, 76, 77, 78, 79, 80, 81, 82, 83, 84, 85, 86, 87, 88, 89, 90, 91, 92, 93, 94, 95, 96, 97, 98, 99, 100, 101, 102] (by decide +kernel) (by decide +kernel)
set_option maxRecDepth 20000 in
theorem gX10_goWeek_X10_doWish : GoodIn wsX10_goWeek (wsV RX10 186 RX10 yX10_doWish wsX10_doWish) := goodIn_app (goodIn_of _ (by decide +kernel)) ggX10_goWeek_X10_doWish
set_option maxRecDepth 20000 in
theorem ggX10_goWeek_X10_doSin : GoodIn wsX10_goWeek wsX10_doSin := goodIn_r _ [57, 41, 58, 24, 7, 42, 29, 30, 31, 11, 32, 25, 26, 27, 28, 33, 34, 35, 36, 59, 60, 61, 62, 53, 48, 49, 50, 51, 52, 63, 64, 65, 66, 67, 68, 69, 70, 71, 72, 73, 74, 75, 76, 77, 78, 79, 80, 81, 82, 83, 84, 85, 86, 87, 88, 89, 90, 91, 92, 93, 94, 95, 96, 97, 98, 99, 100, 101, 102] (by decide +kernel) (by decide +kernel)
set_option maxRecDepth 20000 in
theorem gX10_goWeek_X10_doSin : GoodIn wsX10_goWeek (wsV RX10 189 RX10 yX10_doSin wsX10_doSin) := goodIn_app (goodIn_of _ (by decide +kernel)) ggX10_goWeek_X10_doSin
set_option maxRecDepth 20000 in
theorem ggX10_goWeek_X10_withLeast : GoodIn wsX10_goWeek wsX10_withLeast := goodIn_r _ [36, 7, 68, 69, 70, 71, 72, 73, 74, 75, 76, 77, 78, 79, 80, 81, 82, 83, 84, 85, 86, 87, 88, 89, 90, 91, 92, 93, 94, 95, 96, 97, 98, 99, 100, 101, 102] (by decide +kernel) (by decide +kernel)
set_option maxRecDepth 20000 in
theorem gX10_goWeek_X10_withLeast : GoodIn wsX10_goWeek (wsV RX10 174 RX10 yX10_withLeast wsX10_withLeast) := goodIn_app (goodIn_of _ (by decide +kernel)) ggX10_goWeek_X10_withLeast
set_option maxRecDepth 20000 in
theorem ggX10_goWeek_X10_takeAll : GoodIn wsX10_goWeek wsX10_takeAll := goodIn_r _ [66, 7, 67, 68, 69, 70, 71, 72, 73, 74, 75, 76, 77, 78, 79, 80, 81, 82, 83, 84, 85, 86, 87, 88, 89, 90, 91, 92, 93, 94, 95, 96, 97, 98, 99, 100, 101, 102] (by decide +kernel) (by decide +kernel)
set_option maxRecDepth 20000 in
theorem gX10_goWeek_X10_takeAll : GoodIn wsX10_goWeek (wsV RX10 154 RX10 yX10_takeAll wsX10_takeAll) := goodIn_app (goodIn_of _ (by decide +kernel)) ggX10_goWeek_X10_takeAll
theorem dX10_goWeek_0 : decode cX10_goWeek 0 = .ok (.aload_n 0, 1) := by decide +kernel
theorem dX10_goWeek_1 : decode cX10_goWeek 1 = .ok (.dup, 1) := by decide +kernel
theorem dX10_goWeek_2 : decode cX10_goWeek 2 = .ok (.getfield 138, 3) := by decide +kernel
theorem dX10_goWeek_5 : decode cX10_goWeek 5 = .ok (.iconst 1, 1) := by decide +kernel
theorem dX10_goWeek_6 : decode cX10_goWeek 6 = .ok (.iadd, 1) := by decide +kernel
theorem dX10_goWeek_7 : decode cX10_goWeek 7 = .ok (.putfield 138, 3) := by decide +kernel
theorem dX10_goWeek_10 : decode cX10_goWeek 10 = .ok (.iconst 0, 1) := by decide +kernel
theorem dX10_goWeek_11 : decode cX10_goWeek 11 = .ok (.istore_n 2, 1) := by decide +kernel
theorem dX10_goWeek_12 : decode cX10_goWeek 12 = .ok (.iload_n 2, 1) := by decide +kernel
theorem dX10_goWeek_13 : decode cX10_goWeek 13 = .ok (.aload_n 0, 1) := by decide +kernel
theorem dX10_goWeek_14 : decode cX10_goWeek 14 = .ok (.getfield 113, 3) := by decide +kernel
theorem dX10_goWeek_17 : decode cX10_goWeek 17 = .ok (.if_icmp .ge 68, 3) := by decide +kernel
theorem dX10_goWeek_20 : decode cX10_goWeek 20 = .ok (.iconst 0, 1) := by decide +kernel
theorem dX10_goWeek_21 : decode cX10_goWeek 21 = .ok (.istore_n 3, 1) := by decide +kernel
theorem dX10_goWeek_22 : decode cX10_goWeek 22 = .ok (.iload_n 3, 1) := by decide +kernel
theorem dX10_goWeek_23 : decode cX10_goWeek 23 = .ok (.aload_n 0, 1) := by decide +kernel
theorem dX10_goWeek_24 : decode cX10_goWeek 24 = .ok (.getfield 26, 3) := by decide +kernel
theorem dX10_goWeek_27 : decode cX10_goWeek 27 = .ok (.iload_n 2, 1) := by decide +kernel
theorem dX10_goWeek_28 : decode cX10_goWeek 28 = .ok (.iaload, 1) := by decide +kernel
theorem dX10_goWeek_29 : decode cX10_goWeek 29 = .ok (.if_icmp .ge 50, 3) := by decide +kernel
theorem dX10_goWeek_32 : decode cX10_goWeek 32 = .ok (.aload_n 0, 1) := by decide +kernel
theorem dX10_goWeek_33 : decode cX10_goWeek 33 = .ok (.invokevirtual 183, 3) := by decide +kernel
theorem dX10_goWeek_36 : decode cX10_goWeek 36 = .ok (.aload_n 0, 1) := by decide +kernel
theorem dX10_goWeek_37 : decode cX10_goWeek 37 = .ok (.getfield 29, 3) := by decide +kernel
theorem dX10_goWeek_40 : decode cX10_goWeek 40 = .ok (.iload_n 2, 1) := by decide +kernel
theorem dX10_goWeek_41 : decode cX10_goWeek 41 = .ok (.iaload, 1) := by decide +kernel
theorem dX10_goWeek_42 : decode cX10_goWeek 42 = .ok (.if_icmp .ge 12, 3) := by decide +kernel
theorem dX10_goWeek_45 : decode cX10_goWeek 45 = .ok (.aload_n 0, 1) := by decide +kernel
theorem dX10_goWeek_46 : decode cX10_goWeek 46 = .ok (.iload_n 1, 1) := by decide +kernel
theorem dX10_goWeek_47 : decode cX10_goWeek 47 = .ok (.iload_n 2, 1) := by decide +kernel
theorem dX10_goWeek_48 : decode cX10_goWeek 48 = .ok (.invokevirtual 186, 3) := by decide +kernel
theorem dX10_goWeek_51 : decode cX10_goWeek 51 = .ok (.goto 22, 3) := by decide +kernel
theorem dX10_goWeek_54 : decode cX10_goWeek 54 = .ok (.aload_n 0, 1) := by decide +kernel
theorem dX10_goWeek_55 : decode cX10_goWeek 55 = .ok (.invokevirtual 183, 3) := by decide +kernel
theorem dX10_goWeek_58 : decode cX10_goWeek 58 = .ok (.aload_n 0, 1) := by decide +kernel
theorem dX10_goWeek_59 : decode cX10_goWeek 59 = .ok (.getfield 32, 3) := by decide +kernel
theorem dX10_goWeek_62 : decode cX10_goWeek 62 = .ok (.iload_n 2, 1) := by decide +kernel
theorem dX10_goWeek_63 : decode cX10_goWeek 63 = .ok (.iaload, 1) := by decide +kernel
theorem dX10_goWeek_64 : decode cX10_goWeek 64 = .ok (.if_icmp .ge 9, 3) := by decide +kernel
theorem dX10_goWeek_67 : decode cX10_goWeek 67 = .ok (.aload_n 0, 1) := by decide +kernel
theorem dX10_goWeek_68 : decode cX10_goWeek 68 = .ok (.iload_n 1, 1) := by decide +kernel
theorem dX10_goWeek_69 : decode cX10_goWeek 69 = .ok (.iload_n 2, 1) := by decide +kernel
theorem dX10_goWeek_70 : decode cX10_goWeek 70 = .ok (.invokevirtual 189, 3) := by decide +kernel
theorem dX10_goWeek_73 : decode cX10_goWeek 73 = .ok (.iinc 3 1, 3) := by decide +kernel
theorem dX10_goWeek_76 : decode cX10_goWeek 76 = .ok (.goto (-54), 3) := by decide +kernel
theorem dX10_goWeek_79 : decode cX10_goWeek 79 = .ok (.iinc 2 1, 3) := by decide +kernel
theorem dX10_goWeek_82 : decode cX10_goWeek 82 = .ok (.goto (-70), 3) := by decide +kernel
theorem dX10_goWeek_85 : decode cX10_goWeek 85 = .ok (.aload_n 0, 1) := by decide +kernel
theorem dX10_goWeek_86 : decode cX10_goWeek 86 = .ok (.getfield 41, 3) := by decide +kernel
theorem dX10_goWeek_89 : decode cX10_goWeek 89 = .ok (.iload_n 1, 1) := by decide +kernel
theorem dX10_goWeek_90 : decode cX10_goWeek 90 = .ok (.iaload, 1) := by decide +kernel
theorem dX10_goWeek_91 : decode cX10_goWeek 91 = .ok (.ifCond .le 37, 3) := by decide +kernel
theorem dX10_goWeek_94 : decode cX10_goWeek 94 = .ok (.aload_n 0, 1) := by decide +kernel
theorem dX10_goWeek_95 : decode cX10_goWeek 95 = .ok (.getfield 138, 3) := by decide +kernel
theorem dX10_goWeek_98 : decode cX10_goWeek 98 = .ok (.aload_n 0, 1) := by decide +kernel
theorem dX10_goWeek_99 : decode cX10_goWeek 99 = .ok (.getfield 41, 3) := by decide +kernel
theorem dX10_goWeek_102 : decode cX10_goWeek 102 = .ok (.iload_n 1, 1) := by decide +kernel
theorem dX10_goWeek_103 : decode cX10_goWeek 103 = .ok (.iaload, 1) := by decide +kernel
theorem dX10_goWeek_104 : decode cX10_goWeek 104 = .ok (.irem, 1) := by decide +kernel
theorem dX10_goWeek_105 : decode cX10_goWeek 105 = .ok (.ifCond .ne 23, 3) := by decide +kernel
theorem dX10_goWeek_108 : decode cX10_goWeek 108 = .ok (.aload_n 0, 1) := by decide +kernel
theorem dX10_goWeek_109 : decode cX10_goWeek 109 = .ok (.invokevirtual 174, 3) := by decide +kernel
theorem dX10_goWeek_112 : decode cX10_goWeek 112 = .ok (.istore_n 2, 1) := by decide +kernel
theorem dX10_goWeek_113 : decode cX10_goWeek 113 = .ok (.aload_n 0, 1) := by decide +kernel
theorem dX10_goWeek_114 : decode cX10_goWeek 114 = .ok (.iload_n 2, 1) := by decide +kernel
theorem dX10_goWeek_115 : decode cX10_goWeek 115 = .ok (.aload_n 0, 1) := by decide +kernel
theorem dX10_goWeek_116 : decode cX10_goWeek 116 = .ok (.getfield 13, 3) := by decide +kernel
theorem dX10_goWeek_119 : decode cX10_goWeek 119 = .ok (.iload_n 2, 1) := by decide +kernel
theorem dX10_goWeek_120 : decode cX10_goWeek 120 = .ok (.iaload, 1) := by decide +kernel
theorem dX10_goWeek_121 : decode cX10_goWeek 121 = .ok (.iconst 1, 1) := by decide +kernel
theorem dX10_goWeek_122 : decode cX10_goWeek 122 = .ok (.iadd, 1) := by decide +kernel
theorem dX10_goWeek_123 : decode cX10_goWeek 123 = .ok (.iconst 2, 1) := by decide +kernel
theorem dX10_goWeek_124 : decode cX10_goWeek 124 = .ok (.idiv, 1) := by decide +kernel
theorem dX10_goWeek_125 : decode cX10_goWeek 125 = .ok (.invokevirtual 154, 3) := by decide +kernel
theorem dX10_goWeek_128 : decode cX10_goWeek 128 = .ok (.return_, 1) := by decide +kernel
set_option maxRecDepth 20000 in
theorem ggX10_weeks_X10_isCustom : GoodIn wsX10_weeks wsX10_isCustom := goodIn_r _ [6, 7, 8, 9, 5, 10, 84, 85, 86, 87, 88, 89, 90, 91, 92, 93, 94, 95, 96, 97, 98, 99, 100, 101, 102, 103, 104, 105, 106, 107, 108, 109, 110, 111, 112, 113, 114, 115, 116, 117, 118] (by decide +kernel) (by decide +kernel)
set_option maxRecDepth 20000 in
theorem gX10_weeks_X10_isCustom : GoodIn wsX10_weeks (wsV RX10 106 RX10 yX10_isCustom wsX10_isCustom) := goodIn_app (goodIn_of _ (by decide +kernel)) ggX10_weeks_X10_isCustom
set_option maxRecDepth 20000 in
theorem ggX10_weeks_X10_within : GoodIn wsX10_weeks wsX10_within := goodIn_r _ [10] (by decide +kernel) (by decide +kernel)
set_option maxRecDepth 20000 in
theorem gX10_weeks_X10_within : GoodIn wsX10_weeks (va_wsS RX10 72 yX10_within wsX10_within) := goodIn_app (goodIn_of _ (by decide +kernel)) ggX10_weeks_X10_within
set_option maxRecDepth 20000 in
theorem ggX10_weeks_X10_goWeek : GoodIn wsX10_weeks wsX10_goWeek := goodIn_r _ [14, 1, 15, 16, 17, 18, 19, 20, 21, 22, 23, 5, 24, 25, 26, 27, 28, 29, 30, 31, 32, 33, 34, 35, 36, 37, 38, 39, 40, 41, 42, 43, 44, 45, 46, 47, 48, 49, 50, 51, 52, 53, 54, 55, 56, 57, 58, 59, 60, 61, 62, 63, 64, 65, 66, 67, 68, 69, 70, 71, 72, 73, 74, 75, 76, 77, 78, 79, 84, 85, 86, 87, 88, 89, 90, 91, 92, 93, 94, 95, 96, 97, 98, 99, 100, 101, 102, 103, 104, 105, 106, 107, 108, 109, 110, 111, 112, 113, 114, 115, 116, 117, 118] (by decide +kernel) (by decide +kernel)
set_option maxRecDepth 20000 in
theorem gX10_weeks_X10_goWeek : GoodIn wsX10_weeks (wsV RX10 192 RX10 yX10_goWeek wsX10_goWeek) := goodIn_app (goodIn_of _ (by decide +kernel)) ggX10_weeks_X10_goWeek
set_option maxRecDepth 20000 in
theorem ggX10_weeks_X10_pebbles : GoodIn wsX10_weeks wsX10_pebbles := goodIn_r _ [83, 20, 84, 85, 86, 87, 88, 89, 90, 91, 92, 93, 94, 95, 96, 97, 98, 99, 100, 101, 102, 103, 104, 105, 106, 107, 108, 109, 110, 111, 112, 113, 114, 115, 116, 117, 118] (by decide +kernel) (by decide +kernel)
set_option maxRecDepth 20000 in
theorem gX10_weeks_X10_pebbles : GoodIn wsX10_weeks (wsV RX10 196 RX10 yX10_pebbles wsX10_pebbles) := goodIn_app (goodIn_of _ (by decide +kernel)) ggX10_weeks_X10_pebbles
theorem dX10_weeks_0 : decode cX10_weeks 0 = .ok (.aload_n 0, 1) := by decide +kernel
theorem dX10_weeks_1 : decode cX10_weeks 1 = .ok (.iload_n 1, 1) := by decide +kernel
theorem dX10_weeks_2 : decode cX10_weeks 2 = .ok (.invokevirtual 106, 3) := by decide +kernel
theorem dX10_weeks_5 : decode cX10_weeks 5 = .ok (.ifCond .ne 6, 3) := by decide +kernel
theorem dX10_weeks_8 : decode cX10_weeks 8 = .ok (.bipush (-101), 2) := by decide +kernel
theorem dX10_weeks_10 : decode cX10_weeks 10 = .ok (.ireturn, 1) := by decide +kernel
theorem dX10_weeks_11 : decode cX10_weeks 11 = .ok (.iload_n 2, 1) := by decide +kernel
theorem dX10_weeks_12 : decode cX10_weeks 12 = .ok (.iconst 1, 1) := by decide +kernel
theorem dX10_weeks_13 : decode cX10_weeks 13 = .ok (.bipush 60, 2) := by decide +kernel
theorem dX10_weeks_15 : decode cX10_weeks 15 = .ok (.invokestatic 72, 3) := by decide +kernel
theorem dX10_weeks_18 : decode cX10_weeks 18 = .ok (.ifCond .ne 6, 3) := by decide +kernel
theorem dX10_weeks_21 : decode cX10_weeks 21 = .ok (.bipush (-102), 2) := by decide +kernel
theorem dX10_weeks_23 : decode cX10_weeks 23 = .ok (.ireturn, 1) := by decide +kernel
theorem dX10_weeks_24 : decode cX10_weeks 24 = .ok (.aload_n 0, 1) := by decide +kernel
theorem dX10_weeks_25 : decode cX10_weeks 25 = .ok (.getfield 138, 3) := by decide +kernel
theorem dX10_weeks_28 : decode cX10_weeks 28 = .ok (.iload_n 2, 1) := by decide +kernel
theorem dX10_weeks_29 : decode cX10_weeks 29 = .ok (.iadd, 1) := by decide +kernel
theorem dX10_weeks_30 : decode cX10_weeks 30 = .ok (.sipush 9999, 3) := by decide +kernel
theorem dX10_weeks_33 : decode cX10_weeks 33 = .ok (.if_icmp .le 6, 3) := by decide +kernel
theorem dX10_weeks_36 : decode cX10_weeks 36 = .ok (.bipush (-103), 2) := by decide +kernel
theorem dX10_weeks_38 : decode cX10_weeks 38 = .ok (.ireturn, 1) := by decide +kernel
theorem dX10_weeks_39 : decode cX10_weeks 39 = .ok (.iconst 0, 1) := by decide +kernel
theorem dX10_weeks_40 : decode cX10_weeks 40 = .ok (.istore_n 3, 1) := by decide +kernel
theorem dX10_weeks_41 : decode cX10_weeks 41 = .ok (.iload_n 3, 1) := by decide +kernel
theorem dX10_weeks_42 : decode cX10_weeks 42 = .ok (.iload_n 2, 1) := by decide +kernel
theorem dX10_weeks_43 : decode cX10_weeks 43 = .ok (.if_icmp .ge 14, 3) := by decide +kernel
theorem dX10_weeks_46 : decode cX10_weeks 46 = .ok (.aload_n 0, 1) := by decide +kernel
theorem dX10_weeks_47 : decode cX10_weeks 47 = .ok (.iload_n 1, 1) := by decide +kernel
theorem dX10_weeks_48 : decode cX10_weeks 48 = .ok (.invokevirtual 192, 3) := by decide +kernel
theorem dX10_weeks_51 : decode cX10_weeks 51 = .ok (.iinc 3 1, 3) := by decide +kernel
theorem dX10_weeks_54 : decode cX10_weeks 54 = .ok (.goto (-13), 3) := by decide +kernel
theorem dX10_weeks_57 : decode cX10_weeks 57 = .ok (.aload_n 0, 1) := by decide +kernel
theorem dX10_weeks_58 : decode cX10_weeks 58 = .ok (.invokevirtual 196, 3) := by decide +kernel
theorem dX10_weeks_61 : decode cX10_weeks 61 = .ok (.ireturn, 1) := by decide +kernel
theorem dX10_save_0 : decode cX10_save 0 = .ok (.aload_n 0, 1) := by decide +kernel
theorem dX10_save_1 : decode cX10_save 1 = .ok (.aload_n 0, 1) := by decide +kernel
theorem dX10_save_2 : decode cX10_save 2 = .ok (.getfield 16, 3) := by decide +kernel
theorem dX10_save_5 : decode cX10_save 5 = .ok (.putfield 199, 3) := by decide +kernel
theorem dX10_save_8 : decode cX10_save 8 = .ok (.iconst 0, 1) := by decide +kernel
theorem dX10_save_9 : decode cX10_save 9 = .ok (.istore_n 1, 1) := by decide +kernel
theorem dX10_save_10 : decode cX10_save 10 = .ok (.iload_n 1, 1) := by decide +kernel
theorem dX10_save_11 : decode cX10_save 11 = .ok (.sipush 420, 3) := by decide +kernel
theorem dX10_save_14 : decode cX10_save 14 = .ok (.if_icmp .ge 21, 3) := by decide +kernel
theorem dX10_save_17 : decode cX10_save 17 = .ok (.aload_n 0, 1) := by decide +kernel
theorem dX10_save_18 : decode cX10_save 18 = .ok (.getfield 51, 3) := by decide +kernel
theorem dX10_save_21 : decode cX10_save 21 = .ok (.iload_n 1, 1) := by decide +kernel
theorem dX10_save_22 : decode cX10_save 22 = .ok (.aload_n 0, 1) := by decide +kernel
theorem dX10_save_23 : decode cX10_save 23 = .ok (.getfield 7, 3) := by decide +kernel
theorem dX10_save_26 : decode cX10_save 26 = .ok (.iload_n 1, 1) := by decide +kernel
theorem dX10_save_27 : decode cX10_save 27 = .ok (.iaload, 1) := by decide +kernel
theorem dX10_save_28 : decode cX10_save 28 = .ok (.iastore, 1) := by decide +kernel
theorem dX10_save_29 : decode cX10_save 29 = .ok (.iinc 1 1, 3) := by decide +kernel
theorem dX10_save_32 : decode cX10_save 32 = .ok (.goto (-22), 3) := by decide +kernel
theorem dX10_save_35 : decode cX10_save 35 = .ok (.iconst 0, 1) := by decide +kernel
theorem dX10_save_36 : decode cX10_save 36 = .ok (.istore_n 1, 1) := by decide +kernel
theorem dX10_save_37 : decode cX10_save 37 = .ok (.iload_n 1, 1) := by decide +kernel
theorem dX10_save_38 : decode cX10_save 38 = .ok (.bipush 7, 2) := by decide +kernel
theorem dX10_save_40 : decode cX10_save 40 = .ok (.if_icmp .ge 25, 3) := by decide +kernel
theorem dX10_save_43 : decode cX10_save 43 = .ok (.aload_n 0, 1) := by decide +kernel
theorem dX10_save_44 : decode cX10_save 44 = .ok (.getfield 51, 3) := by decide +kernel
theorem dX10_save_47 : decode cX10_save 47 = .ok (.sipush 420, 3) := by decide +kernel
theorem dX10_save_50 : decode cX10_save 50 = .ok (.iload_n 1, 1) := by decide +kernel
theorem dX10_save_51 : decode cX10_save 51 = .ok (.iadd, 1) := by decide +kernel
theorem dX10_save_52 : decode cX10_save 52 = .ok (.aload_n 0, 1) := by decide +kernel
theorem dX10_save_53 : decode cX10_save 53 = .ok (.getfield 13, 3) := by decide +kernel
theorem dX10_save_56 : decode cX10_save 56 = .ok (.iload_n 1, 1) := by decide +kernel
theorem dX10_save_57 : decode cX10_save 57 = .ok (.iaload, 1) := by decide +kernel
theorem dX10_save_58 : decode cX10_save 58 = .ok (.iastore, 1) := by decide +kernel
theorem dX10_save_59 : decode cX10_save 59 = .ok (.iinc 1 1, 3) := by decide +kernel
theorem dX10_save_62 : decode cX10_save 62 = .ok (.goto (-25), 3) := by decide +kernel
theorem dX10_save_65 : decode cX10_save 65 = .ok (.aload_n 0, 1) := by decide +kernel
theorem dX10_save_66 : decode cX10_save 66 = .ok (.getfield 51, 3) := by decide +kernel
theorem dX10_save_69 : decode cX10_save 69 = .ok (.sipush 427, 3) := by decide +kernel
theorem dX10_save_72 : decode cX10_save 72 = .ok (.aload_n 0, 1) := by decide +kernel
theorem dX10_save_73 : decode cX10_save 73 = .ok (.getfield 138, 3) := by decide +kernel
theorem dX10_save_76 : decode cX10_save 76 = .ok (.iastore, 1) := by decide +kernel
theorem dX10_save_77 : decode cX10_save 77 = .ok (.aload_n 0, 1) := by decide +kernel
theorem dX10_save_78 : decode cX10_save 78 = .ok (.getfield 51, 3) := by decide +kernel
theorem dX10_save_81 : decode cX10_save 81 = .ok (.sipush 428, 3) := by decide +kernel
theorem dX10_save_84 : decode cX10_save 84 = .ok (.aload_n 0, 1) := by decide +kernel
theorem dX10_save_85 : decode cX10_save 85 = .ok (.getfield 177, 3) := by decide +kernel
theorem dX10_save_88 : decode cX10_save 88 = .ok (.iastore, 1) := by decide +kernel
theorem dX10_save_89 : decode cX10_save 89 = .ok (.aload_n 0, 1) := by decide +kernel
theorem dX10_save_90 : decode cX10_save 90 = .ok (.getfield 51, 3) := by decide +kernel
theorem dX10_save_93 : decode cX10_save 93 = .ok (.sipush 429, 3) := by decide +kernel
theorem dX10_save_96 : decode cX10_save 96 = .ok (.aload_n 0, 1) := by decide +kernel
theorem dX10_save_97 : decode cX10_save 97 = .ok (.getfield 135, 3) := by decide +kernel
theorem dX10_save_100 : decode cX10_save 100 = .ok (.iastore, 1) := by decide +kernel
theorem dX10_save_101 : decode cX10_save 101 = .ok (.aload_n 0, 1) := by decide +kernel
theorem dX10_save_102 : decode cX10_save 102 = .ok (.getfield 51, 3) := by decide +kernel
theorem dX10_save_105 : decode cX10_save 105 = .ok (.sipush 430, 3) := by decide +kernel
theorem dX10_save_108 : decode cX10_save 108 = .ok (.aload_n 0, 1) := by decide +kernel
theorem dX10_save_109 : decode cX10_save 109 = .ok (.getfield 145, 3) := by decide +kernel
theorem dX10_save_112 : decode cX10_save 112 = .ok (.iastore, 1) := by decide +kernel
theorem dX10_save_113 : decode cX10_save 113 = .ok (.aload_n 0, 1) := by decide +kernel
theorem dX10_save_114 : decode cX10_save 114 = .ok (.getfield 51, 3) := by decide +kernel
theorem dX10_save_117 : decode cX10_save 117 = .ok (.sipush 431, 3) := by decide +kernel
theorem dX10_save_120 : decode cX10_save 120 = .ok (.aload_n 0, 1) := by decide +kernel
theorem dX10_save_121 : decode cX10_save 121 = .ok (.getfield 132, 3) := by decide +kernel
theorem dX10_save_124 : decode cX10_save 124 = .ok (.iastore, 1) := by decide +kernel
theorem dX10_save_125 : decode cX10_save 125 = .ok (.return_, 1) := by decide +kernel
theorem dX10_back_0 : decode cX10_back 0 = .ok (.aload_n 0, 1) := by decide +kernel
theorem dX10_back_1 : decode cX10_back 1 = .ok (.aload_n 0, 1) := by decide +kernel
theorem dX10_back_2 : decode cX10_back 2 = .ok (.getfield 199, 3) := by decide +kernel
theorem dX10_back_5 : decode cX10_back 5 = .ok (.putfield 16, 3) := by decide +kernel
theorem dX10_back_8 : decode cX10_back 8 = .ok (.iconst 0, 1) := by decide +kernel
theorem dX10_back_9 : decode cX10_back 9 = .ok (.istore_n 1, 1) := by decide +kernel
theorem dX10_back_10 : decode cX10_back 10 = .ok (.iload_n 1, 1) := by decide +kernel
theorem dX10_back_11 : decode cX10_back 11 = .ok (.sipush 420, 3) := by decide +kernel
theorem dX10_back_14 : decode cX10_back 14 = .ok (.if_icmp .ge 21, 3) := by decide +kernel
theorem dX10_back_17 : decode cX10_back 17 = .ok (.aload_n 0, 1) := by decide +kernel
theorem dX10_back_18 : decode cX10_back 18 = .ok (.getfield 7, 3) := by decide +kernel
theorem dX10_back_21 : decode cX10_back 21 = .ok (.iload_n 1, 1) := by decide +kernel
theorem dX10_back_22 : decode cX10_back 22 = .ok (.aload_n 0, 1) := by decide +kernel
theorem dX10_back_23 : decode cX10_back 23 = .ok (.getfield 51, 3) := by decide +kernel
theorem dX10_back_26 : decode cX10_back 26 = .ok (.iload_n 1, 1) := by decide +kernel
theorem dX10_back_27 : decode cX10_back 27 = .ok (.iaload, 1) := by decide +kernel
theorem dX10_back_28 : decode cX10_back 28 = .ok (.iastore, 1) := by decide +kernel
theorem dX10_back_29 : decode cX10_back 29 = .ok (.iinc 1 1, 3) := by decide +kernel
theorem dX10_back_32 : decode cX10_back 32 = .ok (.goto (-22), 3) := by decide +kernel
theorem dX10_back_35 : decode cX10_back 35 = .ok (.iconst 0, 1) := by decide +kernel
theorem dX10_back_36 : decode cX10_back 36 = .ok (.istore_n 1, 1) := by decide +kernel
theorem dX10_back_37 : decode cX10_back 37 = .ok (.iload_n 1, 1) := by decide +kernel
theorem dX10_back_38 : decode cX10_back 38 = .ok (.bipush 7, 2) := by decide +kernel
theorem dX10_back_40 : decode cX10_back 40 = .ok (.if_icmp .ge 25, 3) := by decide +kernel
theorem dX10_back_43 : decode cX10_back 43 = .ok (.aload_n 0, 1) := by decide +kernel
theorem dX10_back_44 : decode cX10_back 44 = .ok (.getfield 13, 3) := by decide +kernel
theorem dX10_back_47 : decode cX10_back 47 = .ok (.iload_n 1, 1) := by decide +kernel
theorem dX10_back_48 : decode cX10_back 48 = .ok (.aload_n 0, 1) := by decide +kernel
theorem dX10_back_49 : decode cX10_back 49 = .ok (.getfield 51, 3) := by decide +kernel
theorem dX10_back_52 : decode cX10_back 52 = .ok (.sipush 420, 3) := by decide +kernel
theorem dX10_back_55 : decode cX10_back 55 = .ok (.iload_n 1, 1) := by decide +kernel
theorem dX10_back_56 : decode cX10_back 56 = .ok (.iadd, 1) := by decide +kernel
theorem dX10_back_57 : decode cX10_back 57 = .ok (.iaload, 1) := by decide +kernel
theorem dX10_back_58 : decode cX10_back 58 = .ok (.iastore, 1) := by decide +kernel
theorem dX10_back_59 : decode cX10_back 59 = .ok (.iinc 1 1, 3) := by decide +kernel
theorem dX10_back_62 : decode cX10_back 62 = .ok (.goto (-25), 3) := by decide +kernel
theorem dX10_back_65 : decode cX10_back 65 = .ok (.aload_n 0, 1) := by decide +kernel
theorem dX10_back_66 : decode cX10_back 66 = .ok (.aload_n 0, 1) := by decide +kernel
theorem dX10_back_67 : decode cX10_back 67 = .ok (.getfield 51, 3) := by decide +kernel
theorem dX10_back_70 : decode cX10_back 70 = .ok (.sipush 427, 3) := by decide +kernel
theorem dX10_back_73 : decode cX10_back 73 = .ok (.iaload, 1) := by decide +kernel
theorem dX10_back_74 : decode cX10_back 74 = .ok (.putfield 138, 3) := by decide +kernel
theorem dX10_back_77 : decode cX10_back 77 = .ok (.aload_n 0, 1) := by decide +kernel
theorem dX10_back_78 : decode cX10_back 78 = .ok (.aload_n 0, 1) := by decide +kernel
theorem dX10_back_79 : decode cX10_back 79 = .ok (.getfield 51, 3) := by decide +kernel
theorem dX10_back_82 : decode cX10_back 82 = .ok (.sipush 428, 3) := by decide +kernel
theorem dX10_back_85 : decode cX10_back 85 = .ok (.iaload, 1) := by decide +kernel
theorem dX10_back_86 : decode cX10_back 86 = .ok (.putfield 177, 3) := by decide +kernel
theorem dX10_back_89 : decode cX10_back 89 = .ok (.aload_n 0, 1) := by decide +kernel
theorem dX10_back_90 : decode cX10_back 90 = .ok (.aload_n 0, 1) := by decide +kernel
theorem dX10_back_91 : decode cX10_back 91 = .ok (.getfield 51, 3) := by decide +kernel
theorem dX10_back_94 : decode cX10_back 94 = .ok (.sipush 429, 3) := by decide +kernel
theorem dX10_back_97 : decode cX10_back 97 = .ok (.iaload, 1) := by decide +kernel
theorem dX10_back_98 : decode cX10_back 98 = .ok (.putfield 135, 3) := by decide +kernel
theorem dX10_back_101 : decode cX10_back 101 = .ok (.aload_n 0, 1) := by decide +kernel
theorem dX10_back_102 : decode cX10_back 102 = .ok (.aload_n 0, 1) := by decide +kernel
theorem dX10_back_103 : decode cX10_back 103 = .ok (.getfield 51, 3) := by decide +kernel
theorem dX10_back_106 : decode cX10_back 106 = .ok (.sipush 430, 3) := by decide +kernel
theorem dX10_back_109 : decode cX10_back 109 = .ok (.iaload, 1) := by decide +kernel
theorem dX10_back_110 : decode cX10_back 110 = .ok (.putfield 145, 3) := by decide +kernel
theorem dX10_back_113 : decode cX10_back 113 = .ok (.aload_n 0, 1) := by decide +kernel
theorem dX10_back_114 : decode cX10_back 114 = .ok (.aload_n 0, 1) := by decide +kernel
theorem dX10_back_115 : decode cX10_back 115 = .ok (.getfield 51, 3) := by decide +kernel
theorem dX10_back_118 : decode cX10_back 118 = .ok (.sipush 431, 3) := by decide +kernel
theorem dX10_back_121 : decode cX10_back 121 = .ok (.iaload, 1) := by decide +kernel
theorem dX10_back_122 : decode cX10_back 122 = .ok (.putfield 132, 3) := by decide +kernel
theorem dX10_back_125 : decode cX10_back 125 = .ok (.return_, 1) := by decide +kernel
set_option maxRecDepth 20000 in
theorem ggX10_wouldOf_X10_save : GoodIn wsX10_wouldOf wsX10_save := goodIn_r _ [6, 7, 8, 9, 10, 1, 11, 12, 13, 14, 15, 82, 83, 84, 85, 86, 87, 88, 89, 90, 91, 92, 93, 94, 95, 96, 97, 98, 99, 100, 101, 102, 103, 104, 105, 106, 107, 108, 109, 110, 111, 112, 113, 114, 115, 116] (by decide +kernel) (by decide +kernel)
set_option maxRecDepth 20000 in
theorem gX10_wouldOf_X10_save : GoodIn wsX10_wouldOf (wsV RX10 202 RX10 yX10_save wsX10_save) := goodIn_app (goodIn_of _ (by decide +kernel)) ggX10_wouldOf_X10_save
set_option maxRecDepth 20000 in
theorem ggX10_wouldOf_X10_goWeek : GoodIn wsX10_wouldOf wsX10_goWeek := goodIn_r _ [19, 11, 20, 21, 22, 23, 24, 1, 25, 26, 27, 5, 28, 29, 7, 30, 31, 32, 33, 34, 35, 36, 37, 38, 12, 39, 40, 41, 42, 43, 44, 45, 46, 47, 48, 49, 50, 51, 52, 53, 54, 55, 56, 57, 58, 59, 60, 13, 61, 62, 63, 64, 15, 10, 65, 66, 67, 68, 69, 70, 71, 72, 73, 74, 75, 76, 77, 14, 82, 83, 84, 85, 86, 87, 88, 89, 90, 91, 92, 93, 94, 95, 96, 97, 98, 99, 100, 101, 102, 103, 104, 105, 106, 107, 108, 109, 110, 111, 112, 113, 114, 115, 116] (by decide +kernel) (by decide +kernel)
set_option maxRecDepth 20000 in
theorem gX10_wouldOf_X10_goWeek : GoodIn wsX10_wouldOf (wsV RX10 192 RX10 yX10_goWeek wsX10_goWeek) := goodIn_app (goodIn_of _ (by decide +kernel)) ggX10_wouldOf_X10_goWeek
set_option maxRecDepth 20000 in
theorem ggX10_wouldOf_X10_back : GoodIn wsX10_wouldOf wsX10_back := goodIn_r _ [81, 8, 7, 10, 9, 1, 11, 12, 13, 14, 15, 82, 83, 84, 85, 86, 87, 88, 89, 90, 91, 92, 93, 94, 95, 96, 97, 98, 99, 100, 101, 102, 103, 104, 105, 106, 107, 108, 109, 110, 111, 112, 113, 114, 115, 116] (by decide +kernel) (by decide +kernel)
set_option maxRecDepth 20000 in
theorem gX10_wouldOf_X10_back : GoodIn wsX10_wouldOf (wsV RX10 205 RX10 yX10_back wsX10_back) := goodIn_app (goodIn_of _ (by decide +kernel)) ggX10_wouldOf_X10_back
theorem dX10_wouldOf_0 : decode cX10_wouldOf 0 = .ok (.aload_n 0, 1) := by decide +kernel
theorem dX10_wouldOf_1 : decode cX10_wouldOf 1 = .ok (.invokevirtual 202, 3) := by decide +kernel
theorem dX10_wouldOf_4 : decode cX10_wouldOf 4 = .ok (.iconst 0, 1) := by decide +kernel
theorem dX10_wouldOf_5 : decode cX10_wouldOf 5 = .ok (.istore 4, 2) := by decide +kernel
theorem dX10_wouldOf_7 : decode cX10_wouldOf 7 = .ok (.iload 4, 2) := by decide +kernel
theorem dX10_wouldOf_9 : decode cX10_wouldOf 9 = .ok (.iload_n 3, 1) := by decide +kernel
theorem dX10_wouldOf_10 : decode cX10_wouldOf 10 = .ok (.if_icmp .ge 14, 3) := by decide +kernel
theorem dX10_wouldOf_13 : decode cX10_wouldOf 13 = .ok (.aload_n 0, 1) := by decide +kernel
theorem dX10_wouldOf_14 : decode cX10_wouldOf 14 = .ok (.iload_n 1, 1) := by decide +kernel
theorem dX10_wouldOf_15 : decode cX10_wouldOf 15 = .ok (.invokevirtual 192, 3) := by decide +kernel
theorem dX10_wouldOf_18 : decode cX10_wouldOf 18 = .ok (.iinc 4 1, 3) := by decide +kernel
theorem dX10_wouldOf_21 : decode cX10_wouldOf 21 = .ok (.goto (-14), 3) := by decide +kernel
theorem dX10_wouldOf_24 : decode cX10_wouldOf 24 = .ok (.aload_n 0, 1) := by decide +kernel
theorem dX10_wouldOf_25 : decode cX10_wouldOf 25 = .ok (.getfield 13, 3) := by decide +kernel
theorem dX10_wouldOf_28 : decode cX10_wouldOf 28 = .ok (.iload_n 2, 1) := by decide +kernel
theorem dX10_wouldOf_29 : decode cX10_wouldOf 29 = .ok (.iaload, 1) := by decide +kernel
theorem dX10_wouldOf_30 : decode cX10_wouldOf 30 = .ok (.istore 4, 2) := by decide +kernel
theorem dX10_wouldOf_32 : decode cX10_wouldOf 32 = .ok (.aload_n 0, 1) := by decide +kernel
theorem dX10_wouldOf_33 : decode cX10_wouldOf 33 = .ok (.invokevirtual 205, 3) := by decide +kernel
theorem dX10_wouldOf_36 : decode cX10_wouldOf 36 = .ok (.iload 4, 2) := by decide +kernel
theorem dX10_wouldOf_38 : decode cX10_wouldOf 38 = .ok (.ireturn, 1) := by decide +kernel
set_option maxRecDepth 20000 in
theorem ggX10_would_X10_isCustom : GoodIn wsX10_would wsX10_isCustom := goodIn_r _ [5, 6, 7, 8, 4, 9, 97, 98, 99, 100, 101, 102, 103, 104, 105, 106, 107, 108, 109, 110, 111, 112, 113, 114, 115, 116, 117, 118, 119, 120, 121, 122, 123, 124, 125, 126, 127, 128, 129, 130, 131] (by decide +kernel) (by decide +kernel)
set_option maxRecDepth 20000 in
theorem gX10_would_X10_isCustom : GoodIn wsX10_would (wsV RX10 106 RX10 yX10_isCustom wsX10_isCustom) := goodIn_app (goodIn_of _ (by decide +kernel)) ggX10_would_X10_isCustom
set_option maxRecDepth 20000 in
theorem ggX10_would_X10_isCairn : GoodIn wsX10_would wsX10_isCairn := goodIn_r _ [12, 7, 8, 4, 9] (by decide +kernel) (by decide +kernel)
set_option maxRecDepth 20000 in
theorem gX10_would_X10_isCairn : GoodIn wsX10_would (va_wsS RX10 148 yX10_isCairn wsX10_isCairn) := goodIn_app (goodIn_of _ (by decide +kernel)) ggX10_would_X10_isCairn
set_option maxRecDepth 20000 in
theorem ggX10_would_X10_within : GoodIn wsX10_would wsX10_within := goodIn_r _ [9] (by decide +kernel) (by decide +kernel)
set_option maxRecDepth 20000 in
theorem gX10_would_X10_within : GoodIn wsX10_would (va_wsS RX10 72 yX10_within wsX10_within) := goodIn_app (goodIn_of _ (by decide +kernel)) ggX10_would_X10_within
set_option maxRecDepth 20000 in
theorem ggX10_would_X10_wouldOf : GoodIn wsX10_would wsX10_wouldOf := goodIn_r _ [16, 17, 18, 19, 20, 4, 21, 22, 23, 24, 25, 26, 27, 28, 29, 30, 31, 32, 33, 34, 35, 36, 37, 38, 39, 40, 41, 42, 43, 44, 45, 46, 47, 48, 49, 50, 51, 52, 53, 54, 55, 56, 57, 58, 59, 60, 61, 62, 63, 64, 65, 66, 67, 68, 69, 70, 71, 72, 73, 74, 75, 76, 77, 78, 79, 80, 81, 82, 83, 84, 85, 86, 87, 88, 89, 90, 91, 92, 93, 94, 95, 96, 97, 98, 99, 100, 101, 102, 103, 104, 105, 106, 107, 108, 109, 110, 111, 112, 113, 114, 115, 116, 117, 118, 119, 120, 121, 122, 123, 124, 125, 126, 127, 128, 129, 130, 131] (by decide +kernel) (by decide +kernel)
set_option maxRecDepth 20000 in
theorem gX10_would_X10_wouldOf : GoodIn wsX10_would (wsV RX10 208 RX10 yX10_wouldOf wsX10_wouldOf) := goodIn_app (goodIn_of _ (by decide +kernel)) ggX10_would_X10_wouldOf
theorem dX10_would_0 : decode cX10_would 0 = .ok (.aload_n 0, 1) := by decide +kernel
theorem dX10_would_1 : decode cX10_would 1 = .ok (.iload_n 1, 1) := by decide +kernel
theorem dX10_would_2 : decode cX10_would 2 = .ok (.invokevirtual 106, 3) := by decide +kernel
theorem dX10_would_5 : decode cX10_would 5 = .ok (.ifCond .eq 10, 3) := by decide +kernel
theorem dX10_would_8 : decode cX10_would 8 = .ok (.iload_n 2, 1) := by decide +kernel
theorem dX10_would_9 : decode cX10_would 9 = .ok (.invokestatic 148, 3) := by decide +kernel
theorem dX10_would_12 : decode cX10_would 12 = .ok (.ifCond .ne 6, 3) := by decide +kernel
theorem dX10_would_15 : decode cX10_would 15 = .ok (.bipush (-101), 2) := by decide +kernel
theorem dX10_would_17 : decode cX10_would 17 = .ok (.ireturn, 1) := by decide +kernel
theorem dX10_would_18 : decode cX10_would 18 = .ok (.iload_n 3, 1) := by decide +kernel
theorem dX10_would_19 : decode cX10_would 19 = .ok (.iconst 0, 1) := by decide +kernel
theorem dX10_would_20 : decode cX10_would 20 = .ok (.bipush 60, 2) := by decide +kernel
theorem dX10_would_22 : decode cX10_would 22 = .ok (.invokestatic 72, 3) := by decide +kernel
theorem dX10_would_25 : decode cX10_would 25 = .ok (.ifCond .eq 13, 3) := by decide +kernel
theorem dX10_would_28 : decode cX10_would 28 = .ok (.aload_n 0, 1) := by decide +kernel
theorem dX10_would_29 : decode cX10_would 29 = .ok (.iload_n 1, 1) := by decide +kernel
theorem dX10_would_30 : decode cX10_would 30 = .ok (.iload_n 2, 1) := by decide +kernel
theorem dX10_would_31 : decode cX10_would 31 = .ok (.iload_n 3, 1) := by decide +kernel
theorem dX10_would_32 : decode cX10_would 32 = .ok (.invokevirtual 208, 3) := by decide +kernel
theorem dX10_would_35 : decode cX10_would 35 = .ok (.goto 5, 3) := by decide +kernel
theorem dX10_would_38 : decode cX10_would 38 = .ok (.bipush (-102), 2) := by decide +kernel
theorem dX10_would_40 : decode cX10_would 40 = .ok (.ireturn, 1) := by decide +kernel
set_option maxRecDepth 20000 in
theorem ggX10_order_X10_isCairn : GoodIn wsX10_order wsX10_isCairn := goodIn_r _ [5, 6, 7, 4, 8] (by decide +kernel) (by decide +kernel)
set_option maxRecDepth 20000 in
theorem gX10_order_X10_isCairn : GoodIn wsX10_order (va_wsS RX10 148 yX10_isCairn wsX10_isCairn) := goodIn_app (goodIn_of _ (by decide +kernel)) ggX10_order_X10_isCairn
theorem dX10_order_0 : decode cX10_order 0 = .ok (.iload_n 1, 1) := by decide +kernel
theorem dX10_order_1 : decode cX10_order 1 = .ok (.invokestatic 148, 3) := by decide +kernel
theorem dX10_order_4 : decode cX10_order 4 = .ok (.ifCond .ne 6, 3) := by decide +kernel
theorem dX10_order_7 : decode cX10_order 7 = .ok (.bipush (-102), 2) := by decide +kernel
theorem dX10_order_9 : decode cX10_order 9 = .ok (.ireturn, 1) := by decide +kernel
theorem dX10_order_10 : decode cX10_order 10 = .ok (.iconst 0, 1) := by decide +kernel
theorem dX10_order_11 : decode cX10_order 11 = .ok (.istore_n 2, 1) := by decide +kernel
theorem dX10_order_12 : decode cX10_order 12 = .ok (.iload_n 2, 1) := by decide +kernel
theorem dX10_order_13 : decode cX10_order 13 = .ok (.bipush 7, 2) := by decide +kernel
theorem dX10_order_15 : decode cX10_order 15 = .ok (.if_icmp .ge 80, 3) := by decide +kernel
theorem dX10_order_18 : decode cX10_order 18 = .ok (.iconst 0, 1) := by decide +kernel
theorem dX10_order_19 : decode cX10_order 19 = .ok (.istore_n 3, 1) := by decide +kernel
theorem dX10_order_20 : decode cX10_order 20 = .ok (.iconst 0, 1) := by decide +kernel
theorem dX10_order_21 : decode cX10_order 21 = .ok (.istore 4, 2) := by decide +kernel
theorem dX10_order_23 : decode cX10_order 23 = .ok (.iload 4, 2) := by decide +kernel
theorem dX10_order_25 : decode cX10_order 25 = .ok (.bipush 7, 2) := by decide +kernel
theorem dX10_order_27 : decode cX10_order 27 = .ok (.if_icmp .ge 55, 3) := by decide +kernel
theorem dX10_order_30 : decode cX10_order 30 = .ok (.iload_n 3, 1) := by decide +kernel
theorem dX10_order_31 : decode cX10_order 31 = .ok (.aload_n 0, 1) := by decide +kernel
theorem dX10_order_32 : decode cX10_order 32 = .ok (.getfield 13, 3) := by decide +kernel
theorem dX10_order_35 : decode cX10_order 35 = .ok (.iload 4, 2) := by decide +kernel
theorem dX10_order_37 : decode cX10_order 37 = .ok (.iaload, 1) := by decide +kernel
theorem dX10_order_38 : decode cX10_order 38 = .ok (.aload_n 0, 1) := by decide +kernel
theorem dX10_order_39 : decode cX10_order 39 = .ok (.getfield 13, 3) := by decide +kernel
theorem dX10_order_42 : decode cX10_order 42 = .ok (.iload_n 2, 1) := by decide +kernel
theorem dX10_order_43 : decode cX10_order 43 = .ok (.iaload, 1) := by decide +kernel
theorem dX10_order_44 : decode cX10_order 44 = .ok (.if_icmp .gt 25, 3) := by decide +kernel
theorem dX10_order_47 : decode cX10_order 47 = .ok (.aload_n 0, 1) := by decide +kernel
theorem dX10_order_48 : decode cX10_order 48 = .ok (.getfield 13, 3) := by decide +kernel
theorem dX10_order_51 : decode cX10_order 51 = .ok (.iload 4, 2) := by decide +kernel
theorem dX10_order_53 : decode cX10_order 53 = .ok (.iaload, 1) := by decide +kernel
theorem dX10_order_54 : decode cX10_order 54 = .ok (.aload_n 0, 1) := by decide +kernel
theorem dX10_order_55 : decode cX10_order 55 = .ok (.getfield 13, 3) := by decide +kernel
theorem dX10_order_58 : decode cX10_order 58 = .ok (.iload_n 2, 1) := by decide +kernel
theorem dX10_order_59 : decode cX10_order 59 = .ok (.iaload, 1) := by decide +kernel
theorem dX10_order_60 : decode cX10_order 60 = .ok (.if_icmp .ne 13, 3) := by decide +kernel
theorem dX10_order_63 : decode cX10_order 63 = .ok (.iload 4, 2) := by decide +kernel
theorem dX10_order_65 : decode cX10_order 65 = .ok (.iload_n 2, 1) := by decide +kernel
theorem dX10_order_66 : decode cX10_order 66 = .ok (.if_icmp .ge 7, 3) := by decide +kernel
theorem dX10_order_69 : decode cX10_order 69 = .ok (.iconst 1, 1) := by decide +kernel
theorem dX10_order_70 : decode cX10_order 70 = .ok (.goto 4, 3) := by decide +kernel
theorem dX10_order_73 : decode cX10_order 73 = .ok (.iconst 0, 1) := by decide +kernel
theorem dX10_order_74 : decode cX10_order 74 = .ok (.iadd, 1) := by decide +kernel
theorem dX10_order_75 : decode cX10_order 75 = .ok (.istore_n 3, 1) := by decide +kernel
theorem dX10_order_76 : decode cX10_order 76 = .ok (.iinc 4 1, 3) := by decide +kernel
theorem dX10_order_79 : decode cX10_order 79 = .ok (.goto (-56), 3) := by decide +kernel
theorem dX10_order_82 : decode cX10_order 82 = .ok (.iload_n 3, 1) := by decide +kernel
theorem dX10_order_83 : decode cX10_order 83 = .ok (.iload_n 1, 1) := by decide +kernel
theorem dX10_order_84 : decode cX10_order 84 = .ok (.if_icmp .ne 5, 3) := by decide +kernel
theorem dX10_order_87 : decode cX10_order 87 = .ok (.iload_n 2, 1) := by decide +kernel
theorem dX10_order_88 : decode cX10_order 88 = .ok (.ireturn, 1) := by decide +kernel
theorem dX10_order_89 : decode cX10_order 89 = .ok (.iinc 2 1, 3) := by decide +kernel
theorem dX10_order_92 : decode cX10_order 92 = .ok (.goto (-80), 3) := by decide +kernel
theorem dX10_order_95 : decode cX10_order 95 = .ok (.iconst (-1), 1) := by decide +kernel
theorem dX10_order_96 : decode cX10_order 96 = .ok (.ireturn, 1) := by decide +kernel
theorem dX10_lowest_0 : decode cX10_lowest 0 = .ok (.lload_n 0, 1) := by decide +kernel
theorem dX10_lowest_1 : decode cX10_lowest 1 = .ok (.lstore 5, 2) := by decide +kernel
theorem dX10_lowest_3 : decode cX10_lowest 3 = .ok (.lload_n 2, 1) := by decide +kernel
theorem dX10_lowest_4 : decode cX10_lowest 4 = .ok (.lstore 7, 2) := by decide +kernel
theorem dX10_lowest_6 : decode cX10_lowest 6 = .ok (.lload 7, 2) := by decide +kernel
theorem dX10_lowest_8 : decode cX10_lowest 8 = .ok (.lconst 0, 1) := by decide +kernel
theorem dX10_lowest_9 : decode cX10_lowest 9 = .ok (.lcmp, 1) := by decide +kernel
theorem dX10_lowest_10 : decode cX10_lowest 10 = .ok (.ifCond .eq 21, 3) := by decide +kernel
theorem dX10_lowest_13 : decode cX10_lowest 13 = .ok (.lload 5, 2) := by decide +kernel
theorem dX10_lowest_15 : decode cX10_lowest 15 = .ok (.lload 7, 2) := by decide +kernel
theorem dX10_lowest_17 : decode cX10_lowest 17 = .ok (.lrem, 1) := by decide +kernel
theorem dX10_lowest_18 : decode cX10_lowest 18 = .ok (.lstore 9, 2) := by decide +kernel
theorem dX10_lowest_20 : decode cX10_lowest 20 = .ok (.lload 7, 2) := by decide +kernel
theorem dX10_lowest_22 : decode cX10_lowest 22 = .ok (.lstore 5, 2) := by decide +kernel
theorem dX10_lowest_24 : decode cX10_lowest 24 = .ok (.lload 9, 2) := by decide +kernel
theorem dX10_lowest_26 : decode cX10_lowest 26 = .ok (.lstore 7, 2) := by decide +kernel
theorem dX10_lowest_28 : decode cX10_lowest 28 = .ok (.goto (-22), 3) := by decide +kernel
theorem dX10_lowest_31 : decode cX10_lowest 31 = .ok (.iload 4, 2) := by decide +kernel
theorem dX10_lowest_33 : decode cX10_lowest 33 = .ok (.ifCond .ne 10, 3) := by decide +kernel
theorem dX10_lowest_36 : decode cX10_lowest 36 = .ok (.lload_n 0, 1) := by decide +kernel
theorem dX10_lowest_37 : decode cX10_lowest 37 = .ok (.lload 5, 2) := by decide +kernel
theorem dX10_lowest_39 : decode cX10_lowest 39 = .ok (.ldiv, 1) := by decide +kernel
theorem dX10_lowest_40 : decode cX10_lowest 40 = .ok (.goto 7, 3) := by decide +kernel
theorem dX10_lowest_43 : decode cX10_lowest 43 = .ok (.lload_n 2, 1) := by decide +kernel
theorem dX10_lowest_44 : decode cX10_lowest 44 = .ok (.lload 5, 2) := by decide +kernel
theorem dX10_lowest_46 : decode cX10_lowest 46 = .ok (.ldiv, 1) := by decide +kernel
theorem dX10_lowest_47 : decode cX10_lowest 47 = .ok (.lreturn, 1) := by decide +kernel
theorem dX10_choose_0 : decode cX10_choose 0 = .ok (.lconst 1, 1) := by decide +kernel
theorem dX10_choose_1 : decode cX10_choose 1 = .ok (.lstore_n 2, 1) := by decide +kernel
theorem dX10_choose_2 : decode cX10_choose 2 = .ok (.iconst 0, 1) := by decide +kernel
theorem dX10_choose_3 : decode cX10_choose 3 = .ok (.istore 4, 2) := by decide +kernel
theorem dX10_choose_5 : decode cX10_choose 5 = .ok (.iload 4, 2) := by decide +kernel
theorem dX10_choose_7 : decode cX10_choose 7 = .ok (.iload_n 1, 1) := by decide +kernel
theorem dX10_choose_8 : decode cX10_choose 8 = .ok (.if_icmp .ge 23, 3) := by decide +kernel
theorem dX10_choose_11 : decode cX10_choose 11 = .ok (.lload_n 2, 1) := by decide +kernel
theorem dX10_choose_12 : decode cX10_choose 12 = .ok (.iload_n 0, 1) := by decide +kernel
theorem dX10_choose_13 : decode cX10_choose 13 = .ok (.iload 4, 2) := by decide +kernel
theorem dX10_choose_15 : decode cX10_choose 15 = .ok (.isub, 1) := by decide +kernel
theorem dX10_choose_16 : decode cX10_choose 16 = .ok (.i2l, 1) := by decide +kernel
theorem dX10_choose_17 : decode cX10_choose 17 = .ok (.lmul, 1) := by decide +kernel
theorem dX10_choose_18 : decode cX10_choose 18 = .ok (.iload 4, 2) := by decide +kernel
theorem dX10_choose_20 : decode cX10_choose 20 = .ok (.iconst 1, 1) := by decide +kernel
theorem dX10_choose_21 : decode cX10_choose 21 = .ok (.iadd, 1) := by decide +kernel
theorem dX10_choose_22 : decode cX10_choose 22 = .ok (.i2l, 1) := by decide +kernel
theorem dX10_choose_23 : decode cX10_choose 23 = .ok (.ldiv, 1) := by decide +kernel
theorem dX10_choose_24 : decode cX10_choose 24 = .ok (.lstore_n 2, 1) := by decide +kernel
theorem dX10_choose_25 : decode cX10_choose 25 = .ok (.iinc 4 1, 3) := by decide +kernel
theorem dX10_choose_28 : decode cX10_choose 28 = .ok (.goto (-23), 3) := by decide +kernel
theorem dX10_choose_31 : decode cX10_choose 31 = .ok (.lload_n 2, 1) := by decide +kernel
theorem dX10_choose_32 : decode cX10_choose 32 = .ok (.lreturn, 1) := by decide +kernel
theorem dX10_power_0 : decode cX10_power 0 = .ok (.lconst 1, 1) := by decide +kernel
theorem dX10_power_1 : decode cX10_power 1 = .ok (.lstore_n 3, 1) := by decide +kernel
theorem dX10_power_2 : decode cX10_power 2 = .ok (.iconst 0, 1) := by decide +kernel
theorem dX10_power_3 : decode cX10_power 3 = .ok (.istore 5, 2) := by decide +kernel
theorem dX10_power_5 : decode cX10_power 5 = .ok (.iload 5, 2) := by decide +kernel
theorem dX10_power_7 : decode cX10_power 7 = .ok (.iload_n 2, 1) := by decide +kernel
theorem dX10_power_8 : decode cX10_power 8 = .ok (.if_icmp .ge 13, 3) := by decide +kernel
theorem dX10_power_11 : decode cX10_power 11 = .ok (.lload_n 3, 1) := by decide +kernel
theorem dX10_power_12 : decode cX10_power 12 = .ok (.lload_n 0, 1) := by decide +kernel
theorem dX10_power_13 : decode cX10_power 13 = .ok (.lmul, 1) := by decide +kernel
theorem dX10_power_14 : decode cX10_power 14 = .ok (.lstore_n 3, 1) := by decide +kernel
theorem dX10_power_15 : decode cX10_power 15 = .ok (.iinc 5 1, 3) := by decide +kernel
theorem dX10_power_18 : decode cX10_power 18 = .ok (.goto (-13), 3) := by decide +kernel
theorem dX10_power_21 : decode cX10_power 21 = .ok (.lload_n 3, 1) := by decide +kernel
theorem dX10_power_22 : decode cX10_power 22 = .ok (.lreturn, 1) := by decide +kernel
set_option maxRecDepth 20000 in
theorem ggX10_oddsOf_X10_power : GoodIn wsX10_oddsOf wsX10_power := goodIn_r _ [8] (by decide +kernel) (by decide +kernel)
set_option maxRecDepth 20000 in
theorem gX10_oddsOf_X10_power : GoodIn wsX10_oddsOf (va_wsS RX10 212 yX10_power wsX10_power) := goodIn_app (goodIn_of _ (by decide +kernel)) ggX10_oddsOf_X10_power
set_option maxRecDepth 20000 in
theorem ggX10_oddsOf_X10_choose : GoodIn wsX10_oddsOf wsX10_choose := goodIn_r _ [11] (by decide +kernel) (by decide +kernel)
set_option maxRecDepth 20000 in
theorem gX10_oddsOf_X10_choose : GoodIn wsX10_oddsOf (va_wsS RX10 216 yX10_choose wsX10_choose) := goodIn_app (goodIn_of _ (by decide +kernel)) ggX10_oddsOf_X10_choose
theorem dX10_oddsOf_0 : decode cX10_oddsOf 0 = .ok (.aload_n 0, 1) := by decide +kernel
theorem dX10_oddsOf_1 : decode cX10_oddsOf 1 = .ok (.getfield 26, 3) := by decide +kernel
theorem dX10_oddsOf_4 : decode cX10_oddsOf 4 = .ok (.iload_n 1, 1) := by decide +kernel
theorem dX10_oddsOf_5 : decode cX10_oddsOf 5 = .ok (.iaload, 1) := by decide +kernel
theorem dX10_oddsOf_6 : decode cX10_oddsOf 6 = .ok (.istore 4, 2) := by decide +kernel
theorem dX10_oddsOf_8 : decode cX10_oddsOf 8 = .ok (.iload 4, 2) := by decide +kernel
theorem dX10_oddsOf_10 : decode cX10_oddsOf 10 = .ok (.iload_n 2, 1) := by decide +kernel
theorem dX10_oddsOf_11 : decode cX10_oddsOf 11 = .ok (.isub, 1) := by decide +kernel
theorem dX10_oddsOf_12 : decode cX10_oddsOf 12 = .ok (.iload_n 3, 1) := by decide +kernel
theorem dX10_oddsOf_13 : decode cX10_oddsOf 13 = .ok (.isub, 1) := by decide +kernel
theorem dX10_oddsOf_14 : decode cX10_oddsOf 14 = .ok (.istore 5, 2) := by decide +kernel
theorem dX10_oddsOf_16 : decode cX10_oddsOf 16 = .ok (.iload 5, 2) := by decide +kernel
theorem dX10_oddsOf_18 : decode cX10_oddsOf 18 = .ok (.ifCond .ge 5, 3) := by decide +kernel
theorem dX10_oddsOf_21 : decode cX10_oddsOf 21 = .ok (.lconst 0, 1) := by decide +kernel
theorem dX10_oddsOf_22 : decode cX10_oddsOf 22 = .ok (.lreturn, 1) := by decide +kernel
theorem dX10_oddsOf_23 : decode cX10_oddsOf 23 = .ok (.ldc2_w 168, 3) := by decide +kernel
theorem dX10_oddsOf_26 : decode cX10_oddsOf 26 = .ok (.aload_n 0, 1) := by decide +kernel
theorem dX10_oddsOf_27 : decode cX10_oddsOf 27 = .ok (.getfield 29, 3) := by decide +kernel
theorem dX10_oddsOf_30 : decode cX10_oddsOf 30 = .ok (.iload_n 1, 1) := by decide +kernel
theorem dX10_oddsOf_31 : decode cX10_oddsOf 31 = .ok (.iaload, 1) := by decide +kernel
theorem dX10_oddsOf_32 : decode cX10_oddsOf 32 = .ok (.i2l, 1) := by decide +kernel
theorem dX10_oddsOf_33 : decode cX10_oddsOf 33 = .ok (.lmul, 1) := by decide +kernel
theorem dX10_oddsOf_34 : decode cX10_oddsOf 34 = .ok (.iload_n 2, 1) := by decide +kernel
theorem dX10_oddsOf_35 : decode cX10_oddsOf 35 = .ok (.invokestatic 212, 3) := by decide +kernel
theorem dX10_oddsOf_38 : decode cX10_oddsOf 38 = .ok (.lstore 6, 2) := by decide +kernel
theorem dX10_oddsOf_40 : decode cX10_oddsOf 40 = .ok (.ldc2_w 168, 3) := by decide +kernel
theorem dX10_oddsOf_43 : decode cX10_oddsOf 43 = .ok (.aload_n 0, 1) := by decide +kernel
theorem dX10_oddsOf_44 : decode cX10_oddsOf 44 = .ok (.getfield 29, 3) := by decide +kernel
theorem dX10_oddsOf_47 : decode cX10_oddsOf 47 = .ok (.iload_n 1, 1) := by decide +kernel
theorem dX10_oddsOf_48 : decode cX10_oddsOf 48 = .ok (.iaload, 1) := by decide +kernel
theorem dX10_oddsOf_49 : decode cX10_oddsOf 49 = .ok (.i2l, 1) := by decide +kernel
theorem dX10_oddsOf_50 : decode cX10_oddsOf 50 = .ok (.lsub, 1) := by decide +kernel
theorem dX10_oddsOf_51 : decode cX10_oddsOf 51 = .ok (.aload_n 0, 1) := by decide +kernel
theorem dX10_oddsOf_52 : decode cX10_oddsOf 52 = .ok (.getfield 32, 3) := by decide +kernel
theorem dX10_oddsOf_55 : decode cX10_oddsOf 55 = .ok (.iload_n 1, 1) := by decide +kernel
theorem dX10_oddsOf_56 : decode cX10_oddsOf 56 = .ok (.iaload, 1) := by decide +kernel
theorem dX10_oddsOf_57 : decode cX10_oddsOf 57 = .ok (.i2l, 1) := by decide +kernel
theorem dX10_oddsOf_58 : decode cX10_oddsOf 58 = .ok (.lmul, 1) := by decide +kernel
