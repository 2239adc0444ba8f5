theorem dX10_saves_8 : decode cX10_saves 8 = .ok (.invokevirtual 151, 3) := by decide +kernel
theorem dX10_saves_11 : decode cX10_saves 11 = .ok (.iconst 1, 1) := by decide +kernel
theorem dX10_saves_12 : decode cX10_saves 12 = .ok (.istore 5, 2) := by decide +kernel
theorem dX10_saves_14 : decode cX10_saves 14 = .ok (.iconst 0, 1) := by decide +kernel
theorem dX10_saves_15 : decode cX10_saves 15 = .ok (.istore 6, 2) := by decide +kernel
theorem dX10_saves_17 : decode cX10_saves 17 = .ok (.iload 6, 2) := by decide +kernel
theorem dX10_saves_19 : decode cX10_saves 19 = .ok (.iload_n 3, 1) := by decide +kernel
theorem dX10_saves_20 : decode cX10_saves 20 = .ok (.if_icmp .ge 35, 3) := by decide +kernel
theorem dX10_saves_23 : decode cX10_saves 23 = .ok (.iload 5, 2) := by decide +kernel
theorem dX10_saves_25 : decode cX10_saves 25 = .ok (.ifCond .eq 30, 3) := by decide +kernel
theorem dX10_saves_28 : decode cX10_saves 28 = .ok (.aload_n 0, 1) := by decide +kernel
theorem dX10_saves_29 : decode cX10_saves 29 = .ok (.iload_n 1, 1) := by decide +kernel
theorem dX10_saves_30 : decode cX10_saves 30 = .ok (.invokevirtual 192, 3) := by decide +kernel
theorem dX10_saves_33 : decode cX10_saves 33 = .ok (.aload_n 0, 1) := by decide +kernel
theorem dX10_saves_34 : decode cX10_saves 34 = .ok (.getfield 13, 3) := by decide +kernel
theorem dX10_saves_37 : decode cX10_saves 37 = .ok (.iload_n 2, 1) := by decide +kernel
theorem dX10_saves_38 : decode cX10_saves 38 = .ok (.iaload, 1) := by decide +kernel
theorem dX10_saves_39 : decode cX10_saves 39 = .ok (.ifCond .le 7, 3) := by decide +kernel
theorem dX10_saves_42 : decode cX10_saves 42 = .ok (.iconst 1, 1) := by decide +kernel
theorem dX10_saves_43 : decode cX10_saves 43 = .ok (.goto 4, 3) := by decide +kernel
theorem dX10_saves_46 : decode cX10_saves 46 = .ok (.iconst 0, 1) := by decide +kernel
theorem dX10_saves_47 : decode cX10_saves 47 = .ok (.istore 5, 2) := by decide +kernel
theorem dX10_saves_49 : decode cX10_saves 49 = .ok (.iinc 6 1, 3) := by decide +kernel
theorem dX10_saves_52 : decode cX10_saves 52 = .ok (.goto (-35), 3) := by decide +kernel
theorem dX10_saves_55 : decode cX10_saves 55 = .ok (.aload_n 0, 1) := by decide +kernel
theorem dX10_saves_56 : decode cX10_saves 56 = .ok (.invokevirtual 205, 3) := by decide +kernel
theorem dX10_saves_59 : decode cX10_saves 59 = .ok (.iload 5, 2) := by decide +kernel
theorem dX10_saves_61 : decode cX10_saves 61 = .ok (.ireturn, 1) := by decide +kernel
set_option maxRecDepth 20000 in
theorem ggX10_saved_X10_isCustom : GoodIn wsX10_saved wsX10_isCustom := goodIn_r _ [5, 6, 7, 8, 4, 9, 97, 98, 99, 100, 101, 102, 103, 104, 105, 106, 107, 108, 109, 110, 111, 112, 113, 114, 115, 116, 117, 118, 119, 120, 121, 122, 123, 124, 125, 126, 127, 128, 129, 130, 131] (by decide +kernel) (by decide +kernel)
set_option maxRecDepth 20000 in
theorem gX10_saved_X10_isCustom : GoodIn wsX10_saved (wsV RX10 106 RX10 yX10_isCustom wsX10_isCustom) := goodIn_app (goodIn_of _ (by decide +kernel)) ggX10_saved_X10_isCustom
set_option maxRecDepth 20000 in
theorem ggX10_saved_X10_isCairn : GoodIn wsX10_saved wsX10_isCairn := goodIn_r _ [12, 7, 8, 4, 9] (by decide +kernel) (by decide +kernel)
set_option maxRecDepth 20000 in
theorem gX10_saved_X10_isCairn : GoodIn wsX10_saved (va_wsS RX10 148 yX10_isCairn wsX10_isCairn) := goodIn_app (goodIn_of _ (by decide +kernel)) ggX10_saved_X10_isCairn
set_option maxRecDepth 20000 in
theorem ggX10_saved_X10_within : GoodIn wsX10_saved wsX10_within := goodIn_r _ [9] (by decide +kernel) (by decide +kernel)
set_option maxRecDepth 20000 in
theorem gX10_saved_X10_within : GoodIn wsX10_saved (va_wsS RX10 72 yX10_within wsX10_within) := goodIn_app (goodIn_of _ (by decide +kernel)) ggX10_saved_X10_within
set_option maxRecDepth 20000 in
theorem ggX10_saved_X10_saves : GoodIn wsX10_saved wsX10_saves := goodIn_r _ [16, 17, 18, 19, 20, 4, 21, 22, 23, 24, 25, 26, 27, 28, 29, 30, 31, 32, 33, 34, 35, 36, 37, 38, 39, 40, 41, 42, 43, 44, 45, 46, 47, 48, 49, 50, 51, 52, 53, 54, 55, 56, 57, 58, 59, 60, 61, 62, 63, 64, 65, 66, 67, 68, 69, 70, 71, 72, 73, 74, 75, 76, 77, 78, 79, 80, 81, 82, 83, 84, 85, 86, 87, 88, 89, 90, 91, 92, 93, 94, 95, 96, 97, 98, 99, 100, 101, 102, 103, 104, 105, 106, 107, 108, 109, 110, 111, 112, 113, 114, 115, 116, 117, 118, 119, 120, 121, 122, 123, 124, 125, 126, 127, 128, 129, 130, 131] (by decide +kernel) (by decide +kernel)
set_option maxRecDepth 20000 in
theorem gX10_saved_X10_saves : GoodIn wsX10_saved (wsV RX10 270 RX10 yX10_saves wsX10_saves) := goodIn_app (goodIn_of _ (by decide +kernel)) ggX10_saved_X10_saves
theorem dX10_saved_0 : decode cX10_saved 0 = .ok (.aload_n 0, 1) := by decide +kernel
theorem dX10_saved_1 : decode cX10_saved 1 = .ok (.iload_n 1, 1) := by decide +kernel
theorem dX10_saved_2 : decode cX10_saved 2 = .ok (.invokevirtual 106, 3) := by decide +kernel
theorem dX10_saved_5 : decode cX10_saved 5 = .ok (.ifCond .eq 10, 3) := by decide +kernel
theorem dX10_saved_8 : decode cX10_saved 8 = .ok (.iload_n 2, 1) := by decide +kernel
theorem dX10_saved_9 : decode cX10_saved 9 = .ok (.invokestatic 148, 3) := by decide +kernel
theorem dX10_saved_12 : decode cX10_saved 12 = .ok (.ifCond .ne 6, 3) := by decide +kernel
theorem dX10_saved_15 : decode cX10_saved 15 = .ok (.bipush (-101), 2) := by decide +kernel
theorem dX10_saved_17 : decode cX10_saved 17 = .ok (.ireturn, 1) := by decide +kernel
theorem dX10_saved_18 : decode cX10_saved 18 = .ok (.iload_n 3, 1) := by decide +kernel
theorem dX10_saved_19 : decode cX10_saved 19 = .ok (.iconst 1, 1) := by decide +kernel
theorem dX10_saved_20 : decode cX10_saved 20 = .ok (.bipush 60, 2) := by decide +kernel
theorem dX10_saved_22 : decode cX10_saved 22 = .ok (.invokestatic 72, 3) := by decide +kernel
theorem dX10_saved_25 : decode cX10_saved 25 = .ok (.ifCond .ne 6, 3) := by decide +kernel
theorem dX10_saved_28 : decode cX10_saved 28 = .ok (.bipush (-102), 2) := by decide +kernel
theorem dX10_saved_30 : decode cX10_saved 30 = .ok (.ireturn, 1) := by decide +kernel
theorem dX10_saved_31 : decode cX10_saved 31 = .ok (.iconst 0, 1) := by decide +kernel
theorem dX10_saved_32 : decode cX10_saved 32 = .ok (.istore 4, 2) := by decide +kernel
theorem dX10_saved_34 : decode cX10_saved 34 = .ok (.iload 4, 2) := by decide +kernel
theorem dX10_saved_36 : decode cX10_saved 36 = .ok (.bipush 60, 2) := by decide +kernel
theorem dX10_saved_38 : decode cX10_saved 38 = .ok (.if_icmp .gt 24, 3) := by decide +kernel
theorem dX10_saved_41 : decode cX10_saved 41 = .ok (.aload_n 0, 1) := by decide +kernel
theorem dX10_saved_42 : decode cX10_saved 42 = .ok (.iload_n 1, 1) := by decide +kernel
theorem dX10_saved_43 : decode cX10_saved 43 = .ok (.iload_n 2, 1) := by decide +kernel
theorem dX10_saved_44 : decode cX10_saved 44 = .ok (.iload_n 3, 1) := by decide +kernel
theorem dX10_saved_45 : decode cX10_saved 45 = .ok (.iload 4, 2) := by decide +kernel
theorem dX10_saved_47 : decode cX10_saved 47 = .ok (.invokevirtual 270, 3) := by decide +kernel
theorem dX10_saved_50 : decode cX10_saved 50 = .ok (.ifCond .eq 6, 3) := by decide +kernel
theorem dX10_saved_53 : decode cX10_saved 53 = .ok (.iload 4, 2) := by decide +kernel
theorem dX10_saved_55 : decode cX10_saved 55 = .ok (.ireturn, 1) := by decide +kernel
theorem dX10_saved_56 : decode cX10_saved 56 = .ok (.iinc 4 1, 3) := by decide +kernel
theorem dX10_saved_59 : decode cX10_saved 59 = .ok (.goto (-25), 3) := by decide +kernel
theorem dX10_saved_62 : decode cX10_saved 62 = .ok (.iconst (-1), 1) := by decide +kernel
theorem dX10_saved_63 : decode cX10_saved 63 = .ok (.ireturn, 1) := by decide +kernel
set_option maxRecDepth 20000 in
theorem ggX10_unlike_X10_isCustom : GoodIn wsX10_unlike wsX10_isCustom := goodIn_r _ [5, 6, 7, 8, 4, 9, 94, 95, 96, 97, 98, 99, 100, 101, 102, 103, 104, 105, 106, 107, 108, 109, 110, 111, 112, 113, 114, 115, 116, 117, 118, 119, 120, 121, 122, 123, 124, 125, 126, 127, 128] (by decide +kernel) (by decide +kernel)
set_option maxRecDepth 20000 in
theorem gX10_unlike_X10_isCustom : GoodIn wsX10_unlike (wsV RX10 106 RX10 yX10_isCustom wsX10_isCustom) := goodIn_app (goodIn_of _ (by decide +kernel)) ggX10_unlike_X10_isCustom
set_option maxRecDepth 20000 in
theorem ggX10_unlike_X10_within : GoodIn wsX10_unlike wsX10_within := goodIn_r _ [9] (by decide +kernel) (by decide +kernel)
set_option maxRecDepth 20000 in
theorem gX10_unlike_X10_within : GoodIn wsX10_unlike (va_wsS RX10 72 yX10_within wsX10_within) := goodIn_app (goodIn_of _ (by decide +kernel)) ggX10_unlike_X10_within
set_option maxRecDepth 20000 in
theorem ggX10_unlike_X10_wouldOf : GoodIn wsX10_unlike wsX10_wouldOf := goodIn_r _ [13, 14, 15, 16, 17, 4, 18, 19, 20, 21, 22, 23, 24, 25, 26, 27, 28, 29, 30, 31, 32, 33, 34, 35, 36, 37, 38, 39, 40, 41, 42, 43, 44, 45, 46, 47, 48, 49, 50, 51, 52, 53, 54, 55, 56, 57, 58, 59, 60, 61, 62, 63, 64, 65, 66, 67, 68, 69, 70, 71, 72, 73, 74, 75, 76, 77, 78, 79, 80, 81, 82, 83, 84, 85, 86, 87, 88, 89, 90, 91, 92, 93, 94, 95, 96, 97, 98, 99, 100, 101, 102, 103, 104, 105, 106, 107, 108, 109, 110, 111, 112, 113, 114, 115, 116, 117, 118, 119, 120, 121, 122, 123, 124, 125, 126, 127, 128] (by decide +kernel) (by decide +kernel)
set_option maxRecDepth 20000 in
theorem gX10_unlike_X10_wouldOf : GoodIn wsX10_unlike (wsV RX10 208 RX10 yX10_wouldOf wsX10_wouldOf) := goodIn_app (goodIn_of _ (by decide +kernel)) ggX10_unlike_X10_wouldOf
theorem dX10_unlike_0 : decode cX10_unlike 0 = .ok (.aload_n 0, 1) := by decide +kernel
theorem dX10_unlike_1 : decode cX10_unlike 1 = .ok (.iload_n 1, 1) := by decide +kernel
theorem dX10_unlike_2 : decode cX10_unlike 2 = .ok (.invokevirtual 106, 3) := by decide +kernel
theorem dX10_unlike_5 : decode cX10_unlike 5 = .ok (.ifCond .eq 11, 3) := by decide +kernel
theorem dX10_unlike_8 : decode cX10_unlike 8 = .ok (.aload_n 0, 1) := by decide +kernel
theorem dX10_unlike_9 : decode cX10_unlike 9 = .ok (.iload_n 2, 1) := by decide +kernel
theorem dX10_unlike_10 : decode cX10_unlike 10 = .ok (.invokevirtual 106, 3) := by decide +kernel
theorem dX10_unlike_13 : decode cX10_unlike 13 = .ok (.ifCond .ne 6, 3) := by decide +kernel
theorem dX10_unlike_16 : decode cX10_unlike 16 = .ok (.bipush (-101), 2) := by decide +kernel
theorem dX10_unlike_18 : decode cX10_unlike 18 = .ok (.ireturn, 1) := by decide +kernel
theorem dX10_unlike_19 : decode cX10_unlike 19 = .ok (.iload_n 3, 1) := by decide +kernel
theorem dX10_unlike_20 : decode cX10_unlike 20 = .ok (.iconst 0, 1) := by decide +kernel
theorem dX10_unlike_21 : decode cX10_unlike 21 = .ok (.bipush 60, 2) := by decide +kernel
theorem dX10_unlike_23 : decode cX10_unlike 23 = .ok (.invokestatic 72, 3) := by decide +kernel
theorem dX10_unlike_26 : decode cX10_unlike 26 = .ok (.ifCond .ne 6, 3) := by decide +kernel
theorem dX10_unlike_29 : decode cX10_unlike 29 = .ok (.bipush (-102), 2) := by decide +kernel
theorem dX10_unlike_31 : decode cX10_unlike 31 = .ok (.ireturn, 1) := by decide +kernel
theorem dX10_unlike_32 : decode cX10_unlike 32 = .ok (.iconst 0, 1) := by decide +kernel
theorem dX10_unlike_33 : decode cX10_unlike 33 = .ok (.istore 4, 2) := by decide +kernel
theorem dX10_unlike_35 : decode cX10_unlike 35 = .ok (.iconst 0, 1) := by decide +kernel
theorem dX10_unlike_36 : decode cX10_unlike 36 = .ok (.istore 5, 2) := by decide +kernel
theorem dX10_unlike_38 : decode cX10_unlike 38 = .ok (.iload 5, 2) := by decide +kernel
theorem dX10_unlike_40 : decode cX10_unlike 40 = .ok (.bipush 7, 2) := by decide +kernel
theorem dX10_unlike_42 : decode cX10_unlike 42 = .ok (.if_icmp .ge 46, 3) := by decide +kernel
theorem dX10_unlike_45 : decode cX10_unlike 45 = .ok (.aload_n 0, 1) := by decide +kernel
theorem dX10_unlike_46 : decode cX10_unlike 46 = .ok (.iload_n 1, 1) := by decide +kernel
theorem dX10_unlike_47 : decode cX10_unlike 47 = .ok (.iload 5, 2) := by decide +kernel
theorem dX10_unlike_49 : decode cX10_unlike 49 = .ok (.iload_n 3, 1) := by decide +kernel
theorem dX10_unlike_50 : decode cX10_unlike 50 = .ok (.invokevirtual 208, 3) := by decide +kernel
theorem dX10_unlike_53 : decode cX10_unlike 53 = .ok (.aload_n 0, 1) := by decide +kernel
theorem dX10_unlike_54 : decode cX10_unlike 54 = .ok (.iload_n 2, 1) := by decide +kernel
theorem dX10_unlike_55 : decode cX10_unlike 55 = .ok (.iload 5, 2) := by decide +kernel
theorem dX10_unlike_57 : decode cX10_unlike 57 = .ok (.iload_n 3, 1) := by decide +kernel
theorem dX10_unlike_58 : decode cX10_unlike 58 = .ok (.invokevirtual 208, 3) := by decide +kernel
theorem dX10_unlike_61 : decode cX10_unlike 61 = .ok (.isub, 1) := by decide +kernel
theorem dX10_unlike_62 : decode cX10_unlike 62 = .ok (.istore 6, 2) := by decide +kernel
theorem dX10_unlike_64 : decode cX10_unlike 64 = .ok (.iload 4, 2) := by decide +kernel
theorem dX10_unlike_66 : decode cX10_unlike 66 = .ok (.iload 6, 2) := by decide +kernel
theorem dX10_unlike_68 : decode cX10_unlike 68 = .ok (.ifCond .ge 9, 3) := by decide +kernel
theorem dX10_unlike_71 : decode cX10_unlike 71 = .ok (.iload 6, 2) := by decide +kernel
theorem dX10_unlike_73 : decode cX10_unlike 73 = .ok (.ineg, 1) := by decide +kernel
theorem dX10_unlike_74 : decode cX10_unlike 74 = .ok (.goto 5, 3) := by decide +kernel
theorem dX10_unlike_77 : decode cX10_unlike 77 = .ok (.iload 6, 2) := by decide +kernel
theorem dX10_unlike_79 : decode cX10_unlike 79 = .ok (.iadd, 1) := by decide +kernel
theorem dX10_unlike_80 : decode cX10_unlike 80 = .ok (.istore 4, 2) := by decide +kernel
theorem dX10_unlike_82 : decode cX10_unlike 82 = .ok (.iinc 5 1, 3) := by decide +kernel
theorem dX10_unlike_85 : decode cX10_unlike 85 = .ok (.goto (-47), 3) := by decide +kernel
theorem dX10_unlike_88 : decode cX10_unlike 88 = .ok (.iload 4, 2) := by decide +kernel
theorem dX10_unlike_90 : decode cX10_unlike 90 = .ok (.ireturn, 1) := by decide +kernel
set_option maxRecDepth 20000 in
theorem ggX10_lie_X10_isCairn : GoodIn wsX10_lie wsX10_isCairn := goodIn_r _ [5, 6, 7, 4, 8] (by decide +kernel) (by decide +kernel)
set_option maxRecDepth 20000 in
theorem gX10_lie_X10_isCairn : GoodIn wsX10_lie (va_wsS RX10 148 yX10_isCairn wsX10_isCairn) := goodIn_app (goodIn_of _ (by decide +kernel)) ggX10_lie_X10_isCairn
set_option maxRecDepth 20000 in
theorem ggX10_lie_X10_pebbles : GoodIn wsX10_lie wsX10_pebbles := goodIn_r _ [12, 1, 13, 14, 15, 16, 17, 18, 19, 20, 21, 22, 23, 24, 25, 26, 27, 28, 29, 30, 31, 32, 33, 34, 35, 36, 37, 38, 39, 40, 41, 42, 43, 44, 45, 46, 47] (by decide +kernel) (by decide +kernel)
set_option maxRecDepth 20000 in
theorem gX10_lie_X10_pebbles : GoodIn wsX10_lie (wsV RX10 196 RX10 yX10_pebbles wsX10_pebbles) := goodIn_app (goodIn_of _ (by decide +kernel)) ggX10_lie_X10_pebbles
theorem dX10_lie_0 : decode cX10_lie 0 = .ok (.iload_n 1, 1) := by decide +kernel
theorem dX10_lie_1 : decode cX10_lie 1 = .ok (.invokestatic 148, 3) := by decide +kernel
theorem dX10_lie_4 : decode cX10_lie 4 = .ok (.ifCond .ne 6, 3) := by decide +kernel
theorem dX10_lie_7 : decode cX10_lie 7 = .ok (.bipush (-101), 2) := by decide +kernel
theorem dX10_lie_9 : decode cX10_lie 9 = .ok (.ireturn, 1) := by decide +kernel
theorem dX10_lie_10 : decode cX10_lie 10 = .ok (.aload_n 0, 1) := by decide +kernel
theorem dX10_lie_11 : decode cX10_lie 11 = .ok (.invokevirtual 196, 3) := by decide +kernel
theorem dX10_lie_14 : decode cX10_lie 14 = .ok (.aload_n 0, 1) := by decide +kernel
theorem dX10_lie_15 : decode cX10_lie 15 = .ok (.getfield 13, 3) := by decide +kernel
theorem dX10_lie_18 : decode cX10_lie 18 = .ok (.iload_n 1, 1) := by decide +kernel
theorem dX10_lie_19 : decode cX10_lie 19 = .ok (.iaload, 1) := by decide +kernel
theorem dX10_lie_20 : decode cX10_lie 20 = .ok (.isub, 1) := by decide +kernel
theorem dX10_lie_21 : decode cX10_lie 21 = .ok (.istore_n 2, 1) := by decide +kernel
theorem dX10_lie_22 : decode cX10_lie 22 = .ok (.iconst 0, 1) := by decide +kernel
theorem dX10_lie_23 : decode cX10_lie 23 = .ok (.istore_n 3, 1) := by decide +kernel
theorem dX10_lie_24 : decode cX10_lie 24 = .ok (.iload_n 3, 1) := by decide +kernel
theorem dX10_lie_25 : decode cX10_lie 25 = .ok (.iload_n 2, 1) := by decide +kernel
theorem dX10_lie_26 : decode cX10_lie 26 = .ok (.if_icmp .gt 89, 3) := by decide +kernel
theorem dX10_lie_29 : decode cX10_lie 29 = .ok (.iconst 0, 1) := by decide +kernel
theorem dX10_lie_30 : decode cX10_lie 30 = .ok (.istore 4, 2) := by decide +kernel
theorem dX10_lie_32 : decode cX10_lie 32 = .ok (.iconst 0, 1) := by decide +kernel
theorem dX10_lie_33 : decode cX10_lie 33 = .ok (.istore 5, 2) := by decide +kernel
theorem dX10_lie_35 : decode cX10_lie 35 = .ok (.iload 5, 2) := by decide +kernel
theorem dX10_lie_37 : decode cX10_lie 37 = .ok (.bipush 7, 2) := by decide +kernel
theorem dX10_lie_39 : decode cX10_lie 39 = .ok (.if_icmp .ge 51, 3) := by decide +kernel
theorem dX10_lie_42 : decode cX10_lie 42 = .ok (.aload_n 0, 1) := by decide +kernel
theorem dX10_lie_43 : decode cX10_lie 43 = .ok (.getfield 13, 3) := by decide +kernel
theorem dX10_lie_46 : decode cX10_lie 46 = .ok (.iload 5, 2) := by decide +kernel
theorem dX10_lie_48 : decode cX10_lie 48 = .ok (.iaload, 1) := by decide +kernel
theorem dX10_lie_49 : decode cX10_lie 49 = .ok (.aload_n 0, 1) := by decide +kernel
theorem dX10_lie_50 : decode cX10_lie 50 = .ok (.getfield 13, 3) := by decide +kernel
theorem dX10_lie_53 : decode cX10_lie 53 = .ok (.iload_n 1, 1) := by decide +kernel
theorem dX10_lie_54 : decode cX10_lie 54 = .ok (.iaload, 1) := by decide +kernel
theorem dX10_lie_55 : decode cX10_lie 55 = .ok (.iload_n 3, 1) := by decide +kernel
theorem dX10_lie_56 : decode cX10_lie 56 = .ok (.iadd, 1) := by decide +kernel
theorem dX10_lie_57 : decode cX10_lie 57 = .ok (.iconst 1, 1) := by decide +kernel
theorem dX10_lie_58 : decode cX10_lie 58 = .ok (.isub, 1) := by decide +kernel
theorem dX10_lie_59 : decode cX10_lie 59 = .ok (.isub, 1) := by decide +kernel
theorem dX10_lie_60 : decode cX10_lie 60 = .ok (.istore 6, 2) := by decide +kernel
theorem dX10_lie_62 : decode cX10_lie 62 = .ok (.iload 4, 2) := by decide +kernel
theorem dX10_lie_64 : decode cX10_lie 64 = .ok (.iload 5, 2) := by decide +kernel
theorem dX10_lie_66 : decode cX10_lie 66 = .ok (.iload_n 1, 1) := by decide +kernel
theorem dX10_lie_67 : decode cX10_lie 67 = .ok (.if_icmp .eq 13, 3) := by decide +kernel
theorem dX10_lie_70 : decode cX10_lie 70 = .ok (.iload 6, 2) := by decide +kernel
theorem dX10_lie_72 : decode cX10_lie 72 = .ok (.ifCond .le 8, 3) := by decide +kernel
theorem dX10_lie_75 : decode cX10_lie 75 = .ok (.iload 6, 2) := by decide +kernel
theorem dX10_lie_77 : decode cX10_lie 77 = .ok (.goto 4, 3) := by decide +kernel
theorem dX10_lie_80 : decode cX10_lie 80 = .ok (.iconst 0, 1) := by decide +kernel
theorem dX10_lie_81 : decode cX10_lie 81 = .ok (.iadd, 1) := by decide +kernel
theorem dX10_lie_82 : decode cX10_lie 82 = .ok (.istore 4, 2) := by decide +kernel
theorem dX10_lie_84 : decode cX10_lie 84 = .ok (.iinc 5 1, 3) := by decide +kernel
theorem dX10_lie_87 : decode cX10_lie 87 = .ok (.goto (-52), 3) := by decide +kernel
theorem dX10_lie_90 : decode cX10_lie 90 = .ok (.iload 4, 2) := by decide +kernel
theorem dX10_lie_92 : decode cX10_lie 92 = .ok (.iload_n 3, 1) := by decide +kernel
theorem dX10_lie_93 : decode cX10_lie 93 = .ok (.if_icmp .gt 16, 3) := by decide +kernel
theorem dX10_lie_96 : decode cX10_lie 96 = .ok (.aload_n 0, 1) := by decide +kernel
theorem dX10_lie_97 : decode cX10_lie 97 = .ok (.getfield 13, 3) := by decide +kernel
theorem dX10_lie_100 : decode cX10_lie 100 = .ok (.iload_n 1, 1) := by decide +kernel
theorem dX10_lie_101 : decode cX10_lie 101 = .ok (.iaload, 1) := by decide +kernel
theorem dX10_lie_102 : decode cX10_lie 102 = .ok (.iload_n 3, 1) := by decide +kernel
theorem dX10_lie_103 : decode cX10_lie 103 = .ok (.iadd, 1) := by decide +kernel
theorem dX10_lie_104 : decode cX10_lie 104 = .ok (.ifCond .le 5, 3) := by decide +kernel
theorem dX10_lie_107 : decode cX10_lie 107 = .ok (.iload_n 3, 1) := by decide +kernel
theorem dX10_lie_108 : decode cX10_lie 108 = .ok (.ireturn, 1) := by decide +kernel
theorem dX10_lie_109 : decode cX10_lie 109 = .ok (.iinc 3 1, 3) := by decide +kernel
theorem dX10_lie_112 : decode cX10_lie 112 = .ok (.goto (-88), 3) := by decide +kernel
theorem dX10_lie_115 : decode cX10_lie 115 = .ok (.iconst (-1), 1) := by decide +kernel
theorem dX10_lie_116 : decode cX10_lie 116 = .ok (.ireturn, 1) := by decide +kernel
set_option maxRecDepth 20000 in
theorem ggX10_image_X10_save : GoodIn wsX10_image wsX10_save := goodIn_r _ [10, 11, 2, 5, 12, 13, 14, 15, 16, 17, 18, 23, 24, 25, 26, 27, 28, 29, 30, 31, 32, 33, 34, 35, 36, 37, 38, 39, 40, 41, 42, 43, 44, 45, 46, 47, 48, 49, 50, 51, 52, 53, 54, 55, 56, 57] (by decide +kernel) (by decide +kernel)
set_option maxRecDepth 20000 in
theorem gX10_image_X10_save : GoodIn wsX10_image (wsV RX10 202 RX10 yX10_save wsX10_save) := goodIn_app (goodIn_of _ (by decide +kernel)) ggX10_image_X10_save
set_option maxRecDepth 20000 in
theorem ggX10_image_X10_pebbles : GoodIn wsX10_image wsX10_pebbles := goodIn_r _ [22, 13, 23, 24, 25, 26, 27, 28, 29, 30, 31, 32, 33, 34, 35, 36, 37, 38, 39, 40, 41, 42, 43, 44, 45, 46, 47, 48, 49, 50, 51, 52, 53, 54, 55, 56, 57] (by decide +kernel) (by decide +kernel)
set_option maxRecDepth 20000 in
theorem gX10_image_X10_pebbles : GoodIn wsX10_image (wsV RX10 196 RX10 yX10_pebbles wsX10_pebbles) := goodIn_app (goodIn_of _ (by decide +kernel)) ggX10_image_X10_pebbles
theorem dX10_image_0 : decode cX10_image 0 = .ok (.aload_n 0, 1) := by decide +kernel
theorem dX10_image_1 : decode cX10_image 1 = .ok (.iconst 1, 1) := by decide +kernel
theorem dX10_image_2 : decode cX10_image 2 = .ok (.putfield 273, 3) := by decide +kernel
theorem dX10_image_5 : decode cX10_image 5 = .ok (.aload_n 0, 1) := by decide +kernel
theorem dX10_image_6 : decode cX10_image 6 = .ok (.invokevirtual 202, 3) := by decide +kernel
theorem dX10_image_9 : decode cX10_image 9 = .ok (.aload_n 0, 1) := by decide +kernel
theorem dX10_image_10 : decode cX10_image 10 = .ok (.aload_n 0, 1) := by decide +kernel
theorem dX10_image_11 : decode cX10_image 11 = .ok (.getfield 199, 3) := by decide +kernel
theorem dX10_image_14 : decode cX10_image 14 = .ok (.putfield 276, 3) := by decide +kernel
theorem dX10_image_17 : decode cX10_image 17 = .ok (.iconst 0, 1) := by decide +kernel
theorem dX10_image_18 : decode cX10_image 18 = .ok (.istore_n 1, 1) := by decide +kernel
theorem dX10_image_19 : decode cX10_image 19 = .ok (.iload_n 1, 1) := by decide +kernel
theorem dX10_image_20 : decode cX10_image 20 = .ok (.sipush 432, 3) := by decide +kernel
theorem dX10_image_23 : decode cX10_image 23 = .ok (.if_icmp .ge 21, 3) := by decide +kernel
theorem dX10_image_26 : decode cX10_image 26 = .ok (.aload_n 0, 1) := by decide +kernel
theorem dX10_image_27 : decode cX10_image 27 = .ok (.getfield 48, 3) := by decide +kernel
theorem dX10_image_30 : decode cX10_image 30 = .ok (.iload_n 1, 1) := by decide +kernel
theorem dX10_image_31 : decode cX10_image 31 = .ok (.aload_n 0, 1) := by decide +kernel
theorem dX10_image_32 : decode cX10_image 32 = .ok (.getfield 51, 3) := by decide +kernel
theorem dX10_image_35 : decode cX10_image 35 = .ok (.iload_n 1, 1) := by decide +kernel
theorem dX10_image_36 : decode cX10_image 36 = .ok (.iaload, 1) := by decide +kernel
theorem dX10_image_37 : decode cX10_image 37 = .ok (.iastore, 1) := by decide +kernel
theorem dX10_image_38 : decode cX10_image 38 = .ok (.iinc 1 1, 3) := by decide +kernel
theorem dX10_image_41 : decode cX10_image 41 = .ok (.goto (-22), 3) := by decide +kernel
theorem dX10_image_44 : decode cX10_image 44 = .ok (.aload_n 0, 1) := by decide +kernel
theorem dX10_image_45 : decode cX10_image 45 = .ok (.invokevirtual 196, 3) := by decide +kernel
theorem dX10_image_48 : decode cX10_image 48 = .ok (.ireturn, 1) := by decide +kernel
set_option maxRecDepth 20000 in
theorem ggX10_restore_X10_back : GoodIn wsX10_restore wsX10_back := goodIn_r _ [10, 3, 11, 12, 4, 13, 14, 15, 16, 17, 18, 23, 24, 25, 26, 27, 28, 29, 30, 31, 32, 33, 34, 35, 36, 37, 38, 39, 40, 41, 42, 43, 44, 45, 46, 47, 48, 49, 50, 51, 52, 53, 54, 55, 56, 57] (by decide +kernel) (by decide +kernel)
set_option maxRecDepth 20000 in
theorem gX10_restore_X10_back : GoodIn wsX10_restore (wsV RX10 205 RX10 yX10_back wsX10_back) := goodIn_app (goodIn_of _ (by decide +kernel)) ggX10_restore_X10_back
set_option maxRecDepth 20000 in
theorem ggX10_restore_X10_pebbles : GoodIn wsX10_restore wsX10_pebbles := goodIn_r _ [22, 13, 23, 24, 25, 26, 27, 28, 29, 30, 31, 32, 33, 34, 35, 36, 37, 38, 39, 40, 41, 42, 43, 44, 45, 46, 47, 48, 49, 50, 51, 52, 53, 54, 55, 56, 57] (by decide +kernel) (by decide +kernel)
set_option maxRecDepth 20000 in
theorem gX10_restore_X10_pebbles : GoodIn wsX10_restore (wsV RX10 196 RX10 yX10_pebbles wsX10_pebbles) := goodIn_app (goodIn_of _ (by decide +kernel)) ggX10_restore_X10_pebbles
theorem dX10_restore_0 : decode cX10_restore 0 = .ok (.aload_n 0, 1) := by decide +kernel
theorem dX10_restore_1 : decode cX10_restore 1 = .ok (.getfield 273, 3) := by decide +kernel
theorem dX10_restore_4 : decode cX10_restore 4 = .ok (.ifCond .ne 6, 3) := by decide +kernel
theorem dX10_restore_7 : decode cX10_restore 7 = .ok (.bipush (-103), 2) := by decide +kernel
theorem dX10_restore_9 : decode cX10_restore 9 = .ok (.ireturn, 1) := by decide +kernel
theorem dX10_restore_10 : decode cX10_restore 10 = .ok (.aload_n 0, 1) := by decide +kernel
theorem dX10_restore_11 : decode cX10_restore 11 = .ok (.aload_n 0, 1) := by decide +kernel
theorem dX10_restore_12 : decode cX10_restore 12 = .ok (.getfield 276, 3) := by decide +kernel
theorem dX10_restore_15 : decode cX10_restore 15 = .ok (.putfield 199, 3) := by decide +kernel
theorem dX10_restore_18 : decode cX10_restore 18 = .ok (.iconst 0, 1) := by decide +kernel
theorem dX10_restore_19 : decode cX10_restore 19 = .ok (.istore_n 1, 1) := by decide +kernel
theorem dX10_restore_20 : decode cX10_restore 20 = .ok (.iload_n 1, 1) := by decide +kernel
theorem dX10_restore_21 : decode cX10_restore 21 = .ok (.sipush 432, 3) := by decide +kernel
theorem dX10_restore_24 : decode cX10_restore 24 = .ok (.if_icmp .ge 21, 3) := by decide +kernel
theorem dX10_restore_27 : decode cX10_restore 27 = .ok (.aload_n 0, 1) := by decide +kernel
theorem dX10_restore_28 : decode cX10_restore 28 = .ok (.getfield 51, 3) := by decide +kernel
theorem dX10_restore_31 : decode cX10_restore 31 = .ok (.iload_n 1, 1) := by decide +kernel
theorem dX10_restore_32 : decode cX10_restore 32 = .ok (.aload_n 0, 1) := by decide +kernel
theorem dX10_restore_33 : decode cX10_restore 33 = .ok (.getfield 48, 3) := by decide +kernel
theorem dX10_restore_36 : decode cX10_restore 36 = .ok (.iload_n 1, 1) := by decide +kernel
theorem dX10_restore_37 : decode cX10_restore 37 = .ok (.iaload, 1) := by decide +kernel
theorem dX10_restore_38 : decode cX10_restore 38 = .ok (.iastore, 1) := by decide +kernel
theorem dX10_restore_39 : decode cX10_restore 39 = .ok (.iinc 1 1, 3) := by decide +kernel
theorem dX10_restore_42 : decode cX10_restore 42 = .ok (.goto (-22), 3) := by decide +kernel
theorem dX10_restore_45 : decode cX10_restore 45 = .ok (.aload_n 0, 1) := by decide +kernel
theorem dX10_restore_46 : decode cX10_restore 46 = .ok (.invokevirtual 205, 3) := by decide +kernel
theorem dX10_restore_49 : decode cX10_restore 49 = .ok (.aload_n 0, 1) := by decide +kernel
theorem dX10_restore_50 : decode cX10_restore 50 = .ok (.invokevirtual 196, 3) := by decide +kernel
theorem dX10_restore_53 : decode cX10_restore 53 = .ok (.ireturn, 1) := by decide +kernel
set_option maxRecDepth 20000 in
theorem ggX10_howMany_X10_pebbles : GoodIn wsX10_howMany wsX10_pebbles := goodIn_r _ [14, 15, 16, 17, 18, 19, 20, 21, 22, 23, 24, 25, 26, 27, 28, 29, 30, 31, 32, 33, 34, 35, 36, 37, 38, 39, 40, 41, 42, 43, 44, 45, 46, 47, 48, 49, 50] (by decide +kernel) (by decide +kernel)
set_option maxRecDepth 20000 in
theorem gX10_howMany_X10_pebbles : GoodIn wsX10_howMany (wsV RX10 196 RX10 yX10_pebbles wsX10_pebbles) := goodIn_app (goodIn_of _ (by decide +kernel)) ggX10_howMany_X10_pebbles
theorem dX10_howMany_0 : decode cX10_howMany 0 = .ok (.iload_n 1, 1) := by decide +kernel
theorem dX10_howMany_1 : decode cX10_howMany 1 = .ok (.tableswitch 106 0 9 #[55, 60, 65, 70, 75, 81, 86, 91, 96, 101], 55) := by decide +kernel
theorem dX10_howMany_56 : decode cX10_howMany 56 = .ok (.aload_n 0, 1) := by decide +kernel
theorem dX10_howMany_57 : decode cX10_howMany 57 = .ok (.getfield 113, 3) := by decide +kernel
theorem dX10_howMany_60 : decode cX10_howMany 60 = .ok (.ireturn, 1) := by decide +kernel
theorem dX10_howMany_61 : decode cX10_howMany 61 = .ok (.aload_n 0, 1) := by decide +kernel
theorem dX10_howMany_62 : decode cX10_howMany 62 = .ok (.getfield 103, 3) := by decide +kernel
theorem dX10_howMany_65 : decode cX10_howMany 65 = .ok (.ireturn, 1) := by decide +kernel
theorem dX10_howMany_66 : decode cX10_howMany 66 = .ok (.aload_n 0, 1) := by decide +kernel
theorem dX10_howMany_67 : decode cX10_howMany 67 = .ok (.invokevirtual 196, 3) := by decide +kernel
theorem dX10_howMany_70 : decode cX10_howMany 70 = .ok (.ireturn, 1) := by decide +kernel
theorem dX10_howMany_71 : decode cX10_howMany 71 = .ok (.aload_n 0, 1) := by decide +kernel
theorem dX10_howMany_72 : decode cX10_howMany 72 = .ok (.getfield 138, 3) := by decide +kernel
theorem dX10_howMany_75 : decode cX10_howMany 75 = .ok (.ireturn, 1) := by decide +kernel
theorem dX10_howMany_76 : decode cX10_howMany 76 = .ok (.aload_n 0, 1) := by decide +kernel
theorem dX10_howMany_77 : decode cX10_howMany 77 = .ok (.getfield 16, 3) := by decide +kernel
theorem dX10_howMany_80 : decode cX10_howMany 80 = .ok (.l2i, 1) := by decide +kernel
theorem dX10_howMany_81 : decode cX10_howMany 81 = .ok (.ireturn, 1) := by decide +kernel
theorem dX10_howMany_82 : decode cX10_howMany 82 = .ok (.aload_n 0, 1) := by decide +kernel
theorem dX10_howMany_83 : decode cX10_howMany 83 = .ok (.getfield 177, 3) := by decide +kernel
theorem dX10_howMany_86 : decode cX10_howMany 86 = .ok (.ireturn, 1) := by decide +kernel
theorem dX10_howMany_87 : decode cX10_howMany 87 = .ok (.aload_n 0, 1) := by decide +kernel
theorem dX10_howMany_88 : decode cX10_howMany 88 = .ok (.getfield 135, 3) := by decide +kernel
theorem dX10_howMany_91 : decode cX10_howMany 91 = .ok (.ireturn, 1) := by decide +kernel
theorem dX10_howMany_92 : decode cX10_howMany 92 = .ok (.aload_n 0, 1) := by decide +kernel
theorem dX10_howMany_93 : decode cX10_howMany 93 = .ok (.getfield 145, 3) := by decide +kernel
theorem dX10_howMany_96 : decode cX10_howMany 96 = .ok (.ireturn, 1) := by decide +kernel
theorem dX10_howMany_97 : decode cX10_howMany 97 = .ok (.aload_n 0, 1) := by decide +kernel
theorem dX10_howMany_98 : decode cX10_howMany 98 = .ok (.getfield 132, 3) := by decide +kernel
theorem dX10_howMany_101 : decode cX10_howMany 101 = .ok (.ireturn, 1) := by decide +kernel
theorem dX10_howMany_102 : decode cX10_howMany 102 = .ok (.aload_n 0, 1) := by decide +kernel
theorem dX10_howMany_103 : decode cX10_howMany 103 = .ok (.getfield 68, 3) := by decide +kernel
theorem dX10_howMany_106 : decode cX10_howMany 106 = .ok (.ireturn, 1) := by decide +kernel
theorem dX10_howMany_107 : decode cX10_howMany 107 = .ok (.bipush (-102), 2) := by decide +kernel
theorem dX10_howMany_109 : decode cX10_howMany 109 = .ok (.ireturn, 1) := by decide +kernel
set_option maxRecDepth 20000 in
theorem ggX10_count_X10_howMany : GoodIn wsX10_count wsX10_howMany := goodIn_r _ [5, 6, 7, 8, 9, 10, 11, 12, 13, 14, 15, 16, 17, 4, 18, 19, 20, 21, 22, 23, 24, 25, 26, 27, 28, 29, 30, 31, 32, 33, 34, 35, 36, 37, 38, 39, 40, 41, 42, 43, 44, 45, 46, 47, 48, 49, 50, 51, 52, 53, 54] (by decide +kernel) (by decide +kernel)
set_option maxRecDepth 20000 in
theorem gX10_count_X10_howMany : GoodIn wsX10_count (wsV RX10 279 RX10 yX10_howMany wsX10_howMany) := goodIn_app (goodIn_of _ (by decide +kernel)) ggX10_count_X10_howMany
theorem dX10_count_0 : decode cX10_count 0 = .ok (.aload_n 0, 1) := by decide +kernel
theorem dX10_count_1 : decode cX10_count 1 = .ok (.iload_n 1, 1) := by decide +kernel
theorem dX10_count_2 : decode cX10_count 2 = .ok (.invokevirtual 279, 3) := by decide +kernel
theorem dX10_count_5 : decode cX10_count 5 = .ok (.ireturn, 1) := by decide +kernel
theorem dX10_mix_0 : decode cX10_mix 0 = .ok (.aload_n 0, 1) := by decide +kernel
theorem dX10_mix_1 : decode cX10_mix 1 = .ok (.ldc2_w 282, 3) := by decide +kernel
theorem dX10_mix_4 : decode cX10_mix 4 = .ok (.aload_n 0, 1) := by decide +kernel
theorem dX10_mix_5 : decode cX10_mix 5 = .ok (.getfield 284, 3) := by decide +kernel
theorem dX10_mix_8 : decode cX10_mix 8 = .ok (.lmul, 1) := by decide +kernel
theorem dX10_mix_9 : decode cX10_mix 9 = .ok (.lload_n 1, 1) := by decide +kernel
theorem dX10_mix_10 : decode cX10_mix 10 = .ok (.ladd, 1) := by decide +kernel
theorem dX10_mix_11 : decode cX10_mix 11 = .ok (.putfield 284, 3) := by decide +kernel
theorem dX10_mix_14 : decode cX10_mix 14 = .ok (.return_, 1) := by decide +kernel
set_option maxRecDepth 20000 in
theorem ggX10_mixCustom_X10_customNow : GoodIn wsX10_mixCustom wsX10_customNow := goodIn_r _ [5, 6, 7, 8, 96, 97, 98, 99, 100, 101, 102, 103, 104, 105, 106, 107, 108, 109, 110, 111, 112, 113, 114, 115, 116, 117, 118, 119, 120, 121, 122, 123, 124, 125, 126, 127, 128, 129, 130] (by decide +kernel) (by decide +kernel)
set_option maxRecDepth 20000 in
theorem gX10_mixCustom_X10_customNow : GoodIn wsX10_mixCustom (wsV RX10 110 RX10 yX10_customNow wsX10_customNow) := goodIn_app (goodIn_of _ (by decide +kernel)) ggX10_mixCustom_X10_customNow
set_option maxRecDepth 20000 in
theorem ggX10_mixCustom_X10_mix : GoodIn wsX10_mixCustom wsX10_mix := goodIn_r _ [12, 13, 14, 96, 97, 98, 99, 100, 101, 102, 103, 104, 105, 106, 107, 108, 109, 110, 111, 112, 113, 114, 115, 116, 117, 118, 119, 120, 121, 122, 123, 124, 125, 126, 127, 128, 129, 130] (by decide +kernel) (by decide +kernel)
set_option maxRecDepth 20000 in
theorem gX10_mixCustom_X10_mix : GoodIn wsX10_mixCustom (wsV RX10 287 RX10 yX10_mix wsX10_mix) := goodIn_app (goodIn_of _ (by decide +kernel)) ggX10_mixCustom_X10_mix
set_option maxRecDepth 20000 in
theorem ggX10_mixCustom_X10_wouldOf : GoodIn wsX10_mixCustom wsX10_wouldOf := goodIn_r _ [18, 19, 20, 21, 22, 4, 23, 24, 25, 26, 27, 28, 29, 30, 31, 32, 33, 34, 35, 36, 37, 38, 39, 40, 8, 41, 42, 43, 44, 45, 46, 47, 48, 49, 50, 51, 52, 53, 6, 54, 55, 56, 57, 58, 59, 60, 61, 62, 63, 64, 65, 66, 67, 68, 69, 70, 71, 72, 73, 74, 75, 76, 77, 78, 79, 80, 81, 82, 83, 7, 84, 85, 86, 87, 88, 89, 90, 91, 92, 93, 94, 95, 96, 97, 98, 99, 100, 101, 102, 103, 104, 105, 106, 107, 108, 109, 110, 111, 112, 113, 114, 115, 116, 117, 118, 119, 120, 121, 122, 123, 124, 125, 126, 127, 128, 129, 130] (by decide +kernel) (by decide +kernel)
set_option maxRecDepth 20000 in
theorem gX10_mixCustom_X10_wouldOf : GoodIn wsX10_mixCustom (wsV RX10 208 RX10 yX10_wouldOf wsX10_wouldOf) := goodIn_app (goodIn_of _ (by decide +kernel)) ggX10_mixCustom_X10_wouldOf
theorem dX10_mixCustom_0 : decode cX10_mixCustom 0 = .ok (.iconst 0, 1) := by decide +kernel
theorem dX10_mixCustom_1 : decode cX10_mixCustom 1 = .ok (.istore_n 2, 1) := by decide +kernel
theorem dX10_mixCustom_2 : decode cX10_mixCustom 2 = .ok (.iload_n 2, 1) := by decide +kernel
theorem dX10_mixCustom_3 : decode cX10_mixCustom 3 = .ok (.iconst 3, 1) := by decide +kernel
theorem dX10_mixCustom_4 : decode cX10_mixCustom 4 = .ok (.if_icmp .ge 20, 3) := by decide +kernel
theorem dX10_mixCustom_7 : decode cX10_mixCustom 7 = .ok (.aload_n 0, 1) := by decide +kernel
theorem dX10_mixCustom_8 : decode cX10_mixCustom 8 = .ok (.aload_n 0, 1) := by decide +kernel
theorem dX10_mixCustom_9 : decode cX10_mixCustom 9 = .ok (.iload_n 1, 1) := by decide +kernel
theorem dX10_mixCustom_10 : decode cX10_mixCustom 10 = .ok (.iload_n 2, 1) := by decide +kernel
theorem dX10_mixCustom_11 : decode cX10_mixCustom 11 = .ok (.invokevirtual 110, 3) := by decide +kernel
theorem dX10_mixCustom_14 : decode cX10_mixCustom 14 = .ok (.i2l, 1) := by decide +kernel
theorem dX10_mixCustom_15 : decode cX10_mixCustom 15 = .ok (.invokevirtual 287, 3) := by decide +kernel
theorem dX10_mixCustom_18 : decode cX10_mixCustom 18 = .ok (.iinc 2 1, 3) := by decide +kernel
theorem dX10_mixCustom_21 : decode cX10_mixCustom 21 = .ok (.goto (-19), 3) := by decide +kernel
theorem dX10_mixCustom_24 : decode cX10_mixCustom 24 = .ok (.iconst 0, 1) := by decide +kernel
theorem dX10_mixCustom_25 : decode cX10_mixCustom 25 = .ok (.istore_n 2, 1) := by decide +kernel
theorem dX10_mixCustom_26 : decode cX10_mixCustom 26 = .ok (.iload_n 2, 1) := by decide +kernel
theorem dX10_mixCustom_27 : decode cX10_mixCustom 27 = .ok (.bipush 7, 2) := by decide +kernel
theorem dX10_mixCustom_29 : decode cX10_mixCustom 29 = .ok (.if_icmp .ge 21, 3) := by decide +kernel
theorem dX10_mixCustom_32 : decode cX10_mixCustom 32 = .ok (.aload_n 0, 1) := by decide +kernel
theorem dX10_mixCustom_33 : decode cX10_mixCustom 33 = .ok (.aload_n 0, 1) := by decide +kernel
theorem dX10_mixCustom_34 : decode cX10_mixCustom 34 = .ok (.iload_n 1, 1) := by decide +kernel
theorem dX10_mixCustom_35 : decode cX10_mixCustom 35 = .ok (.iload_n 2, 1) := by decide +kernel
theorem dX10_mixCustom_36 : decode cX10_mixCustom 36 = .ok (.iconst 2, 1) := by decide +kernel
theorem dX10_mixCustom_37 : decode cX10_mixCustom 37 = .ok (.invokevirtual 208, 3) := by decide +kernel
theorem dX10_mixCustom_40 : decode cX10_mixCustom 40 = .ok (.i2l, 1) := by decide +kernel
theorem dX10_mixCustom_41 : decode cX10_mixCustom 41 = .ok (.invokevirtual 287, 3) := by decide +kernel
theorem dX10_mixCustom_44 : decode cX10_mixCustom 44 = .ok (.iinc 2 1, 3) := by decide +kernel
theorem dX10_mixCustom_47 : decode cX10_mixCustom 47 = .ok (.goto (-21), 3) := by decide +kernel
theorem dX10_mixCustom_50 : decode cX10_mixCustom 50 = .ok (.return_, 1) := by decide +kernel
set_option maxRecDepth 20000 in
theorem ggX10_digest_X10_mix : GoodIn wsX10_digest wsX10_mix := goodIn_r _ [12, 13, 2, 148, 149, 150, 151, 152, 153, 154, 155, 156, 157, 158, 159, 160, 161, 162, 163, 164, 165, 166, 167, 168, 169, 170, 171, 172, 173, 174, 175, 176, 177, 178, 179, 180, 181, 182] (by decide +kernel) (by decide +kernel)
set_option maxRecDepth 20000 in
theorem gX10_digest_X10_mix : GoodIn wsX10_digest (wsV RX10 287 RX10 yX10_mix wsX10_mix) := goodIn_app (goodIn_of _ (by decide +kernel)) ggX10_digest_X10_mix
set_option maxRecDepth 20000 in
theorem ggX10_digest_X10_markOf : GoodIn wsX10_digest wsX10_markOf := goodIn_r _ [17, 3, 18, 148, 149, 150, 151, 152, 153, 154, 155, 156, 157, 158, 159, 160, 161, 162, 163, 164, 165, 166, 167, 168, 169, 170, 171, 172, 173, 174, 175, 176, 177, 178, 179, 180, 181, 182] (by decide +kernel) (by decide +kernel)
set_option maxRecDepth 20000 in
theorem gX10_digest_X10_markOf : GoodIn wsX10_digest (wsV RX10 157 RX10 yX10_markOf wsX10_markOf) := goodIn_app (goodIn_of _ (by decide +kernel)) ggX10_digest_X10_markOf
set_option maxRecDepth 20000 in
theorem ggX10_digest_X10_parishNow : GoodIn wsX10_digest wsX10_parishNow := goodIn_r _ [22, 23, 24, 25, 26, 27, 28, 29, 30, 11, 31, 148, 149, 150, 151, 152, 153, 154, 155, 156, 157, 158, 159, 160, 161, 162, 163, 164, 165, 166, 167, 168, 169, 170, 171, 172, 173, 174, 175, 176, 177, 178, 179, 180, 181, 182] (by decide +kernel) (by decide +kernel)
set_option maxRecDepth 20000 in
theorem gX10_digest_X10_parishNow : GoodIn wsX10_digest (wsV RX10 129 RX10 yX10_parishNow wsX10_parishNow) := goodIn_app (goodIn_of _ (by decide +kernel)) ggX10_digest_X10_parishNow
set_option maxRecDepth 20000 in
theorem ggX10_digest_X10_mixCustom : GoodIn wsX10_digest wsX10_mixCustom := goodIn_r _ [35, 36, 37, 38, 11, 39, 40, 41, 42, 8, 9, 10, 12, 13, 2, 43, 44, 45, 46, 3, 47, 48, 49, 50, 51, 52, 53, 18, 54, 55, 56, 57, 58, 59, 60, 61, 62, 4, 25, 26, 27, 63, 64, 65, 66, 67, 68, 69, 70, 71, 72, 73, 74, 75, 76, 77, 78, 79, 80, 81, 82, 83, 84, 85, 86, 87, 28, 29, 30, 31, 23, 24, 88, 89, 90, 91, 92, 93, 94, 95, 96, 97, 98, 99, 14, 15, 16, 17, 100, 101, 102, 103, 104, 105, 106, 107, 148, 149, 150, 151, 152, 153, 154, 155, 156, 157, 158, 159, 160, 161, 162, 163, 164, 165, 166, 167, 168, 169, 170, 171, 172, 173, 174, 175, 176, 177, 178, 179, 180, 181, 182] (by decide +kernel) (by decide +kernel)
set_option maxRecDepth 20000 in
theorem gX10_digest_X10_mixCustom : GoodIn wsX10_digest (wsV RX10 293 RX10 yX10_mixCustom wsX10_mixCustom) := goodIn_app (goodIn_of _ (by decide +kernel)) ggX10_digest_X10_mixCustom
set_option maxRecDepth 20000 in
theorem ggX10_digest_X10_boundsOf : GoodIn wsX10_digest wsX10_boundsOf := goodIn_r _ [111, 112, 113, 4, 114, 115, 116, 11, 117, 118, 119, 120, 121, 122, 123, 124, 25, 125, 126, 127, 128, 129, 130, 131, 26, 27, 132, 133, 134, 135, 23, 28, 29, 30, 31, 24, 136, 137, 138, 139, 148, 149, 150, 151, 152, 153, 154, 155, 156, 157, 158, 159, 160, 161, 162, 163, 164, 165, 166, 167, 168, 169, 170, 171, 172, 173, 174, 175, 176, 177, 178, 179, 180, 181, 182] (by decide +kernel) (by decide +kernel)
set_option maxRecDepth 20000 in
theorem gX10_digest_X10_boundsOf : GoodIn wsX10_digest (wsV RX10 264 RX10 yX10_boundsOf wsX10_boundsOf) := goodIn_app (goodIn_of _ (by decide +kernel)) ggX10_digest_X10_boundsOf
set_option maxRecDepth 20000 in
theorem ggX10_digest_X10_howMany : GoodIn wsX10_digest wsX10_howMany := goodIn_r _ [143, 4, 5, 54, 51, 55, 56, 57, 58, 6, 144, 145, 146, 11, 147, 3, 148, 149, 150, 151, 152, 153, 154, 155, 156, 157, 158, 159, 160, 161, 162, 163, 164, 165, 166, 167, 168, 169, 170, 171, 172, 173, 174, 175, 176, 177, 178, 179, 180, 181, 182] (by decide +kernel) (by decide +kernel)
set_option maxRecDepth 20000 in
theorem gX10_digest_X10_howMany : GoodIn wsX10_digest (wsV RX10 279 RX10 yX10_howMany wsX10_howMany) := goodIn_app (goodIn_of _ (by decide +kernel)) ggX10_digest_X10_howMany
theorem dX10_digest_0 : decode cX10_digest 0 = .ok (.aload_n 0, 1) := by decide +kernel
theorem dX10_digest_1 : decode cX10_digest 1 = .ok (.ldc2_w 291, 3) := by decide +kernel
theorem dX10_digest_4 : decode cX10_digest 4 = .ok (.putfield 284, 3) := by decide +kernel
theorem dX10_digest_7 : decode cX10_digest 7 = .ok (.iconst 0, 1) := by decide +kernel
theorem dX10_digest_8 : decode cX10_digest 8 = .ok (.istore_n 1, 1) := by decide +kernel
theorem dX10_digest_9 : decode cX10_digest 9 = .ok (.iload_n 1, 1) := by decide +kernel
theorem dX10_digest_10 : decode cX10_digest 10 = .ok (.bipush 7, 2) := by decide +kernel
theorem dX10_digest_12 : decode cX10_digest 12 = .ok (.if_icmp .ge 49, 3) := by decide +kernel
theorem dX10_digest_15 : decode cX10_digest 15 = .ok (.aload_n 0, 1) := by decide +kernel
theorem dX10_digest_16 : decode cX10_digest 16 = .ok (.aload_n 0, 1) := by decide +kernel
theorem dX10_digest_17 : decode cX10_digest 17 = .ok (.getfield 13, 3) := by decide +kernel
theorem dX10_digest_20 : decode cX10_digest 20 = .ok (.iload_n 1, 1) := by decide +kernel
theorem dX10_digest_21 : decode cX10_digest 21 = .ok (.iaload, 1) := by decide +kernel
theorem dX10_digest_22 : decode cX10_digest 22 = .ok (.i2l, 1) := by decide +kernel
theorem dX10_digest_23 : decode cX10_digest 23 = .ok (.invokevirtual 287, 3) := by decide +kernel
theorem dX10_digest_26 : decode cX10_digest 26 = .ok (.iconst 0, 1) := by decide +kernel
theorem dX10_digest_27 : decode cX10_digest 27 = .ok (.istore_n 2, 1) := by decide +kernel
theorem dX10_digest_28 : decode cX10_digest 28 = .ok (.iload_n 2, 1) := by decide +kernel
theorem dX10_digest_29 : decode cX10_digest 29 = .ok (.aload_n 0, 1) := by decide +kernel
theorem dX10_digest_30 : decode cX10_digest 30 = .ok (.getfield 13, 3) := by decide +kernel
theorem dX10_digest_33 : decode cX10_digest 33 = .ok (.iload_n 1, 1) := by decide +kernel
theorem dX10_digest_34 : decode cX10_digest 34 = .ok (.iaload, 1) := by decide +kernel
theorem dX10_digest_35 : decode cX10_digest 35 = .ok (.if_icmp .ge 20, 3) := by decide +kernel
theorem dX10_digest_38 : decode cX10_digest 38 = .ok (.aload_n 0, 1) := by decide +kernel
theorem dX10_digest_39 : decode cX10_digest 39 = .ok (.aload_n 0, 1) := by decide +kernel
theorem dX10_digest_40 : decode cX10_digest 40 = .ok (.iload_n 1, 1) := by decide +kernel
theorem dX10_digest_41 : decode cX10_digest 41 = .ok (.iload_n 2, 1) := by decide +kernel
theorem dX10_digest_42 : decode cX10_digest 42 = .ok (.invokevirtual 157, 3) := by decide +kernel
theorem dX10_digest_45 : decode cX10_digest 45 = .ok (.i2l, 1) := by decide +kernel
theorem dX10_digest_46 : decode cX10_digest 46 = .ok (.invokevirtual 287, 3) := by decide +kernel
theorem dX10_digest_49 : decode cX10_digest 49 = .ok (.iinc 2 1, 3) := by decide +kernel
theorem dX10_digest_52 : decode cX10_digest 52 = .ok (.goto (-24), 3) := by decide +kernel
theorem dX10_digest_55 : decode cX10_digest 55 = .ok (.iinc 1 1, 3) := by decide +kernel
theorem dX10_digest_58 : decode cX10_digest 58 = .ok (.goto (-49), 3) := by decide +kernel
theorem dX10_digest_61 : decode cX10_digest 61 = .ok (.iconst 0, 1) := by decide +kernel
theorem dX10_digest_62 : decode cX10_digest 62 = .ok (.istore_n 1, 1) := by decide +kernel
theorem dX10_digest_63 : decode cX10_digest 63 = .ok (.iload_n 1, 1) := by decide +kernel
theorem dX10_digest_64 : decode cX10_digest 64 = .ok (.aload_n 0, 1) := by decide +kernel
theorem dX10_digest_65 : decode cX10_digest 65 = .ok (.getfield 113, 3) := by decide +kernel
theorem dX10_digest_68 : decode cX10_digest 68 = .ok (.if_icmp .ge 34, 3) := by decide +kernel
theorem dX10_digest_71 : decode cX10_digest 71 = .ok (.iconst 0, 1) := by decide +kernel
theorem dX10_digest_72 : decode cX10_digest 72 = .ok (.istore_n 2, 1) := by decide +kernel
theorem dX10_digest_73 : decode cX10_digest 73 = .ok (.iload_n 2, 1) := by decide +kernel
theorem dX10_digest_74 : decode cX10_digest 74 = .ok (.bipush 6, 2) := by decide +kernel
theorem dX10_digest_76 : decode cX10_digest 76 = .ok (.if_icmp .ge 20, 3) := by decide +kernel
theorem dX10_digest_79 : decode cX10_digest 79 = .ok (.aload_n 0, 1) := by decide +kernel
theorem dX10_digest_80 : decode cX10_digest 80 = .ok (.aload_n 0, 1) := by decide +kernel
theorem dX10_digest_81 : decode cX10_digest 81 = .ok (.iload_n 1, 1) := by decide +kernel
theorem dX10_digest_82 : decode cX10_digest 82 = .ok (.iload_n 2, 1) := by decide +kernel
theorem dX10_digest_83 : decode cX10_digest 83 = .ok (.invokevirtual 129, 3) := by decide +kernel
theorem dX10_digest_86 : decode cX10_digest 86 = .ok (.i2l, 1) := by decide +kernel
theorem dX10_digest_87 : decode cX10_digest 87 = .ok (.invokevirtual 287, 3) := by decide +kernel
theorem dX10_digest_90 : decode cX10_digest 90 = .ok (.iinc 2 1, 3) := by decide +kernel
theorem dX10_digest_93 : decode cX10_digest 93 = .ok (.goto (-20), 3) := by decide +kernel
theorem dX10_digest_96 : decode cX10_digest 96 = .ok (.iinc 1 1, 3) := by decide +kernel
theorem dX10_digest_99 : decode cX10_digest 99 = .ok (.goto (-36), 3) := by decide +kernel
theorem dX10_digest_102 : decode cX10_digest 102 = .ok (.iconst 0, 1) := by decide +kernel
theorem dX10_digest_103 : decode cX10_digest 103 = .ok (.istore_n 1, 1) := by decide +kernel
theorem dX10_digest_104 : decode cX10_digest 104 = .ok (.iload_n 1, 1) := by decide +kernel
theorem dX10_digest_105 : decode cX10_digest 105 = .ok (.aload_n 0, 1) := by decide +kernel
theorem dX10_digest_106 : decode cX10_digest 106 = .ok (.getfield 103, 3) := by decide +kernel
theorem dX10_digest_109 : decode cX10_digest 109 = .ok (.if_icmp .ge 14, 3) := by decide +kernel
theorem dX10_digest_112 : decode cX10_digest 112 = .ok (.aload_n 0, 1) := by decide +kernel
theorem dX10_digest_113 : decode cX10_digest 113 = .ok (.iload_n 1, 1) := by decide +kernel
theorem dX10_digest_114 : decode cX10_digest 114 = .ok (.invokevirtual 293, 3) := by decide +kernel
theorem dX10_digest_117 : decode cX10_digest 117 = .ok (.iinc 1 1, 3) := by decide +kernel
theorem dX10_digest_120 : decode cX10_digest 120 = .ok (.goto (-16), 3) := by decide +kernel
theorem dX10_digest_123 : decode cX10_digest 123 = .ok (.iconst 0, 1) := by decide +kernel
theorem dX10_digest_124 : decode cX10_digest 124 = .ok (.istore_n 1, 1) := by decide +kernel
theorem dX10_digest_125 : decode cX10_digest 125 = .ok (.iload_n 1, 1) := by decide +kernel
theorem dX10_digest_126 : decode cX10_digest 126 = .ok (.iconst 4, 1) := by decide +kernel
theorem dX10_digest_127 : decode cX10_digest 127 = .ok (.if_icmp .ge 20, 3) := by decide +kernel
theorem dX10_digest_130 : decode cX10_digest 130 = .ok (.aload_n 0, 1) := by decide +kernel
theorem dX10_digest_131 : decode cX10_digest 131 = .ok (.aload_n 0, 1) := by decide +kernel
theorem dX10_digest_132 : decode cX10_digest 132 = .ok (.iconst 1, 1) := by decide +kernel
theorem dX10_digest_133 : decode cX10_digest 133 = .ok (.iload_n 1, 1) := by decide +kernel
theorem dX10_digest_134 : decode cX10_digest 134 = .ok (.invokevirtual 264, 3) := by decide +kernel
theorem dX10_digest_137 : decode cX10_digest 137 = .ok (.i2l, 1) := by decide +kernel
theorem dX10_digest_138 : decode cX10_digest 138 = .ok (.invokevirtual 287, 3) := by decide +kernel
theorem dX10_digest_141 : decode cX10_digest 141 = .ok (.iinc 1 1, 3) := by decide +kernel
theorem dX10_digest_144 : decode cX10_digest 144 = .ok (.goto (-19), 3) := by decide +kernel
theorem dX10_digest_147 : decode cX10_digest 147 = .ok (.iconst 0, 1) := by decide +kernel
theorem dX10_digest_148 : decode cX10_digest 148 = .ok (.istore_n 1, 1) := by decide +kernel
theorem dX10_digest_149 : decode cX10_digest 149 = .ok (.iload_n 1, 1) := by decide +kernel
theorem dX10_digest_150 : decode cX10_digest 150 = .ok (.aload_n 0, 1) := by decide +kernel
theorem dX10_digest_151 : decode cX10_digest 151 = .ok (.getfield 68, 3) := by decide +kernel
theorem dX10_digest_154 : decode cX10_digest 154 = .ok (.if_icmp .ge 20, 3) := by decide +kernel
theorem dX10_digest_157 : decode cX10_digest 157 = .ok (.aload_n 0, 1) := by decide +kernel
theorem dX10_digest_158 : decode cX10_digest 158 = .ok (.aload_n 0, 1) := by decide +kernel
theorem dX10_digest_159 : decode cX10_digest 159 = .ok (.getfield 44, 3) := by decide +kernel
theorem dX10_digest_162 : decode cX10_digest 162 = .ok (.iload_n 1, 1) := by decide +kernel
theorem dX10_digest_163 : decode cX10_digest 163 = .ok (.baload, 1) := by decide +kernel
theorem dX10_digest_164 : decode cX10_digest 164 = .ok (.i2l, 1) := by decide +kernel
theorem dX10_digest_165 : decode cX10_digest 165 = .ok (.invokevirtual 287, 3) := by decide +kernel
theorem dX10_digest_168 : decode cX10_digest 168 = .ok (.iinc 1 1, 3) := by decide +kernel
theorem dX10_digest_171 : decode cX10_digest 171 = .ok (.goto (-22), 3) := by decide +kernel
theorem dX10_digest_174 : decode cX10_digest 174 = .ok (.iconst 0, 1) := by decide +kernel
theorem dX10_digest_175 : decode cX10_digest 175 = .ok (.istore_n 1, 1) := by decide +kernel
theorem dX10_digest_176 : decode cX10_digest 176 = .ok (.iload_n 1, 1) := by decide +kernel
theorem dX10_digest_177 : decode cX10_digest 177 = .ok (.bipush 10, 2) := by decide +kernel
theorem dX10_digest_179 : decode cX10_digest 179 = .ok (.if_icmp .ge 19, 3) := by decide +kernel
theorem dX10_digest_182 : decode cX10_digest 182 = .ok (.aload_n 0, 1) := by decide +kernel
theorem dX10_digest_183 : decode cX10_digest 183 = .ok (.aload_n 0, 1) := by decide +kernel
theorem dX10_digest_184 : decode cX10_digest 184 = .ok (.iload_n 1, 1) := by decide +kernel
theorem dX10_digest_185 : decode cX10_digest 185 = .ok (.invokevirtual 279, 3) := by decide +kernel
theorem dX10_digest_188 : decode cX10_digest 188 = .ok (.i2l, 1) := by decide +kernel
theorem dX10_digest_189 : decode cX10_digest 189 = .ok (.invokevirtual 287, 3) := by decide +kernel
theorem dX10_digest_192 : decode cX10_digest 192 = .ok (.iinc 1 1, 3) := by decide +kernel
theorem dX10_digest_195 : decode cX10_digest 195 = .ok (.goto (-19), 3) := by decide +kernel
theorem dX10_digest_198 : decode cX10_digest 198 = .ok (.aload_n 0, 1) := by decide +kernel
theorem dX10_digest_199 : decode cX10_digest 199 = .ok (.getfield 284, 3) := by decide +kernel
theorem dX10_digest_202 : decode cX10_digest 202 = .ok (.lreturn, 1) := by decide +kernel
theorem dJ9_abs_0f7a4_0 : decode cJ9_abs_0f7a4 0 = .ok (.iload_n 0, 1) := by decide +kernel
theorem dJ9_abs_0f7a4_1 : decode cJ9_abs_0f7a4 1 = .ok (.ifCond .ge 8, 3) := by decide +kernel
theorem dJ9_abs_0f7a4_4 : decode cJ9_abs_0f7a4 4 = .ok (.iload_n 0, 1) := by decide +kernel
theorem dJ9_abs_0f7a4_5 : decode cJ9_abs_0f7a4 5 = .ok (.ineg, 1) := by decide +kernel
theorem dJ9_abs_0f7a4_6 : decode cJ9_abs_0f7a4 6 = .ok (.goto 4, 3) := by decide +kernel
theorem dJ9_abs_0f7a4_9 : decode cJ9_abs_0f7a4 9 = .ok (.iload_n 0, 1) := by decide +kernel
theorem dJ9_abs_0f7a4_10 : decode cJ9_abs_0f7a4 10 = .ok (.ireturn, 1) := by decide +kernel
theorem dJ9_min_7cf53_0 : decode cJ9_min_7cf53 0 = .ok (.iload_n 0, 1) := by decide +kernel
theorem dJ9_min_7cf53_1 : decode cJ9_min_7cf53 1 = .ok (.iload_n 1, 1) := by decide +kernel
theorem dJ9_min_7cf53_2 : decode cJ9_min_7cf53 2 = .ok (.if_icmp .gt 7, 3) := by decide +kernel
theorem dJ9_min_7cf53_5 : decode cJ9_min_7cf53 5 = .ok (.iload_n 0, 1) := by decide +kernel
theorem dJ9_min_7cf53_6 : decode cJ9_min_7cf53 6 = .ok (.goto 4, 3) := by decide +kernel
theorem dJ9_min_7cf53_9 : decode cJ9_min_7cf53 9 = .ok (.iload_n 1, 1) := by decide +kernel
theorem dJ9_min_7cf53_10 : decode cJ9_min_7cf53 10 = .ok (.ireturn, 1) := by decide +kernel
theorem dJ7_fill_53178_0 : decode cJ7_fill_53178 0 = .ok (.iconst 0, 1) := by decide +kernel
theorem dJ7_fill_53178_1 : decode cJ7_fill_53178 1 = .ok (.istore_n 2, 1) := by decide +kernel
theorem dJ7_fill_53178_2 : decode cJ7_fill_53178 2 = .ok (.aload_n 0, 1) := by decide +kernel
theorem dJ7_fill_53178_3 : decode cJ7_fill_53178 3 = .ok (.arraylength, 1) := by decide +kernel
theorem dJ7_fill_53178_4 : decode cJ7_fill_53178 4 = .ok (.istore_n 3, 1) := by decide +kernel
theorem dJ7_fill_53178_5 : decode cJ7_fill_53178 5 = .ok (.iload_n 2, 1) := by decide +kernel
theorem dJ7_fill_53178_6 : decode cJ7_fill_53178 6 = .ok (.iload_n 3, 1) := by decide +kernel
theorem dJ7_fill_53178_7 : decode cJ7_fill_53178 7 = .ok (.if_icmp .ge 13, 3) := by decide +kernel
theorem dJ7_fill_53178_10 : decode cJ7_fill_53178 10 = .ok (.aload_n 0, 1) := by decide +kernel
theorem dJ7_fill_53178_11 : decode cJ7_fill_53178 11 = .ok (.iload_n 2, 1) := by decide +kernel
theorem dJ7_fill_53178_12 : decode cJ7_fill_53178 12 = .ok (.iload_n 1, 1) := by decide +kernel
theorem dJ7_fill_53178_13 : decode cJ7_fill_53178 13 = .ok (.iastore, 1) := by decide +kernel
theorem dJ7_fill_53178_14 : decode cJ7_fill_53178 14 = .ok (.iinc 2 1, 3) := by decide +kernel
theorem dJ7_fill_53178_17 : decode cJ7_fill_53178 17 = .ok (.goto (-12), 3) := by decide +kernel
theorem dJ7_fill_53178_20 : decode cJ7_fill_53178 20 = .ok (.return_, 1) := by decide +kernel
