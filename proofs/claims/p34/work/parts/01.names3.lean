theorem dX4_lettersIn_31 : decode cX4_lettersIn 31 = .ok (.if_icmp .ge 5, 3) := by decide +kernel
theorem dX4_lettersIn_34 : decode cX4_lettersIn 34 = .ok (.iconst (-1), 1) := by decide +kernel
theorem dX4_lettersIn_35 : decode cX4_lettersIn 35 = .ok (.ireturn, 1) := by decide +kernel
theorem dX4_lettersIn_36 : decode cX4_lettersIn 36 = .ok (.iload 4, 2) := by decide +kernel
theorem dX4_lettersIn_38 : decode cX4_lettersIn 38 = .ok (.ifCond .eq 6, 3) := by decide +kernel
theorem dX4_lettersIn_41 : decode cX4_lettersIn 41 = .ok (.iinc 2 1, 3) := by decide +kernel
theorem dX4_lettersIn_44 : decode cX4_lettersIn 44 = .ok (.iinc 3 1, 3) := by decide +kernel
theorem dX4_lettersIn_47 : decode cX4_lettersIn 47 = .ok (.goto (-43), 3) := by decide +kernel
theorem dX4_lettersIn_50 : decode cX4_lettersIn 50 = .ok (.iload_n 2, 1) := by decide +kernel
theorem dX4_lettersIn_51 : decode cX4_lettersIn 51 = .ok (.ireturn, 1) := by decide +kernel
theorem dX4_codeAt_0 : decode cX4_codeAt 0 = .ok (.lload_n 0, 1) := by decide +kernel
theorem dX4_codeAt_1 : decode cX4_codeAt 1 = .ok (.bipush 8, 2) := by decide +kernel
theorem dX4_codeAt_3 : decode cX4_codeAt 3 = .ok (.iload_n 2, 1) := by decide +kernel
theorem dX4_codeAt_4 : decode cX4_codeAt 4 = .ok (.imul, 1) := by decide +kernel
theorem dX4_codeAt_5 : decode cX4_codeAt 5 = .ok (.lushr, 1) := by decide +kernel
theorem dX4_codeAt_6 : decode cX4_codeAt 6 = .ok (.ldc2_w 19, 3) := by decide +kernel
theorem dX4_codeAt_9 : decode cX4_codeAt 9 = .ok (.land, 1) := by decide +kernel
theorem dX4_codeAt_10 : decode cX4_codeAt 10 = .ok (.l2i, 1) := by decide +kernel
theorem dX4_codeAt_11 : decode cX4_codeAt 11 = .ok (.ireturn, 1) := by decide +kernel
set_option maxRecDepth 20000 in
theorem ggX4_write_X4_codeAt : GoodIn wsX4_write wsX4_codeAt := goodIn_r _ [6, 7] (by decide +kernel) (by decide +kernel)
set_option maxRecDepth 20000 in
theorem gX4_write_X4_codeAt : GoodIn wsX4_write (va_wsS RX4 15 yX4_codeAt wsX4_codeAt) := goodIn_app (goodIn_of _ (by decide +kernel)) ggX4_write_X4_codeAt
theorem dX4_write_0 : decode cX4_write 0 = .ok (.iconst 0, 1) := by decide +kernel
theorem dX4_write_1 : decode cX4_write 1 = .ok (.istore 4, 2) := by decide +kernel
theorem dX4_write_3 : decode cX4_write 3 = .ok (.iload 4, 2) := by decide +kernel
theorem dX4_write_5 : decode cX4_write 5 = .ok (.iload_n 3, 1) := by decide +kernel
theorem dX4_write_6 : decode cX4_write 6 = .ok (.if_icmp .ge 50, 3) := by decide +kernel
theorem dX4_write_9 : decode cX4_write 9 = .ok (.aload_n 0, 1) := by decide +kernel
theorem dX4_write_10 : decode cX4_write 10 = .ok (.getfield 21, 3) := by decide +kernel
theorem dX4_write_13 : decode cX4_write 13 = .ok (.ifCond .lt 43, 3) := by decide +kernel
theorem dX4_write_16 : decode cX4_write 16 = .ok (.aload_n 0, 1) := by decide +kernel
theorem dX4_write_17 : decode cX4_write 17 = .ok (.getfield 21, 3) := by decide +kernel
theorem dX4_write_20 : decode cX4_write 20 = .ok (.bipush 16, 2) := by decide +kernel
theorem dX4_write_22 : decode cX4_write 22 = .ok (.if_icmp .ge 34, 3) := by decide +kernel
theorem dX4_write_25 : decode cX4_write 25 = .ok (.aload_n 0, 1) := by decide +kernel
theorem dX4_write_26 : decode cX4_write 26 = .ok (.getfield 9, 3) := by decide +kernel
theorem dX4_write_29 : decode cX4_write 29 = .ok (.aload_n 0, 1) := by decide +kernel
theorem dX4_write_30 : decode cX4_write 30 = .ok (.getfield 21, 3) := by decide +kernel
theorem dX4_write_33 : decode cX4_write 33 = .ok (.lload_n 1, 1) := by decide +kernel
theorem dX4_write_34 : decode cX4_write 34 = .ok (.iload 4, 2) := by decide +kernel
theorem dX4_write_36 : decode cX4_write 36 = .ok (.invokestatic 15, 3) := by decide +kernel
theorem dX4_write_39 : decode cX4_write 39 = .ok (.iastore, 1) := by decide +kernel
theorem dX4_write_40 : decode cX4_write 40 = .ok (.aload_n 0, 1) := by decide +kernel
theorem dX4_write_41 : decode cX4_write 41 = .ok (.dup, 1) := by decide +kernel
theorem dX4_write_42 : decode cX4_write 42 = .ok (.getfield 21, 3) := by decide +kernel
theorem dX4_write_45 : decode cX4_write 45 = .ok (.iconst 1, 1) := by decide +kernel
theorem dX4_write_46 : decode cX4_write 46 = .ok (.iadd, 1) := by decide +kernel
theorem dX4_write_47 : decode cX4_write 47 = .ok (.putfield 21, 3) := by decide +kernel
theorem dX4_write_50 : decode cX4_write 50 = .ok (.iinc 4 1, 3) := by decide +kernel
theorem dX4_write_53 : decode cX4_write 53 = .ok (.goto (-50), 3) := by decide +kernel
theorem dX4_write_56 : decode cX4_write 56 = .ok (.return_, 1) := by decide +kernel
set_option maxRecDepth 20000 in
theorem ggX4_firstWrong_X4_codeOf : GoodIn wsX4_firstWrong wsX4_codeOf := goodIn_r _ [6, 7, 14, 15] (by decide +kernel) (by decide +kernel)
set_option maxRecDepth 20000 in
theorem gX4_firstWrong_X4_codeOf : GoodIn wsX4_firstWrong (wsV RX4 25 RX4 yX4_codeOf wsX4_codeOf) := goodIn_app (goodIn_of _ (by decide +kernel)) ggX4_firstWrong_X4_codeOf
set_option maxRecDepth 20000 in
theorem ggX4_firstWrong_X4_fits : GoodIn wsX4_firstWrong wsX4_fits := goodIn_r _ [10, 11, 12, 5, 13] (by decide +kernel) (by decide +kernel)
set_option maxRecDepth 20000 in
theorem gX4_firstWrong_X4_fits : GoodIn wsX4_firstWrong (va_wsS RX4 29 yX4_fits wsX4_fits) := goodIn_app (goodIn_of _ (by decide +kernel)) ggX4_firstWrong_X4_fits
theorem dX4_firstWrong_0 : decode cX4_firstWrong 0 = .ok (.iconst 0, 1) := by decide +kernel
theorem dX4_firstWrong_1 : decode cX4_firstWrong 1 = .ok (.istore_n 1, 1) := by decide +kernel
theorem dX4_firstWrong_2 : decode cX4_firstWrong 2 = .ok (.iload_n 1, 1) := by decide +kernel
theorem dX4_firstWrong_3 : decode cX4_firstWrong 3 = .ok (.aload_n 0, 1) := by decide +kernel
theorem dX4_firstWrong_4 : decode cX4_firstWrong 4 = .ok (.getfield 21, 3) := by decide +kernel
theorem dX4_firstWrong_7 : decode cX4_firstWrong 7 = .ok (.if_icmp .ge 23, 3) := by decide +kernel
theorem dX4_firstWrong_10 : decode cX4_firstWrong 10 = .ok (.iload_n 1, 1) := by decide +kernel
theorem dX4_firstWrong_11 : decode cX4_firstWrong 11 = .ok (.aload_n 0, 1) := by decide +kernel
theorem dX4_firstWrong_12 : decode cX4_firstWrong 12 = .ok (.iload_n 1, 1) := by decide +kernel
theorem dX4_firstWrong_13 : decode cX4_firstWrong 13 = .ok (.invokevirtual 25, 3) := by decide +kernel
theorem dX4_firstWrong_16 : decode cX4_firstWrong 16 = .ok (.invokestatic 29, 3) := by decide +kernel
theorem dX4_firstWrong_19 : decode cX4_firstWrong 19 = .ok (.ifCond .ne 5, 3) := by decide +kernel
theorem dX4_firstWrong_22 : decode cX4_firstWrong 22 = .ok (.iload_n 1, 1) := by decide +kernel
theorem dX4_firstWrong_23 : decode cX4_firstWrong 23 = .ok (.ireturn, 1) := by decide +kernel
theorem dX4_firstWrong_24 : decode cX4_firstWrong 24 = .ok (.iinc 1 1, 3) := by decide +kernel
theorem dX4_firstWrong_27 : decode cX4_firstWrong 27 = .ok (.goto (-25), 3) := by decide +kernel
theorem dX4_firstWrong_30 : decode cX4_firstWrong 30 = .ok (.aload_n 0, 1) := by decide +kernel
theorem dX4_firstWrong_31 : decode cX4_firstWrong 31 = .ok (.getfield 21, 3) := by decide +kernel
theorem dX4_firstWrong_34 : decode cX4_firstWrong 34 = .ok (.ireturn, 1) := by decide +kernel
set_option maxRecDepth 20000 in
theorem ggX4_isCustom_X4_firstWrong : GoodIn wsX4_isCustom wsX4_firstWrong := goodIn_r _ [6, 1, 7, 8, 9, 5, 10, 11, 12, 13, 14, 15, 16, 17, 18, 19] (by decide +kernel) (by decide +kernel)
set_option maxRecDepth 20000 in
theorem gX4_isCustom_X4_firstWrong : GoodIn wsX4_isCustom (wsV RX4 33 RX4 yX4_firstWrong wsX4_firstWrong) := goodIn_app (goodIn_of _ (by decide +kernel)) ggX4_isCustom_X4_firstWrong
theorem dX4_isCustom_0 : decode cX4_isCustom 0 = .ok (.aload_n 0, 1) := by decide +kernel
theorem dX4_isCustom_1 : decode cX4_isCustom 1 = .ok (.getfield 21, 3) := by decide +kernel
theorem dX4_isCustom_4 : decode cX4_isCustom 4 = .ok (.iconst 4, 1) := by decide +kernel
theorem dX4_isCustom_5 : decode cX4_isCustom 5 = .ok (.if_icmp .eq 12, 3) := by decide +kernel
theorem dX4_isCustom_8 : decode cX4_isCustom 8 = .ok (.aload_n 0, 1) := by decide +kernel
theorem dX4_isCustom_9 : decode cX4_isCustom 9 = .ok (.getfield 21, 3) := by decide +kernel
theorem dX4_isCustom_12 : decode cX4_isCustom 12 = .ok (.bipush 6, 2) := by decide +kernel
theorem dX4_isCustom_14 : decode cX4_isCustom 14 = .ok (.if_icmp .ne 18, 3) := by decide +kernel
theorem dX4_isCustom_17 : decode cX4_isCustom 17 = .ok (.aload_n 0, 1) := by decide +kernel
theorem dX4_isCustom_18 : decode cX4_isCustom 18 = .ok (.invokevirtual 33, 3) := by decide +kernel
theorem dX4_isCustom_21 : decode cX4_isCustom 21 = .ok (.aload_n 0, 1) := by decide +kernel
theorem dX4_isCustom_22 : decode cX4_isCustom 22 = .ok (.getfield 21, 3) := by decide +kernel
theorem dX4_isCustom_25 : decode cX4_isCustom 25 = .ok (.if_icmp .ne 7, 3) := by decide +kernel
theorem dX4_isCustom_28 : decode cX4_isCustom 28 = .ok (.iconst 1, 1) := by decide +kernel
theorem dX4_isCustom_29 : decode cX4_isCustom 29 = .ok (.goto 4, 3) := by decide +kernel
theorem dX4_isCustom_32 : decode cX4_isCustom 32 = .ok (.iconst 0, 1) := by decide +kernel
theorem dX4_isCustom_33 : decode cX4_isCustom 33 = .ok (.ireturn, 1) := by decide +kernel
set_option maxRecDepth 20000 in
theorem ggX4_asCustom_X4_codeOf : GoodIn wsX4_asCustom wsX4_codeOf := goodIn_r _ [9, 10, 23, 24] (by decide +kernel) (by decide +kernel)
set_option maxRecDepth 20000 in
theorem gX4_asCustom_X4_codeOf : GoodIn wsX4_asCustom (wsV RX4 25 RX4 yX4_codeOf wsX4_codeOf) := goodIn_app (goodIn_of _ (by decide +kernel)) ggX4_asCustom_X4_codeOf
set_option maxRecDepth 20000 in
theorem ggX4_asCustom_X4_ruleOf : GoodIn wsX4_asCustom wsX4_ruleOf := goodIn_r _ [13] (by decide +kernel) (by decide +kernel)
set_option maxRecDepth 20000 in
theorem gX4_asCustom_X4_ruleOf : GoodIn wsX4_asCustom (va_wsS RX4 39 yX4_ruleOf wsX4_ruleOf) := goodIn_app (goodIn_of _ (by decide +kernel)) ggX4_asCustom_X4_ruleOf
set_option maxRecDepth 20000 in
theorem ggX4_asCustom_X1_init : GoodIn wsX4_asCustom wsX1_init := goodIn_r _ [16, 17, 18, 19, 20, 21, 22, 25, 26, 27] (by decide +kernel) (by decide +kernel)
set_option maxRecDepth 20000 in
theorem gX4_asCustom_X1_init : GoodIn wsX4_asCustom (wsX1_init) := ggX4_asCustom_X1_init
theorem dX4_asCustom_0 : decode cX4_asCustom 0 = .ok (.aload_n 0, 1) := by decide +kernel
theorem dX4_asCustom_1 : decode cX4_asCustom 1 = .ok (.getfield 21, 3) := by decide +kernel
theorem dX4_asCustom_4 : decode cX4_asCustom 4 = .ok (.bipush 6, 2) := by decide +kernel
theorem dX4_asCustom_6 : decode cX4_asCustom 6 = .ok (.if_icmp .ne 14, 3) := by decide +kernel
theorem dX4_asCustom_9 : decode cX4_asCustom 9 = .ok (.aload_n 0, 1) := by decide +kernel
theorem dX4_asCustom_10 : decode cX4_asCustom 10 = .ok (.iconst 5, 1) := by decide +kernel
theorem dX4_asCustom_11 : decode cX4_asCustom 11 = .ok (.invokevirtual 25, 3) := by decide +kernel
theorem dX4_asCustom_14 : decode cX4_asCustom 14 = .ok (.bipush 48, 2) := by decide +kernel
theorem dX4_asCustom_16 : decode cX4_asCustom 16 = .ok (.isub, 1) := by decide +kernel
theorem dX4_asCustom_17 : decode cX4_asCustom 17 = .ok (.goto 4, 3) := by decide +kernel
theorem dX4_asCustom_20 : decode cX4_asCustom 20 = .ok (.iconst 0, 1) := by decide +kernel
theorem dX4_asCustom_21 : decode cX4_asCustom 21 = .ok (.istore_n 1, 1) := by decide +kernel
theorem dX4_asCustom_22 : decode cX4_asCustom 22 = .ok (.new 37, 3) := by decide +kernel
theorem dX4_asCustom_25 : decode cX4_asCustom 25 = .ok (.dup, 1) := by decide +kernel
theorem dX4_asCustom_26 : decode cX4_asCustom 26 = .ok (.aload_n 0, 1) := by decide +kernel
theorem dX4_asCustom_27 : decode cX4_asCustom 27 = .ok (.iconst 1, 1) := by decide +kernel
theorem dX4_asCustom_28 : decode cX4_asCustom 28 = .ok (.invokevirtual 25, 3) := by decide +kernel
theorem dX4_asCustom_31 : decode cX4_asCustom 31 = .ok (.invokestatic 39, 3) := by decide +kernel
theorem dX4_asCustom_34 : decode cX4_asCustom 34 = .ok (.aload_n 0, 1) := by decide +kernel
theorem dX4_asCustom_35 : decode cX4_asCustom 35 = .ok (.iconst 3, 1) := by decide +kernel
theorem dX4_asCustom_36 : decode cX4_asCustom 36 = .ok (.invokevirtual 25, 3) := by decide +kernel
theorem dX4_asCustom_39 : decode cX4_asCustom 39 = .ok (.invokestatic 39, 3) := by decide +kernel
theorem dX4_asCustom_42 : decode cX4_asCustom 42 = .ok (.iload_n 1, 1) := by decide +kernel
theorem dX4_asCustom_43 : decode cX4_asCustom 43 = .ok (.invokespecial 42, 3) := by decide +kernel
theorem dX4_asCustom_46 : decode cX4_asCustom 46 = .ok (.areturn, 1) := by decide +kernel
theorem dX4_codeOf_0 : decode cX4_codeOf 0 = .ok (.iload_n 1, 1) := by decide +kernel
theorem dX4_codeOf_1 : decode cX4_codeOf 1 = .ok (.ifCond .lt 9, 3) := by decide +kernel
theorem dX4_codeOf_4 : decode cX4_codeOf 4 = .ok (.iload_n 1, 1) := by decide +kernel
theorem dX4_codeOf_5 : decode cX4_codeOf 5 = .ok (.bipush 16, 2) := by decide +kernel
theorem dX4_codeOf_7 : decode cX4_codeOf 7 = .ok (.if_icmp .lt 7, 3) := by decide +kernel
theorem dX4_codeOf_10 : decode cX4_codeOf 10 = .ok (.iconst 0, 1) := by decide +kernel
theorem dX4_codeOf_11 : decode cX4_codeOf 11 = .ok (.goto 9, 3) := by decide +kernel
theorem dX4_codeOf_14 : decode cX4_codeOf 14 = .ok (.aload_n 0, 1) := by decide +kernel
theorem dX4_codeOf_15 : decode cX4_codeOf 15 = .ok (.getfield 9, 3) := by decide +kernel
theorem dX4_codeOf_18 : decode cX4_codeOf 18 = .ok (.iload_n 1, 1) := by decide +kernel
theorem dX4_codeOf_19 : decode cX4_codeOf 19 = .ok (.iaload, 1) := by decide +kernel
theorem dX4_codeOf_20 : decode cX4_codeOf 20 = .ok (.ireturn, 1) := by decide +kernel
set_option maxRecDepth 20000 in
theorem ggX4_fits_X4_ruleOf : GoodIn wsX4_fits wsX4_ruleOf := goodIn_r _ [4] (by decide +kernel) (by decide +kernel)
set_option maxRecDepth 20000 in
theorem gX4_fits_X4_ruleOf : GoodIn wsX4_fits (va_wsS RX4 39 yX4_ruleOf wsX4_ruleOf) := goodIn_app (goodIn_of _ (by decide +kernel)) ggX4_fits_X4_ruleOf
theorem dX4_fits_0 : decode cX4_fits 0 = .ok (.iload_n 0, 1) := by decide +kernel
theorem dX4_fits_1 : decode cX4_fits 1 = .ok (.tableswitch 121 0 5 #[39, 51, 65, 77, 91, 103], 39) := by decide +kernel
theorem dX4_fits_40 : decode cX4_fits 40 = .ok (.iload_n 1, 1) := by decide +kernel
theorem dX4_fits_41 : decode cX4_fits 41 = .ok (.bipush 119, 2) := by decide +kernel
theorem dX4_fits_43 : decode cX4_fits 43 = .ok (.if_icmp .ne 7, 3) := by decide +kernel
theorem dX4_fits_46 : decode cX4_fits 46 = .ok (.iconst 1, 1) := by decide +kernel
theorem dX4_fits_47 : decode cX4_fits 47 = .ok (.goto 4, 3) := by decide +kernel
theorem dX4_fits_50 : decode cX4_fits 50 = .ok (.iconst 0, 1) := by decide +kernel
theorem dX4_fits_51 : decode cX4_fits 51 = .ok (.ireturn, 1) := by decide +kernel
theorem dX4_fits_52 : decode cX4_fits 52 = .ok (.iload_n 1, 1) := by decide +kernel
theorem dX4_fits_53 : decode cX4_fits 53 = .ok (.invokestatic 39, 3) := by decide +kernel
theorem dX4_fits_56 : decode cX4_fits 56 = .ok (.iconst (-1), 1) := by decide +kernel
theorem dX4_fits_57 : decode cX4_fits 57 = .ok (.if_icmp .eq 7, 3) := by decide +kernel
theorem dX4_fits_60 : decode cX4_fits 60 = .ok (.iconst 1, 1) := by decide +kernel
theorem dX4_fits_61 : decode cX4_fits 61 = .ok (.goto 4, 3) := by decide +kernel
theorem dX4_fits_64 : decode cX4_fits 64 = .ok (.iconst 0, 1) := by decide +kernel
theorem dX4_fits_65 : decode cX4_fits 65 = .ok (.ireturn, 1) := by decide +kernel
theorem dX4_fits_66 : decode cX4_fits 66 = .ok (.iload_n 1, 1) := by decide +kernel
theorem dX4_fits_67 : decode cX4_fits 67 = .ok (.bipush 115, 2) := by decide +kernel
theorem dX4_fits_69 : decode cX4_fits 69 = .ok (.if_icmp .ne 7, 3) := by decide +kernel
theorem dX4_fits_72 : decode cX4_fits 72 = .ok (.iconst 1, 1) := by decide +kernel
theorem dX4_fits_73 : decode cX4_fits 73 = .ok (.goto 4, 3) := by decide +kernel
theorem dX4_fits_76 : decode cX4_fits 76 = .ok (.iconst 0, 1) := by decide +kernel
theorem dX4_fits_77 : decode cX4_fits 77 = .ok (.ireturn, 1) := by decide +kernel
theorem dX4_fits_78 : decode cX4_fits 78 = .ok (.iload_n 1, 1) := by decide +kernel
theorem dX4_fits_79 : decode cX4_fits 79 = .ok (.invokestatic 39, 3) := by decide +kernel
theorem dX4_fits_82 : decode cX4_fits 82 = .ok (.iconst (-1), 1) := by decide +kernel
theorem dX4_fits_83 : decode cX4_fits 83 = .ok (.if_icmp .eq 7, 3) := by decide +kernel
theorem dX4_fits_86 : decode cX4_fits 86 = .ok (.iconst 1, 1) := by decide +kernel
theorem dX4_fits_87 : decode cX4_fits 87 = .ok (.goto 4, 3) := by decide +kernel
theorem dX4_fits_90 : decode cX4_fits 90 = .ok (.iconst 0, 1) := by decide +kernel
theorem dX4_fits_91 : decode cX4_fits 91 = .ok (.ireturn, 1) := by decide +kernel
theorem dX4_fits_92 : decode cX4_fits 92 = .ok (.iload_n 1, 1) := by decide +kernel
theorem dX4_fits_93 : decode cX4_fits 93 = .ok (.bipush 102, 2) := by decide +kernel
theorem dX4_fits_95 : decode cX4_fits 95 = .ok (.if_icmp .ne 7, 3) := by decide +kernel
theorem dX4_fits_98 : decode cX4_fits 98 = .ok (.iconst 1, 1) := by decide +kernel
theorem dX4_fits_99 : decode cX4_fits 99 = .ok (.goto 4, 3) := by decide +kernel
theorem dX4_fits_102 : decode cX4_fits 102 = .ok (.iconst 0, 1) := by decide +kernel
theorem dX4_fits_103 : decode cX4_fits 103 = .ok (.ireturn, 1) := by decide +kernel
theorem dX4_fits_104 : decode cX4_fits 104 = .ok (.iload_n 1, 1) := by decide +kernel
theorem dX4_fits_105 : decode cX4_fits 105 = .ok (.bipush 49, 2) := by decide +kernel
theorem dX4_fits_107 : decode cX4_fits 107 = .ok (.if_icmp .lt 13, 3) := by decide +kernel
theorem dX4_fits_110 : decode cX4_fits 110 = .ok (.iload_n 1, 1) := by decide +kernel
theorem dX4_fits_111 : decode cX4_fits 111 = .ok (.bipush 57, 2) := by decide +kernel
theorem dX4_fits_113 : decode cX4_fits 113 = .ok (.if_icmp .gt 7, 3) := by decide +kernel
theorem dX4_fits_116 : decode cX4_fits 116 = .ok (.iconst 1, 1) := by decide +kernel
theorem dX4_fits_117 : decode cX4_fits 117 = .ok (.goto 4, 3) := by decide +kernel
theorem dX4_fits_120 : decode cX4_fits 120 = .ok (.iconst 0, 1) := by decide +kernel
theorem dX4_fits_121 : decode cX4_fits 121 = .ok (.ireturn, 1) := by decide +kernel
theorem dX4_fits_122 : decode cX4_fits 122 = .ok (.iconst 0, 1) := by decide +kernel
theorem dX4_fits_123 : decode cX4_fits 123 = .ok (.ireturn, 1) := by decide +kernel
theorem dX4_ruleOf_0 : decode cX4_ruleOf 0 = .ok (.iload_n 0, 1) := by decide +kernel
theorem dX4_ruleOf_1 : decode cX4_ruleOf 1 = .ok (.bipush 48, 2) := by decide +kernel
theorem dX4_ruleOf_3 : decode cX4_ruleOf 3 = .ok (.if_icmp .lt 14, 3) := by decide +kernel
theorem dX4_ruleOf_6 : decode cX4_ruleOf 6 = .ok (.iload_n 0, 1) := by decide +kernel
theorem dX4_ruleOf_7 : decode cX4_ruleOf 7 = .ok (.bipush 54, 2) := by decide +kernel
theorem dX4_ruleOf_9 : decode cX4_ruleOf 9 = .ok (.if_icmp .gt 8, 3) := by decide +kernel
theorem dX4_ruleOf_12 : decode cX4_ruleOf 12 = .ok (.iload_n 0, 1) := by decide +kernel
theorem dX4_ruleOf_13 : decode cX4_ruleOf 13 = .ok (.bipush 48, 2) := by decide +kernel
theorem dX4_ruleOf_15 : decode cX4_ruleOf 15 = .ok (.isub, 1) := by decide +kernel
theorem dX4_ruleOf_16 : decode cX4_ruleOf 16 = .ok (.ireturn, 1) := by decide +kernel
theorem dX4_ruleOf_17 : decode cX4_ruleOf 17 = .ok (.iload_n 0, 1) := by decide +kernel
theorem dX4_ruleOf_18 : decode cX4_ruleOf 18 = .ok (.tableswitch 46 108 112 #[37, 34, 43, 46, 40], 34) := by decide +kernel
theorem dX4_ruleOf_52 : decode cX4_ruleOf 52 = .ok (.bipush 7, 2) := by decide +kernel
theorem dX4_ruleOf_54 : decode cX4_ruleOf 54 = .ok (.ireturn, 1) := by decide +kernel
theorem dX4_ruleOf_55 : decode cX4_ruleOf 55 = .ok (.bipush 8, 2) := by decide +kernel
theorem dX4_ruleOf_57 : decode cX4_ruleOf 57 = .ok (.ireturn, 1) := by decide +kernel
theorem dX4_ruleOf_58 : decode cX4_ruleOf 58 = .ok (.bipush 9, 2) := by decide +kernel
theorem dX4_ruleOf_60 : decode cX4_ruleOf 60 = .ok (.ireturn, 1) := by decide +kernel
theorem dX4_ruleOf_61 : decode cX4_ruleOf 61 = .ok (.bipush 10, 2) := by decide +kernel
theorem dX4_ruleOf_63 : decode cX4_ruleOf 63 = .ok (.ireturn, 1) := by decide +kernel
theorem dX4_ruleOf_64 : decode cX4_ruleOf 64 = .ok (.iconst (-1), 1) := by decide +kernel
theorem dX4_ruleOf_65 : decode cX4_ruleOf 65 = .ok (.ireturn, 1) := by decide +kernel
theorem dX5_init_0 : decode cX5_init 0 = .ok (.aload_n 0, 1) := by decide +kernel
theorem dX5_init_1 : decode cX5_init 1 = .ok (.invokespecial 3, 3) := by decide +kernel
theorem dX5_init_4 : decode cX5_init 4 = .ok (.aload_n 0, 1) := by decide +kernel
theorem dX5_init_5 : decode cX5_init 5 = .ok (.iload_n 1, 1) := by decide +kernel
theorem dX5_init_6 : decode cX5_init 6 = .ok (.putfield 9, 3) := by decide +kernel
theorem dX5_init_9 : decode cX5_init 9 = .ok (.return_, 1) := by decide +kernel
theorem dX5_gift_0 : decode cX5_gift 0 = .ok (.iconst 1, 1) := by decide +kernel
theorem dX5_gift_1 : decode cX5_gift 1 = .ok (.ireturn, 1) := by decide +kernel
theorem dX5_hidesOn_0 : decode cX5_hidesOn 0 = .ok (.iconst (-1), 1) := by decide +kernel
theorem dX5_hidesOn_1 : decode cX5_hidesOn 1 = .ok (.ireturn, 1) := by decide +kernel
theorem dX5_sinsAtMost_0 : decode cX5_sinsAtMost 0 = .ok (.iconst 0, 1) := by decide +kernel
theorem dX5_sinsAtMost_1 : decode cX5_sinsAtMost 1 = .ok (.ireturn, 1) := by decide +kernel
set_option maxRecDepth 20000 in
theorem ggX6_init_X5_init : GoodIn wsX6_init wsX5_init := goodIn_r _ [4, 5, 6, 7, 8, 9, 10, 11, 12, 13, 14, 15, 16, 17, 18, 19, 20, 21, 22, 23, 24] (by decide +kernel) (by decide +kernel)
set_option maxRecDepth 20000 in
theorem gX6_init_X5_init : GoodIn wsX6_init (wsX5_init) := ggX6_init_X5_init
theorem dX6_init_0 : decode cX6_init 0 = .ok (.aload_n 0, 1) := by decide +kernel
theorem dX6_init_1 : decode cX6_init 1 = .ok (.iload_n 1, 1) := by decide +kernel
theorem dX6_init_2 : decode cX6_init 2 = .ok (.invokespecial 3, 3) := by decide +kernel
theorem dX6_init_5 : decode cX6_init 5 = .ok (.return_, 1) := by decide +kernel
theorem dX6_gift_0 : decode cX6_gift 0 = .ok (.aload_n 0, 1) := by decide +kernel
theorem dX6_gift_1 : decode cX6_gift 1 = .ok (.getfield 9, 3) := by decide +kernel
theorem dX6_gift_4 : decode cX6_gift 4 = .ok (.ireturn, 1) := by decide +kernel
set_option maxRecDepth 20000 in
theorem ggX7_init_X5_init : GoodIn wsX7_init wsX5_init := goodIn_r _ [4, 5, 6, 7, 8, 9, 10, 11, 12, 13, 14, 15, 16, 17, 18, 19, 20, 21, 22, 23, 24] (by decide +kernel) (by decide +kernel)
set_option maxRecDepth 20000 in
theorem gX7_init_X5_init : GoodIn wsX7_init (wsX5_init) := ggX7_init_X5_init
theorem dX7_init_0 : decode cX7_init 0 = .ok (.aload_n 0, 1) := by decide +kernel
theorem dX7_init_1 : decode cX7_init 1 = .ok (.iload_n 1, 1) := by decide +kernel
theorem dX7_init_2 : decode cX7_init 2 = .ok (.invokespecial 3, 3) := by decide +kernel
theorem dX7_init_5 : decode cX7_init 5 = .ok (.return_, 1) := by decide +kernel
theorem dX7_hidesOn_0 : decode cX7_hidesOn 0 = .ok (.aload_n 0, 1) := by decide +kernel
theorem dX7_hidesOn_1 : decode cX7_hidesOn 1 = .ok (.getfield 9, 3) := by decide +kernel
theorem dX7_hidesOn_4 : decode cX7_hidesOn 4 = .ok (.ireturn, 1) := by decide +kernel
theorem dX8_init_0 : decode cX8_init 0 = .ok (.aload_n 0, 1) := by decide +kernel
theorem dX8_init_1 : decode cX8_init 1 = .ok (.invokespecial 3, 3) := by decide +kernel
theorem dX8_init_4 : decode cX8_init 4 = .ok (.aload_n 0, 1) := by decide +kernel
theorem dX8_init_5 : decode cX8_init 5 = .ok (.sipush 271, 3) := by decide +kernel
theorem dX8_init_8 : decode cX8_init 8 = .ok (.newarray .int, 2) := by decide +kernel
theorem dX8_init_10 : decode cX8_init 10 = .ok (.putfield 11, 3) := by decide +kernel
theorem dX8_init_13 : decode cX8_init 13 = .ok (.aload_n 0, 1) := by decide +kernel
theorem dX8_init_14 : decode cX8_init 14 = .ok (.sipush 271, 3) := by decide +kernel
theorem dX8_init_17 : decode cX8_init 17 = .ok (.newarray .int, 2) := by decide +kernel
theorem dX8_init_19 : decode cX8_init 19 = .ok (.putfield 15, 3) := by decide +kernel
theorem dX8_init_22 : decode cX8_init 22 = .ok (.return_, 1) := by decide +kernel
set_option maxRecDepth 20000 in
theorem ggX9_init_X4_init : GoodIn wsX9_init wsX4_init := goodIn_r _ [25, 26, 2, 3, 18, 27, 39, 40] (by decide +kernel) (by decide +kernel)
set_option maxRecDepth 20000 in
theorem gX9_init_X4_init_n11 : GoodIn wsX9_init (wsX4_init) := ggX9_init_X4_init
set_option maxRecDepth 20000 in
theorem ggX9_init_X2_init : GoodIn wsX9_init wsX2_init := goodIn_r _ [29, 30, 2, 3, 18, 31, 32, 33, 52, 53, 54, 55, 56, 57, 58, 59] (by decide +kernel) (by decide +kernel)
set_option maxRecDepth 20000 in
theorem gX9_init_X2_init_n30 : GoodIn wsX9_init (wsX2_init) := ggX9_init_X2_init
set_option maxRecDepth 20000 in
theorem ggX9_init_X8_init : GoodIn wsX9_init wsX8_init := goodIn_r _ [35, 36, 2, 3, 18, 37, 38, 60, 61] (by decide +kernel) (by decide +kernel)
set_option maxRecDepth 20000 in
theorem gX9_init_X8_init_n47 : GoodIn wsX9_init (wsX8_init) := ggX9_init_X8_init
theorem dX9_init_0 : decode cX9_init 0 = .ok (.aload_n 0, 1) := by decide +kernel
theorem dX9_init_1 : decode cX9_init 1 = .ok (.invokespecial 3, 3) := by decide +kernel
theorem dX9_init_4 : decode cX9_init 4 = .ok (.aload_n 0, 1) := by decide +kernel
theorem dX9_init_5 : decode cX9_init 5 = .ok (.new 9, 3) := by decide +kernel
theorem dX9_init_8 : decode cX9_init 8 = .ok (.dup, 1) := by decide +kernel
theorem dX9_init_9 : decode cX9_init 9 = .ok (.invokespecial 11, 3) := by decide +kernel
theorem dX9_init_12 : decode cX9_init 12 = .ok (.putfield 12, 3) := by decide +kernel
theorem dX9_init_15 : decode cX9_init 15 = .ok (.aload_n 0, 1) := by decide +kernel
theorem dX9_init_16 : decode cX9_init 16 = .ok (.iconst 4, 1) := by decide +kernel
theorem dX9_init_17 : decode cX9_init 17 = .ok (.anewarray 16, 3) := by decide +kernel
theorem dX9_init_20 : decode cX9_init 20 = .ok (.putfield 18, 3) := by decide +kernel
theorem dX9_init_23 : decode cX9_init 23 = .ok (.aload_n 0, 1) := by decide +kernel
theorem dX9_init_24 : decode cX9_init 24 = .ok (.bipush 6, 2) := by decide +kernel
theorem dX9_init_26 : decode cX9_init 26 = .ok (.anewarray 22, 3) := by decide +kernel
theorem dX9_init_29 : decode cX9_init 29 = .ok (.putfield 24, 3) := by decide +kernel
theorem dX9_init_32 : decode cX9_init 32 = .ok (.aload_n 0, 1) := by decide +kernel
theorem dX9_init_33 : decode cX9_init 33 = .ok (.new 28, 3) := by decide +kernel
theorem dX9_init_36 : decode cX9_init 36 = .ok (.dup, 1) := by decide +kernel
theorem dX9_init_37 : decode cX9_init 37 = .ok (.invokespecial 30, 3) := by decide +kernel
theorem dX9_init_40 : decode cX9_init 40 = .ok (.putfield 31, 3) := by decide +kernel
theorem dX9_init_43 : decode cX9_init 43 = .ok (.aload_n 0, 1) := by decide +kernel
theorem dX9_init_44 : decode cX9_init 44 = .ok (.new 28, 3) := by decide +kernel
theorem dX9_init_47 : decode cX9_init 47 = .ok (.dup, 1) := by decide +kernel
theorem dX9_init_48 : decode cX9_init 48 = .ok (.invokespecial 30, 3) := by decide +kernel
theorem dX9_init_51 : decode cX9_init 51 = .ok (.putfield 35, 3) := by decide +kernel
theorem dX9_init_54 : decode cX9_init 54 = .ok (.aload_n 0, 1) := by decide +kernel
theorem dX9_init_55 : decode cX9_init 55 = .ok (.new 28, 3) := by decide +kernel
theorem dX9_init_58 : decode cX9_init 58 = .ok (.dup, 1) := by decide +kernel
theorem dX9_init_59 : decode cX9_init 59 = .ok (.invokespecial 30, 3) := by decide +kernel
theorem dX9_init_62 : decode cX9_init 62 = .ok (.putfield 38, 3) := by decide +kernel
theorem dX9_init_65 : decode cX9_init 65 = .ok (.aload_n 0, 1) := by decide +kernel
theorem dX9_init_66 : decode cX9_init 66 = .ok (.bipush 7, 2) := by decide +kernel
theorem dX9_init_68 : decode cX9_init 68 = .ok (.newarray .int, 2) := by decide +kernel
theorem dX9_init_70 : decode cX9_init 70 = .ok (.putfield 41, 3) := by decide +kernel
theorem dX9_init_73 : decode cX9_init 73 = .ok (.aload_n 0, 1) := by decide +kernel
theorem dX9_init_74 : decode cX9_init 74 = .ok (.new 45, 3) := by decide +kernel
theorem dX9_init_77 : decode cX9_init 77 = .ok (.dup, 1) := by decide +kernel
theorem dX9_init_78 : decode cX9_init 78 = .ok (.invokespecial 47, 3) := by decide +kernel
theorem dX9_init_81 : decode cX9_init 81 = .ok (.putfield 48, 3) := by decide +kernel
theorem dX9_init_84 : decode cX9_init 84 = .ok (.return_, 1) := by decide +kernel
set_option maxRecDepth 20000 in
theorem ggX9_letters_X4_lettersIn : GoodIn wsX9_letters wsX4_lettersIn := goodIn_r _ [6, 7, 8, 5, 9, 10] (by decide +kernel) (by decide +kernel)
set_option maxRecDepth 20000 in
theorem gX9_letters_X4_lettersIn : GoodIn wsX9_letters (va_wsS RX9 52 yX4_lettersIn wsX4_lettersIn) := goodIn_app (goodIn_of _ (by decide +kernel)) ggX9_letters_X4_lettersIn
set_option maxRecDepth 20000 in
theorem ggX9_letters_X4_write : GoodIn wsX9_letters wsX4_write := goodIn_r _ [14, 15, 16, 7, 8, 5, 9, 10, 28, 29] (by decide +kernel) (by decide +kernel)
set_option maxRecDepth 20000 in
theorem gX9_letters_X4_write : GoodIn wsX9_letters (wsV RX9 60 RX4 yX4_write wsX4_write) := goodIn_app (goodIn_of _ (by decide +kernel)) ggX9_letters_X4_write
theorem dX9_letters_0 : decode cX9_letters 0 = .ok (.lload_n 1, 1) := by decide +kernel
theorem dX9_letters_1 : decode cX9_letters 1 = .ok (.invokestatic 52, 3) := by decide +kernel
theorem dX9_letters_4 : decode cX9_letters 4 = .ok (.istore_n 3, 1) := by decide +kernel
theorem dX9_letters_5 : decode cX9_letters 5 = .ok (.iload_n 3, 1) := by decide +kernel
theorem dX9_letters_6 : decode cX9_letters 6 = .ok (.ifCond .ge 6, 3) := by decide +kernel
theorem dX9_letters_9 : decode cX9_letters 9 = .ok (.bipush (-102), 2) := by decide +kernel
theorem dX9_letters_11 : decode cX9_letters 11 = .ok (.ireturn, 1) := by decide +kernel
theorem dX9_letters_12 : decode cX9_letters 12 = .ok (.aload_n 0, 1) := by decide +kernel
theorem dX9_letters_13 : decode cX9_letters 13 = .ok (.getfield 12, 3) := by decide +kernel
theorem dX9_letters_16 : decode cX9_letters 16 = .ok (.getfield 56, 3) := by decide +kernel
theorem dX9_letters_19 : decode cX9_letters 19 = .ok (.iload_n 3, 1) := by decide +kernel
theorem dX9_letters_20 : decode cX9_letters 20 = .ok (.iadd, 1) := by decide +kernel
theorem dX9_letters_21 : decode cX9_letters 21 = .ok (.bipush 16, 2) := by decide +kernel
theorem dX9_letters_23 : decode cX9_letters 23 = .ok (.if_icmp .le 6, 3) := by decide +kernel
theorem dX9_letters_26 : decode cX9_letters 26 = .ok (.bipush (-104), 2) := by decide +kernel
theorem dX9_letters_28 : decode cX9_letters 28 = .ok (.ireturn, 1) := by decide +kernel
theorem dX9_letters_29 : decode cX9_letters 29 = .ok (.aload_n 0, 1) := by decide +kernel
theorem dX9_letters_30 : decode cX9_letters 30 = .ok (.getfield 12, 3) := by decide +kernel
theorem dX9_letters_33 : decode cX9_letters 33 = .ok (.lload_n 1, 1) := by decide +kernel
theorem dX9_letters_34 : decode cX9_letters 34 = .ok (.iload_n 3, 1) := by decide +kernel
theorem dX9_letters_35 : decode cX9_letters 35 = .ok (.invokevirtual 60, 3) := by decide +kernel
theorem dX9_letters_38 : decode cX9_letters 38 = .ok (.aload_n 0, 1) := by decide +kernel
theorem dX9_letters_39 : decode cX9_letters 39 = .ok (.getfield 12, 3) := by decide +kernel
theorem dX9_letters_42 : decode cX9_letters 42 = .ok (.getfield 56, 3) := by decide +kernel
theorem dX9_letters_45 : decode cX9_letters 45 = .ok (.ireturn, 1) := by decide +kernel
set_option maxRecDepth 20000 in
theorem ggX9_fault_X4_firstWrong : GoodIn wsX9_fault wsX4_firstWrong := goodIn_r _ [6, 7, 8, 9, 10, 5, 11, 12, 13, 14, 15, 16, 17, 18, 30, 31] (by decide +kernel) (by decide +kernel)
set_option maxRecDepth 20000 in
theorem gX9_fault_X4_firstWrong : GoodIn wsX9_fault (wsV RX9 64 RX4 yX4_firstWrong wsX4_firstWrong) := goodIn_app (goodIn_of _ (by decide +kernel)) ggX9_fault_X4_firstWrong
theorem dX9_fault_0 : decode cX9_fault 0 = .ok (.aload_n 0, 1) := by decide +kernel
theorem dX9_fault_1 : decode cX9_fault 1 = .ok (.getfield 12, 3) := by decide +kernel
theorem dX9_fault_4 : decode cX9_fault 4 = .ok (.invokevirtual 64, 3) := by decide +kernel
theorem dX9_fault_7 : decode cX9_fault 7 = .ok (.ireturn, 1) := by decide +kernel
set_option maxRecDepth 20000 in
theorem ggX9_custom_X4_isCustom : GoodIn wsX9_custom wsX4_isCustom := goodIn_r _ [9, 10, 11, 12, 13, 8, 14, 15, 16, 17, 18, 19, 20, 21, 22, 23, 24, 25, 53, 54] (by decide +kernel) (by decide +kernel)
set_option maxRecDepth 20000 in
theorem gX9_custom_X4_isCustom : GoodIn wsX9_custom (wsV RX9 68 RX4 yX4_isCustom wsX4_isCustom) := goodIn_app (goodIn_of _ (by decide +kernel)) ggX9_custom_X4_isCustom
set_option maxRecDepth 20000 in
theorem ggX9_custom_X4_asCustom : GoodIn wsX9_custom wsX4_asCustom := goodIn_r _ [29, 10, 30, 31, 32, 15, 16, 17, 8, 18, 19, 23, 24, 25, 33, 34, 35, 36, 37, 38, 39, 40, 41, 53, 54, 55, 56, 57] (by decide +kernel) (by decide +kernel)
set_option maxRecDepth 20000 in
theorem gX9_custom_X4_asCustom : GoodIn wsX9_custom (wsV RX9 75 RX4 yX4_asCustom wsX4_asCustom) := goodIn_app (goodIn_of _ (by decide +kernel)) ggX9_custom_X4_asCustom
theorem dX9_custom_0 : decode cX9_custom 0 = .ok (.aload_n 0, 1) := by decide +kernel
theorem dX9_custom_1 : decode cX9_custom 1 = .ok (.getfield 12, 3) := by decide +kernel
theorem dX9_custom_4 : decode cX9_custom 4 = .ok (.invokevirtual 68, 3) := by decide +kernel
theorem dX9_custom_7 : decode cX9_custom 7 = .ok (.ifCond .ne 6, 3) := by decide +kernel
theorem dX9_custom_10 : decode cX9_custom 10 = .ok (.bipush (-103), 2) := by decide +kernel
theorem dX9_custom_12 : decode cX9_custom 12 = .ok (.ireturn, 1) := by decide +kernel
theorem dX9_custom_13 : decode cX9_custom 13 = .ok (.aload_n 0, 1) := by decide +kernel
theorem dX9_custom_14 : decode cX9_custom 14 = .ok (.getfield 72, 3) := by decide +kernel
theorem dX9_custom_17 : decode cX9_custom 17 = .ok (.ifCond .lt 11, 3) := by decide +kernel
theorem dX9_custom_20 : decode cX9_custom 20 = .ok (.aload_n 0, 1) := by decide +kernel
theorem dX9_custom_21 : decode cX9_custom 21 = .ok (.getfield 72, 3) := by decide +kernel
theorem dX9_custom_24 : decode cX9_custom 24 = .ok (.iconst 4, 1) := by decide +kernel
theorem dX9_custom_25 : decode cX9_custom 25 = .ok (.if_icmp .lt 6, 3) := by decide +kernel
theorem dX9_custom_28 : decode cX9_custom 28 = .ok (.bipush (-104), 2) := by decide +kernel
theorem dX9_custom_30 : decode cX9_custom 30 = .ok (.ireturn, 1) := by decide +kernel
theorem dX9_custom_31 : decode cX9_custom 31 = .ok (.aload_n 0, 1) := by decide +kernel
theorem dX9_custom_32 : decode cX9_custom 32 = .ok (.getfield 18, 3) := by decide +kernel
theorem dX9_custom_35 : decode cX9_custom 35 = .ok (.aload_n 0, 1) := by decide +kernel
theorem dX9_custom_36 : decode cX9_custom 36 = .ok (.getfield 72, 3) := by decide +kernel
theorem dX9_custom_39 : decode cX9_custom 39 = .ok (.aload_n 0, 1) := by decide +kernel
theorem dX9_custom_40 : decode cX9_custom 40 = .ok (.getfield 12, 3) := by decide +kernel
theorem dX9_custom_43 : decode cX9_custom 43 = .ok (.invokevirtual 75, 3) := by decide +kernel
theorem dX9_custom_46 : decode cX9_custom 46 = .ok (.aastore, 1) := by decide +kernel
theorem dX9_custom_47 : decode cX9_custom 47 = .ok (.aload_n 0, 1) := by decide +kernel
theorem dX9_custom_48 : decode cX9_custom 48 = .ok (.getfield 12, 3) := by decide +kernel
theorem dX9_custom_51 : decode cX9_custom 51 = .ok (.iconst 0, 1) := by decide +kernel
theorem dX9_custom_52 : decode cX9_custom 52 = .ok (.putfield 56, 3) := by decide +kernel
theorem dX9_custom_55 : decode cX9_custom 55 = .ok (.aload_n 0, 1) := by decide +kernel
theorem dX9_custom_56 : decode cX9_custom 56 = .ok (.dup, 1) := by decide +kernel
theorem dX9_custom_57 : decode cX9_custom 57 = .ok (.getfield 72, 3) := by decide +kernel
theorem dX9_custom_60 : decode cX9_custom 60 = .ok (.iconst 1, 1) := by decide +kernel
theorem dX9_custom_61 : decode cX9_custom 61 = .ok (.iadd, 1) := by decide +kernel
theorem dX9_custom_62 : decode cX9_custom 62 = .ok (.putfield 72, 3) := by decide +kernel
theorem dX9_custom_65 : decode cX9_custom 65 = .ok (.aload_n 0, 1) := by decide +kernel
theorem dX9_custom_66 : decode cX9_custom 66 = .ok (.getfield 72, 3) := by decide +kernel
theorem dX9_custom_69 : decode cX9_custom 69 = .ok (.iconst 1, 1) := by decide +kernel
theorem dX9_custom_70 : decode cX9_custom 70 = .ok (.isub, 1) := by decide +kernel
theorem dX9_custom_71 : decode cX9_custom 71 = .ok (.ireturn, 1) := by decide +kernel
set_option maxRecDepth 20000 in
theorem ggX9_customTold_X9_customAt : GoodIn wsX9_customTold wsX9_customAt := goodIn_r _ [5, 6, 15, 16, 17, 18, 19, 20, 21, 22, 23, 24, 25] (by decide +kernel) (by decide +kernel)
set_option maxRecDepth 20000 in
theorem gX9_customTold_X9_customAt : GoodIn wsX9_customTold (wsV RX9 79 RX9 yX9_customAt wsX9_customAt) := goodIn_app (goodIn_of _ (by decide +kernel)) ggX9_customTold_X9_customAt
set_option maxRecDepth 20000 in
theorem ggX9_customTold_X1_told : GoodIn wsX9_customTold wsX1_told := goodIn_r _ [11, 12, 13, 14, 26, 27, 28] (by decide +kernel) (by decide +kernel)
set_option maxRecDepth 20000 in
theorem gX9_customTold_X1_told : GoodIn wsX9_customTold (wsV RX9 83 RX1 yX1_told wsX1_told) := goodIn_app (goodIn_of _ (by decide +kernel)) ggX9_customTold_X1_told
theorem dX9_customTold_0 : decode cX9_customTold 0 = .ok (.aload_n 0, 1) := by decide +kernel
theorem dX9_customTold_1 : decode cX9_customTold 1 = .ok (.iload_n 1, 1) := by decide +kernel
theorem dX9_customTold_2 : decode cX9_customTold 2 = .ok (.invokevirtual 79, 3) := by decide +kernel
theorem dX9_customTold_5 : decode cX9_customTold 5 = .ok (.astore_n 3, 1) := by decide +kernel
theorem dX9_customTold_6 : decode cX9_customTold 6 = .ok (.aload_n 3, 1) := by decide +kernel
theorem dX9_customTold_7 : decode cX9_customTold 7 = .ok (.ifnonnull 6, 3) := by decide +kernel
theorem dX9_customTold_10 : decode cX9_customTold 10 = .ok (.bipush (-101), 2) := by decide +kernel
theorem dX9_customTold_12 : decode cX9_customTold 12 = .ok (.ireturn, 1) := by decide +kernel
theorem dX9_customTold_13 : decode cX9_customTold 13 = .ok (.iload_n 2, 1) := by decide +kernel
theorem dX9_customTold_14 : decode cX9_customTold 14 = .ok (.ifCond .lt 8, 3) := by decide +kernel
theorem dX9_customTold_17 : decode cX9_customTold 17 = .ok (.iload_n 2, 1) := by decide +kernel
theorem dX9_customTold_18 : decode cX9_customTold 18 = .ok (.iconst 2, 1) := by decide +kernel
theorem dX9_customTold_19 : decode cX9_customTold 19 = .ok (.if_icmp .le 6, 3) := by decide +kernel
theorem dX9_customTold_22 : decode cX9_customTold 22 = .ok (.bipush (-102), 2) := by decide +kernel
theorem dX9_customTold_24 : decode cX9_customTold 24 = .ok (.ireturn, 1) := by decide +kernel
theorem dX9_customTold_25 : decode cX9_customTold 25 = .ok (.aload_n 3, 1) := by decide +kernel
theorem dX9_customTold_26 : decode cX9_customTold 26 = .ok (.iload_n 2, 1) := by decide +kernel
theorem dX9_customTold_27 : decode cX9_customTold 27 = .ok (.invokevirtual 83, 3) := by decide +kernel
theorem dX9_customTold_30 : decode cX9_customTold 30 = .ok (.ireturn, 1) := by decide +kernel
set_option maxRecDepth 20000 in
theorem ggX9_parish_X9_isKindWith : GoodIn wsX9_parish wsX9_isKindWith := goodIn_r _ [9, 10, 11, 8, 12] (by decide +kernel) (by decide +kernel)
set_option maxRecDepth 20000 in
theorem gX9_parish_X9_isKindWith : GoodIn wsX9_parish (va_wsS RX9 87 yX9_isKindWith wsX9_isKindWith) := goodIn_app (goodIn_of _ (by decide +kernel)) ggX9_parish_X9_isKindWith
set_option maxRecDepth 20000 in
theorem ggX9_parish_X9_mayBe : GoodIn wsX9_parish wsX9_mayBe := goodIn_r _ [15] (by decide +kernel) (by decide +kernel)
set_option maxRecDepth 20000 in
theorem gX9_parish_X9_mayBe : GoodIn wsX9_parish (va_wsS RX9 91 yX9_mayBe wsX9_mayBe) := goodIn_app (goodIn_of _ (by decide +kernel)) ggX9_parish_X9_mayBe
set_option maxRecDepth 20000 in
theorem ggX9_parish_X9_madeOf : GoodIn wsX9_parish wsX9_madeOf := goodIn_r _ [18, 19, 20, 21, 22, 23, 24, 25, 26, 27, 28, 29, 30, 31, 32, 33, 34, 35, 36, 37, 38, 39, 40, 41, 42, 43, 44, 45, 46, 47, 48, 49, 69, 70, 71, 72, 73, 74, 75, 76, 61, 62, 63, 64, 65, 66, 67, 68] (by decide +kernel) (by decide +kernel)
set_option maxRecDepth 20000 in
theorem gX9_parish_X9_madeOf : GoodIn wsX9_parish (va_wsS RX9 97 yX9_madeOf wsX9_madeOf) := goodIn_app (goodIn_of _ (by decide +kernel)) ggX9_parish_X9_madeOf
theorem dX9_parish_0 : decode cX9_parish 0 = .ok (.iload_n 1, 1) := by decide +kernel
theorem dX9_parish_1 : decode cX9_parish 1 = .ok (.iload_n 2, 1) := by decide +kernel
theorem dX9_parish_2 : decode cX9_parish 2 = .ok (.invokestatic 87, 3) := by decide +kernel
theorem dX9_parish_5 : decode cX9_parish 5 = .ok (.ifCond .ne 6, 3) := by decide +kernel
theorem dX9_parish_8 : decode cX9_parish 8 = .ok (.bipush (-102), 2) := by decide +kernel
theorem dX9_parish_10 : decode cX9_parish 10 = .ok (.ireturn, 1) := by decide +kernel
theorem dX9_parish_11 : decode cX9_parish 11 = .ok (.iconst 2, 1) := by decide +kernel
theorem dX9_parish_12 : decode cX9_parish 12 = .ok (.iload_n 3, 1) := by decide +kernel
theorem dX9_parish_13 : decode cX9_parish 13 = .ok (.invokestatic 91, 3) := by decide +kernel
theorem dX9_parish_16 : decode cX9_parish 16 = .ok (.ifCond .eq 21, 3) := by decide +kernel
theorem dX9_parish_19 : decode cX9_parish 19 = .ok (.iconst 3, 1) := by decide +kernel
theorem dX9_parish_20 : decode cX9_parish 20 = .ok (.iload 4, 2) := by decide +kernel
theorem dX9_parish_22 : decode cX9_parish 22 = .ok (.invokestatic 91, 3) := by decide +kernel
theorem dX9_parish_25 : decode cX9_parish 25 = .ok (.ifCond .eq 12, 3) := by decide +kernel
theorem dX9_parish_28 : decode cX9_parish 28 = .ok (.iconst 4, 1) := by decide +kernel
theorem dX9_parish_29 : decode cX9_parish 29 = .ok (.iload 5, 2) := by decide +kernel
theorem dX9_parish_31 : decode cX9_parish 31 = .ok (.invokestatic 91, 3) := by decide +kernel
theorem dX9_parish_34 : decode cX9_parish 34 = .ok (.ifCond .ne 6, 3) := by decide +kernel
theorem dX9_parish_37 : decode cX9_parish 37 = .ok (.bipush (-102), 2) := by decide +kernel
theorem dX9_parish_39 : decode cX9_parish 39 = .ok (.ireturn, 1) := by decide +kernel
theorem dX9_parish_40 : decode cX9_parish 40 = .ok (.aload_n 0, 1) := by decide +kernel
theorem dX9_parish_41 : decode cX9_parish 41 = .ok (.getfield 94, 3) := by decide +kernel
theorem dX9_parish_44 : decode cX9_parish 44 = .ok (.ifCond .lt 12, 3) := by decide +kernel
theorem dX9_parish_47 : decode cX9_parish 47 = .ok (.aload_n 0, 1) := by decide +kernel
theorem dX9_parish_48 : decode cX9_parish 48 = .ok (.getfield 94, 3) := by decide +kernel
theorem dX9_parish_51 : decode cX9_parish 51 = .ok (.bipush 6, 2) := by decide +kernel
theorem dX9_parish_53 : decode cX9_parish 53 = .ok (.if_icmp .lt 6, 3) := by decide +kernel
theorem dX9_parish_56 : decode cX9_parish 56 = .ok (.bipush (-104), 2) := by decide +kernel
theorem dX9_parish_58 : decode cX9_parish 58 = .ok (.ireturn, 1) := by decide +kernel
theorem dX9_parish_59 : decode cX9_parish 59 = .ok (.iload_n 1, 1) := by decide +kernel
theorem dX9_parish_60 : decode cX9_parish 60 = .ok (.iload_n 2, 1) := by decide +kernel
theorem dX9_parish_61 : decode cX9_parish 61 = .ok (.invokestatic 97, 3) := by decide +kernel
theorem dX9_parish_64 : decode cX9_parish 64 = .ok (.astore 6, 2) := by decide +kernel
theorem dX9_parish_66 : decode cX9_parish 66 = .ok (.aload 6, 2) := by decide +kernel
theorem dX9_parish_68 : decode cX9_parish 68 = .ok (.iload_n 3, 1) := by decide +kernel
theorem dX9_parish_69 : decode cX9_parish 69 = .ok (.putfield 101, 3) := by decide +kernel
theorem dX9_parish_72 : decode cX9_parish 72 = .ok (.aload 6, 2) := by decide +kernel
theorem dX9_parish_74 : decode cX9_parish 74 = .ok (.iload 4, 2) := by decide +kernel
theorem dX9_parish_76 : decode cX9_parish 76 = .ok (.putfield 104, 3) := by decide +kernel
theorem dX9_parish_79 : decode cX9_parish 79 = .ok (.aload 6, 2) := by decide +kernel
theorem dX9_parish_81 : decode cX9_parish 81 = .ok (.iload 5, 2) := by decide +kernel
theorem dX9_parish_83 : decode cX9_parish 83 = .ok (.putfield 107, 3) := by decide +kernel
theorem dX9_parish_86 : decode cX9_parish 86 = .ok (.aload_n 0, 1) := by decide +kernel
theorem dX9_parish_87 : decode cX9_parish 87 = .ok (.getfield 24, 3) := by decide +kernel
theorem dX9_parish_90 : decode cX9_parish 90 = .ok (.aload_n 0, 1) := by decide +kernel
theorem dX9_parish_91 : decode cX9_parish 91 = .ok (.getfield 94, 3) := by decide +kernel
theorem dX9_parish_94 : decode cX9_parish 94 = .ok (.aload 6, 2) := by decide +kernel
theorem dX9_parish_96 : decode cX9_parish 96 = .ok (.aastore, 1) := by decide +kernel
theorem dX9_parish_97 : decode cX9_parish 97 = .ok (.aload_n 0, 1) := by decide +kernel
theorem dX9_parish_98 : decode cX9_parish 98 = .ok (.dup, 1) := by decide +kernel
theorem dX9_parish_99 : decode cX9_parish 99 = .ok (.getfield 94, 3) := by decide +kernel
theorem dX9_parish_102 : decode cX9_parish 102 = .ok (.iconst 1, 1) := by decide +kernel
theorem dX9_parish_103 : decode cX9_parish 103 = .ok (.iadd, 1) := by decide +kernel
theorem dX9_parish_104 : decode cX9_parish 104 = .ok (.putfield 94, 3) := by decide +kernel
theorem dX9_parish_107 : decode cX9_parish 107 = .ok (.aload_n 0, 1) := by decide +kernel
theorem dX9_parish_108 : decode cX9_parish 108 = .ok (.getfield 94, 3) := by decide +kernel
theorem dX9_parish_111 : decode cX9_parish 111 = .ok (.iconst 1, 1) := by decide +kernel
theorem dX9_parish_112 : decode cX9_parish 112 = .ok (.isub, 1) := by decide +kernel
theorem dX9_parish_113 : decode cX9_parish 113 = .ok (.ireturn, 1) := by decide +kernel
set_option maxRecDepth 20000 in
theorem ggX9_lay_X9_isCairn : GoodIn wsX9_lay wsX9_isCairn := goodIn_r _ [6] (by decide +kernel) (by decide +kernel)
set_option maxRecDepth 20000 in
theorem gX9_lay_X9_isCairn : GoodIn wsX9_lay (va_wsS RX9 119 yX9_isCairn wsX9_isCairn) := goodIn_app (goodIn_of _ (by decide +kernel)) ggX9_lay_X9_isCairn
set_option maxRecDepth 20000 in
theorem ggX9_lay_X2_layNew : GoodIn wsX9_lay wsX2_layNew := goodIn_r _ [11, 12, 13, 14, 15, 16, 10, 17, 18, 19, 20, 4, 5, 6, 32, 33, 34, 35, 36, 37, 38, 39] (by decide +kernel) (by decide +kernel)
set_option maxRecDepth 20000 in
theorem gX9_lay_X2_layNew : GoodIn wsX9_lay (wsV RX9 123 RX2 yX2_layNew wsX2_layNew) := goodIn_app (goodIn_of _ (by decide +kernel)) ggX9_lay_X2_layNew
theorem dX9_lay_0 : decode cX9_lay 0 = .ok (.iload_n 1, 1) := by decide +kernel
theorem dX9_lay_1 : decode cX9_lay 1 = .ok (.invokestatic 119, 3) := by decide +kernel
theorem dX9_lay_4 : decode cX9_lay 4 = .ok (.ifCond .ne 6, 3) := by decide +kernel
theorem dX9_lay_7 : decode cX9_lay 7 = .ok (.bipush (-101), 2) := by decide +kernel
theorem dX9_lay_9 : decode cX9_lay 9 = .ok (.ireturn, 1) := by decide +kernel
theorem dX9_lay_10 : decode cX9_lay 10 = .ok (.iload_n 2, 1) := by decide +kernel
theorem dX9_lay_11 : decode cX9_lay 11 = .ok (.iconst 1, 1) := by decide +kernel
theorem dX9_lay_12 : decode cX9_lay 12 = .ok (.if_icmp .lt 9, 3) := by decide +kernel
theorem dX9_lay_15 : decode cX9_lay 15 = .ok (.iload_n 2, 1) := by decide +kernel
theorem dX9_lay_16 : decode cX9_lay 16 = .ok (.bipush 60, 2) := by decide +kernel
theorem dX9_lay_18 : decode cX9_lay 18 = .ok (.if_icmp .le 6, 3) := by decide +kernel
theorem dX9_lay_21 : decode cX9_lay 21 = .ok (.bipush (-102), 2) := by decide +kernel
theorem dX9_lay_23 : decode cX9_lay 23 = .ok (.ireturn, 1) := by decide +kernel
theorem dX9_lay_24 : decode cX9_lay 24 = .ok (.aload_n 0, 1) := by decide +kernel
theorem dX9_lay_25 : decode cX9_lay 25 = .ok (.getfield 31, 3) := by decide +kernel
theorem dX9_lay_28 : decode cX9_lay 28 = .ok (.iload_n 1, 1) := by decide +kernel
theorem dX9_lay_29 : decode cX9_lay 29 = .ok (.iload_n 2, 1) := by decide +kernel
theorem dX9_lay_30 : decode cX9_lay 30 = .ok (.invokevirtual 123, 3) := by decide +kernel
theorem dX9_lay_33 : decode cX9_lay 33 = .ok (.aload_n 0, 1) := by decide +kernel
theorem dX9_lay_34 : decode cX9_lay 34 = .ok (.getfield 31, 3) := by decide +kernel
theorem dX9_lay_37 : decode cX9_lay 37 = .ok (.getfield 127, 3) := by decide +kernel
theorem dX9_lay_40 : decode cX9_lay 40 = .ok (.iload_n 1, 1) := by decide +kernel
theorem dX9_lay_41 : decode cX9_lay 41 = .ok (.iaload, 1) := by decide +kernel
theorem dX9_lay_42 : decode cX9_lay 42 = .ok (.ireturn, 1) := by decide +kernel
set_option maxRecDepth 20000 in
theorem ggX9_take_X9_isCairn : GoodIn wsX9_take wsX9_isCairn := goodIn_r _ [6] (by decide +kernel) (by decide +kernel)
set_option maxRecDepth 20000 in
theorem gX9_take_X9_isCairn : GoodIn wsX9_take (va_wsS RX9 119 yX9_isCairn wsX9_isCairn) := goodIn_app (goodIn_of _ (by decide +kernel)) ggX9_take_X9_isCairn
set_option maxRecDepth 20000 in
theorem ggX9_take_X2_takeOff : GoodIn wsX9_take wsX2_takeOff := goodIn_r _ [11, 12, 13, 14, 15, 16, 17, 4, 5, 6, 29, 30, 31, 32, 33, 34, 35, 36] (by decide +kernel) (by decide +kernel)
set_option maxRecDepth 20000 in
theorem gX9_take_X2_takeOff : GoodIn wsX9_take (wsV RX9 130 RX2 yX2_takeOff wsX2_takeOff) := goodIn_app (goodIn_of _ (by decide +kernel)) ggX9_take_X2_takeOff
theorem dX9_take_0 : decode cX9_take 0 = .ok (.iload_n 1, 1) := by decide +kernel
theorem dX9_take_1 : decode cX9_take 1 = .ok (.invokestatic 119, 3) := by decide +kernel
theorem dX9_take_4 : decode cX9_take 4 = .ok (.ifCond .ne 6, 3) := by decide +kernel
theorem dX9_take_7 : decode cX9_take 7 = .ok (.bipush (-101), 2) := by decide +kernel
theorem dX9_take_9 : decode cX9_take 9 = .ok (.ireturn, 1) := by decide +kernel
theorem dX9_take_10 : decode cX9_take 10 = .ok (.iload_n 2, 1) := by decide +kernel
theorem dX9_take_11 : decode cX9_take 11 = .ok (.iconst 1, 1) := by decide +kernel
theorem dX9_take_12 : decode cX9_take 12 = .ok (.if_icmp .lt 9, 3) := by decide +kernel
theorem dX9_take_15 : decode cX9_take 15 = .ok (.iload_n 2, 1) := by decide +kernel
theorem dX9_take_16 : decode cX9_take 16 = .ok (.bipush 60, 2) := by decide +kernel
theorem dX9_take_18 : decode cX9_take 18 = .ok (.if_icmp .le 6, 3) := by decide +kernel
theorem dX9_take_21 : decode cX9_take 21 = .ok (.bipush (-102), 2) := by decide +kernel
theorem dX9_take_23 : decode cX9_take 23 = .ok (.ireturn, 1) := by decide +kernel
theorem dX9_take_24 : decode cX9_take 24 = .ok (.aload_n 0, 1) := by decide +kernel
theorem dX9_take_25 : decode cX9_take 25 = .ok (.getfield 31, 3) := by decide +kernel
theorem dX9_take_28 : decode cX9_take 28 = .ok (.iload_n 1, 1) := by decide +kernel
theorem dX9_take_29 : decode cX9_take 29 = .ok (.iload_n 2, 1) := by decide +kernel
theorem dX9_take_30 : decode cX9_take 30 = .ok (.invokevirtual 130, 3) := by decide +kernel
theorem dX9_take_33 : decode cX9_take 33 = .ok (.aload_n 0, 1) := by decide +kernel
theorem dX9_take_34 : decode cX9_take 34 = .ok (.getfield 31, 3) := by decide +kernel
theorem dX9_take_37 : decode cX9_take 37 = .ok (.getfield 127, 3) := by decide +kernel
theorem dX9_take_40 : decode cX9_take 40 = .ok (.iload_n 1, 1) := by decide +kernel
theorem dX9_take_41 : decode cX9_take 41 = .ok (.iaload, 1) := by decide +kernel
theorem dX9_take_42 : decode cX9_take 42 = .ok (.ireturn, 1) := by decide +kernel
set_option maxRecDepth 20000 in
theorem ggX9_height_X9_isCairn : GoodIn wsX9_height wsX9_isCairn := goodIn_r _ [6] (by decide +kernel) (by decide +kernel)
set_option maxRecDepth 20000 in
theorem gX9_height_X9_isCairn : GoodIn wsX9_height (va_wsS RX9 119 yX9_isCairn wsX9_isCairn) := goodIn_app (goodIn_of _ (by decide +kernel)) ggX9_height_X9_isCairn
theorem dX9_height_0 : decode cX9_height 0 = .ok (.iload_n 1, 1) := by decide +kernel
theorem dX9_height_1 : decode cX9_height 1 = .ok (.invokestatic 119, 3) := by decide +kernel
theorem dX9_height_4 : decode cX9_height 4 = .ok (.ifCond .ne 6, 3) := by decide +kernel
theorem dX9_height_7 : decode cX9_height 7 = .ok (.bipush (-101), 2) := by decide +kernel
theorem dX9_height_9 : decode cX9_height 9 = .ok (.ireturn, 1) := by decide +kernel
theorem dX9_height_10 : decode cX9_height 10 = .ok (.aload_n 0, 1) := by decide +kernel
theorem dX9_height_11 : decode cX9_height 11 = .ok (.getfield 31, 3) := by decide +kernel
theorem dX9_height_14 : decode cX9_height 14 = .ok (.getfield 127, 3) := by decide +kernel
theorem dX9_height_17 : decode cX9_height 17 = .ok (.iload_n 1, 1) := by decide +kernel
theorem dX9_height_18 : decode cX9_height 18 = .ok (.iaload, 1) := by decide +kernel
theorem dX9_height_19 : decode cX9_height 19 = .ok (.ireturn, 1) := by decide +kernel
set_option maxRecDepth 20000 in
theorem ggX9_mark_X9_isCairn : GoodIn wsX9_mark wsX9_isCairn := goodIn_r _ [5] (by decide +kernel) (by decide +kernel)
set_option maxRecDepth 20000 in
theorem gX9_mark_X9_isCairn : GoodIn wsX9_mark (va_wsS RX9 119 yX9_isCairn wsX9_isCairn) := goodIn_app (goodIn_of _ (by decide +kernel)) ggX9_mark_X9_isCairn
set_option maxRecDepth 20000 in
theorem ggX9_mark_X2_markAt : GoodIn wsX9_mark wsX2_markAt := goodIn_r _ [10, 11, 12, 3, 4, 5, 24, 25, 26, 27, 28, 29, 30, 31] (by decide +kernel) (by decide +kernel)
set_option maxRecDepth 20000 in
theorem gX9_mark_X2_markAt : GoodIn wsX9_mark (wsV RX9 133 RX2 yX2_markAt wsX2_markAt) := goodIn_app (goodIn_of _ (by decide +kernel)) ggX9_mark_X2_markAt
theorem dX9_mark_0 : decode cX9_mark 0 = .ok (.iload_n 1, 1) := by decide +kernel
theorem dX9_mark_1 : decode cX9_mark 1 = .ok (.invokestatic 119, 3) := by decide +kernel
theorem dX9_mark_4 : decode cX9_mark 4 = .ok (.ifCond .ne 6, 3) := by decide +kernel
theorem dX9_mark_7 : decode cX9_mark 7 = .ok (.bipush (-101), 2) := by decide +kernel
theorem dX9_mark_9 : decode cX9_mark 9 = .ok (.ireturn, 1) := by decide +kernel
