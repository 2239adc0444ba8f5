theorem dX4_write_0 : decode cX4_write 0 = .ok (.iconst 0, 1) := by decide +kernel
theorem dX4_write_1 : decode cX4_write 1 = .ok (.istore 4, 2) := by decide +kernel
theorem dX4_write_3 : decode cX4_write 3 = .ok (.iload 4, 2) := by decide +kernel
theorem dX4_write_5 : decode cX4_write 5 = .ok (.iload_n 3, 1) := by decide +kernel
theorem dX4_write_6 : decode cX4_write 6 = .ok (.if_icmp .ge 50, 3) := by decide +kernel
theorem dX4_write_9 : decode cX4_write 9 = .ok (.aload_n 0, 1) := by decide +kernel
theorem dX4_write_10 : decode cX4_write 10 = .ok (.getfield 21, 3) := by decide +kernel
theorem dX4_write_13 : decode cX4_write 13 = .ok (.ifCond .lt 43, 3) := by decide +kernel
theorem dX4_write_16 : decode cX4_write 16 = .ok (.aload_n 0, 1) := by decide +kernel
theorem dX4_write_17 : decode cX4_write 17 = .ok (.getfield 21, 3) := by decide +kernel
theorem dX4_write_20 : decode cX4_write 20 = .ok (.bipush 16, 2) := by decide +kernel
theorem dX4_write_22 : decode cX4_write 22 = .ok (.if_icmp .ge 34, 3) := by decide +kernel
theorem dX4_write_25 : decode cX4_write 25 = .ok (.aload_n 0, 1) := by decide +kernel
theorem dX4_write_26 : decode cX4_write 26 = .ok (.getfield 9, 3) := by decide +kernel
theorem dX4_write_29 : decode cX4_write 29 = .ok (.aload_n 0, 1) := by decide +kernel
theorem dX4_write_30 : decode cX4_write 30 = .ok (.getfield 21, 3) := by decide +kernel
theorem dX4_write_33 : decode cX4_write 33 = .ok (.lload_n 1, 1) := by decide +kernel
theorem dX4_write_34 : decode cX4_write 34 = .ok (.iload 4, 2) := by decide +kernel
theorem dX4_write_36 : decode cX4_write 36 = .ok (.invokestatic 15, 3) := by decide +kernel
theorem dX4_write_39 : decode cX4_write 39 = .ok (.iastore, 1) := by decide +kernel
theorem dX4_write_40 : decode cX4_write 40 = .ok (.aload_n 0, 1) := by decide +kernel
theorem dX4_write_41 : decode cX4_write 41 = .ok (.dup, 1) := by decide +kernel
theorem dX4_write_42 : decode cX4_write 42 = .ok (.getfield 21, 3) := by decide +kernel
theorem dX4_write_45 : decode cX4_write 45 = .ok (.iconst 1, 1) := by decide +kernel
theorem dX4_write_46 : decode cX4_write 46 = .ok (.iadd, 1) := by decide +kernel
theorem dX4_write_47 : decode cX4_write 47 = .ok (.putfield 21, 3) := by decide +kernel
theorem dX4_write_50 : decode cX4_write 50 = .ok (.iinc 4 1, 3) := by decide +kernel
theorem dX4_write_53 : decode cX4_write 53 = .ok (.goto (-50), 3) := by decide +kernel
theorem dX4_write_56 : decode cX4_write 56 = .ok (.return_, 1) := by decide +kernel
set_option maxRecDepth 20000 in
theorem ggX4_firstWrong_X4_codeOf : GoodIn wsX4_firstWrong wsX4_codeOf := goodIn_r _ [6, 7, 14, 15] (by decide +kernel) (by decide +kernel)
set_option maxRecDepth 20000 in
theorem gX4_firstWrong_X4_codeOf : GoodIn wsX4_firstWrong (wsV RX4 25 RX4 yX4_codeOf wsX4_codeOf) := goodIn_app (goodIn_of _ (by decide +kernel)) ggX4_firstWrong_X4_codeOf
set_option maxRecDepth 20000 in
theorem ggX4_firstWrong_X4_fits : GoodIn wsX4_firstWrong wsX4_fits := goodIn_r _ [10, 11, 12, 5, 13] (by decide +kernel) (by decide +kernel)
set_option maxRecDepth 20000 in
theorem gX4_firstWrong_X4_fits : GoodIn wsX4_firstWrong (va_wsS RX4 29 yX4_fits wsX4_fits) := goodIn_app (goodIn_of _ (by decide +kernel)) ggX4_firstWrong_X4_fits
theorem dX4_firstWrong_0 : decode cX4_firstWrong 0 = .ok (.iconst 0, 1) := by decide +kernel
theorem dX4_firstWrong_1 : decode cX4_firstWrong 1 = .ok (.istore_n 1, 1) := by decide +kernel
theorem dX4_firstWrong_2 : decode cX4_firstWrong 2 = .ok (.iload_n 1, 1) := by decide +kernel
theorem dX4_firstWrong_3 : decode cX4_firstWrong 3 = .ok (.aload_n 0, 1) := by decide +kernel
theorem dX4_firstWrong_4 : decode cX4_firstWrong 4 = .ok (.getfield 21, 3) := by decide +kernel
theorem dX4_firstWrong_7 : decode cX4_firstWrong 7 = .ok (.if_icmp .ge 23, 3) := by decide +kernel
theorem dX4_firstWrong_10 : decode cX4_firstWrong 10 = .ok (.iload_n 1, 1) := by decide +kernel
theorem dX4_firstWrong_11 : decode cX4_firstWrong 11 = .ok (.aload_n 0, 1) := by decide +kernel
theorem dX4_firstWrong_12 : decode cX4_firstWrong 12 = .ok (.iload_n 1, 1) := by decide +kernel
theorem dX4_firstWrong_13 : decode cX4_firstWrong 13 = .ok (.invokevirtual 25, 3) := by decide +kernel
theorem dX4_firstWrong_16 : decode cX4_firstWrong 16 = .ok (.invokestatic 29, 3) := by decide +kernel
theorem dX4_firstWrong_19 : decode cX4_firstWrong 19 = .ok (.ifCond .ne 5, 3) := by decide +kernel
theorem dX4_firstWrong_22 : decode cX4_firstWrong 22 = .ok (.iload_n 1, 1) := by decide +kernel
theorem dX4_firstWrong_23 : decode cX4_firstWrong 23 = .ok (.ireturn, 1) := by decide +kernel
theorem dX4_firstWrong_24 : decode cX4_firstWrong 24 = .ok (.iinc 1 1, 3) := by decide +kernel
theorem dX4_firstWrong_27 : decode cX4_firstWrong 27 = .ok (.goto (-25), 3) := by decide +kernel
theorem dX4_firstWrong_30 : decode cX4_firstWrong 30 = .ok (.aload_n 0, 1) := by decide +kernel
theorem dX4_firstWrong_31 : decode cX4_firstWrong 31 = .ok (.getfield 21, 3) := by decide +kernel
theorem dX4_firstWrong_34 : decode cX4_firstWrong 34 = .ok (.ireturn, 1) := by decide +kernel
set_option maxRecDepth 20000 in
theorem ggX4_isCustom_X4_firstWrong : GoodIn wsX4_isCustom wsX4_firstWrong := goodIn_r _ [6, 1, 7, 8, 9, 5, 10, 11, 12, 13, 14, 15, 16, 17, 18, 19] (by decide +kernel) (by decide +kernel)
set_option maxRecDepth 20000 in
theorem gX4_isCustom_X4_firstWrong : GoodIn wsX4_isCustom (wsV RX4 33 RX4 yX4_firstWrong wsX4_firstWrong) := goodIn_app (goodIn_of _ (by decide +kernel)) ggX4_isCustom_X4_firstWrong
theorem dX4_isCustom_0 : decode cX4_isCustom 0 = .ok (.aload_n 0, 1) := by decide +kernel
theorem dX4_isCustom_1 : decode cX4_isCustom 1 = .ok (.getfield 21, 3) := by decide +kernel
theorem dX4_isCustom_4 : decode cX4_isCustom 4 = .ok (.iconst 4, 1) := by decide +kernel
theorem dX4_isCustom_5 : decode cX4_isCustom 5 = .ok (.if_icmp .eq 12, 3) := by decide +kernel
theorem dX4_isCustom_8 : decode cX4_isCustom 8 = .ok (.aload_n 0, 1) := by decide +kernel
theorem dX4_isCustom_9 : decode cX4_isCustom 9 = .ok (.getfield 21, 3) := by decide +kernel
theorem dX4_isCustom_12 : decode cX4_isCustom 12 = .ok (.bipush 6, 2) := by decide +kernel
theorem dX4_isCustom_14 : decode cX4_isCustom 14 = .ok (.if_icmp .ne 18, 3) := by decide +kernel
theorem dX4_isCustom_17 : decode cX4_isCustom 17 = .ok (.aload_n 0, 1) := by decide +kernel
theorem dX4_isCustom_18 : decode cX4_isCustom 18 = .ok (.invokevirtual 33, 3) := by decide +kernel
theorem dX4_isCustom_21 : decode cX4_isCustom 21 = .ok (.aload_n 0, 1) := by decide +kernel
theorem dX4_isCustom_22 : decode cX4_isCustom 22 = .ok (.getfield 21, 3) := by decide +kernel
theorem dX4_isCustom_25 : decode cX4_isCustom 25 = .ok (.if_icmp .ne 7, 3) := by decide +kernel
theorem dX4_isCustom_28 : decode cX4_isCustom 28 = .ok (.iconst 1, 1) := by decide +kernel
theorem dX4_isCustom_29 : decode cX4_isCustom 29 = .ok (.goto 4, 3) := by decide +kernel
theorem dX4_isCustom_32 : decode cX4_isCustom 32 = .ok (.iconst 0, 1) := by decide +kernel
theorem dX4_isCustom_33 : decode cX4_isCustom 33 = .ok (.ireturn, 1) := by decide +kernel
set_option maxRecDepth 20000 in
theorem ggX4_asCustom_X4_codeOf : GoodIn wsX4_asCustom wsX4_codeOf := goodIn_r _ [9, 10, 23, 24] (by decide +kernel) (by decide +kernel)
set_option maxRecDepth 20000 in
theorem gX4_asCustom_X4_codeOf : GoodIn wsX4_asCustom (wsV RX4 25 RX4 yX4_codeOf wsX4_codeOf) := goodIn_app (goodIn_of _ (by decide +kernel)) ggX4_asCustom_X4_codeOf
set_option maxRecDepth 20000 in
theorem ggX4_asCustom_X4_ruleOf : GoodIn wsX4_asCustom wsX4_ruleOf := goodIn_r _ [13] (by decide +kernel) (by decide +kernel)
set_option maxRecDepth 20000 in
theorem gX4_asCustom_X4_ruleOf : GoodIn wsX4_asCustom (va_wsS RX4 39 yX4_ruleOf wsX4_ruleOf) := goodIn_app (goodIn_of _ (by decide +kernel)) ggX4_asCustom_X4_ruleOf
set_option maxRecDepth 20000 in
theorem ggX4_asCustom_X1_init : GoodIn wsX4_asCustom wsX1_init := goodIn_r _ [16, 17, 18, 19, 20, 21, 22, 25, 26, 27] (by decide +kernel) (by decide +kernel)
set_option maxRecDepth 20000 in
theorem gX4_asCustom_X1_init : GoodIn wsX4_asCustom (wsX1_init) := ggX4_asCustom_X1_init
theorem dX4_asCustom_0 : decode cX4_asCustom 0 = .ok (.aload_n 0, 1) := by decide +kernel
theorem dX4_asCustom_1 : decode cX4_asCustom 1 = .ok (.getfield 21, 3) := by decide +kernel
theorem dX4_asCustom_4 : decode cX4_asCustom 4 = .ok (.bipush 6, 2) := by decide +kernel
theorem dX4_asCustom_6 : decode cX4_asCustom 6 = .ok (.if_icmp .ne 14, 3) := by decide +kernel
theorem dX4_asCustom_9 : decode cX4_asCustom 9 = .ok (.aload_n 0, 1) := by decide +kernel
theorem dX4_asCustom_10 : decode cX4_asCustom 10 = .ok (.iconst 5, 1) := by decide +kernel
theorem dX4_asCustom_11 : decode cX4_asCustom 11 = .ok (.invokevirtual 25, 3) := by decide +kernel
theorem dX4_asCustom_14 : decode cX4_asCustom 14 = .ok (.bipush 48, 2) := by decide +kernel
theorem dX4_asCustom_16 : decode cX4_asCustom 16 = .ok (.isub, 1) := by decide +kernel
theorem dX4_asCustom_17 : decode cX4_asCustom 17 = .ok (.goto 4, 3) := by decide +kernel
theorem dX4_asCustom_20 : decode cX4_asCustom 20 = .ok (.iconst 0, 1) := by decide +kernel
theorem dX4_asCustom_21 : decode cX4_asCustom 21 = .ok (.istore_n 1, 1) := by decide +kernel
theorem dX4_asCustom_22 : decode cX4_asCustom 22 = .ok (.new 37, 3) := by decide +kernel
theorem dX4_asCustom_25 : decode cX4_asCustom 25 = .ok (.dup, 1) := by decide +kernel
theorem dX4_asCustom_26 : decode cX4_asCustom 26 = .ok (.aload_n 0, 1) := by decide +kernel
theorem dX4_asCustom_27 : decode cX4_asCustom 27 = .ok (.iconst 1, 1) := by decide +kernel
theorem dX4_asCustom_28 : decode cX4_asCustom 28 = .ok (.invokevirtual 25, 3) := by decide +kernel
theorem dX4_asCustom_31 : decode cX4_asCustom 31 = .ok (.invokestatic 39, 3) := by decide +kernel
theorem dX4_asCustom_34 : decode cX4_asCustom 34 = .ok (.aload_n 0, 1) := by decide +kernel
theorem dX4_asCustom_35 : decode cX4_asCustom 35 = .ok (.iconst 3, 1) := by decide +kernel
theorem dX4_asCustom_36 : decode cX4_asCustom 36 = .ok (.invokevirtual 25, 3) := by decide +kernel
theorem dX4_asCustom_39 : decode cX4_asCustom 39 = .ok (.invokestatic 39, 3) := by decide +kernel
theorem dX4_asCustom_42 : decode cX4_asCustom 42 = .ok (.iload_n 1, 1) := by decide +kernel
theorem dX4_asCustom_43 : decode cX4_asCustom 43 = .ok (.invokespecial 42, 3) := by decide +kernel
theorem dX4_asCustom_46 : decode cX4_asCustom 46 = .ok (.areturn, 1) := by decide +kernel
theorem dX4_codeOf_0 : decode cX4_codeOf 0 = .ok (.iload_n 1, 1) := by decide +kernel
theorem dX4_codeOf_1 : decode cX4_codeOf 1 = .ok (.ifCond .lt 9, 3) := by decide +kernel
theorem dX4_codeOf_4 : decode cX4_codeOf 4 = .ok (.iload_n 1, 1) := by decide +kernel
theorem dX4_codeOf_5 : decode cX4_codeOf 5 = .ok (.bipush 16, 2) := by decide +kernel
theorem dX4_codeOf_7 : decode cX4_codeOf 7 = .ok (.if_icmp .lt 7, 3) := by decide +kernel
theorem dX4_codeOf_10 : decode cX4_codeOf 10 = .ok (.iconst 0, 1) := by decide +kernel
theorem dX4_codeOf_11 : decode cX4_codeOf 11 = .ok (.goto 9, 3) := by decide +kernel
theorem dX4_codeOf_14 : decode cX4_codeOf 14 = .ok (.aload_n 0, 1) := by decide +kernel
theorem dX4_codeOf_15 : decode cX4_codeOf 15 = .ok (.getfield 9, 3) := by decide +kernel
theorem dX4_codeOf_18 : decode cX4_codeOf 18 = .ok (.iload_n 1, 1) := by decide +kernel
theorem dX4_codeOf_19 : decode cX4_codeOf 19 = .ok (.iaload, 1) := by decide +kernel
theorem dX4_codeOf_20 : decode cX4_codeOf 20 = .ok (.ireturn, 1) := by decide +kernel
set_option maxRecDepth 20000 in
theorem ggX4_fits_X4_ruleOf : GoodIn wsX4_fits wsX4_ruleOf := goodIn_r _ [4] (by decide +kernel) (by decide +kernel)
set_option maxRecDepth 20000 in
theorem gX4_fits_X4_ruleOf : GoodIn wsX4_fits (va_wsS RX4 39 yX4_ruleOf wsX4_ruleOf) := goodIn_app (goodIn_of _ (by decide +kernel)) ggX4_fits_X4_ruleOf
theorem dX4_fits_0 : decode cX4_fits 0 = .ok (.iload_n 0, 1) := by decide +kernel
theorem dX4_fits_1 : decode cX4_fits 1 = .ok (.tableswitch 121 0 5 #[39, 51, 65, 77, 91, 103], 39) := by decide +kernel
theorem dX4_fits_40 : decode cX4_fits 40 = .ok (.iload_n 1, 1) := by decide +kernel
theorem dX4_fits_41 : decode cX4_fits 41 = .ok (.bipush 119, 2) := by decide +kernel
theorem dX4_fits_43 : decode cX4_fits 43 = .ok (.if_icmp .ne 7, 3) := by decide +kernel
theorem dX4_fits_46 : decode cX4_fits 46 = .ok (.iconst 1, 1) := by decide +kernel
theorem dX4_fits_47 : decode cX4_fits 47 = .ok (.goto 4, 3) := by decide +kernel
theorem dX4_fits_50 : decode cX4_fits 50 = .ok (.iconst 0, 1) := by decide +kernel
theorem dX4_fits_51 : decode cX4_fits 51 = .ok (.ireturn, 1) := by decide +kernel
theorem dX4_fits_52 : decode cX4_fits 52 = .ok (.iload_n 1, 1) := by decide +kernel
theorem dX4_fits_53 : decode cX4_fits 53 = .ok (.invokestatic 39, 3) := by decide +kernel
theorem dX4_fits_56 : decode cX4_fits 56 = .ok (.iconst (-1), 1) := by decide +kernel
theorem dX4_fits_57 : decode cX4_fits 57 = .ok (.if_icmp .eq 7, 3) := by decide +kernel
theorem dX4_fits_60 : decode cX4_fits 60 = .ok (.iconst 1, 1) := by decide +kernel
theorem dX4_fits_61 : decode cX4_fits 61 = .ok (.goto 4, 3) := by decide +kernel
theorem dX4_fits_64 : decode cX4_fits 64 = .ok (.iconst 0, 1) := by decide +kernel
theorem dX4_fits_65 : decode cX4_fits 65 = .ok (.ireturn, 1) := by decide +kernel
theorem dX4_fits_66 : decode cX4_fits 66 = .ok (.iload_n 1, 1) := by decide +kernel
theorem dX4_fits_67 : decode cX4_fits 67 = .ok (.bipush 115, 2) := by decide +kernel
theorem dX4_fits_69 : decode cX4_fits 69 = .ok (.if_icmp .ne 7, 3) := by decide +kernel
theorem dX4_fits_72 : decode cX4_fits 72 = .ok (.iconst 1, 1) := by decide +kernel
theorem dX4_fits_73 : decode cX4_fits 73 = .ok (.goto 4, 3) := by decide +kernel
theorem dX4_fits_76 : decode cX4_fits 76 = .ok (.iconst 0, 1) := by decide +kernel
theorem dX4_fits_77 : decode cX4_fits 77 = .ok (.ireturn, 1) := by decide +kernel
theorem dX4_fits_78 : decode cX4_fits 78 = .ok (.iload_n 1, 1) := by decide +kernel
theorem dX4_fits_79 : decode cX4_fits 79 = .ok (.invokestatic 39, 3) := by decide +kernel
theorem dX4_fits_82 : decode cX4_fits 82 = .ok (.iconst (-1), 1) := by decide +kernel
theorem dX4_fits_83 : decode cX4_fits 83 = .ok (.if_icmp .eq 7, 3) := by decide +kernel
theorem dX4_fits_86 : decode cX4_fits 86 = .ok (.iconst 1, 1) := by decide +kernel
theorem dX4_fits_87 : decode cX4_fits 87 = .ok (.goto 4, 3) := by decide +kernel
theorem dX4_fits_90 : decode cX4_fits 90 = .ok (.iconst 0, 1) := by decide +kernel
theorem dX4_fits_91 : decode cX4_fits 91 = .ok (.ireturn, 1) := by decide +kernel
theorem dX4_fits_92 : decode cX4_fits 92 = .ok (.iload_n 1, 1) := by decide +kernel
theorem dX4_fits_93 : decode cX4_fits 93 = .ok (.bipush 102, 2) := by decide +kernel
theorem dX4_fits_95 : decode cX4_fits 95 = .ok (.if_icmp .ne 7, 3) := by decide +kernel
theorem dX4_fits_98 : decode cX4_fits 98 = .ok (.iconst 1, 1) := by decide +kernel
theorem dX4_fits_99 : decode cX4_fits 99 = .ok (.goto 4, 3) := by decide +kernel
theorem dX4_fits_102 : decode cX4_fits 102 = .ok (.iconst 0, 1) := by decide +kernel
theorem dX4_fits_103 : decode cX4_fits 103 = .ok (.ireturn, 1) := by decide +kernel
theorem dX4_fits_104 : decode cX4_fits 104 = .ok (.iload_n 1, 1) := by decide +kernel
theorem dX4_fits_105 : decode cX4_fits 105 = .ok (.bipush 49, 2) := by decide +kernel
theorem dX4_fits_107 : decode cX4_fits 107 = .ok (.if_icmp .lt 13, 3) := by decide +kernel
theorem dX4_fits_110 : decode cX4_fits 110 = .ok (.iload_n 1, 1) := by decide +kernel
theorem dX4_fits_111 : decode cX4_fits 111 = .ok (.bipush 57, 2) := by decide +kernel
theorem dX4_fits_113 : decode cX4_fits 113 = .ok (.if_icmp .gt 7, 3) := by decide +kernel
theorem dX4_fits_116 : decode cX4_fits 116 = .ok (.iconst 1, 1) := by decide +kernel
theorem dX4_fits_117 : decode cX4_fits 117 = .ok (.goto 4, 3) := by decide +kernel
theorem dX4_fits_120 : decode cX4_fits 120 = .ok (.iconst 0, 1) := by decide +kernel
theorem dX4_fits_121 : decode cX4_fits 121 = .ok (.ireturn, 1) := by decide +kernel
theorem dX4_fits_122 : decode cX4_fits 122 = .ok (.iconst 0, 1) := by decide +kernel
theorem dX4_fits_123 : decode cX4_fits 123 = .ok (.ireturn, 1) := by decide +kernel
theorem dX4_ruleOf_0 : decode cX4_ruleOf 0 = .ok (.iload_n 0, 1) := by decide +kernel
theorem dX4_ruleOf_1 : decode cX4_ruleOf 1 = .ok (.bipush 48, 2) := by decide +kernel
theorem dX4_ruleOf_3 : decode cX4_ruleOf 3 = .ok (.if_icmp .lt 14, 3) := by decide +kernel
theorem dX4_ruleOf_6 : decode cX4_ruleOf 6 = .ok (.iload_n 0, 1) := by decide +kernel
theorem dX4_ruleOf_7 : decode cX4_ruleOf 7 = .ok (.bipush 54, 2) := by decide +kernel
theorem dX4_ruleOf_9 : decode cX4_ruleOf 9 = .ok (.if_icmp .gt 8, 3) := by decide +kernel
theorem dX4_ruleOf_12 : decode cX4_ruleOf 12 = .ok (.iload_n 0, 1) := by decide +kernel
theorem dX4_ruleOf_13 : decode cX4_ruleOf 13 = .ok (.bipush 48, 2) := by decide +kernel
theorem dX4_ruleOf_15 : decode cX4_ruleOf 15 = .ok (.isub, 1) := by decide +kernel
theorem dX4_ruleOf_16 : decode cX4_ruleOf 16 = .ok (.ireturn, 1) := by decide +kernel
theorem dX4_ruleOf_17 : decode cX4_ruleOf 17 = .ok (.iload_n 0, 1) := by decide +kernel
theorem dX4_ruleOf_18 : decode cX4_ruleOf 18 = .ok (.tableswitch 46 108 112 #[37, 34, 43, 46, 40], 34) := by decide +kernel
theorem dX4_ruleOf_52 : decode cX4_ruleOf 52 = .ok (.bipush 7, 2) := by decide +kernel
theorem dX4_ruleOf_54 : decode cX4_ruleOf 54 = .ok (.ireturn, 1) := by decide +kernel
theorem dX4_ruleOf_55 : decode cX4_ruleOf 55 = .ok (.bipush 8, 2) := by decide +kernel
theorem dX4_ruleOf_57 : decode cX4_ruleOf 57 = .ok (.ireturn, 1) := by decide +kernel
theorem dX4_ruleOf_58 : decode cX4_ruleOf 58 = .ok (.bipush 9, 2) := by decide +kernel
theorem dX4_ruleOf_60 : decode cX4_ruleOf 60 = .ok (.ireturn, 1) := by decide +kernel
theorem dX4_ruleOf_61 : decode cX4_ruleOf 61 = .ok (.bipush 10, 2) := by decide +kernel
theorem dX4_ruleOf_63 : decode cX4_ruleOf 63 = .ok (.ireturn, 1) := by decide +kernel
theorem dX4_ruleOf_64 : decode cX4_ruleOf 64 = .ok (.iconst (-1), 1) := by decide +kernel
theorem dX4_ruleOf_65 : decode cX4_ruleOf 65 = .ok (.ireturn, 1) := by decide +kernel
theorem dX5_init_0 : decode cX5_init 0 = .ok (.aload_n 0, 1) := by decide +kernel
theorem dX5_init_1 : decode cX5_init 1 = .ok (.invokespecial 3, 3) := by decide +kernel
theorem dX5_init_4 : decode cX5_init 4 = .ok (.aload_n 0, 1) := by decide +kernel
theorem dX5_init_5 : decode cX5_init 5 = .ok (.iload_n 1, 1) := by decide +kernel
theorem dX5_init_6 : decode cX5_init 6 = .ok (.putfield 9, 3) := by decide +kernel
theorem dX5_init_9 : decode cX5_init 9 = .ok (.return_, 1) := by decide +kernel
theorem dX5_kind_0 : decode cX5_kind 0 = .ok (.iconst 0, 1) := by decide +kernel
theorem dX5_kind_1 : decode cX5_kind 1 = .ok (.ireturn, 1) := by decide +kernel
theorem dX5_gift_0 : decode cX5_gift 0 = .ok (.iconst 1, 1) := by decide +kernel
theorem dX5_gift_1 : decode cX5_gift 1 = .ok (.ireturn, 1) := by decide +kernel
theorem dX5_loss_0 : decode cX5_loss 0 = .ok (.iconst 1, 1) := by decide +kernel
theorem dX5_loss_1 : decode cX5_loss 1 = .ok (.ireturn, 1) := by decide +kernel
theorem dX5_hidesOn_0 : decode cX5_hidesOn 0 = .ok (.iconst (-1), 1) := by decide +kernel
theorem dX5_hidesOn_1 : decode cX5_hidesOn 1 = .ok (.ireturn, 1) := by decide +kernel
theorem dX5_sinsAtMost_0 : decode cX5_sinsAtMost 0 = .ok (.iconst 0, 1) := by decide +kernel
theorem dX5_sinsAtMost_1 : decode cX5_sinsAtMost 1 = .ok (.ireturn, 1) := by decide +kernel
set_option maxRecDepth 20000 in
theorem ggX5_told_X0_kind : GoodIn wsX5_told wsX0_kind := goodIn_r _ [11] (by decide +kernel) (by decide +kernel)
set_option maxRecDepth 20000 in
theorem gX5_told_X0_kind_u15X0 : GoodIn wsX5_told (va_wsO RX5 15 RX0 "KneelingStones$Parish" ⟨"KneelingStones$Parish", "kind", "()I"⟩ yX0_kind wsX0_kind) := goodIn_app (goodIn_of _ (by decide +kernel)) ggX5_told_X0_kind
set_option maxRecDepth 20000 in
theorem ggX5_told_X5_kind : GoodIn wsX5_told wsX5_kind := goodIn_r _ [12] (by decide +kernel) (by decide +kernel)
set_option maxRecDepth 20000 in
theorem gX5_told_X5_kind : GoodIn wsX5_told (wsV RX5 15 RX5 yX5_kind wsX5_kind) := goodIn_app (goodIn_of _ (by decide +kernel)) ggX5_told_X5_kind
set_option maxRecDepth 20000 in
theorem ggX5_told_X6_kind : GoodIn wsX5_told wsX6_kind := goodIn_r _ [20] (by decide +kernel) (by decide +kernel)
set_option maxRecDepth 20000 in
theorem gX5_told_X6_kind_u15X6 : GoodIn wsX5_told (va_wsO RX5 15 RX6 "KneelingStones$Parish" ⟨"KneelingStones$Parish", "kind", "()I"⟩ yX6_kind wsX6_kind) := goodIn_app (goodIn_of _ (by decide +kernel)) ggX5_told_X6_kind
set_option maxRecDepth 20000 in
theorem ggX5_told_X7_kind : GoodIn wsX5_told wsX7_kind := goodIn_r _ [24] (by decide +kernel) (by decide +kernel)
set_option maxRecDepth 20000 in
theorem gX5_told_X7_kind_u15X7 : GoodIn wsX5_told (va_wsO RX5 15 RX7 "KneelingStones$Parish" ⟨"KneelingStones$Parish", "kind", "()I"⟩ yX7_kind wsX7_kind) := goodIn_app (goodIn_of _ (by decide +kernel)) ggX5_told_X7_kind
set_option maxRecDepth 20000 in
theorem ggX5_told_X5_gift : GoodIn wsX5_told wsX5_gift := goodIn_r _ [29] (by decide +kernel) (by decide +kernel)
set_option maxRecDepth 20000 in
theorem gX5_told_X5_gift_u28X0 : GoodIn wsX5_told (va_wsU RX5 28 RX0 "KneelingStones$Parish" ⟨"KneelingStones$Parish", "gift", "()I"⟩ yX5_gift wsX5_gift) := goodIn_app (goodIn_of _ (by decide +kernel)) ggX5_told_X5_gift
set_option maxRecDepth 20000 in
theorem gX5_told_X5_gift : GoodIn wsX5_told (wsV RX5 28 RX5 yX5_gift wsX5_gift) := goodIn_app (goodIn_of _ (by decide +kernel)) ggX5_told_X5_gift
set_option maxRecDepth 20000 in
theorem ggX5_told_X6_gift : GoodIn wsX5_told wsX6_gift := goodIn_r _ [35, 36, 37, 39, 40, 41, 42, 43, 44, 45, 46, 47, 48, 49, 50, 51, 52, 53, 54] (by decide +kernel) (by decide +kernel)
set_option maxRecDepth 20000 in
theorem gX5_told_X6_gift_u28X6 : GoodIn wsX5_told (va_wsO RX5 28 RX6 "KneelingStones$Parish" ⟨"KneelingStones$Parish", "gift", "()I"⟩ yX6_gift wsX6_gift) := goodIn_app (goodIn_of _ (by decide +kernel)) ggX5_told_X6_gift
set_option maxRecDepth 20000 in
theorem gX5_told_X5_gift_u28X7 : GoodIn wsX5_told (va_wsU RX5 28 RX7 "KneelingStones$Parish" ⟨"KneelingStones$Parish", "gift", "()I"⟩ yX5_gift wsX5_gift) := goodIn_app (goodIn_of _ (by decide +kernel)) ggX5_told_X5_gift
theorem dX5_told_0 : decode cX5_told 0 = .ok (.iload_n 1, 1) := by decide +kernel
theorem dX5_told_1 : decode cX5_told 1 = .ok (.tableswitch 60 0 4 #[35, 40, 45, 50, 55], 35) := by decide +kernel
theorem dX5_told_36 : decode cX5_told 36 = .ok (.aload_n 0, 1) := by decide +kernel
theorem dX5_told_37 : decode cX5_told 37 = .ok (.invokevirtual 15, 3) := by decide +kernel
theorem dX5_told_40 : decode cX5_told 40 = .ok (.ireturn, 1) := by decide +kernel
theorem dX5_told_41 : decode cX5_told 41 = .ok (.aload_n 0, 1) := by decide +kernel
theorem dX5_told_42 : decode cX5_told 42 = .ok (.getfield 9, 3) := by decide +kernel
theorem dX5_told_45 : decode cX5_told 45 = .ok (.ireturn, 1) := by decide +kernel
theorem dX5_told_46 : decode cX5_told 46 = .ok (.aload_n 0, 1) := by decide +kernel
theorem dX5_told_47 : decode cX5_told 47 = .ok (.getfield 19, 3) := by decide +kernel
theorem dX5_told_50 : decode cX5_told 50 = .ok (.ireturn, 1) := by decide +kernel
theorem dX5_told_51 : decode cX5_told 51 = .ok (.aload_n 0, 1) := by decide +kernel
theorem dX5_told_52 : decode cX5_told 52 = .ok (.getfield 22, 3) := by decide +kernel
theorem dX5_told_55 : decode cX5_told 55 = .ok (.ireturn, 1) := by decide +kernel
theorem dX5_told_56 : decode cX5_told 56 = .ok (.aload_n 0, 1) := by decide +kernel
theorem dX5_told_57 : decode cX5_told 57 = .ok (.getfield 25, 3) := by decide +kernel
theorem dX5_told_60 : decode cX5_told 60 = .ok (.ireturn, 1) := by decide +kernel
theorem dX5_told_61 : decode cX5_told 61 = .ok (.aload_n 0, 1) := by decide +kernel
theorem dX5_told_62 : decode cX5_told 62 = .ok (.invokevirtual 28, 3) := by decide +kernel
theorem dX5_told_65 : decode cX5_told 65 = .ok (.ireturn, 1) := by decide +kernel
theorem dX5_canWish_0 : decode cX5_canWish 0 = .ok (.aload_n 0, 1) := by decide +kernel
theorem dX5_canWish_1 : decode cX5_canWish 1 = .ok (.getfield 22, 3) := by decide +kernel
theorem dX5_canWish_4 : decode cX5_canWish 4 = .ok (.ifCond .le 7, 3) := by decide +kernel
theorem dX5_canWish_7 : decode cX5_canWish 7 = .ok (.iconst 1, 1) := by decide +kernel
theorem dX5_canWish_8 : decode cX5_canWish 8 = .ok (.goto 4, 3) := by decide +kernel
theorem dX5_canWish_11 : decode cX5_canWish 11 = .ok (.iconst 0, 1) := by decide +kernel
theorem dX5_canWish_12 : decode cX5_canWish 12 = .ok (.ireturn, 1) := by decide +kernel
theorem dX5_canSin_0 : decode cX5_canSin 0 = .ok (.aload_n 0, 1) := by decide +kernel
theorem dX5_canSin_1 : decode cX5_canSin 1 = .ok (.getfield 22, 3) := by decide +kernel
theorem dX5_canSin_4 : decode cX5_canSin 4 = .ok (.bipush 10, 2) := by decide +kernel
theorem dX5_canSin_6 : decode cX5_canSin 6 = .ok (.if_icmp .ge 14, 3) := by decide +kernel
theorem dX5_canSin_9 : decode cX5_canSin 9 = .ok (.aload_n 0, 1) := by decide +kernel
theorem dX5_canSin_10 : decode cX5_canSin 10 = .ok (.getfield 25, 3) := by decide +kernel
theorem dX5_canSin_13 : decode cX5_canSin 13 = .ok (.ifCond .le 7, 3) := by decide +kernel
theorem dX5_canSin_16 : decode cX5_canSin 16 = .ok (.iconst 1, 1) := by decide +kernel
theorem dX5_canSin_17 : decode cX5_canSin 17 = .ok (.goto 4, 3) := by decide +kernel
theorem dX5_canSin_20 : decode cX5_canSin 20 = .ok (.iconst 0, 1) := by decide +kernel
theorem dX5_canSin_21 : decode cX5_canSin 21 = .ok (.ireturn, 1) := by decide +kernel
theorem dX5_canRest_0 : decode cX5_canRest 0 = .ok (.aload_n 0, 1) := by decide +kernel
theorem dX5_canRest_1 : decode cX5_canRest 1 = .ok (.getfield 22, 3) := by decide +kernel
theorem dX5_canRest_4 : decode cX5_canRest 4 = .ok (.bipush 10, 2) := by decide +kernel
theorem dX5_canRest_6 : decode cX5_canRest 6 = .ok (.if_icmp .ge 16, 3) := by decide +kernel
theorem dX5_canRest_9 : decode cX5_canRest 9 = .ok (.aload_n 0, 1) := by decide +kernel
theorem dX5_canRest_10 : decode cX5_canRest 10 = .ok (.getfield 25, 3) := by decide +kernel
theorem dX5_canRest_13 : decode cX5_canRest 13 = .ok (.bipush 10, 2) := by decide +kernel
theorem dX5_canRest_15 : decode cX5_canRest 15 = .ok (.if_icmp .ge 7, 3) := by decide +kernel
theorem dX5_canRest_18 : decode cX5_canRest 18 = .ok (.iconst 1, 1) := by decide +kernel
theorem dX5_canRest_19 : decode cX5_canRest 19 = .ok (.goto 4, 3) := by decide +kernel
theorem dX5_canRest_22 : decode cX5_canRest 22 = .ok (.iconst 0, 1) := by decide +kernel
theorem dX5_canRest_23 : decode cX5_canRest 23 = .ok (.ireturn, 1) := by decide +kernel
set_option maxRecDepth 20000 in
theorem ggX6_init_X5_init : GoodIn wsX6_init wsX5_init := goodIn_r _ [4, 5, 6, 7, 8, 9, 10, 11, 12, 13, 14, 15, 16, 17, 18, 19, 20, 21, 22, 23, 24] (by decide +kernel) (by decide +kernel)
set_option maxRecDepth 20000 in
theorem gX6_init_X5_init : GoodIn wsX6_init (wsX5_init) := ggX6_init_X5_init
theorem dX6_init_0 : decode cX6_init 0 = .ok (.aload_n 0, 1) := by decide +kernel
theorem dX6_init_1 : decode cX6_init 1 = .ok (.iload_n 1, 1) := by decide +kernel
theorem dX6_init_2 : decode cX6_init 2 = .ok (.invokespecial 3, 3) := by decide +kernel
theorem dX6_init_5 : decode cX6_init 5 = .ok (.return_, 1) := by decide +kernel
theorem dX6_kind_0 : decode cX6_kind 0 = .ok (.iconst 1, 1) := by decide +kernel
theorem dX6_kind_1 : decode cX6_kind 1 = .ok (.ireturn, 1) := by decide +kernel
theorem dX6_gift_0 : decode cX6_gift 0 = .ok (.aload_n 0, 1) := by decide +kernel
theorem dX6_gift_1 : decode cX6_gift 1 = .ok (.getfield 9, 3) := by decide +kernel
theorem dX6_gift_4 : decode cX6_gift 4 = .ok (.ireturn, 1) := by decide +kernel
set_option maxRecDepth 20000 in
theorem ggX7_init_X5_init : GoodIn wsX7_init wsX5_init := goodIn_r _ [4, 5, 6, 7, 8, 9, 10, 11, 12, 13, 14, 15, 16, 17, 18, 19, 20, 21, 22, 23, 24] (by decide +kernel) (by decide +kernel)
set_option maxRecDepth 20000 in
theorem gX7_init_X5_init : GoodIn wsX7_init (wsX5_init) := ggX7_init_X5_init
theorem dX7_init_0 : decode cX7_init 0 = .ok (.aload_n 0, 1) := by decide +kernel
theorem dX7_init_1 : decode cX7_init 1 = .ok (.iload_n 1, 1) := by decide +kernel
theorem dX7_init_2 : decode cX7_init 2 = .ok (.invokespecial 3, 3) := by decide +kernel
theorem dX7_init_5 : decode cX7_init 5 = .ok (.return_, 1) := by decide +kernel
theorem dX7_kind_0 : decode cX7_kind 0 = .ok (.iconst 2, 1) := by decide +kernel
theorem dX7_kind_1 : decode cX7_kind 1 = .ok (.ireturn, 1) := by decide +kernel
theorem dX7_loss_0 : decode cX7_loss 0 = .ok (.iconst 0, 1) := by decide +kernel
theorem dX7_loss_1 : decode cX7_loss 1 = .ok (.ireturn, 1) := by decide +kernel
theorem dX7_hidesOn_0 : decode cX7_hidesOn 0 = .ok (.aload_n 0, 1) := by decide +kernel
theorem dX7_hidesOn_1 : decode cX7_hidesOn 1 = .ok (.getfield 9, 3) := by decide +kernel
theorem dX7_hidesOn_4 : decode cX7_hidesOn 4 = .ok (.ireturn, 1) := by decide +kernel
theorem dX8_init_0 : decode cX8_init 0 = .ok (.aload_n 0, 1) := by decide +kernel
theorem dX8_init_1 : decode cX8_init 1 = .ok (.invokespecial 3, 3) := by decide +kernel
theorem dX8_init_4 : decode cX8_init 4 = .ok (.aload_n 0, 1) := by decide +kernel
theorem dX8_init_5 : decode cX8_init 5 = .ok (.sipush 271, 3) := by decide +kernel
theorem dX8_init_8 : decode cX8_init 8 = .ok (.newarray .int, 2) := by decide +kernel
theorem dX8_init_10 : decode cX8_init 10 = .ok (.putfield 11, 3) := by decide +kernel
theorem dX8_init_13 : decode cX8_init 13 = .ok (.aload_n 0, 1) := by decide +kernel
theorem dX8_init_14 : decode cX8_init 14 = .ok (.sipush 271, 3) := by decide +kernel
theorem dX8_init_17 : decode cX8_init 17 = .ok (.newarray .int, 2) := by decide +kernel
theorem dX8_init_19 : decode cX8_init 19 = .ok (.putfield 15, 3) := by decide +kernel
theorem dX8_init_22 : decode cX8_init 22 = .ok (.return_, 1) := by decide +kernel
set_option maxRecDepth 20000 in
theorem ggX8_fewestSins_X8_leastCost : GoodIn wsX8_fewestSins wsX8_leastCost := goodIn_r _ [5, 6, 7, 8, 4, 9, 10, 11, 12, 13, 14, 15, 16, 17, 18, 19, 20, 21, 22, 23, 24, 25, 26, 27, 28, 29, 30, 31, 32, 33, 34, 35, 36, 37, 38, 39, 40, 41, 42, 43, 44, 45, 46, 47, 48, 49, 50, 51, 52, 53, 54, 55, 56, 57, 58, 59, 60, 61, 62, 63, 64, 65, 66, 67, 68, 69, 70, 71, 72, 73, 74, 75, 76, 77, 78, 79, 80, 81, 82, 83, 84, 85, 86, 87, 88, 89, 90, 91, 92, 93, 94, 95, 96, 97, 98, 99, 100, 101, 102, 103, 104, 105, 106, 107, 108] (by decide +kernel) (by decide +kernel)
set_option maxRecDepth 20000 in
theorem gX8_fewestSins_X8_leastCost : GoodIn wsX8_fewestSins (wsV RX8 18 RX8 yX8_leastCost wsX8_leastCost) := goodIn_app (goodIn_of _ (by decide +kernel)) ggX8_fewestSins_X8_leastCost
theorem dX8_fewestSins_0 : decode cX8_fewestSins 0 = .ok (.aload_n 0, 1) := by decide +kernel
theorem dX8_fewestSins_1 : decode cX8_fewestSins 1 = .ok (.aload_n 1, 1) := by decide +kernel
theorem dX8_fewestSins_2 : decode cX8_fewestSins 2 = .ok (.iload_n 2, 1) := by decide +kernel
theorem dX8_fewestSins_3 : decode cX8_fewestSins 3 = .ok (.iconst 1, 1) := by decide +kernel
theorem dX8_fewestSins_4 : decode cX8_fewestSins 4 = .ok (.invokevirtual 18, 3) := by decide +kernel
theorem dX8_fewestSins_7 : decode cX8_fewestSins 7 = .ok (.istore_n 3, 1) := by decide +kernel
theorem dX8_fewestSins_8 : decode cX8_fewestSins 8 = .ok (.iload_n 3, 1) := by decide +kernel
theorem dX8_fewestSins_9 : decode cX8_fewestSins 9 = .ok (.sipush 1000, 3) := by decide +kernel
theorem dX8_fewestSins_12 : decode cX8_fewestSins 12 = .ok (.if_icmp .ne 7, 3) := by decide +kernel
theorem dX8_fewestSins_15 : decode cX8_fewestSins 15 = .ok (.iconst (-1), 1) := by decide +kernel
theorem dX8_fewestSins_16 : decode cX8_fewestSins 16 = .ok (.goto 4, 3) := by decide +kernel
theorem dX8_fewestSins_19 : decode cX8_fewestSins 19 = .ok (.iload_n 3, 1) := by decide +kernel
theorem dX8_fewestSins_20 : decode cX8_fewestSins 20 = .ok (.ireturn, 1) := by decide +kernel
set_option maxRecDepth 20000 in
theorem ggX8_mostSins_X8_leastCost : GoodIn wsX8_mostSins wsX8_leastCost := goodIn_r _ [5, 6, 7, 8, 4, 9, 10, 11, 12, 13, 14, 15, 16, 17, 18, 19, 20, 21, 22, 23, 24, 25, 26, 27, 28, 29, 30, 31, 32, 33, 34, 35, 36, 37, 38, 39, 40, 41, 42, 43, 44, 45, 46, 47, 48, 49, 50, 51, 52, 53, 54, 55, 56, 57, 58, 59, 60, 61, 62, 63, 64, 65, 66, 67, 68, 69, 70, 71, 72, 73, 74, 75, 76, 77, 78, 79, 80, 81, 82, 83, 84, 85, 86, 87, 88, 89, 90, 91, 92, 93, 94, 95, 96, 97, 98, 99, 100, 101, 102, 103, 104, 105, 106, 107, 108] (by decide +kernel) (by decide +kernel)
set_option maxRecDepth 20000 in
theorem gX8_mostSins_X8_leastCost : GoodIn wsX8_mostSins (wsV RX8 18 RX8 yX8_leastCost wsX8_leastCost) := goodIn_app (goodIn_of _ (by decide +kernel)) ggX8_mostSins_X8_leastCost
theorem dX8_mostSins_0 : decode cX8_mostSins 0 = .ok (.aload_n 0, 1) := by decide +kernel
theorem dX8_mostSins_1 : decode cX8_mostSins 1 = .ok (.aload_n 1, 1) := by decide +kernel
theorem dX8_mostSins_2 : decode cX8_mostSins 2 = .ok (.iload_n 2, 1) := by decide +kernel
theorem dX8_mostSins_3 : decode cX8_mostSins 3 = .ok (.iconst (-1), 1) := by decide +kernel
theorem dX8_mostSins_4 : decode cX8_mostSins 4 = .ok (.invokevirtual 18, 3) := by decide +kernel
theorem dX8_mostSins_7 : decode cX8_mostSins 7 = .ok (.istore_n 3, 1) := by decide +kernel
theorem dX8_mostSins_8 : decode cX8_mostSins 8 = .ok (.iload_n 3, 1) := by decide +kernel
theorem dX8_mostSins_9 : decode cX8_mostSins 9 = .ok (.sipush 1000, 3) := by decide +kernel
theorem dX8_mostSins_12 : decode cX8_mostSins 12 = .ok (.if_icmp .ne 7, 3) := by decide +kernel
theorem dX8_mostSins_15 : decode cX8_mostSins 15 = .ok (.iconst (-1), 1) := by decide +kernel
theorem dX8_mostSins_16 : decode cX8_mostSins 16 = .ok (.goto 5, 3) := by decide +kernel
theorem dX8_mostSins_19 : decode cX8_mostSins 19 = .ok (.iload_n 3, 1) := by decide +kernel
theorem dX8_mostSins_20 : decode cX8_mostSins 20 = .ok (.ineg, 1) := by decide +kernel
theorem dX8_mostSins_21 : decode cX8_mostSins 21 = .ok (.ireturn, 1) := by decide +kernel
set_option maxRecDepth 20000 in
theorem ggX8_whoMust_X8_leastCost : GoodIn wsX8_whoMust wsX8_leastCost := goodIn_r _ [5, 6, 7, 8, 4, 9, 10, 11, 12, 13, 14, 15, 16, 17, 18, 19, 20, 21, 22, 23, 24, 25, 26, 27, 28, 29, 30, 31, 32, 33, 34, 35, 36, 37, 38, 39, 40, 41, 42, 43, 44, 45, 46, 47, 48, 49, 50, 51, 52, 53, 54, 55, 56, 57, 58, 59, 60, 61, 62, 63, 64, 65, 66, 67, 68, 69, 70, 71, 72, 73, 74, 75, 76, 77, 78, 79, 80, 81, 82, 83, 84, 85, 86, 87, 88, 89, 90, 95, 96, 97, 98, 99, 100, 101, 102, 103, 104, 105, 106, 107, 108, 109, 110, 111, 112] (by decide +kernel) (by decide +kernel)
set_option maxRecDepth 20000 in
theorem gX8_whoMust_X8_leastCost : GoodIn wsX8_whoMust (wsV RX8 18 RX8 yX8_leastCost wsX8_leastCost) := goodIn_app (goodIn_of _ (by decide +kernel)) ggX8_whoMust_X8_leastCost
set_option maxRecDepth 20000 in
theorem ggX8_whoMust_X8_canBeWithout : GoodIn wsX8_whoMust wsX8_canBeWithout := goodIn_r _ [94, 19, 6, 7, 8, 4, 9, 10, 11, 12, 13, 14, 15, 16, 17, 18, 20, 21, 22, 23, 24, 25, 26, 27, 28, 29, 30, 31, 32, 33, 34, 35, 36, 37, 38, 39, 40, 41, 42, 43, 44, 45, 46, 47, 48, 49, 50, 51, 52, 53, 54, 55, 56, 57, 58, 59, 60, 61, 62, 63, 64, 65, 66, 67, 68, 69, 70, 71, 72, 73, 74, 75, 76, 77, 78, 79, 80, 81, 82, 83, 84, 85, 86, 87, 88, 89, 90, 97, 98, 99, 100, 101, 102, 103, 104, 105, 106, 107, 108, 109, 110, 111, 112, 95, 96] (by decide +kernel) (by decide +kernel)
set_option maxRecDepth 20000 in
theorem gX8_whoMust_X8_canBeWithout : GoodIn wsX8_whoMust (wsV RX8 22 RX8 yX8_canBeWithout wsX8_canBeWithout) := goodIn_app (goodIn_of _ (by decide +kernel)) ggX8_whoMust_X8_canBeWithout
theorem dX8_whoMust_0 : decode cX8_whoMust 0 = .ok (.aload_n 0, 1) := by decide +kernel
theorem dX8_whoMust_1 : decode cX8_whoMust 1 = .ok (.aload_n 1, 1) := by decide +kernel
theorem dX8_whoMust_2 : decode cX8_whoMust 2 = .ok (.iload_n 2, 1) := by decide +kernel
theorem dX8_whoMust_3 : decode cX8_whoMust 3 = .ok (.iconst 1, 1) := by decide +kernel
theorem dX8_whoMust_4 : decode cX8_whoMust 4 = .ok (.invokevirtual 18, 3) := by decide +kernel
theorem dX8_whoMust_7 : decode cX8_whoMust 7 = .ok (.sipush 1000, 3) := by decide +kernel
theorem dX8_whoMust_10 : decode cX8_whoMust 10 = .ok (.if_icmp .ne 5, 3) := by decide +kernel
theorem dX8_whoMust_13 : decode cX8_whoMust 13 = .ok (.iconst 0, 1) := by decide +kernel
theorem dX8_whoMust_14 : decode cX8_whoMust 14 = .ok (.ireturn, 1) := by decide +kernel
theorem dX8_whoMust_15 : decode cX8_whoMust 15 = .ok (.iconst 0, 1) := by decide +kernel
theorem dX8_whoMust_16 : decode cX8_whoMust 16 = .ok (.istore_n 3, 1) := by decide +kernel
theorem dX8_whoMust_17 : decode cX8_whoMust 17 = .ok (.iconst 0, 1) := by decide +kernel
theorem dX8_whoMust_18 : decode cX8_whoMust 18 = .ok (.istore 4, 2) := by decide +kernel
theorem dX8_whoMust_20 : decode cX8_whoMust 20 = .ok (.iload 4, 2) := by decide +kernel
theorem dX8_whoMust_22 : decode cX8_whoMust 22 = .ok (.aload_n 1, 1) := by decide +kernel
theorem dX8_whoMust_23 : decode cX8_whoMust 23 = .ok (.arraylength, 1) := by decide +kernel
theorem dX8_whoMust_24 : decode cX8_whoMust 24 = .ok (.if_icmp .ge 34, 3) := by decide +kernel
theorem dX8_whoMust_27 : decode cX8_whoMust 27 = .ok (.aload_n 1, 1) := by decide +kernel
theorem dX8_whoMust_28 : decode cX8_whoMust 28 = .ok (.iload 4, 2) := by decide +kernel
theorem dX8_whoMust_30 : decode cX8_whoMust 30 = .ok (.aaload, 1) := by decide +kernel
theorem dX8_whoMust_31 : decode cX8_whoMust 31 = .ok (.ifnull 21, 3) := by decide +kernel
theorem dX8_whoMust_34 : decode cX8_whoMust 34 = .ok (.aload_n 0, 1) := by decide +kernel
theorem dX8_whoMust_35 : decode cX8_whoMust 35 = .ok (.aload_n 1, 1) := by decide +kernel
theorem dX8_whoMust_36 : decode cX8_whoMust 36 = .ok (.iload_n 2, 1) := by decide +kernel
theorem dX8_whoMust_37 : decode cX8_whoMust 37 = .ok (.iload 4, 2) := by decide +kernel
theorem dX8_whoMust_39 : decode cX8_whoMust 39 = .ok (.invokevirtual 22, 3) := by decide +kernel
theorem dX8_whoMust_42 : decode cX8_whoMust 42 = .ok (.ifCond .ne 10, 3) := by decide +kernel
theorem dX8_whoMust_45 : decode cX8_whoMust 45 = .ok (.iload_n 3, 1) := by decide +kernel
theorem dX8_whoMust_46 : decode cX8_whoMust 46 = .ok (.iconst 1, 1) := by decide +kernel
theorem dX8_whoMust_47 : decode cX8_whoMust 47 = .ok (.iload 4, 2) := by decide +kernel
theorem dX8_whoMust_49 : decode cX8_whoMust 49 = .ok (.ishl, 1) := by decide +kernel
theorem dX8_whoMust_50 : decode cX8_whoMust 50 = .ok (.ior, 1) := by decide +kernel
theorem dX8_whoMust_51 : decode cX8_whoMust 51 = .ok (.istore_n 3, 1) := by decide +kernel
theorem dX8_whoMust_52 : decode cX8_whoMust 52 = .ok (.iinc 4 1, 3) := by decide +kernel
theorem dX8_whoMust_55 : decode cX8_whoMust 55 = .ok (.goto (-35), 3) := by decide +kernel
theorem dX8_whoMust_58 : decode cX8_whoMust 58 = .ok (.iload_n 3, 1) := by decide +kernel
theorem dX8_whoMust_59 : decode cX8_whoMust 59 = .ok (.ireturn, 1) := by decide +kernel
set_option maxRecDepth 20000 in
theorem ggX8_whoMay_X8_canBeWith : GoodIn wsX8_whoMay wsX8_canBeWith := goodIn_r _ [5, 6, 7, 8, 9, 10, 11, 12, 13, 14, 15, 16, 17, 18, 19, 20, 21, 4, 22, 23, 24, 25, 26, 27, 28, 29, 30, 31, 32, 33, 34, 35, 36, 37, 38, 39, 40, 41, 42, 43, 44, 45, 46, 47, 48, 49, 50, 51, 52, 53, 54, 55, 56, 57, 58, 59, 60, 61, 62, 63, 64, 65, 66, 67, 68, 69, 70, 71, 72, 73, 74, 75, 76, 77, 78, 79, 80, 81, 82, 83, 84, 85, 86, 87, 88, 89, 90, 91, 92, 93, 94, 95, 96, 97, 98, 99, 100, 101, 102, 103, 104, 105, 106, 107, 108] (by decide +kernel) (by decide +kernel)
set_option maxRecDepth 20000 in
theorem gX8_whoMay_X8_canBeWith : GoodIn wsX8_whoMay (wsV RX8 26 RX8 yX8_canBeWith wsX8_canBeWith) := goodIn_app (goodIn_of _ (by decide +kernel)) ggX8_whoMay_X8_canBeWith
theorem dX8_whoMay_0 : decode cX8_whoMay 0 = .ok (.iconst 0, 1) := by decide +kernel
theorem dX8_whoMay_1 : decode cX8_whoMay 1 = .ok (.istore_n 3, 1) := by decide +kernel
theorem dX8_whoMay_2 : decode cX8_whoMay 2 = .ok (.iconst 0, 1) := by decide +kernel
theorem dX8_whoMay_3 : decode cX8_whoMay 3 = .ok (.istore 4, 2) := by decide +kernel
theorem dX8_whoMay_5 : decode cX8_whoMay 5 = .ok (.iload 4, 2) := by decide +kernel
theorem dX8_whoMay_7 : decode cX8_whoMay 7 = .ok (.aload_n 1, 1) := by decide +kernel
theorem dX8_whoMay_8 : decode cX8_whoMay 8 = .ok (.arraylength, 1) := by decide +kernel
theorem dX8_whoMay_9 : decode cX8_whoMay 9 = .ok (.if_icmp .ge 34, 3) := by decide +kernel
theorem dX8_whoMay_12 : decode cX8_whoMay 12 = .ok (.aload_n 1, 1) := by decide +kernel
theorem dX8_whoMay_13 : decode cX8_whoMay 13 = .ok (.iload 4, 2) := by decide +kernel
theorem dX8_whoMay_15 : decode cX8_whoMay 15 = .ok (.aaload, 1) := by decide +kernel
theorem dX8_whoMay_16 : decode cX8_whoMay 16 = .ok (.ifnull 21, 3) := by decide +kernel
theorem dX8_whoMay_19 : decode cX8_whoMay 19 = .ok (.aload_n 0, 1) := by decide +kernel
theorem dX8_whoMay_20 : decode cX8_whoMay 20 = .ok (.aload_n 1, 1) := by decide +kernel
theorem dX8_whoMay_21 : decode cX8_whoMay 21 = .ok (.iload_n 2, 1) := by decide +kernel
theorem dX8_whoMay_22 : decode cX8_whoMay 22 = .ok (.iload 4, 2) := by decide +kernel
theorem dX8_whoMay_24 : decode cX8_whoMay 24 = .ok (.invokevirtual 26, 3) := by decide +kernel
theorem dX8_whoMay_27 : decode cX8_whoMay 27 = .ok (.ifCond .eq 10, 3) := by decide +kernel
theorem dX8_whoMay_30 : decode cX8_whoMay 30 = .ok (.iload_n 3, 1) := by decide +kernel
theorem dX8_whoMay_31 : decode cX8_whoMay 31 = .ok (.iconst 1, 1) := by decide +kernel
theorem dX8_whoMay_32 : decode cX8_whoMay 32 = .ok (.iload 4, 2) := by decide +kernel
theorem dX8_whoMay_34 : decode cX8_whoMay 34 = .ok (.ishl, 1) := by decide +kernel
theorem dX8_whoMay_35 : decode cX8_whoMay 35 = .ok (.ior, 1) := by decide +kernel
theorem dX8_whoMay_36 : decode cX8_whoMay 36 = .ok (.istore_n 3, 1) := by decide +kernel
theorem dX8_whoMay_37 : decode cX8_whoMay 37 = .ok (.iinc 4 1, 3) := by decide +kernel
theorem dX8_whoMay_40 : decode cX8_whoMay 40 = .ok (.goto (-35), 3) := by decide +kernel
theorem dX8_whoMay_43 : decode cX8_whoMay 43 = .ok (.iload_n 3, 1) := by decide +kernel
theorem dX8_whoMay_44 : decode cX8_whoMay 44 = .ok (.ireturn, 1) := by decide +kernel
set_option maxRecDepth 20000 in
theorem ggX8_leastCost_X8_start : GoodIn wsX8_leastCost wsX8_start := goodIn_r _ [5, 6, 7, 8, 9, 10, 87, 88] (by decide +kernel) (by decide +kernel)
set_option maxRecDepth 20000 in
theorem gX8_leastCost_X8_start : GoodIn wsX8_leastCost (wsV RX8 29 RX8 yX8_start wsX8_start) := goodIn_app (goodIn_of _ (by decide +kernel)) ggX8_leastCost_X8_start
set_option maxRecDepth 20000 in
theorem ggX8_leastCost_X8_addAllBut : GoodIn wsX8_leastCost wsX8_addAllBut := goodIn_r _ [14, 15, 16, 17, 18, 4, 19, 20, 6, 7, 8, 9, 10, 21, 22, 23, 24, 25, 26, 27, 28, 29, 30, 31, 32, 33, 34, 35, 36, 37, 38, 39, 40, 41, 42, 43, 44, 45, 46, 47, 48, 49, 50, 51, 52, 53, 54, 55, 56, 57, 58, 59, 60, 61, 62, 63, 64, 65, 66, 67, 68, 69, 70, 71, 72, 73, 74, 75, 76, 77, 78, 79, 80, 81, 82, 89, 90, 91, 92, 93, 94, 95, 96, 97, 98, 99, 100, 101, 102, 103, 104, 87, 88] (by decide +kernel) (by decide +kernel)
set_option maxRecDepth 20000 in
theorem gX8_leastCost_X8_addAllBut : GoodIn wsX8_leastCost (wsV RX8 32 RX8 yX8_addAllBut wsX8_addAllBut) := goodIn_app (goodIn_of _ (by decide +kernel)) ggX8_leastCost_X8_addAllBut
set_option maxRecDepth 20000 in
theorem ggX8_leastCost_X8_costOf : GoodIn wsX8_leastCost wsX8_costOf := goodIn_r _ [86, 6, 87, 88] (by decide +kernel) (by decide +kernel)
set_option maxRecDepth 20000 in
theorem gX8_leastCost_X8_costOf : GoodIn wsX8_leastCost (wsV RX8 36 RX8 yX8_costOf wsX8_costOf) := goodIn_app (goodIn_of _ (by decide +kernel)) ggX8_leastCost_X8_costOf
theorem dX8_leastCost_0 : decode cX8_leastCost 0 = .ok (.aload_n 0, 1) := by decide +kernel
theorem dX8_leastCost_1 : decode cX8_leastCost 1 = .ok (.invokevirtual 29, 3) := by decide +kernel
theorem dX8_leastCost_4 : decode cX8_leastCost 4 = .ok (.aload_n 0, 1) := by decide +kernel
theorem dX8_leastCost_5 : decode cX8_leastCost 5 = .ok (.aload_n 1, 1) := by decide +kernel
theorem dX8_leastCost_6 : decode cX8_leastCost 6 = .ok (.iconst (-1), 1) := by decide +kernel
theorem dX8_leastCost_7 : decode cX8_leastCost 7 = .ok (.iload_n 3, 1) := by decide +kernel
theorem dX8_leastCost_8 : decode cX8_leastCost 8 = .ok (.invokevirtual 32, 3) := by decide +kernel
theorem dX8_leastCost_11 : decode cX8_leastCost 11 = .ok (.aload_n 0, 1) := by decide +kernel
theorem dX8_leastCost_12 : decode cX8_leastCost 12 = .ok (.iload_n 2, 1) := by decide +kernel
theorem dX8_leastCost_13 : decode cX8_leastCost 13 = .ok (.invokevirtual 36, 3) := by decide +kernel
theorem dX8_leastCost_16 : decode cX8_leastCost 16 = .ok (.ireturn, 1) := by decide +kernel
set_option maxRecDepth 20000 in
theorem ggX8_canBeWithout_X8_start : GoodIn wsX8_canBeWithout wsX8_start := goodIn_r _ [6, 7, 8, 9, 10, 11, 103, 104] (by decide +kernel) (by decide +kernel)
set_option maxRecDepth 20000 in
theorem gX8_canBeWithout_X8_start : GoodIn wsX8_canBeWithout (wsV RX8 29 RX8 yX8_start wsX8_start) := goodIn_app (goodIn_of _ (by decide +kernel)) ggX8_canBeWithout_X8_start
set_option maxRecDepth 20000 in
theorem ggX8_canBeWithout_X8_addAllBut : GoodIn wsX8_canBeWithout wsX8_addAllBut := goodIn_r _ [15, 1, 16, 17, 18, 5, 19, 20, 7, 8, 9, 10, 11, 21, 22, 23, 24, 25, 26, 27, 28, 29, 30, 31, 32, 33, 34, 35, 36, 37, 38, 39, 40, 41, 42, 43, 44, 45, 46, 47, 48, 49, 50, 51, 52, 53, 54, 55, 56, 57, 58, 59, 60, 61, 62, 63, 64, 65, 66, 67, 68, 69, 70, 71, 72, 73, 74, 75, 76, 77, 78, 79, 80, 81, 82, 87, 88, 89, 90, 91, 92, 93, 94, 95, 96, 97, 98, 99, 100, 101, 102, 103, 104] (by decide +kernel) (by decide +kernel)
set_option maxRecDepth 20000 in
theorem gX8_canBeWithout_X8_addAllBut : GoodIn wsX8_canBeWithout (wsV RX8 32 RX8 yX8_addAllBut wsX8_addAllBut) := goodIn_app (goodIn_of _ (by decide +kernel)) ggX8_canBeWithout_X8_addAllBut
set_option maxRecDepth 20000 in
theorem ggX8_canBeWithout_X8_addWalker : GoodIn wsX8_canBeWithout wsX8_addWalker := goodIn_r _ [19, 20, 7, 8, 9, 10, 11, 21, 22, 23, 24, 25, 26, 27, 28, 29, 30, 31, 32, 33, 34, 35, 36, 37, 38, 39, 40, 41, 42, 43, 44, 45, 46, 47, 48, 49, 50, 51, 52, 53, 54, 55, 56, 57, 58, 59, 5, 60, 61, 62, 63, 64, 65, 66, 67, 68, 69, 70, 71, 72, 73, 74, 75, 76, 77, 78, 79, 80, 81, 82, 103, 104, 87, 88, 89, 90, 91, 92, 93, 94, 95, 96, 97, 98, 99, 100, 101, 102] (by decide +kernel) (by decide +kernel)
set_option maxRecDepth 20000 in
theorem gX8_canBeWithout_X8_addWalker : GoodIn wsX8_canBeWithout (wsV RX8 46 RX8 yX8_addWalker wsX8_addWalker) := goodIn_app (goodIn_of _ (by decide +kernel)) ggX8_canBeWithout_X8_addWalker
set_option maxRecDepth 20000 in
theorem ggX8_canBeWithout_X8_costOf : GoodIn wsX8_canBeWithout wsX8_costOf := goodIn_r _ [86, 7, 103, 104] (by decide +kernel) (by decide +kernel)
set_option maxRecDepth 20000 in
theorem gX8_canBeWithout_X8_costOf : GoodIn wsX8_canBeWithout (wsV RX8 36 RX8 yX8_costOf wsX8_costOf) := goodIn_app (goodIn_of _ (by decide +kernel)) ggX8_canBeWithout_X8_costOf
theorem dX8_canBeWithout_0 : decode cX8_canBeWithout 0 = .ok (.iload_n 3, 1) := by decide +kernel
theorem dX8_canBeWithout_1 : decode cX8_canBeWithout 1 = .ok (.ifCond .lt 9, 3) := by decide +kernel
theorem dX8_canBeWithout_4 : decode cX8_canBeWithout 4 = .ok (.iload_n 3, 1) := by decide +kernel
theorem dX8_canBeWithout_5 : decode cX8_canBeWithout 5 = .ok (.aload_n 1, 1) := by decide +kernel
theorem dX8_canBeWithout_6 : decode cX8_canBeWithout 6 = .ok (.arraylength, 1) := by decide +kernel
theorem dX8_canBeWithout_7 : decode cX8_canBeWithout 7 = .ok (.if_icmp .lt 5, 3) := by decide +kernel
theorem dX8_canBeWithout_10 : decode cX8_canBeWithout 10 = .ok (.iconst 0, 1) := by decide +kernel
theorem dX8_canBeWithout_11 : decode cX8_canBeWithout 11 = .ok (.ireturn, 1) := by decide +kernel
theorem dX8_canBeWithout_12 : decode cX8_canBeWithout 12 = .ok (.aload_n 1, 1) := by decide +kernel
theorem dX8_canBeWithout_13 : decode cX8_canBeWithout 13 = .ok (.iload_n 3, 1) := by decide +kernel
theorem dX8_canBeWithout_14 : decode cX8_canBeWithout 14 = .ok (.aaload, 1) := by decide +kernel
theorem dX8_canBeWithout_15 : decode cX8_canBeWithout 15 = .ok (.astore 4, 2) := by decide +kernel
theorem dX8_canBeWithout_17 : decode cX8_canBeWithout 17 = .ok (.aload 4, 2) := by decide +kernel
theorem dX8_canBeWithout_19 : decode cX8_canBeWithout 19 = .ok (.ifnonnull 5, 3) := by decide +kernel
theorem dX8_canBeWithout_22 : decode cX8_canBeWithout 22 = .ok (.iconst 0, 1) := by decide +kernel
theorem dX8_canBeWithout_23 : decode cX8_canBeWithout 23 = .ok (.ireturn, 1) := by decide +kernel
theorem dX8_canBeWithout_24 : decode cX8_canBeWithout 24 = .ok (.aload_n 0, 1) := by decide +kernel
theorem dX8_canBeWithout_25 : decode cX8_canBeWithout 25 = .ok (.invokevirtual 29, 3) := by decide +kernel
theorem dX8_canBeWithout_28 : decode cX8_canBeWithout 28 = .ok (.aload_n 0, 1) := by decide +kernel
theorem dX8_canBeWithout_29 : decode cX8_canBeWithout 29 = .ok (.aload_n 1, 1) := by decide +kernel
theorem dX8_canBeWithout_30 : decode cX8_canBeWithout 30 = .ok (.iload_n 3, 1) := by decide +kernel
theorem dX8_canBeWithout_31 : decode cX8_canBeWithout 31 = .ok (.iconst 1, 1) := by decide +kernel
theorem dX8_canBeWithout_32 : decode cX8_canBeWithout 32 = .ok (.invokevirtual 32, 3) := by decide +kernel
theorem dX8_canBeWithout_35 : decode cX8_canBeWithout 35 = .ok (.iconst 0, 1) := by decide +kernel
theorem dX8_canBeWithout_36 : decode cX8_canBeWithout 36 = .ok (.istore 5, 2) := by decide +kernel
theorem dX8_canBeWithout_38 : decode cX8_canBeWithout 38 = .ok (.iload 5, 2) := by decide +kernel
theorem dX8_canBeWithout_40 : decode cX8_canBeWithout 40 = .ok (.aload 4, 2) := by decide +kernel
theorem dX8_canBeWithout_42 : decode cX8_canBeWithout 42 = .ok (.getfield 40, 3) := by decide +kernel
theorem dX8_canBeWithout_45 : decode cX8_canBeWithout 45 = .ok (.if_icmp .ge 17, 3) := by decide +kernel
theorem dX8_canBeWithout_48 : decode cX8_canBeWithout 48 = .ok (.aload_n 0, 1) := by decide +kernel
theorem dX8_canBeWithout_49 : decode cX8_canBeWithout 49 = .ok (.aload 4, 2) := by decide +kernel
theorem dX8_canBeWithout_51 : decode cX8_canBeWithout 51 = .ok (.iconst 0, 1) := by decide +kernel
theorem dX8_canBeWithout_52 : decode cX8_canBeWithout 52 = .ok (.iconst 1, 1) := by decide +kernel
theorem dX8_canBeWithout_53 : decode cX8_canBeWithout 53 = .ok (.invokevirtual 46, 3) := by decide +kernel
theorem dX8_canBeWithout_56 : decode cX8_canBeWithout 56 = .ok (.iinc 5 1, 3) := by decide +kernel
theorem dX8_canBeWithout_59 : decode cX8_canBeWithout 59 = .ok (.goto (-21), 3) := by decide +kernel
theorem dX8_canBeWithout_62 : decode cX8_canBeWithout 62 = .ok (.aload_n 0, 1) := by decide +kernel
theorem dX8_canBeWithout_63 : decode cX8_canBeWithout 63 = .ok (.iload_n 2, 1) := by decide +kernel
theorem dX8_canBeWithout_64 : decode cX8_canBeWithout 64 = .ok (.invokevirtual 36, 3) := by decide +kernel
theorem dX8_canBeWithout_67 : decode cX8_canBeWithout 67 = .ok (.sipush 1000, 3) := by decide +kernel
theorem dX8_canBeWithout_70 : decode cX8_canBeWithout 70 = .ok (.if_icmp .eq 7, 3) := by decide +kernel
theorem dX8_canBeWithout_73 : decode cX8_canBeWithout 73 = .ok (.iconst 1, 1) := by decide +kernel
theorem dX8_canBeWithout_74 : decode cX8_canBeWithout 74 = .ok (.goto 4, 3) := by decide +kernel
theorem dX8_canBeWithout_77 : decode cX8_canBeWithout 77 = .ok (.iconst 0, 1) := by decide +kernel
theorem dX8_canBeWithout_78 : decode cX8_canBeWithout 78 = .ok (.ireturn, 1) := by decide +kernel
set_option maxRecDepth 20000 in
theorem ggX8_canBeWith_X5_canSin : GoodIn wsX8_canBeWith wsX5_canSin := goodIn_r _ [7, 8, 9, 87, 88, 89, 90, 91, 92, 93, 94, 95, 96, 97, 98, 99, 100, 101, 102] (by decide +kernel) (by decide +kernel)
set_option maxRecDepth 20000 in
theorem gX8_canBeWith_X5_canSin_u50X0 : GoodIn wsX8_canBeWith (va_wsU RX8 50 RX0 "KneelingStones$Parish" ⟨"KneelingStones$Parish", "canSin", "()Z"⟩ yX5_canSin wsX5_canSin) := goodIn_app (goodIn_of _ (by decide +kernel)) ggX8_canBeWith_X5_canSin
set_option maxRecDepth 20000 in
theorem gX8_canBeWith_X5_canSin : GoodIn wsX8_canBeWith (wsV RX8 50 RX5 yX5_canSin wsX5_canSin) := goodIn_app (goodIn_of _ (by decide +kernel)) ggX8_canBeWith_X5_canSin
set_option maxRecDepth 20000 in
theorem gX8_canBeWith_X5_canSin_u50X6 : GoodIn wsX8_canBeWith (va_wsU RX8 50 RX6 "KneelingStones$Parish" ⟨"KneelingStones$Parish", "canSin", "()Z"⟩ yX5_canSin wsX5_canSin) := goodIn_app (goodIn_of _ (by decide +kernel)) ggX8_canBeWith_X5_canSin
set_option maxRecDepth 20000 in
theorem gX8_canBeWith_X5_canSin_u50X7 : GoodIn wsX8_canBeWith (va_wsU RX8 50 RX7 "KneelingStones$Parish" ⟨"KneelingStones$Parish", "canSin", "()Z"⟩ yX5_canSin wsX5_canSin) := goodIn_app (goodIn_of _ (by decide +kernel)) ggX8_canBeWith_X5_canSin
set_option maxRecDepth 20000 in
theorem ggX8_canBeWith_X8_start : GoodIn wsX8_canBeWith wsX8_start := goodIn_r _ [18, 19, 20, 21, 22, 23, 103, 104] (by decide +kernel) (by decide +kernel)
set_option maxRecDepth 20000 in
theorem gX8_canBeWith_X8_start : GoodIn wsX8_canBeWith (wsV RX8 29 RX8 yX8_start wsX8_start) := goodIn_app (goodIn_of _ (by decide +kernel)) ggX8_canBeWith_X8_start
set_option maxRecDepth 20000 in
theorem ggX8_canBeWith_X8_addAllBut : GoodIn wsX8_canBeWith wsX8_addAllBut := goodIn_r _ [27, 1, 28, 29, 30, 17, 31, 32, 19, 20, 21, 22, 23, 2, 3, 4, 5, 6, 7, 8, 9, 10, 11, 12, 13, 33, 34, 35, 36, 37, 38, 39, 40, 41, 42, 43, 44, 45, 46, 47, 48, 49, 50, 51, 52, 53, 54, 55, 56, 57, 58, 59, 60, 61, 62, 63, 64, 65, 66, 67, 68, 69, 70, 71, 72, 73, 74, 75, 76, 77, 78, 79, 80, 81, 82, 87, 88, 89, 90, 91, 92, 93, 94, 95, 96, 97, 98, 99, 100, 101, 102, 103, 104] (by decide +kernel) (by decide +kernel)
set_option maxRecDepth 20000 in
theorem gX8_canBeWith_X8_addAllBut : GoodIn wsX8_canBeWith (wsV RX8 32 RX8 yX8_addAllBut wsX8_addAllBut) := goodIn_app (goodIn_of _ (by decide +kernel)) ggX8_canBeWith_X8_addAllBut
set_option maxRecDepth 20000 in
theorem ggX8_canBeWith_X8_addWalker : GoodIn wsX8_canBeWith wsX8_addWalker := goodIn_r _ [31, 32, 19, 20, 21, 22, 23, 2, 3, 4, 5, 6, 7, 8, 9, 10, 11, 12, 13, 33, 34, 35, 36, 37, 38, 39, 40, 41, 42, 43, 44, 45, 46, 47, 48, 49, 50, 51, 52, 53, 54, 55, 56, 57, 58, 59, 17, 60, 61, 62, 63, 64, 65, 66, 67, 68, 69, 70, 71, 72, 73, 74, 75, 76, 77, 78, 79, 80, 81, 82, 103, 104, 87, 88, 89, 90, 91, 92, 93, 94, 95, 96, 97, 98, 99, 100, 101, 102] (by decide +kernel) (by decide +kernel)
set_option maxRecDepth 20000 in
theorem gX8_canBeWith_X8_addWalker : GoodIn wsX8_canBeWith (wsV RX8 46 RX8 yX8_addWalker wsX8_addWalker) := goodIn_app (goodIn_of _ (by decide +kernel)) ggX8_canBeWith_X8_addWalker
set_option maxRecDepth 20000 in
theorem ggX8_canBeWith_X7_loss : GoodIn wsX8_canBeWith wsX7_loss := goodIn_r _ [67] (by decide +kernel) (by decide +kernel)
set_option maxRecDepth 20000 in
theorem gX8_canBeWith_X7_loss_u54X0 : GoodIn wsX8_canBeWith (va_wsO RX8 54 RX0 "KneelingStones$Parish" ⟨"KneelingStones$Parish", "loss", "()I"⟩ yX7_loss wsX7_loss) := goodIn_app (goodIn_of _ (by decide +kernel)) ggX8_canBeWith_X7_loss
set_option maxRecDepth 20000 in
theorem ggX8_canBeWith_X5_loss : GoodIn wsX8_canBeWith wsX5_loss := goodIn_r _ [68] (by decide +kernel) (by decide +kernel)
set_option maxRecDepth 20000 in
theorem gX8_canBeWith_X5_loss : GoodIn wsX8_canBeWith (wsV RX8 54 RX5 yX5_loss wsX5_loss) := goodIn_app (goodIn_of _ (by decide +kernel)) ggX8_canBeWith_X5_loss
set_option maxRecDepth 20000 in
theorem gX8_canBeWith_X5_loss_u54X6 : GoodIn wsX8_canBeWith (va_wsU RX8 54 RX6 "KneelingStones$Parish" ⟨"KneelingStones$Parish", "loss", "()I"⟩ yX5_loss wsX5_loss) := goodIn_app (goodIn_of _ (by decide +kernel)) ggX8_canBeWith_X5_loss
set_option maxRecDepth 20000 in
theorem gX8_canBeWith_X7_loss_u54X7 : GoodIn wsX8_canBeWith (va_wsO RX8 54 RX7 "KneelingStones$Parish" ⟨"KneelingStones$Parish", "loss", "()I"⟩ yX7_loss wsX7_loss) := goodIn_app (goodIn_of _ (by decide +kernel)) ggX8_canBeWith_X7_loss
set_option maxRecDepth 20000 in
theorem ggX8_canBeWith_X8_costOf : GoodIn wsX8_canBeWith wsX8_costOf := goodIn_r _ [86, 19, 103, 104] (by decide +kernel) (by decide +kernel)
set_option maxRecDepth 20000 in
theorem gX8_canBeWith_X8_costOf : GoodIn wsX8_canBeWith (wsV RX8 36 RX8 yX8_costOf wsX8_costOf) := goodIn_app (goodIn_of _ (by decide +kernel)) ggX8_canBeWith_X8_costOf
theorem dX8_canBeWith_0 : decode cX8_canBeWith 0 = .ok (.iload_n 3, 1) := by decide +kernel
theorem dX8_canBeWith_1 : decode cX8_canBeWith 1 = .ok (.ifCond .lt 9, 3) := by decide +kernel
theorem dX8_canBeWith_4 : decode cX8_canBeWith 4 = .ok (.iload_n 3, 1) := by decide +kernel
theorem dX8_canBeWith_5 : decode cX8_canBeWith 5 = .ok (.aload_n 1, 1) := by decide +kernel
theorem dX8_canBeWith_6 : decode cX8_canBeWith 6 = .ok (.arraylength, 1) := by decide +kernel
theorem dX8_canBeWith_7 : decode cX8_canBeWith 7 = .ok (.if_icmp .lt 5, 3) := by decide +kernel
theorem dX8_canBeWith_10 : decode cX8_canBeWith 10 = .ok (.iconst 0, 1) := by decide +kernel
theorem dX8_canBeWith_11 : decode cX8_canBeWith 11 = .ok (.ireturn, 1) := by decide +kernel
theorem dX8_canBeWith_12 : decode cX8_canBeWith 12 = .ok (.aload_n 1, 1) := by decide +kernel
theorem dX8_canBeWith_13 : decode cX8_canBeWith 13 = .ok (.iload_n 3, 1) := by decide +kernel
theorem dX8_canBeWith_14 : decode cX8_canBeWith 14 = .ok (.aaload, 1) := by decide +kernel
theorem dX8_canBeWith_15 : decode cX8_canBeWith 15 = .ok (.astore 4, 2) := by decide +kernel
theorem dX8_canBeWith_17 : decode cX8_canBeWith 17 = .ok (.aload 4, 2) := by decide +kernel
theorem dX8_canBeWith_19 : decode cX8_canBeWith 19 = .ok (.ifnull 11, 3) := by decide +kernel
theorem dX8_canBeWith_22 : decode cX8_canBeWith 22 = .ok (.aload 4, 2) := by decide +kernel
theorem dX8_canBeWith_24 : decode cX8_canBeWith 24 = .ok (.invokevirtual 50, 3) := by decide +kernel
theorem dX8_canBeWith_27 : decode cX8_canBeWith 27 = .ok (.ifCond .ne 5, 3) := by decide +kernel
theorem dX8_canBeWith_30 : decode cX8_canBeWith 30 = .ok (.iconst 0, 1) := by decide +kernel
theorem dX8_canBeWith_31 : decode cX8_canBeWith 31 = .ok (.ireturn, 1) := by decide +kernel
theorem dX8_canBeWith_32 : decode cX8_canBeWith 32 = .ok (.aload_n 0, 1) := by decide +kernel
theorem dX8_canBeWith_33 : decode cX8_canBeWith 33 = .ok (.invokevirtual 29, 3) := by decide +kernel
theorem dX8_canBeWith_36 : decode cX8_canBeWith 36 = .ok (.aload_n 0, 1) := by decide +kernel
theorem dX8_canBeWith_37 : decode cX8_canBeWith 37 = .ok (.aload_n 1, 1) := by decide +kernel
theorem dX8_canBeWith_38 : decode cX8_canBeWith 38 = .ok (.iload_n 3, 1) := by decide +kernel
theorem dX8_canBeWith_39 : decode cX8_canBeWith 39 = .ok (.iconst 1, 1) := by decide +kernel
theorem dX8_canBeWith_40 : decode cX8_canBeWith 40 = .ok (.invokevirtual 32, 3) := by decide +kernel
theorem dX8_canBeWith_43 : decode cX8_canBeWith 43 = .ok (.iconst 1, 1) := by decide +kernel
theorem dX8_canBeWith_44 : decode cX8_canBeWith 44 = .ok (.istore 5, 2) := by decide +kernel
theorem dX8_canBeWith_46 : decode cX8_canBeWith 46 = .ok (.iload 5, 2) := by decide +kernel
theorem dX8_canBeWith_48 : decode cX8_canBeWith 48 = .ok (.aload 4, 2) := by decide +kernel
theorem dX8_canBeWith_50 : decode cX8_canBeWith 50 = .ok (.getfield 40, 3) := by decide +kernel
theorem dX8_canBeWith_53 : decode cX8_canBeWith 53 = .ok (.if_icmp .ge 17, 3) := by decide +kernel
theorem dX8_canBeWith_56 : decode cX8_canBeWith 56 = .ok (.aload_n 0, 1) := by decide +kernel
theorem dX8_canBeWith_57 : decode cX8_canBeWith 57 = .ok (.aload 4, 2) := by decide +kernel
theorem dX8_canBeWith_59 : decode cX8_canBeWith 59 = .ok (.iconst 1, 1) := by decide +kernel
theorem dX8_canBeWith_60 : decode cX8_canBeWith 60 = .ok (.iconst 1, 1) := by decide +kernel
theorem dX8_canBeWith_61 : decode cX8_canBeWith 61 = .ok (.invokevirtual 46, 3) := by decide +kernel
theorem dX8_canBeWith_64 : decode cX8_canBeWith 64 = .ok (.iinc 5 1, 3) := by decide +kernel
theorem dX8_canBeWith_67 : decode cX8_canBeWith 67 = .ok (.goto (-21), 3) := by decide +kernel
theorem dX8_canBeWith_70 : decode cX8_canBeWith 70 = .ok (.aload_n 0, 1) := by decide +kernel
theorem dX8_canBeWith_71 : decode cX8_canBeWith 71 = .ok (.iload_n 2, 1) := by decide +kernel
theorem dX8_canBeWith_72 : decode cX8_canBeWith 72 = .ok (.aload 4, 2) := by decide +kernel
theorem dX8_canBeWith_74 : decode cX8_canBeWith 74 = .ok (.invokevirtual 54, 3) := by decide +kernel
theorem dX8_canBeWith_77 : decode cX8_canBeWith 77 = .ok (.iadd, 1) := by decide +kernel
theorem dX8_canBeWith_78 : decode cX8_canBeWith 78 = .ok (.invokevirtual 36, 3) := by decide +kernel
theorem dX8_canBeWith_81 : decode cX8_canBeWith 81 = .ok (.sipush 1000, 3) := by decide +kernel
theorem dX8_canBeWith_84 : decode cX8_canBeWith 84 = .ok (.if_icmp .eq 7, 3) := by decide +kernel
theorem dX8_canBeWith_87 : decode cX8_canBeWith 87 = .ok (.iconst 1, 1) := by decide +kernel
theorem dX8_canBeWith_88 : decode cX8_canBeWith 88 = .ok (.goto 4, 3) := by decide +kernel
theorem dX8_canBeWith_91 : decode cX8_canBeWith 91 = .ok (.iconst 0, 1) := by decide +kernel
theorem dX8_canBeWith_92 : decode cX8_canBeWith 92 = .ok (.ireturn, 1) := by decide +kernel
set_option maxRecDepth 20000 in
theorem ggX8_start_J7_fill_53178 : GoodIn wsX8_start wsJ7_fill_53178 := goodIn_r _ [5] (by decide +kernel) (by decide +kernel)
set_option maxRecDepth 20000 in
theorem gX8_start_J7_fill_53178 : GoodIn wsX8_start (va_wsS RX8 58 yJ7_fill_53178 wsJ7_fill_53178) := goodIn_app (goodIn_of _ (by decide +kernel)) ggX8_start_J7_fill_53178
theorem dX8_start_0 : decode cX8_start 0 = .ok (.aload_n 0, 1) := by decide +kernel
theorem dX8_start_1 : decode cX8_start 1 = .ok (.getfield 11, 3) := by decide +kernel
theorem dX8_start_4 : decode cX8_start 4 = .ok (.sipush 1000, 3) := by decide +kernel
theorem dX8_start_7 : decode cX8_start 7 = .ok (.invokestatic 58, 3) := by decide +kernel
theorem dX8_start_10 : decode cX8_start 10 = .ok (.aload_n 0, 1) := by decide +kernel
theorem dX8_start_11 : decode cX8_start 11 = .ok (.getfield 11, 3) := by decide +kernel
theorem dX8_start_14 : decode cX8_start 14 = .ok (.bipush 54, 2) := by decide +kernel
theorem dX8_start_16 : decode cX8_start 16 = .ok (.iconst 0, 1) := by decide +kernel
theorem dX8_start_17 : decode cX8_start 17 = .ok (.iastore, 1) := by decide +kernel
theorem dX8_start_18 : decode cX8_start 18 = .ok (.return_, 1) := by decide +kernel
theorem dX8_costOf_0 : decode cX8_costOf 0 = .ok (.iload_n 1, 1) := by decide +kernel
theorem dX8_costOf_1 : decode cX8_costOf 1 = .ok (.bipush (-54), 2) := by decide +kernel
theorem dX8_costOf_3 : decode cX8_costOf 3 = .ok (.isub, 1) := by decide +kernel
theorem dX8_costOf_4 : decode cX8_costOf 4 = .ok (.istore_n 2, 1) := by decide +kernel
theorem dX8_costOf_5 : decode cX8_costOf 5 = .ok (.iload_n 2, 1) := by decide +kernel
theorem dX8_costOf_6 : decode cX8_costOf 6 = .ok (.ifCond .lt 10, 3) := by decide +kernel
theorem dX8_costOf_9 : decode cX8_costOf 9 = .ok (.iload_n 2, 1) := by decide +kernel
theorem dX8_costOf_10 : decode cX8_costOf 10 = .ok (.sipush 271, 3) := by decide +kernel
theorem dX8_costOf_13 : decode cX8_costOf 13 = .ok (.if_icmp .lt 9, 3) := by decide +kernel
theorem dX8_costOf_16 : decode cX8_costOf 16 = .ok (.sipush 1000, 3) := by decide +kernel
theorem dX8_costOf_19 : decode cX8_costOf 19 = .ok (.goto 9, 3) := by decide +kernel
theorem dX8_costOf_22 : decode cX8_costOf 22 = .ok (.aload_n 0, 1) := by decide +kernel
theorem dX8_costOf_23 : decode cX8_costOf 23 = .ok (.getfield 11, 3) := by decide +kernel
theorem dX8_costOf_26 : decode cX8_costOf 26 = .ok (.iload_n 2, 1) := by decide +kernel
theorem dX8_costOf_27 : decode cX8_costOf 27 = .ok (.iaload, 1) := by decide +kernel
theorem dX8_costOf_28 : decode cX8_costOf 28 = .ok (.ireturn, 1) := by decide +kernel
set_option maxRecDepth 20000 in
theorem ggX8_addAllBut_X8_addWalker : GoodIn wsX8_addAllBut wsX8_addWalker := goodIn_r _ [6, 7, 8, 9, 10, 11, 12, 13, 14, 15, 16, 17, 18, 19, 20, 21, 22, 23, 24, 25, 26, 27, 28, 29, 30, 31, 32, 33, 34, 35, 36, 37, 38, 39, 40, 41, 42, 43, 44, 45, 46, 47, 48, 49, 50, 51, 5, 52, 53, 54, 55, 56, 57, 58, 59, 60, 61, 62, 63, 64, 65, 66, 67, 68, 69, 70, 71, 72, 73, 74, 91, 92, 75, 76, 77, 78, 79, 80, 81, 82, 83, 84, 85, 86, 87, 88, 89, 90] (by decide +kernel) (by decide +kernel)
set_option maxRecDepth 20000 in
theorem gX8_addAllBut_X8_addWalker : GoodIn wsX8_addAllBut (wsV RX8 46 RX8 yX8_addWalker wsX8_addWalker) := goodIn_app (goodIn_of _ (by decide +kernel)) ggX8_addAllBut_X8_addWalker
theorem dX8_addAllBut_0 : decode cX8_addAllBut 0 = .ok (.iconst 0, 1) := by decide +kernel
theorem dX8_addAllBut_1 : decode cX8_addAllBut 1 = .ok (.istore 4, 2) := by decide +kernel
theorem dX8_addAllBut_3 : decode cX8_addAllBut 3 = .ok (.iload 4, 2) := by decide +kernel
theorem dX8_addAllBut_5 : decode cX8_addAllBut 5 = .ok (.aload_n 1, 1) := by decide +kernel
theorem dX8_addAllBut_6 : decode cX8_addAllBut 6 = .ok (.arraylength, 1) := by decide +kernel
theorem dX8_addAllBut_7 : decode cX8_addAllBut 7 = .ok (.if_icmp .ge 59, 3) := by decide +kernel
theorem dX8_addAllBut_10 : decode cX8_addAllBut 10 = .ok (.aload_n 1, 1) := by decide +kernel
theorem dX8_addAllBut_11 : decode cX8_addAllBut 11 = .ok (.iload 4, 2) := by decide +kernel
theorem dX8_addAllBut_13 : decode cX8_addAllBut 13 = .ok (.aaload, 1) := by decide +kernel
theorem dX8_addAllBut_14 : decode cX8_addAllBut 14 = .ok (.astore 5, 2) := by decide +kernel
theorem dX8_addAllBut_16 : decode cX8_addAllBut 16 = .ok (.aload 5, 2) := by decide +kernel
theorem dX8_addAllBut_18 : decode cX8_addAllBut 18 = .ok (.ifnonnull 6, 3) := by decide +kernel
theorem dX8_addAllBut_21 : decode cX8_addAllBut 21 = .ok (.goto 45, 3) := by decide +kernel
theorem dX8_addAllBut_24 : decode cX8_addAllBut 24 = .ok (.iload 4, 2) := by decide +kernel
theorem dX8_addAllBut_26 : decode cX8_addAllBut 26 = .ok (.iload_n 2, 1) := by decide +kernel
theorem dX8_addAllBut_27 : decode cX8_addAllBut 27 = .ok (.if_icmp .ne 6, 3) := by decide +kernel
theorem dX8_addAllBut_30 : decode cX8_addAllBut 30 = .ok (.goto 30, 3) := by decide +kernel
theorem dX8_addAllBut_33 : decode cX8_addAllBut 33 = .ok (.iconst 0, 1) := by decide +kernel
theorem dX8_addAllBut_34 : decode cX8_addAllBut 34 = .ok (.istore 6, 2) := by decide +kernel
theorem dX8_addAllBut_36 : decode cX8_addAllBut 36 = .ok (.iload 6, 2) := by decide +kernel
theorem dX8_addAllBut_38 : decode cX8_addAllBut 38 = .ok (.aload 5, 2) := by decide +kernel
theorem dX8_addAllBut_40 : decode cX8_addAllBut 40 = .ok (.getfield 40, 3) := by decide +kernel
theorem dX8_addAllBut_43 : decode cX8_addAllBut 43 = .ok (.if_icmp .ge 17, 3) := by decide +kernel
theorem dX8_addAllBut_46 : decode cX8_addAllBut 46 = .ok (.aload_n 0, 1) := by decide +kernel
theorem dX8_addAllBut_47 : decode cX8_addAllBut 47 = .ok (.aload 5, 2) := by decide +kernel
theorem dX8_addAllBut_49 : decode cX8_addAllBut 49 = .ok (.iconst 1, 1) := by decide +kernel
theorem dX8_addAllBut_50 : decode cX8_addAllBut 50 = .ok (.iload_n 3, 1) := by decide +kernel
theorem dX8_addAllBut_51 : decode cX8_addAllBut 51 = .ok (.invokevirtual 46, 3) := by decide +kernel
theorem dX8_addAllBut_54 : decode cX8_addAllBut 54 = .ok (.iinc 6 1, 3) := by decide +kernel
theorem dX8_addAllBut_57 : decode cX8_addAllBut 57 = .ok (.goto (-21), 3) := by decide +kernel
theorem dX8_addAllBut_60 : decode cX8_addAllBut 60 = .ok (.iinc 4 1, 3) := by decide +kernel
theorem dX8_addAllBut_63 : decode cX8_addAllBut 63 = .ok (.goto (-60), 3) := by decide +kernel
theorem dX8_addAllBut_66 : decode cX8_addAllBut 66 = .ok (.return_, 1) := by decide +kernel
set_option maxRecDepth 20000 in
theorem ggX8_addWalker_J7_fill_53178 : GoodIn wsX8_addWalker wsJ7_fill_53178 := goodIn_r _ [6] (by decide +kernel) (by decide +kernel)
set_option maxRecDepth 20000 in
theorem gX8_addWalker_J7_fill_53178 : GoodIn wsX8_addWalker (va_wsS RX8 58 yJ7_fill_53178 wsJ7_fill_53178) := goodIn_app (goodIn_of _ (by decide +kernel)) ggX8_addWalker_J7_fill_53178
set_option maxRecDepth 20000 in
theorem ggX8_addWalker_X5_canSin : GoodIn wsX8_addWalker wsX5_canSin := goodIn_r _ [12, 13, 14, 72, 73, 74, 75, 76, 77, 78, 79, 80, 81, 82, 83, 84, 85, 86, 87] (by decide +kernel) (by decide +kernel)
set_option maxRecDepth 20000 in
theorem gX8_addWalker_X5_canSin_u50X0 : GoodIn wsX8_addWalker (va_wsU RX8 50 RX0 "KneelingStones$Parish" ⟨"KneelingStones$Parish", "canSin", "()Z"⟩ yX5_canSin wsX5_canSin) := goodIn_app (goodIn_of _ (by decide +kernel)) ggX8_addWalker_X5_canSin
set_option maxRecDepth 20000 in
theorem gX8_addWalker_X5_canSin : GoodIn wsX8_addWalker (wsV RX8 50 RX5 yX5_canSin wsX5_canSin) := goodIn_app (goodIn_of _ (by decide +kernel)) ggX8_addWalker_X5_canSin
set_option maxRecDepth 20000 in
theorem gX8_addWalker_X5_canSin_u50X6 : GoodIn wsX8_addWalker (va_wsU RX8 50 RX6 "KneelingStones$Parish" ⟨"KneelingStones$Parish", "canSin", "()Z"⟩ yX5_canSin wsX5_canSin) := goodIn_app (goodIn_of _ (by decide +kernel)) ggX8_addWalker_X5_canSin
set_option maxRecDepth 20000 in
theorem gX8_addWalker_X5_canSin_u50X7 : GoodIn wsX8_addWalker (va_wsU RX8 50 RX7 "KneelingStones$Parish" ⟨"KneelingStones$Parish", "canSin", "()Z"⟩ yX5_canSin wsX5_canSin) := goodIn_app (goodIn_of _ (by decide +kernel)) ggX8_addWalker_X5_canSin
set_option maxRecDepth 20000 in
theorem ggX8_addWalker_X5_canWish : GoodIn wsX8_addWalker wsX5_canWish := goodIn_r _ [23, 13, 72, 73, 74, 75, 76, 77, 78, 79, 80, 81, 82, 83, 84, 85, 86, 87] (by decide +kernel) (by decide +kernel)
set_option maxRecDepth 20000 in
theorem gX8_addWalker_X5_canWish_u64X0 : GoodIn wsX8_addWalker (va_wsU RX8 64 RX0 "KneelingStones$Parish" ⟨"KneelingStones$Parish", "canWish", "()Z"⟩ yX5_canWish wsX5_canWish) := goodIn_app (goodIn_of _ (by decide +kernel)) ggX8_addWalker_X5_canWish
set_option maxRecDepth 20000 in
theorem gX8_addWalker_X5_canWish : GoodIn wsX8_addWalker (wsV RX8 64 RX5 yX5_canWish wsX5_canWish) := goodIn_app (goodIn_of _ (by decide +kernel)) ggX8_addWalker_X5_canWish
set_option maxRecDepth 20000 in
theorem gX8_addWalker_X5_canWish_u64X6 : GoodIn wsX8_addWalker (va_wsU RX8 64 RX6 "KneelingStones$Parish" ⟨"KneelingStones$Parish", "canWish", "()Z"⟩ yX5_canWish wsX5_canWish) := goodIn_app (goodIn_of _ (by decide +kernel)) ggX8_addWalker_X5_canWish
set_option maxRecDepth 20000 in
theorem gX8_addWalker_X5_canWish_u64X7 : GoodIn wsX8_addWalker (va_wsU RX8 64 RX7 "KneelingStones$Parish" ⟨"KneelingStones$Parish", "canWish", "()Z"⟩ yX5_canWish wsX5_canWish) := goodIn_app (goodIn_of _ (by decide +kernel)) ggX8_addWalker_X5_canWish
set_option maxRecDepth 20000 in
theorem ggX8_addWalker_X5_gift : GoodIn wsX8_addWalker wsX5_gift := goodIn_r _ [32] (by decide +kernel) (by decide +kernel)
set_option maxRecDepth 20000 in
theorem gX8_addWalker_X5_gift_u67X0 : GoodIn wsX8_addWalker (va_wsU RX8 67 RX0 "KneelingStones$Parish" ⟨"KneelingStones$Parish", "gift", "()I"⟩ yX5_gift wsX5_gift) := goodIn_app (goodIn_of _ (by decide +kernel)) ggX8_addWalker_X5_gift
set_option maxRecDepth 20000 in
theorem gX8_addWalker_X5_gift : GoodIn wsX8_addWalker (wsV RX8 67 RX5 yX5_gift wsX5_gift) := goodIn_app (goodIn_of _ (by decide +kernel)) ggX8_addWalker_X5_gift
set_option maxRecDepth 20000 in
theorem ggX8_addWalker_X6_gift : GoodIn wsX8_addWalker wsX6_gift := goodIn_r _ [39, 40, 41, 72, 73, 74, 75, 76, 77, 78, 79, 80, 81, 82, 83, 84, 85, 86, 87] (by decide +kernel) (by decide +kernel)
set_option maxRecDepth 20000 in
theorem gX8_addWalker_X6_gift_u67X6 : GoodIn wsX8_addWalker (va_wsO RX8 67 RX6 "KneelingStones$Parish" ⟨"KneelingStones$Parish", "gift", "()I"⟩ yX6_gift wsX6_gift) := goodIn_app (goodIn_of _ (by decide +kernel)) ggX8_addWalker_X6_gift
set_option maxRecDepth 20000 in
theorem gX8_addWalker_X5_gift_u67X7 : GoodIn wsX8_addWalker (va_wsU RX8 67 RX7 "KneelingStones$Parish" ⟨"KneelingStones$Parish", "gift", "()I"⟩ yX5_gift wsX5_gift) := goodIn_app (goodIn_of _ (by decide +kernel)) ggX8_addWalker_X5_gift
set_option maxRecDepth 20000 in
theorem ggX8_addWalker_X8_offer : GoodIn wsX8_addWalker wsX8_offer := goodIn_r _ [47, 1, 70, 71] (by decide +kernel) (by decide +kernel)
set_option maxRecDepth 20000 in
theorem gX8_addWalker_X8_offer : GoodIn wsX8_addWalker (wsV RX8 70 RX8 yX8_offer wsX8_offer) := goodIn_app (goodIn_of _ (by decide +kernel)) ggX8_addWalker_X8_offer
set_option maxRecDepth 20000 in
theorem ggX8_addWalker_X7_loss : GoodIn wsX8_addWalker wsX7_loss := goodIn_r _ [54] (by decide +kernel) (by decide +kernel)
set_option maxRecDepth 20000 in
theorem gX8_addWalker_X7_loss_u54X0 : GoodIn wsX8_addWalker (va_wsO RX8 54 RX0 "KneelingStones$Parish" ⟨"KneelingStones$Parish", "loss", "()I"⟩ yX7_loss wsX7_loss) := goodIn_app (goodIn_of _ (by decide +kernel)) ggX8_addWalker_X7_loss
set_option maxRecDepth 20000 in
theorem ggX8_addWalker_X5_loss : GoodIn wsX8_addWalker wsX5_loss := goodIn_r _ [55] (by decide +kernel) (by decide +kernel)
set_option maxRecDepth 20000 in
theorem gX8_addWalker_X5_loss : GoodIn wsX8_addWalker (wsV RX8 54 RX5 yX5_loss wsX5_loss) := goodIn_app (goodIn_of _ (by decide +kernel)) ggX8_addWalker_X5_loss
set_option maxRecDepth 20000 in
theorem gX8_addWalker_X5_loss_u54X6 : GoodIn wsX8_addWalker (va_wsU RX8 54 RX6 "KneelingStones$Parish" ⟨"KneelingStones$Parish", "loss", "()I"⟩ yX5_loss wsX5_loss) := goodIn_app (goodIn_of _ (by decide +kernel)) ggX8_addWalker_X5_loss
set_option maxRecDepth 20000 in
theorem gX8_addWalker_X7_loss_u54X7 : GoodIn wsX8_addWalker (va_wsO RX8 54 RX7 "KneelingStones$Parish" ⟨"KneelingStones$Parish", "loss", "()I"⟩ yX7_loss wsX7_loss) := goodIn_app (goodIn_of _ (by decide +kernel)) ggX8_addWalker_X7_loss
set_option maxRecDepth 20000 in
theorem ggX8_addWalker_X5_canRest : GoodIn wsX8_addWalker wsX5_canRest := goodIn_r _ [65, 13, 14, 72, 73, 74, 75, 76, 77, 78, 79, 80, 81, 82, 83, 84, 85, 86, 87] (by decide +kernel) (by decide +kernel)
set_option maxRecDepth 20000 in
theorem gX8_addWalker_X5_canRest_u74X0 : GoodIn wsX8_addWalker (va_wsU RX8 74 RX0 "KneelingStones$Parish" ⟨"KneelingStones$Parish", "canRest", "()Z"⟩ yX5_canRest wsX5_canRest) := goodIn_app (goodIn_of _ (by decide +kernel)) ggX8_addWalker_X5_canRest
set_option maxRecDepth 20000 in
theorem gX8_addWalker_X5_canRest : GoodIn wsX8_addWalker (wsV RX8 74 RX5 yX5_canRest wsX5_canRest) := goodIn_app (goodIn_of _ (by decide +kernel)) ggX8_addWalker_X5_canRest
set_option maxRecDepth 20000 in
theorem gX8_addWalker_X5_canRest_u74X6 : GoodIn wsX8_addWalker (va_wsU RX8 74 RX6 "KneelingStones$Parish" ⟨"KneelingStones$Parish", "canRest", "()Z"⟩ yX5_canRest wsX5_canRest) := goodIn_app (goodIn_of _ (by decide +kernel)) ggX8_addWalker_X5_canRest
set_option maxRecDepth 20000 in
theorem gX8_addWalker_X5_canRest_u74X7 : GoodIn wsX8_addWalker (va_wsU RX8 74 RX7 "KneelingStones$Parish" ⟨"KneelingStones$Parish", "canRest", "()Z"⟩ yX5_canRest wsX5_canRest) := goodIn_app (goodIn_of _ (by decide +kernel)) ggX8_addWalker_X5_canRest
theorem dX8_addWalker_0 : decode cX8_addWalker 0 = .ok (.aload_n 0, 1) := by decide +kernel
theorem dX8_addWalker_1 : decode cX8_addWalker 1 = .ok (.getfield 15, 3) := by decide +kernel
theorem dX8_addWalker_4 : decode cX8_addWalker 4 = .ok (.sipush 1000, 3) := by decide +kernel
theorem dX8_addWalker_7 : decode cX8_addWalker 7 = .ok (.invokestatic 58, 3) := by decide +kernel
theorem dX8_addWalker_10 : decode cX8_addWalker 10 = .ok (.iload_n 2, 1) := by decide +kernel
theorem dX8_addWalker_11 : decode cX8_addWalker 11 = .ok (.ifCond .eq 14, 3) := by decide +kernel
theorem dX8_addWalker_14 : decode cX8_addWalker 14 = .ok (.aload_n 1, 1) := by decide +kernel
theorem dX8_addWalker_15 : decode cX8_addWalker 15 = .ok (.invokevirtual 50, 3) := by decide +kernel
theorem dX8_addWalker_18 : decode cX8_addWalker 18 = .ok (.ifCond .eq 7, 3) := by decide +kernel
theorem dX8_addWalker_21 : decode cX8_addWalker 21 = .ok (.iconst 1, 1) := by decide +kernel
theorem dX8_addWalker_22 : decode cX8_addWalker 22 = .ok (.goto 4, 3) := by decide +kernel
theorem dX8_addWalker_25 : decode cX8_addWalker 25 = .ok (.iconst 0, 1) := by decide +kernel
theorem dX8_addWalker_26 : decode cX8_addWalker 26 = .ok (.istore 4, 2) := by decide +kernel
theorem dX8_addWalker_28 : decode cX8_addWalker 28 = .ok (.iconst 0, 1) := by decide +kernel
theorem dX8_addWalker_29 : decode cX8_addWalker 29 = .ok (.istore 5, 2) := by decide +kernel
theorem dX8_addWalker_31 : decode cX8_addWalker 31 = .ok (.iload 5, 2) := by decide +kernel
theorem dX8_addWalker_33 : decode cX8_addWalker 33 = .ok (.sipush 271, 3) := by decide +kernel
theorem dX8_addWalker_36 : decode cX8_addWalker 36 = .ok (.if_icmp .ge 84, 3) := by decide +kernel
theorem dX8_addWalker_39 : decode cX8_addWalker 39 = .ok (.aload_n 0, 1) := by decide +kernel
theorem dX8_addWalker_40 : decode cX8_addWalker 40 = .ok (.getfield 11, 3) := by decide +kernel
theorem dX8_addWalker_43 : decode cX8_addWalker 43 = .ok (.iload 5, 2) := by decide +kernel
theorem dX8_addWalker_45 : decode cX8_addWalker 45 = .ok (.iaload, 1) := by decide +kernel
theorem dX8_addWalker_46 : decode cX8_addWalker 46 = .ok (.istore 6, 2) := by decide +kernel
theorem dX8_addWalker_48 : decode cX8_addWalker 48 = .ok (.iload 6, 2) := by decide +kernel
theorem dX8_addWalker_50 : decode cX8_addWalker 50 = .ok (.sipush 1000, 3) := by decide +kernel
theorem dX8_addWalker_53 : decode cX8_addWalker 53 = .ok (.if_icmp .ne 6, 3) := by decide +kernel
theorem dX8_addWalker_56 : decode cX8_addWalker 56 = .ok (.goto 58, 3) := by decide +kernel
theorem dX8_addWalker_59 : decode cX8_addWalker 59 = .ok (.aload_n 1, 1) := by decide +kernel
theorem dX8_addWalker_60 : decode cX8_addWalker 60 = .ok (.invokevirtual 64, 3) := by decide +kernel
theorem dX8_addWalker_63 : decode cX8_addWalker 63 = .ok (.ifCond .eq 16, 3) := by decide +kernel
theorem dX8_addWalker_66 : decode cX8_addWalker 66 = .ok (.aload_n 0, 1) := by decide +kernel
theorem dX8_addWalker_67 : decode cX8_addWalker 67 = .ok (.iload 5, 2) := by decide +kernel
theorem dX8_addWalker_69 : decode cX8_addWalker 69 = .ok (.aload_n 1, 1) := by decide +kernel
theorem dX8_addWalker_70 : decode cX8_addWalker 70 = .ok (.invokevirtual 67, 3) := by decide +kernel
theorem dX8_addWalker_73 : decode cX8_addWalker 73 = .ok (.iadd, 1) := by decide +kernel
theorem dX8_addWalker_74 : decode cX8_addWalker 74 = .ok (.iload 6, 2) := by decide +kernel
theorem dX8_addWalker_76 : decode cX8_addWalker 76 = .ok (.invokevirtual 70, 3) := by decide +kernel
theorem dX8_addWalker_79 : decode cX8_addWalker 79 = .ok (.iload 4, 2) := by decide +kernel
theorem dX8_addWalker_81 : decode cX8_addWalker 81 = .ok (.ifCond .eq 18, 3) := by decide +kernel
theorem dX8_addWalker_84 : decode cX8_addWalker 84 = .ok (.aload_n 0, 1) := by decide +kernel
theorem dX8_addWalker_85 : decode cX8_addWalker 85 = .ok (.iload 5, 2) := by decide +kernel
theorem dX8_addWalker_87 : decode cX8_addWalker 87 = .ok (.aload_n 1, 1) := by decide +kernel
theorem dX8_addWalker_88 : decode cX8_addWalker 88 = .ok (.invokevirtual 54, 3) := by decide +kernel
theorem dX8_addWalker_91 : decode cX8_addWalker 91 = .ok (.isub, 1) := by decide +kernel
theorem dX8_addWalker_92 : decode cX8_addWalker 92 = .ok (.iload 6, 2) := by decide +kernel
theorem dX8_addWalker_94 : decode cX8_addWalker 94 = .ok (.iload_n 3, 1) := by decide +kernel
theorem dX8_addWalker_95 : decode cX8_addWalker 95 = .ok (.iadd, 1) := by decide +kernel
theorem dX8_addWalker_96 : decode cX8_addWalker 96 = .ok (.invokevirtual 70, 3) := by decide +kernel
theorem dX8_addWalker_99 : decode cX8_addWalker 99 = .ok (.aload_n 1, 1) := by decide +kernel
theorem dX8_addWalker_100 : decode cX8_addWalker 100 = .ok (.invokevirtual 74, 3) := by decide +kernel
theorem dX8_addWalker_103 : decode cX8_addWalker 103 = .ok (.ifCond .eq 11, 3) := by decide +kernel
theorem dX8_addWalker_106 : decode cX8_addWalker 106 = .ok (.aload_n 0, 1) := by decide +kernel
theorem dX8_addWalker_107 : decode cX8_addWalker 107 = .ok (.iload 5, 2) := by decide +kernel
theorem dX8_addWalker_109 : decode cX8_addWalker 109 = .ok (.iload 6, 2) := by decide +kernel
theorem dX8_addWalker_111 : decode cX8_addWalker 111 = .ok (.invokevirtual 70, 3) := by decide +kernel
theorem dX8_addWalker_114 : decode cX8_addWalker 114 = .ok (.iinc 5 1, 3) := by decide +kernel
theorem dX8_addWalker_117 : decode cX8_addWalker 117 = .ok (.goto (-86), 3) := by decide +kernel
theorem dX8_addWalker_120 : decode cX8_addWalker 120 = .ok (.aload_n 0, 1) := by decide +kernel
theorem dX8_addWalker_121 : decode cX8_addWalker 121 = .ok (.getfield 11, 3) := by decide +kernel
theorem dX8_addWalker_124 : decode cX8_addWalker 124 = .ok (.astore 5, 2) := by decide +kernel
theorem dX8_addWalker_126 : decode cX8_addWalker 126 = .ok (.aload_n 0, 1) := by decide +kernel
theorem dX8_addWalker_127 : decode cX8_addWalker 127 = .ok (.aload_n 0, 1) := by decide +kernel
theorem dX8_addWalker_128 : decode cX8_addWalker 128 = .ok (.getfield 15, 3) := by decide +kernel
theorem dX8_addWalker_131 : decode cX8_addWalker 131 = .ok (.putfield 11, 3) := by decide +kernel
theorem dX8_addWalker_134 : decode cX8_addWalker 134 = .ok (.aload_n 0, 1) := by decide +kernel
theorem dX8_addWalker_135 : decode cX8_addWalker 135 = .ok (.aload 5, 2) := by decide +kernel
theorem dX8_addWalker_137 : decode cX8_addWalker 137 = .ok (.putfield 15, 3) := by decide +kernel
theorem dX8_addWalker_140 : decode cX8_addWalker 140 = .ok (.return_, 1) := by decide +kernel
theorem dX8_offer_0 : decode cX8_offer 0 = .ok (.iload_n 1, 1) := by decide +kernel
theorem dX8_offer_1 : decode cX8_offer 1 = .ok (.ifCond .lt 27, 3) := by decide +kernel
theorem dX8_offer_4 : decode cX8_offer 4 = .ok (.iload_n 1, 1) := by decide +kernel
theorem dX8_offer_5 : decode cX8_offer 5 = .ok (.sipush 271, 3) := by decide +kernel
theorem dX8_offer_8 : decode cX8_offer 8 = .ok (.if_icmp .ge 20, 3) := by decide +kernel
theorem dX8_offer_11 : decode cX8_offer 11 = .ok (.iload_n 2, 1) := by decide +kernel
theorem dX8_offer_12 : decode cX8_offer 12 = .ok (.aload_n 0, 1) := by decide +kernel
theorem dX8_offer_13 : decode cX8_offer 13 = .ok (.getfield 15, 3) := by decide +kernel
theorem dX8_offer_16 : decode cX8_offer 16 = .ok (.iload_n 1, 1) := by decide +kernel
theorem dX8_offer_17 : decode cX8_offer 17 = .ok (.iaload, 1) := by decide +kernel
theorem dX8_offer_18 : decode cX8_offer 18 = .ok (.if_icmp .ge 10, 3) := by decide +kernel
theorem dX8_offer_21 : decode cX8_offer 21 = .ok (.aload_n 0, 1) := by decide +kernel
theorem dX8_offer_22 : decode cX8_offer 22 = .ok (.getfield 15, 3) := by decide +kernel
theorem dX8_offer_25 : decode cX8_offer 25 = .ok (.iload_n 1, 1) := by decide +kernel
theorem dX8_offer_26 : decode cX8_offer 26 = .ok (.iload_n 2, 1) := by decide +kernel
theorem dX8_offer_27 : decode cX8_offer 27 = .ok (.iastore, 1) := by decide +kernel
theorem dX8_offer_28 : decode cX8_offer 28 = .ok (.return_, 1) := by decide +kernel
set_option maxRecDepth 20000 in
theorem ggX9_init_X4_init : GoodIn wsX9_init wsX4_init := goodIn_r _ [25, 26, 2, 3, 18, 27, 39, 40] (by decide +kernel) (by decide +kernel)
set_option maxRecDepth 20000 in
theorem gX9_init_X4_init_n11 : GoodIn wsX9_init (wsX4_init) := ggX9_init_X4_init
set_option maxRecDepth 20000 in
theorem ggX9_init_X2_init : GoodIn wsX9_init wsX2_init := goodIn_r _ [29, 30, 2, 3, 18, 31, 32, 33, 52, 53, 54, 55, 56, 57, 58, 59] (by decide +kernel) (by decide +kernel)
set_option maxRecDepth 20000 in
theorem gX9_init_X2_init_n30 : GoodIn wsX9_init (wsX2_init) := ggX9_init_X2_init
set_option maxRecDepth 20000 in
theorem ggX9_init_X8_init : GoodIn wsX9_init wsX8_init := goodIn_r _ [35, 36, 2, 3, 18, 37, 38, 60, 61] (by decide +kernel) (by decide +kernel)
set_option maxRecDepth 20000 in
theorem gX9_init_X8_init_n47 : GoodIn wsX9_init (wsX8_init) := ggX9_init_X8_init
theorem dX9_init_0 : decode cX9_init 0 = .ok (.aload_n 0, 1) := by decide +kernel
theorem dX9_init_1 : decode cX9_init 1 = .ok (.invokespecial 3, 3) := by decide +kernel
theorem dX9_init_4 : decode cX9_init 4 = .ok (.aload_n 0, 1) := by decide +kernel
theorem dX9_init_5 : decode cX9_init 5 = .ok (.new 9, 3) := by decide +kernel
theorem dX9_init_8 : decode cX9_init 8 = .ok (.dup, 1) := by decide +kernel
theorem dX9_init_9 : decode cX9_init 9 = .ok (.invokespecial 11, 3) := by decide +kernel
theorem dX9_init_12 : decode cX9_init 12 = .ok (.putfield 12, 3) := by decide +kernel
theorem dX9_init_15 : decode cX9_init 15 = .ok (.aload_n 0, 1) := by decide +kernel
theorem dX9_init_16 : decode cX9_init 16 = .ok (.iconst 4, 1) := by decide +kernel
theorem dX9_init_17 : decode cX9_init 17 = .ok (.anewarray 16, 3) := by decide +kernel
theorem dX9_init_20 : decode cX9_init 20 = .ok (.putfield 18, 3) := by decide +kernel
theorem dX9_init_23 : decode cX9_init 23 = .ok (.aload_n 0, 1) := by decide +kernel
theorem dX9_init_24 : decode cX9_init 24 = .ok (.bipush 6, 2) := by decide +kernel
theorem dX9_init_26 : decode cX9_init 26 = .ok (.anewarray 22, 3) := by decide +kernel
theorem dX9_init_29 : decode cX9_init 29 = .ok (.putfield 24, 3) := by decide +kernel
theorem dX9_init_32 : decode cX9_init 32 = .ok (.aload_n 0, 1) := by decide +kernel
theorem dX9_init_33 : decode cX9_init 33 = .ok (.new 28, 3) := by decide +kernel
theorem dX9_init_36 : decode cX9_init 36 = .ok (.dup, 1) := by decide +kernel
theorem dX9_init_37 : decode cX9_init 37 = .ok (.invokespecial 30, 3) := by decide +kernel
theorem dX9_init_40 : decode cX9_init 40 = .ok (.putfield 31, 3) := by decide +kernel
theorem dX9_init_43 : decode cX9_init 43 = .ok (.aload_n 0, 1) := by decide +kernel
theorem dX9_init_44 : decode cX9_init 44 = .ok (.new 28, 3) := by decide +kernel
theorem dX9_init_47 : decode cX9_init 47 = .ok (.dup, 1) := by decide +kernel
theorem dX9_init_48 : decode cX9_init 48 = .ok (.invokespecial 30, 3) := by decide +kernel
theorem dX9_init_51 : decode cX9_init 51 = .ok (.putfield 35, 3) := by decide +kernel
theorem dX9_init_54 : decode cX9_init 54 = .ok (.aload_n 0, 1) := by decide +kernel
theorem dX9_init_55 : decode cX9_init 55 = .ok (.new 28, 3) := by decide +kernel
theorem dX9_init_58 : decode cX9_init 58 = .ok (.dup, 1) := by decide +kernel
theorem dX9_init_59 : decode cX9_init 59 = .ok (.invokespecial 30, 3) := by decide +kernel
theorem dX9_init_62 : decode cX9_init 62 = .ok (.putfield 38, 3) := by decide +kernel
theorem dX9_init_65 : decode cX9_init 65 = .ok (.aload_n 0, 1) := by decide +kernel
theorem dX9_init_66 : decode cX9_init 66 = .ok (.bipush 7, 2) := by decide +kernel
theorem dX9_init_68 : decode cX9_init 68 = .ok (.newarray .int, 2) := by decide +kernel
theorem dX9_init_70 : decode cX9_init 70 = .ok (.putfield 41, 3) := by decide +kernel
theorem dX9_init_73 : decode cX9_init 73 = .ok (.aload_n 0, 1) := by decide +kernel
theorem dX9_init_74 : decode cX9_init 74 = .ok (.new 45, 3) := by decide +kernel
theorem dX9_init_77 : decode cX9_init 77 = .ok (.dup, 1) := by decide +kernel
theorem dX9_init_78 : decode cX9_init 78 = .ok (.invokespecial 47, 3) := by decide +kernel
theorem dX9_init_81 : decode cX9_init 81 = .ok (.putfield 48, 3) := by decide +kernel
theorem dX9_init_84 : decode cX9_init 84 = .ok (.return_, 1) := by decide +kernel
set_option maxRecDepth 20000 in
theorem ggX9_letters_X4_lettersIn : GoodIn wsX9_letters wsX4_lettersIn := goodIn_r _ [6, 7, 8, 5, 9, 10] (by decide +kernel) (by decide +kernel)
set_option maxRecDepth 20000 in
theorem gX9_letters_X4_lettersIn : GoodIn wsX9_letters (va_wsS RX9 52 yX4_lettersIn wsX4_lettersIn) := goodIn_app (goodIn_of _ (by decide +kernel)) ggX9_letters_X4_lettersIn
set_option maxRecDepth 20000 in
theorem ggX9_letters_X4_write : GoodIn wsX9_letters wsX4_write := goodIn_r _ [14, 15, 16, 7, 8, 5, 9, 10, 28, 29] (by decide +kernel) (by decide +kernel)
set_option maxRecDepth 20000 in
theorem gX9_letters_X4_write : GoodIn wsX9_letters (wsV RX9 60 RX4 yX4_write wsX4_write) := goodIn_app (goodIn_of _ (by decide +kernel)) ggX9_letters_X4_write
theorem dX9_letters_0 : decode cX9_letters 0 = .ok (.lload_n 1, 1) := by decide +kernel
theorem dX9_letters_1 : decode cX9_letters 1 = .ok (.invokestatic 52, 3) := by decide +kernel
theorem dX9_letters_4 : decode cX9_letters 4 = .ok (.istore_n 3, 1) := by decide +kernel
theorem dX9_letters_5 : decode cX9_letters 5 = .ok (.iload_n 3, 1) := by decide +kernel
theorem dX9_letters_6 : decode cX9_letters 6 = .ok (.ifCond .ge 6, 3) := by decide +kernel
