theorem dX10_init_84 : decode cX10_init 84 = .ok (.putfield 41, 3) := by decide +kernel
theorem dX10_init_87 : decode cX10_init 87 = .ok (.aload_n 0, 1) := by decide +kernel
theorem dX10_init_88 : decode cX10_init 88 = .ok (.bipush 16, 2) := by decide +kernel
theorem dX10_init_90 : decode cX10_init 90 = .ok (.newarray .byte, 2) := by decide +kernel
theorem dX10_init_92 : decode cX10_init 92 = .ok (.putfield 44, 3) := by decide +kernel
theorem dX10_init_95 : decode cX10_init 95 = .ok (.aload_n 0, 1) := by decide +kernel
theorem dX10_init_96 : decode cX10_init 96 = .ok (.sipush 432, 3) := by decide +kernel
theorem dX10_init_99 : decode cX10_init 99 = .ok (.newarray .int, 2) := by decide +kernel
theorem dX10_init_101 : decode cX10_init 101 = .ok (.putfield 48, 3) := by decide +kernel
theorem dX10_init_104 : decode cX10_init 104 = .ok (.aload_n 0, 1) := by decide +kernel
theorem dX10_init_105 : decode cX10_init 105 = .ok (.sipush 432, 3) := by decide +kernel
theorem dX10_init_108 : decode cX10_init 108 = .ok (.newarray .int, 2) := by decide +kernel
theorem dX10_init_110 : decode cX10_init 110 = .ok (.putfield 51, 3) := by decide +kernel
theorem dX10_init_113 : decode cX10_init 113 = .ok (.aload_n 0, 1) := by decide +kernel
theorem dX10_init_114 : decode cX10_init 114 = .ok (.sipush 271, 3) := by decide +kernel
theorem dX10_init_117 : decode cX10_init 117 = .ok (.newarray .int, 2) := by decide +kernel
theorem dX10_init_119 : decode cX10_init 119 = .ok (.putfield 54, 3) := by decide +kernel
theorem dX10_init_122 : decode cX10_init 122 = .ok (.aload_n 0, 1) := by decide +kernel
theorem dX10_init_123 : decode cX10_init 123 = .ok (.sipush 271, 3) := by decide +kernel
theorem dX10_init_126 : decode cX10_init 126 = .ok (.newarray .int, 2) := by decide +kernel
theorem dX10_init_128 : decode cX10_init 128 = .ok (.putfield 57, 3) := by decide +kernel
theorem dX10_init_131 : decode cX10_init 131 = .ok (.aload_n 0, 1) := by decide +kernel
theorem dX10_init_132 : decode cX10_init 132 = .ok (.sipush 271, 3) := by decide +kernel
theorem dX10_init_135 : decode cX10_init 135 = .ok (.newarray .int, 2) := by decide +kernel
theorem dX10_init_137 : decode cX10_init 137 = .ok (.putfield 60, 3) := by decide +kernel
theorem dX10_init_140 : decode cX10_init 140 = .ok (.aload_n 0, 1) := by decide +kernel
theorem dX10_init_141 : decode cX10_init 141 = .ok (.sipush 271, 3) := by decide +kernel
theorem dX10_init_144 : decode cX10_init 144 = .ok (.newarray .int, 2) := by decide +kernel
theorem dX10_init_146 : decode cX10_init 146 = .ok (.putfield 63, 3) := by decide +kernel
theorem dX10_init_149 : decode cX10_init 149 = .ok (.return_, 1) := by decide +kernel
theorem dX10_within_0 : decode cX10_within 0 = .ok (.iload_n 0, 1) := by decide +kernel
theorem dX10_within_1 : decode cX10_within 1 = .ok (.iload_n 1, 1) := by decide +kernel
theorem dX10_within_2 : decode cX10_within 2 = .ok (.if_icmp .lt 12, 3) := by decide +kernel
theorem dX10_within_5 : decode cX10_within 5 = .ok (.iload_n 0, 1) := by decide +kernel
theorem dX10_within_6 : decode cX10_within 6 = .ok (.iload_n 2, 1) := by decide +kernel
theorem dX10_within_7 : decode cX10_within 7 = .ok (.if_icmp .gt 7, 3) := by decide +kernel
theorem dX10_within_10 : decode cX10_within 10 = .ok (.iconst 1, 1) := by decide +kernel
theorem dX10_within_11 : decode cX10_within 11 = .ok (.goto 4, 3) := by decide +kernel
theorem dX10_within_14 : decode cX10_within 14 = .ok (.iconst 0, 1) := by decide +kernel
theorem dX10_within_15 : decode cX10_within 15 = .ok (.ireturn, 1) := by decide +kernel
theorem dX10_letters_0 : decode cX10_letters 0 = .ok (.iconst 0, 1) := by decide +kernel
theorem dX10_letters_1 : decode cX10_letters 1 = .ok (.istore_n 3, 1) := by decide +kernel
theorem dX10_letters_2 : decode cX10_letters 2 = .ok (.iconst 0, 1) := by decide +kernel
theorem dX10_letters_3 : decode cX10_letters 3 = .ok (.istore 4, 2) := by decide +kernel
theorem dX10_letters_5 : decode cX10_letters 5 = .ok (.iconst 0, 1) := by decide +kernel
theorem dX10_letters_6 : decode cX10_letters 6 = .ok (.istore 5, 2) := by decide +kernel
theorem dX10_letters_8 : decode cX10_letters 8 = .ok (.iload 5, 2) := by decide +kernel
theorem dX10_letters_10 : decode cX10_letters 10 = .ok (.bipush 8, 2) := by decide +kernel
theorem dX10_letters_12 : decode cX10_letters 12 = .ok (.if_icmp .ge 73, 3) := by decide +kernel
theorem dX10_letters_15 : decode cX10_letters 15 = .ok (.lload_n 1, 1) := by decide +kernel
theorem dX10_letters_16 : decode cX10_letters 16 = .ok (.bipush 8, 2) := by decide +kernel
theorem dX10_letters_18 : decode cX10_letters 18 = .ok (.iload 5, 2) := by decide +kernel
theorem dX10_letters_20 : decode cX10_letters 20 = .ok (.imul, 1) := by decide +kernel
theorem dX10_letters_21 : decode cX10_letters 21 = .ok (.lshr, 1) := by decide +kernel
theorem dX10_letters_22 : decode cX10_letters 22 = .ok (.ldc2_w 66, 3) := by decide +kernel
theorem dX10_letters_25 : decode cX10_letters 25 = .ok (.land, 1) := by decide +kernel
theorem dX10_letters_26 : decode cX10_letters 26 = .ok (.l2i, 1) := by decide +kernel
theorem dX10_letters_27 : decode cX10_letters 27 = .ok (.istore 6, 2) := by decide +kernel
theorem dX10_letters_29 : decode cX10_letters 29 = .ok (.iload 6, 2) := by decide +kernel
theorem dX10_letters_31 : decode cX10_letters 31 = .ok (.bipush 126, 2) := by decide +kernel
theorem dX10_letters_33 : decode cX10_letters 33 = .ok (.if_icmp .gt 13, 3) := by decide +kernel
theorem dX10_letters_36 : decode cX10_letters 36 = .ok (.iload 4, 2) := by decide +kernel
theorem dX10_letters_38 : decode cX10_letters 38 = .ok (.ifCond .eq 11, 3) := by decide +kernel
theorem dX10_letters_41 : decode cX10_letters 41 = .ok (.iload 6, 2) := by decide +kernel
theorem dX10_letters_43 : decode cX10_letters 43 = .ok (.ifCond .eq 6, 3) := by decide +kernel
theorem dX10_letters_46 : decode cX10_letters 46 = .ok (.bipush (-102), 2) := by decide +kernel
theorem dX10_letters_48 : decode cX10_letters 48 = .ok (.ireturn, 1) := by decide +kernel
theorem dX10_letters_49 : decode cX10_letters 49 = .ok (.iload 4, 2) := by decide +kernel
theorem dX10_letters_51 : decode cX10_letters 51 = .ok (.ifCond .ne 8, 3) := by decide +kernel
theorem dX10_letters_54 : decode cX10_letters 54 = .ok (.iload 6, 2) := by decide +kernel
theorem dX10_letters_56 : decode cX10_letters 56 = .ok (.ifCond .ne 7, 3) := by decide +kernel
theorem dX10_letters_59 : decode cX10_letters 59 = .ok (.iconst 1, 1) := by decide +kernel
theorem dX10_letters_60 : decode cX10_letters 60 = .ok (.goto 4, 3) := by decide +kernel
theorem dX10_letters_63 : decode cX10_letters 63 = .ok (.iconst 0, 1) := by decide +kernel
theorem dX10_letters_64 : decode cX10_letters 64 = .ok (.istore 4, 2) := by decide +kernel
theorem dX10_letters_66 : decode cX10_letters 66 = .ok (.iload_n 3, 1) := by decide +kernel
theorem dX10_letters_67 : decode cX10_letters 67 = .ok (.iload 6, 2) := by decide +kernel
theorem dX10_letters_69 : decode cX10_letters 69 = .ok (.ifCond .ne 7, 3) := by decide +kernel
theorem dX10_letters_72 : decode cX10_letters 72 = .ok (.iconst 0, 1) := by decide +kernel
theorem dX10_letters_73 : decode cX10_letters 73 = .ok (.goto 4, 3) := by decide +kernel
theorem dX10_letters_76 : decode cX10_letters 76 = .ok (.iconst 1, 1) := by decide +kernel
theorem dX10_letters_77 : decode cX10_letters 77 = .ok (.iadd, 1) := by decide +kernel
theorem dX10_letters_78 : decode cX10_letters 78 = .ok (.istore_n 3, 1) := by decide +kernel
theorem dX10_letters_79 : decode cX10_letters 79 = .ok (.iinc 5 1, 3) := by decide +kernel
theorem dX10_letters_82 : decode cX10_letters 82 = .ok (.goto (-74), 3) := by decide +kernel
theorem dX10_letters_85 : decode cX10_letters 85 = .ok (.aload_n 0, 1) := by decide +kernel
theorem dX10_letters_86 : decode cX10_letters 86 = .ok (.getfield 68, 3) := by decide +kernel
theorem dX10_letters_89 : decode cX10_letters 89 = .ok (.iload_n 3, 1) := by decide +kernel
theorem dX10_letters_90 : decode cX10_letters 90 = .ok (.iadd, 1) := by decide +kernel
theorem dX10_letters_91 : decode cX10_letters 91 = .ok (.bipush 16, 2) := by decide +kernel
theorem dX10_letters_93 : decode cX10_letters 93 = .ok (.if_icmp .le 6, 3) := by decide +kernel
theorem dX10_letters_96 : decode cX10_letters 96 = .ok (.bipush (-104), 2) := by decide +kernel
theorem dX10_letters_98 : decode cX10_letters 98 = .ok (.ireturn, 1) := by decide +kernel
theorem dX10_letters_99 : decode cX10_letters 99 = .ok (.iconst 0, 1) := by decide +kernel
theorem dX10_letters_100 : decode cX10_letters 100 = .ok (.istore 5, 2) := by decide +kernel
theorem dX10_letters_102 : decode cX10_letters 102 = .ok (.iload 5, 2) := by decide +kernel
theorem dX10_letters_104 : decode cX10_letters 104 = .ok (.iload_n 3, 1) := by decide +kernel
theorem dX10_letters_105 : decode cX10_letters 105 = .ok (.if_icmp .ge 30, 3) := by decide +kernel
theorem dX10_letters_108 : decode cX10_letters 108 = .ok (.aload_n 0, 1) := by decide +kernel
theorem dX10_letters_109 : decode cX10_letters 109 = .ok (.getfield 44, 3) := by decide +kernel
theorem dX10_letters_112 : decode cX10_letters 112 = .ok (.aload_n 0, 1) := by decide +kernel
theorem dX10_letters_113 : decode cX10_letters 113 = .ok (.getfield 68, 3) := by decide +kernel
theorem dX10_letters_116 : decode cX10_letters 116 = .ok (.iload 5, 2) := by decide +kernel
theorem dX10_letters_118 : decode cX10_letters 118 = .ok (.iadd, 1) := by decide +kernel
theorem dX10_letters_119 : decode cX10_letters 119 = .ok (.lload_n 1, 1) := by decide +kernel
theorem dX10_letters_120 : decode cX10_letters 120 = .ok (.bipush 8, 2) := by decide +kernel
theorem dX10_letters_122 : decode cX10_letters 122 = .ok (.iload 5, 2) := by decide +kernel
theorem dX10_letters_124 : decode cX10_letters 124 = .ok (.imul, 1) := by decide +kernel
theorem dX10_letters_125 : decode cX10_letters 125 = .ok (.lshr, 1) := by decide +kernel
theorem dX10_letters_126 : decode cX10_letters 126 = .ok (.l2i, 1) := by decide +kernel
theorem dX10_letters_127 : decode cX10_letters 127 = .ok (.i2b, 1) := by decide +kernel
theorem dX10_letters_128 : decode cX10_letters 128 = .ok (.bastore, 1) := by decide +kernel
theorem dX10_letters_129 : decode cX10_letters 129 = .ok (.iinc 5 1, 3) := by decide +kernel
theorem dX10_letters_132 : decode cX10_letters 132 = .ok (.goto (-30), 3) := by decide +kernel
theorem dX10_letters_135 : decode cX10_letters 135 = .ok (.aload_n 0, 1) := by decide +kernel
theorem dX10_letters_136 : decode cX10_letters 136 = .ok (.dup, 1) := by decide +kernel
theorem dX10_letters_137 : decode cX10_letters 137 = .ok (.getfield 68, 3) := by decide +kernel
theorem dX10_letters_140 : decode cX10_letters 140 = .ok (.iload_n 3, 1) := by decide +kernel
theorem dX10_letters_141 : decode cX10_letters 141 = .ok (.iadd, 1) := by decide +kernel
theorem dX10_letters_142 : decode cX10_letters 142 = .ok (.putfield 68, 3) := by decide +kernel
theorem dX10_letters_145 : decode cX10_letters 145 = .ok (.aload_n 0, 1) := by decide +kernel
theorem dX10_letters_146 : decode cX10_letters 146 = .ok (.getfield 68, 3) := by decide +kernel
theorem dX10_letters_149 : decode cX10_letters 149 = .ok (.ireturn, 1) := by decide +kernel
theorem dX10_blank_0 : decode cX10_blank 0 = .ok (.aload_n 0, 1) := by decide +kernel
theorem dX10_blank_1 : decode cX10_blank 1 = .ok (.getfield 68, 3) := by decide +kernel
theorem dX10_blank_4 : decode cX10_blank 4 = .ok (.istore_n 1, 1) := by decide +kernel
theorem dX10_blank_5 : decode cX10_blank 5 = .ok (.aload_n 0, 1) := by decide +kernel
theorem dX10_blank_6 : decode cX10_blank 6 = .ok (.iconst 0, 1) := by decide +kernel
theorem dX10_blank_7 : decode cX10_blank 7 = .ok (.putfield 68, 3) := by decide +kernel
theorem dX10_blank_10 : decode cX10_blank 10 = .ok (.iload_n 1, 1) := by decide +kernel
theorem dX10_blank_11 : decode cX10_blank 11 = .ok (.ireturn, 1) := by decide +kernel
set_option maxRecDepth 20000 in
theorem ggX10_ruleBy_X10_within : GoodIn wsX10_ruleBy wsX10_within := goodIn_r _ [4] (by decide +kernel) (by decide +kernel)
set_option maxRecDepth 20000 in
theorem gX10_ruleBy_X10_within : GoodIn wsX10_ruleBy (va_wsS RX10 72 yX10_within wsX10_within) := goodIn_app (goodIn_of _ (by decide +kernel)) ggX10_ruleBy_X10_within
theorem dX10_ruleBy_0 : decode cX10_ruleBy 0 = .ok (.iload_n 0, 1) := by decide +kernel
theorem dX10_ruleBy_1 : decode cX10_ruleBy 1 = .ok (.bipush 48, 2) := by decide +kernel
theorem dX10_ruleBy_3 : decode cX10_ruleBy 3 = .ok (.bipush 54, 2) := by decide +kernel
theorem dX10_ruleBy_5 : decode cX10_ruleBy 5 = .ok (.invokestatic 72, 3) := by decide +kernel
theorem dX10_ruleBy_8 : decode cX10_ruleBy 8 = .ok (.ifCond .eq 8, 3) := by decide +kernel
theorem dX10_ruleBy_11 : decode cX10_ruleBy 11 = .ok (.iload_n 0, 1) := by decide +kernel
theorem dX10_ruleBy_12 : decode cX10_ruleBy 12 = .ok (.bipush 48, 2) := by decide +kernel
theorem dX10_ruleBy_14 : decode cX10_ruleBy 14 = .ok (.isub, 1) := by decide +kernel
theorem dX10_ruleBy_15 : decode cX10_ruleBy 15 = .ok (.ireturn, 1) := by decide +kernel
theorem dX10_ruleBy_16 : decode cX10_ruleBy 16 = .ok (.iload_n 0, 1) := by decide +kernel
theorem dX10_ruleBy_17 : decode cX10_ruleBy 17 = .ok (.bipush 109, 2) := by decide +kernel
theorem dX10_ruleBy_19 : decode cX10_ruleBy 19 = .ok (.if_icmp .ne 8, 3) := by decide +kernel
theorem dX10_ruleBy_22 : decode cX10_ruleBy 22 = .ok (.bipush 7, 2) := by decide +kernel
theorem dX10_ruleBy_24 : decode cX10_ruleBy 24 = .ok (.goto 37, 3) := by decide +kernel
theorem dX10_ruleBy_27 : decode cX10_ruleBy 27 = .ok (.iload_n 0, 1) := by decide +kernel
theorem dX10_ruleBy_28 : decode cX10_ruleBy 28 = .ok (.bipush 108, 2) := by decide +kernel
theorem dX10_ruleBy_30 : decode cX10_ruleBy 30 = .ok (.if_icmp .ne 8, 3) := by decide +kernel
theorem dX10_ruleBy_33 : decode cX10_ruleBy 33 = .ok (.bipush 8, 2) := by decide +kernel
theorem dX10_ruleBy_35 : decode cX10_ruleBy 35 = .ok (.goto 26, 3) := by decide +kernel
theorem dX10_ruleBy_38 : decode cX10_ruleBy 38 = .ok (.iload_n 0, 1) := by decide +kernel
theorem dX10_ruleBy_39 : decode cX10_ruleBy 39 = .ok (.bipush 112, 2) := by decide +kernel
theorem dX10_ruleBy_41 : decode cX10_ruleBy 41 = .ok (.if_icmp .ne 8, 3) := by decide +kernel
theorem dX10_ruleBy_44 : decode cX10_ruleBy 44 = .ok (.bipush 9, 2) := by decide +kernel
theorem dX10_ruleBy_46 : decode cX10_ruleBy 46 = .ok (.goto 15, 3) := by decide +kernel
theorem dX10_ruleBy_49 : decode cX10_ruleBy 49 = .ok (.iload_n 0, 1) := by decide +kernel
theorem dX10_ruleBy_50 : decode cX10_ruleBy 50 = .ok (.bipush 110, 2) := by decide +kernel
theorem dX10_ruleBy_52 : decode cX10_ruleBy 52 = .ok (.if_icmp .ne 8, 3) := by decide +kernel
theorem dX10_ruleBy_55 : decode cX10_ruleBy 55 = .ok (.bipush 10, 2) := by decide +kernel
theorem dX10_ruleBy_57 : decode cX10_ruleBy 57 = .ok (.goto 4, 3) := by decide +kernel
theorem dX10_ruleBy_60 : decode cX10_ruleBy 60 = .ok (.iconst (-1), 1) := by decide +kernel
theorem dX10_ruleBy_61 : decode cX10_ruleBy 61 = .ok (.ireturn, 1) := by decide +kernel
set_option maxRecDepth 20000 in
theorem ggX10_nextState_X10_ruleBy : GoodIn wsX10_nextState wsX10_ruleBy := goodIn_r _ [7, 8, 9, 6, 10] (by decide +kernel) (by decide +kernel)
set_option maxRecDepth 20000 in
theorem gX10_nextState_X10_ruleBy : GoodIn wsX10_nextState (va_wsS RX10 76 yX10_ruleBy wsX10_ruleBy) := goodIn_app (goodIn_of _ (by decide +kernel)) ggX10_nextState_X10_ruleBy
set_option maxRecDepth 20000 in
theorem ggX10_nextState_X10_within : GoodIn wsX10_nextState wsX10_within := goodIn_r _ [10] (by decide +kernel) (by decide +kernel)
set_option maxRecDepth 20000 in
theorem gX10_nextState_X10_within : GoodIn wsX10_nextState (va_wsS RX10 72 yX10_within wsX10_within) := goodIn_app (goodIn_of _ (by decide +kernel)) ggX10_nextState_X10_within
theorem dX10_nextState_0 : decode cX10_nextState 0 = .ok (.iload_n 1, 1) := by decide +kernel
theorem dX10_nextState_1 : decode cX10_nextState 1 = .ok (.tableswitch 145 0 5 #[39, 51, 73, 85, 107, 119], 39) := by decide +kernel
theorem dX10_nextState_40 : decode cX10_nextState 40 = .ok (.iload_n 2, 1) := by decide +kernel
theorem dX10_nextState_41 : decode cX10_nextState 41 = .ok (.bipush 119, 2) := by decide +kernel
theorem dX10_nextState_43 : decode cX10_nextState 43 = .ok (.if_icmp .ne 7, 3) := by decide +kernel
theorem dX10_nextState_46 : decode cX10_nextState 46 = .ok (.iconst 1, 1) := by decide +kernel
theorem dX10_nextState_47 : decode cX10_nextState 47 = .ok (.goto 4, 3) := by decide +kernel
theorem dX10_nextState_50 : decode cX10_nextState 50 = .ok (.iconst (-1), 1) := by decide +kernel
theorem dX10_nextState_51 : decode cX10_nextState 51 = .ok (.ireturn, 1) := by decide +kernel
theorem dX10_nextState_52 : decode cX10_nextState 52 = .ok (.aload_n 0, 1) := by decide +kernel
theorem dX10_nextState_53 : decode cX10_nextState 53 = .ok (.iload_n 2, 1) := by decide +kernel
theorem dX10_nextState_54 : decode cX10_nextState 54 = .ok (.invokestatic 76, 3) := by decide +kernel
theorem dX10_nextState_57 : decode cX10_nextState 57 = .ok (.putfield 80, 3) := by decide +kernel
theorem dX10_nextState_60 : decode cX10_nextState 60 = .ok (.aload_n 0, 1) := by decide +kernel
theorem dX10_nextState_61 : decode cX10_nextState 61 = .ok (.getfield 80, 3) := by decide +kernel
theorem dX10_nextState_64 : decode cX10_nextState 64 = .ok (.iconst (-1), 1) := by decide +kernel
theorem dX10_nextState_65 : decode cX10_nextState 65 = .ok (.if_icmp .ne 7, 3) := by decide +kernel
theorem dX10_nextState_68 : decode cX10_nextState 68 = .ok (.iconst (-1), 1) := by decide +kernel
theorem dX10_nextState_69 : decode cX10_nextState 69 = .ok (.goto 4, 3) := by decide +kernel
theorem dX10_nextState_72 : decode cX10_nextState 72 = .ok (.iconst 2, 1) := by decide +kernel
theorem dX10_nextState_73 : decode cX10_nextState 73 = .ok (.ireturn, 1) := by decide +kernel
theorem dX10_nextState_74 : decode cX10_nextState 74 = .ok (.iload_n 2, 1) := by decide +kernel
theorem dX10_nextState_75 : decode cX10_nextState 75 = .ok (.bipush 115, 2) := by decide +kernel
theorem dX10_nextState_77 : decode cX10_nextState 77 = .ok (.if_icmp .ne 7, 3) := by decide +kernel
theorem dX10_nextState_80 : decode cX10_nextState 80 = .ok (.iconst 3, 1) := by decide +kernel
theorem dX10_nextState_81 : decode cX10_nextState 81 = .ok (.goto 4, 3) := by decide +kernel
theorem dX10_nextState_84 : decode cX10_nextState 84 = .ok (.iconst (-1), 1) := by decide +kernel
theorem dX10_nextState_85 : decode cX10_nextState 85 = .ok (.ireturn, 1) := by decide +kernel
theorem dX10_nextState_86 : decode cX10_nextState 86 = .ok (.aload_n 0, 1) := by decide +kernel
theorem dX10_nextState_87 : decode cX10_nextState 87 = .ok (.iload_n 2, 1) := by decide +kernel
theorem dX10_nextState_88 : decode cX10_nextState 88 = .ok (.invokestatic 76, 3) := by decide +kernel
theorem dX10_nextState_91 : decode cX10_nextState 91 = .ok (.putfield 83, 3) := by decide +kernel
theorem dX10_nextState_94 : decode cX10_nextState 94 = .ok (.aload_n 0, 1) := by decide +kernel
theorem dX10_nextState_95 : decode cX10_nextState 95 = .ok (.getfield 83, 3) := by decide +kernel
theorem dX10_nextState_98 : decode cX10_nextState 98 = .ok (.iconst (-1), 1) := by decide +kernel
theorem dX10_nextState_99 : decode cX10_nextState 99 = .ok (.if_icmp .ne 7, 3) := by decide +kernel
theorem dX10_nextState_102 : decode cX10_nextState 102 = .ok (.iconst (-1), 1) := by decide +kernel
theorem dX10_nextState_103 : decode cX10_nextState 103 = .ok (.goto 4, 3) := by decide +kernel
theorem dX10_nextState_106 : decode cX10_nextState 106 = .ok (.iconst 4, 1) := by decide +kernel
theorem dX10_nextState_107 : decode cX10_nextState 107 = .ok (.ireturn, 1) := by decide +kernel
theorem dX10_nextState_108 : decode cX10_nextState 108 = .ok (.iload_n 2, 1) := by decide +kernel
theorem dX10_nextState_109 : decode cX10_nextState 109 = .ok (.bipush 102, 2) := by decide +kernel
theorem dX10_nextState_111 : decode cX10_nextState 111 = .ok (.if_icmp .ne 7, 3) := by decide +kernel
theorem dX10_nextState_114 : decode cX10_nextState 114 = .ok (.iconst 5, 1) := by decide +kernel
theorem dX10_nextState_115 : decode cX10_nextState 115 = .ok (.goto 4, 3) := by decide +kernel
theorem dX10_nextState_118 : decode cX10_nextState 118 = .ok (.iconst (-1), 1) := by decide +kernel
theorem dX10_nextState_119 : decode cX10_nextState 119 = .ok (.ireturn, 1) := by decide +kernel
theorem dX10_nextState_120 : decode cX10_nextState 120 = .ok (.aload_n 0, 1) := by decide +kernel
theorem dX10_nextState_121 : decode cX10_nextState 121 = .ok (.iload_n 2, 1) := by decide +kernel
theorem dX10_nextState_122 : decode cX10_nextState 122 = .ok (.bipush 48, 2) := by decide +kernel
theorem dX10_nextState_124 : decode cX10_nextState 124 = .ok (.isub, 1) := by decide +kernel
theorem dX10_nextState_125 : decode cX10_nextState 125 = .ok (.putfield 86, 3) := by decide +kernel
theorem dX10_nextState_128 : decode cX10_nextState 128 = .ok (.iload_n 2, 1) := by decide +kernel
theorem dX10_nextState_129 : decode cX10_nextState 129 = .ok (.bipush 49, 2) := by decide +kernel
theorem dX10_nextState_131 : decode cX10_nextState 131 = .ok (.bipush 57, 2) := by decide +kernel
theorem dX10_nextState_133 : decode cX10_nextState 133 = .ok (.invokestatic 72, 3) := by decide +kernel
theorem dX10_nextState_136 : decode cX10_nextState 136 = .ok (.ifCond .eq 8, 3) := by decide +kernel
theorem dX10_nextState_139 : decode cX10_nextState 139 = .ok (.bipush 6, 2) := by decide +kernel
theorem dX10_nextState_141 : decode cX10_nextState 141 = .ok (.goto 4, 3) := by decide +kernel
theorem dX10_nextState_144 : decode cX10_nextState 144 = .ok (.iconst (-1), 1) := by decide +kernel
theorem dX10_nextState_145 : decode cX10_nextState 145 = .ok (.ireturn, 1) := by decide +kernel
theorem dX10_nextState_146 : decode cX10_nextState 146 = .ok (.iconst (-1), 1) := by decide +kernel
theorem dX10_nextState_147 : decode cX10_nextState 147 = .ok (.ireturn, 1) := by decide +kernel
set_option maxRecDepth 20000 in
theorem ggX10_readCustom_X10_nextState : GoodIn wsX10_readCustom wsX10_nextState := goodIn_r _ [10, 11, 12, 1, 13, 14, 9, 15, 16, 17, 18, 19, 20, 21, 22, 23, 24, 25, 26, 27, 28, 29, 30, 31, 32, 33, 34, 35, 36, 37, 38, 39, 40, 41, 42, 43, 44, 45, 46, 47, 48, 49, 50, 51, 52, 53] (by decide +kernel) (by decide +kernel)
set_option maxRecDepth 20000 in
theorem gX10_readCustom_X10_nextState : GoodIn wsX10_readCustom (wsV RX10 89 RX10 yX10_nextState wsX10_nextState) := goodIn_app (goodIn_of _ (by decide +kernel)) ggX10_readCustom_X10_nextState
theorem dX10_readCustom_0 : decode cX10_readCustom 0 = .ok (.aload_n 0, 1) := by decide +kernel
theorem dX10_readCustom_1 : decode cX10_readCustom 1 = .ok (.iconst 0, 1) := by decide +kernel
theorem dX10_readCustom_2 : decode cX10_readCustom 2 = .ok (.putfield 86, 3) := by decide +kernel
theorem dX10_readCustom_5 : decode cX10_readCustom 5 = .ok (.iconst 0, 1) := by decide +kernel
theorem dX10_readCustom_6 : decode cX10_readCustom 6 = .ok (.istore_n 1, 1) := by decide +kernel
theorem dX10_readCustom_7 : decode cX10_readCustom 7 = .ok (.iconst 0, 1) := by decide +kernel
theorem dX10_readCustom_8 : decode cX10_readCustom 8 = .ok (.istore_n 2, 1) := by decide +kernel
theorem dX10_readCustom_9 : decode cX10_readCustom 9 = .ok (.iconst 1, 1) := by decide +kernel
theorem dX10_readCustom_10 : decode cX10_readCustom 10 = .ok (.istore_n 3, 1) := by decide +kernel
theorem dX10_readCustom_11 : decode cX10_readCustom 11 = .ok (.iload_n 2, 1) := by decide +kernel
theorem dX10_readCustom_12 : decode cX10_readCustom 12 = .ok (.aload_n 0, 1) := by decide +kernel
theorem dX10_readCustom_13 : decode cX10_readCustom 13 = .ok (.getfield 68, 3) := by decide +kernel
theorem dX10_readCustom_16 : decode cX10_readCustom 16 = .ok (.if_icmp .ge 58, 3) := by decide +kernel
theorem dX10_readCustom_19 : decode cX10_readCustom 19 = .ok (.iload_n 3, 1) := by decide +kernel
theorem dX10_readCustom_20 : decode cX10_readCustom 20 = .ok (.ifCond .eq 54, 3) := by decide +kernel
theorem dX10_readCustom_23 : decode cX10_readCustom 23 = .ok (.aload_n 0, 1) := by decide +kernel
theorem dX10_readCustom_24 : decode cX10_readCustom 24 = .ok (.iload_n 1, 1) := by decide +kernel
theorem dX10_readCustom_25 : decode cX10_readCustom 25 = .ok (.aload_n 0, 1) := by decide +kernel
theorem dX10_readCustom_26 : decode cX10_readCustom 26 = .ok (.getfield 44, 3) := by decide +kernel
theorem dX10_readCustom_29 : decode cX10_readCustom 29 = .ok (.iload_n 2, 1) := by decide +kernel
theorem dX10_readCustom_30 : decode cX10_readCustom 30 = .ok (.baload, 1) := by decide +kernel
theorem dX10_readCustom_31 : decode cX10_readCustom 31 = .ok (.invokevirtual 89, 3) := by decide +kernel
theorem dX10_readCustom_34 : decode cX10_readCustom 34 = .ok (.istore 4, 2) := by decide +kernel
theorem dX10_readCustom_36 : decode cX10_readCustom 36 = .ok (.iload 4, 2) := by decide +kernel
theorem dX10_readCustom_38 : decode cX10_readCustom 38 = .ok (.iconst (-1), 1) := by decide +kernel
theorem dX10_readCustom_39 : decode cX10_readCustom 39 = .ok (.if_icmp .eq 7, 3) := by decide +kernel
theorem dX10_readCustom_42 : decode cX10_readCustom 42 = .ok (.iconst 1, 1) := by decide +kernel
theorem dX10_readCustom_43 : decode cX10_readCustom 43 = .ok (.goto 4, 3) := by decide +kernel
theorem dX10_readCustom_46 : decode cX10_readCustom 46 = .ok (.iconst 0, 1) := by decide +kernel
theorem dX10_readCustom_47 : decode cX10_readCustom 47 = .ok (.istore_n 3, 1) := by decide +kernel
theorem dX10_readCustom_48 : decode cX10_readCustom 48 = .ok (.iload_n 3, 1) := by decide +kernel
theorem dX10_readCustom_49 : decode cX10_readCustom 49 = .ok (.ifCond .eq 8, 3) := by decide +kernel
theorem dX10_readCustom_52 : decode cX10_readCustom 52 = .ok (.iload 4, 2) := by decide +kernel
theorem dX10_readCustom_54 : decode cX10_readCustom 54 = .ok (.goto 4, 3) := by decide +kernel
theorem dX10_readCustom_57 : decode cX10_readCustom 57 = .ok (.iload_n 1, 1) := by decide +kernel
theorem dX10_readCustom_58 : decode cX10_readCustom 58 = .ok (.istore_n 1, 1) := by decide +kernel
theorem dX10_readCustom_59 : decode cX10_readCustom 59 = .ok (.iload_n 2, 1) := by decide +kernel
theorem dX10_readCustom_60 : decode cX10_readCustom 60 = .ok (.iload_n 3, 1) := by decide +kernel
theorem dX10_readCustom_61 : decode cX10_readCustom 61 = .ok (.ifCond .eq 7, 3) := by decide +kernel
theorem dX10_readCustom_64 : decode cX10_readCustom 64 = .ok (.iconst 1, 1) := by decide +kernel
theorem dX10_readCustom_65 : decode cX10_readCustom 65 = .ok (.goto 4, 3) := by decide +kernel
theorem dX10_readCustom_68 : decode cX10_readCustom 68 = .ok (.iconst 0, 1) := by decide +kernel
theorem dX10_readCustom_69 : decode cX10_readCustom 69 = .ok (.iadd, 1) := by decide +kernel
theorem dX10_readCustom_70 : decode cX10_readCustom 70 = .ok (.istore_n 2, 1) := by decide +kernel
theorem dX10_readCustom_71 : decode cX10_readCustom 71 = .ok (.goto (-60), 3) := by decide +kernel
theorem dX10_readCustom_74 : decode cX10_readCustom 74 = .ok (.aload_n 0, 1) := by decide +kernel
theorem dX10_readCustom_75 : decode cX10_readCustom 75 = .ok (.iload_n 2, 1) := by decide +kernel
theorem dX10_readCustom_76 : decode cX10_readCustom 76 = .ok (.putfield 93, 3) := by decide +kernel
theorem dX10_readCustom_79 : decode cX10_readCustom 79 = .ok (.aload_n 0, 1) := by decide +kernel
theorem dX10_readCustom_80 : decode cX10_readCustom 80 = .ok (.iload_n 2, 1) := by decide +kernel
theorem dX10_readCustom_81 : decode cX10_readCustom 81 = .ok (.aload_n 0, 1) := by decide +kernel
theorem dX10_readCustom_82 : decode cX10_readCustom 82 = .ok (.getfield 68, 3) := by decide +kernel
theorem dX10_readCustom_85 : decode cX10_readCustom 85 = .ok (.if_icmp .ne 18, 3) := by decide +kernel
theorem dX10_readCustom_88 : decode cX10_readCustom 88 = .ok (.iload_n 1, 1) := by decide +kernel
theorem dX10_readCustom_89 : decode cX10_readCustom 89 = .ok (.iconst 4, 1) := by decide +kernel
theorem dX10_readCustom_90 : decode cX10_readCustom 90 = .ok (.if_icmp .eq 9, 3) := by decide +kernel
theorem dX10_readCustom_93 : decode cX10_readCustom 93 = .ok (.iload_n 1, 1) := by decide +kernel
theorem dX10_readCustom_94 : decode cX10_readCustom 94 = .ok (.bipush 6, 2) := by decide +kernel
theorem dX10_readCustom_96 : decode cX10_readCustom 96 = .ok (.if_icmp .ne 7, 3) := by decide +kernel
theorem dX10_readCustom_99 : decode cX10_readCustom 99 = .ok (.iconst 1, 1) := by decide +kernel
theorem dX10_readCustom_100 : decode cX10_readCustom 100 = .ok (.goto 4, 3) := by decide +kernel
theorem dX10_readCustom_103 : decode cX10_readCustom 103 = .ok (.iconst 0, 1) := by decide +kernel
theorem dX10_readCustom_104 : decode cX10_readCustom 104 = .ok (.putfield 96, 3) := by decide +kernel
theorem dX10_readCustom_107 : decode cX10_readCustom 107 = .ok (.return_, 1) := by decide +kernel
set_option maxRecDepth 20000 in
theorem ggX10_fault_X10_readCustom : GoodIn wsX10_fault wsX10_readCustom := goodIn_r _ [6, 7, 8, 9, 1, 10, 11, 12, 13, 5, 14, 15, 16, 17, 18, 19, 20, 21, 22, 23, 24, 25, 26, 27, 28, 29, 30, 31, 32, 33, 34, 35, 36, 37, 38, 39, 40, 41, 42, 43, 44, 45, 46, 47, 48, 49, 50, 51, 52, 53, 54, 55, 56, 57] (by decide +kernel) (by decide +kernel)
set_option maxRecDepth 20000 in
theorem gX10_fault_X10_readCustom : GoodIn wsX10_fault (wsV RX10 100 RX10 yX10_readCustom wsX10_readCustom) := goodIn_app (goodIn_of _ (by decide +kernel)) ggX10_fault_X10_readCustom
theorem dX10_fault_0 : decode cX10_fault 0 = .ok (.aload_n 0, 1) := by decide +kernel
theorem dX10_fault_1 : decode cX10_fault 1 = .ok (.invokevirtual 100, 3) := by decide +kernel
theorem dX10_fault_4 : decode cX10_fault 4 = .ok (.aload_n 0, 1) := by decide +kernel
theorem dX10_fault_5 : decode cX10_fault 5 = .ok (.getfield 93, 3) := by decide +kernel
theorem dX10_fault_8 : decode cX10_fault 8 = .ok (.ireturn, 1) := by decide +kernel
set_option maxRecDepth 20000 in
theorem ggX10_custom_X10_readCustom : GoodIn wsX10_custom wsX10_readCustom := goodIn_r _ [14, 8, 9, 15, 16, 1, 17, 18, 19, 13, 20, 4, 6, 21, 22, 23, 24, 25, 26, 27, 28, 29, 30, 31, 32, 33, 34, 35, 36, 37, 38, 39, 40, 41, 42, 43, 44, 45, 46, 47, 48, 49, 50, 51, 52, 53, 54, 55, 56, 57, 58, 59, 60, 61] (by decide +kernel) (by decide +kernel)
set_option maxRecDepth 20000 in
theorem gX10_custom_X10_readCustom : GoodIn wsX10_custom (wsV RX10 100 RX10 yX10_readCustom wsX10_readCustom) := goodIn_app (goodIn_of _ (by decide +kernel)) ggX10_custom_X10_readCustom
theorem dX10_custom_0 : decode cX10_custom 0 = .ok (.aload_n 0, 1) := by decide +kernel
theorem dX10_custom_1 : decode cX10_custom 1 = .ok (.invokevirtual 100, 3) := by decide +kernel
theorem dX10_custom_4 : decode cX10_custom 4 = .ok (.aload_n 0, 1) := by decide +kernel
theorem dX10_custom_5 : decode cX10_custom 5 = .ok (.getfield 96, 3) := by decide +kernel
theorem dX10_custom_8 : decode cX10_custom 8 = .ok (.ifCond .ne 6, 3) := by decide +kernel
theorem dX10_custom_11 : decode cX10_custom 11 = .ok (.bipush (-103), 2) := by decide +kernel
theorem dX10_custom_13 : decode cX10_custom 13 = .ok (.ireturn, 1) := by decide +kernel
theorem dX10_custom_14 : decode cX10_custom 14 = .ok (.aload_n 0, 1) := by decide +kernel
theorem dX10_custom_15 : decode cX10_custom 15 = .ok (.getfield 103, 3) := by decide +kernel
theorem dX10_custom_18 : decode cX10_custom 18 = .ok (.iconst 4, 1) := by decide +kernel
theorem dX10_custom_19 : decode cX10_custom 19 = .ok (.if_icmp .ne 6, 3) := by decide +kernel
theorem dX10_custom_22 : decode cX10_custom 22 = .ok (.bipush (-104), 2) := by decide +kernel
theorem dX10_custom_24 : decode cX10_custom 24 = .ok (.ireturn, 1) := by decide +kernel
theorem dX10_custom_25 : decode cX10_custom 25 = .ok (.aload_n 0, 1) := by decide +kernel
theorem dX10_custom_26 : decode cX10_custom 26 = .ok (.getfield 35, 3) := by decide +kernel
theorem dX10_custom_29 : decode cX10_custom 29 = .ok (.aload_n 0, 1) := by decide +kernel
theorem dX10_custom_30 : decode cX10_custom 30 = .ok (.getfield 103, 3) := by decide +kernel
theorem dX10_custom_33 : decode cX10_custom 33 = .ok (.aload_n 0, 1) := by decide +kernel
theorem dX10_custom_34 : decode cX10_custom 34 = .ok (.getfield 80, 3) := by decide +kernel
theorem dX10_custom_37 : decode cX10_custom 37 = .ok (.iastore, 1) := by decide +kernel
theorem dX10_custom_38 : decode cX10_custom 38 = .ok (.aload_n 0, 1) := by decide +kernel
theorem dX10_custom_39 : decode cX10_custom 39 = .ok (.getfield 38, 3) := by decide +kernel
theorem dX10_custom_42 : decode cX10_custom 42 = .ok (.aload_n 0, 1) := by decide +kernel
theorem dX10_custom_43 : decode cX10_custom 43 = .ok (.getfield 103, 3) := by decide +kernel
theorem dX10_custom_46 : decode cX10_custom 46 = .ok (.aload_n 0, 1) := by decide +kernel
theorem dX10_custom_47 : decode cX10_custom 47 = .ok (.getfield 83, 3) := by decide +kernel
theorem dX10_custom_50 : decode cX10_custom 50 = .ok (.iastore, 1) := by decide +kernel
theorem dX10_custom_51 : decode cX10_custom 51 = .ok (.aload_n 0, 1) := by decide +kernel
theorem dX10_custom_52 : decode cX10_custom 52 = .ok (.getfield 41, 3) := by decide +kernel
theorem dX10_custom_55 : decode cX10_custom 55 = .ok (.aload_n 0, 1) := by decide +kernel
theorem dX10_custom_56 : decode cX10_custom 56 = .ok (.getfield 103, 3) := by decide +kernel
theorem dX10_custom_59 : decode cX10_custom 59 = .ok (.aload_n 0, 1) := by decide +kernel
theorem dX10_custom_60 : decode cX10_custom 60 = .ok (.getfield 86, 3) := by decide +kernel
theorem dX10_custom_63 : decode cX10_custom 63 = .ok (.iastore, 1) := by decide +kernel
theorem dX10_custom_64 : decode cX10_custom 64 = .ok (.aload_n 0, 1) := by decide +kernel
theorem dX10_custom_65 : decode cX10_custom 65 = .ok (.dup, 1) := by decide +kernel
theorem dX10_custom_66 : decode cX10_custom 66 = .ok (.getfield 103, 3) := by decide +kernel
theorem dX10_custom_69 : decode cX10_custom 69 = .ok (.iconst 1, 1) := by decide +kernel
theorem dX10_custom_70 : decode cX10_custom 70 = .ok (.iadd, 1) := by decide +kernel
theorem dX10_custom_71 : decode cX10_custom 71 = .ok (.putfield 103, 3) := by decide +kernel
theorem dX10_custom_74 : decode cX10_custom 74 = .ok (.aload_n 0, 1) := by decide +kernel
theorem dX10_custom_75 : decode cX10_custom 75 = .ok (.iconst 0, 1) := by decide +kernel
theorem dX10_custom_76 : decode cX10_custom 76 = .ok (.putfield 68, 3) := by decide +kernel
theorem dX10_custom_79 : decode cX10_custom 79 = .ok (.aload_n 0, 1) := by decide +kernel
theorem dX10_custom_80 : decode cX10_custom 80 = .ok (.getfield 103, 3) := by decide +kernel
theorem dX10_custom_83 : decode cX10_custom 83 = .ok (.iconst 1, 1) := by decide +kernel
theorem dX10_custom_84 : decode cX10_custom 84 = .ok (.isub, 1) := by decide +kernel
theorem dX10_custom_85 : decode cX10_custom 85 = .ok (.ireturn, 1) := by decide +kernel
set_option maxRecDepth 20000 in
theorem ggX10_isCustom_X10_within : GoodIn wsX10_isCustom wsX10_within := goodIn_r _ [5] (by decide +kernel) (by decide +kernel)
set_option maxRecDepth 20000 in
theorem gX10_isCustom_X10_within : GoodIn wsX10_isCustom (va_wsS RX10 72 yX10_within wsX10_within) := goodIn_app (goodIn_of _ (by decide +kernel)) ggX10_isCustom_X10_within
theorem dX10_isCustom_0 : decode cX10_isCustom 0 = .ok (.iload_n 1, 1) := by decide +kernel
theorem dX10_isCustom_1 : decode cX10_isCustom 1 = .ok (.iconst 0, 1) := by decide +kernel
theorem dX10_isCustom_2 : decode cX10_isCustom 2 = .ok (.aload_n 0, 1) := by decide +kernel
theorem dX10_isCustom_3 : decode cX10_isCustom 3 = .ok (.getfield 103, 3) := by decide +kernel
theorem dX10_isCustom_6 : decode cX10_isCustom 6 = .ok (.iconst 1, 1) := by decide +kernel
theorem dX10_isCustom_7 : decode cX10_isCustom 7 = .ok (.isub, 1) := by decide +kernel
theorem dX10_isCustom_8 : decode cX10_isCustom 8 = .ok (.invokestatic 72, 3) := by decide +kernel
theorem dX10_isCustom_11 : decode cX10_isCustom 11 = .ok (.ireturn, 1) := by decide +kernel
theorem dX10_customNow_0 : decode cX10_customNow 0 = .ok (.iload_n 2, 1) := by decide +kernel
theorem dX10_customNow_1 : decode cX10_customNow 1 = .ok (.ifCond .ne 12, 3) := by decide +kernel
theorem dX10_customNow_4 : decode cX10_customNow 4 = .ok (.aload_n 0, 1) := by decide +kernel
theorem dX10_customNow_5 : decode cX10_customNow 5 = .ok (.getfield 35, 3) := by decide +kernel
theorem dX10_customNow_8 : decode cX10_customNow 8 = .ok (.iload_n 1, 1) := by decide +kernel
theorem dX10_customNow_9 : decode cX10_customNow 9 = .ok (.iaload, 1) := by decide +kernel
theorem dX10_customNow_10 : decode cX10_customNow 10 = .ok (.goto 23, 3) := by decide +kernel
theorem dX10_customNow_13 : decode cX10_customNow 13 = .ok (.iload_n 2, 1) := by decide +kernel
theorem dX10_customNow_14 : decode cX10_customNow 14 = .ok (.iconst 1, 1) := by decide +kernel
theorem dX10_customNow_15 : decode cX10_customNow 15 = .ok (.if_icmp .ne 12, 3) := by decide +kernel
theorem dX10_customNow_18 : decode cX10_customNow 18 = .ok (.aload_n 0, 1) := by decide +kernel
theorem dX10_customNow_19 : decode cX10_customNow 19 = .ok (.getfield 38, 3) := by decide +kernel
theorem dX10_customNow_22 : decode cX10_customNow 22 = .ok (.iload_n 1, 1) := by decide +kernel
theorem dX10_customNow_23 : decode cX10_customNow 23 = .ok (.iaload, 1) := by decide +kernel
theorem dX10_customNow_24 : decode cX10_customNow 24 = .ok (.goto 9, 3) := by decide +kernel
theorem dX10_customNow_27 : decode cX10_customNow 27 = .ok (.aload_n 0, 1) := by decide +kernel
theorem dX10_customNow_28 : decode cX10_customNow 28 = .ok (.getfield 41, 3) := by decide +kernel
theorem dX10_customNow_31 : decode cX10_customNow 31 = .ok (.iload_n 1, 1) := by decide +kernel
theorem dX10_customNow_32 : decode cX10_customNow 32 = .ok (.iaload, 1) := by decide +kernel
theorem dX10_customNow_33 : decode cX10_customNow 33 = .ok (.ireturn, 1) := by decide +kernel
set_option maxRecDepth 20000 in
theorem ggX10_customTold_X10_isCustom : GoodIn wsX10_customTold wsX10_isCustom := goodIn_r _ [5, 6, 7, 8, 4, 9, 17, 18, 19, 20, 21, 22, 23, 24, 25, 26, 27, 28, 29, 30, 31, 32, 33, 34, 35, 36, 37, 38, 39, 40, 41, 42, 43, 44, 45, 46, 47, 48, 49, 50, 51] (by decide +kernel) (by decide +kernel)
set_option maxRecDepth 20000 in
theorem gX10_customTold_X10_isCustom : GoodIn wsX10_customTold (wsV RX10 106 RX10 yX10_isCustom wsX10_isCustom) := goodIn_app (goodIn_of _ (by decide +kernel)) ggX10_customTold_X10_isCustom
set_option maxRecDepth 20000 in
theorem ggX10_customTold_X10_within : GoodIn wsX10_customTold wsX10_within := goodIn_r _ [9] (by decide +kernel) (by decide +kernel)
set_option maxRecDepth 20000 in
theorem gX10_customTold_X10_within : GoodIn wsX10_customTold (va_wsS RX10 72 yX10_within wsX10_within) := goodIn_app (goodIn_of _ (by decide +kernel)) ggX10_customTold_X10_within
set_option maxRecDepth 20000 in
theorem ggX10_customTold_X10_customNow : GoodIn wsX10_customTold wsX10_customNow := goodIn_r _ [13, 14, 15, 16, 17, 18, 19, 20, 21, 22, 23, 24, 25, 26, 27, 28, 29, 30, 31, 32, 33, 34, 35, 36, 37, 38, 39, 40, 41, 42, 43, 44, 45, 46, 47, 48, 49, 50, 51] (by decide +kernel) (by decide +kernel)
set_option maxRecDepth 20000 in
theorem gX10_customTold_X10_customNow : GoodIn wsX10_customTold (wsV RX10 110 RX10 yX10_customNow wsX10_customNow) := goodIn_app (goodIn_of _ (by decide +kernel)) ggX10_customTold_X10_customNow
theorem dX10_customTold_0 : decode cX10_customTold 0 = .ok (.aload_n 0, 1) := by decide +kernel
theorem dX10_customTold_1 : decode cX10_customTold 1 = .ok (.iload_n 1, 1) := by decide +kernel
theorem dX10_customTold_2 : decode cX10_customTold 2 = .ok (.invokevirtual 106, 3) := by decide +kernel
theorem dX10_customTold_5 : decode cX10_customTold 5 = .ok (.ifCond .ne 8, 3) := by decide +kernel
theorem dX10_customTold_8 : decode cX10_customTold 8 = .ok (.bipush (-101), 2) := by decide +kernel
theorem dX10_customTold_10 : decode cX10_customTold 10 = .ok (.goto 23, 3) := by decide +kernel
theorem dX10_customTold_13 : decode cX10_customTold 13 = .ok (.iload_n 2, 1) := by decide +kernel
theorem dX10_customTold_14 : decode cX10_customTold 14 = .ok (.iconst 0, 1) := by decide +kernel
theorem dX10_customTold_15 : decode cX10_customTold 15 = .ok (.iconst 2, 1) := by decide +kernel
theorem dX10_customTold_16 : decode cX10_customTold 16 = .ok (.invokestatic 72, 3) := by decide +kernel
theorem dX10_customTold_19 : decode cX10_customTold 19 = .ok (.ifCond .eq 12, 3) := by decide +kernel
theorem dX10_customTold_22 : decode cX10_customTold 22 = .ok (.aload_n 0, 1) := by decide +kernel
theorem dX10_customTold_23 : decode cX10_customTold 23 = .ok (.iload_n 1, 1) := by decide +kernel
theorem dX10_customTold_24 : decode cX10_customTold 24 = .ok (.iload_n 2, 1) := by decide +kernel
theorem dX10_customTold_25 : decode cX10_customTold 25 = .ok (.invokevirtual 110, 3) := by decide +kernel
theorem dX10_customTold_28 : decode cX10_customTold 28 = .ok (.goto 5, 3) := by decide +kernel
theorem dX10_customTold_31 : decode cX10_customTold 31 = .ok (.bipush (-102), 2) := by decide +kernel
theorem dX10_customTold_33 : decode cX10_customTold 33 = .ok (.ireturn, 1) := by decide +kernel
set_option maxRecDepth 20000 in
theorem ggX10_isParish_X10_within : GoodIn wsX10_isParish wsX10_within := goodIn_r _ [5] (by decide +kernel) (by decide +kernel)
set_option maxRecDepth 20000 in
theorem gX10_isParish_X10_within : GoodIn wsX10_isParish (va_wsS RX10 72 yX10_within wsX10_within) := goodIn_app (goodIn_of _ (by decide +kernel)) ggX10_isParish_X10_within
theorem dX10_isParish_0 : decode cX10_isParish 0 = .ok (.iload_n 1, 1) := by decide +kernel
theorem dX10_isParish_1 : decode cX10_isParish 1 = .ok (.iconst 0, 1) := by decide +kernel
theorem dX10_isParish_2 : decode cX10_isParish 2 = .ok (.aload_n 0, 1) := by decide +kernel
theorem dX10_isParish_3 : decode cX10_isParish 3 = .ok (.getfield 113, 3) := by decide +kernel
theorem dX10_isParish_6 : decode cX10_isParish 6 = .ok (.iconst 1, 1) := by decide +kernel
theorem dX10_isParish_7 : decode cX10_isParish 7 = .ok (.isub, 1) := by decide +kernel
theorem dX10_isParish_8 : decode cX10_isParish 8 = .ok (.invokestatic 72, 3) := by decide +kernel
theorem dX10_isParish_11 : decode cX10_isParish 11 = .ok (.ireturn, 1) := by decide +kernel
set_option maxRecDepth 20000 in
theorem ggX10_isNumber_X10_within : GoodIn wsX10_isNumber wsX10_within := goodIn_r _ [4] (by decide +kernel) (by decide +kernel)
set_option maxRecDepth 20000 in
theorem gX10_isNumber_X10_within : GoodIn wsX10_isNumber (va_wsS RX10 72 yX10_within wsX10_within) := goodIn_app (goodIn_of _ (by decide +kernel)) ggX10_isNumber_X10_within
theorem dX10_isNumber_0 : decode cX10_isNumber 0 = .ok (.iload_n 0, 1) := by decide +kernel
theorem dX10_isNumber_1 : decode cX10_isNumber 1 = .ok (.iconst 1, 1) := by decide +kernel
theorem dX10_isNumber_2 : decode cX10_isNumber 2 = .ok (.if_icmp .ne 12, 3) := by decide +kernel
theorem dX10_isNumber_5 : decode cX10_isNumber 5 = .ok (.iload_n 1, 1) := by decide +kernel
theorem dX10_isNumber_6 : decode cX10_isNumber 6 = .ok (.iconst 2, 1) := by decide +kernel
theorem dX10_isNumber_7 : decode cX10_isNumber 7 = .ok (.iconst 4, 1) := by decide +kernel
theorem dX10_isNumber_8 : decode cX10_isNumber 8 = .ok (.invokestatic 72, 3) := by decide +kernel
theorem dX10_isNumber_11 : decode cX10_isNumber 11 = .ok (.goto 26, 3) := by decide +kernel
theorem dX10_isNumber_14 : decode cX10_isNumber 14 = .ok (.iload_n 0, 1) := by decide +kernel
theorem dX10_isNumber_15 : decode cX10_isNumber 15 = .ok (.ifCond .ne 15, 3) := by decide +kernel
theorem dX10_isNumber_18 : decode cX10_isNumber 18 = .ok (.iload_n 1, 1) := by decide +kernel
theorem dX10_isNumber_19 : decode cX10_isNumber 19 = .ok (.ifCond .ne 7, 3) := by decide +kernel
theorem dX10_isNumber_22 : decode cX10_isNumber 22 = .ok (.iconst 1, 1) := by decide +kernel
theorem dX10_isNumber_23 : decode cX10_isNumber 23 = .ok (.goto 14, 3) := by decide +kernel
theorem dX10_isNumber_26 : decode cX10_isNumber 26 = .ok (.iconst 0, 1) := by decide +kernel
theorem dX10_isNumber_27 : decode cX10_isNumber 27 = .ok (.goto 10, 3) := by decide +kernel
theorem dX10_isNumber_30 : decode cX10_isNumber 30 = .ok (.iload_n 1, 1) := by decide +kernel
theorem dX10_isNumber_31 : decode cX10_isNumber 31 = .ok (.iconst 0, 1) := by decide +kernel
theorem dX10_isNumber_32 : decode cX10_isNumber 32 = .ok (.bipush 6, 2) := by decide +kernel
theorem dX10_isNumber_34 : decode cX10_isNumber 34 = .ok (.invokestatic 72, 3) := by decide +kernel
theorem dX10_isNumber_37 : decode cX10_isNumber 37 = .ok (.ireturn, 1) := by decide +kernel
set_option maxRecDepth 20000 in
theorem ggX10_isTold_X10_within : GoodIn wsX10_isTold wsX10_within := goodIn_r _ [4] (by decide +kernel) (by decide +kernel)
set_option maxRecDepth 20000 in
theorem gX10_isTold_X10_within : GoodIn wsX10_isTold (va_wsS RX10 72 yX10_within wsX10_within) := goodIn_app (goodIn_of _ (by decide +kernel)) ggX10_isTold_X10_within
theorem dX10_isTold_0 : decode cX10_isTold 0 = .ok (.iload_n 0, 1) := by decide +kernel
theorem dX10_isTold_1 : decode cX10_isTold 1 = .ok (.iconst 2, 1) := by decide +kernel
theorem dX10_isTold_2 : decode cX10_isTold 2 = .ok (.if_icmp .ne 13, 3) := by decide +kernel
theorem dX10_isTold_5 : decode cX10_isTold 5 = .ok (.iload_n 1, 1) := by decide +kernel
theorem dX10_isTold_6 : decode cX10_isTold 6 = .ok (.iconst 1, 1) := by decide +kernel
theorem dX10_isTold_7 : decode cX10_isTold 7 = .ok (.bipush 9, 2) := by decide +kernel
theorem dX10_isTold_9 : decode cX10_isTold 9 = .ok (.invokestatic 72, 3) := by decide +kernel
theorem dX10_isTold_12 : decode cX10_isTold 12 = .ok (.goto 10, 3) := by decide +kernel
theorem dX10_isTold_15 : decode cX10_isTold 15 = .ok (.iload_n 1, 1) := by decide +kernel
theorem dX10_isTold_16 : decode cX10_isTold 16 = .ok (.iconst 0, 1) := by decide +kernel
theorem dX10_isTold_17 : decode cX10_isTold 17 = .ok (.bipush 10, 2) := by decide +kernel
theorem dX10_isTold_19 : decode cX10_isTold 19 = .ok (.invokestatic 72, 3) := by decide +kernel
theorem dX10_isTold_22 : decode cX10_isTold 22 = .ok (.ireturn, 1) := by decide +kernel
set_option maxRecDepth 20000 in
theorem ggX10_parish_X10_within : GoodIn wsX10_parish wsX10_within := goodIn_r _ [10] (by decide +kernel) (by decide +kernel)
set_option maxRecDepth 20000 in
theorem gX10_parish_X10_within : GoodIn wsX10_parish (va_wsS RX10 72 yX10_within wsX10_within) := goodIn_app (goodIn_of _ (by decide +kernel)) ggX10_parish_X10_within
set_option maxRecDepth 20000 in
theorem ggX10_parish_X10_isNumber : GoodIn wsX10_parish wsX10_isNumber := goodIn_r _ [13, 7, 8, 9, 10] (by decide +kernel) (by decide +kernel)
set_option maxRecDepth 20000 in
theorem gX10_parish_X10_isNumber : GoodIn wsX10_parish (va_wsS RX10 116 yX10_isNumber wsX10_isNumber) := goodIn_app (goodIn_of _ (by decide +kernel)) ggX10_parish_X10_isNumber
set_option maxRecDepth 20000 in
theorem ggX10_parish_X10_isTold : GoodIn wsX10_parish wsX10_isTold := goodIn_r _ [16, 7, 8, 9, 10] (by decide +kernel) (by decide +kernel)
set_option maxRecDepth 20000 in
theorem gX10_parish_X10_isTold : GoodIn wsX10_parish (va_wsS RX10 120 yX10_isTold wsX10_isTold) := goodIn_app (goodIn_of _ (by decide +kernel)) ggX10_parish_X10_isTold
theorem dX10_parish_0 : decode cX10_parish 0 = .ok (.iload_n 1, 1) := by decide +kernel
theorem dX10_parish_1 : decode cX10_parish 1 = .ok (.iconst 0, 1) := by decide +kernel
theorem dX10_parish_2 : decode cX10_parish 2 = .ok (.iconst 3, 1) := by decide +kernel
theorem dX10_parish_3 : decode cX10_parish 3 = .ok (.invokestatic 72, 3) := by decide +kernel
theorem dX10_parish_6 : decode cX10_parish 6 = .ok (.ifCond .eq 37, 3) := by decide +kernel
theorem dX10_parish_9 : decode cX10_parish 9 = .ok (.iload_n 1, 1) := by decide +kernel
theorem dX10_parish_10 : decode cX10_parish 10 = .ok (.iload_n 2, 1) := by decide +kernel
theorem dX10_parish_11 : decode cX10_parish 11 = .ok (.invokestatic 116, 3) := by decide +kernel
theorem dX10_parish_14 : decode cX10_parish 14 = .ok (.ifCond .eq 29, 3) := by decide +kernel
theorem dX10_parish_17 : decode cX10_parish 17 = .ok (.iconst 2, 1) := by decide +kernel
theorem dX10_parish_18 : decode cX10_parish 18 = .ok (.iload_n 3, 1) := by decide +kernel
theorem dX10_parish_19 : decode cX10_parish 19 = .ok (.invokestatic 120, 3) := by decide +kernel
theorem dX10_parish_22 : decode cX10_parish 22 = .ok (.ifCond .eq 21, 3) := by decide +kernel
theorem dX10_parish_25 : decode cX10_parish 25 = .ok (.iconst 3, 1) := by decide +kernel
theorem dX10_parish_26 : decode cX10_parish 26 = .ok (.iload 4, 2) := by decide +kernel
theorem dX10_parish_28 : decode cX10_parish 28 = .ok (.invokestatic 120, 3) := by decide +kernel
theorem dX10_parish_31 : decode cX10_parish 31 = .ok (.ifCond .eq 12, 3) := by decide +kernel
theorem dX10_parish_34 : decode cX10_parish 34 = .ok (.iconst 4, 1) := by decide +kernel
theorem dX10_parish_35 : decode cX10_parish 35 = .ok (.iload 5, 2) := by decide +kernel
theorem dX10_parish_37 : decode cX10_parish 37 = .ok (.invokestatic 120, 3) := by decide +kernel
theorem dX10_parish_40 : decode cX10_parish 40 = .ok (.ifCond .ne 6, 3) := by decide +kernel
theorem dX10_parish_43 : decode cX10_parish 43 = .ok (.bipush (-102), 2) := by decide +kernel
theorem dX10_parish_45 : decode cX10_parish 45 = .ok (.ireturn, 1) := by decide +kernel
theorem dX10_parish_46 : decode cX10_parish 46 = .ok (.aload_n 0, 1) := by decide +kernel
theorem dX10_parish_47 : decode cX10_parish 47 = .ok (.getfield 113, 3) := by decide +kernel
theorem dX10_parish_50 : decode cX10_parish 50 = .ok (.bipush 6, 2) := by decide +kernel
theorem dX10_parish_52 : decode cX10_parish 52 = .ok (.if_icmp .ne 6, 3) := by decide +kernel
theorem dX10_parish_55 : decode cX10_parish 55 = .ok (.bipush (-104), 2) := by decide +kernel
theorem dX10_parish_57 : decode cX10_parish 57 = .ok (.ireturn, 1) := by decide +kernel
theorem dX10_parish_58 : decode cX10_parish 58 = .ok (.aload_n 0, 1) := by decide +kernel
theorem dX10_parish_59 : decode cX10_parish 59 = .ok (.getfield 20, 3) := by decide +kernel
theorem dX10_parish_62 : decode cX10_parish 62 = .ok (.aload_n 0, 1) := by decide +kernel
theorem dX10_parish_63 : decode cX10_parish 63 = .ok (.getfield 113, 3) := by decide +kernel
theorem dX10_parish_66 : decode cX10_parish 66 = .ok (.iload_n 1, 1) := by decide +kernel
theorem dX10_parish_67 : decode cX10_parish 67 = .ok (.iastore, 1) := by decide +kernel
theorem dX10_parish_68 : decode cX10_parish 68 = .ok (.aload_n 0, 1) := by decide +kernel
theorem dX10_parish_69 : decode cX10_parish 69 = .ok (.getfield 23, 3) := by decide +kernel
theorem dX10_parish_72 : decode cX10_parish 72 = .ok (.aload_n 0, 1) := by decide +kernel
theorem dX10_parish_73 : decode cX10_parish 73 = .ok (.getfield 113, 3) := by decide +kernel
theorem dX10_parish_76 : decode cX10_parish 76 = .ok (.iload_n 2, 1) := by decide +kernel
theorem dX10_parish_77 : decode cX10_parish 77 = .ok (.iastore, 1) := by decide +kernel
theorem dX10_parish_78 : decode cX10_parish 78 = .ok (.aload_n 0, 1) := by decide +kernel
theorem dX10_parish_79 : decode cX10_parish 79 = .ok (.getfield 26, 3) := by decide +kernel
theorem dX10_parish_82 : decode cX10_parish 82 = .ok (.aload_n 0, 1) := by decide +kernel
theorem dX10_parish_83 : decode cX10_parish 83 = .ok (.getfield 113, 3) := by decide +kernel
theorem dX10_parish_86 : decode cX10_parish 86 = .ok (.iload_n 3, 1) := by decide +kernel
theorem dX10_parish_87 : decode cX10_parish 87 = .ok (.iastore, 1) := by decide +kernel
theorem dX10_parish_88 : decode cX10_parish 88 = .ok (.aload_n 0, 1) := by decide +kernel
theorem dX10_parish_89 : decode cX10_parish 89 = .ok (.getfield 29, 3) := by decide +kernel
theorem dX10_parish_92 : decode cX10_parish 92 = .ok (.aload_n 0, 1) := by decide +kernel
theorem dX10_parish_93 : decode cX10_parish 93 = .ok (.getfield 113, 3) := by decide +kernel
theorem dX10_parish_96 : decode cX10_parish 96 = .ok (.iload 4, 2) := by decide +kernel
theorem dX10_parish_98 : decode cX10_parish 98 = .ok (.iastore, 1) := by decide +kernel
theorem dX10_parish_99 : decode cX10_parish 99 = .ok (.aload_n 0, 1) := by decide +kernel
theorem dX10_parish_100 : decode cX10_parish 100 = .ok (.getfield 32, 3) := by decide +kernel
theorem dX10_parish_103 : decode cX10_parish 103 = .ok (.aload_n 0, 1) := by decide +kernel
theorem dX10_parish_104 : decode cX10_parish 104 = .ok (.getfield 113, 3) := by decide +kernel
theorem dX10_parish_107 : decode cX10_parish 107 = .ok (.iload 5, 2) := by decide +kernel
theorem dX10_parish_109 : decode cX10_parish 109 = .ok (.iastore, 1) := by decide +kernel
theorem dX10_parish_110 : decode cX10_parish 110 = .ok (.aload_n 0, 1) := by decide +kernel
theorem dX10_parish_111 : decode cX10_parish 111 = .ok (.dup, 1) := by decide +kernel
theorem dX10_parish_112 : decode cX10_parish 112 = .ok (.getfield 113, 3) := by decide +kernel
theorem dX10_parish_115 : decode cX10_parish 115 = .ok (.iconst 1, 1) := by decide +kernel
theorem dX10_parish_116 : decode cX10_parish 116 = .ok (.iadd, 1) := by decide +kernel
theorem dX10_parish_117 : decode cX10_parish 117 = .ok (.putfield 113, 3) := by decide +kernel
theorem dX10_parish_120 : decode cX10_parish 120 = .ok (.aload_n 0, 1) := by decide +kernel
theorem dX10_parish_121 : decode cX10_parish 121 = .ok (.getfield 113, 3) := by decide +kernel
theorem dX10_parish_124 : decode cX10_parish 124 = .ok (.iconst 1, 1) := by decide +kernel
theorem dX10_parish_125 : decode cX10_parish 125 = .ok (.isub, 1) := by decide +kernel
theorem dX10_parish_126 : decode cX10_parish 126 = .ok (.ireturn, 1) := by decide +kernel
set_option maxRecDepth 20000 in
theorem ggX10_as_X10_isParish : GoodIn wsX10_as wsX10_isParish := goodIn_r _ [6, 7, 8, 9, 5, 10, 11, 12, 13, 14, 15, 16, 17, 18, 19, 20, 21, 22, 23, 24, 25, 26, 27, 28, 29, 30, 31, 32, 33, 34, 35, 36, 37, 38, 39, 40, 41, 42, 43, 44, 45] (by decide +kernel) (by decide +kernel)
set_option maxRecDepth 20000 in
theorem gX10_as_X10_isParish : GoodIn wsX10_as (wsV RX10 123 RX10 yX10_isParish wsX10_isParish) := goodIn_app (goodIn_of _ (by decide +kernel)) ggX10_as_X10_isParish
set_option maxRecDepth 20000 in
theorem ggX10_as_X10_within : GoodIn wsX10_as wsX10_within := goodIn_r _ [10] (by decide +kernel) (by decide +kernel)
set_option maxRecDepth 20000 in
theorem gX10_as_X10_within : GoodIn wsX10_as (va_wsS RX10 72 yX10_within wsX10_within) := goodIn_app (goodIn_of _ (by decide +kernel)) ggX10_as_X10_within
theorem dX10_as_0 : decode cX10_as 0 = .ok (.aload_n 0, 1) := by decide +kernel
theorem dX10_as_1 : decode cX10_as 1 = .ok (.iload_n 1, 1) := by decide +kernel
theorem dX10_as_2 : decode cX10_as 2 = .ok (.invokevirtual 123, 3) := by decide +kernel
theorem dX10_as_5 : decode cX10_as 5 = .ok (.ifCond .ne 6, 3) := by decide +kernel
theorem dX10_as_8 : decode cX10_as 8 = .ok (.bipush (-101), 2) := by decide +kernel
theorem dX10_as_10 : decode cX10_as 10 = .ok (.ireturn, 1) := by decide +kernel
theorem dX10_as_11 : decode cX10_as 11 = .ok (.iload_n 2, 1) := by decide +kernel
theorem dX10_as_12 : decode cX10_as 12 = .ok (.iconst 0, 1) := by decide +kernel
theorem dX10_as_13 : decode cX10_as 13 = .ok (.iconst 3, 1) := by decide +kernel
theorem dX10_as_14 : decode cX10_as 14 = .ok (.invokestatic 72, 3) := by decide +kernel
theorem dX10_as_17 : decode cX10_as 17 = .ok (.ifCond .ne 6, 3) := by decide +kernel
theorem dX10_as_20 : decode cX10_as 20 = .ok (.bipush (-102), 2) := by decide +kernel
theorem dX10_as_22 : decode cX10_as 22 = .ok (.ireturn, 1) := by decide +kernel
theorem dX10_as_23 : decode cX10_as 23 = .ok (.aload_n 0, 1) := by decide +kernel
theorem dX10_as_24 : decode cX10_as 24 = .ok (.getfield 20, 3) := by decide +kernel
theorem dX10_as_27 : decode cX10_as 27 = .ok (.iload_n 1, 1) := by decide +kernel
theorem dX10_as_28 : decode cX10_as 28 = .ok (.iaload, 1) := by decide +kernel
theorem dX10_as_29 : decode cX10_as 29 = .ok (.istore_n 3, 1) := by decide +kernel
theorem dX10_as_30 : decode cX10_as 30 = .ok (.iload_n 2, 1) := by decide +kernel
theorem dX10_as_31 : decode cX10_as 31 = .ok (.ifCond .eq 18, 3) := by decide +kernel
theorem dX10_as_34 : decode cX10_as 34 = .ok (.iload_n 3, 1) := by decide +kernel
theorem dX10_as_35 : decode cX10_as 35 = .ok (.iload_n 2, 1) := by decide +kernel
theorem dX10_as_36 : decode cX10_as 36 = .ok (.if_icmp .eq 13, 3) := by decide +kernel
theorem dX10_as_39 : decode cX10_as 39 = .ok (.iload_n 2, 1) := by decide +kernel
theorem dX10_as_40 : decode cX10_as 40 = .ok (.iconst 2, 1) := by decide +kernel
theorem dX10_as_41 : decode cX10_as 41 = .ok (.if_icmp .ne 12, 3) := by decide +kernel
theorem dX10_as_44 : decode cX10_as 44 = .ok (.iload_n 3, 1) := by decide +kernel
theorem dX10_as_45 : decode cX10_as 45 = .ok (.iconst 3, 1) := by decide +kernel
theorem dX10_as_46 : decode cX10_as 46 = .ok (.if_icmp .ne 7, 3) := by decide +kernel
theorem dX10_as_49 : decode cX10_as 49 = .ok (.iload_n 1, 1) := by decide +kernel
theorem dX10_as_50 : decode cX10_as 50 = .ok (.goto 4, 3) := by decide +kernel
theorem dX10_as_53 : decode cX10_as 53 = .ok (.iconst (-1), 1) := by decide +kernel
theorem dX10_as_54 : decode cX10_as 54 = .ok (.ireturn, 1) := by decide +kernel
theorem dX10_gift_0 : decode cX10_gift 0 = .ok (.aload_n 0, 1) := by decide +kernel
theorem dX10_gift_1 : decode cX10_gift 1 = .ok (.getfield 20, 3) := by decide +kernel
theorem dX10_gift_4 : decode cX10_gift 4 = .ok (.iload_n 1, 1) := by decide +kernel
theorem dX10_gift_5 : decode cX10_gift 5 = .ok (.iaload, 1) := by decide +kernel
theorem dX10_gift_6 : decode cX10_gift 6 = .ok (.iconst 1, 1) := by decide +kernel
theorem dX10_gift_7 : decode cX10_gift 7 = .ok (.if_icmp .ne 12, 3) := by decide +kernel
theorem dX10_gift_10 : decode cX10_gift 10 = .ok (.aload_n 0, 1) := by decide +kernel
theorem dX10_gift_11 : decode cX10_gift 11 = .ok (.getfield 23, 3) := by decide +kernel
theorem dX10_gift_14 : decode cX10_gift 14 = .ok (.iload_n 1, 1) := by decide +kernel
theorem dX10_gift_15 : decode cX10_gift 15 = .ok (.iaload, 1) := by decide +kernel
theorem dX10_gift_16 : decode cX10_gift 16 = .ok (.goto 4, 3) := by decide +kernel
theorem dX10_gift_19 : decode cX10_gift 19 = .ok (.iconst 1, 1) := by decide +kernel
theorem dX10_gift_20 : decode cX10_gift 20 = .ok (.ireturn, 1) := by decide +kernel
set_option maxRecDepth 20000 in
theorem ggX10_parishNow_X10_gift : GoodIn wsX10_parishNow wsX10_gift := goodIn_r _ [10, 1, 2, 11, 12, 13, 14, 15, 16, 17, 18, 19, 20, 21, 22, 23, 24, 25, 26, 27, 28, 29, 30, 31, 32, 33, 34, 35, 36, 37, 38, 39, 40, 41, 42, 43, 44, 45] (by decide +kernel) (by decide +kernel)
set_option maxRecDepth 20000 in
theorem gX10_parishNow_X10_gift : GoodIn wsX10_parishNow (wsV RX10 126 RX10 yX10_gift wsX10_gift) := goodIn_app (goodIn_of _ (by decide +kernel)) ggX10_parishNow_X10_gift
theorem dX10_parishNow_0 : decode cX10_parishNow 0 = .ok (.iload_n 2, 1) := by decide +kernel
theorem dX10_parishNow_1 : decode cX10_parishNow 1 = .ok (.tableswitch 70 0 4 #[35, 42, 49, 56, 63], 35) := by decide +kernel
theorem dX10_parishNow_36 : decode cX10_parishNow 36 = .ok (.aload_n 0, 1) := by decide +kernel
theorem dX10_parishNow_37 : decode cX10_parishNow 37 = .ok (.getfield 20, 3) := by decide +kernel
theorem dX10_parishNow_40 : decode cX10_parishNow 40 = .ok (.iload_n 1, 1) := by decide +kernel
theorem dX10_parishNow_41 : decode cX10_parishNow 41 = .ok (.iaload, 1) := by decide +kernel
theorem dX10_parishNow_42 : decode cX10_parishNow 42 = .ok (.ireturn, 1) := by decide +kernel
theorem dX10_parishNow_43 : decode cX10_parishNow 43 = .ok (.aload_n 0, 1) := by decide +kernel
theorem dX10_parishNow_44 : decode cX10_parishNow 44 = .ok (.getfield 23, 3) := by decide +kernel
theorem dX10_parishNow_47 : decode cX10_parishNow 47 = .ok (.iload_n 1, 1) := by decide +kernel
theorem dX10_parishNow_48 : decode cX10_parishNow 48 = .ok (.iaload, 1) := by decide +kernel
theorem dX10_parishNow_49 : decode cX10_parishNow 49 = .ok (.ireturn, 1) := by decide +kernel
theorem dX10_parishNow_50 : decode cX10_parishNow 50 = .ok (.aload_n 0, 1) := by decide +kernel
theorem dX10_parishNow_51 : decode cX10_parishNow 51 = .ok (.getfield 26, 3) := by decide +kernel
theorem dX10_parishNow_54 : decode cX10_parishNow 54 = .ok (.iload_n 1, 1) := by decide +kernel
theorem dX10_parishNow_55 : decode cX10_parishNow 55 = .ok (.iaload, 1) := by decide +kernel
theorem dX10_parishNow_56 : decode cX10_parishNow 56 = .ok (.ireturn, 1) := by decide +kernel
theorem dX10_parishNow_57 : decode cX10_parishNow 57 = .ok (.aload_n 0, 1) := by decide +kernel
theorem dX10_parishNow_58 : decode cX10_parishNow 58 = .ok (.getfield 29, 3) := by decide +kernel
theorem dX10_parishNow_61 : decode cX10_parishNow 61 = .ok (.iload_n 1, 1) := by decide +kernel
theorem dX10_parishNow_62 : decode cX10_parishNow 62 = .ok (.iaload, 1) := by decide +kernel
theorem dX10_parishNow_63 : decode cX10_parishNow 63 = .ok (.ireturn, 1) := by decide +kernel
theorem dX10_parishNow_64 : decode cX10_parishNow 64 = .ok (.aload_n 0, 1) := by decide +kernel
theorem dX10_parishNow_65 : decode cX10_parishNow 65 = .ok (.getfield 32, 3) := by decide +kernel
theorem dX10_parishNow_68 : decode cX10_parishNow 68 = .ok (.iload_n 1, 1) := by decide +kernel
theorem dX10_parishNow_69 : decode cX10_parishNow 69 = .ok (.iaload, 1) := by decide +kernel
theorem dX10_parishNow_70 : decode cX10_parishNow 70 = .ok (.ireturn, 1) := by decide +kernel
theorem dX10_parishNow_71 : decode cX10_parishNow 71 = .ok (.aload_n 0, 1) := by decide +kernel
theorem dX10_parishNow_72 : decode cX10_parishNow 72 = .ok (.iload_n 1, 1) := by decide +kernel
theorem dX10_parishNow_73 : decode cX10_parishNow 73 = .ok (.invokevirtual 126, 3) := by decide +kernel
theorem dX10_parishNow_76 : decode cX10_parishNow 76 = .ok (.ireturn, 1) := by decide +kernel
set_option maxRecDepth 20000 in
theorem ggX10_about_X10_isParish : GoodIn wsX10_about wsX10_isParish := goodIn_r _ [5, 6, 7, 8, 4, 9, 23, 24, 25, 26, 27, 28, 29, 30, 31, 32, 33, 34, 35, 36, 37, 38, 39, 40, 41, 42, 43, 44, 45, 46, 47, 48, 49, 50, 51, 52, 53, 54, 55, 56, 57] (by decide +kernel) (by decide +kernel)
set_option maxRecDepth 20000 in
theorem gX10_about_X10_isParish : GoodIn wsX10_about (wsV RX10 123 RX10 yX10_isParish wsX10_isParish) := goodIn_app (goodIn_of _ (by decide +kernel)) ggX10_about_X10_isParish
set_option maxRecDepth 20000 in
theorem ggX10_about_X10_within : GoodIn wsX10_about wsX10_within := goodIn_r _ [9] (by decide +kernel) (by decide +kernel)
set_option maxRecDepth 20000 in
theorem gX10_about_X10_within : GoodIn wsX10_about (va_wsS RX10 72 yX10_within wsX10_within) := goodIn_app (goodIn_of _ (by decide +kernel)) ggX10_about_X10_within
set_option maxRecDepth 20000 in
theorem ggX10_about_X10_parishNow : GoodIn wsX10_about wsX10_parishNow := goodIn_r _ [13, 14, 15, 16, 17, 18, 19, 20, 21, 4, 22, 23, 24, 25, 26, 27, 28, 29, 30, 31, 32, 33, 34, 35, 36, 37, 38, 39, 40, 41, 42, 43, 44, 45, 46, 47, 48, 49, 50, 51, 52, 53, 54, 55, 56, 57] (by decide +kernel) (by decide +kernel)
set_option maxRecDepth 20000 in
theorem gX10_about_X10_parishNow : GoodIn wsX10_about (wsV RX10 129 RX10 yX10_parishNow wsX10_parishNow) := goodIn_app (goodIn_of _ (by decide +kernel)) ggX10_about_X10_parishNow
theorem dX10_about_0 : decode cX10_about 0 = .ok (.aload_n 0, 1) := by decide +kernel
theorem dX10_about_1 : decode cX10_about 1 = .ok (.iload_n 1, 1) := by decide +kernel
theorem dX10_about_2 : decode cX10_about 2 = .ok (.invokevirtual 123, 3) := by decide +kernel
theorem dX10_about_5 : decode cX10_about 5 = .ok (.ifCond .ne 8, 3) := by decide +kernel
theorem dX10_about_8 : decode cX10_about 8 = .ok (.bipush (-101), 2) := by decide +kernel
theorem dX10_about_10 : decode cX10_about 10 = .ok (.goto 23, 3) := by decide +kernel
theorem dX10_about_13 : decode cX10_about 13 = .ok (.iload_n 2, 1) := by decide +kernel
theorem dX10_about_14 : decode cX10_about 14 = .ok (.iconst 0, 1) := by decide +kernel
theorem dX10_about_15 : decode cX10_about 15 = .ok (.iconst 5, 1) := by decide +kernel
theorem dX10_about_16 : decode cX10_about 16 = .ok (.invokestatic 72, 3) := by decide +kernel
theorem dX10_about_19 : decode cX10_about 19 = .ok (.ifCond .eq 12, 3) := by decide +kernel
theorem dX10_about_22 : decode cX10_about 22 = .ok (.aload_n 0, 1) := by decide +kernel
theorem dX10_about_23 : decode cX10_about 23 = .ok (.iload_n 1, 1) := by decide +kernel
theorem dX10_about_24 : decode cX10_about 24 = .ok (.iload_n 2, 1) := by decide +kernel
theorem dX10_about_25 : decode cX10_about 25 = .ok (.invokevirtual 129, 3) := by decide +kernel
theorem dX10_about_28 : decode cX10_about 28 = .ok (.goto 5, 3) := by decide +kernel
theorem dX10_about_31 : decode cX10_about 31 = .ok (.bipush (-102), 2) := by decide +kernel
theorem dX10_about_33 : decode cX10_about 33 = .ok (.ireturn, 1) := by decide +kernel
set_option maxRecDepth 20000 in
theorem ggX10_change_X10_isParish : GoodIn wsX10_change wsX10_isParish := goodIn_r _ [8, 9, 10, 11, 7, 12, 26, 27, 28, 29, 30, 31, 32, 33, 34, 35, 36, 37, 38, 39, 40, 41, 42, 43, 44, 45, 46, 47, 48, 49, 50, 51, 52, 53, 54, 55, 56, 57, 58, 59, 60] (by decide +kernel) (by decide +kernel)
set_option maxRecDepth 20000 in
theorem gX10_change_X10_isParish : GoodIn wsX10_change (wsV RX10 123 RX10 yX10_isParish wsX10_isParish) := goodIn_app (goodIn_of _ (by decide +kernel)) ggX10_change_X10_isParish
set_option maxRecDepth 20000 in
theorem ggX10_change_X10_within : GoodIn wsX10_change wsX10_within := goodIn_r _ [12] (by decide +kernel) (by decide +kernel)
set_option maxRecDepth 20000 in
theorem gX10_change_X10_within : GoodIn wsX10_change (va_wsS RX10 72 yX10_within wsX10_within) := goodIn_app (goodIn_of _ (by decide +kernel)) ggX10_change_X10_within
set_option maxRecDepth 20000 in
theorem ggX10_change_X10_isTold : GoodIn wsX10_change wsX10_isTold := goodIn_r _ [15, 10, 11, 7, 12] (by decide +kernel) (by decide +kernel)
set_option maxRecDepth 20000 in
theorem gX10_change_X10_isTold : GoodIn wsX10_change (va_wsS RX10 120 yX10_isTold wsX10_isTold) := goodIn_app (goodIn_of _ (by decide +kernel)) ggX10_change_X10_isTold
set_option maxRecDepth 20000 in
theorem ggX10_change_X10_parishNow : GoodIn wsX10_change wsX10_parishNow := goodIn_r _ [19, 20, 21, 1, 2, 3, 22, 23, 24, 7, 25, 26, 27, 28, 29, 30, 31, 32, 33, 34, 35, 36, 37, 38, 39, 40, 41, 42, 43, 44, 45, 46, 47, 48, 49, 50, 51, 52, 53, 54, 55, 56, 57, 58, 59, 60] (by decide +kernel) (by decide +kernel)
set_option maxRecDepth 20000 in
theorem gX10_change_X10_parishNow : GoodIn wsX10_change (wsV RX10 129 RX10 yX10_parishNow wsX10_parishNow) := goodIn_app (goodIn_of _ (by decide +kernel)) ggX10_change_X10_parishNow
theorem dX10_change_0 : decode cX10_change 0 = .ok (.aload_n 0, 1) := by decide +kernel
theorem dX10_change_1 : decode cX10_change 1 = .ok (.iload_n 1, 1) := by decide +kernel
theorem dX10_change_2 : decode cX10_change 2 = .ok (.invokevirtual 123, 3) := by decide +kernel
theorem dX10_change_5 : decode cX10_change 5 = .ok (.ifCond .ne 6, 3) := by decide +kernel
theorem dX10_change_8 : decode cX10_change 8 = .ok (.bipush (-101), 2) := by decide +kernel
theorem dX10_change_10 : decode cX10_change 10 = .ok (.ireturn, 1) := by decide +kernel
theorem dX10_change_11 : decode cX10_change 11 = .ok (.iload_n 2, 1) := by decide +kernel
theorem dX10_change_12 : decode cX10_change 12 = .ok (.iconst 2, 1) := by decide +kernel
theorem dX10_change_13 : decode cX10_change 13 = .ok (.iconst 4, 1) := by decide +kernel
theorem dX10_change_14 : decode cX10_change 14 = .ok (.invokestatic 72, 3) := by decide +kernel
theorem dX10_change_17 : decode cX10_change 17 = .ok (.ifCond .eq 11, 3) := by decide +kernel
theorem dX10_change_20 : decode cX10_change 20 = .ok (.iload_n 2, 1) := by decide +kernel
theorem dX10_change_21 : decode cX10_change 21 = .ok (.iload_n 3, 1) := by decide +kernel
theorem dX10_change_22 : decode cX10_change 22 = .ok (.invokestatic 120, 3) := by decide +kernel
theorem dX10_change_25 : decode cX10_change 25 = .ok (.ifCond .ne 6, 3) := by decide +kernel
theorem dX10_change_28 : decode cX10_change 28 = .ok (.bipush (-102), 2) := by decide +kernel
theorem dX10_change_30 : decode cX10_change 30 = .ok (.ireturn, 1) := by decide +kernel
theorem dX10_change_31 : decode cX10_change 31 = .ok (.aload_n 0, 1) := by decide +kernel
theorem dX10_change_32 : decode cX10_change 32 = .ok (.iload_n 1, 1) := by decide +kernel
theorem dX10_change_33 : decode cX10_change 33 = .ok (.iload_n 2, 1) := by decide +kernel
theorem dX10_change_34 : decode cX10_change 34 = .ok (.invokevirtual 129, 3) := by decide +kernel
theorem dX10_change_37 : decode cX10_change 37 = .ok (.istore 4, 2) := by decide +kernel
theorem dX10_change_39 : decode cX10_change 39 = .ok (.aload_n 0, 1) := by decide +kernel
theorem dX10_change_40 : decode cX10_change 40 = .ok (.getfield 26, 3) := by decide +kernel
theorem dX10_change_43 : decode cX10_change 43 = .ok (.iload_n 1, 1) := by decide +kernel
theorem dX10_change_44 : decode cX10_change 44 = .ok (.iload_n 2, 1) := by decide +kernel
theorem dX10_change_45 : decode cX10_change 45 = .ok (.iconst 2, 1) := by decide +kernel
theorem dX10_change_46 : decode cX10_change 46 = .ok (.if_icmp .ne 7, 3) := by decide +kernel
theorem dX10_change_49 : decode cX10_change 49 = .ok (.iload_n 3, 1) := by decide +kernel
theorem dX10_change_50 : decode cX10_change 50 = .ok (.goto 9, 3) := by decide +kernel
theorem dX10_change_53 : decode cX10_change 53 = .ok (.aload_n 0, 1) := by decide +kernel
theorem dX10_change_54 : decode cX10_change 54 = .ok (.getfield 26, 3) := by decide +kernel
theorem dX10_change_57 : decode cX10_change 57 = .ok (.iload_n 1, 1) := by decide +kernel
theorem dX10_change_58 : decode cX10_change 58 = .ok (.iaload, 1) := by decide +kernel
theorem dX10_change_59 : decode cX10_change 59 = .ok (.iastore, 1) := by decide +kernel
theorem dX10_change_60 : decode cX10_change 60 = .ok (.aload_n 0, 1) := by decide +kernel
theorem dX10_change_61 : decode cX10_change 61 = .ok (.getfield 29, 3) := by decide +kernel
theorem dX10_change_64 : decode cX10_change 64 = .ok (.iload_n 1, 1) := by decide +kernel
theorem dX10_change_65 : decode cX10_change 65 = .ok (.iload_n 2, 1) := by decide +kernel
theorem dX10_change_66 : decode cX10_change 66 = .ok (.iconst 3, 1) := by decide +kernel
theorem dX10_change_67 : decode cX10_change 67 = .ok (.if_icmp .ne 7, 3) := by decide +kernel
theorem dX10_change_70 : decode cX10_change 70 = .ok (.iload_n 3, 1) := by decide +kernel
theorem dX10_change_71 : decode cX10_change 71 = .ok (.goto 9, 3) := by decide +kernel
theorem dX10_change_74 : decode cX10_change 74 = .ok (.aload_n 0, 1) := by decide +kernel
theorem dX10_change_75 : decode cX10_change 75 = .ok (.getfield 29, 3) := by decide +kernel
theorem dX10_change_78 : decode cX10_change 78 = .ok (.iload_n 1, 1) := by decide +kernel
theorem dX10_change_79 : decode cX10_change 79 = .ok (.iaload, 1) := by decide +kernel
theorem dX10_change_80 : decode cX10_change 80 = .ok (.iastore, 1) := by decide +kernel
theorem dX10_change_81 : decode cX10_change 81 = .ok (.aload_n 0, 1) := by decide +kernel
theorem dX10_change_82 : decode cX10_change 82 = .ok (.getfield 32, 3) := by decide +kernel
theorem dX10_change_85 : decode cX10_change 85 = .ok (.iload_n 1, 1) := by decide +kernel
theorem dX10_change_86 : decode cX10_change 86 = .ok (.iload_n 2, 1) := by decide +kernel
theorem dX10_change_87 : decode cX10_change 87 = .ok (.iconst 4, 1) := by decide +kernel
theorem dX10_change_88 : decode cX10_change 88 = .ok (.if_icmp .ne 7, 3) := by decide +kernel
theorem dX10_change_91 : decode cX10_change 91 = .ok (.iload_n 3, 1) := by decide +kernel
theorem dX10_change_92 : decode cX10_change 92 = .ok (.goto 9, 3) := by decide +kernel
theorem dX10_change_95 : decode cX10_change 95 = .ok (.aload_n 0, 1) := by decide +kernel
theorem dX10_change_96 : decode cX10_change 96 = .ok (.getfield 32, 3) := by decide +kernel
theorem dX10_change_99 : decode cX10_change 99 = .ok (.iload_n 1, 1) := by decide +kernel
theorem dX10_change_100 : decode cX10_change 100 = .ok (.iaload, 1) := by decide +kernel
theorem dX10_change_101 : decode cX10_change 101 = .ok (.iastore, 1) := by decide +kernel
theorem dX10_change_102 : decode cX10_change 102 = .ok (.iload 4, 2) := by decide +kernel
theorem dX10_change_104 : decode cX10_change 104 = .ok (.ireturn, 1) := by decide +kernel
set_option maxRecDepth 20000 in
theorem ggX10_isCairn_X10_within : GoodIn wsX10_isCairn wsX10_within := goodIn_r _ [4] (by decide +kernel) (by decide +kernel)
set_option maxRecDepth 20000 in
theorem gX10_isCairn_X10_within : GoodIn wsX10_isCairn (va_wsS RX10 72 yX10_within wsX10_within) := goodIn_app (goodIn_of _ (by decide +kernel)) ggX10_isCairn_X10_within
theorem dX10_isCairn_0 : decode cX10_isCairn 0 = .ok (.iload_n 0, 1) := by decide +kernel
theorem dX10_isCairn_1 : decode cX10_isCairn 1 = .ok (.iconst 0, 1) := by decide +kernel
theorem dX10_isCairn_2 : decode cX10_isCairn 2 = .ok (.bipush 6, 2) := by decide +kernel
theorem dX10_isCairn_4 : decode cX10_isCairn 4 = .ok (.invokestatic 72, 3) := by decide +kernel
theorem dX10_isCairn_7 : decode cX10_isCairn 7 = .ok (.ireturn, 1) := by decide +kernel
theorem dX10_put_0 : decode cX10_put 0 = .ok (.aload_n 0, 1) := by decide +kernel
theorem dX10_put_1 : decode cX10_put 1 = .ok (.getfield 13, 3) := by decide +kernel
theorem dX10_put_4 : decode cX10_put 4 = .ok (.iload_n 1, 1) := by decide +kernel
theorem dX10_put_5 : decode cX10_put 5 = .ok (.iaload, 1) := by decide +kernel
theorem dX10_put_6 : decode cX10_put 6 = .ok (.bipush 60, 2) := by decide +kernel
theorem dX10_put_8 : decode cX10_put 8 = .ok (.if_icmp .ne 14, 3) := by decide +kernel
theorem dX10_put_11 : decode cX10_put 11 = .ok (.aload_n 0, 1) := by decide +kernel
theorem dX10_put_12 : decode cX10_put 12 = .ok (.dup, 1) := by decide +kernel
theorem dX10_put_13 : decode cX10_put 13 = .ok (.getfield 132, 3) := by decide +kernel
theorem dX10_put_16 : decode cX10_put 16 = .ok (.iconst 1, 1) := by decide +kernel
theorem dX10_put_17 : decode cX10_put 17 = .ok (.iadd, 1) := by decide +kernel
theorem dX10_put_18 : decode cX10_put 18 = .ok (.putfield 132, 3) := by decide +kernel
theorem dX10_put_21 : decode cX10_put 21 = .ok (.return_, 1) := by decide +kernel
theorem dX10_put_22 : decode cX10_put 22 = .ok (.aload_n 0, 1) := by decide +kernel
theorem dX10_put_23 : decode cX10_put 23 = .ok (.getfield 7, 3) := by decide +kernel
theorem dX10_put_26 : decode cX10_put 26 = .ok (.bipush 60, 2) := by decide +kernel
theorem dX10_put_28 : decode cX10_put 28 = .ok (.iload_n 1, 1) := by decide +kernel
theorem dX10_put_29 : decode cX10_put 29 = .ok (.imul, 1) := by decide +kernel
theorem dX10_put_30 : decode cX10_put 30 = .ok (.aload_n 0, 1) := by decide +kernel
theorem dX10_put_31 : decode cX10_put 31 = .ok (.getfield 13, 3) := by decide +kernel
theorem dX10_put_34 : decode cX10_put 34 = .ok (.iload_n 1, 1) := by decide +kernel
theorem dX10_put_35 : decode cX10_put 35 = .ok (.iaload, 1) := by decide +kernel
theorem dX10_put_36 : decode cX10_put 36 = .ok (.iadd, 1) := by decide +kernel
theorem dX10_put_37 : decode cX10_put 37 = .ok (.iload_n 2, 1) := by decide +kernel
theorem dX10_put_38 : decode cX10_put 38 = .ok (.iastore, 1) := by decide +kernel
theorem dX10_put_39 : decode cX10_put 39 = .ok (.aload_n 0, 1) := by decide +kernel
theorem dX10_put_40 : decode cX10_put 40 = .ok (.getfield 13, 3) := by decide +kernel
theorem dX10_put_43 : decode cX10_put 43 = .ok (.iload_n 1, 1) := by decide +kernel
theorem dX10_put_44 : decode cX10_put 44 = .ok (.dup2, 1) := by decide +kernel
theorem dX10_put_45 : decode cX10_put 45 = .ok (.iaload, 1) := by decide +kernel
theorem dX10_put_46 : decode cX10_put 46 = .ok (.iconst 1, 1) := by decide +kernel
theorem dX10_put_47 : decode cX10_put 47 = .ok (.iadd, 1) := by decide +kernel
theorem dX10_put_48 : decode cX10_put 48 = .ok (.iastore, 1) := by decide +kernel
theorem dX10_put_49 : decode cX10_put 49 = .ok (.return_, 1) := by decide +kernel
set_option maxRecDepth 20000 in
theorem ggX10_layAll_X10_put : GoodIn wsX10_layAll wsX10_put := goodIn_r _ [7, 8, 9, 10, 11, 12, 13, 14, 15, 16, 17, 18, 19, 20, 21, 22, 23, 24, 25, 26, 27, 28, 29, 30, 31, 32, 33, 34, 35, 36, 37, 38, 39, 40, 41, 42, 43, 44, 45] (by decide +kernel) (by decide +kernel)
set_option maxRecDepth 20000 in
theorem gX10_layAll_X10_put : GoodIn wsX10_layAll (wsV RX10 141 RX10 yX10_put wsX10_put) := goodIn_app (goodIn_of _ (by decide +kernel)) ggX10_layAll_X10_put
theorem dX10_layAll_0 : decode cX10_layAll 0 = .ok (.aload_n 0, 1) := by decide +kernel
theorem dX10_layAll_1 : decode cX10_layAll 1 = .ok (.dup, 1) := by decide +kernel
theorem dX10_layAll_2 : decode cX10_layAll 2 = .ok (.getfield 135, 3) := by decide +kernel
theorem dX10_layAll_5 : decode cX10_layAll 5 = .ok (.iload_n 2, 1) := by decide +kernel
theorem dX10_layAll_6 : decode cX10_layAll 6 = .ok (.iadd, 1) := by decide +kernel
theorem dX10_layAll_7 : decode cX10_layAll 7 = .ok (.putfield 135, 3) := by decide +kernel
theorem dX10_layAll_10 : decode cX10_layAll 10 = .ok (.iconst 0, 1) := by decide +kernel
theorem dX10_layAll_11 : decode cX10_layAll 11 = .ok (.istore_n 3, 1) := by decide +kernel
theorem dX10_layAll_12 : decode cX10_layAll 12 = .ok (.iload_n 3, 1) := by decide +kernel
theorem dX10_layAll_13 : decode cX10_layAll 13 = .ok (.iload_n 2, 1) := by decide +kernel
theorem dX10_layAll_14 : decode cX10_layAll 14 = .ok (.if_icmp .ge 18, 3) := by decide +kernel
theorem dX10_layAll_17 : decode cX10_layAll 17 = .ok (.aload_n 0, 1) := by decide +kernel
theorem dX10_layAll_18 : decode cX10_layAll 18 = .ok (.iload_n 1, 1) := by decide +kernel
theorem dX10_layAll_19 : decode cX10_layAll 19 = .ok (.aload_n 0, 1) := by decide +kernel
theorem dX10_layAll_20 : decode cX10_layAll 20 = .ok (.getfield 138, 3) := by decide +kernel
theorem dX10_layAll_23 : decode cX10_layAll 23 = .ok (.invokevirtual 141, 3) := by decide +kernel
theorem dX10_layAll_26 : decode cX10_layAll 26 = .ok (.iinc 3 1, 3) := by decide +kernel
theorem dX10_layAll_29 : decode cX10_layAll 29 = .ok (.goto (-17), 3) := by decide +kernel
theorem dX10_layAll_32 : decode cX10_layAll 32 = .ok (.return_, 1) := by decide +kernel
theorem dX10_takeAll_0 : decode cX10_takeAll 0 = .ok (.iload_n 2, 1) := by decide +kernel
theorem dX10_takeAll_1 : decode cX10_takeAll 1 = .ok (.aload_n 0, 1) := by decide +kernel
theorem dX10_takeAll_2 : decode cX10_takeAll 2 = .ok (.getfield 13, 3) := by decide +kernel
theorem dX10_takeAll_5 : decode cX10_takeAll 5 = .ok (.iload_n 1, 1) := by decide +kernel
theorem dX10_takeAll_6 : decode cX10_takeAll 6 = .ok (.iaload, 1) := by decide +kernel
theorem dX10_takeAll_7 : decode cX10_takeAll 7 = .ok (.if_icmp .le 12, 3) := by decide +kernel
theorem dX10_takeAll_10 : decode cX10_takeAll 10 = .ok (.aload_n 0, 1) := by decide +kernel
theorem dX10_takeAll_11 : decode cX10_takeAll 11 = .ok (.getfield 13, 3) := by decide +kernel
theorem dX10_takeAll_14 : decode cX10_takeAll 14 = .ok (.iload_n 1, 1) := by decide +kernel
theorem dX10_takeAll_15 : decode cX10_takeAll 15 = .ok (.iaload, 1) := by decide +kernel
theorem dX10_takeAll_16 : decode cX10_takeAll 16 = .ok (.goto 4, 3) := by decide +kernel
theorem dX10_takeAll_19 : decode cX10_takeAll 19 = .ok (.iload_n 2, 1) := by decide +kernel
theorem dX10_takeAll_20 : decode cX10_takeAll 20 = .ok (.istore_n 3, 1) := by decide +kernel
theorem dX10_takeAll_21 : decode cX10_takeAll 21 = .ok (.aload_n 0, 1) := by decide +kernel
theorem dX10_takeAll_22 : decode cX10_takeAll 22 = .ok (.getfield 13, 3) := by decide +kernel
theorem dX10_takeAll_25 : decode cX10_takeAll 25 = .ok (.iload_n 1, 1) := by decide +kernel
theorem dX10_takeAll_26 : decode cX10_takeAll 26 = .ok (.dup2, 1) := by decide +kernel
theorem dX10_takeAll_27 : decode cX10_takeAll 27 = .ok (.iaload, 1) := by decide +kernel
theorem dX10_takeAll_28 : decode cX10_takeAll 28 = .ok (.iload_n 3, 1) := by decide +kernel
theorem dX10_takeAll_29 : decode cX10_takeAll 29 = .ok (.isub, 1) := by decide +kernel
theorem dX10_takeAll_30 : decode cX10_takeAll 30 = .ok (.iastore, 1) := by decide +kernel
theorem dX10_takeAll_31 : decode cX10_takeAll 31 = .ok (.aload_n 0, 1) := by decide +kernel
theorem dX10_takeAll_32 : decode cX10_takeAll 32 = .ok (.dup, 1) := by decide +kernel
theorem dX10_takeAll_33 : decode cX10_takeAll 33 = .ok (.getfield 145, 3) := by decide +kernel
theorem dX10_takeAll_36 : decode cX10_takeAll 36 = .ok (.iload_n 3, 1) := by decide +kernel
theorem dX10_takeAll_37 : decode cX10_takeAll 37 = .ok (.iadd, 1) := by decide +kernel
theorem dX10_takeAll_38 : decode cX10_takeAll 38 = .ok (.putfield 145, 3) := by decide +kernel
theorem dX10_takeAll_41 : decode cX10_takeAll 41 = .ok (.return_, 1) := by decide +kernel
set_option maxRecDepth 20000 in
theorem ggX10_lay_X10_isCairn : GoodIn wsX10_lay wsX10_isCairn := goodIn_r _ [5, 6, 7, 4, 8] (by decide +kernel) (by decide +kernel)
set_option maxRecDepth 20000 in
theorem gX10_lay_X10_isCairn : GoodIn wsX10_lay (va_wsS RX10 148 yX10_isCairn wsX10_isCairn) := goodIn_app (goodIn_of _ (by decide +kernel)) ggX10_lay_X10_isCairn
set_option maxRecDepth 20000 in
theorem ggX10_lay_X10_within : GoodIn wsX10_lay wsX10_within := goodIn_r _ [8] (by decide +kernel) (by decide +kernel)
set_option maxRecDepth 20000 in
theorem gX10_lay_X10_within : GoodIn wsX10_lay (va_wsS RX10 72 yX10_within wsX10_within) := goodIn_app (goodIn_of _ (by decide +kernel)) ggX10_lay_X10_within
set_option maxRecDepth 20000 in
theorem ggX10_lay_X10_layAll : GoodIn wsX10_lay wsX10_layAll := goodIn_r _ [12, 13, 14, 15, 16, 17, 4, 18, 1, 19, 20, 21, 22, 23, 24, 25, 26, 27, 28, 29, 30, 31, 32, 33, 34, 35, 36, 37, 38, 39, 40, 41, 42, 43, 44, 45, 46, 47, 48, 49, 50, 51, 52, 53, 54, 55] (by decide +kernel) (by decide +kernel)
set_option maxRecDepth 20000 in
theorem gX10_lay_X10_layAll : GoodIn wsX10_lay (wsV RX10 151 RX10 yX10_layAll wsX10_layAll) := goodIn_app (goodIn_of _ (by decide +kernel)) ggX10_lay_X10_layAll
theorem dX10_lay_0 : decode cX10_lay 0 = .ok (.iload_n 1, 1) := by decide +kernel
theorem dX10_lay_1 : decode cX10_lay 1 = .ok (.invokestatic 148, 3) := by decide +kernel
theorem dX10_lay_4 : decode cX10_lay 4 = .ok (.ifCond .ne 6, 3) := by decide +kernel
theorem dX10_lay_7 : decode cX10_lay 7 = .ok (.bipush (-101), 2) := by decide +kernel
theorem dX10_lay_9 : decode cX10_lay 9 = .ok (.ireturn, 1) := by decide +kernel
theorem dX10_lay_10 : decode cX10_lay 10 = .ok (.iload_n 2, 1) := by decide +kernel
theorem dX10_lay_11 : decode cX10_lay 11 = .ok (.iconst 1, 1) := by decide +kernel
theorem dX10_lay_12 : decode cX10_lay 12 = .ok (.bipush 60, 2) := by decide +kernel
theorem dX10_lay_14 : decode cX10_lay 14 = .ok (.invokestatic 72, 3) := by decide +kernel
theorem dX10_lay_17 : decode cX10_lay 17 = .ok (.ifCond .ne 6, 3) := by decide +kernel
theorem dX10_lay_20 : decode cX10_lay 20 = .ok (.bipush (-102), 2) := by decide +kernel
theorem dX10_lay_22 : decode cX10_lay 22 = .ok (.ireturn, 1) := by decide +kernel
theorem dX10_lay_23 : decode cX10_lay 23 = .ok (.aload_n 0, 1) := by decide +kernel
theorem dX10_lay_24 : decode cX10_lay 24 = .ok (.iload_n 1, 1) := by decide +kernel
theorem dX10_lay_25 : decode cX10_lay 25 = .ok (.iload_n 2, 1) := by decide +kernel
theorem dX10_lay_26 : decode cX10_lay 26 = .ok (.invokevirtual 151, 3) := by decide +kernel
theorem dX10_lay_29 : decode cX10_lay 29 = .ok (.aload_n 0, 1) := by decide +kernel
theorem dX10_lay_30 : decode cX10_lay 30 = .ok (.getfield 13, 3) := by decide +kernel
theorem dX10_lay_33 : decode cX10_lay 33 = .ok (.iload_n 1, 1) := by decide +kernel
theorem dX10_lay_34 : decode cX10_lay 34 = .ok (.iaload, 1) := by decide +kernel
theorem dX10_lay_35 : decode cX10_lay 35 = .ok (.ireturn, 1) := by decide +kernel
set_option maxRecDepth 20000 in
theorem ggX10_take_X10_isCairn : GoodIn wsX10_take wsX10_isCairn := goodIn_r _ [5, 6, 7, 4, 8] (by decide +kernel) (by decide +kernel)
set_option maxRecDepth 20000 in
theorem gX10_take_X10_isCairn : GoodIn wsX10_take (va_wsS RX10 148 yX10_isCairn wsX10_isCairn) := goodIn_app (goodIn_of _ (by decide +kernel)) ggX10_take_X10_isCairn
set_option maxRecDepth 20000 in
theorem ggX10_take_X10_within : GoodIn wsX10_take wsX10_within := goodIn_r _ [8] (by decide +kernel) (by decide +kernel)
set_option maxRecDepth 20000 in
theorem gX10_take_X10_within : GoodIn wsX10_take (va_wsS RX10 72 yX10_within wsX10_within) := goodIn_app (goodIn_of _ (by decide +kernel)) ggX10_take_X10_within
set_option maxRecDepth 20000 in
theorem ggX10_take_X10_takeAll : GoodIn wsX10_take wsX10_takeAll := goodIn_r _ [12, 1, 13, 14, 15, 16, 17, 18, 19, 20, 21, 22, 23, 24, 25, 26, 27, 28, 29, 30, 31, 32, 33, 34, 35, 36, 37, 38, 39, 40, 41, 42, 43, 44, 45, 46, 47, 48] (by decide +kernel) (by decide +kernel)
set_option maxRecDepth 20000 in
theorem gX10_take_X10_takeAll : GoodIn wsX10_take (wsV RX10 154 RX10 yX10_takeAll wsX10_takeAll) := goodIn_app (goodIn_of _ (by decide +kernel)) ggX10_take_X10_takeAll
