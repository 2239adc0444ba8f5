theorem dL_parishes_100 : decode cL_parishes 100 = .ok (.iload 6, 2) := by decide +kernel
theorem dL_parishes_102 : decode cL_parishes 102 = .ok (.imul, 1) := by decide +kernel
theorem dL_parishes_103 : decode cL_parishes 103 = .ok (.iconst 3, 1) := by decide +kernel
theorem dL_parishes_104 : decode cL_parishes 104 = .ok (.iadd, 1) := by decide +kernel
theorem dL_parishes_105 : decode cL_parishes 105 = .ok (.iload 7, 2) := by decide +kernel
theorem dL_parishes_107 : decode cL_parishes 107 = .ok (.sipush 1024, 3) := by decide +kernel
theorem dL_parishes_110 : decode cL_parishes 110 = .ok (.idiv, 1) := by decide +kernel
theorem dL_parishes_111 : decode cL_parishes 111 = .ok (.bipush 11, 2) := by decide +kernel
theorem dL_parishes_113 : decode cL_parishes 113 = .ok (.irem, 1) := by decide +kernel
theorem dL_parishes_114 : decode cL_parishes 114 = .ok (.iastore, 1) := by decide +kernel
theorem dL_parishes_115 : decode cL_parishes 115 = .ok (.aload 5, 2) := by decide +kernel
theorem dL_parishes_117 : decode cL_parishes 117 = .ok (.iconst 5, 1) := by decide +kernel
theorem dL_parishes_118 : decode cL_parishes 118 = .ok (.iload 6, 2) := by decide +kernel
theorem dL_parishes_120 : decode cL_parishes 120 = .ok (.imul, 1) := by decide +kernel
theorem dL_parishes_121 : decode cL_parishes 121 = .ok (.iconst 4, 1) := by decide +kernel
theorem dL_parishes_122 : decode cL_parishes 122 = .ok (.iadd, 1) := by decide +kernel
theorem dL_parishes_123 : decode cL_parishes 123 = .ok (.iload 7, 2) := by decide +kernel
theorem dL_parishes_125 : decode cL_parishes 125 = .ok (.sipush 16384, 3) := by decide +kernel
theorem dL_parishes_128 : decode cL_parishes 128 = .ok (.idiv, 1) := by decide +kernel
theorem dL_parishes_129 : decode cL_parishes 129 = .ok (.bipush 11, 2) := by decide +kernel
theorem dL_parishes_131 : decode cL_parishes 131 = .ok (.irem, 1) := by decide +kernel
theorem dL_parishes_132 : decode cL_parishes 132 = .ok (.iastore, 1) := by decide +kernel
theorem dL_parishes_133 : decode cL_parishes 133 = .ok (.aload_n 0, 1) := by decide +kernel
theorem dL_parishes_134 : decode cL_parishes 134 = .ok (.iload 8, 2) := by decide +kernel
theorem dL_parishes_136 : decode cL_parishes 136 = .ok (.aload 5, 2) := by decide +kernel
theorem dL_parishes_138 : decode cL_parishes 138 = .ok (.iconst 5, 1) := by decide +kernel
theorem dL_parishes_139 : decode cL_parishes 139 = .ok (.iload 6, 2) := by decide +kernel
theorem dL_parishes_141 : decode cL_parishes 141 = .ok (.imul, 1) := by decide +kernel
theorem dL_parishes_142 : decode cL_parishes 142 = .ok (.iconst 1, 1) := by decide +kernel
theorem dL_parishes_143 : decode cL_parishes 143 = .ok (.iadd, 1) := by decide +kernel
theorem dL_parishes_144 : decode cL_parishes 144 = .ok (.iaload, 1) := by decide +kernel
theorem dL_parishes_145 : decode cL_parishes 145 = .ok (.aload 5, 2) := by decide +kernel
theorem dL_parishes_147 : decode cL_parishes 147 = .ok (.iconst 5, 1) := by decide +kernel
theorem dL_parishes_148 : decode cL_parishes 148 = .ok (.iload 6, 2) := by decide +kernel
theorem dL_parishes_150 : decode cL_parishes 150 = .ok (.imul, 1) := by decide +kernel
theorem dL_parishes_151 : decode cL_parishes 151 = .ok (.iconst 2, 1) := by decide +kernel
theorem dL_parishes_152 : decode cL_parishes 152 = .ok (.iadd, 1) := by decide +kernel
theorem dL_parishes_153 : decode cL_parishes 153 = .ok (.iaload, 1) := by decide +kernel
theorem dL_parishes_154 : decode cL_parishes 154 = .ok (.aload 5, 2) := by decide +kernel
theorem dL_parishes_156 : decode cL_parishes 156 = .ok (.iconst 5, 1) := by decide +kernel
theorem dL_parishes_157 : decode cL_parishes 157 = .ok (.iload 6, 2) := by decide +kernel
theorem dL_parishes_159 : decode cL_parishes 159 = .ok (.imul, 1) := by decide +kernel
theorem dL_parishes_160 : decode cL_parishes 160 = .ok (.iconst 3, 1) := by decide +kernel
theorem dL_parishes_161 : decode cL_parishes 161 = .ok (.iadd, 1) := by decide +kernel
theorem dL_parishes_162 : decode cL_parishes 162 = .ok (.iaload, 1) := by decide +kernel
theorem dL_parishes_163 : decode cL_parishes 163 = .ok (.aload 5, 2) := by decide +kernel
theorem dL_parishes_165 : decode cL_parishes 165 = .ok (.iconst 5, 1) := by decide +kernel
theorem dL_parishes_166 : decode cL_parishes 166 = .ok (.iload 6, 2) := by decide +kernel
theorem dL_parishes_168 : decode cL_parishes 168 = .ok (.imul, 1) := by decide +kernel
theorem dL_parishes_169 : decode cL_parishes 169 = .ok (.iconst 4, 1) := by decide +kernel
theorem dL_parishes_170 : decode cL_parishes 170 = .ok (.iadd, 1) := by decide +kernel
theorem dL_parishes_171 : decode cL_parishes 171 = .ok (.iaload, 1) := by decide +kernel
theorem dL_parishes_172 : decode cL_parishes 172 = .ok (.invokevirtual 38, 3) := by decide +kernel
theorem dL_parishes_175 : decode cL_parishes 175 = .ok (.iload 6, 2) := by decide +kernel
theorem dL_parishes_177 : decode cL_parishes 177 = .ok (.if_icmp .eq 5, 3) := by decide +kernel
theorem dL_parishes_180 : decode cL_parishes 180 = .ok (.iconst 0, 1) := by decide +kernel
theorem dL_parishes_181 : decode cL_parishes 181 = .ok (.ireturn, 1) := by decide +kernel
theorem dL_parishes_182 : decode cL_parishes 182 = .ok (.iinc 6 1, 3) := by decide +kernel
theorem dL_parishes_185 : decode cL_parishes 185 = .ok (.goto (-182), 3) := by decide +kernel
theorem dL_parishes_188 : decode cL_parishes 188 = .ok (.iconst 1, 1) := by decide +kernel
theorem dL_parishes_189 : decode cL_parishes 189 = .ok (.ireturn, 1) := by decide +kernel
theorem dL_rule_0 : decode cL_rule 0 = .ok (.iconst 0, 1) := by decide +kernel
theorem dL_rule_1 : decode cL_rule 1 = .ok (.istore 4, 2) := by decide +kernel
theorem dL_rule_3 : decode cL_rule 3 = .ok (.bipush 6, 2) := by decide +kernel
theorem dL_rule_5 : decode cL_rule 5 = .ok (.istore 5, 2) := by decide +kernel
theorem dL_rule_7 : decode cL_rule 7 = .ok (.iload 5, 2) := by decide +kernel
theorem dL_rule_9 : decode cL_rule 9 = .ok (.ifCond .lt 52, 3) := by decide +kernel
theorem dL_rule_12 : decode cL_rule 12 = .ok (.iload_n 0, 1) := by decide +kernel
theorem dL_rule_13 : decode cL_rule 13 = .ok (.bipush 7, 2) := by decide +kernel
theorem dL_rule_15 : decode cL_rule 15 = .ok (.if_icmp .ne 14, 3) := by decide +kernel
theorem dL_rule_18 : decode cL_rule 18 = .ok (.aload_n 1, 1) := by decide +kernel
theorem dL_rule_19 : decode cL_rule 19 = .ok (.iload 5, 2) := by decide +kernel
theorem dL_rule_21 : decode cL_rule 21 = .ok (.iaload, 1) := by decide +kernel
theorem dL_rule_22 : decode cL_rule 22 = .ok (.aload_n 1, 1) := by decide +kernel
theorem dL_rule_23 : decode cL_rule 23 = .ok (.iload 4, 2) := by decide +kernel
theorem dL_rule_25 : decode cL_rule 25 = .ok (.iaload, 1) := by decide +kernel
theorem dL_rule_26 : decode cL_rule 26 = .ok (.if_icmp .ge 20, 3) := by decide +kernel
theorem dL_rule_29 : decode cL_rule 29 = .ok (.iload_n 0, 1) := by decide +kernel
theorem dL_rule_30 : decode cL_rule 30 = .ok (.bipush 8, 2) := by decide +kernel
theorem dL_rule_32 : decode cL_rule 32 = .ok (.if_icmp .ne 19, 3) := by decide +kernel
theorem dL_rule_35 : decode cL_rule 35 = .ok (.aload_n 1, 1) := by decide +kernel
theorem dL_rule_36 : decode cL_rule 36 = .ok (.iload 5, 2) := by decide +kernel
theorem dL_rule_38 : decode cL_rule 38 = .ok (.iaload, 1) := by decide +kernel
theorem dL_rule_39 : decode cL_rule 39 = .ok (.aload_n 1, 1) := by decide +kernel
theorem dL_rule_40 : decode cL_rule 40 = .ok (.iload 4, 2) := by decide +kernel
theorem dL_rule_42 : decode cL_rule 42 = .ok (.iaload, 1) := by decide +kernel
theorem dL_rule_43 : decode cL_rule 43 = .ok (.if_icmp .gt 8, 3) := by decide +kernel
theorem dL_rule_46 : decode cL_rule 46 = .ok (.iload 5, 2) := by decide +kernel
theorem dL_rule_48 : decode cL_rule 48 = .ok (.goto 5, 3) := by decide +kernel
theorem dL_rule_51 : decode cL_rule 51 = .ok (.iload 4, 2) := by decide +kernel
theorem dL_rule_53 : decode cL_rule 53 = .ok (.istore 4, 2) := by decide +kernel
theorem dL_rule_55 : decode cL_rule 55 = .ok (.iinc 5 (-1), 3) := by decide +kernel
theorem dL_rule_58 : decode cL_rule 58 = .ok (.goto (-51), 3) := by decide +kernel
theorem dL_rule_61 : decode cL_rule 61 = .ok (.iload_n 0, 1) := by decide +kernel
theorem dL_rule_62 : decode cL_rule 62 = .ok (.bipush 7, 2) := by decide +kernel
theorem dL_rule_64 : decode cL_rule 64 = .ok (.if_icmp .ge 7, 3) := by decide +kernel
theorem dL_rule_67 : decode cL_rule 67 = .ok (.iload_n 0, 1) := by decide +kernel
theorem dL_rule_68 : decode cL_rule 68 = .ok (.goto 30, 3) := by decide +kernel
theorem dL_rule_71 : decode cL_rule 71 = .ok (.iload_n 0, 1) := by decide +kernel
theorem dL_rule_72 : decode cL_rule 72 = .ok (.bipush 9, 2) := by decide +kernel
theorem dL_rule_74 : decode cL_rule 74 = .ok (.if_icmp .ge 8, 3) := by decide +kernel
theorem dL_rule_77 : decode cL_rule 77 = .ok (.iload 4, 2) := by decide +kernel
theorem dL_rule_79 : decode cL_rule 79 = .ok (.goto 19, 3) := by decide +kernel
theorem dL_rule_82 : decode cL_rule 82 = .ok (.iload_n 0, 1) := by decide +kernel
theorem dL_rule_83 : decode cL_rule 83 = .ok (.bipush 9, 2) := by decide +kernel
theorem dL_rule_85 : decode cL_rule 85 = .ok (.if_icmp .ne 7, 3) := by decide +kernel
theorem dL_rule_88 : decode cL_rule 88 = .ok (.iload_n 3, 1) := by decide +kernel
theorem dL_rule_89 : decode cL_rule 89 = .ok (.goto 9, 3) := by decide +kernel
theorem dL_rule_92 : decode cL_rule 92 = .ok (.iload_n 2, 1) := by decide +kernel
theorem dL_rule_93 : decode cL_rule 93 = .ok (.iconst 1, 1) := by decide +kernel
theorem dL_rule_94 : decode cL_rule 94 = .ok (.iadd, 1) := by decide +kernel
theorem dL_rule_95 : decode cL_rule 95 = .ok (.bipush 7, 2) := by decide +kernel
theorem dL_rule_97 : decode cL_rule 97 = .ok (.irem, 1) := by decide +kernel
theorem dL_rule_98 : decode cL_rule 98 = .ok (.ireturn, 1) := by decide +kernel
theorem dL_lay_0 : decode cL_lay 0 = .ok (.aload_n 0, 1) := by decide +kernel
theorem dL_lay_1 : decode cL_lay 1 = .ok (.iload_n 3, 1) := by decide +kernel
theorem dL_lay_2 : decode cL_lay 2 = .ok (.iaload, 1) := by decide +kernel
theorem dL_lay_3 : decode cL_lay 3 = .ok (.bipush 60, 2) := by decide +kernel
theorem dL_lay_5 : decode cL_lay 5 = .ok (.if_icmp .ne 11, 3) := by decide +kernel
theorem dL_lay_8 : decode cL_lay 8 = .ok (.aload_n 2, 1) := by decide +kernel
theorem dL_lay_9 : decode cL_lay 9 = .ok (.iconst 5, 1) := by decide +kernel
theorem dL_lay_10 : decode cL_lay 10 = .ok (.dup2, 1) := by decide +kernel
theorem dL_lay_11 : decode cL_lay 11 = .ok (.iaload, 1) := by decide +kernel
theorem dL_lay_12 : decode cL_lay 12 = .ok (.iconst 1, 1) := by decide +kernel
theorem dL_lay_13 : decode cL_lay 13 = .ok (.iadd, 1) := by decide +kernel
theorem dL_lay_14 : decode cL_lay 14 = .ok (.iastore, 1) := by decide +kernel
theorem dL_lay_15 : decode cL_lay 15 = .ok (.return_, 1) := by decide +kernel
theorem dL_lay_16 : decode cL_lay 16 = .ok (.aload_n 0, 1) := by decide +kernel
theorem dL_lay_17 : decode cL_lay 17 = .ok (.iload_n 3, 1) := by decide +kernel
theorem dL_lay_18 : decode cL_lay 18 = .ok (.iaload, 1) := by decide +kernel
theorem dL_lay_19 : decode cL_lay 19 = .ok (.bipush 9, 2) := by decide +kernel
theorem dL_lay_21 : decode cL_lay 21 = .ok (.if_icmp .ge 18, 3) := by decide +kernel
theorem dL_lay_24 : decode cL_lay 24 = .ok (.aload_n 1, 1) := by decide +kernel
theorem dL_lay_25 : decode cL_lay 25 = .ok (.bipush 9, 2) := by decide +kernel
theorem dL_lay_27 : decode cL_lay 27 = .ok (.iload_n 3, 1) := by decide +kernel
theorem dL_lay_28 : decode cL_lay 28 = .ok (.imul, 1) := by decide +kernel
theorem dL_lay_29 : decode cL_lay 29 = .ok (.aload_n 0, 1) := by decide +kernel
theorem dL_lay_30 : decode cL_lay 30 = .ok (.iload_n 3, 1) := by decide +kernel
theorem dL_lay_31 : decode cL_lay 31 = .ok (.iaload, 1) := by decide +kernel
theorem dL_lay_32 : decode cL_lay 32 = .ok (.iadd, 1) := by decide +kernel
theorem dL_lay_33 : decode cL_lay 33 = .ok (.iload 4, 2) := by decide +kernel
theorem dL_lay_35 : decode cL_lay 35 = .ok (.iastore, 1) := by decide +kernel
theorem dL_lay_36 : decode cL_lay 36 = .ok (.goto 8, 3) := by decide +kernel
theorem dL_lay_39 : decode cL_lay 39 = .ok (.aload_n 2, 1) := by decide +kernel
theorem dL_lay_40 : decode cL_lay 40 = .ok (.bipush 6, 2) := by decide +kernel
theorem dL_lay_42 : decode cL_lay 42 = .ok (.iconst 1, 1) := by decide +kernel
theorem dL_lay_43 : decode cL_lay 43 = .ok (.iastore, 1) := by decide +kernel
theorem dL_lay_44 : decode cL_lay 44 = .ok (.aload_n 0, 1) := by decide +kernel
theorem dL_lay_45 : decode cL_lay 45 = .ok (.iload_n 3, 1) := by decide +kernel
theorem dL_lay_46 : decode cL_lay 46 = .ok (.dup2, 1) := by decide +kernel
theorem dL_lay_47 : decode cL_lay 47 = .ok (.iaload, 1) := by decide +kernel
theorem dL_lay_48 : decode cL_lay 48 = .ok (.iconst 1, 1) := by decide +kernel
theorem dL_lay_49 : decode cL_lay 49 = .ok (.iadd, 1) := by decide +kernel
theorem dL_lay_50 : decode cL_lay 50 = .ok (.iastore, 1) := by decide +kernel
theorem dL_lay_51 : decode cL_lay 51 = .ok (.return_, 1) := by decide +kernel
theorem dL_draw_0 : decode cL_draw 0 = .ok (.aload_n 1, 1) := by decide +kernel
theorem dL_draw_1 : decode cL_draw 1 = .ok (.iconst 0, 1) := by decide +kernel
theorem dL_draw_2 : decode cL_draw 2 = .ok (.ldc2_w 42, 3) := by decide +kernel
theorem dL_draw_5 : decode cL_draw 5 = .ok (.aload_n 1, 1) := by decide +kernel
theorem dL_draw_6 : decode cL_draw 6 = .ok (.iconst 0, 1) := by decide +kernel
theorem dL_draw_7 : decode cL_draw 7 = .ok (.laload, 1) := by decide +kernel
theorem dL_draw_8 : decode cL_draw 8 = .ok (.lmul, 1) := by decide +kernel
theorem dL_draw_9 : decode cL_draw 9 = .ok (.ldc2_w 44, 3) := by decide +kernel
theorem dL_draw_12 : decode cL_draw 12 = .ok (.ladd, 1) := by decide +kernel
theorem dL_draw_13 : decode cL_draw 13 = .ok (.ldc2_w 46, 3) := by decide +kernel
theorem dL_draw_16 : decode cL_draw 16 = .ok (.lrem, 1) := by decide +kernel
theorem dL_draw_17 : decode cL_draw 17 = .ok (.lastore, 1) := by decide +kernel
theorem dL_draw_18 : decode cL_draw 18 = .ok (.aload_n 1, 1) := by decide +kernel
theorem dL_draw_19 : decode cL_draw 19 = .ok (.iconst 0, 1) := by decide +kernel
theorem dL_draw_20 : decode cL_draw 20 = .ok (.laload, 1) := by decide +kernel
theorem dL_draw_21 : decode cL_draw 21 = .ok (.ldc2_w 48, 3) := by decide +kernel
theorem dL_draw_24 : decode cL_draw 24 = .ok (.ldiv, 1) := by decide +kernel
theorem dL_draw_25 : decode cL_draw 25 = .ok (.ldc2_w 50, 3) := by decide +kernel
theorem dL_draw_28 : decode cL_draw 28 = .ok (.lrem, 1) := by decide +kernel
theorem dL_draw_29 : decode cL_draw 29 = .ok (.l2i, 1) := by decide +kernel
theorem dL_draw_30 : decode cL_draw 30 = .ok (.ireturn, 1) := by decide +kernel
set_option maxRecDepth 20000 in
theorem ggL_week_L_draw : GoodIn wsL_week wsL_draw := goodIn_r _ [4, 5, 6, 7, 8, 9] (by decide +kernel) (by decide +kernel)
set_option maxRecDepth 20000 in
theorem gL_week_L_draw : GoodIn wsL_week (va_wsS RL 52 yL_draw wsL_draw) := goodIn_app (goodIn_of _ (by decide +kernel)) ggL_week_L_draw
set_option maxRecDepth 20000 in
theorem ggL_week_L_rule : GoodIn wsL_week wsL_rule := goodIn_r _ [12] (by decide +kernel) (by decide +kernel)
set_option maxRecDepth 20000 in
theorem gL_week_L_rule : GoodIn wsL_week (va_wsS RL 56 yL_rule wsL_rule) := goodIn_app (goodIn_of _ (by decide +kernel)) ggL_week_L_rule
set_option maxRecDepth 20000 in
theorem ggL_week_L_lay : GoodIn wsL_week wsL_lay := goodIn_r _ [15] (by decide +kernel) (by decide +kernel)
set_option maxRecDepth 20000 in
theorem gL_week_L_lay : GoodIn wsL_week (va_wsS RL 60 yL_lay wsL_lay) := goodIn_app (goodIn_of _ (by decide +kernel)) ggL_week_L_lay
theorem dL_week_0 : decode cL_week 0 = .ok (.aload 5, 2) := by decide +kernel
theorem dL_week_2 : decode cL_week 2 = .ok (.iconst 0, 1) := by decide +kernel
theorem dL_week_3 : decode cL_week 3 = .ok (.dup2, 1) := by decide +kernel
theorem dL_week_4 : decode cL_week 4 = .ok (.iaload, 1) := by decide +kernel
theorem dL_week_5 : decode cL_week 5 = .ok (.iconst 1, 1) := by decide +kernel
theorem dL_week_6 : decode cL_week 6 = .ok (.iadd, 1) := by decide +kernel
theorem dL_week_7 : decode cL_week 7 = .ok (.iastore, 1) := by decide +kernel
theorem dL_week_8 : decode cL_week 8 = .ok (.iconst 0, 1) := by decide +kernel
theorem dL_week_9 : decode cL_week 9 = .ok (.istore 7, 2) := by decide +kernel
theorem dL_week_11 : decode cL_week 11 = .ok (.iload 7, 2) := by decide +kernel
theorem dL_week_13 : decode cL_week 13 = .ok (.iload_n 1, 1) := by decide +kernel
theorem dL_week_14 : decode cL_week 14 = .ok (.if_icmp .ge 272, 3) := by decide +kernel
theorem dL_week_17 : decode cL_week 17 = .ok (.aload_n 0, 1) := by decide +kernel
theorem dL_week_18 : decode cL_week 18 = .ok (.iconst 5, 1) := by decide +kernel
theorem dL_week_19 : decode cL_week 19 = .ok (.iload 7, 2) := by decide +kernel
theorem dL_week_21 : decode cL_week 21 = .ok (.imul, 1) := by decide +kernel
theorem dL_week_22 : decode cL_week 22 = .ok (.iaload, 1) := by decide +kernel
theorem dL_week_23 : decode cL_week 23 = .ok (.istore 8, 2) := by decide +kernel
theorem dL_week_25 : decode cL_week 25 = .ok (.iconst 0, 1) := by decide +kernel
theorem dL_week_26 : decode cL_week 26 = .ok (.istore 9, 2) := by decide +kernel
theorem dL_week_28 : decode cL_week 28 = .ok (.iload 9, 2) := by decide +kernel
theorem dL_week_30 : decode cL_week 30 = .ok (.aload_n 0, 1) := by decide +kernel
theorem dL_week_31 : decode cL_week 31 = .ok (.iconst 5, 1) := by decide +kernel
theorem dL_week_32 : decode cL_week 32 = .ok (.iload 7, 2) := by decide +kernel
theorem dL_week_34 : decode cL_week 34 = .ok (.imul, 1) := by decide +kernel
theorem dL_week_35 : decode cL_week 35 = .ok (.iconst 2, 1) := by decide +kernel
theorem dL_week_36 : decode cL_week 36 = .ok (.iadd, 1) := by decide +kernel
theorem dL_week_37 : decode cL_week 37 = .ok (.iaload, 1) := by decide +kernel
theorem dL_week_38 : decode cL_week 38 = .ok (.if_icmp .ge 242, 3) := by decide +kernel
theorem dL_week_41 : decode cL_week 41 = .ok (.aload 5, 2) := by decide +kernel
theorem dL_week_43 : decode cL_week 43 = .ok (.aload 6, 2) := by decide +kernel
theorem dL_week_45 : decode cL_week 45 = .ok (.invokestatic 52, 3) := by decide +kernel
theorem dL_week_48 : decode cL_week 48 = .ok (.aload_n 0, 1) := by decide +kernel
theorem dL_week_49 : decode cL_week 49 = .ok (.iconst 5, 1) := by decide +kernel
theorem dL_week_50 : decode cL_week 50 = .ok (.iload 7, 2) := by decide +kernel
theorem dL_week_52 : decode cL_week 52 = .ok (.imul, 1) := by decide +kernel
theorem dL_week_53 : decode cL_week 53 = .ok (.iconst 3, 1) := by decide +kernel
theorem dL_week_54 : decode cL_week 54 = .ok (.iadd, 1) := by decide +kernel
theorem dL_week_55 : decode cL_week 55 = .ok (.iaload, 1) := by decide +kernel
theorem dL_week_56 : decode cL_week 56 = .ok (.if_icmp .ge 84, 3) := by decide +kernel
theorem dL_week_59 : decode cL_week 59 = .ok (.aload 5, 2) := by decide +kernel
theorem dL_week_61 : decode cL_week 61 = .ok (.iconst 1, 1) := by decide +kernel
theorem dL_week_62 : decode cL_week 62 = .ok (.aload_n 2, 1) := by decide +kernel
theorem dL_week_63 : decode cL_week 63 = .ok (.iconst 0, 1) := by decide +kernel
theorem dL_week_64 : decode cL_week 64 = .ok (.iaload, 1) := by decide +kernel
theorem dL_week_65 : decode cL_week 65 = .ok (.aload_n 3, 1) := by decide +kernel
theorem dL_week_66 : decode cL_week 66 = .ok (.aload 5, 2) := by decide +kernel
theorem dL_week_68 : decode cL_week 68 = .ok (.iconst 1, 1) := by decide +kernel
theorem dL_week_69 : decode cL_week 69 = .ok (.iaload, 1) := by decide +kernel
theorem dL_week_70 : decode cL_week 70 = .ok (.iload 7, 2) := by decide +kernel
theorem dL_week_72 : decode cL_week 72 = .ok (.invokestatic 56, 3) := by decide +kernel
theorem dL_week_75 : decode cL_week 75 = .ok (.iastore, 1) := by decide +kernel
theorem dL_week_76 : decode cL_week 76 = .ok (.iload 8, 2) := by decide +kernel
theorem dL_week_78 : decode cL_week 78 = .ok (.iconst 1, 1) := by decide +kernel
theorem dL_week_79 : decode cL_week 79 = .ok (.if_icmp .ne 14, 3) := by decide +kernel
theorem dL_week_82 : decode cL_week 82 = .ok (.aload_n 0, 1) := by decide +kernel
theorem dL_week_83 : decode cL_week 83 = .ok (.iconst 5, 1) := by decide +kernel
theorem dL_week_84 : decode cL_week 84 = .ok (.iload 7, 2) := by decide +kernel
theorem dL_week_86 : decode cL_week 86 = .ok (.imul, 1) := by decide +kernel
theorem dL_week_87 : decode cL_week 87 = .ok (.iconst 1, 1) := by decide +kernel
theorem dL_week_88 : decode cL_week 88 = .ok (.iadd, 1) := by decide +kernel
theorem dL_week_89 : decode cL_week 89 = .ok (.iaload, 1) := by decide +kernel
theorem dL_week_90 : decode cL_week 90 = .ok (.goto 4, 3) := by decide +kernel
theorem dL_week_93 : decode cL_week 93 = .ok (.iconst 1, 1) := by decide +kernel
theorem dL_week_94 : decode cL_week 94 = .ok (.istore 10, 2) := by decide +kernel
theorem dL_week_96 : decode cL_week 96 = .ok (.iconst 0, 1) := by decide +kernel
theorem dL_week_97 : decode cL_week 97 = .ok (.istore 11, 2) := by decide +kernel
theorem dL_week_99 : decode cL_week 99 = .ok (.iload 11, 2) := by decide +kernel
theorem dL_week_101 : decode cL_week 101 = .ok (.iload 10, 2) := by decide +kernel
theorem dL_week_103 : decode cL_week 103 = .ok (.if_icmp .ge 25, 3) := by decide +kernel
theorem dL_week_106 : decode cL_week 106 = .ok (.aload_n 3, 1) := by decide +kernel
theorem dL_week_107 : decode cL_week 107 = .ok (.aload 4, 2) := by decide +kernel
theorem dL_week_109 : decode cL_week 109 = .ok (.aload 5, 2) := by decide +kernel
theorem dL_week_111 : decode cL_week 111 = .ok (.aload 5, 2) := by decide +kernel
theorem dL_week_113 : decode cL_week 113 = .ok (.iconst 1, 1) := by decide +kernel
theorem dL_week_114 : decode cL_week 114 = .ok (.iaload, 1) := by decide +kernel
theorem dL_week_115 : decode cL_week 115 = .ok (.aload 5, 2) := by decide +kernel
theorem dL_week_117 : decode cL_week 117 = .ok (.iconst 0, 1) := by decide +kernel
theorem dL_week_118 : decode cL_week 118 = .ok (.iaload, 1) := by decide +kernel
theorem dL_week_119 : decode cL_week 119 = .ok (.invokestatic 60, 3) := by decide +kernel
theorem dL_week_122 : decode cL_week 122 = .ok (.iinc 11 1, 3) := by decide +kernel
theorem dL_week_125 : decode cL_week 125 = .ok (.goto (-26), 3) := by decide +kernel
theorem dL_week_128 : decode cL_week 128 = .ok (.aload 5, 2) := by decide +kernel
theorem dL_week_130 : decode cL_week 130 = .ok (.iconst 2, 1) := by decide +kernel
theorem dL_week_131 : decode cL_week 131 = .ok (.dup2, 1) := by decide +kernel
theorem dL_week_132 : decode cL_week 132 = .ok (.iaload, 1) := by decide +kernel
theorem dL_week_133 : decode cL_week 133 = .ok (.iload 10, 2) := by decide +kernel
theorem dL_week_135 : decode cL_week 135 = .ok (.iadd, 1) := by decide +kernel
theorem dL_week_136 : decode cL_week 136 = .ok (.iastore, 1) := by decide +kernel
theorem dL_week_137 : decode cL_week 137 = .ok (.goto 137, 3) := by decide +kernel
theorem dL_week_140 : decode cL_week 140 = .ok (.aload 5, 2) := by decide +kernel
theorem dL_week_142 : decode cL_week 142 = .ok (.aload 6, 2) := by decide +kernel
theorem dL_week_144 : decode cL_week 144 = .ok (.invokestatic 52, 3) := by decide +kernel
theorem dL_week_147 : decode cL_week 147 = .ok (.aload_n 0, 1) := by decide +kernel
theorem dL_week_148 : decode cL_week 148 = .ok (.iconst 5, 1) := by decide +kernel
theorem dL_week_149 : decode cL_week 149 = .ok (.iload 7, 2) := by decide +kernel
theorem dL_week_151 : decode cL_week 151 = .ok (.imul, 1) := by decide +kernel
theorem dL_week_152 : decode cL_week 152 = .ok (.iconst 4, 1) := by decide +kernel
theorem dL_week_153 : decode cL_week 153 = .ok (.iadd, 1) := by decide +kernel
theorem dL_week_154 : decode cL_week 154 = .ok (.iaload, 1) := by decide +kernel
theorem dL_week_155 : decode cL_week 155 = .ok (.if_icmp .ge 119, 3) := by decide +kernel
theorem dL_week_158 : decode cL_week 158 = .ok (.aload 5, 2) := by decide +kernel
theorem dL_week_160 : decode cL_week 160 = .ok (.iconst 1, 1) := by decide +kernel
theorem dL_week_161 : decode cL_week 161 = .ok (.iload 8, 2) := by decide +kernel
theorem dL_week_163 : decode cL_week 163 = .ok (.iconst 3, 1) := by decide +kernel
theorem dL_week_164 : decode cL_week 164 = .ok (.if_icmp .ne 8, 3) := by decide +kernel
theorem dL_week_167 : decode cL_week 167 = .ok (.bipush 7, 2) := by decide +kernel
theorem dL_week_169 : decode cL_week 169 = .ok (.goto 6, 3) := by decide +kernel
theorem dL_week_172 : decode cL_week 172 = .ok (.aload_n 2, 1) := by decide +kernel
theorem dL_week_173 : decode cL_week 173 = .ok (.iconst 1, 1) := by decide +kernel
theorem dL_week_174 : decode cL_week 174 = .ok (.iaload, 1) := by decide +kernel
theorem dL_week_175 : decode cL_week 175 = .ok (.aload_n 3, 1) := by decide +kernel
theorem dL_week_176 : decode cL_week 176 = .ok (.aload 5, 2) := by decide +kernel
theorem dL_week_178 : decode cL_week 178 = .ok (.iconst 1, 1) := by decide +kernel
theorem dL_week_179 : decode cL_week 179 = .ok (.iaload, 1) := by decide +kernel
theorem dL_week_180 : decode cL_week 180 = .ok (.iload 7, 2) := by decide +kernel
theorem dL_week_182 : decode cL_week 182 = .ok (.invokestatic 56, 3) := by decide +kernel
theorem dL_week_185 : decode cL_week 185 = .ok (.iastore, 1) := by decide +kernel
theorem dL_week_186 : decode cL_week 186 = .ok (.aload_n 3, 1) := by decide +kernel
theorem dL_week_187 : decode cL_week 187 = .ok (.aload 5, 2) := by decide +kernel
theorem dL_week_189 : decode cL_week 189 = .ok (.iconst 1, 1) := by decide +kernel
theorem dL_week_190 : decode cL_week 190 = .ok (.iaload, 1) := by decide +kernel
theorem dL_week_191 : decode cL_week 191 = .ok (.iaload, 1) := by decide +kernel
theorem dL_week_192 : decode cL_week 192 = .ok (.ifCond .le 82, 3) := by decide +kernel
theorem dL_week_195 : decode cL_week 195 = .ok (.aload_n 3, 1) := by decide +kernel
theorem dL_week_196 : decode cL_week 196 = .ok (.aload 5, 2) := by decide +kernel
theorem dL_week_198 : decode cL_week 198 = .ok (.iconst 1, 1) := by decide +kernel
theorem dL_week_199 : decode cL_week 199 = .ok (.iaload, 1) := by decide +kernel
theorem dL_week_200 : decode cL_week 200 = .ok (.dup2, 1) := by decide +kernel
theorem dL_week_201 : decode cL_week 201 = .ok (.iaload, 1) := by decide +kernel
theorem dL_week_202 : decode cL_week 202 = .ok (.iconst 1, 1) := by decide +kernel
theorem dL_week_203 : decode cL_week 203 = .ok (.isub, 1) := by decide +kernel
theorem dL_week_204 : decode cL_week 204 = .ok (.iastore, 1) := by decide +kernel
theorem dL_week_205 : decode cL_week 205 = .ok (.aload_n 3, 1) := by decide +kernel
theorem dL_week_206 : decode cL_week 206 = .ok (.aload 5, 2) := by decide +kernel
theorem dL_week_208 : decode cL_week 208 = .ok (.iconst 1, 1) := by decide +kernel
theorem dL_week_209 : decode cL_week 209 = .ok (.iaload, 1) := by decide +kernel
theorem dL_week_210 : decode cL_week 210 = .ok (.iaload, 1) := by decide +kernel
theorem dL_week_211 : decode cL_week 211 = .ok (.bipush 9, 2) := by decide +kernel
theorem dL_week_213 : decode cL_week 213 = .ok (.if_icmp .ge 23, 3) := by decide +kernel
theorem dL_week_216 : decode cL_week 216 = .ok (.aload 4, 2) := by decide +kernel
theorem dL_week_218 : decode cL_week 218 = .ok (.bipush 9, 2) := by decide +kernel
theorem dL_week_220 : decode cL_week 220 = .ok (.aload 5, 2) := by decide +kernel
theorem dL_week_222 : decode cL_week 222 = .ok (.iconst 1, 1) := by decide +kernel
theorem dL_week_223 : decode cL_week 223 = .ok (.iaload, 1) := by decide +kernel
theorem dL_week_224 : decode cL_week 224 = .ok (.imul, 1) := by decide +kernel
theorem dL_week_225 : decode cL_week 225 = .ok (.aload_n 3, 1) := by decide +kernel
theorem dL_week_226 : decode cL_week 226 = .ok (.aload 5, 2) := by decide +kernel
theorem dL_week_228 : decode cL_week 228 = .ok (.iconst 1, 1) := by decide +kernel
theorem dL_week_229 : decode cL_week 229 = .ok (.iaload, 1) := by decide +kernel
theorem dL_week_230 : decode cL_week 230 = .ok (.iaload, 1) := by decide +kernel
theorem dL_week_231 : decode cL_week 231 = .ok (.iadd, 1) := by decide +kernel
theorem dL_week_232 : decode cL_week 232 = .ok (.iaload, 1) := by decide +kernel
theorem dL_week_233 : decode cL_week 233 = .ok (.goto 4, 3) := by decide +kernel
theorem dL_week_236 : decode cL_week 236 = .ok (.iconst 0, 1) := by decide +kernel
theorem dL_week_237 : decode cL_week 237 = .ok (.istore 10, 2) := by decide +kernel
theorem dL_week_239 : decode cL_week 239 = .ok (.iload 8, 2) := by decide +kernel
theorem dL_week_241 : decode cL_week 241 = .ok (.iconst 1, 1) := by decide +kernel
theorem dL_week_242 : decode cL_week 242 = .ok (.if_icmp .le 24, 3) := by decide +kernel
theorem dL_week_245 : decode cL_week 245 = .ok (.aload_n 3, 1) := by decide +kernel
theorem dL_week_246 : decode cL_week 246 = .ok (.aload 4, 2) := by decide +kernel
theorem dL_week_248 : decode cL_week 248 = .ok (.aload 5, 2) := by decide +kernel
theorem dL_week_250 : decode cL_week 250 = .ok (.aload_n 0, 1) := by decide +kernel
theorem dL_week_251 : decode cL_week 251 = .ok (.iconst 5, 1) := by decide +kernel
theorem dL_week_252 : decode cL_week 252 = .ok (.iload 7, 2) := by decide +kernel
theorem dL_week_254 : decode cL_week 254 = .ok (.imul, 1) := by decide +kernel
theorem dL_week_255 : decode cL_week 255 = .ok (.iconst 1, 1) := by decide +kernel
theorem dL_week_256 : decode cL_week 256 = .ok (.iadd, 1) := by decide +kernel
theorem dL_week_257 : decode cL_week 257 = .ok (.iaload, 1) := by decide +kernel
theorem dL_week_258 : decode cL_week 258 = .ok (.iload 10, 2) := by decide +kernel
theorem dL_week_260 : decode cL_week 260 = .ok (.invokestatic 60, 3) := by decide +kernel
theorem dL_week_263 : decode cL_week 263 = .ok (.goto 11, 3) := by decide +kernel
theorem dL_week_266 : decode cL_week 266 = .ok (.aload 5, 2) := by decide +kernel
theorem dL_week_268 : decode cL_week 268 = .ok (.iconst 3, 1) := by decide +kernel
theorem dL_week_269 : decode cL_week 269 = .ok (.dup2, 1) := by decide +kernel
theorem dL_week_270 : decode cL_week 270 = .ok (.iaload, 1) := by decide +kernel
theorem dL_week_271 : decode cL_week 271 = .ok (.iconst 1, 1) := by decide +kernel
theorem dL_week_272 : decode cL_week 272 = .ok (.iadd, 1) := by decide +kernel
theorem dL_week_273 : decode cL_week 273 = .ok (.iastore, 1) := by decide +kernel
theorem dL_week_274 : decode cL_week 274 = .ok (.iinc 9 1, 3) := by decide +kernel
theorem dL_week_277 : decode cL_week 277 = .ok (.goto (-249), 3) := by decide +kernel
theorem dL_week_280 : decode cL_week 280 = .ok (.iinc 7 1, 3) := by decide +kernel
theorem dL_week_283 : decode cL_week 283 = .ok (.goto (-272), 3) := by decide +kernel
theorem dL_week_286 : decode cL_week 286 = .ok (.aload_n 2, 1) := by decide +kernel
theorem dL_week_287 : decode cL_week 287 = .ok (.iconst 2, 1) := by decide +kernel
theorem dL_week_288 : decode cL_week 288 = .ok (.iaload, 1) := by decide +kernel
theorem dL_week_289 : decode cL_week 289 = .ok (.ifCond .le 55, 3) := by decide +kernel
theorem dL_week_292 : decode cL_week 292 = .ok (.aload 5, 2) := by decide +kernel
theorem dL_week_294 : decode cL_week 294 = .ok (.iconst 0, 1) := by decide +kernel
theorem dL_week_295 : decode cL_week 295 = .ok (.iaload, 1) := by decide +kernel
theorem dL_week_296 : decode cL_week 296 = .ok (.aload_n 2, 1) := by decide +kernel
theorem dL_week_297 : decode cL_week 297 = .ok (.iconst 2, 1) := by decide +kernel
theorem dL_week_298 : decode cL_week 298 = .ok (.iaload, 1) := by decide +kernel
theorem dL_week_299 : decode cL_week 299 = .ok (.irem, 1) := by decide +kernel
theorem dL_week_300 : decode cL_week 300 = .ok (.ifCond .ne 44, 3) := by decide +kernel
theorem dL_week_303 : decode cL_week 303 = .ok (.bipush 8, 2) := by decide +kernel
theorem dL_week_305 : decode cL_week 305 = .ok (.aload_n 3, 1) := by decide +kernel
theorem dL_week_306 : decode cL_week 306 = .ok (.iconst 0, 1) := by decide +kernel
theorem dL_week_307 : decode cL_week 307 = .ok (.iconst 0, 1) := by decide +kernel
theorem dL_week_308 : decode cL_week 308 = .ok (.invokestatic 56, 3) := by decide +kernel
theorem dL_week_311 : decode cL_week 311 = .ok (.istore 7, 2) := by decide +kernel
theorem dL_week_313 : decode cL_week 313 = .ok (.aload_n 3, 1) := by decide +kernel
theorem dL_week_314 : decode cL_week 314 = .ok (.iload 7, 2) := by decide +kernel
theorem dL_week_316 : decode cL_week 316 = .ok (.iaload, 1) := by decide +kernel
theorem dL_week_317 : decode cL_week 317 = .ok (.aload_n 3, 1) := by decide +kernel
theorem dL_week_318 : decode cL_week 318 = .ok (.iload 7, 2) := by decide +kernel
theorem dL_week_320 : decode cL_week 320 = .ok (.iaload, 1) := by decide +kernel
theorem dL_week_321 : decode cL_week 321 = .ok (.iconst 2, 1) := by decide +kernel
theorem dL_week_322 : decode cL_week 322 = .ok (.idiv, 1) := by decide +kernel
theorem dL_week_323 : decode cL_week 323 = .ok (.isub, 1) := by decide +kernel
theorem dL_week_324 : decode cL_week 324 = .ok (.istore 8, 2) := by decide +kernel
theorem dL_week_326 : decode cL_week 326 = .ok (.aload_n 3, 1) := by decide +kernel
theorem dL_week_327 : decode cL_week 327 = .ok (.iload 7, 2) := by decide +kernel
theorem dL_week_329 : decode cL_week 329 = .ok (.dup2, 1) := by decide +kernel
theorem dL_week_330 : decode cL_week 330 = .ok (.iaload, 1) := by decide +kernel
theorem dL_week_331 : decode cL_week 331 = .ok (.iload 8, 2) := by decide +kernel
theorem dL_week_333 : decode cL_week 333 = .ok (.isub, 1) := by decide +kernel
theorem dL_week_334 : decode cL_week 334 = .ok (.iastore, 1) := by decide +kernel
theorem dL_week_335 : decode cL_week 335 = .ok (.aload 5, 2) := by decide +kernel
theorem dL_week_337 : decode cL_week 337 = .ok (.iconst 3, 1) := by decide +kernel
theorem dL_week_338 : decode cL_week 338 = .ok (.dup2, 1) := by decide +kernel
theorem dL_week_339 : decode cL_week 339 = .ok (.iaload, 1) := by decide +kernel
theorem dL_week_340 : decode cL_week 340 = .ok (.iload 8, 2) := by decide +kernel
theorem dL_week_342 : decode cL_week 342 = .ok (.iadd, 1) := by decide +kernel
theorem dL_week_343 : decode cL_week 343 = .ok (.iastore, 1) := by decide +kernel
theorem dL_week_344 : decode cL_week 344 = .ok (.return_, 1) := by decide +kernel
theorem dL_copy_0 : decode cL_copy 0 = .ok (.iconst 0, 1) := by decide +kernel
theorem dL_copy_1 : decode cL_copy 1 = .ok (.istore_n 2, 1) := by decide +kernel
theorem dL_copy_2 : decode cL_copy 2 = .ok (.iload_n 2, 1) := by decide +kernel
theorem dL_copy_3 : decode cL_copy 3 = .ok (.aload_n 0, 1) := by decide +kernel
theorem dL_copy_4 : decode cL_copy 4 = .ok (.arraylength, 1) := by decide +kernel
theorem dL_copy_5 : decode cL_copy 5 = .ok (.if_icmp .ge 15, 3) := by decide +kernel
theorem dL_copy_8 : decode cL_copy 8 = .ok (.aload_n 1, 1) := by decide +kernel
theorem dL_copy_9 : decode cL_copy 9 = .ok (.iload_n 2, 1) := by decide +kernel
theorem dL_copy_10 : decode cL_copy 10 = .ok (.aload_n 0, 1) := by decide +kernel
theorem dL_copy_11 : decode cL_copy 11 = .ok (.iload_n 2, 1) := by decide +kernel
theorem dL_copy_12 : decode cL_copy 12 = .ok (.iaload, 1) := by decide +kernel
theorem dL_copy_13 : decode cL_copy 13 = .ok (.iastore, 1) := by decide +kernel
theorem dL_copy_14 : decode cL_copy 14 = .ok (.iinc 2 1, 3) := by decide +kernel
theorem dL_copy_17 : decode cL_copy 17 = .ok (.goto (-15), 3) := by decide +kernel
theorem dL_copy_20 : decode cL_copy 20 = .ok (.return_, 1) := by decide +kernel
theorem dL_all_0 : decode cL_all 0 = .ok (.aload_n 0, 1) := by decide +kernel
theorem dL_all_1 : decode cL_all 1 = .ok (.iconst 0, 1) := by decide +kernel
theorem dL_all_2 : decode cL_all 2 = .ok (.iaload, 1) := by decide +kernel
theorem dL_all_3 : decode cL_all 3 = .ok (.aload_n 0, 1) := by decide +kernel
theorem dL_all_4 : decode cL_all 4 = .ok (.iconst 1, 1) := by decide +kernel
theorem dL_all_5 : decode cL_all 5 = .ok (.iaload, 1) := by decide +kernel
theorem dL_all_6 : decode cL_all 6 = .ok (.iadd, 1) := by decide +kernel
theorem dL_all_7 : decode cL_all 7 = .ok (.aload_n 0, 1) := by decide +kernel
theorem dL_all_8 : decode cL_all 8 = .ok (.iconst 2, 1) := by decide +kernel
theorem dL_all_9 : decode cL_all 9 = .ok (.iaload, 1) := by decide +kernel
theorem dL_all_10 : decode cL_all 10 = .ok (.iadd, 1) := by decide +kernel
theorem dL_all_11 : decode cL_all 11 = .ok (.aload_n 0, 1) := by decide +kernel
theorem dL_all_12 : decode cL_all 12 = .ok (.iconst 3, 1) := by decide +kernel
theorem dL_all_13 : decode cL_all 13 = .ok (.iaload, 1) := by decide +kernel
theorem dL_all_14 : decode cL_all 14 = .ok (.iadd, 1) := by decide +kernel
theorem dL_all_15 : decode cL_all 15 = .ok (.aload_n 0, 1) := by decide +kernel
theorem dL_all_16 : decode cL_all 16 = .ok (.iconst 4, 1) := by decide +kernel
theorem dL_all_17 : decode cL_all 17 = .ok (.iaload, 1) := by decide +kernel
theorem dL_all_18 : decode cL_all 18 = .ok (.iadd, 1) := by decide +kernel
theorem dL_all_19 : decode cL_all 19 = .ok (.aload_n 0, 1) := by decide +kernel
theorem dL_all_20 : decode cL_all 20 = .ok (.iconst 5, 1) := by decide +kernel
theorem dL_all_21 : decode cL_all 21 = .ok (.iaload, 1) := by decide +kernel
theorem dL_all_22 : decode cL_all 22 = .ok (.iadd, 1) := by decide +kernel
theorem dL_all_23 : decode cL_all 23 = .ok (.aload_n 0, 1) := by decide +kernel
theorem dL_all_24 : decode cL_all 24 = .ok (.bipush 6, 2) := by decide +kernel
theorem dL_all_26 : decode cL_all 26 = .ok (.iaload, 1) := by decide +kernel
theorem dL_all_27 : decode cL_all 27 = .ok (.iadd, 1) := by decide +kernel
theorem dL_all_28 : decode cL_all 28 = .ok (.ireturn, 1) := by decide +kernel
