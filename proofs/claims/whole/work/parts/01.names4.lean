theorem dX9_letters_9 : decode cX9_letters 9 = .ok (.bipush (-102), 2) := by decide +kernel
theorem dX9_letters_11 : decode cX9_letters 11 = .ok (.ireturn, 1) := by decide +kernel
theorem dX9_letters_12 : decode cX9_letters 12 = .ok (.aload_n 0, 1) := by decide +kernel
theorem dX9_letters_13 : decode cX9_letters 13 = .ok (.getfield 12, 3) := by decide +kernel
theorem dX9_letters_16 : decode cX9_letters 16 = .ok (.getfield 56, 3) := by decide +kernel
theorem dX9_letters_19 : decode cX9_letters 19 = .ok (.iload_n 3, 1) := by decide +kernel
theorem dX9_letters_20 : decode cX9_letters 20 = .ok (.iadd, 1) := by decide +kernel
theorem dX9_letters_21 : decode cX9_letters 21 = .ok (.bipush 16, 2) := by decide +kernel
theorem dX9_letters_23 : decode cX9_letters 23 = .ok (.if_icmp .le 6, 3) := by decide +kernel
theorem dX9_letters_26 : decode cX9_letters 26 = .ok (.bipush (-104), 2) := by decide +kernel
theorem dX9_letters_28 : decode cX9_letters 28 = .ok (.ireturn, 1) := by decide +kernel
theorem dX9_letters_29 : decode cX9_letters 29 = .ok (.aload_n 0, 1) := by decide +kernel
theorem dX9_letters_30 : decode cX9_letters 30 = .ok (.getfield 12, 3) := by decide +kernel
theorem dX9_letters_33 : decode cX9_letters 33 = .ok (.lload_n 1, 1) := by decide +kernel
theorem dX9_letters_34 : decode cX9_letters 34 = .ok (.iload_n 3, 1) := by decide +kernel
theorem dX9_letters_35 : decode cX9_letters 35 = .ok (.invokevirtual 60, 3) := by decide +kernel
theorem dX9_letters_38 : decode cX9_letters 38 = .ok (.aload_n 0, 1) := by decide +kernel
theorem dX9_letters_39 : decode cX9_letters 39 = .ok (.getfield 12, 3) := by decide +kernel
theorem dX9_letters_42 : decode cX9_letters 42 = .ok (.getfield 56, 3) := by decide +kernel
theorem dX9_letters_45 : decode cX9_letters 45 = .ok (.ireturn, 1) := by decide +kernel
theorem dX9_blank_0 : decode cX9_blank 0 = .ok (.aload_n 0, 1) := by decide +kernel
theorem dX9_blank_1 : decode cX9_blank 1 = .ok (.getfield 12, 3) := by decide +kernel
theorem dX9_blank_4 : decode cX9_blank 4 = .ok (.getfield 56, 3) := by decide +kernel
theorem dX9_blank_7 : decode cX9_blank 7 = .ok (.istore_n 1, 1) := by decide +kernel
theorem dX9_blank_8 : decode cX9_blank 8 = .ok (.aload_n 0, 1) := by decide +kernel
theorem dX9_blank_9 : decode cX9_blank 9 = .ok (.getfield 12, 3) := by decide +kernel
theorem dX9_blank_12 : decode cX9_blank 12 = .ok (.iconst 0, 1) := by decide +kernel
theorem dX9_blank_13 : decode cX9_blank 13 = .ok (.putfield 56, 3) := by decide +kernel
theorem dX9_blank_16 : decode cX9_blank 16 = .ok (.iload_n 1, 1) := by decide +kernel
theorem dX9_blank_17 : decode cX9_blank 17 = .ok (.ireturn, 1) := by decide +kernel
set_option maxRecDepth 20000 in
theorem ggX9_fault_X4_firstWrong : GoodIn wsX9_fault wsX4_firstWrong := goodIn_r _ [6, 7, 8, 9, 10, 5, 11, 12, 13, 14, 15, 16, 17, 18, 30, 31] (by decide +kernel) (by decide +kernel)
set_option maxRecDepth 20000 in
theorem gX9_fault_X4_firstWrong : GoodIn wsX9_fault (wsV RX9 64 RX4 yX4_firstWrong wsX4_firstWrong) := goodIn_app (goodIn_of _ (by decide +kernel)) ggX9_fault_X4_firstWrong
theorem dX9_fault_0 : decode cX9_fault 0 = .ok (.aload_n 0, 1) := by decide +kernel
theorem dX9_fault_1 : decode cX9_fault 1 = .ok (.getfield 12, 3) := by decide +kernel
theorem dX9_fault_4 : decode cX9_fault 4 = .ok (.invokevirtual 64, 3) := by decide +kernel
theorem dX9_fault_7 : decode cX9_fault 7 = .ok (.ireturn, 1) := by decide +kernel
set_option maxRecDepth 20000 in
theorem ggX9_custom_X4_isCustom : GoodIn wsX9_custom wsX4_isCustom := goodIn_r _ [9, 10, 11, 12, 13, 8, 14, 15, 16, 17, 18, 19, 20, 21, 22, 23, 24, 25, 53, 54] (by decide +kernel) (by decide +kernel)
set_option maxRecDepth 20000 in
theorem gX9_custom_X4_isCustom : GoodIn wsX9_custom (wsV RX9 68 RX4 yX4_isCustom wsX4_isCustom) := goodIn_app (goodIn_of _ (by decide +kernel)) ggX9_custom_X4_isCustom
set_option maxRecDepth 20000 in
theorem ggX9_custom_X4_asCustom : GoodIn wsX9_custom wsX4_asCustom := goodIn_r _ [29, 10, 30, 31, 32, 15, 16, 17, 8, 18, 19, 23, 24, 25, 33, 34, 35, 36, 37, 38, 39, 40, 41, 53, 54, 55, 56, 57] (by decide +kernel) (by decide +kernel)
set_option maxRecDepth 20000 in
theorem gX9_custom_X4_asCustom : GoodIn wsX9_custom (wsV RX9 75 RX4 yX4_asCustom wsX4_asCustom) := goodIn_app (goodIn_of _ (by decide +kernel)) ggX9_custom_X4_asCustom
theorem dX9_custom_0 : decode cX9_custom 0 = .ok (.aload_n 0, 1) := by decide +kernel
theorem dX9_custom_1 : decode cX9_custom 1 = .ok (.getfield 12, 3) := by decide +kernel
theorem dX9_custom_4 : decode cX9_custom 4 = .ok (.invokevirtual 68, 3) := by decide +kernel
theorem dX9_custom_7 : decode cX9_custom 7 = .ok (.ifCond .ne 6, 3) := by decide +kernel
theorem dX9_custom_10 : decode cX9_custom 10 = .ok (.bipush (-103), 2) := by decide +kernel
theorem dX9_custom_12 : decode cX9_custom 12 = .ok (.ireturn, 1) := by decide +kernel
theorem dX9_custom_13 : decode cX9_custom 13 = .ok (.aload_n 0, 1) := by decide +kernel
theorem dX9_custom_14 : decode cX9_custom 14 = .ok (.getfield 72, 3) := by decide +kernel
theorem dX9_custom_17 : decode cX9_custom 17 = .ok (.ifCond .lt 11, 3) := by decide +kernel
theorem dX9_custom_20 : decode cX9_custom 20 = .ok (.aload_n 0, 1) := by decide +kernel
theorem dX9_custom_21 : decode cX9_custom 21 = .ok (.getfield 72, 3) := by decide +kernel
theorem dX9_custom_24 : decode cX9_custom 24 = .ok (.iconst 4, 1) := by decide +kernel
theorem dX9_custom_25 : decode cX9_custom 25 = .ok (.if_icmp .lt 6, 3) := by decide +kernel
theorem dX9_custom_28 : decode cX9_custom 28 = .ok (.bipush (-104), 2) := by decide +kernel
theorem dX9_custom_30 : decode cX9_custom 30 = .ok (.ireturn, 1) := by decide +kernel
theorem dX9_custom_31 : decode cX9_custom 31 = .ok (.aload_n 0, 1) := by decide +kernel
theorem dX9_custom_32 : decode cX9_custom 32 = .ok (.getfield 18, 3) := by decide +kernel
theorem dX9_custom_35 : decode cX9_custom 35 = .ok (.aload_n 0, 1) := by decide +kernel
theorem dX9_custom_36 : decode cX9_custom 36 = .ok (.getfield 72, 3) := by decide +kernel
theorem dX9_custom_39 : decode cX9_custom 39 = .ok (.aload_n 0, 1) := by decide +kernel
theorem dX9_custom_40 : decode cX9_custom 40 = .ok (.getfield 12, 3) := by decide +kernel
theorem dX9_custom_43 : decode cX9_custom 43 = .ok (.invokevirtual 75, 3) := by decide +kernel
theorem dX9_custom_46 : decode cX9_custom 46 = .ok (.aastore, 1) := by decide +kernel
theorem dX9_custom_47 : decode cX9_custom 47 = .ok (.aload_n 0, 1) := by decide +kernel
theorem dX9_custom_48 : decode cX9_custom 48 = .ok (.getfield 12, 3) := by decide +kernel
theorem dX9_custom_51 : decode cX9_custom 51 = .ok (.iconst 0, 1) := by decide +kernel
theorem dX9_custom_52 : decode cX9_custom 52 = .ok (.putfield 56, 3) := by decide +kernel
theorem dX9_custom_55 : decode cX9_custom 55 = .ok (.aload_n 0, 1) := by decide +kernel
theorem dX9_custom_56 : decode cX9_custom 56 = .ok (.dup, 1) := by decide +kernel
theorem dX9_custom_57 : decode cX9_custom 57 = .ok (.getfield 72, 3) := by decide +kernel
theorem dX9_custom_60 : decode cX9_custom 60 = .ok (.iconst 1, 1) := by decide +kernel
theorem dX9_custom_61 : decode cX9_custom 61 = .ok (.iadd, 1) := by decide +kernel
theorem dX9_custom_62 : decode cX9_custom 62 = .ok (.putfield 72, 3) := by decide +kernel
theorem dX9_custom_65 : decode cX9_custom 65 = .ok (.aload_n 0, 1) := by decide +kernel
theorem dX9_custom_66 : decode cX9_custom 66 = .ok (.getfield 72, 3) := by decide +kernel
theorem dX9_custom_69 : decode cX9_custom 69 = .ok (.iconst 1, 1) := by decide +kernel
theorem dX9_custom_70 : decode cX9_custom 70 = .ok (.isub, 1) := by decide +kernel
theorem dX9_custom_71 : decode cX9_custom 71 = .ok (.ireturn, 1) := by decide +kernel
set_option maxRecDepth 20000 in
theorem ggX9_customTold_X9_customAt : GoodIn wsX9_customTold wsX9_customAt := goodIn_r _ [5, 6, 15, 16, 17, 18, 19, 20, 21, 22, 23, 24, 25] (by decide +kernel) (by decide +kernel)
set_option maxRecDepth 20000 in
theorem gX9_customTold_X9_customAt : GoodIn wsX9_customTold (wsV RX9 79 RX9 yX9_customAt wsX9_customAt) := goodIn_app (goodIn_of _ (by decide +kernel)) ggX9_customTold_X9_customAt
set_option maxRecDepth 20000 in
theorem ggX9_customTold_X1_told : GoodIn wsX9_customTold wsX1_told := goodIn_r _ [11, 12, 13, 14, 26, 27, 28] (by decide +kernel) (by decide +kernel)
set_option maxRecDepth 20000 in
theorem gX9_customTold_X1_told : GoodIn wsX9_customTold (wsV RX9 83 RX1 yX1_told wsX1_told) := goodIn_app (goodIn_of _ (by decide +kernel)) ggX9_customTold_X1_told
theorem dX9_customTold_0 : decode cX9_customTold 0 = .ok (.aload_n 0, 1) := by decide +kernel
theorem dX9_customTold_1 : decode cX9_customTold 1 = .ok (.iload_n 1, 1) := by decide +kernel
theorem dX9_customTold_2 : decode cX9_customTold 2 = .ok (.invokevirtual 79, 3) := by decide +kernel
theorem dX9_customTold_5 : decode cX9_customTold 5 = .ok (.astore_n 3, 1) := by decide +kernel
theorem dX9_customTold_6 : decode cX9_customTold 6 = .ok (.aload_n 3, 1) := by decide +kernel
theorem dX9_customTold_7 : decode cX9_customTold 7 = .ok (.ifnonnull 6, 3) := by decide +kernel
theorem dX9_customTold_10 : decode cX9_customTold 10 = .ok (.bipush (-101), 2) := by decide +kernel
theorem dX9_customTold_12 : decode cX9_customTold 12 = .ok (.ireturn, 1) := by decide +kernel
theorem dX9_customTold_13 : decode cX9_customTold 13 = .ok (.iload_n 2, 1) := by decide +kernel
theorem dX9_customTold_14 : decode cX9_customTold 14 = .ok (.ifCond .lt 8, 3) := by decide +kernel
theorem dX9_customTold_17 : decode cX9_customTold 17 = .ok (.iload_n 2, 1) := by decide +kernel
theorem dX9_customTold_18 : decode cX9_customTold 18 = .ok (.iconst 2, 1) := by decide +kernel
theorem dX9_customTold_19 : decode cX9_customTold 19 = .ok (.if_icmp .le 6, 3) := by decide +kernel
theorem dX9_customTold_22 : decode cX9_customTold 22 = .ok (.bipush (-102), 2) := by decide +kernel
theorem dX9_customTold_24 : decode cX9_customTold 24 = .ok (.ireturn, 1) := by decide +kernel
theorem dX9_customTold_25 : decode cX9_customTold 25 = .ok (.aload_n 3, 1) := by decide +kernel
theorem dX9_customTold_26 : decode cX9_customTold 26 = .ok (.iload_n 2, 1) := by decide +kernel
theorem dX9_customTold_27 : decode cX9_customTold 27 = .ok (.invokevirtual 83, 3) := by decide +kernel
theorem dX9_customTold_30 : decode cX9_customTold 30 = .ok (.ireturn, 1) := by decide +kernel
set_option maxRecDepth 20000 in
theorem ggX9_parish_X9_isKindWith : GoodIn wsX9_parish wsX9_isKindWith := goodIn_r _ [9, 10, 11, 8, 12] (by decide +kernel) (by decide +kernel)
set_option maxRecDepth 20000 in
theorem gX9_parish_X9_isKindWith : GoodIn wsX9_parish (va_wsS RX9 87 yX9_isKindWith wsX9_isKindWith) := goodIn_app (goodIn_of _ (by decide +kernel)) ggX9_parish_X9_isKindWith
set_option maxRecDepth 20000 in
theorem ggX9_parish_X9_mayBe : GoodIn wsX9_parish wsX9_mayBe := goodIn_r _ [15] (by decide +kernel) (by decide +kernel)
set_option maxRecDepth 20000 in
theorem gX9_parish_X9_mayBe : GoodIn wsX9_parish (va_wsS RX9 91 yX9_mayBe wsX9_mayBe) := goodIn_app (goodIn_of _ (by decide +kernel)) ggX9_parish_X9_mayBe
set_option maxRecDepth 20000 in
theorem ggX9_parish_X9_madeOf : GoodIn wsX9_parish wsX9_madeOf := goodIn_r _ [18, 19, 20, 21, 22, 23, 24, 25, 26, 27, 28, 29, 30, 31, 32, 33, 34, 35, 36, 37, 38, 39, 40, 41, 42, 43, 44, 45, 46, 47, 48, 49, 69, 70, 71, 72, 73, 74, 75, 76, 61, 62, 63, 64, 65, 66, 67, 68] (by decide +kernel) (by decide +kernel)
set_option maxRecDepth 20000 in
theorem gX9_parish_X9_madeOf : GoodIn wsX9_parish (va_wsS RX9 97 yX9_madeOf wsX9_madeOf) := goodIn_app (goodIn_of _ (by decide +kernel)) ggX9_parish_X9_madeOf
theorem dX9_parish_0 : decode cX9_parish 0 = .ok (.iload_n 1, 1) := by decide +kernel
theorem dX9_parish_1 : decode cX9_parish 1 = .ok (.iload_n 2, 1) := by decide +kernel
theorem dX9_parish_2 : decode cX9_parish 2 = .ok (.invokestatic 87, 3) := by decide +kernel
theorem dX9_parish_5 : decode cX9_parish 5 = .ok (.ifCond .ne 6, 3) := by decide +kernel
theorem dX9_parish_8 : decode cX9_parish 8 = .ok (.bipush (-102), 2) := by decide +kernel
theorem dX9_parish_10 : decode cX9_parish 10 = .ok (.ireturn, 1) := by decide +kernel
theorem dX9_parish_11 : decode cX9_parish 11 = .ok (.iconst 2, 1) := by decide +kernel
theorem dX9_parish_12 : decode cX9_parish 12 = .ok (.iload_n 3, 1) := by decide +kernel
theorem dX9_parish_13 : decode cX9_parish 13 = .ok (.invokestatic 91, 3) := by decide +kernel
theorem dX9_parish_16 : decode cX9_parish 16 = .ok (.ifCond .eq 21, 3) := by decide +kernel
theorem dX9_parish_19 : decode cX9_parish 19 = .ok (.iconst 3, 1) := by decide +kernel
theorem dX9_parish_20 : decode cX9_parish 20 = .ok (.iload 4, 2) := by decide +kernel
theorem dX9_parish_22 : decode cX9_parish 22 = .ok (.invokestatic 91, 3) := by decide +kernel
theorem dX9_parish_25 : decode cX9_parish 25 = .ok (.ifCond .eq 12, 3) := by decide +kernel
theorem dX9_parish_28 : decode cX9_parish 28 = .ok (.iconst 4, 1) := by decide +kernel
theorem dX9_parish_29 : decode cX9_parish 29 = .ok (.iload 5, 2) := by decide +kernel
theorem dX9_parish_31 : decode cX9_parish 31 = .ok (.invokestatic 91, 3) := by decide +kernel
theorem dX9_parish_34 : decode cX9_parish 34 = .ok (.ifCond .ne 6, 3) := by decide +kernel
theorem dX9_parish_37 : decode cX9_parish 37 = .ok (.bipush (-102), 2) := by decide +kernel
theorem dX9_parish_39 : decode cX9_parish 39 = .ok (.ireturn, 1) := by decide +kernel
theorem dX9_parish_40 : decode cX9_parish 40 = .ok (.aload_n 0, 1) := by decide +kernel
theorem dX9_parish_41 : decode cX9_parish 41 = .ok (.getfield 94, 3) := by decide +kernel
theorem dX9_parish_44 : decode cX9_parish 44 = .ok (.ifCond .lt 12, 3) := by decide +kernel
theorem dX9_parish_47 : decode cX9_parish 47 = .ok (.aload_n 0, 1) := by decide +kernel
theorem dX9_parish_48 : decode cX9_parish 48 = .ok (.getfield 94, 3) := by decide +kernel
theorem dX9_parish_51 : decode cX9_parish 51 = .ok (.bipush 6, 2) := by decide +kernel
theorem dX9_parish_53 : decode cX9_parish 53 = .ok (.if_icmp .lt 6, 3) := by decide +kernel
theorem dX9_parish_56 : decode cX9_parish 56 = .ok (.bipush (-104), 2) := by decide +kernel
theorem dX9_parish_58 : decode cX9_parish 58 = .ok (.ireturn, 1) := by decide +kernel
theorem dX9_parish_59 : decode cX9_parish 59 = .ok (.iload_n 1, 1) := by decide +kernel
theorem dX9_parish_60 : decode cX9_parish 60 = .ok (.iload_n 2, 1) := by decide +kernel
theorem dX9_parish_61 : decode cX9_parish 61 = .ok (.invokestatic 97, 3) := by decide +kernel
theorem dX9_parish_64 : decode cX9_parish 64 = .ok (.astore 6, 2) := by decide +kernel
theorem dX9_parish_66 : decode cX9_parish 66 = .ok (.aload 6, 2) := by decide +kernel
theorem dX9_parish_68 : decode cX9_parish 68 = .ok (.iload_n 3, 1) := by decide +kernel
theorem dX9_parish_69 : decode cX9_parish 69 = .ok (.putfield 101, 3) := by decide +kernel
theorem dX9_parish_72 : decode cX9_parish 72 = .ok (.aload 6, 2) := by decide +kernel
theorem dX9_parish_74 : decode cX9_parish 74 = .ok (.iload 4, 2) := by decide +kernel
theorem dX9_parish_76 : decode cX9_parish 76 = .ok (.putfield 104, 3) := by decide +kernel
theorem dX9_parish_79 : decode cX9_parish 79 = .ok (.aload 6, 2) := by decide +kernel
theorem dX9_parish_81 : decode cX9_parish 81 = .ok (.iload 5, 2) := by decide +kernel
theorem dX9_parish_83 : decode cX9_parish 83 = .ok (.putfield 107, 3) := by decide +kernel
theorem dX9_parish_86 : decode cX9_parish 86 = .ok (.aload_n 0, 1) := by decide +kernel
theorem dX9_parish_87 : decode cX9_parish 87 = .ok (.getfield 24, 3) := by decide +kernel
theorem dX9_parish_90 : decode cX9_parish 90 = .ok (.aload_n 0, 1) := by decide +kernel
theorem dX9_parish_91 : decode cX9_parish 91 = .ok (.getfield 94, 3) := by decide +kernel
theorem dX9_parish_94 : decode cX9_parish 94 = .ok (.aload 6, 2) := by decide +kernel
theorem dX9_parish_96 : decode cX9_parish 96 = .ok (.aastore, 1) := by decide +kernel
theorem dX9_parish_97 : decode cX9_parish 97 = .ok (.aload_n 0, 1) := by decide +kernel
theorem dX9_parish_98 : decode cX9_parish 98 = .ok (.dup, 1) := by decide +kernel
theorem dX9_parish_99 : decode cX9_parish 99 = .ok (.getfield 94, 3) := by decide +kernel
theorem dX9_parish_102 : decode cX9_parish 102 = .ok (.iconst 1, 1) := by decide +kernel
theorem dX9_parish_103 : decode cX9_parish 103 = .ok (.iadd, 1) := by decide +kernel
theorem dX9_parish_104 : decode cX9_parish 104 = .ok (.putfield 94, 3) := by decide +kernel
theorem dX9_parish_107 : decode cX9_parish 107 = .ok (.aload_n 0, 1) := by decide +kernel
theorem dX9_parish_108 : decode cX9_parish 108 = .ok (.getfield 94, 3) := by decide +kernel
theorem dX9_parish_111 : decode cX9_parish 111 = .ok (.iconst 1, 1) := by decide +kernel
theorem dX9_parish_112 : decode cX9_parish 112 = .ok (.isub, 1) := by decide +kernel
theorem dX9_parish_113 : decode cX9_parish 113 = .ok (.ireturn, 1) := by decide +kernel
set_option maxRecDepth 20000 in
theorem ggX9_as_X9_parishAt : GoodIn wsX9_as wsX9_parishAt := goodIn_r _ [5, 6, 13, 14, 15, 16, 17, 18, 19, 20, 21, 22, 23] (by decide +kernel) (by decide +kernel)
set_option maxRecDepth 20000 in
theorem gX9_as_X9_parishAt : GoodIn wsX9_as (wsV RX9 110 RX9 yX9_parishAt wsX9_parishAt) := goodIn_app (goodIn_of _ (by decide +kernel)) ggX9_as_X9_parishAt
set_option maxRecDepth 20000 in
theorem ggX9_as_X9_isOf : GoodIn wsX9_as wsX9_isOf := goodIn_r _ [9, 10, 11, 12] (by decide +kernel) (by decide +kernel)
set_option maxRecDepth 20000 in
theorem gX9_as_X9_isOf : GoodIn wsX9_as (va_wsS RX9 114 yX9_isOf wsX9_isOf) := goodIn_app (goodIn_of _ (by decide +kernel)) ggX9_as_X9_isOf
theorem dX9_as_0 : decode cX9_as 0 = .ok (.aload_n 0, 1) := by decide +kernel
theorem dX9_as_1 : decode cX9_as 1 = .ok (.iload_n 1, 1) := by decide +kernel
theorem dX9_as_2 : decode cX9_as 2 = .ok (.invokevirtual 110, 3) := by decide +kernel
theorem dX9_as_5 : decode cX9_as 5 = .ok (.astore_n 3, 1) := by decide +kernel
theorem dX9_as_6 : decode cX9_as 6 = .ok (.aload_n 3, 1) := by decide +kernel
theorem dX9_as_7 : decode cX9_as 7 = .ok (.ifnonnull 6, 3) := by decide +kernel
theorem dX9_as_10 : decode cX9_as 10 = .ok (.bipush (-101), 2) := by decide +kernel
theorem dX9_as_12 : decode cX9_as 12 = .ok (.ireturn, 1) := by decide +kernel
theorem dX9_as_13 : decode cX9_as 13 = .ok (.iload_n 2, 1) := by decide +kernel
theorem dX9_as_14 : decode cX9_as 14 = .ok (.ifCond .lt 8, 3) := by decide +kernel
theorem dX9_as_17 : decode cX9_as 17 = .ok (.iload_n 2, 1) := by decide +kernel
theorem dX9_as_18 : decode cX9_as 18 = .ok (.iconst 4, 1) := by decide +kernel
theorem dX9_as_19 : decode cX9_as 19 = .ok (.if_icmp .lt 6, 3) := by decide +kernel
theorem dX9_as_22 : decode cX9_as 22 = .ok (.bipush (-102), 2) := by decide +kernel
theorem dX9_as_24 : decode cX9_as 24 = .ok (.ireturn, 1) := by decide +kernel
theorem dX9_as_25 : decode cX9_as 25 = .ok (.aload_n 3, 1) := by decide +kernel
theorem dX9_as_26 : decode cX9_as 26 = .ok (.iload_n 2, 1) := by decide +kernel
theorem dX9_as_27 : decode cX9_as 27 = .ok (.invokestatic 114, 3) := by decide +kernel
theorem dX9_as_30 : decode cX9_as 30 = .ok (.ifCond .eq 7, 3) := by decide +kernel
theorem dX9_as_33 : decode cX9_as 33 = .ok (.iload_n 1, 1) := by decide +kernel
theorem dX9_as_34 : decode cX9_as 34 = .ok (.goto 4, 3) := by decide +kernel
theorem dX9_as_37 : decode cX9_as 37 = .ok (.iconst (-1), 1) := by decide +kernel
theorem dX9_as_38 : decode cX9_as 38 = .ok (.ireturn, 1) := by decide +kernel
set_option maxRecDepth 20000 in
theorem ggX9_about_X9_parishAt : GoodIn wsX9_about wsX9_parishAt := goodIn_r _ [5, 6, 54, 55, 56, 57, 58, 59, 60, 61, 62, 63, 64] (by decide +kernel) (by decide +kernel)
set_option maxRecDepth 20000 in
theorem gX9_about_X9_parishAt : GoodIn wsX9_about (wsV RX9 110 RX9 yX9_parishAt wsX9_parishAt) := goodIn_app (goodIn_of _ (by decide +kernel)) ggX9_about_X9_parishAt
set_option maxRecDepth 20000 in
theorem ggX9_about_X5_told : GoodIn wsX9_about wsX5_told := goodIn_r _ [12, 13, 14, 15, 16, 17, 18, 19, 20, 21, 22, 23, 24, 25, 26, 27, 11, 28, 29, 30, 31, 32, 33, 34, 35, 36, 37, 38, 39, 40, 41, 42, 43, 44, 45, 46, 47, 48, 49, 65, 66, 67, 68, 69, 70, 71, 72, 73, 74, 75, 76, 77, 78, 79, 80] (by decide +kernel) (by decide +kernel)
set_option maxRecDepth 20000 in
theorem gX9_about_X5_told_u118X0 : GoodIn wsX9_about (va_wsU RX9 118 RX0 "KneelingStones$Parish" ⟨"KneelingStones$Parish", "told", "(I)I"⟩ yX5_told wsX5_told) := goodIn_app (goodIn_of _ (by decide +kernel)) ggX9_about_X5_told
set_option maxRecDepth 20000 in
theorem gX9_about_X5_told : GoodIn wsX9_about (wsV RX9 118 RX5 yX5_told wsX5_told) := goodIn_app (goodIn_of _ (by decide +kernel)) ggX9_about_X5_told
set_option maxRecDepth 20000 in
theorem gX9_about_X5_told_u118X6 : GoodIn wsX9_about (va_wsU RX9 118 RX6 "KneelingStones$Parish" ⟨"KneelingStones$Parish", "told", "(I)I"⟩ yX5_told wsX5_told) := goodIn_app (goodIn_of _ (by decide +kernel)) ggX9_about_X5_told
set_option maxRecDepth 20000 in
theorem gX9_about_X5_told_u118X7 : GoodIn wsX9_about (va_wsU RX9 118 RX7 "KneelingStones$Parish" ⟨"KneelingStones$Parish", "told", "(I)I"⟩ yX5_told wsX5_told) := goodIn_app (goodIn_of _ (by decide +kernel)) ggX9_about_X5_told
theorem dX9_about_0 : decode cX9_about 0 = .ok (.aload_n 0, 1) := by decide +kernel
theorem dX9_about_1 : decode cX9_about 1 = .ok (.iload_n 1, 1) := by decide +kernel
theorem dX9_about_2 : decode cX9_about 2 = .ok (.invokevirtual 110, 3) := by decide +kernel
theorem dX9_about_5 : decode cX9_about 5 = .ok (.astore_n 3, 1) := by decide +kernel
theorem dX9_about_6 : decode cX9_about 6 = .ok (.aload_n 3, 1) := by decide +kernel
theorem dX9_about_7 : decode cX9_about 7 = .ok (.ifnonnull 6, 3) := by decide +kernel
theorem dX9_about_10 : decode cX9_about 10 = .ok (.bipush (-101), 2) := by decide +kernel
theorem dX9_about_12 : decode cX9_about 12 = .ok (.ireturn, 1) := by decide +kernel
theorem dX9_about_13 : decode cX9_about 13 = .ok (.iload_n 2, 1) := by decide +kernel
theorem dX9_about_14 : decode cX9_about 14 = .ok (.ifCond .lt 8, 3) := by decide +kernel
theorem dX9_about_17 : decode cX9_about 17 = .ok (.iload_n 2, 1) := by decide +kernel
theorem dX9_about_18 : decode cX9_about 18 = .ok (.iconst 5, 1) := by decide +kernel
theorem dX9_about_19 : decode cX9_about 19 = .ok (.if_icmp .le 6, 3) := by decide +kernel
theorem dX9_about_22 : decode cX9_about 22 = .ok (.bipush (-102), 2) := by decide +kernel
theorem dX9_about_24 : decode cX9_about 24 = .ok (.ireturn, 1) := by decide +kernel
theorem dX9_about_25 : decode cX9_about 25 = .ok (.aload_n 3, 1) := by decide +kernel
theorem dX9_about_26 : decode cX9_about 26 = .ok (.iload_n 2, 1) := by decide +kernel
theorem dX9_about_27 : decode cX9_about 27 = .ok (.invokevirtual 118, 3) := by decide +kernel
theorem dX9_about_30 : decode cX9_about 30 = .ok (.ireturn, 1) := by decide +kernel
set_option maxRecDepth 20000 in
theorem ggX9_change_X9_parishAt : GoodIn wsX9_change wsX9_parishAt := goodIn_r _ [8, 9, 76, 77, 78, 79, 80, 81, 82, 83, 84, 85, 86] (by decide +kernel) (by decide +kernel)
set_option maxRecDepth 20000 in
theorem gX9_change_X9_parishAt : GoodIn wsX9_change (wsV RX9 110 RX9 yX9_parishAt wsX9_parishAt) := goodIn_app (goodIn_of _ (by decide +kernel)) ggX9_change_X9_parishAt
set_option maxRecDepth 20000 in
theorem ggX9_change_X9_mayBe : GoodIn wsX9_change wsX9_mayBe := goodIn_r _ [12] (by decide +kernel) (by decide +kernel)
set_option maxRecDepth 20000 in
theorem gX9_change_X9_mayBe : GoodIn wsX9_change (va_wsS RX9 91 yX9_mayBe wsX9_mayBe) := goodIn_app (goodIn_of _ (by decide +kernel)) ggX9_change_X9_mayBe
set_option maxRecDepth 20000 in
theorem ggX9_change_X5_told : GoodIn wsX9_change wsX5_told := goodIn_r _ [18, 19, 20, 21, 22, 23, 24, 25, 26, 27, 28, 29, 30, 31, 32, 33, 17, 34, 35, 36, 37, 38, 39, 40, 41, 42, 43, 44, 45, 46, 47, 48, 49, 50, 51, 52, 53, 54, 55, 60, 61, 62, 63, 64, 65, 66, 67, 68, 69, 70, 71, 72, 73, 74, 75] (by decide +kernel) (by decide +kernel)
set_option maxRecDepth 20000 in
theorem gX9_change_X5_told_u118X0 : GoodIn wsX9_change (va_wsU RX9 118 RX0 "KneelingStones$Parish" ⟨"KneelingStones$Parish", "told", "(I)I"⟩ yX5_told wsX5_told) := goodIn_app (goodIn_of _ (by decide +kernel)) ggX9_change_X5_told
set_option maxRecDepth 20000 in
theorem gX9_change_X5_told : GoodIn wsX9_change (wsV RX9 118 RX5 yX5_told wsX5_told) := goodIn_app (goodIn_of _ (by decide +kernel)) ggX9_change_X5_told
set_option maxRecDepth 20000 in
theorem gX9_change_X5_told_u118X6 : GoodIn wsX9_change (va_wsU RX9 118 RX6 "KneelingStones$Parish" ⟨"KneelingStones$Parish", "told", "(I)I"⟩ yX5_told wsX5_told) := goodIn_app (goodIn_of _ (by decide +kernel)) ggX9_change_X5_told
set_option maxRecDepth 20000 in
theorem gX9_change_X5_told_u118X7 : GoodIn wsX9_change (va_wsU RX9 118 RX7 "KneelingStones$Parish" ⟨"KneelingStones$Parish", "told", "(I)I"⟩ yX5_told wsX5_told) := goodIn_app (goodIn_of _ (by decide +kernel)) ggX9_change_X5_told
theorem dX9_change_0 : decode cX9_change 0 = .ok (.aload_n 0, 1) := by decide +kernel
theorem dX9_change_1 : decode cX9_change 1 = .ok (.iload_n 1, 1) := by decide +kernel
theorem dX9_change_2 : decode cX9_change 2 = .ok (.invokevirtual 110, 3) := by decide +kernel
theorem dX9_change_5 : decode cX9_change 5 = .ok (.astore 4, 2) := by decide +kernel
theorem dX9_change_7 : decode cX9_change 7 = .ok (.aload 4, 2) := by decide +kernel
theorem dX9_change_9 : decode cX9_change 9 = .ok (.ifnonnull 6, 3) := by decide +kernel
theorem dX9_change_12 : decode cX9_change 12 = .ok (.bipush (-101), 2) := by decide +kernel
theorem dX9_change_14 : decode cX9_change 14 = .ok (.ireturn, 1) := by decide +kernel
theorem dX9_change_15 : decode cX9_change 15 = .ok (.iload_n 2, 1) := by decide +kernel
theorem dX9_change_16 : decode cX9_change 16 = .ok (.iload_n 3, 1) := by decide +kernel
theorem dX9_change_17 : decode cX9_change 17 = .ok (.invokestatic 91, 3) := by decide +kernel
theorem dX9_change_20 : decode cX9_change 20 = .ok (.ifCond .ne 6, 3) := by decide +kernel
theorem dX9_change_23 : decode cX9_change 23 = .ok (.bipush (-102), 2) := by decide +kernel
theorem dX9_change_25 : decode cX9_change 25 = .ok (.ireturn, 1) := by decide +kernel
theorem dX9_change_26 : decode cX9_change 26 = .ok (.aload 4, 2) := by decide +kernel
theorem dX9_change_28 : decode cX9_change 28 = .ok (.iload_n 2, 1) := by decide +kernel
theorem dX9_change_29 : decode cX9_change 29 = .ok (.invokevirtual 118, 3) := by decide +kernel
theorem dX9_change_32 : decode cX9_change 32 = .ok (.istore 5, 2) := by decide +kernel
theorem dX9_change_34 : decode cX9_change 34 = .ok (.iload_n 2, 1) := by decide +kernel
theorem dX9_change_35 : decode cX9_change 35 = .ok (.iconst 2, 1) := by decide +kernel
theorem dX9_change_36 : decode cX9_change 36 = .ok (.if_icmp .ne 12, 3) := by decide +kernel
theorem dX9_change_39 : decode cX9_change 39 = .ok (.aload 4, 2) := by decide +kernel
theorem dX9_change_41 : decode cX9_change 41 = .ok (.iload_n 3, 1) := by decide +kernel
theorem dX9_change_42 : decode cX9_change 42 = .ok (.putfield 101, 3) := by decide +kernel
theorem dX9_change_45 : decode cX9_change 45 = .ok (.goto 23, 3) := by decide +kernel
theorem dX9_change_48 : decode cX9_change 48 = .ok (.iload_n 2, 1) := by decide +kernel
theorem dX9_change_49 : decode cX9_change 49 = .ok (.iconst 3, 1) := by decide +kernel
theorem dX9_change_50 : decode cX9_change 50 = .ok (.if_icmp .ne 12, 3) := by decide +kernel
theorem dX9_change_53 : decode cX9_change 53 = .ok (.aload 4, 2) := by decide +kernel
theorem dX9_change_55 : decode cX9_change 55 = .ok (.iload_n 3, 1) := by decide +kernel
theorem dX9_change_56 : decode cX9_change 56 = .ok (.putfield 104, 3) := by decide +kernel
theorem dX9_change_59 : decode cX9_change 59 = .ok (.goto 9, 3) := by decide +kernel
theorem dX9_change_62 : decode cX9_change 62 = .ok (.aload 4, 2) := by decide +kernel
theorem dX9_change_64 : decode cX9_change 64 = .ok (.iload_n 3, 1) := by decide +kernel
theorem dX9_change_65 : decode cX9_change 65 = .ok (.putfield 107, 3) := by decide +kernel
theorem dX9_change_68 : decode cX9_change 68 = .ok (.iload 5, 2) := by decide +kernel
theorem dX9_change_70 : decode cX9_change 70 = .ok (.ireturn, 1) := by decide +kernel
set_option maxRecDepth 20000 in
theorem ggX9_lay_X9_isCairn : GoodIn wsX9_lay wsX9_isCairn := goodIn_r _ [6] (by decide +kernel) (by decide +kernel)
set_option maxRecDepth 20000 in
theorem gX9_lay_X9_isCairn : GoodIn wsX9_lay (va_wsS RX9 119 yX9_isCairn wsX9_isCairn) := goodIn_app (goodIn_of _ (by decide +kernel)) ggX9_lay_X9_isCairn
set_option maxRecDepth 20000 in
theorem ggX9_lay_X2_layNew : GoodIn wsX9_lay wsX2_layNew := goodIn_r _ [11, 12, 13, 14, 15, 16, 10, 17, 18, 19, 20, 4, 5, 6, 32, 33, 34, 35, 36, 37, 38, 39] (by decide +kernel) (by decide +kernel)
set_option maxRecDepth 20000 in
theorem gX9_lay_X2_layNew : GoodIn wsX9_lay (wsV RX9 123 RX2 yX2_layNew wsX2_layNew) := goodIn_app (goodIn_of _ (by decide +kernel)) ggX9_lay_X2_layNew
theorem dX9_lay_0 : decode cX9_lay 0 = .ok (.iload_n 1, 1) := by decide +kernel
theorem dX9_lay_1 : decode cX9_lay 1 = .ok (.invokestatic 119, 3) := by decide +kernel
theorem dX9_lay_4 : decode cX9_lay 4 = .ok (.ifCond .ne 6, 3) := by decide +kernel
theorem dX9_lay_7 : decode cX9_lay 7 = .ok (.bipush (-101), 2) := by decide +kernel
theorem dX9_lay_9 : decode cX9_lay 9 = .ok (.ireturn, 1) := by decide +kernel
theorem dX9_lay_10 : decode cX9_lay 10 = .ok (.iload_n 2, 1) := by decide +kernel
theorem dX9_lay_11 : decode cX9_lay 11 = .ok (.iconst 1, 1) := by decide +kernel
theorem dX9_lay_12 : decode cX9_lay 12 = .ok (.if_icmp .lt 9, 3) := by decide +kernel
theorem dX9_lay_15 : decode cX9_lay 15 = .ok (.iload_n 2, 1) := by decide +kernel
theorem dX9_lay_16 : decode cX9_lay 16 = .ok (.bipush 60, 2) := by decide +kernel
theorem dX9_lay_18 : decode cX9_lay 18 = .ok (.if_icmp .le 6, 3) := by decide +kernel
theorem dX9_lay_21 : decode cX9_lay 21 = .ok (.bipush (-102), 2) := by decide +kernel
theorem dX9_lay_23 : decode cX9_lay 23 = .ok (.ireturn, 1) := by decide +kernel
theorem dX9_lay_24 : decode cX9_lay 24 = .ok (.aload_n 0, 1) := by decide +kernel
theorem dX9_lay_25 : decode cX9_lay 25 = .ok (.getfield 31, 3) := by decide +kernel
theorem dX9_lay_28 : decode cX9_lay 28 = .ok (.iload_n 1, 1) := by decide +kernel
theorem dX9_lay_29 : decode cX9_lay 29 = .ok (.iload_n 2, 1) := by decide +kernel
theorem dX9_lay_30 : decode cX9_lay 30 = .ok (.invokevirtual 123, 3) := by decide +kernel
theorem dX9_lay_33 : decode cX9_lay 33 = .ok (.aload_n 0, 1) := by decide +kernel
theorem dX9_lay_34 : decode cX9_lay 34 = .ok (.getfield 31, 3) := by decide +kernel
theorem dX9_lay_37 : decode cX9_lay 37 = .ok (.getfield 127, 3) := by decide +kernel
theorem dX9_lay_40 : decode cX9_lay 40 = .ok (.iload_n 1, 1) := by decide +kernel
theorem dX9_lay_41 : decode cX9_lay 41 = .ok (.iaload, 1) := by decide +kernel
theorem dX9_lay_42 : decode cX9_lay 42 = .ok (.ireturn, 1) := by decide +kernel
set_option maxRecDepth 20000 in
theorem ggX9_take_X9_isCairn : GoodIn wsX9_take wsX9_isCairn := goodIn_r _ [6] (by decide +kernel) (by decide +kernel)
set_option maxRecDepth 20000 in
theorem gX9_take_X9_isCairn : GoodIn wsX9_take (va_wsS RX9 119 yX9_isCairn wsX9_isCairn) := goodIn_app (goodIn_of _ (by decide +kernel)) ggX9_take_X9_isCairn
set_option maxRecDepth 20000 in
theorem ggX9_take_X2_takeOff : GoodIn wsX9_take wsX2_takeOff := goodIn_r _ [11, 12, 13, 14, 15, 16, 17, 4, 5, 6, 29, 30, 31, 32, 33, 34, 35, 36] (by decide +kernel) (by decide +kernel)
set_option maxRecDepth 20000 in
theorem gX9_take_X2_takeOff : GoodIn wsX9_take (wsV RX9 130 RX2 yX2_takeOff wsX2_takeOff) := goodIn_app (goodIn_of _ (by decide +kernel)) ggX9_take_X2_takeOff
theorem dX9_take_0 : decode cX9_take 0 = .ok (.iload_n 1, 1) := by decide +kernel
theorem dX9_take_1 : decode cX9_take 1 = .ok (.invokestatic 119, 3) := by decide +kernel
theorem dX9_take_4 : decode cX9_take 4 = .ok (.ifCond .ne 6, 3) := by decide +kernel
theorem dX9_take_7 : decode cX9_take 7 = .ok (.bipush (-101), 2) := by decide +kernel
theorem dX9_take_9 : decode cX9_take 9 = .ok (.ireturn, 1) := by decide +kernel
theorem dX9_take_10 : decode cX9_take 10 = .ok (.iload_n 2, 1) := by decide +kernel
theorem dX9_take_11 : decode cX9_take 11 = .ok (.iconst 1, 1) := by decide +kernel
theorem dX9_take_12 : decode cX9_take 12 = .ok (.if_icmp .lt 9, 3) := by decide +kernel
theorem dX9_take_15 : decode cX9_take 15 = .ok (.iload_n 2, 1) := by decide +kernel
theorem dX9_take_16 : decode cX9_take 16 = .ok (.bipush 60, 2) := by decide +kernel
theorem dX9_take_18 : decode cX9_take 18 = .ok (.if_icmp .le 6, 3) := by decide +kernel
theorem dX9_take_21 : decode cX9_take 21 = .ok (.bipush (-102), 2) := by decide +kernel
theorem dX9_take_23 : decode cX9_take 23 = .ok (.ireturn, 1) := by decide +kernel
theorem dX9_take_24 : decode cX9_take 24 = .ok (.aload_n 0, 1) := by decide +kernel
theorem dX9_take_25 : decode cX9_take 25 = .ok (.getfield 31, 3) := by decide +kernel
theorem dX9_take_28 : decode cX9_take 28 = .ok (.iload_n 1, 1) := by decide +kernel
theorem dX9_take_29 : decode cX9_take 29 = .ok (.iload_n 2, 1) := by decide +kernel
theorem dX9_take_30 : decode cX9_take 30 = .ok (.invokevirtual 130, 3) := by decide +kernel
theorem dX9_take_33 : decode cX9_take 33 = .ok (.aload_n 0, 1) := by decide +kernel
theorem dX9_take_34 : decode cX9_take 34 = .ok (.getfield 31, 3) := by decide +kernel
theorem dX9_take_37 : decode cX9_take 37 = .ok (.getfield 127, 3) := by decide +kernel
theorem dX9_take_40 : decode cX9_take 40 = .ok (.iload_n 1, 1) := by decide +kernel
theorem dX9_take_41 : decode cX9_take 41 = .ok (.iaload, 1) := by decide +kernel
theorem dX9_take_42 : decode cX9_take 42 = .ok (.ireturn, 1) := by decide +kernel
set_option maxRecDepth 20000 in
theorem ggX9_height_X9_isCairn : GoodIn wsX9_height wsX9_isCairn := goodIn_r _ [6] (by decide +kernel) (by decide +kernel)
set_option maxRecDepth 20000 in
theorem gX9_height_X9_isCairn : GoodIn wsX9_height (va_wsS RX9 119 yX9_isCairn wsX9_isCairn) := goodIn_app (goodIn_of _ (by decide +kernel)) ggX9_height_X9_isCairn
theorem dX9_height_0 : decode cX9_height 0 = .ok (.iload_n 1, 1) := by decide +kernel
theorem dX9_height_1 : decode cX9_height 1 = .ok (.invokestatic 119, 3) := by decide +kernel
theorem dX9_height_4 : decode cX9_height 4 = .ok (.ifCond .ne 6, 3) := by decide +kernel
theorem dX9_height_7 : decode cX9_height 7 = .ok (.bipush (-101), 2) := by decide +kernel
theorem dX9_height_9 : decode cX9_height 9 = .ok (.ireturn, 1) := by decide +kernel
theorem dX9_height_10 : decode cX9_height 10 = .ok (.aload_n 0, 1) := by decide +kernel
theorem dX9_height_11 : decode cX9_height 11 = .ok (.getfield 31, 3) := by decide +kernel
theorem dX9_height_14 : decode cX9_height 14 = .ok (.getfield 127, 3) := by decide +kernel
theorem dX9_height_17 : decode cX9_height 17 = .ok (.iload_n 1, 1) := by decide +kernel
theorem dX9_height_18 : decode cX9_height 18 = .ok (.iaload, 1) := by decide +kernel
theorem dX9_height_19 : decode cX9_height 19 = .ok (.ireturn, 1) := by decide +kernel
set_option maxRecDepth 20000 in
theorem ggX9_mark_X9_isCairn : GoodIn wsX9_mark wsX9_isCairn := goodIn_r _ [5] (by decide +kernel) (by decide +kernel)
set_option maxRecDepth 20000 in
theorem gX9_mark_X9_isCairn : GoodIn wsX9_mark (va_wsS RX9 119 yX9_isCairn wsX9_isCairn) := goodIn_app (goodIn_of _ (by decide +kernel)) ggX9_mark_X9_isCairn
set_option maxRecDepth 20000 in
theorem ggX9_mark_X2_markAt : GoodIn wsX9_mark wsX2_markAt := goodIn_r _ [10, 11, 12, 3, 4, 5, 24, 25, 26, 27, 28, 29, 30, 31] (by decide +kernel) (by decide +kernel)
set_option maxRecDepth 20000 in
theorem gX9_mark_X2_markAt : GoodIn wsX9_mark (wsV RX9 133 RX2 yX2_markAt wsX2_markAt) := goodIn_app (goodIn_of _ (by decide +kernel)) ggX9_mark_X2_markAt
theorem dX9_mark_0 : decode cX9_mark 0 = .ok (.iload_n 1, 1) := by decide +kernel
theorem dX9_mark_1 : decode cX9_mark 1 = .ok (.invokestatic 119, 3) := by decide +kernel
theorem dX9_mark_4 : decode cX9_mark 4 = .ok (.ifCond .ne 6, 3) := by decide +kernel
theorem dX9_mark_7 : decode cX9_mark 7 = .ok (.bipush (-101), 2) := by decide +kernel
theorem dX9_mark_9 : decode cX9_mark 9 = .ok (.ireturn, 1) := by decide +kernel
theorem dX9_mark_10 : decode cX9_mark 10 = .ok (.iload_n 2, 1) := by decide +kernel
theorem dX9_mark_11 : decode cX9_mark 11 = .ok (.ifCond .lt 9, 3) := by decide +kernel
theorem dX9_mark_14 : decode cX9_mark 14 = .ok (.iload_n 2, 1) := by decide +kernel
theorem dX9_mark_15 : decode cX9_mark 15 = .ok (.bipush 60, 2) := by decide +kernel
theorem dX9_mark_17 : decode cX9_mark 17 = .ok (.if_icmp .lt 6, 3) := by decide +kernel
theorem dX9_mark_20 : decode cX9_mark 20 = .ok (.bipush (-102), 2) := by decide +kernel
theorem dX9_mark_22 : decode cX9_mark 22 = .ok (.ireturn, 1) := by decide +kernel
theorem dX9_mark_23 : decode cX9_mark 23 = .ok (.aload_n 0, 1) := by decide +kernel
theorem dX9_mark_24 : decode cX9_mark 24 = .ok (.getfield 31, 3) := by decide +kernel
theorem dX9_mark_27 : decode cX9_mark 27 = .ok (.iload_n 1, 1) := by decide +kernel
theorem dX9_mark_28 : decode cX9_mark 28 = .ok (.iload_n 2, 1) := by decide +kernel
theorem dX9_mark_29 : decode cX9_mark 29 = .ok (.invokevirtual 133, 3) := by decide +kernel
theorem dX9_mark_32 : decode cX9_mark 32 = .ok (.ireturn, 1) := by decide +kernel
set_option maxRecDepth 20000 in
theorem ggX9_dated_X9_isCairn : GoodIn wsX9_dated wsX9_isCairn := goodIn_r _ [6] (by decide +kernel) (by decide +kernel)
set_option maxRecDepth 20000 in
theorem gX9_dated_X9_isCairn : GoodIn wsX9_dated (va_wsS RX9 119 yX9_isCairn wsX9_isCairn) := goodIn_app (goodIn_of _ (by decide +kernel)) ggX9_dated_X9_isCairn
set_option maxRecDepth 20000 in
theorem ggX9_dated_X2_markAt : GoodIn wsX9_dated wsX2_markAt := goodIn_r _ [11, 12, 13, 4, 5, 6, 25, 26, 27, 28, 29, 30, 31, 32] (by decide +kernel) (by decide +kernel)
set_option maxRecDepth 20000 in
theorem gX9_dated_X2_markAt : GoodIn wsX9_dated (wsV RX9 133 RX2 yX2_markAt wsX2_markAt) := goodIn_app (goodIn_of _ (by decide +kernel)) ggX9_dated_X2_markAt
theorem dX9_dated_0 : decode cX9_dated 0 = .ok (.iload_n 1, 1) := by decide +kernel
theorem dX9_dated_1 : decode cX9_dated 1 = .ok (.invokestatic 119, 3) := by decide +kernel
theorem dX9_dated_4 : decode cX9_dated 4 = .ok (.ifCond .ne 6, 3) := by decide +kernel
theorem dX9_dated_7 : decode cX9_dated 7 = .ok (.bipush (-101), 2) := by decide +kernel
theorem dX9_dated_9 : decode cX9_dated 9 = .ok (.ireturn, 1) := by decide +kernel
theorem dX9_dated_10 : decode cX9_dated 10 = .ok (.iload_n 2, 1) := by decide +kernel
theorem dX9_dated_11 : decode cX9_dated 11 = .ok (.ifCond .lt 10, 3) := by decide +kernel
theorem dX9_dated_14 : decode cX9_dated 14 = .ok (.iload_n 2, 1) := by decide +kernel
theorem dX9_dated_15 : decode cX9_dated 15 = .ok (.sipush 9999, 3) := by decide +kernel
theorem dX9_dated_18 : decode cX9_dated 18 = .ok (.if_icmp .le 6, 3) := by decide +kernel
theorem dX9_dated_21 : decode cX9_dated 21 = .ok (.bipush (-102), 2) := by decide +kernel
theorem dX9_dated_23 : decode cX9_dated 23 = .ok (.ireturn, 1) := by decide +kernel
theorem dX9_dated_24 : decode cX9_dated 24 = .ok (.iconst 0, 1) := by decide +kernel
theorem dX9_dated_25 : decode cX9_dated 25 = .ok (.istore_n 3, 1) := by decide +kernel
theorem dX9_dated_26 : decode cX9_dated 26 = .ok (.iconst 0, 1) := by decide +kernel
theorem dX9_dated_27 : decode cX9_dated 27 = .ok (.istore 4, 2) := by decide +kernel
theorem dX9_dated_29 : decode cX9_dated 29 = .ok (.iload 4, 2) := by decide +kernel
theorem dX9_dated_31 : decode cX9_dated 31 = .ok (.aload_n 0, 1) := by decide +kernel
theorem dX9_dated_32 : decode cX9_dated 32 = .ok (.getfield 31, 3) := by decide +kernel
theorem dX9_dated_35 : decode cX9_dated 35 = .ok (.getfield 127, 3) := by decide +kernel
theorem dX9_dated_38 : decode cX9_dated 38 = .ok (.iload_n 1, 1) := by decide +kernel
theorem dX9_dated_39 : decode cX9_dated 39 = .ok (.iaload, 1) := by decide +kernel
theorem dX9_dated_40 : decode cX9_dated 40 = .ok (.if_icmp .ge 26, 3) := by decide +kernel
theorem dX9_dated_43 : decode cX9_dated 43 = .ok (.aload_n 0, 1) := by decide +kernel
theorem dX9_dated_44 : decode cX9_dated 44 = .ok (.getfield 31, 3) := by decide +kernel
theorem dX9_dated_47 : decode cX9_dated 47 = .ok (.iload_n 1, 1) := by decide +kernel
theorem dX9_dated_48 : decode cX9_dated 48 = .ok (.iload 4, 2) := by decide +kernel
theorem dX9_dated_50 : decode cX9_dated 50 = .ok (.invokevirtual 133, 3) := by decide +kernel
theorem dX9_dated_53 : decode cX9_dated 53 = .ok (.iload_n 2, 1) := by decide +kernel
theorem dX9_dated_54 : decode cX9_dated 54 = .ok (.if_icmp .ne 6, 3) := by decide +kernel
theorem dX9_dated_57 : decode cX9_dated 57 = .ok (.iinc 3 1, 3) := by decide +kernel
theorem dX9_dated_60 : decode cX9_dated 60 = .ok (.iinc 4 1, 3) := by decide +kernel
theorem dX9_dated_63 : decode cX9_dated 63 = .ok (.goto (-34), 3) := by decide +kernel
theorem dX9_dated_66 : decode cX9_dated 66 = .ok (.iload_n 3, 1) := by decide +kernel
theorem dX9_dated_67 : decode cX9_dated 67 = .ok (.ireturn, 1) := by decide +kernel
theorem dX9_seed_0 : decode cX9_seed 0 = .ok (.iload_n 1, 1) := by decide +kernel
theorem dX9_seed_1 : decode cX9_seed 1 = .ok (.ifCond .ge 6, 3) := by decide +kernel
theorem dX9_seed_4 : decode cX9_seed 4 = .ok (.bipush (-102), 2) := by decide +kernel
theorem dX9_seed_6 : decode cX9_seed 6 = .ok (.ireturn, 1) := by decide +kernel
theorem dX9_seed_7 : decode cX9_seed 7 = .ok (.aload_n 0, 1) := by decide +kernel
theorem dX9_seed_8 : decode cX9_seed 8 = .ok (.getfield 31, 3) := by decide +kernel
theorem dX9_seed_11 : decode cX9_seed 11 = .ok (.getfield 137, 3) := by decide +kernel
theorem dX9_seed_14 : decode cX9_seed 14 = .ok (.istore_n 2, 1) := by decide +kernel
theorem dX9_seed_15 : decode cX9_seed 15 = .ok (.aload_n 0, 1) := by decide +kernel
theorem dX9_seed_16 : decode cX9_seed 16 = .ok (.getfield 31, 3) := by decide +kernel
theorem dX9_seed_19 : decode cX9_seed 19 = .ok (.iload_n 1, 1) := by decide +kernel
theorem dX9_seed_20 : decode cX9_seed 20 = .ok (.putfield 137, 3) := by decide +kernel
theorem dX9_seed_23 : decode cX9_seed 23 = .ok (.iload_n 2, 1) := by decide +kernel
theorem dX9_seed_24 : decode cX9_seed 24 = .ok (.ireturn, 1) := by decide +kernel
set_option maxRecDepth 20000 in
theorem ggX9_weeks_X9_customAt : GoodIn wsX9_weeks wsX9_customAt := goodIn_r _ [8, 9, 135, 136, 137, 138, 139, 140, 141, 142, 143, 144, 145] (by decide +kernel) (by decide +kernel)
set_option maxRecDepth 20000 in
theorem gX9_weeks_X9_customAt : GoodIn wsX9_weeks (wsV RX9 79 RX9 yX9_customAt wsX9_customAt) := goodIn_app (goodIn_of _ (by decide +kernel)) ggX9_weeks_X9_customAt
set_option maxRecDepth 20000 in
theorem ggX9_weeks_X2_goOneWeek : GoodIn wsX9_weeks wsX2_goOneWeek := goodIn_r _ [14, 15, 16, 17, 18, 19, 13, 20, 21, 22, 23, 24, 25, 26, 27, 28, 29, 30, 31, 32, 33, 34, 35, 36, 37, 38, 39, 40, 41, 42, 43, 44, 45, 46, 47, 48, 49, 50, 51, 52, 53, 54, 55, 56, 57, 58, 59, 60, 61, 62, 63, 64, 65, 66, 67, 68, 69, 70, 71, 72, 73, 74, 7, 75, 76, 77, 78, 79, 80, 81, 82, 83, 84, 85, 86, 87, 88, 89, 90, 91, 92, 93, 94, 95, 96, 97, 98, 99, 100, 101, 102, 103, 104, 105, 106, 107, 108, 109, 110, 111, 112, 113, 114, 115, 116, 117, 118, 119, 120, 121, 122, 123, 124, 125, 126, 127, 128, 129, 130, 146, 147, 148, 149, 150, 151, 152, 153, 154, 155, 156, 157, 158, 159, 160, 161, 162, 163, 164, 165, 166, 167, 168, 169, 170, 171, 172] (by decide +kernel) (by decide +kernel)
set_option maxRecDepth 20000 in
theorem gX9_weeks_X2_goOneWeek : GoodIn wsX9_weeks (wsV RX9 143 RX2 yX2_goOneWeek wsX2_goOneWeek) := goodIn_app (goodIn_of _ (by decide +kernel)) ggX9_weeks_X2_goOneWeek
set_option maxRecDepth 20000 in
theorem ggX9_weeks_X2_pebbles : GoodIn wsX9_weeks wsX2_pebbles := goodIn_r _ [134, 42, 146, 147, 148, 149, 150, 151, 152, 153] (by decide +kernel) (by decide +kernel)
set_option maxRecDepth 20000 in
theorem gX9_weeks_X2_pebbles : GoodIn wsX9_weeks (wsV RX9 147 RX2 yX2_pebbles wsX2_pebbles) := goodIn_app (goodIn_of _ (by decide +kernel)) ggX9_weeks_X2_pebbles
theorem dX9_weeks_0 : decode cX9_weeks 0 = .ok (.aload_n 0, 1) := by decide +kernel
theorem dX9_weeks_1 : decode cX9_weeks 1 = .ok (.iload_n 1, 1) := by decide +kernel
theorem dX9_weeks_2 : decode cX9_weeks 2 = .ok (.invokevirtual 79, 3) := by decide +kernel
theorem dX9_weeks_5 : decode cX9_weeks 5 = .ok (.astore_n 3, 1) := by decide +kernel
theorem dX9_weeks_6 : decode cX9_weeks 6 = .ok (.aload_n 3, 1) := by decide +kernel
theorem dX9_weeks_7 : decode cX9_weeks 7 = .ok (.ifnonnull 6, 3) := by decide +kernel
theorem dX9_weeks_10 : decode cX9_weeks 10 = .ok (.bipush (-101), 2) := by decide +kernel
theorem dX9_weeks_12 : decode cX9_weeks 12 = .ok (.ireturn, 1) := by decide +kernel
theorem dX9_weeks_13 : decode cX9_weeks 13 = .ok (.iload_n 2, 1) := by decide +kernel
theorem dX9_weeks_14 : decode cX9_weeks 14 = .ok (.iconst 1, 1) := by decide +kernel
theorem dX9_weeks_15 : decode cX9_weeks 15 = .ok (.if_icmp .lt 9, 3) := by decide +kernel
theorem dX9_weeks_18 : decode cX9_weeks 18 = .ok (.iload_n 2, 1) := by decide +kernel
theorem dX9_weeks_19 : decode cX9_weeks 19 = .ok (.bipush 60, 2) := by decide +kernel
theorem dX9_weeks_21 : decode cX9_weeks 21 = .ok (.if_icmp .le 6, 3) := by decide +kernel
theorem dX9_weeks_24 : decode cX9_weeks 24 = .ok (.bipush (-102), 2) := by decide +kernel
theorem dX9_weeks_26 : decode cX9_weeks 26 = .ok (.ireturn, 1) := by decide +kernel
theorem dX9_weeks_27 : decode cX9_weeks 27 = .ok (.aload_n 0, 1) := by decide +kernel
theorem dX9_weeks_28 : decode cX9_weeks 28 = .ok (.getfield 31, 3) := by decide +kernel
theorem dX9_weeks_31 : decode cX9_weeks 31 = .ok (.getfield 140, 3) := by decide +kernel
theorem dX9_weeks_34 : decode cX9_weeks 34 = .ok (.iload_n 2, 1) := by decide +kernel
theorem dX9_weeks_35 : decode cX9_weeks 35 = .ok (.iadd, 1) := by decide +kernel
theorem dX9_weeks_36 : decode cX9_weeks 36 = .ok (.sipush 9999, 3) := by decide +kernel
theorem dX9_weeks_39 : decode cX9_weeks 39 = .ok (.if_icmp .le 6, 3) := by decide +kernel
theorem dX9_weeks_42 : decode cX9_weeks 42 = .ok (.bipush (-103), 2) := by decide +kernel
theorem dX9_weeks_44 : decode cX9_weeks 44 = .ok (.ireturn, 1) := by decide +kernel
theorem dX9_weeks_45 : decode cX9_weeks 45 = .ok (.iconst 0, 1) := by decide +kernel
theorem dX9_weeks_46 : decode cX9_weeks 46 = .ok (.istore 4, 2) := by decide +kernel
theorem dX9_weeks_48 : decode cX9_weeks 48 = .ok (.iload 4, 2) := by decide +kernel
theorem dX9_weeks_50 : decode cX9_weeks 50 = .ok (.iload_n 2, 1) := by decide +kernel
theorem dX9_weeks_51 : decode cX9_weeks 51 = .ok (.if_icmp .ge 21, 3) := by decide +kernel
theorem dX9_weeks_54 : decode cX9_weeks 54 = .ok (.aload_n 0, 1) := by decide +kernel
theorem dX9_weeks_55 : decode cX9_weeks 55 = .ok (.getfield 31, 3) := by decide +kernel
theorem dX9_weeks_58 : decode cX9_weeks 58 = .ok (.aload_n 3, 1) := by decide +kernel
theorem dX9_weeks_59 : decode cX9_weeks 59 = .ok (.aload_n 0, 1) := by decide +kernel
theorem dX9_weeks_60 : decode cX9_weeks 60 = .ok (.getfield 24, 3) := by decide +kernel
theorem dX9_weeks_63 : decode cX9_weeks 63 = .ok (.invokevirtual 143, 3) := by decide +kernel
theorem dX9_weeks_66 : decode cX9_weeks 66 = .ok (.iinc 4 1, 3) := by decide +kernel
theorem dX9_weeks_69 : decode cX9_weeks 69 = .ok (.goto (-21), 3) := by decide +kernel
theorem dX9_weeks_72 : decode cX9_weeks 72 = .ok (.aload_n 0, 1) := by decide +kernel
theorem dX9_weeks_73 : decode cX9_weeks 73 = .ok (.getfield 31, 3) := by decide +kernel
theorem dX9_weeks_76 : decode cX9_weeks 76 = .ok (.invokevirtual 147, 3) := by decide +kernel
theorem dX9_weeks_79 : decode cX9_weeks 79 = .ok (.ireturn, 1) := by decide +kernel
set_option maxRecDepth 20000 in
theorem ggX9_would_X9_customAt : GoodIn wsX9_would wsX9_customAt := goodIn_r _ [7, 8, 145, 146, 147, 148, 149, 150, 151, 152, 153, 154, 155] (by decide +kernel) (by decide +kernel)
set_option maxRecDepth 20000 in
theorem gX9_would_X9_customAt : GoodIn wsX9_would (wsV RX9 79 RX9 yX9_customAt wsX9_customAt) := goodIn_app (goodIn_of _ (by decide +kernel)) ggX9_would_X9_customAt
set_option maxRecDepth 20000 in
theorem ggX9_would_X9_isCairn : GoodIn wsX9_would wsX9_isCairn := goodIn_r _ [11] (by decide +kernel) (by decide +kernel)
set_option maxRecDepth 20000 in
theorem gX9_would_X9_isCairn : GoodIn wsX9_would (va_wsS RX9 119 yX9_isCairn wsX9_isCairn) := goodIn_app (goodIn_of _ (by decide +kernel)) ggX9_would_X9_isCairn
set_option maxRecDepth 20000 in
theorem ggX9_would_X9_dreamOf : GoodIn wsX9_would wsX9_dreamOf := goodIn_r _ [15, 1, 16, 17, 18, 19, 20, 21, 22, 23, 24, 25, 26, 27, 28, 29, 30, 31, 32, 33, 34, 35, 36, 37, 38, 39, 40, 41, 42, 43, 44, 45, 46, 47, 48, 49, 50, 51, 52, 53, 54, 55, 56, 57, 58, 59, 60, 61, 62, 63, 64, 65, 66, 67, 68, 69, 70, 71, 72, 73, 74, 75, 76, 77, 78, 79, 80, 81, 82, 83, 84, 85, 86, 87, 88, 89, 90, 10, 6, 11, 91, 92, 93, 94, 95, 96, 97, 98, 99, 100, 101, 102, 103, 104, 105, 106, 107, 108, 109, 110, 111, 112, 113, 114, 115, 116, 117, 118, 119, 120, 121, 122, 123, 124, 125, 126, 127, 128, 129, 130, 131, 132, 133, 134, 135, 136, 137, 138, 139, 140, 141, 142, 143, 144, 145, 146, 147, 148, 149, 150, 151, 152, 153, 154, 155, 156, 157, 158, 159, 160, 161, 162, 163, 164, 165, 166, 167, 168, 169, 170, 171, 172, 173, 174, 175, 176, 177, 178, 179, 180, 181, 182] (by decide +kernel) (by decide +kernel)
set_option maxRecDepth 20000 in
theorem gX9_would_X9_dreamOf : GoodIn wsX9_would (wsV RX9 150 RX9 yX9_dreamOf wsX9_dreamOf) := goodIn_app (goodIn_of _ (by decide +kernel)) ggX9_would_X9_dreamOf
theorem dX9_would_0 : decode cX9_would 0 = .ok (.aload_n 0, 1) := by decide +kernel
theorem dX9_would_1 : decode cX9_would 1 = .ok (.iload_n 1, 1) := by decide +kernel
theorem dX9_would_2 : decode cX9_would 2 = .ok (.invokevirtual 79, 3) := by decide +kernel
theorem dX9_would_5 : decode cX9_would 5 = .ok (.astore 4, 2) := by decide +kernel
theorem dX9_would_7 : decode cX9_would 7 = .ok (.aload 4, 2) := by decide +kernel
theorem dX9_would_9 : decode cX9_would 9 = .ok (.ifnull 10, 3) := by decide +kernel
theorem dX9_would_12 : decode cX9_would 12 = .ok (.iload_n 2, 1) := by decide +kernel
theorem dX9_would_13 : decode cX9_would 13 = .ok (.invokestatic 119, 3) := by decide +kernel
theorem dX9_would_16 : decode cX9_would 16 = .ok (.ifCond .ne 6, 3) := by decide +kernel
theorem dX9_would_19 : decode cX9_would 19 = .ok (.bipush (-101), 2) := by decide +kernel
theorem dX9_would_21 : decode cX9_would 21 = .ok (.ireturn, 1) := by decide +kernel
theorem dX9_would_22 : decode cX9_would 22 = .ok (.iload_n 3, 1) := by decide +kernel
theorem dX9_would_23 : decode cX9_would 23 = .ok (.ifCond .lt 9, 3) := by decide +kernel
theorem dX9_would_26 : decode cX9_would 26 = .ok (.iload_n 3, 1) := by decide +kernel
theorem dX9_would_27 : decode cX9_would 27 = .ok (.bipush 60, 2) := by decide +kernel
theorem dX9_would_29 : decode cX9_would 29 = .ok (.if_icmp .le 6, 3) := by decide +kernel
theorem dX9_would_32 : decode cX9_would 32 = .ok (.bipush (-102), 2) := by decide +kernel
theorem dX9_would_34 : decode cX9_would 34 = .ok (.ireturn, 1) := by decide +kernel
theorem dX9_would_35 : decode cX9_would 35 = .ok (.aload_n 0, 1) := by decide +kernel
theorem dX9_would_36 : decode cX9_would 36 = .ok (.aload 4, 2) := by decide +kernel
theorem dX9_would_38 : decode cX9_would 38 = .ok (.iload_n 3, 1) := by decide +kernel
theorem dX9_would_39 : decode cX9_would 39 = .ok (.invokevirtual 150, 3) := by decide +kernel
theorem dX9_would_42 : decode cX9_would 42 = .ok (.aload_n 0, 1) := by decide +kernel
theorem dX9_would_43 : decode cX9_would 43 = .ok (.getfield 38, 3) := by decide +kernel
theorem dX9_would_46 : decode cX9_would 46 = .ok (.getfield 127, 3) := by decide +kernel
theorem dX9_would_49 : decode cX9_would 49 = .ok (.iload_n 2, 1) := by decide +kernel
theorem dX9_would_50 : decode cX9_would 50 = .ok (.iaload, 1) := by decide +kernel
theorem dX9_would_51 : decode cX9_would 51 = .ok (.ireturn, 1) := by decide +kernel
set_option maxRecDepth 20000 in
theorem ggX9_order_X2_aheadOf : GoodIn wsX9_order wsX2_aheadOf := goodIn_r _ [6, 7, 8, 9, 10, 22, 23, 24, 25, 26, 27, 28, 29] (by decide +kernel) (by decide +kernel)
set_option maxRecDepth 20000 in
theorem gX9_order_X2_aheadOf : GoodIn wsX9_order (wsV RX9 154 RX2 yX2_aheadOf wsX2_aheadOf) := goodIn_app (goodIn_of _ (by decide +kernel)) ggX9_order_X2_aheadOf
theorem dX9_order_0 : decode cX9_order 0 = .ok (.iload_n 1, 1) := by decide +kernel
theorem dX9_order_1 : decode cX9_order 1 = .ok (.ifCond .lt 9, 3) := by decide +kernel
theorem dX9_order_4 : decode cX9_order 4 = .ok (.iload_n 1, 1) := by decide +kernel
theorem dX9_order_5 : decode cX9_order 5 = .ok (.bipush 7, 2) := by decide +kernel
theorem dX9_order_7 : decode cX9_order 7 = .ok (.if_icmp .lt 6, 3) := by decide +kernel
theorem dX9_order_10 : decode cX9_order 10 = .ok (.bipush (-102), 2) := by decide +kernel
theorem dX9_order_12 : decode cX9_order 12 = .ok (.ireturn, 1) := by decide +kernel
theorem dX9_order_13 : decode cX9_order 13 = .ok (.iconst 0, 1) := by decide +kernel
theorem dX9_order_14 : decode cX9_order 14 = .ok (.istore_n 2, 1) := by decide +kernel
theorem dX9_order_15 : decode cX9_order 15 = .ok (.iload_n 2, 1) := by decide +kernel
theorem dX9_order_16 : decode cX9_order 16 = .ok (.bipush 7, 2) := by decide +kernel
theorem dX9_order_18 : decode cX9_order 18 = .ok (.if_icmp .ge 23, 3) := by decide +kernel
theorem dX9_order_21 : decode cX9_order 21 = .ok (.aload_n 0, 1) := by decide +kernel
theorem dX9_order_22 : decode cX9_order 22 = .ok (.getfield 31, 3) := by decide +kernel
theorem dX9_order_25 : decode cX9_order 25 = .ok (.iload_n 2, 1) := by decide +kernel
theorem dX9_order_26 : decode cX9_order 26 = .ok (.invokevirtual 154, 3) := by decide +kernel
theorem dX9_order_29 : decode cX9_order 29 = .ok (.iload_n 1, 1) := by decide +kernel
theorem dX9_order_30 : decode cX9_order 30 = .ok (.if_icmp .ne 5, 3) := by decide +kernel
theorem dX9_order_33 : decode cX9_order 33 = .ok (.iload_n 2, 1) := by decide +kernel
theorem dX9_order_34 : decode cX9_order 34 = .ok (.ireturn, 1) := by decide +kernel
theorem dX9_order_35 : decode cX9_order 35 = .ok (.iinc 2 1, 3) := by decide +kernel
theorem dX9_order_38 : decode cX9_order 38 = .ok (.goto (-23), 3) := by decide +kernel
theorem dX9_order_41 : decode cX9_order 41 = .ok (.iconst (-1), 1) := by decide +kernel
theorem dX9_order_42 : decode cX9_order 42 = .ok (.ireturn, 1) := by decide +kernel
set_option maxRecDepth 20000 in
theorem ggX9_odds_X9_parishAt : GoodIn wsX9_odds wsX9_parishAt := goodIn_r _ [8, 9, 48, 49, 50, 51, 52, 53, 54, 55, 56, 57, 58] (by decide +kernel) (by decide +kernel)
set_option maxRecDepth 20000 in
theorem gX9_odds_X9_parishAt : GoodIn wsX9_odds (wsV RX9 110 RX9 yX9_parishAt wsX9_parishAt) := goodIn_app (goodIn_of _ (by decide +kernel)) ggX9_odds_X9_parishAt
set_option maxRecDepth 20000 in
theorem ggX9_odds_X3_of : GoodIn wsX9_odds wsX3_of := goodIn_r _ [13, 14, 15, 16, 17, 18, 12, 19, 20, 21, 22, 32, 33, 34, 35, 36, 37, 38, 39, 40, 41, 42, 43, 44, 45, 46, 47] (by decide +kernel) (by decide +kernel)
set_option maxRecDepth 20000 in
theorem gX9_odds_X3_of : GoodIn wsX9_odds (va_wsS RX9 161 yX3_of wsX3_of) := goodIn_app (goodIn_of _ (by decide +kernel)) ggX9_odds_X3_of
set_option maxRecDepth 20000 in
theorem ggX9_odds_X3_whole : GoodIn wsX9_odds wsX3_whole := goodIn_r _ [25, 14, 20, 21, 12, 22, 32, 33, 34, 35, 36, 37, 38, 39, 40, 41, 42, 43, 44, 45, 46, 47] (by decide +kernel) (by decide +kernel)
set_option maxRecDepth 20000 in
theorem gX9_odds_X3_whole : GoodIn wsX9_odds (va_wsS RX9 167 yX3_whole wsX3_whole) := goodIn_app (goodIn_of _ (by decide +kernel)) ggX9_odds_X3_whole
set_option maxRecDepth 20000 in
theorem ggX9_odds_X9_inLowest : GoodIn wsX9_odds wsX9_inLowest := goodIn_r _ [28, 2, 29, 30, 7, 31] (by decide +kernel) (by decide +kernel)
set_option maxRecDepth 20000 in
theorem gX9_odds_X9_inLowest : GoodIn wsX9_odds (va_wsS RX9 171 yX9_inLowest wsX9_inLowest) := goodIn_app (goodIn_of _ (by decide +kernel)) ggX9_odds_X9_inLowest
theorem dX9_odds_0 : decode cX9_odds 0 = .ok (.aload_n 0, 1) := by decide +kernel
theorem dX9_odds_1 : decode cX9_odds 1 = .ok (.iload_n 1, 1) := by decide +kernel
theorem dX9_odds_2 : decode cX9_odds 2 = .ok (.invokevirtual 110, 3) := by decide +kernel
theorem dX9_odds_5 : decode cX9_odds 5 = .ok (.astore 5, 2) := by decide +kernel
theorem dX9_odds_7 : decode cX9_odds 7 = .ok (.aload 5, 2) := by decide +kernel
theorem dX9_odds_9 : decode cX9_odds 9 = .ok (.ifnonnull 7, 3) := by decide +kernel
theorem dX9_odds_12 : decode cX9_odds 12 = .ok (.ldc2_w 157, 3) := by decide +kernel
theorem dX9_odds_15 : decode cX9_odds 15 = .ok (.lreturn, 1) := by decide +kernel
theorem dX9_odds_16 : decode cX9_odds 16 = .ok (.iload_n 2, 1) := by decide +kernel
theorem dX9_odds_17 : decode cX9_odds 17 = .ok (.ifCond .lt 19, 3) := by decide +kernel
theorem dX9_odds_20 : decode cX9_odds 20 = .ok (.iload_n 2, 1) := by decide +kernel
theorem dX9_odds_21 : decode cX9_odds 21 = .ok (.bipush 9, 2) := by decide +kernel
theorem dX9_odds_23 : decode cX9_odds 23 = .ok (.if_icmp .gt 13, 3) := by decide +kernel
theorem dX9_odds_26 : decode cX9_odds 26 = .ok (.iload_n 3, 1) := by decide +kernel
theorem dX9_odds_27 : decode cX9_odds 27 = .ok (.ifCond .lt 9, 3) := by decide +kernel
theorem dX9_odds_30 : decode cX9_odds 30 = .ok (.iload_n 3, 1) := by decide +kernel
theorem dX9_odds_31 : decode cX9_odds 31 = .ok (.bipush 9, 2) := by decide +kernel
theorem dX9_odds_33 : decode cX9_odds 33 = .ok (.if_icmp .le 7, 3) := by decide +kernel
theorem dX9_odds_36 : decode cX9_odds 36 = .ok (.ldc2_w 159, 3) := by decide +kernel
theorem dX9_odds_39 : decode cX9_odds 39 = .ok (.lreturn, 1) := by decide +kernel
theorem dX9_odds_40 : decode cX9_odds 40 = .ok (.iload_n 2, 1) := by decide +kernel
theorem dX9_odds_41 : decode cX9_odds 41 = .ok (.iload_n 3, 1) := by decide +kernel
theorem dX9_odds_42 : decode cX9_odds 42 = .ok (.iadd, 1) := by decide +kernel
theorem dX9_odds_43 : decode cX9_odds 43 = .ok (.aload 5, 2) := by decide +kernel
theorem dX9_odds_45 : decode cX9_odds 45 = .ok (.getfield 101, 3) := by decide +kernel
theorem dX9_odds_48 : decode cX9_odds 48 = .ok (.if_icmp .gt 14, 3) := by decide +kernel
theorem dX9_odds_51 : decode cX9_odds 51 = .ok (.iload 4, 2) := by decide +kernel
theorem dX9_odds_53 : decode cX9_odds 53 = .ok (.ifCond .lt 9, 3) := by decide +kernel
theorem dX9_odds_56 : decode cX9_odds 56 = .ok (.iload 4, 2) := by decide +kernel
theorem dX9_odds_58 : decode cX9_odds 58 = .ok (.iconst 1, 1) := by decide +kernel
theorem dX9_odds_59 : decode cX9_odds 59 = .ok (.if_icmp .le 7, 3) := by decide +kernel
theorem dX9_odds_62 : decode cX9_odds 62 = .ok (.ldc2_w 159, 3) := by decide +kernel
theorem dX9_odds_65 : decode cX9_odds 65 = .ok (.lreturn, 1) := by decide +kernel
theorem dX9_odds_66 : decode cX9_odds 66 = .ok (.aload 5, 2) := by decide +kernel
theorem dX9_odds_68 : decode cX9_odds 68 = .ok (.iload_n 2, 1) := by decide +kernel
theorem dX9_odds_69 : decode cX9_odds 69 = .ok (.iload_n 3, 1) := by decide +kernel
theorem dX9_odds_70 : decode cX9_odds 70 = .ok (.invokestatic 161, 3) := by decide +kernel
theorem dX9_odds_73 : decode cX9_odds 73 = .ok (.aload 5, 2) := by decide +kernel
theorem dX9_odds_75 : decode cX9_odds 75 = .ok (.invokestatic 167, 3) := by decide +kernel
theorem dX9_odds_78 : decode cX9_odds 78 = .ok (.iload 4, 2) := by decide +kernel
theorem dX9_odds_80 : decode cX9_odds 80 = .ok (.invokestatic 171, 3) := by decide +kernel
theorem dX9_odds_83 : decode cX9_odds 83 = .ok (.lreturn, 1) := by decide +kernel
set_option maxRecDepth 20000 in
theorem ggX9_chance_X9_parishAt : GoodIn wsX9_chance wsX9_parishAt := goodIn_r _ [7, 8, 66, 67, 68, 69, 70, 71, 72, 73, 74, 75, 76] (by decide +kernel) (by decide +kernel)
set_option maxRecDepth 20000 in
theorem gX9_chance_X9_parishAt : GoodIn wsX9_chance (wsV RX9 110 RX9 yX9_parishAt wsX9_parishAt) := goodIn_app (goodIn_of _ (by decide +kernel)) ggX9_chance_X9_parishAt
set_option maxRecDepth 20000 in
theorem ggX9_chance_X9_isNetOfOne : GoodIn wsX9_chance wsX9_isNetOfOne := goodIn_r _ [11] (by decide +kernel) (by decide +kernel)
set_option maxRecDepth 20000 in
theorem gX9_chance_X9_isNetOfOne : GoodIn wsX9_chance (va_wsS RX9 175 yX9_isNetOfOne wsX9_isNetOfOne) := goodIn_app (goodIn_of _ (by decide +kernel)) ggX9_chance_X9_isNetOfOne
set_option maxRecDepth 20000 in
theorem ggX9_chance_X3_ofNet : GoodIn wsX9_chance wsX3_ofNet := goodIn_r _ [15, 16, 17, 18, 19, 20, 21, 22, 23, 24, 25, 26, 27, 28, 29, 30, 31, 32, 33, 34, 35, 36, 37, 38, 39, 40, 41, 42, 43, 44, 45, 46, 47, 14, 48, 49, 50, 51, 52, 53, 54, 55, 56, 77, 78, 79, 80, 81, 82, 83, 84, 85, 86, 87, 88, 89, 90, 91, 92] (by decide +kernel) (by decide +kernel)
set_option maxRecDepth 20000 in
theorem gX9_chance_X3_ofNet : GoodIn wsX9_chance (va_wsS RX9 178 yX3_ofNet wsX3_ofNet) := goodIn_app (goodIn_of _ (by decide +kernel)) ggX9_chance_X3_ofNet
set_option maxRecDepth 20000 in
theorem ggX9_chance_X3_whole : GoodIn wsX9_chance wsX3_whole := goodIn_r _ [59, 16, 54, 55, 14, 56, 77, 78, 79, 80, 81, 82, 83, 84, 85, 86, 87, 88, 89, 90, 91, 92] (by decide +kernel) (by decide +kernel)
set_option maxRecDepth 20000 in
theorem gX9_chance_X3_whole : GoodIn wsX9_chance (va_wsS RX9 167 yX3_whole wsX3_whole) := goodIn_app (goodIn_of _ (by decide +kernel)) ggX9_chance_X3_whole
set_option maxRecDepth 20000 in
theorem ggX9_chance_X9_inLowest : GoodIn wsX9_chance wsX9_inLowest := goodIn_r _ [62, 2, 63, 64, 6, 65] (by decide +kernel) (by decide +kernel)
set_option maxRecDepth 20000 in
theorem gX9_chance_X9_inLowest : GoodIn wsX9_chance (va_wsS RX9 171 yX9_inLowest wsX9_inLowest) := goodIn_app (goodIn_of _ (by decide +kernel)) ggX9_chance_X9_inLowest
theorem dX9_chance_0 : decode cX9_chance 0 = .ok (.aload_n 0, 1) := by decide +kernel
theorem dX9_chance_1 : decode cX9_chance 1 = .ok (.iload_n 1, 1) := by decide +kernel
theorem dX9_chance_2 : decode cX9_chance 2 = .ok (.invokevirtual 110, 3) := by decide +kernel
theorem dX9_chance_5 : decode cX9_chance 5 = .ok (.astore 4, 2) := by decide +kernel
theorem dX9_chance_7 : decode cX9_chance 7 = .ok (.aload 4, 2) := by decide +kernel
theorem dX9_chance_9 : decode cX9_chance 9 = .ok (.ifnonnull 7, 3) := by decide +kernel
theorem dX9_chance_12 : decode cX9_chance 12 = .ok (.ldc2_w 157, 3) := by decide +kernel
theorem dX9_chance_15 : decode cX9_chance 15 = .ok (.lreturn, 1) := by decide +kernel
theorem dX9_chance_16 : decode cX9_chance 16 = .ok (.iload_n 2, 1) := by decide +kernel
theorem dX9_chance_17 : decode cX9_chance 17 = .ok (.invokestatic 175, 3) := by decide +kernel
theorem dX9_chance_20 : decode cX9_chance 20 = .ok (.ifCond .eq 12, 3) := by decide +kernel
theorem dX9_chance_23 : decode cX9_chance 23 = .ok (.iload_n 3, 1) := by decide +kernel
theorem dX9_chance_24 : decode cX9_chance 24 = .ok (.ifCond .lt 8, 3) := by decide +kernel
theorem dX9_chance_27 : decode cX9_chance 27 = .ok (.iload_n 3, 1) := by decide +kernel
theorem dX9_chance_28 : decode cX9_chance 28 = .ok (.iconst 1, 1) := by decide +kernel
theorem dX9_chance_29 : decode cX9_chance 29 = .ok (.if_icmp .le 7, 3) := by decide +kernel
theorem dX9_chance_32 : decode cX9_chance 32 = .ok (.ldc2_w 159, 3) := by decide +kernel
theorem dX9_chance_35 : decode cX9_chance 35 = .ok (.lreturn, 1) := by decide +kernel
theorem dX9_chance_36 : decode cX9_chance 36 = .ok (.aload 4, 2) := by decide +kernel
theorem dX9_chance_38 : decode cX9_chance 38 = .ok (.iload_n 2, 1) := by decide +kernel
theorem dX9_chance_39 : decode cX9_chance 39 = .ok (.iconst 0, 1) := by decide +kernel
theorem dX9_chance_40 : decode cX9_chance 40 = .ok (.invokestatic 178, 3) := by decide +kernel
theorem dX9_chance_43 : decode cX9_chance 43 = .ok (.aload 4, 2) := by decide +kernel
theorem dX9_chance_45 : decode cX9_chance 45 = .ok (.invokestatic 167, 3) := by decide +kernel
theorem dX9_chance_48 : decode cX9_chance 48 = .ok (.iload_n 3, 1) := by decide +kernel
theorem dX9_chance_49 : decode cX9_chance 49 = .ok (.invokestatic 171, 3) := by decide +kernel
theorem dX9_chance_52 : decode cX9_chance 52 = .ok (.lreturn, 1) := by decide +kernel
set_option maxRecDepth 20000 in
theorem ggX9_sinned_X9_parishAt : GoodIn wsX9_sinned wsX9_parishAt := goodIn_r _ [8, 9, 64, 65, 66, 67, 68, 69, 70, 71, 72, 73, 74] (by decide +kernel) (by decide +kernel)
set_option maxRecDepth 20000 in
theorem gX9_sinned_X9_parishAt : GoodIn wsX9_sinned (wsV RX9 110 RX9 yX9_parishAt wsX9_parishAt) := goodIn_app (goodIn_of _ (by decide +kernel)) ggX9_sinned_X9_parishAt
set_option maxRecDepth 20000 in
theorem ggX9_sinned_X9_isNetOfOne : GoodIn wsX9_sinned wsX9_isNetOfOne := goodIn_r _ [12] (by decide +kernel) (by decide +kernel)
set_option maxRecDepth 20000 in
theorem gX9_sinned_X9_isNetOfOne : GoodIn wsX9_sinned (va_wsS RX9 175 yX9_isNetOfOne wsX9_isNetOfOne) := goodIn_app (goodIn_of _ (by decide +kernel)) ggX9_sinned_X9_isNetOfOne
set_option maxRecDepth 20000 in
theorem ggX9_sinned_X3_ofNet : GoodIn wsX9_sinned wsX3_ofNet := goodIn_r _ [16, 17, 18, 19, 20, 21, 22, 23, 24, 25, 26, 27, 28, 29, 30, 31, 32, 33, 34, 35, 36, 37, 38, 39, 40, 41, 42, 43, 44, 45, 46, 47, 48, 15, 49, 50, 51, 52, 53, 54, 55, 56, 57, 75, 76, 77, 78, 79, 80, 81, 82, 83, 84, 85, 86, 87, 88, 89, 90] (by decide +kernel) (by decide +kernel)
set_option maxRecDepth 20000 in
theorem gX9_sinned_X3_ofNet : GoodIn wsX9_sinned (va_wsS RX9 178 yX3_ofNet wsX3_ofNet) := goodIn_app (goodIn_of _ (by decide +kernel)) ggX9_sinned_X3_ofNet
set_option maxRecDepth 20000 in
theorem ggX9_sinned_X9_inLowest : GoodIn wsX9_sinned wsX9_inLowest := goodIn_r _ [60, 2, 61, 62, 7, 63] (by decide +kernel) (by decide +kernel)
set_option maxRecDepth 20000 in
theorem gX9_sinned_X9_inLowest : GoodIn wsX9_sinned (va_wsS RX9 171 yX9_inLowest wsX9_inLowest) := goodIn_app (goodIn_of _ (by decide +kernel)) ggX9_sinned_X9_inLowest
theorem dX9_sinned_0 : decode cX9_sinned 0 = .ok (.aload_n 0, 1) := by decide +kernel
theorem dX9_sinned_1 : decode cX9_sinned 1 = .ok (.iload_n 1, 1) := by decide +kernel
theorem dX9_sinned_2 : decode cX9_sinned 2 = .ok (.invokevirtual 110, 3) := by decide +kernel
theorem dX9_sinned_5 : decode cX9_sinned 5 = .ok (.astore 4, 2) := by decide +kernel
theorem dX9_sinned_7 : decode cX9_sinned 7 = .ok (.aload 4, 2) := by decide +kernel
theorem dX9_sinned_9 : decode cX9_sinned 9 = .ok (.ifnonnull 7, 3) := by decide +kernel
theorem dX9_sinned_12 : decode cX9_sinned 12 = .ok (.ldc2_w 157, 3) := by decide +kernel
theorem dX9_sinned_15 : decode cX9_sinned 15 = .ok (.lreturn, 1) := by decide +kernel
theorem dX9_sinned_16 : decode cX9_sinned 16 = .ok (.iload_n 2, 1) := by decide +kernel
theorem dX9_sinned_17 : decode cX9_sinned 17 = .ok (.invokestatic 175, 3) := by decide +kernel
theorem dX9_sinned_20 : decode cX9_sinned 20 = .ok (.ifCond .eq 12, 3) := by decide +kernel
theorem dX9_sinned_23 : decode cX9_sinned 23 = .ok (.iload_n 3, 1) := by decide +kernel
theorem dX9_sinned_24 : decode cX9_sinned 24 = .ok (.ifCond .lt 8, 3) := by decide +kernel
theorem dX9_sinned_27 : decode cX9_sinned 27 = .ok (.iload_n 3, 1) := by decide +kernel
theorem dX9_sinned_28 : decode cX9_sinned 28 = .ok (.iconst 1, 1) := by decide +kernel
theorem dX9_sinned_29 : decode cX9_sinned 29 = .ok (.if_icmp .le 7, 3) := by decide +kernel
theorem dX9_sinned_32 : decode cX9_sinned 32 = .ok (.ldc2_w 159, 3) := by decide +kernel
theorem dX9_sinned_35 : decode cX9_sinned 35 = .ok (.lreturn, 1) := by decide +kernel
theorem dX9_sinned_36 : decode cX9_sinned 36 = .ok (.aload 4, 2) := by decide +kernel
theorem dX9_sinned_38 : decode cX9_sinned 38 = .ok (.iload_n 2, 1) := by decide +kernel
theorem dX9_sinned_39 : decode cX9_sinned 39 = .ok (.iconst 0, 1) := by decide +kernel
theorem dX9_sinned_40 : decode cX9_sinned 40 = .ok (.invokestatic 178, 3) := by decide +kernel
theorem dX9_sinned_43 : decode cX9_sinned 43 = .ok (.lstore 5, 2) := by decide +kernel
theorem dX9_sinned_45 : decode cX9_sinned 45 = .ok (.lload 5, 2) := by decide +kernel
theorem dX9_sinned_47 : decode cX9_sinned 47 = .ok (.lconst 0, 1) := by decide +kernel
theorem dX9_sinned_48 : decode cX9_sinned 48 = .ok (.lcmp, 1) := by decide +kernel
theorem dX9_sinned_49 : decode cX9_sinned 49 = .ok (.ifCond .ne 7, 3) := by decide +kernel
theorem dX9_sinned_52 : decode cX9_sinned 52 = .ok (.ldc2_w 181, 3) := by decide +kernel
theorem dX9_sinned_55 : decode cX9_sinned 55 = .ok (.lreturn, 1) := by decide +kernel
theorem dX9_sinned_56 : decode cX9_sinned 56 = .ok (.aload 4, 2) := by decide +kernel
theorem dX9_sinned_58 : decode cX9_sinned 58 = .ok (.iload_n 2, 1) := by decide +kernel
theorem dX9_sinned_59 : decode cX9_sinned 59 = .ok (.iconst 1, 1) := by decide +kernel
theorem dX9_sinned_60 : decode cX9_sinned 60 = .ok (.invokestatic 178, 3) := by decide +kernel
theorem dX9_sinned_63 : decode cX9_sinned 63 = .ok (.lload 5, 2) := by decide +kernel
theorem dX9_sinned_65 : decode cX9_sinned 65 = .ok (.iload_n 3, 1) := by decide +kernel
theorem dX9_sinned_66 : decode cX9_sinned 66 = .ok (.invokestatic 171, 3) := by decide +kernel
theorem dX9_sinned_69 : decode cX9_sinned 69 = .ok (.lreturn, 1) := by decide +kernel
set_option maxRecDepth 20000 in
theorem ggX9_bounds_X8_fewestSins : GoodIn wsX9_bounds wsX8_fewestSins := goodIn_r _ [7, 8, 9, 10, 6, 11, 12, 13, 14, 15, 16, 17, 18, 19, 20, 21, 22, 23, 24, 25, 26, 27, 28, 29, 30, 31, 32, 33, 34, 35, 36, 37, 38, 39, 40, 41, 42, 43, 44, 45, 46, 47, 48, 49, 50, 51, 52, 53, 54, 55, 56, 57, 58, 59, 60, 61, 62, 63, 64, 65, 66, 67, 68, 69, 70, 71, 72, 73, 74, 75, 76, 77, 78, 79, 80, 81, 82, 83, 84, 85, 86, 87, 88, 89, 90, 91, 92, 93, 94, 95, 96, 128, 129, 130, 131, 132, 133, 134, 135, 136, 137, 138, 139, 140, 141, 142, 143, 144, 145] (by decide +kernel) (by decide +kernel)
set_option maxRecDepth 20000 in
theorem gX9_bounds_X8_fewestSins : GoodIn wsX9_bounds (wsV RX9 183 RX8 yX8_fewestSins wsX8_fewestSins) := goodIn_app (goodIn_of _ (by decide +kernel)) ggX9_bounds_X8_fewestSins
set_option maxRecDepth 20000 in
theorem ggX9_bounds_X8_mostSins : GoodIn wsX9_bounds wsX8_mostSins := goodIn_r _ [100, 8, 9, 10, 6, 11, 12, 13, 14, 15, 16, 17, 18, 19, 20, 21, 22, 23, 24, 25, 26, 27, 28, 29, 30, 31, 32, 33, 34, 35, 36, 37, 38, 39, 40, 41, 42, 43, 44, 45, 46, 47, 48, 49, 50, 51, 52, 53, 54, 55, 56, 57, 58, 59, 60, 61, 62, 63, 64, 65, 66, 67, 68, 69, 70, 71, 72, 73, 74, 75, 76, 77, 78, 79, 80, 81, 82, 83, 84, 85, 86, 87, 88, 89, 90, 91, 92, 93, 94, 95, 96, 128, 129, 130, 131, 132, 133, 134, 135, 136, 137, 138, 139, 140, 141, 142, 143, 144, 145] (by decide +kernel) (by decide +kernel)
set_option maxRecDepth 20000 in
theorem gX9_bounds_X8_mostSins : GoodIn wsX9_bounds (wsV RX9 187 RX8 yX8_mostSins wsX8_mostSins) := goodIn_app (goodIn_of _ (by decide +kernel)) ggX9_bounds_X8_mostSins
set_option maxRecDepth 20000 in
theorem ggX9_bounds_X8_whoMust : GoodIn wsX9_bounds wsX8_whoMust := goodIn_r _ [104, 8, 9, 10, 6, 11, 12, 13, 14, 15, 16, 17, 18, 19, 20, 21, 22, 23, 24, 25, 26, 27, 28, 29, 30, 31, 32, 33, 34, 35, 36, 37, 38, 39, 40, 41, 42, 43, 44, 45, 46, 47, 48, 49, 50, 51, 52, 53, 54, 55, 56, 57, 58, 59, 60, 61, 62, 63, 64, 65, 66, 67, 68, 69, 70, 71, 72, 73, 74, 75, 76, 77, 78, 79, 80, 81, 82, 83, 84, 85, 86, 87, 88, 89, 90, 91, 92, 93, 94, 95, 96, 105, 106, 107, 108, 128, 129, 130, 131, 132, 133, 134, 135, 136, 137, 138, 139, 140, 141, 142, 143, 144, 145] (by decide +kernel) (by decide +kernel)
set_option maxRecDepth 20000 in
theorem gX9_bounds_X8_whoMust : GoodIn wsX9_bounds (wsV RX9 190 RX8 yX8_whoMust wsX8_whoMust) := goodIn_app (goodIn_of _ (by decide +kernel)) ggX9_bounds_X8_whoMust
set_option maxRecDepth 20000 in
theorem ggX9_bounds_X8_whoMay : GoodIn wsX9_bounds wsX8_whoMay := goodIn_r _ [112, 113, 114, 115, 6, 116, 25, 31, 32, 33, 34, 35, 36, 37, 38, 39, 40, 41, 42, 12, 13, 14, 15, 16, 17, 18, 19, 20, 21, 22, 23, 24, 26, 27, 28, 29, 30, 43, 44, 45, 46, 47, 48, 49, 50, 51, 52, 53, 54, 55, 56, 57, 58, 59, 60, 61, 62, 63, 64, 65, 66, 67, 68, 69, 70, 71, 72, 73, 74, 75, 76, 77, 78, 79, 80, 81, 82, 83, 84, 85, 86, 87, 88, 89, 90, 91, 92, 93, 94, 95, 96, 130, 131, 132, 133, 134, 135, 136, 137, 138, 139, 140, 141, 142, 143, 144, 145, 128, 129] (by decide +kernel) (by decide +kernel)
set_option maxRecDepth 20000 in
theorem gX9_bounds_X8_whoMay : GoodIn wsX9_bounds (wsV RX9 193 RX8 yX8_whoMay wsX8_whoMay) := goodIn_app (goodIn_of _ (by decide +kernel)) ggX9_bounds_X8_whoMay
theorem dX9_bounds_0 : decode cX9_bounds 0 = .ok (.iload_n 1, 1) := by decide +kernel
theorem dX9_bounds_1 : decode cX9_bounds 1 = .ok (.bipush (-54), 2) := by decide +kernel
theorem dX9_bounds_3 : decode cX9_bounds 3 = .ok (.if_icmp .lt 10, 3) := by decide +kernel
theorem dX9_bounds_6 : decode cX9_bounds 6 = .ok (.iload_n 1, 1) := by decide +kernel
theorem dX9_bounds_7 : decode cX9_bounds 7 = .ok (.sipush 216, 3) := by decide +kernel
theorem dX9_bounds_10 : decode cX9_bounds 10 = .ok (.if_icmp .le 6, 3) := by decide +kernel
theorem dX9_bounds_13 : decode cX9_bounds 13 = .ok (.bipush (-102), 2) := by decide +kernel
theorem dX9_bounds_15 : decode cX9_bounds 15 = .ok (.ireturn, 1) := by decide +kernel
theorem dX9_bounds_16 : decode cX9_bounds 16 = .ok (.iload_n 2, 1) := by decide +kernel
theorem dX9_bounds_17 : decode cX9_bounds 17 = .ok (.tableswitch 83 0 3 #[31, 44, 57, 70], 31) := by decide +kernel
theorem dX9_bounds_48 : decode cX9_bounds 48 = .ok (.aload_n 0, 1) := by decide +kernel
theorem dX9_bounds_49 : decode cX9_bounds 49 = .ok (.getfield 48, 3) := by decide +kernel
theorem dX9_bounds_52 : decode cX9_bounds 52 = .ok (.aload_n 0, 1) := by decide +kernel
theorem dX9_bounds_53 : decode cX9_bounds 53 = .ok (.getfield 24, 3) := by decide +kernel
theorem dX9_bounds_56 : decode cX9_bounds 56 = .ok (.iload_n 1, 1) := by decide +kernel
theorem dX9_bounds_57 : decode cX9_bounds 57 = .ok (.invokevirtual 183, 3) := by decide +kernel
theorem dX9_bounds_60 : decode cX9_bounds 60 = .ok (.ireturn, 1) := by decide +kernel
theorem dX9_bounds_61 : decode cX9_bounds 61 = .ok (.aload_n 0, 1) := by decide +kernel
theorem dX9_bounds_62 : decode cX9_bounds 62 = .ok (.getfield 48, 3) := by decide +kernel
theorem dX9_bounds_65 : decode cX9_bounds 65 = .ok (.aload_n 0, 1) := by decide +kernel
theorem dX9_bounds_66 : decode cX9_bounds 66 = .ok (.getfield 24, 3) := by decide +kernel
theorem dX9_bounds_69 : decode cX9_bounds 69 = .ok (.iload_n 1, 1) := by decide +kernel
theorem dX9_bounds_70 : decode cX9_bounds 70 = .ok (.invokevirtual 187, 3) := by decide +kernel
theorem dX9_bounds_73 : decode cX9_bounds 73 = .ok (.ireturn, 1) := by decide +kernel
theorem dX9_bounds_74 : decode cX9_bounds 74 = .ok (.aload_n 0, 1) := by decide +kernel
theorem dX9_bounds_75 : decode cX9_bounds 75 = .ok (.getfield 48, 3) := by decide +kernel
theorem dX9_bounds_78 : decode cX9_bounds 78 = .ok (.aload_n 0, 1) := by decide +kernel
theorem dX9_bounds_79 : decode cX9_bounds 79 = .ok (.getfield 24, 3) := by decide +kernel
theorem dX9_bounds_82 : decode cX9_bounds 82 = .ok (.iload_n 1, 1) := by decide +kernel
theorem dX9_bounds_83 : decode cX9_bounds 83 = .ok (.invokevirtual 190, 3) := by decide +kernel
theorem dX9_bounds_86 : decode cX9_bounds 86 = .ok (.ireturn, 1) := by decide +kernel
theorem dX9_bounds_87 : decode cX9_bounds 87 = .ok (.aload_n 0, 1) := by decide +kernel
theorem dX9_bounds_88 : decode cX9_bounds 88 = .ok (.getfield 48, 3) := by decide +kernel
theorem dX9_bounds_91 : decode cX9_bounds 91 = .ok (.aload_n 0, 1) := by decide +kernel
theorem dX9_bounds_92 : decode cX9_bounds 92 = .ok (.getfield 24, 3) := by decide +kernel
theorem dX9_bounds_95 : decode cX9_bounds 95 = .ok (.iload_n 1, 1) := by decide +kernel
theorem dX9_bounds_96 : decode cX9_bounds 96 = .ok (.invokevirtual 193, 3) := by decide +kernel
theorem dX9_bounds_99 : decode cX9_bounds 99 = .ok (.ireturn, 1) := by decide +kernel
theorem dX9_bounds_100 : decode cX9_bounds 100 = .ok (.bipush (-102), 2) := by decide +kernel
theorem dX9_bounds_102 : decode cX9_bounds 102 = .ok (.ireturn, 1) := by decide +kernel
set_option maxRecDepth 20000 in
theorem ggX9_shows_X9_customAt : GoodIn wsX9_shows wsX9_customAt := goodIn_r _ [8, 9, 149, 150, 151, 152, 153, 154, 155, 156, 157, 158, 159] (by decide +kernel) (by decide +kernel)
set_option maxRecDepth 20000 in
theorem gX9_shows_X9_customAt : GoodIn wsX9_shows (wsV RX9 79 RX9 yX9_customAt wsX9_customAt) := goodIn_app (goodIn_of _ (by decide +kernel)) ggX9_shows_X9_customAt
set_option maxRecDepth 20000 in
theorem ggX9_shows_X9_isCairn : GoodIn wsX9_shows wsX9_isCairn := goodIn_r _ [12] (by decide +kernel) (by decide +kernel)
set_option maxRecDepth 20000 in
theorem gX9_shows_X9_isCairn : GoodIn wsX9_shows (va_wsS RX9 119 yX9_isCairn wsX9_isCairn) := goodIn_app (goodIn_of _ (by decide +kernel)) ggX9_shows_X9_isCairn
set_option maxRecDepth 20000 in
theorem ggX9_shows_X2_become : GoodIn wsX9_shows wsX2_become := goodIn_r _ [17, 18, 19, 20, 21, 22, 23, 24, 25, 26, 27, 28, 29, 160, 161, 162, 163, 164, 165, 166, 167] (by decide +kernel) (by decide +kernel)
set_option maxRecDepth 20000 in
theorem gX9_shows_X2_become : GoodIn wsX9_shows (wsV RX9 196 RX2 yX2_become wsX2_become) := goodIn_app (goodIn_of _ (by decide +kernel)) ggX9_shows_X2_become
set_option maxRecDepth 20000 in
theorem ggX9_shows_X2_layNew : GoodIn wsX9_shows wsX2_layNew := goodIn_r _ [33, 24, 27, 34, 35, 36, 16, 37, 18, 29, 23, 11, 7, 12, 160, 161, 162, 163, 164, 165, 166, 167] (by decide +kernel) (by decide +kernel)
set_option maxRecDepth 20000 in
theorem gX9_shows_X2_layNew : GoodIn wsX9_shows (wsV RX9 123 RX2 yX2_layNew wsX2_layNew) := goodIn_app (goodIn_of _ (by decide +kernel)) ggX9_shows_X2_layNew
set_option maxRecDepth 20000 in
theorem ggX9_shows_X2_goOneWeek : GoodIn wsX9_shows wsX2_goOneWeek := goodIn_r _ [41, 24, 42, 43, 44, 45, 16, 46, 47, 48, 25, 49, 50, 51, 52, 53, 54, 55, 26, 56, 57, 58, 59, 60, 61, 62, 63, 64, 65, 18, 66, 67, 68, 69, 70, 71, 72, 73, 74, 75, 76, 77, 78, 79, 80, 81, 82, 83, 84, 85, 86, 31, 32, 33, 27, 34, 35, 36, 37, 29, 23, 11, 7, 12, 87, 88, 89, 90, 91, 92, 93, 94, 95, 96, 97, 98, 99, 100, 101, 102, 103, 104, 105, 106, 107, 108, 109, 110, 111, 112, 113, 114, 115, 116, 117, 118, 119, 120, 121, 122, 123, 124, 125, 126, 28, 127, 128, 129, 130, 131, 132, 133, 134, 135, 136, 137, 138, 139, 140, 160, 161, 162, 163, 164, 165, 166, 167, 168, 169, 170, 171, 172, 173, 174, 175, 176, 177, 178, 179, 180, 181, 182, 183, 184, 185, 186] (by decide +kernel) (by decide +kernel)
set_option maxRecDepth 20000 in
theorem gX9_shows_X2_goOneWeek : GoodIn wsX9_shows (wsV RX9 143 RX2 yX2_goOneWeek wsX2_goOneWeek) := goodIn_app (goodIn_of _ (by decide +kernel)) ggX9_shows_X2_goOneWeek
set_option maxRecDepth 20000 in
theorem ggX9_shows_X2_hasMostAlone : GoodIn wsX9_shows wsX2_hasMostAlone := goodIn_r _ [144, 18, 11, 7, 12, 145, 146, 147, 16, 148, 160, 161, 162, 163, 164, 165, 166, 167] (by decide +kernel) (by decide +kernel)
set_option maxRecDepth 20000 in
theorem gX9_shows_X2_hasMostAlone : GoodIn wsX9_shows (wsV RX9 200 RX2 yX2_hasMostAlone wsX2_hasMostAlone) := goodIn_app (goodIn_of _ (by decide +kernel)) ggX9_shows_X2_hasMostAlone
theorem dX9_shows_0 : decode cX9_shows 0 = .ok (.aload_n 0, 1) := by decide +kernel
theorem dX9_shows_1 : decode cX9_shows 1 = .ok (.iload_n 1, 1) := by decide +kernel
theorem dX9_shows_2 : decode cX9_shows 2 = .ok (.invokevirtual 79, 3) := by decide +kernel
theorem dX9_shows_5 : decode cX9_shows 5 = .ok (.astore 4, 2) := by decide +kernel
theorem dX9_shows_7 : decode cX9_shows 7 = .ok (.aload 4, 2) := by decide +kernel
theorem dX9_shows_9 : decode cX9_shows 9 = .ok (.ifnull 10, 3) := by decide +kernel
theorem dX9_shows_12 : decode cX9_shows 12 = .ok (.iload_n 2, 1) := by decide +kernel
theorem dX9_shows_13 : decode cX9_shows 13 = .ok (.invokestatic 119, 3) := by decide +kernel
theorem dX9_shows_16 : decode cX9_shows 16 = .ok (.ifCond .ne 6, 3) := by decide +kernel
theorem dX9_shows_19 : decode cX9_shows 19 = .ok (.bipush (-101), 2) := by decide +kernel
theorem dX9_shows_21 : decode cX9_shows 21 = .ok (.ireturn, 1) := by decide +kernel
theorem dX9_shows_22 : decode cX9_shows 22 = .ok (.iload_n 3, 1) := by decide +kernel
theorem dX9_shows_23 : decode cX9_shows 23 = .ok (.ifCond .lt 9, 3) := by decide +kernel
theorem dX9_shows_26 : decode cX9_shows 26 = .ok (.iload_n 3, 1) := by decide +kernel
theorem dX9_shows_27 : decode cX9_shows 27 = .ok (.bipush 60, 2) := by decide +kernel
theorem dX9_shows_29 : decode cX9_shows 29 = .ok (.if_icmp .le 6, 3) := by decide +kernel
theorem dX9_shows_32 : decode cX9_shows 32 = .ok (.bipush (-102), 2) := by decide +kernel
theorem dX9_shows_34 : decode cX9_shows 34 = .ok (.ireturn, 1) := by decide +kernel
theorem dX9_shows_35 : decode cX9_shows 35 = .ok (.aload_n 0, 1) := by decide +kernel
theorem dX9_shows_36 : decode cX9_shows 36 = .ok (.getfield 38, 3) := by decide +kernel
theorem dX9_shows_39 : decode cX9_shows 39 = .ok (.aload_n 0, 1) := by decide +kernel
theorem dX9_shows_40 : decode cX9_shows 40 = .ok (.getfield 31, 3) := by decide +kernel
theorem dX9_shows_43 : decode cX9_shows 43 = .ok (.invokevirtual 196, 3) := by decide +kernel
theorem dX9_shows_46 : decode cX9_shows 46 = .ok (.aload_n 0, 1) := by decide +kernel
theorem dX9_shows_47 : decode cX9_shows 47 = .ok (.getfield 38, 3) := by decide +kernel
theorem dX9_shows_50 : decode cX9_shows 50 = .ok (.iload_n 2, 1) := by decide +kernel
theorem dX9_shows_51 : decode cX9_shows 51 = .ok (.iload_n 3, 1) := by decide +kernel
theorem dX9_shows_52 : decode cX9_shows 52 = .ok (.invokevirtual 123, 3) := by decide +kernel
theorem dX9_shows_55 : decode cX9_shows 55 = .ok (.iconst 0, 1) := by decide +kernel
theorem dX9_shows_56 : decode cX9_shows 56 = .ok (.istore 5, 2) := by decide +kernel
theorem dX9_shows_58 : decode cX9_shows 58 = .ok (.iload 5, 2) := by decide +kernel
theorem dX9_shows_60 : decode cX9_shows 60 = .ok (.bipush 60, 2) := by decide +kernel
theorem dX9_shows_62 : decode cX9_shows 62 = .ok (.if_icmp .gt 41, 3) := by decide +kernel
theorem dX9_shows_65 : decode cX9_shows 65 = .ok (.iload 5, 2) := by decide +kernel
theorem dX9_shows_67 : decode cX9_shows 67 = .ok (.ifCond .le 16, 3) := by decide +kernel
theorem dX9_shows_70 : decode cX9_shows 70 = .ok (.aload_n 0, 1) := by decide +kernel
theorem dX9_shows_71 : decode cX9_shows 71 = .ok (.getfield 38, 3) := by decide +kernel
theorem dX9_shows_74 : decode cX9_shows 74 = .ok (.aload 4, 2) := by decide +kernel
theorem dX9_shows_76 : decode cX9_shows 76 = .ok (.aload_n 0, 1) := by decide +kernel
theorem dX9_shows_77 : decode cX9_shows 77 = .ok (.getfield 24, 3) := by decide +kernel
theorem dX9_shows_80 : decode cX9_shows 80 = .ok (.invokevirtual 143, 3) := by decide +kernel
theorem dX9_shows_83 : decode cX9_shows 83 = .ok (.aload_n 0, 1) := by decide +kernel
theorem dX9_shows_84 : decode cX9_shows 84 = .ok (.getfield 38, 3) := by decide +kernel
theorem dX9_shows_87 : decode cX9_shows 87 = .ok (.iload_n 2, 1) := by decide +kernel
theorem dX9_shows_88 : decode cX9_shows 88 = .ok (.invokevirtual 200, 3) := by decide +kernel
theorem dX9_shows_91 : decode cX9_shows 91 = .ok (.ifCond .ne 6, 3) := by decide +kernel
theorem dX9_shows_94 : decode cX9_shows 94 = .ok (.iload 5, 2) := by decide +kernel
theorem dX9_shows_96 : decode cX9_shows 96 = .ok (.ireturn, 1) := by decide +kernel
theorem dX9_shows_97 : decode cX9_shows 97 = .ok (.iinc 5 1, 3) := by decide +kernel
theorem dX9_shows_100 : decode cX9_shows 100 = .ok (.goto (-42), 3) := by decide +kernel
theorem dX9_shows_103 : decode cX9_shows 103 = .ok (.iconst (-1), 1) := by decide +kernel
theorem dX9_shows_104 : decode cX9_shows 104 = .ok (.ireturn, 1) := by decide +kernel
set_option maxRecDepth 20000 in
theorem ggX9_gone_X9_customAt : GoodIn wsX9_gone wsX9_customAt := goodIn_r _ [8, 9, 145, 146, 147, 148, 149, 150, 151, 152, 153, 154, 155] (by decide +kernel) (by decide +kernel)
set_option maxRecDepth 20000 in
theorem gX9_gone_X9_customAt : GoodIn wsX9_gone (wsV RX9 79 RX9 yX9_customAt wsX9_customAt) := goodIn_app (goodIn_of _ (by decide +kernel)) ggX9_gone_X9_customAt
set_option maxRecDepth 20000 in
theorem ggX9_gone_X9_isCairn : GoodIn wsX9_gone wsX9_isCairn := goodIn_r _ [12] (by decide +kernel) (by decide +kernel)
set_option maxRecDepth 20000 in
theorem gX9_gone_X9_isCairn : GoodIn wsX9_gone (va_wsS RX9 119 yX9_isCairn wsX9_isCairn) := goodIn_app (goodIn_of _ (by decide +kernel)) ggX9_gone_X9_isCairn
set_option maxRecDepth 20000 in
theorem ggX9_gone_X2_become : GoodIn wsX9_gone wsX2_become := goodIn_r _ [17, 18, 19, 20, 21, 22, 23, 24, 25, 26, 27, 28, 29, 156, 157, 158, 159, 160, 161, 162, 163] (by decide +kernel) (by decide +kernel)
set_option maxRecDepth 20000 in
theorem gX9_gone_X2_become : GoodIn wsX9_gone (wsV RX9 196 RX2 yX2_become wsX2_become) := goodIn_app (goodIn_of _ (by decide +kernel)) ggX9_gone_X2_become
set_option maxRecDepth 20000 in
theorem ggX9_gone_X9_dreamTillEmpty : GoodIn wsX9_gone wsX9_dreamTillEmpty := goodIn_r _ [33, 1, 34, 3, 35, 36, 37, 16, 38, 24, 39, 40, 41, 42, 43, 44, 45, 25, 46, 47, 48, 49, 50, 51, 52, 26, 53, 54, 55, 56, 57, 58, 59, 60, 61, 62, 18, 63, 64, 65, 66, 67, 68, 69, 70, 71, 72, 73, 74, 75, 76, 77, 78, 79, 80, 81, 82, 83, 84, 85, 86, 27, 87, 88, 89, 90, 29, 23, 11, 7, 12, 91, 92, 93, 94, 95, 96, 97, 98, 99, 100, 101, 102, 103, 104, 105, 106, 107, 108, 109, 110, 111, 112, 113, 114, 115, 116, 117, 118, 119, 120, 121, 122, 123, 124, 125, 126, 127, 128, 129, 130, 28, 131, 132, 133, 134, 135, 136, 137, 138, 139, 140, 141, 142, 143, 144, 10, 145, 146, 147, 148, 149, 150, 151, 152, 153, 154, 155, 156, 157, 158, 159, 160, 161, 162, 163, 164, 165, 166, 167, 168, 169, 170, 171, 172, 173, 174, 175, 176, 177, 178, 179, 180, 181, 182] (by decide +kernel) (by decide +kernel)
set_option maxRecDepth 20000 in
theorem gX9_gone_X9_dreamTillEmpty : GoodIn wsX9_gone (wsV RX9 203 RX9 yX9_dreamTillEmpty wsX9_dreamTillEmpty) := goodIn_app (goodIn_of _ (by decide +kernel)) ggX9_gone_X9_dreamTillEmpty
theorem dX9_gone_0 : decode cX9_gone 0 = .ok (.aload_n 0, 1) := by decide +kernel
theorem dX9_gone_1 : decode cX9_gone 1 = .ok (.iload_n 1, 1) := by decide +kernel
theorem dX9_gone_2 : decode cX9_gone 2 = .ok (.invokevirtual 79, 3) := by decide +kernel
theorem dX9_gone_5 : decode cX9_gone 5 = .ok (.astore_n 3, 1) := by decide +kernel
theorem dX9_gone_6 : decode cX9_gone 6 = .ok (.aload_n 3, 1) := by decide +kernel
theorem dX9_gone_7 : decode cX9_gone 7 = .ok (.ifnull 10, 3) := by decide +kernel
theorem dX9_gone_10 : decode cX9_gone 10 = .ok (.iload_n 2, 1) := by decide +kernel
theorem dX9_gone_11 : decode cX9_gone 11 = .ok (.invokestatic 119, 3) := by decide +kernel
theorem dX9_gone_14 : decode cX9_gone 14 = .ok (.ifCond .ne 6, 3) := by decide +kernel
