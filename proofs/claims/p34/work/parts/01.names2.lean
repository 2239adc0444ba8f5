theorem dX0_init_0 : decode cX0_init 0 = .ok (.aload_n 0, 1) := by decide +kernel
theorem dX0_init_1 : decode cX0_init 1 = .ok (.iload_n 1, 1) := by decide +kernel
theorem dX0_init_2 : decode cX0_init 2 = .ok (.invokespecial 3, 3) := by decide +kernel
theorem dX0_init_5 : decode cX0_init 5 = .ok (.return_, 1) := by decide +kernel
theorem dX0_sinsAtMost_0 : decode cX0_sinsAtMost 0 = .ok (.iconst 1, 1) := by decide +kernel
theorem dX0_sinsAtMost_1 : decode cX0_sinsAtMost 1 = .ok (.ireturn, 1) := by decide +kernel
theorem dX1_init_0 : decode cX1_init 0 = .ok (.aload_n 0, 1) := by decide +kernel
theorem dX1_init_1 : decode cX1_init 1 = .ok (.invokespecial 1, 3) := by decide +kernel
theorem dX1_init_4 : decode cX1_init 4 = .ok (.aload_n 0, 1) := by decide +kernel
theorem dX1_init_5 : decode cX1_init 5 = .ok (.iload_n 1, 1) := by decide +kernel
theorem dX1_init_6 : decode cX1_init 6 = .ok (.putfield 7, 3) := by decide +kernel
theorem dX1_init_9 : decode cX1_init 9 = .ok (.aload_n 0, 1) := by decide +kernel
theorem dX1_init_10 : decode cX1_init 10 = .ok (.iload_n 2, 1) := by decide +kernel
theorem dX1_init_11 : decode cX1_init 11 = .ok (.putfield 13, 3) := by decide +kernel
theorem dX1_init_14 : decode cX1_init 14 = .ok (.aload_n 0, 1) := by decide +kernel
theorem dX1_init_15 : decode cX1_init 15 = .ok (.iload_n 3, 1) := by decide +kernel
theorem dX1_init_16 : decode cX1_init 16 = .ok (.putfield 16, 3) := by decide +kernel
theorem dX1_init_19 : decode cX1_init 19 = .ok (.return_, 1) := by decide +kernel
theorem dX1_told_0 : decode cX1_told 0 = .ok (.iload_n 1, 1) := by decide +kernel
theorem dX1_told_1 : decode cX1_told 1 = .ok (.ifCond .ne 8, 3) := by decide +kernel
theorem dX1_told_4 : decode cX1_told 4 = .ok (.aload_n 0, 1) := by decide +kernel
theorem dX1_told_5 : decode cX1_told 5 = .ok (.getfield 7, 3) := by decide +kernel
theorem dX1_told_8 : decode cX1_told 8 = .ok (.ireturn, 1) := by decide +kernel
theorem dX1_told_9 : decode cX1_told 9 = .ok (.iload_n 1, 1) := by decide +kernel
theorem dX1_told_10 : decode cX1_told 10 = .ok (.iconst 1, 1) := by decide +kernel
theorem dX1_told_11 : decode cX1_told 11 = .ok (.if_icmp .ne 10, 3) := by decide +kernel
theorem dX1_told_14 : decode cX1_told 14 = .ok (.aload_n 0, 1) := by decide +kernel
theorem dX1_told_15 : decode cX1_told 15 = .ok (.getfield 13, 3) := by decide +kernel
theorem dX1_told_18 : decode cX1_told 18 = .ok (.goto 7, 3) := by decide +kernel
theorem dX1_told_21 : decode cX1_told 21 = .ok (.aload_n 0, 1) := by decide +kernel
theorem dX1_told_22 : decode cX1_told 22 = .ok (.getfield 16, 3) := by decide +kernel
theorem dX1_told_25 : decode cX1_told 25 = .ok (.ireturn, 1) := by decide +kernel
theorem dX1_floodsIn_0 : decode cX1_floodsIn 0 = .ok (.aload_n 0, 1) := by decide +kernel
theorem dX1_floodsIn_1 : decode cX1_floodsIn 1 = .ok (.getfield 16, 3) := by decide +kernel
theorem dX1_floodsIn_4 : decode cX1_floodsIn 4 = .ok (.ifCond .le 16, 3) := by decide +kernel
theorem dX1_floodsIn_7 : decode cX1_floodsIn 7 = .ok (.iload_n 1, 1) := by decide +kernel
theorem dX1_floodsIn_8 : decode cX1_floodsIn 8 = .ok (.aload_n 0, 1) := by decide +kernel
theorem dX1_floodsIn_9 : decode cX1_floodsIn 9 = .ok (.getfield 16, 3) := by decide +kernel
theorem dX1_floodsIn_12 : decode cX1_floodsIn 12 = .ok (.irem, 1) := by decide +kernel
theorem dX1_floodsIn_13 : decode cX1_floodsIn 13 = .ok (.ifCond .ne 7, 3) := by decide +kernel
theorem dX1_floodsIn_16 : decode cX1_floodsIn 16 = .ok (.iconst 1, 1) := by decide +kernel
theorem dX1_floodsIn_17 : decode cX1_floodsIn 17 = .ok (.goto 4, 3) := by decide +kernel
theorem dX1_floodsIn_20 : decode cX1_floodsIn 20 = .ok (.iconst 0, 1) := by decide +kernel
theorem dX1_floodsIn_21 : decode cX1_floodsIn 21 = .ok (.ireturn, 1) := by decide +kernel
theorem dX2_init_0 : decode cX2_init 0 = .ok (.aload_n 0, 1) := by decide +kernel
theorem dX2_init_1 : decode cX2_init 1 = .ok (.invokespecial 3, 3) := by decide +kernel
theorem dX2_init_4 : decode cX2_init 4 = .ok (.aload_n 0, 1) := by decide +kernel
theorem dX2_init_5 : decode cX2_init 5 = .ok (.bipush 7, 2) := by decide +kernel
theorem dX2_init_7 : decode cX2_init 7 = .ok (.newarray .int, 2) := by decide +kernel
theorem dX2_init_9 : decode cX2_init 9 = .ok (.putfield 9, 3) := by decide +kernel
theorem dX2_init_12 : decode cX2_init 12 = .ok (.aload_n 0, 1) := by decide +kernel
theorem dX2_init_13 : decode cX2_init 13 = .ok (.sipush 420, 3) := by decide +kernel
theorem dX2_init_16 : decode cX2_init 16 = .ok (.newarray .int, 2) := by decide +kernel
theorem dX2_init_18 : decode cX2_init 18 = .ok (.putfield 15, 3) := by decide +kernel
theorem dX2_init_21 : decode cX2_init 21 = .ok (.aload_n 0, 1) := by decide +kernel
theorem dX2_init_22 : decode cX2_init 22 = .ok (.iconst 1, 1) := by decide +kernel
theorem dX2_init_23 : decode cX2_init 23 = .ok (.putfield 18, 3) := by decide +kernel
theorem dX2_init_26 : decode cX2_init 26 = .ok (.return_, 1) := by decide +kernel
theorem dX2_become_0 : decode cX2_become 0 = .ok (.aload_n 1, 1) := by decide +kernel
theorem dX2_become_1 : decode cX2_become 1 = .ok (.getfield 9, 3) := by decide +kernel
theorem dX2_become_4 : decode cX2_become 4 = .ok (.iconst 0, 1) := by decide +kernel
theorem dX2_become_5 : decode cX2_become 5 = .ok (.aload_n 0, 1) := by decide +kernel
theorem dX2_become_6 : decode cX2_become 6 = .ok (.getfield 9, 3) := by decide +kernel
theorem dX2_become_9 : decode cX2_become 9 = .ok (.iconst 0, 1) := by decide +kernel
theorem dX2_become_10 : decode cX2_become 10 = .ok (.bipush 7, 2) := by decide +kernel
theorem dX2_become_12 : decode cX2_become 12 = .ok (.invokestatic 22, 3) := by decide +kernel
theorem dX2_become_15 : decode cX2_become 15 = .ok (.aload_n 1, 1) := by decide +kernel
theorem dX2_become_16 : decode cX2_become 16 = .ok (.getfield 15, 3) := by decide +kernel
theorem dX2_become_19 : decode cX2_become 19 = .ok (.iconst 0, 1) := by decide +kernel
theorem dX2_become_20 : decode cX2_become 20 = .ok (.aload_n 0, 1) := by decide +kernel
theorem dX2_become_21 : decode cX2_become 21 = .ok (.getfield 15, 3) := by decide +kernel
theorem dX2_become_24 : decode cX2_become 24 = .ok (.iconst 0, 1) := by decide +kernel
theorem dX2_become_25 : decode cX2_become 25 = .ok (.sipush 420, 3) := by decide +kernel
theorem dX2_become_28 : decode cX2_become 28 = .ok (.invokestatic 22, 3) := by decide +kernel
theorem dX2_become_31 : decode cX2_become 31 = .ok (.aload_n 0, 1) := by decide +kernel
theorem dX2_become_32 : decode cX2_become 32 = .ok (.aload_n 1, 1) := by decide +kernel
theorem dX2_become_33 : decode cX2_become 33 = .ok (.getfield 28, 3) := by decide +kernel
theorem dX2_become_36 : decode cX2_become 36 = .ok (.putfield 28, 3) := by decide +kernel
theorem dX2_become_39 : decode cX2_become 39 = .ok (.aload_n 0, 1) := by decide +kernel
theorem dX2_become_40 : decode cX2_become 40 = .ok (.aload_n 1, 1) := by decide +kernel
theorem dX2_become_41 : decode cX2_become 41 = .ok (.getfield 31, 3) := by decide +kernel
theorem dX2_become_44 : decode cX2_become 44 = .ok (.putfield 31, 3) := by decide +kernel
theorem dX2_become_47 : decode cX2_become 47 = .ok (.aload_n 0, 1) := by decide +kernel
theorem dX2_become_48 : decode cX2_become 48 = .ok (.aload_n 1, 1) := by decide +kernel
theorem dX2_become_49 : decode cX2_become 49 = .ok (.getfield 18, 3) := by decide +kernel
theorem dX2_become_52 : decode cX2_become 52 = .ok (.putfield 18, 3) := by decide +kernel
theorem dX2_become_55 : decode cX2_become 55 = .ok (.aload_n 0, 1) := by decide +kernel
theorem dX2_become_56 : decode cX2_become 56 = .ok (.aload_n 1, 1) := by decide +kernel
theorem dX2_become_57 : decode cX2_become 57 = .ok (.getfield 34, 3) := by decide +kernel
theorem dX2_become_60 : decode cX2_become 60 = .ok (.putfield 34, 3) := by decide +kernel
theorem dX2_become_63 : decode cX2_become 63 = .ok (.aload_n 0, 1) := by decide +kernel
theorem dX2_become_64 : decode cX2_become 64 = .ok (.aload_n 1, 1) := by decide +kernel
theorem dX2_become_65 : decode cX2_become 65 = .ok (.getfield 37, 3) := by decide +kernel
theorem dX2_become_68 : decode cX2_become 68 = .ok (.putfield 37, 3) := by decide +kernel
theorem dX2_become_71 : decode cX2_become 71 = .ok (.aload_n 0, 1) := by decide +kernel
theorem dX2_become_72 : decode cX2_become 72 = .ok (.aload_n 1, 1) := by decide +kernel
theorem dX2_become_73 : decode cX2_become 73 = .ok (.getfield 40, 3) := by decide +kernel
theorem dX2_become_76 : decode cX2_become 76 = .ok (.putfield 40, 3) := by decide +kernel
theorem dX2_become_79 : decode cX2_become 79 = .ok (.return_, 1) := by decide +kernel
theorem dX2_pebbles_0 : decode cX2_pebbles 0 = .ok (.iconst 0, 1) := by decide +kernel
theorem dX2_pebbles_1 : decode cX2_pebbles 1 = .ok (.istore_n 1, 1) := by decide +kernel
theorem dX2_pebbles_2 : decode cX2_pebbles 2 = .ok (.iconst 0, 1) := by decide +kernel
theorem dX2_pebbles_3 : decode cX2_pebbles 3 = .ok (.istore_n 2, 1) := by decide +kernel
theorem dX2_pebbles_4 : decode cX2_pebbles 4 = .ok (.iload_n 2, 1) := by decide +kernel
theorem dX2_pebbles_5 : decode cX2_pebbles 5 = .ok (.bipush 7, 2) := by decide +kernel
theorem dX2_pebbles_7 : decode cX2_pebbles 7 = .ok (.if_icmp .ge 18, 3) := by decide +kernel
theorem dX2_pebbles_10 : decode cX2_pebbles 10 = .ok (.iload_n 1, 1) := by decide +kernel
theorem dX2_pebbles_11 : decode cX2_pebbles 11 = .ok (.aload_n 0, 1) := by decide +kernel
theorem dX2_pebbles_12 : decode cX2_pebbles 12 = .ok (.getfield 9, 3) := by decide +kernel
theorem dX2_pebbles_15 : decode cX2_pebbles 15 = .ok (.iload_n 2, 1) := by decide +kernel
theorem dX2_pebbles_16 : decode cX2_pebbles 16 = .ok (.iaload, 1) := by decide +kernel
theorem dX2_pebbles_17 : decode cX2_pebbles 17 = .ok (.iadd, 1) := by decide +kernel
theorem dX2_pebbles_18 : decode cX2_pebbles 18 = .ok (.istore_n 1, 1) := by decide +kernel
theorem dX2_pebbles_19 : decode cX2_pebbles 19 = .ok (.iinc 2 1, 3) := by decide +kernel
theorem dX2_pebbles_22 : decode cX2_pebbles 22 = .ok (.goto (-18), 3) := by decide +kernel
theorem dX2_pebbles_25 : decode cX2_pebbles 25 = .ok (.iload_n 1, 1) := by decide +kernel
theorem dX2_pebbles_26 : decode cX2_pebbles 26 = .ok (.ireturn, 1) := by decide +kernel
set_option maxRecDepth 20000 in
theorem ggX2_markAt_X9_isCairn : GoodIn wsX2_markAt wsX9_isCairn := goodIn_r _ [5] (by decide +kernel) (by decide +kernel)
set_option maxRecDepth 20000 in
theorem gX2_markAt_X9_isCairn_n43 : GoodIn wsX2_markAt (wsX9_isCairn) := ggX2_markAt_X9_isCairn
theorem dX2_markAt_0 : decode cX2_markAt 0 = .ok (.iload_n 1, 1) := by decide +kernel
theorem dX2_markAt_1 : decode cX2_markAt 1 = .ok (.invokestatic 43, 3) := by decide +kernel
theorem dX2_markAt_4 : decode cX2_markAt 4 = .ok (.ifCond .ne 5, 3) := by decide +kernel
theorem dX2_markAt_7 : decode cX2_markAt 7 = .ok (.iconst (-1), 1) := by decide +kernel
theorem dX2_markAt_8 : decode cX2_markAt 8 = .ok (.ireturn, 1) := by decide +kernel
theorem dX2_markAt_9 : decode cX2_markAt 9 = .ok (.aload_n 0, 1) := by decide +kernel
theorem dX2_markAt_10 : decode cX2_markAt 10 = .ok (.getfield 9, 3) := by decide +kernel
theorem dX2_markAt_13 : decode cX2_markAt 13 = .ok (.iload_n 1, 1) := by decide +kernel
theorem dX2_markAt_14 : decode cX2_markAt 14 = .ok (.iaload, 1) := by decide +kernel
theorem dX2_markAt_15 : decode cX2_markAt 15 = .ok (.iconst 1, 1) := by decide +kernel
theorem dX2_markAt_16 : decode cX2_markAt 16 = .ok (.isub, 1) := by decide +kernel
theorem dX2_markAt_17 : decode cX2_markAt 17 = .ok (.iload_n 2, 1) := by decide +kernel
theorem dX2_markAt_18 : decode cX2_markAt 18 = .ok (.isub, 1) := by decide +kernel
theorem dX2_markAt_19 : decode cX2_markAt 19 = .ok (.istore_n 3, 1) := by decide +kernel
theorem dX2_markAt_20 : decode cX2_markAt 20 = .ok (.iload_n 3, 1) := by decide +kernel
theorem dX2_markAt_21 : decode cX2_markAt 21 = .ok (.ifCond .lt 9, 3) := by decide +kernel
theorem dX2_markAt_24 : decode cX2_markAt 24 = .ok (.iload_n 3, 1) := by decide +kernel
theorem dX2_markAt_25 : decode cX2_markAt 25 = .ok (.bipush 60, 2) := by decide +kernel
theorem dX2_markAt_27 : decode cX2_markAt 27 = .ok (.if_icmp .lt 5, 3) := by decide +kernel
theorem dX2_markAt_30 : decode cX2_markAt 30 = .ok (.iconst (-1), 1) := by decide +kernel
theorem dX2_markAt_31 : decode cX2_markAt 31 = .ok (.ireturn, 1) := by decide +kernel
theorem dX2_markAt_32 : decode cX2_markAt 32 = .ok (.aload_n 0, 1) := by decide +kernel
theorem dX2_markAt_33 : decode cX2_markAt 33 = .ok (.getfield 15, 3) := by decide +kernel
theorem dX2_markAt_36 : decode cX2_markAt 36 = .ok (.iload_n 1, 1) := by decide +kernel
theorem dX2_markAt_37 : decode cX2_markAt 37 = .ok (.bipush 60, 2) := by decide +kernel
theorem dX2_markAt_39 : decode cX2_markAt 39 = .ok (.imul, 1) := by decide +kernel
theorem dX2_markAt_40 : decode cX2_markAt 40 = .ok (.iload_n 3, 1) := by decide +kernel
theorem dX2_markAt_41 : decode cX2_markAt 41 = .ok (.iadd, 1) := by decide +kernel
theorem dX2_markAt_42 : decode cX2_markAt 42 = .ok (.iaload, 1) := by decide +kernel
theorem dX2_markAt_43 : decode cX2_markAt 43 = .ok (.ireturn, 1) := by decide +kernel
theorem dX2_most_0 : decode cX2_most 0 = .ok (.iconst 0, 1) := by decide +kernel
theorem dX2_most_1 : decode cX2_most 1 = .ok (.istore_n 1, 1) := by decide +kernel
theorem dX2_most_2 : decode cX2_most 2 = .ok (.iconst 1, 1) := by decide +kernel
theorem dX2_most_3 : decode cX2_most 3 = .ok (.istore_n 2, 1) := by decide +kernel
theorem dX2_most_4 : decode cX2_most 4 = .ok (.iload_n 2, 1) := by decide +kernel
theorem dX2_most_5 : decode cX2_most 5 = .ok (.bipush 7, 2) := by decide +kernel
theorem dX2_most_7 : decode cX2_most 7 = .ok (.if_icmp .ge 26, 3) := by decide +kernel
theorem dX2_most_10 : decode cX2_most 10 = .ok (.aload_n 0, 1) := by decide +kernel
theorem dX2_most_11 : decode cX2_most 11 = .ok (.getfield 9, 3) := by decide +kernel
theorem dX2_most_14 : decode cX2_most 14 = .ok (.iload_n 2, 1) := by decide +kernel
theorem dX2_most_15 : decode cX2_most 15 = .ok (.iaload, 1) := by decide +kernel
theorem dX2_most_16 : decode cX2_most 16 = .ok (.aload_n 0, 1) := by decide +kernel
theorem dX2_most_17 : decode cX2_most 17 = .ok (.getfield 9, 3) := by decide +kernel
theorem dX2_most_20 : decode cX2_most 20 = .ok (.iload_n 1, 1) := by decide +kernel
theorem dX2_most_21 : decode cX2_most 21 = .ok (.iaload, 1) := by decide +kernel
theorem dX2_most_22 : decode cX2_most 22 = .ok (.if_icmp .le 5, 3) := by decide +kernel
theorem dX2_most_25 : decode cX2_most 25 = .ok (.iload_n 2, 1) := by decide +kernel
theorem dX2_most_26 : decode cX2_most 26 = .ok (.istore_n 1, 1) := by decide +kernel
theorem dX2_most_27 : decode cX2_most 27 = .ok (.iinc 2 1, 3) := by decide +kernel
theorem dX2_most_30 : decode cX2_most 30 = .ok (.goto (-26), 3) := by decide +kernel
theorem dX2_most_33 : decode cX2_most 33 = .ok (.iload_n 1, 1) := by decide +kernel
theorem dX2_most_34 : decode cX2_most 34 = .ok (.ireturn, 1) := by decide +kernel
theorem dX2_fewest_0 : decode cX2_fewest 0 = .ok (.iconst 0, 1) := by decide +kernel
theorem dX2_fewest_1 : decode cX2_fewest 1 = .ok (.istore_n 1, 1) := by decide +kernel
theorem dX2_fewest_2 : decode cX2_fewest 2 = .ok (.iconst 1, 1) := by decide +kernel
theorem dX2_fewest_3 : decode cX2_fewest 3 = .ok (.istore_n 2, 1) := by decide +kernel
theorem dX2_fewest_4 : decode cX2_fewest 4 = .ok (.iload_n 2, 1) := by decide +kernel
theorem dX2_fewest_5 : decode cX2_fewest 5 = .ok (.bipush 7, 2) := by decide +kernel
theorem dX2_fewest_7 : decode cX2_fewest 7 = .ok (.if_icmp .ge 26, 3) := by decide +kernel
theorem dX2_fewest_10 : decode cX2_fewest 10 = .ok (.aload_n 0, 1) := by decide +kernel
theorem dX2_fewest_11 : decode cX2_fewest 11 = .ok (.getfield 9, 3) := by decide +kernel
theorem dX2_fewest_14 : decode cX2_fewest 14 = .ok (.iload_n 2, 1) := by decide +kernel
theorem dX2_fewest_15 : decode cX2_fewest 15 = .ok (.iaload, 1) := by decide +kernel
theorem dX2_fewest_16 : decode cX2_fewest 16 = .ok (.aload_n 0, 1) := by decide +kernel
theorem dX2_fewest_17 : decode cX2_fewest 17 = .ok (.getfield 9, 3) := by decide +kernel
theorem dX2_fewest_20 : decode cX2_fewest 20 = .ok (.iload_n 1, 1) := by decide +kernel
theorem dX2_fewest_21 : decode cX2_fewest 21 = .ok (.iaload, 1) := by decide +kernel
theorem dX2_fewest_22 : decode cX2_fewest 22 = .ok (.if_icmp .ge 5, 3) := by decide +kernel
theorem dX2_fewest_25 : decode cX2_fewest 25 = .ok (.iload_n 2, 1) := by decide +kernel
theorem dX2_fewest_26 : decode cX2_fewest 26 = .ok (.istore_n 1, 1) := by decide +kernel
theorem dX2_fewest_27 : decode cX2_fewest 27 = .ok (.iinc 2 1, 3) := by decide +kernel
theorem dX2_fewest_30 : decode cX2_fewest 30 = .ok (.goto (-26), 3) := by decide +kernel
theorem dX2_fewest_33 : decode cX2_fewest 33 = .ok (.iload_n 1, 1) := by decide +kernel
theorem dX2_fewest_34 : decode cX2_fewest 34 = .ok (.ireturn, 1) := by decide +kernel
set_option maxRecDepth 20000 in
theorem ggX2_layNew_X2_put : GoodIn wsX2_layNew wsX2_put := goodIn_r _ [7, 8, 9, 10, 11, 12, 13, 14, 15, 16, 17, 18, 19, 20, 21] (by decide +kernel) (by decide +kernel)
set_option maxRecDepth 20000 in
theorem gX2_layNew_X2_put : GoodIn wsX2_layNew (wsV RX2 51 RX2 yX2_put wsX2_put) := goodIn_app (goodIn_of _ (by decide +kernel)) ggX2_layNew_X2_put
theorem dX2_layNew_0 : decode cX2_layNew 0 = .ok (.iconst 0, 1) := by decide +kernel
theorem dX2_layNew_1 : decode cX2_layNew 1 = .ok (.istore_n 3, 1) := by decide +kernel
theorem dX2_layNew_2 : decode cX2_layNew 2 = .ok (.iload_n 3, 1) := by decide +kernel
theorem dX2_layNew_3 : decode cX2_layNew 3 = .ok (.iload_n 2, 1) := by decide +kernel
theorem dX2_layNew_4 : decode cX2_layNew 4 = .ok (.if_icmp .ge 18, 3) := by decide +kernel
theorem dX2_layNew_7 : decode cX2_layNew 7 = .ok (.aload_n 0, 1) := by decide +kernel
theorem dX2_layNew_8 : decode cX2_layNew 8 = .ok (.iload_n 1, 1) := by decide +kernel
theorem dX2_layNew_9 : decode cX2_layNew 9 = .ok (.aload_n 0, 1) := by decide +kernel
theorem dX2_layNew_10 : decode cX2_layNew 10 = .ok (.getfield 28, 3) := by decide +kernel
theorem dX2_layNew_13 : decode cX2_layNew 13 = .ok (.invokevirtual 51, 3) := by decide +kernel
theorem dX2_layNew_16 : decode cX2_layNew 16 = .ok (.iinc 3 1, 3) := by decide +kernel
theorem dX2_layNew_19 : decode cX2_layNew 19 = .ok (.goto (-17), 3) := by decide +kernel
theorem dX2_layNew_22 : decode cX2_layNew 22 = .ok (.aload_n 0, 1) := by decide +kernel
theorem dX2_layNew_23 : decode cX2_layNew 23 = .ok (.dup, 1) := by decide +kernel
theorem dX2_layNew_24 : decode cX2_layNew 24 = .ok (.getfield 34, 3) := by decide +kernel
theorem dX2_layNew_27 : decode cX2_layNew 27 = .ok (.iload_n 2, 1) := by decide +kernel
theorem dX2_layNew_28 : decode cX2_layNew 28 = .ok (.iadd, 1) := by decide +kernel
theorem dX2_layNew_29 : decode cX2_layNew 29 = .ok (.putfield 34, 3) := by decide +kernel
theorem dX2_layNew_32 : decode cX2_layNew 32 = .ok (.return_, 1) := by decide +kernel
set_option maxRecDepth 20000 in
theorem ggX2_takeOff_X9_isCairn : GoodIn wsX2_takeOff wsX9_isCairn := goodIn_r _ [9] (by decide +kernel) (by decide +kernel)
set_option maxRecDepth 20000 in
theorem gX2_takeOff_X9_isCairn_n43 : GoodIn wsX2_takeOff (wsX9_isCairn) := ggX2_takeOff_X9_isCairn
theorem dX2_takeOff_0 : decode cX2_takeOff 0 = .ok (.iload_n 1, 1) := by decide +kernel
theorem dX2_takeOff_1 : decode cX2_takeOff 1 = .ok (.invokestatic 43, 3) := by decide +kernel
theorem dX2_takeOff_4 : decode cX2_takeOff 4 = .ok (.ifCond .ne 4, 3) := by decide +kernel
theorem dX2_takeOff_7 : decode cX2_takeOff 7 = .ok (.return_, 1) := by decide +kernel
theorem dX2_takeOff_8 : decode cX2_takeOff 8 = .ok (.iload_n 2, 1) := by decide +kernel
theorem dX2_takeOff_9 : decode cX2_takeOff 9 = .ok (.aload_n 0, 1) := by decide +kernel
theorem dX2_takeOff_10 : decode cX2_takeOff 10 = .ok (.getfield 9, 3) := by decide +kernel
theorem dX2_takeOff_13 : decode cX2_takeOff 13 = .ok (.iload_n 1, 1) := by decide +kernel
theorem dX2_takeOff_14 : decode cX2_takeOff 14 = .ok (.iaload, 1) := by decide +kernel
theorem dX2_takeOff_15 : decode cX2_takeOff 15 = .ok (.invokestatic 55, 3) := by decide +kernel
theorem dX2_takeOff_18 : decode cX2_takeOff 18 = .ok (.istore_n 3, 1) := by decide +kernel
theorem dX2_takeOff_19 : decode cX2_takeOff 19 = .ok (.aload_n 0, 1) := by decide +kernel
theorem dX2_takeOff_20 : decode cX2_takeOff 20 = .ok (.getfield 9, 3) := by decide +kernel
theorem dX2_takeOff_23 : decode cX2_takeOff 23 = .ok (.iload_n 1, 1) := by decide +kernel
theorem dX2_takeOff_24 : decode cX2_takeOff 24 = .ok (.dup2, 1) := by decide +kernel
theorem dX2_takeOff_25 : decode cX2_takeOff 25 = .ok (.iaload, 1) := by decide +kernel
theorem dX2_takeOff_26 : decode cX2_takeOff 26 = .ok (.iload_n 3, 1) := by decide +kernel
theorem dX2_takeOff_27 : decode cX2_takeOff 27 = .ok (.isub, 1) := by decide +kernel
theorem dX2_takeOff_28 : decode cX2_takeOff 28 = .ok (.iastore, 1) := by decide +kernel
theorem dX2_takeOff_29 : decode cX2_takeOff 29 = .ok (.aload_n 0, 1) := by decide +kernel
theorem dX2_takeOff_30 : decode cX2_takeOff 30 = .ok (.dup, 1) := by decide +kernel
theorem dX2_takeOff_31 : decode cX2_takeOff 31 = .ok (.getfield 37, 3) := by decide +kernel
theorem dX2_takeOff_34 : decode cX2_takeOff 34 = .ok (.iload_n 3, 1) := by decide +kernel
theorem dX2_takeOff_35 : decode cX2_takeOff 35 = .ok (.iadd, 1) := by decide +kernel
theorem dX2_takeOff_36 : decode cX2_takeOff 36 = .ok (.putfield 37, 3) := by decide +kernel
theorem dX2_takeOff_39 : decode cX2_takeOff 39 = .ok (.return_, 1) := by decide +kernel
set_option maxRecDepth 20000 in
theorem ggX2_goOneWeek_X2_walk : GoodIn wsX2_goOneWeek wsX2_walk := goodIn_r _ [7, 8, 9, 10, 11, 12, 13, 14, 15, 6, 16, 17, 18, 19, 20, 21, 22, 23, 24, 25, 26, 27, 28, 29, 30, 31, 32, 33, 34, 35, 36, 37, 38, 39, 40, 41, 42, 43, 44, 45, 46, 47, 48, 49, 50, 51, 52, 53, 1, 54, 55, 56, 57, 58, 59, 60, 61, 62, 63, 64, 65, 66, 67, 68, 69, 70, 71, 72, 73, 74, 75, 76, 77, 78, 79, 80, 81, 82, 83, 84, 85, 86, 87, 88, 89, 90, 91, 92, 93, 94, 95, 96, 97, 98, 99, 100, 101, 102, 103, 104, 105, 106, 107, 108, 127, 128, 129, 130, 131, 132, 133, 134, 135, 136, 137, 138, 139, 140, 141, 142, 143, 144, 145, 119, 120, 121, 122, 123, 124, 125, 126] (by decide +kernel) (by decide +kernel)
set_option maxRecDepth 20000 in
theorem gX2_goOneWeek_X2_walk : GoodIn wsX2_goOneWeek (wsV RX2 65 RX2 yX2_walk wsX2_walk) := goodIn_app (goodIn_of _ (by decide +kernel)) ggX2_goOneWeek_X2_walk
set_option maxRecDepth 20000 in
theorem ggX2_goOneWeek_X1_floodsIn : GoodIn wsX2_goOneWeek wsX1_floodsIn := goodIn_r _ [113, 114, 143, 144, 145] (by decide +kernel) (by decide +kernel)
set_option maxRecDepth 20000 in
theorem gX2_goOneWeek_X1_floodsIn : GoodIn wsX2_goOneWeek (wsV RX2 69 RX1 yX1_floodsIn wsX1_floodsIn) := goodIn_app (goodIn_of _ (by decide +kernel)) ggX2_goOneWeek_X1_floodsIn
set_option maxRecDepth 20000 in
theorem ggX2_goOneWeek_X2_flood : GoodIn wsX2_goOneWeek wsX2_flood := goodIn_r _ [118, 29, 30, 31, 32, 6, 33, 61, 62, 63, 96, 97, 98, 99, 100, 101, 102, 103, 104, 119, 120, 121, 122, 123, 124, 125, 126] (by decide +kernel) (by decide +kernel)
set_option maxRecDepth 20000 in
theorem gX2_goOneWeek_X2_flood : GoodIn wsX2_goOneWeek (wsV RX2 74 RX2 yX2_flood wsX2_flood) := goodIn_app (goodIn_of _ (by decide +kernel)) ggX2_goOneWeek_X2_flood
theorem dX2_goOneWeek_0 : decode cX2_goOneWeek 0 = .ok (.aload_n 0, 1) := by decide +kernel
theorem dX2_goOneWeek_1 : decode cX2_goOneWeek 1 = .ok (.dup, 1) := by decide +kernel
theorem dX2_goOneWeek_2 : decode cX2_goOneWeek 2 = .ok (.getfield 28, 3) := by decide +kernel
theorem dX2_goOneWeek_5 : decode cX2_goOneWeek 5 = .ok (.iconst 1, 1) := by decide +kernel
theorem dX2_goOneWeek_6 : decode cX2_goOneWeek 6 = .ok (.iadd, 1) := by decide +kernel
theorem dX2_goOneWeek_7 : decode cX2_goOneWeek 7 = .ok (.putfield 28, 3) := by decide +kernel
theorem dX2_goOneWeek_10 : decode cX2_goOneWeek 10 = .ok (.iconst 0, 1) := by decide +kernel
theorem dX2_goOneWeek_11 : decode cX2_goOneWeek 11 = .ok (.istore_n 3, 1) := by decide +kernel
theorem dX2_goOneWeek_12 : decode cX2_goOneWeek 12 = .ok (.iload_n 3, 1) := by decide +kernel
theorem dX2_goOneWeek_13 : decode cX2_goOneWeek 13 = .ok (.aload_n 2, 1) := by decide +kernel
theorem dX2_goOneWeek_14 : decode cX2_goOneWeek 14 = .ok (.arraylength, 1) := by decide +kernel
theorem dX2_goOneWeek_15 : decode cX2_goOneWeek 15 = .ok (.if_icmp .ge 49, 3) := by decide +kernel
theorem dX2_goOneWeek_18 : decode cX2_goOneWeek 18 = .ok (.aload_n 2, 1) := by decide +kernel
theorem dX2_goOneWeek_19 : decode cX2_goOneWeek 19 = .ok (.iload_n 3, 1) := by decide +kernel
theorem dX2_goOneWeek_20 : decode cX2_goOneWeek 20 = .ok (.aaload, 1) := by decide +kernel
theorem dX2_goOneWeek_21 : decode cX2_goOneWeek 21 = .ok (.astore 4, 2) := by decide +kernel
theorem dX2_goOneWeek_23 : decode cX2_goOneWeek 23 = .ok (.aload 4, 2) := by decide +kernel
theorem dX2_goOneWeek_25 : decode cX2_goOneWeek 25 = .ok (.ifnonnull 6, 3) := by decide +kernel
theorem dX2_goOneWeek_28 : decode cX2_goOneWeek 28 = .ok (.goto 36, 3) := by decide +kernel
theorem dX2_goOneWeek_31 : decode cX2_goOneWeek 31 = .ok (.iconst 0, 1) := by decide +kernel
theorem dX2_goOneWeek_32 : decode cX2_goOneWeek 32 = .ok (.istore 5, 2) := by decide +kernel
theorem dX2_goOneWeek_34 : decode cX2_goOneWeek 34 = .ok (.iload 5, 2) := by decide +kernel
theorem dX2_goOneWeek_36 : decode cX2_goOneWeek 36 = .ok (.aload 4, 2) := by decide +kernel
theorem dX2_goOneWeek_38 : decode cX2_goOneWeek 38 = .ok (.getfield 60, 3) := by decide +kernel
theorem dX2_goOneWeek_41 : decode cX2_goOneWeek 41 = .ok (.if_icmp .ge 17, 3) := by decide +kernel
theorem dX2_goOneWeek_44 : decode cX2_goOneWeek 44 = .ok (.aload_n 0, 1) := by decide +kernel
theorem dX2_goOneWeek_45 : decode cX2_goOneWeek 45 = .ok (.aload_n 1, 1) := by decide +kernel
theorem dX2_goOneWeek_46 : decode cX2_goOneWeek 46 = .ok (.aload 4, 2) := by decide +kernel
theorem dX2_goOneWeek_48 : decode cX2_goOneWeek 48 = .ok (.iload_n 3, 1) := by decide +kernel
theorem dX2_goOneWeek_49 : decode cX2_goOneWeek 49 = .ok (.invokevirtual 65, 3) := by decide +kernel
theorem dX2_goOneWeek_52 : decode cX2_goOneWeek 52 = .ok (.iinc 5 1, 3) := by decide +kernel
theorem dX2_goOneWeek_55 : decode cX2_goOneWeek 55 = .ok (.goto (-21), 3) := by decide +kernel
theorem dX2_goOneWeek_58 : decode cX2_goOneWeek 58 = .ok (.iinc 3 1, 3) := by decide +kernel
theorem dX2_goOneWeek_61 : decode cX2_goOneWeek 61 = .ok (.goto (-49), 3) := by decide +kernel
theorem dX2_goOneWeek_64 : decode cX2_goOneWeek 64 = .ok (.aload_n 1, 1) := by decide +kernel
theorem dX2_goOneWeek_65 : decode cX2_goOneWeek 65 = .ok (.aload_n 0, 1) := by decide +kernel
theorem dX2_goOneWeek_66 : decode cX2_goOneWeek 66 = .ok (.getfield 28, 3) := by decide +kernel
theorem dX2_goOneWeek_69 : decode cX2_goOneWeek 69 = .ok (.invokevirtual 69, 3) := by decide +kernel
theorem dX2_goOneWeek_72 : decode cX2_goOneWeek 72 = .ok (.ifCond .eq 7, 3) := by decide +kernel
theorem dX2_goOneWeek_75 : decode cX2_goOneWeek 75 = .ok (.aload_n 0, 1) := by decide +kernel
theorem dX2_goOneWeek_76 : decode cX2_goOneWeek 76 = .ok (.invokevirtual 74, 3) := by decide +kernel
theorem dX2_goOneWeek_79 : decode cX2_goOneWeek 79 = .ok (.return_, 1) := by decide +kernel
set_option maxRecDepth 20000 in
theorem ggX2_walk_X2_draw : GoodIn wsX2_walk wsX2_draw := goodIn_r _ [10, 11, 12, 13, 14, 123, 124, 125, 126, 127, 128, 129, 130] (by decide +kernel) (by decide +kernel)
set_option maxRecDepth 20000 in
theorem gX2_walk_X2_draw : GoodIn wsX2_walk (wsV RX2 77 RX2 yX2_draw wsX2_draw) := goodIn_app (goodIn_of _ (by decide +kernel)) ggX2_walk_X2_draw
set_option maxRecDepth 20000 in
theorem ggX2_walk_X2_cairnBy : GoodIn wsX2_walk wsX2_cairnBy := goodIn_r _ [18, 3, 19, 20, 21, 9, 22, 23, 24, 25, 26, 27, 123, 124, 125, 126, 127, 128, 129, 130] (by decide +kernel) (by decide +kernel)
set_option maxRecDepth 20000 in
theorem gX2_walk_X2_cairnBy : GoodIn wsX2_walk (wsV RX2 87 RX2 yX2_cairnBy wsX2_cairnBy) := goodIn_app (goodIn_of _ (by decide +kernel)) ggX2_walk_X2_cairnBy
set_option maxRecDepth 20000 in
theorem ggX2_walk_X5_gift : GoodIn wsX2_walk wsX5_gift := goodIn_r _ [33] (by decide +kernel) (by decide +kernel)
set_option maxRecDepth 20000 in
theorem gX2_walk_X5_gift_u90X0 : GoodIn wsX2_walk (va_wsU RX2 90 RX0 "KneelingStones$Parish" ⟨"KneelingStones$Parish", "gift", "()I"⟩ yX5_gift wsX5_gift) := goodIn_app (goodIn_of _ (by decide +kernel)) ggX2_walk_X5_gift
set_option maxRecDepth 20000 in
theorem gX2_walk_X5_gift : GoodIn wsX2_walk (wsV RX2 90 RX5 yX5_gift wsX5_gift) := goodIn_app (goodIn_of _ (by decide +kernel)) ggX2_walk_X5_gift
set_option maxRecDepth 20000 in
theorem ggX2_walk_X6_gift : GoodIn wsX2_walk wsX6_gift := goodIn_r _ [40, 41, 42, 104, 105, 106, 107, 108, 109, 110, 111, 112, 113, 114, 115, 116, 117, 118, 119] (by decide +kernel) (by decide +kernel)
set_option maxRecDepth 20000 in
theorem gX2_walk_X6_gift_u90X6 : GoodIn wsX2_walk (va_wsO RX2 90 RX6 "KneelingStones$Parish" ⟨"KneelingStones$Parish", "gift", "()I"⟩ yX6_gift wsX6_gift) := goodIn_app (goodIn_of _ (by decide +kernel)) ggX2_walk_X6_gift
set_option maxRecDepth 20000 in
theorem gX2_walk_X5_gift_u90X7 : GoodIn wsX2_walk (va_wsU RX2 90 RX7 "KneelingStones$Parish" ⟨"KneelingStones$Parish", "gift", "()I"⟩ yX5_gift wsX5_gift) := goodIn_app (goodIn_of _ (by decide +kernel)) ggX2_walk_X5_gift
set_option maxRecDepth 20000 in
theorem ggX2_walk_X2_layNew : GoodIn wsX2_walk wsX2_layNew := goodIn_r _ [47, 48, 49, 50, 51, 52, 9, 53, 23, 54, 55, 56, 57, 58, 123, 124, 125, 126, 127, 128, 129, 130] (by decide +kernel) (by decide +kernel)
set_option maxRecDepth 20000 in
theorem gX2_walk_X2_layNew : GoodIn wsX2_walk (wsV RX2 93 RX2 yX2_layNew wsX2_layNew) := goodIn_app (goodIn_of _ (by decide +kernel)) ggX2_walk_X2_layNew
set_option maxRecDepth 20000 in
theorem ggX2_walk_X0_sinsAtMost : GoodIn wsX2_walk wsX0_sinsAtMost := goodIn_r _ [65] (by decide +kernel) (by decide +kernel)
set_option maxRecDepth 20000 in
theorem gX2_walk_X0_sinsAtMost_u99X0 : GoodIn wsX2_walk (va_wsO RX2 99 RX0 "KneelingStones$Parish" ⟨"KneelingStones$Parish", "sinsAtMost", "()Z"⟩ yX0_sinsAtMost wsX0_sinsAtMost) := goodIn_app (goodIn_of _ (by decide +kernel)) ggX2_walk_X0_sinsAtMost
set_option maxRecDepth 20000 in
theorem ggX2_walk_X5_sinsAtMost : GoodIn wsX2_walk wsX5_sinsAtMost := goodIn_r _ [66] (by decide +kernel) (by decide +kernel)
set_option maxRecDepth 20000 in
theorem gX2_walk_X5_sinsAtMost : GoodIn wsX2_walk (wsV RX2 99 RX5 yX5_sinsAtMost wsX5_sinsAtMost) := goodIn_app (goodIn_of _ (by decide +kernel)) ggX2_walk_X5_sinsAtMost
set_option maxRecDepth 20000 in
theorem gX2_walk_X5_sinsAtMost_u99X6 : GoodIn wsX2_walk (va_wsU RX2 99 RX6 "KneelingStones$Parish" ⟨"KneelingStones$Parish", "sinsAtMost", "()Z"⟩ yX5_sinsAtMost wsX5_sinsAtMost) := goodIn_app (goodIn_of _ (by decide +kernel)) ggX2_walk_X5_sinsAtMost
set_option maxRecDepth 20000 in
theorem gX2_walk_X5_sinsAtMost_u99X7 : GoodIn wsX2_walk (va_wsU RX2 99 RX7 "KneelingStones$Parish" ⟨"KneelingStones$Parish", "sinsAtMost", "()Z"⟩ yX5_sinsAtMost wsX5_sinsAtMost) := goodIn_app (goodIn_of _ (by decide +kernel)) ggX2_walk_X5_sinsAtMost
set_option maxRecDepth 20000 in
theorem ggX2_walk_X2_most : GoodIn wsX2_walk wsX2_most := goodIn_r _ [22, 23, 123, 124, 125, 126, 127, 128, 129, 130] (by decide +kernel) (by decide +kernel)
set_option maxRecDepth 20000 in
theorem gX2_walk_X2_most : GoodIn wsX2_walk (wsV RX2 103 RX2 yX2_most wsX2_most) := goodIn_app (goodIn_of _ (by decide +kernel)) ggX2_walk_X2_most
set_option maxRecDepth 20000 in
theorem ggX2_walk_X7_hidesOn : GoodIn wsX2_walk wsX7_hidesOn := goodIn_r _ [78, 79, 80, 104, 105, 106, 107, 108, 109, 110, 111, 112, 113, 114, 115, 116, 117, 118, 119] (by decide +kernel) (by decide +kernel)
set_option maxRecDepth 20000 in
theorem gX2_walk_X7_hidesOn_u109X0 : GoodIn wsX2_walk (va_wsO RX2 109 RX0 "KneelingStones$Parish" ⟨"KneelingStones$Parish", "hidesOn", "()I"⟩ yX7_hidesOn wsX7_hidesOn) := goodIn_app (goodIn_of _ (by decide +kernel)) ggX2_walk_X7_hidesOn
set_option maxRecDepth 20000 in
theorem ggX2_walk_X5_hidesOn : GoodIn wsX2_walk wsX5_hidesOn := goodIn_r _ [81] (by decide +kernel) (by decide +kernel)
set_option maxRecDepth 20000 in
theorem gX2_walk_X5_hidesOn : GoodIn wsX2_walk (wsV RX2 109 RX5 yX5_hidesOn wsX5_hidesOn) := goodIn_app (goodIn_of _ (by decide +kernel)) ggX2_walk_X5_hidesOn
set_option maxRecDepth 20000 in
theorem gX2_walk_X5_hidesOn_u109X6 : GoodIn wsX2_walk (va_wsU RX2 109 RX6 "KneelingStones$Parish" ⟨"KneelingStones$Parish", "hidesOn", "()I"⟩ yX5_hidesOn wsX5_hidesOn) := goodIn_app (goodIn_of _ (by decide +kernel)) ggX2_walk_X5_hidesOn
set_option maxRecDepth 20000 in
theorem gX2_walk_X7_hidesOn_u109X7 : GoodIn wsX2_walk (va_wsO RX2 109 RX7 "KneelingStones$Parish" ⟨"KneelingStones$Parish", "hidesOn", "()I"⟩ yX7_hidesOn wsX7_hidesOn) := goodIn_app (goodIn_of _ (by decide +kernel)) ggX2_walk_X7_hidesOn
set_option maxRecDepth 20000 in
theorem ggX2_walk_X2_steal : GoodIn wsX2_walk wsX2_steal := goodIn_r _ [90, 23, 91, 92, 93, 9, 94, 95, 96, 97, 98, 99, 56, 57, 58, 100, 101, 102, 103, 55, 50, 51, 52, 53, 54, 123, 124, 125, 126, 127, 128, 129, 130] (by decide +kernel) (by decide +kernel)
set_option maxRecDepth 20000 in
theorem gX2_walk_X2_steal : GoodIn wsX2_walk (wsV RX2 112 RX2 yX2_steal wsX2_steal) := goodIn_app (goodIn_of _ (by decide +kernel)) ggX2_walk_X2_steal
theorem dX2_walk_0 : decode cX2_walk 0 = .ok (.aload_n 0, 1) := by decide +kernel
theorem dX2_walk_1 : decode cX2_walk 1 = .ok (.invokevirtual 77, 3) := by decide +kernel
theorem dX2_walk_4 : decode cX2_walk 4 = .ok (.aload_n 2, 1) := by decide +kernel
theorem dX2_walk_5 : decode cX2_walk 5 = .ok (.getfield 81, 3) := by decide +kernel
theorem dX2_walk_8 : decode cX2_walk 8 = .ok (.if_icmp .ge 33, 3) := by decide +kernel
theorem dX2_walk_11 : decode cX2_walk 11 = .ok (.aload_n 0, 1) := by decide +kernel
theorem dX2_walk_12 : decode cX2_walk 12 = .ok (.aload_n 1, 1) := by decide +kernel
theorem dX2_walk_13 : decode cX2_walk 13 = .ok (.getfield 84, 3) := by decide +kernel
theorem dX2_walk_16 : decode cX2_walk 16 = .ok (.iload_n 3, 1) := by decide +kernel
theorem dX2_walk_17 : decode cX2_walk 17 = .ok (.invokevirtual 87, 3) := by decide +kernel
theorem dX2_walk_20 : decode cX2_walk 20 = .ok (.istore 4, 2) := by decide +kernel
theorem dX2_walk_22 : decode cX2_walk 22 = .ok (.aload_n 0, 1) := by decide +kernel
theorem dX2_walk_23 : decode cX2_walk 23 = .ok (.iload 4, 2) := by decide +kernel
theorem dX2_walk_25 : decode cX2_walk 25 = .ok (.aload_n 2, 1) := by decide +kernel
theorem dX2_walk_26 : decode cX2_walk 26 = .ok (.invokevirtual 90, 3) := by decide +kernel
theorem dX2_walk_29 : decode cX2_walk 29 = .ok (.invokevirtual 93, 3) := by decide +kernel
theorem dX2_walk_32 : decode cX2_walk 32 = .ok (.aload_n 0, 1) := by decide +kernel
theorem dX2_walk_33 : decode cX2_walk 33 = .ok (.iload 4, 2) := by decide +kernel
theorem dX2_walk_35 : decode cX2_walk 35 = .ok (.putfield 31, 3) := by decide +kernel
theorem dX2_walk_38 : decode cX2_walk 38 = .ok (.goto 55, 3) := by decide +kernel
theorem dX2_walk_41 : decode cX2_walk 41 = .ok (.aload_n 0, 1) := by decide +kernel
theorem dX2_walk_42 : decode cX2_walk 42 = .ok (.invokevirtual 77, 3) := by decide +kernel
theorem dX2_walk_45 : decode cX2_walk 45 = .ok (.aload_n 2, 1) := by decide +kernel
theorem dX2_walk_46 : decode cX2_walk 46 = .ok (.getfield 96, 3) := by decide +kernel
theorem dX2_walk_49 : decode cX2_walk 49 = .ok (.if_icmp .ge 44, 3) := by decide +kernel
theorem dX2_walk_52 : decode cX2_walk 52 = .ok (.aload_n 2, 1) := by decide +kernel
theorem dX2_walk_53 : decode cX2_walk 53 = .ok (.invokevirtual 99, 3) := by decide +kernel
theorem dX2_walk_56 : decode cX2_walk 56 = .ok (.ifCond .eq 10, 3) := by decide +kernel
theorem dX2_walk_59 : decode cX2_walk 59 = .ok (.aload_n 0, 1) := by decide +kernel
theorem dX2_walk_60 : decode cX2_walk 60 = .ok (.invokevirtual 103, 3) := by decide +kernel
theorem dX2_walk_63 : decode cX2_walk 63 = .ok (.goto 12, 3) := by decide +kernel
theorem dX2_walk_66 : decode cX2_walk 66 = .ok (.aload_n 0, 1) := by decide +kernel
theorem dX2_walk_67 : decode cX2_walk 67 = .ok (.aload_n 1, 1) := by decide +kernel
theorem dX2_walk_68 : decode cX2_walk 68 = .ok (.getfield 106, 3) := by decide +kernel
theorem dX2_walk_71 : decode cX2_walk 71 = .ok (.iload_n 3, 1) := by decide +kernel
theorem dX2_walk_72 : decode cX2_walk 72 = .ok (.invokevirtual 87, 3) := by decide +kernel
theorem dX2_walk_75 : decode cX2_walk 75 = .ok (.istore 4, 2) := by decide +kernel
theorem dX2_walk_77 : decode cX2_walk 77 = .ok (.aload_n 0, 1) := by decide +kernel
theorem dX2_walk_78 : decode cX2_walk 78 = .ok (.iload 4, 2) := by decide +kernel
theorem dX2_walk_80 : decode cX2_walk 80 = .ok (.aload_n 2, 1) := by decide +kernel
theorem dX2_walk_81 : decode cX2_walk 81 = .ok (.invokevirtual 109, 3) := by decide +kernel
theorem dX2_walk_84 : decode cX2_walk 84 = .ok (.invokevirtual 112, 3) := by decide +kernel
theorem dX2_walk_87 : decode cX2_walk 87 = .ok (.aload_n 0, 1) := by decide +kernel
theorem dX2_walk_88 : decode cX2_walk 88 = .ok (.iload 4, 2) := by decide +kernel
theorem dX2_walk_90 : decode cX2_walk 90 = .ok (.putfield 31, 3) := by decide +kernel
theorem dX2_walk_93 : decode cX2_walk 93 = .ok (.return_, 1) := by decide +kernel
set_option maxRecDepth 20000 in
theorem ggX2_steal_X2_takeOff : GoodIn wsX2_steal wsX2_takeOff := goodIn_r _ [6, 1, 7, 8, 9, 10, 11, 12, 13, 14, 25, 26, 27, 28, 29, 30, 31, 32] (by decide +kernel) (by decide +kernel)
set_option maxRecDepth 20000 in
theorem gX2_steal_X2_takeOff : GoodIn wsX2_steal (wsV RX2 115 RX2 yX2_takeOff wsX2_takeOff) := goodIn_app (goodIn_of _ (by decide +kernel)) ggX2_steal_X2_takeOff
set_option maxRecDepth 20000 in
theorem ggX2_steal_X2_markAt : GoodIn wsX2_steal wsX2_markAt := goodIn_r _ [18, 1, 19, 12, 13, 14, 25, 26, 27, 28, 29, 30, 31, 32] (by decide +kernel) (by decide +kernel)
set_option maxRecDepth 20000 in
theorem gX2_steal_X2_markAt : GoodIn wsX2_steal (wsV RX2 118 RX2 yX2_markAt wsX2_markAt) := goodIn_app (goodIn_of _ (by decide +kernel)) ggX2_steal_X2_markAt
set_option maxRecDepth 20000 in
theorem ggX2_steal_X9_isCairn : GoodIn wsX2_steal wsX9_isCairn := goodIn_r _ [14] (by decide +kernel) (by decide +kernel)
set_option maxRecDepth 20000 in
theorem gX2_steal_X9_isCairn_n43 : GoodIn wsX2_steal (wsX9_isCairn) := ggX2_steal_X9_isCairn
set_option maxRecDepth 20000 in
theorem ggX2_steal_X2_put : GoodIn wsX2_steal wsX2_put := goodIn_r _ [23, 1, 24, 19, 12, 13, 14, 25, 26, 27, 28, 29, 30, 31, 32] (by decide +kernel) (by decide +kernel)
set_option maxRecDepth 20000 in
theorem gX2_steal_X2_put : GoodIn wsX2_steal (wsV RX2 51 RX2 yX2_put wsX2_put) := goodIn_app (goodIn_of _ (by decide +kernel)) ggX2_steal_X2_put
theorem dX2_steal_0 : decode cX2_steal 0 = .ok (.iload_n 2, 1) := by decide +kernel
theorem dX2_steal_1 : decode cX2_steal 1 = .ok (.iconst (-1), 1) := by decide +kernel
theorem dX2_steal_2 : decode cX2_steal 2 = .ok (.if_icmp .ne 10, 3) := by decide +kernel
theorem dX2_steal_5 : decode cX2_steal 5 = .ok (.aload_n 0, 1) := by decide +kernel
theorem dX2_steal_6 : decode cX2_steal 6 = .ok (.iload_n 1, 1) := by decide +kernel
theorem dX2_steal_7 : decode cX2_steal 7 = .ok (.iconst 1, 1) := by decide +kernel
theorem dX2_steal_8 : decode cX2_steal 8 = .ok (.invokevirtual 115, 3) := by decide +kernel
theorem dX2_steal_11 : decode cX2_steal 11 = .ok (.return_, 1) := by decide +kernel
theorem dX2_steal_12 : decode cX2_steal 12 = .ok (.aload_n 0, 1) := by decide +kernel
theorem dX2_steal_13 : decode cX2_steal 13 = .ok (.iload_n 1, 1) := by decide +kernel
theorem dX2_steal_14 : decode cX2_steal 14 = .ok (.iconst 0, 1) := by decide +kernel
theorem dX2_steal_15 : decode cX2_steal 15 = .ok (.invokevirtual 118, 3) := by decide +kernel
theorem dX2_steal_18 : decode cX2_steal 18 = .ok (.istore_n 3, 1) := by decide +kernel
theorem dX2_steal_19 : decode cX2_steal 19 = .ok (.iload_n 3, 1) := by decide +kernel
theorem dX2_steal_20 : decode cX2_steal 20 = .ok (.iconst (-1), 1) := by decide +kernel
theorem dX2_steal_21 : decode cX2_steal 21 = .ok (.if_icmp .eq 10, 3) := by decide +kernel
theorem dX2_steal_24 : decode cX2_steal 24 = .ok (.iload_n 1, 1) := by decide +kernel
theorem dX2_steal_25 : decode cX2_steal 25 = .ok (.invokestatic 43, 3) := by decide +kernel
theorem dX2_steal_28 : decode cX2_steal 28 = .ok (.ifCond .ne 4, 3) := by decide +kernel
theorem dX2_steal_31 : decode cX2_steal 31 = .ok (.return_, 1) := by decide +kernel
theorem dX2_steal_32 : decode cX2_steal 32 = .ok (.aload_n 0, 1) := by decide +kernel
theorem dX2_steal_33 : decode cX2_steal 33 = .ok (.getfield 9, 3) := by decide +kernel
theorem dX2_steal_36 : decode cX2_steal 36 = .ok (.iload_n 1, 1) := by decide +kernel
theorem dX2_steal_37 : decode cX2_steal 37 = .ok (.dup2, 1) := by decide +kernel
theorem dX2_steal_38 : decode cX2_steal 38 = .ok (.iaload, 1) := by decide +kernel
theorem dX2_steal_39 : decode cX2_steal 39 = .ok (.iconst 1, 1) := by decide +kernel
theorem dX2_steal_40 : decode cX2_steal 40 = .ok (.isub, 1) := by decide +kernel
theorem dX2_steal_41 : decode cX2_steal 41 = .ok (.iastore, 1) := by decide +kernel
theorem dX2_steal_42 : decode cX2_steal 42 = .ok (.aload_n 0, 1) := by decide +kernel
theorem dX2_steal_43 : decode cX2_steal 43 = .ok (.iload_n 2, 1) := by decide +kernel
theorem dX2_steal_44 : decode cX2_steal 44 = .ok (.iload_n 3, 1) := by decide +kernel
theorem dX2_steal_45 : decode cX2_steal 45 = .ok (.invokevirtual 51, 3) := by decide +kernel
theorem dX2_steal_48 : decode cX2_steal 48 = .ok (.return_, 1) := by decide +kernel
set_option maxRecDepth 20000 in
theorem ggX2_flood_X2_fewest : GoodIn wsX2_flood wsX2_fewest := goodIn_r _ [6, 1, 19, 20, 21, 22, 23, 24, 25, 26] (by decide +kernel) (by decide +kernel)
set_option maxRecDepth 20000 in
theorem gX2_flood_X2_fewest : GoodIn wsX2_flood (wsV RX2 121 RX2 yX2_fewest wsX2_fewest) := goodIn_app (goodIn_of _ (by decide +kernel)) ggX2_flood_X2_fewest
set_option maxRecDepth 20000 in
theorem ggX2_flood_X9_isCairn : GoodIn wsX2_flood wsX9_isCairn := goodIn_r _ [9] (by decide +kernel) (by decide +kernel)
set_option maxRecDepth 20000 in
theorem gX2_flood_X9_isCairn_n43 : GoodIn wsX2_flood (wsX9_isCairn) := ggX2_flood_X9_isCairn
set_option maxRecDepth 20000 in
theorem ggX2_flood_X2_takeOff : GoodIn wsX2_flood wsX2_takeOff := goodIn_r _ [13, 1, 14, 15, 16, 17, 18, 7, 8, 9, 19, 20, 21, 22, 23, 24, 25, 26] (by decide +kernel) (by decide +kernel)
set_option maxRecDepth 20000 in
theorem gX2_flood_X2_takeOff : GoodIn wsX2_flood (wsV RX2 115 RX2 yX2_takeOff wsX2_takeOff) := goodIn_app (goodIn_of _ (by decide +kernel)) ggX2_flood_X2_takeOff
theorem dX2_flood_0 : decode cX2_flood 0 = .ok (.aload_n 0, 1) := by decide +kernel
theorem dX2_flood_1 : decode cX2_flood 1 = .ok (.invokevirtual 121, 3) := by decide +kernel
theorem dX2_flood_4 : decode cX2_flood 4 = .ok (.istore_n 1, 1) := by decide +kernel
theorem dX2_flood_5 : decode cX2_flood 5 = .ok (.iload_n 1, 1) := by decide +kernel
theorem dX2_flood_6 : decode cX2_flood 6 = .ok (.invokestatic 43, 3) := by decide +kernel
theorem dX2_flood_9 : decode cX2_flood 9 = .ok (.ifCond .eq 18, 3) := by decide +kernel
theorem dX2_flood_12 : decode cX2_flood 12 = .ok (.aload_n 0, 1) := by decide +kernel
theorem dX2_flood_13 : decode cX2_flood 13 = .ok (.iload_n 1, 1) := by decide +kernel
theorem dX2_flood_14 : decode cX2_flood 14 = .ok (.aload_n 0, 1) := by decide +kernel
theorem dX2_flood_15 : decode cX2_flood 15 = .ok (.getfield 9, 3) := by decide +kernel
theorem dX2_flood_18 : decode cX2_flood 18 = .ok (.iload_n 1, 1) := by decide +kernel
theorem dX2_flood_19 : decode cX2_flood 19 = .ok (.iaload, 1) := by decide +kernel
theorem dX2_flood_20 : decode cX2_flood 20 = .ok (.iconst 1, 1) := by decide +kernel
theorem dX2_flood_21 : decode cX2_flood 21 = .ok (.iadd, 1) := by decide +kernel
theorem dX2_flood_22 : decode cX2_flood 22 = .ok (.iconst 2, 1) := by decide +kernel
theorem dX2_flood_23 : decode cX2_flood 23 = .ok (.idiv, 1) := by decide +kernel
theorem dX2_flood_24 : decode cX2_flood 24 = .ok (.invokevirtual 115, 3) := by decide +kernel
theorem dX2_flood_27 : decode cX2_flood 27 = .ok (.return_, 1) := by decide +kernel
set_option maxRecDepth 20000 in
theorem ggX2_put_X9_isCairn : GoodIn wsX2_put wsX9_isCairn := goodIn_r _ [6] (by decide +kernel) (by decide +kernel)
set_option maxRecDepth 20000 in
theorem gX2_put_X9_isCairn_n43 : GoodIn wsX2_put (wsX9_isCairn) := ggX2_put_X9_isCairn
theorem dX2_put_0 : decode cX2_put 0 = .ok (.iload_n 1, 1) := by decide +kernel
theorem dX2_put_1 : decode cX2_put 1 = .ok (.invokestatic 43, 3) := by decide +kernel
theorem dX2_put_4 : decode cX2_put 4 = .ok (.ifCond .ne 4, 3) := by decide +kernel
theorem dX2_put_7 : decode cX2_put 7 = .ok (.return_, 1) := by decide +kernel
theorem dX2_put_8 : decode cX2_put 8 = .ok (.aload_n 0, 1) := by decide +kernel
theorem dX2_put_9 : decode cX2_put 9 = .ok (.getfield 9, 3) := by decide +kernel
theorem dX2_put_12 : decode cX2_put 12 = .ok (.iload_n 1, 1) := by decide +kernel
theorem dX2_put_13 : decode cX2_put 13 = .ok (.iaload, 1) := by decide +kernel
theorem dX2_put_14 : decode cX2_put 14 = .ok (.istore_n 3, 1) := by decide +kernel
theorem dX2_put_15 : decode cX2_put 15 = .ok (.iload_n 3, 1) := by decide +kernel
theorem dX2_put_16 : decode cX2_put 16 = .ok (.ifCond .lt 9, 3) := by decide +kernel
theorem dX2_put_19 : decode cX2_put 19 = .ok (.iload_n 3, 1) := by decide +kernel
theorem dX2_put_20 : decode cX2_put 20 = .ok (.bipush 60, 2) := by decide +kernel
theorem dX2_put_22 : decode cX2_put 22 = .ok (.if_icmp .lt 14, 3) := by decide +kernel
theorem dX2_put_25 : decode cX2_put 25 = .ok (.aload_n 0, 1) := by decide +kernel
theorem dX2_put_26 : decode cX2_put 26 = .ok (.dup, 1) := by decide +kernel
theorem dX2_put_27 : decode cX2_put 27 = .ok (.getfield 40, 3) := by decide +kernel
theorem dX2_put_30 : decode cX2_put 30 = .ok (.iconst 1, 1) := by decide +kernel
theorem dX2_put_31 : decode cX2_put 31 = .ok (.iadd, 1) := by decide +kernel
theorem dX2_put_32 : decode cX2_put 32 = .ok (.putfield 40, 3) := by decide +kernel
theorem dX2_put_35 : decode cX2_put 35 = .ok (.return_, 1) := by decide +kernel
theorem dX2_put_36 : decode cX2_put 36 = .ok (.aload_n 0, 1) := by decide +kernel
theorem dX2_put_37 : decode cX2_put 37 = .ok (.getfield 15, 3) := by decide +kernel
theorem dX2_put_40 : decode cX2_put 40 = .ok (.iload_n 1, 1) := by decide +kernel
theorem dX2_put_41 : decode cX2_put 41 = .ok (.bipush 60, 2) := by decide +kernel
theorem dX2_put_43 : decode cX2_put 43 = .ok (.imul, 1) := by decide +kernel
theorem dX2_put_44 : decode cX2_put 44 = .ok (.iload_n 3, 1) := by decide +kernel
theorem dX2_put_45 : decode cX2_put 45 = .ok (.iadd, 1) := by decide +kernel
theorem dX2_put_46 : decode cX2_put 46 = .ok (.iload_n 2, 1) := by decide +kernel
theorem dX2_put_47 : decode cX2_put 47 = .ok (.iastore, 1) := by decide +kernel
theorem dX2_put_48 : decode cX2_put 48 = .ok (.aload_n 0, 1) := by decide +kernel
theorem dX2_put_49 : decode cX2_put 49 = .ok (.getfield 9, 3) := by decide +kernel
theorem dX2_put_52 : decode cX2_put 52 = .ok (.iload_n 1, 1) := by decide +kernel
theorem dX2_put_53 : decode cX2_put 53 = .ok (.iload_n 3, 1) := by decide +kernel
theorem dX2_put_54 : decode cX2_put 54 = .ok (.iconst 1, 1) := by decide +kernel
theorem dX2_put_55 : decode cX2_put 55 = .ok (.iadd, 1) := by decide +kernel
theorem dX2_put_56 : decode cX2_put 56 = .ok (.iastore, 1) := by decide +kernel
theorem dX2_put_57 : decode cX2_put 57 = .ok (.return_, 1) := by decide +kernel
set_option maxRecDepth 20000 in
theorem ggX2_cairnBy_X2_most : GoodIn wsX2_cairnBy wsX2_most := goodIn_r _ [6, 7, 12, 13, 14, 15, 16, 17, 18, 19] (by decide +kernel) (by decide +kernel)
set_option maxRecDepth 20000 in
theorem gX2_cairnBy_X2_most : GoodIn wsX2_cairnBy (wsV RX2 103 RX2 yX2_most wsX2_most) := goodIn_app (goodIn_of _ (by decide +kernel)) ggX2_cairnBy_X2_most
set_option maxRecDepth 20000 in
theorem ggX2_cairnBy_X2_fewest : GoodIn wsX2_cairnBy wsX2_fewest := goodIn_r _ [11, 7, 12, 13, 14, 15, 16, 17, 18, 19] (by decide +kernel) (by decide +kernel)
set_option maxRecDepth 20000 in
theorem gX2_cairnBy_X2_fewest : GoodIn wsX2_cairnBy (wsV RX2 121 RX2 yX2_fewest wsX2_fewest) := goodIn_app (goodIn_of _ (by decide +kernel)) ggX2_cairnBy_X2_fewest
theorem dX2_cairnBy_0 : decode cX2_cairnBy 0 = .ok (.iload_n 1, 1) := by decide +kernel
theorem dX2_cairnBy_1 : decode cX2_cairnBy 1 = .ok (.tableswitch 53 7 10 #[31, 36, 41, 43], 31) := by decide +kernel
theorem dX2_cairnBy_32 : decode cX2_cairnBy 32 = .ok (.aload_n 0, 1) := by decide +kernel
theorem dX2_cairnBy_33 : decode cX2_cairnBy 33 = .ok (.invokevirtual 103, 3) := by decide +kernel
theorem dX2_cairnBy_36 : decode cX2_cairnBy 36 = .ok (.ireturn, 1) := by decide +kernel
theorem dX2_cairnBy_37 : decode cX2_cairnBy 37 = .ok (.aload_n 0, 1) := by decide +kernel
theorem dX2_cairnBy_38 : decode cX2_cairnBy 38 = .ok (.invokevirtual 121, 3) := by decide +kernel
theorem dX2_cairnBy_41 : decode cX2_cairnBy 41 = .ok (.ireturn, 1) := by decide +kernel
theorem dX2_cairnBy_42 : decode cX2_cairnBy 42 = .ok (.iload_n 2, 1) := by decide +kernel
theorem dX2_cairnBy_43 : decode cX2_cairnBy 43 = .ok (.ireturn, 1) := by decide +kernel
theorem dX2_cairnBy_44 : decode cX2_cairnBy 44 = .ok (.aload_n 0, 1) := by decide +kernel
theorem dX2_cairnBy_45 : decode cX2_cairnBy 45 = .ok (.getfield 31, 3) := by decide +kernel
theorem dX2_cairnBy_48 : decode cX2_cairnBy 48 = .ok (.iconst 1, 1) := by decide +kernel
theorem dX2_cairnBy_49 : decode cX2_cairnBy 49 = .ok (.iadd, 1) := by decide +kernel
theorem dX2_cairnBy_50 : decode cX2_cairnBy 50 = .ok (.bipush 7, 2) := by decide +kernel
theorem dX2_cairnBy_52 : decode cX2_cairnBy 52 = .ok (.irem, 1) := by decide +kernel
theorem dX2_cairnBy_53 : decode cX2_cairnBy 53 = .ok (.ireturn, 1) := by decide +kernel
theorem dX2_cairnBy_54 : decode cX2_cairnBy 54 = .ok (.iload_n 1, 1) := by decide +kernel
theorem dX2_cairnBy_55 : decode cX2_cairnBy 55 = .ok (.ireturn, 1) := by decide +kernel
theorem dX2_draw_0 : decode cX2_draw 0 = .ok (.aload_n 0, 1) := by decide +kernel
theorem dX2_draw_1 : decode cX2_draw 1 = .ok (.ldc2_w 124, 3) := by decide +kernel
theorem dX2_draw_4 : decode cX2_draw 4 = .ok (.aload_n 0, 1) := by decide +kernel
theorem dX2_draw_5 : decode cX2_draw 5 = .ok (.getfield 18, 3) := by decide +kernel
theorem dX2_draw_8 : decode cX2_draw 8 = .ok (.i2l, 1) := by decide +kernel
theorem dX2_draw_9 : decode cX2_draw 9 = .ok (.lmul, 1) := by decide +kernel
theorem dX2_draw_10 : decode cX2_draw 10 = .ok (.ldc2_w 126, 3) := by decide +kernel
theorem dX2_draw_13 : decode cX2_draw 13 = .ok (.ladd, 1) := by decide +kernel
theorem dX2_draw_14 : decode cX2_draw 14 = .ok (.ldc2_w 128, 3) := by decide +kernel
theorem dX2_draw_17 : decode cX2_draw 17 = .ok (.land, 1) := by decide +kernel
theorem dX2_draw_18 : decode cX2_draw 18 = .ok (.l2i, 1) := by decide +kernel
theorem dX2_draw_19 : decode cX2_draw 19 = .ok (.putfield 18, 3) := by decide +kernel
theorem dX2_draw_22 : decode cX2_draw 22 = .ok (.aload_n 0, 1) := by decide +kernel
theorem dX2_draw_23 : decode cX2_draw 23 = .ok (.getfield 18, 3) := by decide +kernel
theorem dX2_draw_26 : decode cX2_draw 26 = .ok (.bipush 16, 2) := by decide +kernel
theorem dX2_draw_28 : decode cX2_draw 28 = .ok (.ishr, 1) := by decide +kernel
theorem dX2_draw_29 : decode cX2_draw 29 = .ok (.bipush 10, 2) := by decide +kernel
theorem dX2_draw_31 : decode cX2_draw 31 = .ok (.irem, 1) := by decide +kernel
theorem dX2_draw_32 : decode cX2_draw 32 = .ok (.ireturn, 1) := by decide +kernel
theorem dX4_init_0 : decode cX4_init 0 = .ok (.aload_n 0, 1) := by decide +kernel
theorem dX4_init_1 : decode cX4_init 1 = .ok (.invokespecial 3, 3) := by decide +kernel
theorem dX4_init_4 : decode cX4_init 4 = .ok (.aload_n 0, 1) := by decide +kernel
theorem dX4_init_5 : decode cX4_init 5 = .ok (.bipush 16, 2) := by decide +kernel
theorem dX4_init_7 : decode cX4_init 7 = .ok (.newarray .int, 2) := by decide +kernel
theorem dX4_init_9 : decode cX4_init 9 = .ok (.putfield 9, 3) := by decide +kernel
theorem dX4_init_12 : decode cX4_init 12 = .ok (.return_, 1) := by decide +kernel
set_option maxRecDepth 20000 in
theorem ggX4_lettersIn_X4_codeAt : GoodIn wsX4_lettersIn wsX4_codeAt := goodIn_r _ [4, 5] (by decide +kernel) (by decide +kernel)
set_option maxRecDepth 20000 in
theorem gX4_lettersIn_X4_codeAt : GoodIn wsX4_lettersIn (va_wsS RX4 15 yX4_codeAt wsX4_codeAt) := goodIn_app (goodIn_of _ (by decide +kernel)) ggX4_lettersIn_X4_codeAt
theorem dX4_lettersIn_0 : decode cX4_lettersIn 0 = .ok (.iconst 0, 1) := by decide +kernel
theorem dX4_lettersIn_1 : decode cX4_lettersIn 1 = .ok (.istore_n 2, 1) := by decide +kernel
theorem dX4_lettersIn_2 : decode cX4_lettersIn 2 = .ok (.iconst 0, 1) := by decide +kernel
theorem dX4_lettersIn_3 : decode cX4_lettersIn 3 = .ok (.istore_n 3, 1) := by decide +kernel
theorem dX4_lettersIn_4 : decode cX4_lettersIn 4 = .ok (.iload_n 3, 1) := by decide +kernel
theorem dX4_lettersIn_5 : decode cX4_lettersIn 5 = .ok (.bipush 8, 2) := by decide +kernel
theorem dX4_lettersIn_7 : decode cX4_lettersIn 7 = .ok (.if_icmp .ge 43, 3) := by decide +kernel
theorem dX4_lettersIn_10 : decode cX4_lettersIn 10 = .ok (.lload_n 0, 1) := by decide +kernel
theorem dX4_lettersIn_11 : decode cX4_lettersIn 11 = .ok (.iload_n 3, 1) := by decide +kernel
theorem dX4_lettersIn_12 : decode cX4_lettersIn 12 = .ok (.invokestatic 15, 3) := by decide +kernel
theorem dX4_lettersIn_15 : decode cX4_lettersIn 15 = .ok (.istore 4, 2) := by decide +kernel
theorem dX4_lettersIn_17 : decode cX4_lettersIn 17 = .ok (.iload 4, 2) := by decide +kernel
theorem dX4_lettersIn_19 : decode cX4_lettersIn 19 = .ok (.bipush 126, 2) := by decide +kernel
theorem dX4_lettersIn_21 : decode cX4_lettersIn 21 = .ok (.if_icmp .gt 13, 3) := by decide +kernel
theorem dX4_lettersIn_24 : decode cX4_lettersIn 24 = .ok (.iload 4, 2) := by decide +kernel
theorem dX4_lettersIn_26 : decode cX4_lettersIn 26 = .ok (.ifCond .eq 10, 3) := by decide +kernel
theorem dX4_lettersIn_29 : decode cX4_lettersIn 29 = .ok (.iload_n 2, 1) := by decide +kernel
theorem dX4_lettersIn_30 : decode cX4_lettersIn 30 = .ok (.iload_n 3, 1) := by decide +kernel
