theorem dX6_rank_0 : decode cX6_rank 0 = .ok (.iload_n 1, 1) := by decide +kernel
theorem dX6_rank_1 : decode cX6_rank 1 = .ok (.ifCond .lt 12, 3) := by decide +kernel
theorem dX6_rank_4 : decode cX6_rank 4 = .ok (.iload_n 2, 1) := by decide +kernel
theorem dX6_rank_5 : decode cX6_rank 5 = .ok (.iconst 0, 1) := by decide +kernel
theorem dX6_rank_6 : decode cX6_rank 6 = .ok (.iconst 2, 1) := by decide +kernel
theorem dX6_rank_7 : decode cX6_rank 7 = .ok (.invokestatic 35, 3) := by decide +kernel
theorem dX6_rank_10 : decode cX6_rank 10 = .ok (.ifCond .ne 6, 3) := by decide +kernel
theorem dX6_rank_13 : decode cX6_rank 13 = .ok (.ldc 56, 2) := by decide +kernel
theorem dX6_rank_15 : decode cX6_rank 15 = .ok (.ireturn, 1) := by decide +kernel
theorem dX6_rank_16 : decode cX6_rank 16 = .ok (.aload_n 0, 1) := by decide +kernel
theorem dX6_rank_17 : decode cX6_rank 17 = .ok (.invokevirtual 116, 3) := by decide +kernel
theorem dX6_rank_20 : decode cX6_rank 20 = .ok (.aload_n 0, 1) := by decide +kernel
theorem dX6_rank_21 : decode cX6_rank 21 = .ok (.iconst (-1), 1) := by decide +kernel
theorem dX6_rank_22 : decode cX6_rank 22 = .ok (.invokevirtual 110, 3) := by decide +kernel
theorem dX6_rank_25 : decode cX6_rank 25 = .ok (.istore_n 3, 1) := by decide +kernel
theorem dX6_rank_26 : decode cX6_rank 26 = .ok (.iconst 0, 1) := by decide +kernel
theorem dX6_rank_27 : decode cX6_rank 27 = .ok (.istore 4, 2) := by decide +kernel
theorem dX6_rank_29 : decode cX6_rank 29 = .ok (.iload 4, 2) := by decide +kernel
theorem dX6_rank_31 : decode cX6_rank 31 = .ok (.iload_n 1, 1) := by decide +kernel
theorem dX6_rank_32 : decode cX6_rank 32 = .ok (.if_icmp .ge 27, 3) := by decide +kernel
theorem dX6_rank_35 : decode cX6_rank 35 = .ok (.iload_n 3, 1) := by decide +kernel
theorem dX6_rank_36 : decode cX6_rank 36 = .ok (.iconst (-1), 1) := by decide +kernel
theorem dX6_rank_37 : decode cX6_rank 37 = .ok (.if_icmp .eq 22, 3) := by decide +kernel
theorem dX6_rank_40 : decode cX6_rank 40 = .ok (.aload_n 0, 1) := by decide +kernel
theorem dX6_rank_41 : decode cX6_rank 41 = .ok (.getfield 32, 3) := by decide +kernel
theorem dX6_rank_44 : decode cX6_rank 44 = .ok (.iload_n 3, 1) := by decide +kernel
theorem dX6_rank_45 : decode cX6_rank 45 = .ok (.iconst 1, 1) := by decide +kernel
theorem dX6_rank_46 : decode cX6_rank 46 = .ok (.bastore, 1) := by decide +kernel
theorem dX6_rank_47 : decode cX6_rank 47 = .ok (.aload_n 0, 1) := by decide +kernel
theorem dX6_rank_48 : decode cX6_rank 48 = .ok (.iconst (-1), 1) := by decide +kernel
theorem dX6_rank_49 : decode cX6_rank 49 = .ok (.invokevirtual 110, 3) := by decide +kernel
theorem dX6_rank_52 : decode cX6_rank 52 = .ok (.istore_n 3, 1) := by decide +kernel
theorem dX6_rank_53 : decode cX6_rank 53 = .ok (.iinc 4 1, 3) := by decide +kernel
theorem dX6_rank_56 : decode cX6_rank 56 = .ok (.goto (-27), 3) := by decide +kernel
theorem dX6_rank_59 : decode cX6_rank 59 = .ok (.iload_n 3, 1) := by decide +kernel
theorem dX6_rank_60 : decode cX6_rank 60 = .ok (.iconst (-1), 1) := by decide +kernel
theorem dX6_rank_61 : decode cX6_rank 61 = .ok (.if_icmp .ne 5, 3) := by decide +kernel
theorem dX6_rank_64 : decode cX6_rank 64 = .ok (.iconst (-1), 1) := by decide +kernel
theorem dX6_rank_65 : decode cX6_rank 65 = .ok (.ireturn, 1) := by decide +kernel
theorem dX6_rank_66 : decode cX6_rank 66 = .ok (.iload_n 2, 1) := by decide +kernel
theorem dX6_rank_67 : decode cX6_rank 67 = .ok (.ifCond .ne 10, 3) := by decide +kernel
theorem dX6_rank_70 : decode cX6_rank 70 = .ok (.iload_n 3, 1) := by decide +kernel
theorem dX6_rank_71 : decode cX6_rank 71 = .ok (.bipush 31, 2) := by decide +kernel
theorem dX6_rank_73 : decode cX6_rank 73 = .ok (.idiv, 1) := by decide +kernel
theorem dX6_rank_74 : decode cX6_rank 74 = .ok (.goto 27, 3) := by decide +kernel
theorem dX6_rank_77 : decode cX6_rank 77 = .ok (.iload_n 2, 1) := by decide +kernel
theorem dX6_rank_78 : decode cX6_rank 78 = .ok (.iconst 1, 1) := by decide +kernel
theorem dX6_rank_79 : decode cX6_rank 79 = .ok (.if_icmp .ne 16, 3) := by decide +kernel
theorem dX6_rank_82 : decode cX6_rank 82 = .ok (.iload_n 3, 1) := by decide +kernel
theorem dX6_rank_83 : decode cX6_rank 83 = .ok (.bipush 31, 2) := by decide +kernel
theorem dX6_rank_85 : decode cX6_rank 85 = .ok (.irem, 1) := by decide +kernel
theorem dX6_rank_86 : decode cX6_rank 86 = .ok (.bipush 15, 2) := by decide +kernel
theorem dX6_rank_88 : decode cX6_rank 88 = .ok (.isub, 1) := by decide +kernel
theorem dX6_rank_89 : decode cX6_rank 89 = .ok (.bipush 100, 2) := by decide +kernel
theorem dX6_rank_91 : decode cX6_rank 91 = .ok (.iadd, 1) := by decide +kernel
theorem dX6_rank_92 : decode cX6_rank 92 = .ok (.goto 9, 3) := by decide +kernel
theorem dX6_rank_95 : decode cX6_rank 95 = .ok (.aload_n 0, 1) := by decide +kernel
theorem dX6_rank_96 : decode cX6_rank 96 = .ok (.getfield 29, 3) := by decide +kernel
theorem dX6_rank_99 : decode cX6_rank 99 = .ok (.iload_n 3, 1) := by decide +kernel
theorem dX6_rank_100 : decode cX6_rank 100 = .ok (.iaload, 1) := by decide +kernel
theorem dX6_rank_101 : decode cX6_rank 101 = .ok (.ireturn, 1) := by decide +kernel
set_option maxRecDepth 20000 in
theorem ggX6_keep_X6_in : GoodIn wsX6_keep wsX6_in := goodIn_r _ [9] (by decide +kernel) (by decide +kernel)
set_option maxRecDepth 20000 in
theorem gX6_keep_X6_in : GoodIn wsX6_keep (va_wsS RX6 35 yX6_in wsX6_in) := goodIn_app (goodIn_of _ (by decide +kernel)) ggX6_keep_X6_in
theorem dX6_keep_0 : decode cX6_keep 0 = .ok (.iload_n 1, 1) := by decide +kernel
theorem dX6_keep_1 : decode cX6_keep 1 = .ok (.iconst 0, 1) := by decide +kernel
theorem dX6_keep_2 : decode cX6_keep 2 = .ok (.iconst 1, 1) := by decide +kernel
theorem dX6_keep_3 : decode cX6_keep 3 = .ok (.invokestatic 35, 3) := by decide +kernel
theorem dX6_keep_6 : decode cX6_keep 6 = .ok (.ifCond .ne 6, 3) := by decide +kernel
theorem dX6_keep_9 : decode cX6_keep 9 = .ok (.ldc 55, 2) := by decide +kernel
theorem dX6_keep_11 : decode cX6_keep 11 = .ok (.ireturn, 1) := by decide +kernel
theorem dX6_keep_12 : decode cX6_keep 12 = .ok (.iconst 0, 1) := by decide +kernel
theorem dX6_keep_13 : decode cX6_keep 13 = .ok (.istore_n 2, 1) := by decide +kernel
theorem dX6_keep_14 : decode cX6_keep 14 = .ok (.iload_n 2, 1) := by decide +kernel
theorem dX6_keep_15 : decode cX6_keep 15 = .ok (.sipush 647, 3) := by decide +kernel
theorem dX6_keep_18 : decode cX6_keep 18 = .ok (.if_icmp .ge 27, 3) := by decide +kernel
theorem dX6_keep_21 : decode cX6_keep 21 = .ok (.aload_n 0, 1) := by decide +kernel
theorem dX6_keep_22 : decode cX6_keep 22 = .ok (.getfield 16, 3) := by decide +kernel
theorem dX6_keep_25 : decode cX6_keep 25 = .ok (.sipush 647, 3) := by decide +kernel
theorem dX6_keep_28 : decode cX6_keep 28 = .ok (.iload_n 1, 1) := by decide +kernel
theorem dX6_keep_29 : decode cX6_keep 29 = .ok (.imul, 1) := by decide +kernel
theorem dX6_keep_30 : decode cX6_keep 30 = .ok (.iload_n 2, 1) := by decide +kernel
theorem dX6_keep_31 : decode cX6_keep 31 = .ok (.iadd, 1) := by decide +kernel
theorem dX6_keep_32 : decode cX6_keep 32 = .ok (.aload_n 0, 1) := by decide +kernel
theorem dX6_keep_33 : decode cX6_keep 33 = .ok (.getfield 7, 3) := by decide +kernel
theorem dX6_keep_36 : decode cX6_keep 36 = .ok (.iload_n 2, 1) := by decide +kernel
theorem dX6_keep_37 : decode cX6_keep 37 = .ok (.iaload, 1) := by decide +kernel
theorem dX6_keep_38 : decode cX6_keep 38 = .ok (.iastore, 1) := by decide +kernel
theorem dX6_keep_39 : decode cX6_keep 39 = .ok (.iinc 2 1, 3) := by decide +kernel
theorem dX6_keep_42 : decode cX6_keep 42 = .ok (.goto (-28), 3) := by decide +kernel
theorem dX6_keep_45 : decode cX6_keep 45 = .ok (.aload_n 0, 1) := by decide +kernel
theorem dX6_keep_46 : decode cX6_keep 46 = .ok (.getfield 19, 3) := by decide +kernel
theorem dX6_keep_49 : decode cX6_keep 49 = .ok (.iload_n 1, 1) := by decide +kernel
theorem dX6_keep_50 : decode cX6_keep 50 = .ok (.iconst 1, 1) := by decide +kernel
theorem dX6_keep_51 : decode cX6_keep 51 = .ok (.bastore, 1) := by decide +kernel
theorem dX6_keep_52 : decode cX6_keep 52 = .ok (.aload_n 0, 1) := by decide +kernel
theorem dX6_keep_53 : decode cX6_keep 53 = .ok (.iconst 0, 1) := by decide +kernel
theorem dX6_keep_54 : decode cX6_keep 54 = .ok (.putfield 43, 3) := by decide +kernel
theorem dX6_keep_57 : decode cX6_keep 57 = .ok (.iconst 1, 1) := by decide +kernel
theorem dX6_keep_58 : decode cX6_keep 58 = .ok (.ireturn, 1) := by decide +kernel
set_option maxRecDepth 20000 in
theorem ggX6_goBack_X6_in : GoodIn wsX6_goBack wsX6_in := goodIn_r _ [10] (by decide +kernel) (by decide +kernel)
set_option maxRecDepth 20000 in
theorem gX6_goBack_X6_in : GoodIn wsX6_goBack (va_wsS RX6 35 yX6_in wsX6_in) := goodIn_app (goodIn_of _ (by decide +kernel)) ggX6_goBack_X6_in
theorem dX6_goBack_0 : decode cX6_goBack 0 = .ok (.iload_n 1, 1) := by decide +kernel
theorem dX6_goBack_1 : decode cX6_goBack 1 = .ok (.iconst 0, 1) := by decide +kernel
theorem dX6_goBack_2 : decode cX6_goBack 2 = .ok (.iconst 1, 1) := by decide +kernel
theorem dX6_goBack_3 : decode cX6_goBack 3 = .ok (.invokestatic 35, 3) := by decide +kernel
theorem dX6_goBack_6 : decode cX6_goBack 6 = .ok (.ifCond .ne 6, 3) := by decide +kernel
theorem dX6_goBack_9 : decode cX6_goBack 9 = .ok (.ldc 55, 2) := by decide +kernel
theorem dX6_goBack_11 : decode cX6_goBack 11 = .ok (.ireturn, 1) := by decide +kernel
theorem dX6_goBack_12 : decode cX6_goBack 12 = .ok (.aload_n 0, 1) := by decide +kernel
theorem dX6_goBack_13 : decode cX6_goBack 13 = .ok (.getfield 19, 3) := by decide +kernel
theorem dX6_goBack_16 : decode cX6_goBack 16 = .ok (.iload_n 1, 1) := by decide +kernel
theorem dX6_goBack_17 : decode cX6_goBack 17 = .ok (.baload, 1) := by decide +kernel
theorem dX6_goBack_18 : decode cX6_goBack 18 = .ok (.ifCond .ne 6, 3) := by decide +kernel
theorem dX6_goBack_21 : decode cX6_goBack 21 = .ok (.ldc 85, 2) := by decide +kernel
theorem dX6_goBack_23 : decode cX6_goBack 23 = .ok (.ireturn, 1) := by decide +kernel
theorem dX6_goBack_24 : decode cX6_goBack 24 = .ok (.iconst 0, 1) := by decide +kernel
theorem dX6_goBack_25 : decode cX6_goBack 25 = .ok (.istore_n 2, 1) := by decide +kernel
theorem dX6_goBack_26 : decode cX6_goBack 26 = .ok (.iload_n 2, 1) := by decide +kernel
theorem dX6_goBack_27 : decode cX6_goBack 27 = .ok (.sipush 647, 3) := by decide +kernel
theorem dX6_goBack_30 : decode cX6_goBack 30 = .ok (.if_icmp .ge 27, 3) := by decide +kernel
theorem dX6_goBack_33 : decode cX6_goBack 33 = .ok (.aload_n 0, 1) := by decide +kernel
theorem dX6_goBack_34 : decode cX6_goBack 34 = .ok (.getfield 7, 3) := by decide +kernel
theorem dX6_goBack_37 : decode cX6_goBack 37 = .ok (.iload_n 2, 1) := by decide +kernel
theorem dX6_goBack_38 : decode cX6_goBack 38 = .ok (.aload_n 0, 1) := by decide +kernel
theorem dX6_goBack_39 : decode cX6_goBack 39 = .ok (.getfield 16, 3) := by decide +kernel
theorem dX6_goBack_42 : decode cX6_goBack 42 = .ok (.sipush 647, 3) := by decide +kernel
theorem dX6_goBack_45 : decode cX6_goBack 45 = .ok (.iload_n 1, 1) := by decide +kernel
theorem dX6_goBack_46 : decode cX6_goBack 46 = .ok (.imul, 1) := by decide +kernel
theorem dX6_goBack_47 : decode cX6_goBack 47 = .ok (.iload_n 2, 1) := by decide +kernel
theorem dX6_goBack_48 : decode cX6_goBack 48 = .ok (.iadd, 1) := by decide +kernel
theorem dX6_goBack_49 : decode cX6_goBack 49 = .ok (.iaload, 1) := by decide +kernel
theorem dX6_goBack_50 : decode cX6_goBack 50 = .ok (.iastore, 1) := by decide +kernel
theorem dX6_goBack_51 : decode cX6_goBack 51 = .ok (.iinc 2 1, 3) := by decide +kernel
theorem dX6_goBack_54 : decode cX6_goBack 54 = .ok (.goto (-28), 3) := by decide +kernel
theorem dX6_goBack_57 : decode cX6_goBack 57 = .ok (.aload_n 0, 1) := by decide +kernel
theorem dX6_goBack_58 : decode cX6_goBack 58 = .ok (.iconst 0, 1) := by decide +kernel
theorem dX6_goBack_59 : decode cX6_goBack 59 = .ok (.putfield 43, 3) := by decide +kernel
theorem dX6_goBack_62 : decode cX6_goBack 62 = .ok (.iconst 1, 1) := by decide +kernel
theorem dX6_goBack_63 : decode cX6_goBack 63 = .ok (.ireturn, 1) := by decide +kernel
theorem dJ9_max_7cf53_0 : decode cJ9_max_7cf53 0 = .ok (.iload_n 0, 1) := by decide +kernel
theorem dJ9_max_7cf53_1 : decode cJ9_max_7cf53 1 = .ok (.iload_n 1, 1) := by decide +kernel
theorem dJ9_max_7cf53_2 : decode cJ9_max_7cf53 2 = .ok (.if_icmp .lt 7, 3) := by decide +kernel
theorem dJ9_max_7cf53_5 : decode cJ9_max_7cf53 5 = .ok (.iload_n 0, 1) := by decide +kernel
theorem dJ9_max_7cf53_6 : decode cJ9_max_7cf53 6 = .ok (.goto 4, 3) := by decide +kernel
theorem dJ9_max_7cf53_9 : decode cJ9_max_7cf53 9 = .ok (.iload_n 1, 1) := by decide +kernel
theorem dJ9_max_7cf53_10 : decode cJ9_max_7cf53 10 = .ok (.ireturn, 1) := by decide +kernel
theorem dJ9_min_7cf53_0 : decode cJ9_min_7cf53 0 = .ok (.iload_n 0, 1) := by decide +kernel
theorem dJ9_min_7cf53_1 : decode cJ9_min_7cf53 1 = .ok (.iload_n 1, 1) := by decide +kernel
theorem dJ9_min_7cf53_2 : decode cJ9_min_7cf53 2 = .ok (.if_icmp .gt 7, 3) := by decide +kernel
theorem dJ9_min_7cf53_5 : decode cJ9_min_7cf53 5 = .ok (.iload_n 0, 1) := by decide +kernel
theorem dJ9_min_7cf53_6 : decode cJ9_min_7cf53 6 = .ok (.goto 4, 3) := by decide +kernel
theorem dJ9_min_7cf53_9 : decode cJ9_min_7cf53 9 = .ok (.iload_n 1, 1) := by decide +kernel
theorem dJ9_min_7cf53_10 : decode cJ9_min_7cf53 10 = .ok (.ireturn, 1) := by decide +kernel
set_option maxRecDepth 20000 in
theorem ggL_law_X5_init : GoodIn wsL_law wsX5_init := goodIn_r _ [8, 9, 10, 11, 12, 13, 14, 15, 16, 17, 18, 19, 20, 21, 22, 23, 24, 25, 26, 27, 28, 29, 30, 31, 32, 33, 34, 35, 36, 37, 38, 39, 40, 41, 42, 43, 44, 45, 46, 47, 48, 49, 50, 51, 52, 53, 54, 55, 56, 57, 58, 59, 60, 61, 62, 63, 64, 65, 66, 67, 68, 69, 70, 71, 657, 658, 659, 660, 641, 642, 643, 644, 645, 646, 647, 661, 662, 663, 664, 665, 666, 667, 668, 669, 670, 671, 672, 673, 674, 675, 676, 677, 678, 679, 680] (by decide +kernel) (by decide +kernel)
set_option maxRecDepth 20000 in
theorem gL_law_X5_init : GoodIn wsL_law (wsX5_init) := ggL_law_X5_init
set_option maxRecDepth 20000 in
theorem ggL_law_X6_init : GoodIn wsL_law wsX6_init := goodIn_r _ [74, 75, 10, 11, 38, 76, 77, 78, 79, 80, 81, 82, 83, 84, 648, 649, 650, 651, 652, 653, 654, 655, 656] (by decide +kernel) (by decide +kernel)
set_option maxRecDepth 20000 in
theorem gL_law_X6_init : GoodIn wsL_law (wsX6_init) := ggL_law_X6_init
set_option maxRecDepth 20000 in
theorem ggL_law_X5_add : GoodIn wsL_law wsX5_add := goodIn_r _ [88, 89, 90, 15, 91, 92, 93, 2, 94, 95, 96, 97, 98, 99, 100, 14, 101, 40, 102, 103, 104, 105, 19, 33, 106, 107, 108, 18, 109, 47, 110, 48, 49, 50, 51, 111, 112, 113, 114, 115, 116, 117, 118, 119, 39, 120, 121, 122, 123, 124, 125, 126, 127, 128, 41, 129, 130, 131, 132, 42, 133, 134, 135, 136, 641, 642, 643, 644, 645, 646, 647, 657, 658, 659, 660, 661, 662, 663, 664, 665, 666, 667] (by decide +kernel) (by decide +kernel)
set_option maxRecDepth 20000 in
theorem gL_law_X5_add : GoodIn wsL_law (wsV RL 13 RX5 yX5_add wsX5_add) := goodIn_app (goodIn_of _ (by decide +kernel)) ggL_law_X5_add
set_option maxRecDepth 20000 in
theorem ggL_law_X6_add : GoodIn wsL_law wsX6_add := goodIn_r _ [140, 141, 142, 76, 143, 144, 145, 5, 146, 147, 148, 149, 150, 151, 152, 153, 154, 77, 155, 156, 157, 158, 648, 649, 650, 651, 652, 653, 654, 655, 656] (by decide +kernel) (by decide +kernel)
set_option maxRecDepth 20000 in
theorem gL_law_X6_add : GoodIn wsL_law (wsV RL 17 RX6 yX6_add wsX6_add) := goodIn_app (goodIn_of _ (by decide +kernel)) ggL_law_X6_add
set_option maxRecDepth 20000 in
theorem ggL_law_X5_wipe : GoodIn wsL_law wsX5_wipe := goodIn_r _ [162, 89, 15, 92, 93, 2, 94, 95, 96, 97, 102, 103, 104, 105, 19, 33, 106, 107, 108, 18, 109, 47, 110, 48, 49, 50, 51, 111, 112, 113, 114, 115, 116, 117, 118, 14, 119, 39, 120, 121, 122, 123, 124, 99, 100, 101, 40, 125, 126, 127, 128, 41, 129, 130, 131, 132, 42, 98, 163, 164, 165, 166, 641, 642, 643, 644, 645, 646, 647, 661, 662, 663, 664, 665, 666, 667, 657, 658, 659, 660] (by decide +kernel) (by decide +kernel)
set_option maxRecDepth 20000 in
theorem gL_law_X5_wipe : GoodIn wsL_law (wsV RL 18 RX5 yX5_wipe wsX5_wipe) := goodIn_app (goodIn_of _ (by decide +kernel)) ggL_law_X5_wipe
set_option maxRecDepth 20000 in
theorem ggL_law_X6_wipe : GoodIn wsL_law wsX6_wipe := goodIn_r _ [170, 141, 76, 144, 145, 5, 146, 147, 148, 149, 150, 151, 152, 153, 154, 77, 648, 649, 650, 651, 652, 653, 654, 655, 656] (by decide +kernel) (by decide +kernel)
set_option maxRecDepth 20000 in
theorem gL_law_X6_wipe : GoodIn wsL_law (wsV RL 22 RX6 yX6_wipe wsX6_wipe) := goodIn_app (goodIn_of _ (by decide +kernel)) ggL_law_X6_wipe
set_option maxRecDepth 20000 in
theorem ggL_law_X5_lots : GoodIn wsL_law wsX5_lots := goodIn_r _ [174, 89, 175, 90, 15, 92, 93, 2, 94, 95, 96, 97, 102, 103, 104, 105, 19, 33, 106, 107, 108, 18, 109, 47, 110, 48, 49, 50, 51, 111, 112, 113, 114, 115, 116, 117, 118, 14, 119, 39, 120, 121, 122, 123, 124, 99, 100, 101, 40, 125, 126, 127, 128, 41, 129, 130, 131, 132, 42, 163, 164, 165, 166, 176, 177, 178, 179, 180, 133, 134, 135, 136, 181, 182, 183, 184, 641, 642, 643, 644, 645, 646, 647, 661, 662, 663, 664, 665, 666, 667, 657, 658, 659, 660] (by decide +kernel) (by decide +kernel)
set_option maxRecDepth 20000 in
theorem gL_law_X5_lots : GoodIn wsL_law (wsV RL 23 RX5 yX5_lots wsX5_lots) := goodIn_app (goodIn_of _ (by decide +kernel)) ggL_law_X5_lots
set_option maxRecDepth 20000 in
theorem ggL_law_X6_lots : GoodIn wsL_law wsX6_lots := goodIn_r _ [188, 141, 189, 142, 190, 76, 144, 145, 5, 146, 147, 148, 149, 150, 151, 152, 153, 154, 77, 191, 192, 193, 194, 195, 155, 156, 157, 158, 196, 197, 198, 199, 648, 649, 650, 651, 652, 653, 654, 655, 656] (by decide +kernel) (by decide +kernel)
set_option maxRecDepth 20000 in
theorem gL_law_X6_lots : GoodIn wsL_law (wsV RL 27 RX6 yX6_lots wsX6_lots) := goodIn_app (goodIn_of _ (by decide +kernel)) ggL_law_X6_lots
set_option maxRecDepth 20000 in
theorem ggL_law_X5_noise : GoodIn wsL_law wsX5_noise := goodIn_r _ [203, 89, 175, 90, 15, 92, 93, 2, 94, 95, 96, 97, 102, 103, 104, 105, 19, 33, 106, 107, 108, 18, 109, 47, 110, 48, 49, 50, 51, 111, 112, 113, 114, 115, 116, 117, 118, 14, 119, 39, 120, 121, 122, 123, 124, 99, 100, 101, 40, 125, 126, 127, 128, 41, 129, 130, 131, 132, 42, 98, 176, 177, 178, 179, 180, 204, 205, 206, 207, 208, 209, 210, 211, 212, 213, 214, 215, 641, 642, 643, 644, 645, 646, 647, 661, 662, 663, 664, 665, 666, 667, 657, 658, 659, 660] (by decide +kernel) (by decide +kernel)
set_option maxRecDepth 20000 in
theorem gL_law_X5_noise : GoodIn wsL_law (wsV RL 28 RX5 yX5_noise wsX5_noise) := goodIn_app (goodIn_of _ (by decide +kernel)) ggL_law_X5_noise
set_option maxRecDepth 20000 in
theorem ggL_law_X6_noise : GoodIn wsL_law wsX6_noise := goodIn_r _ [219, 141, 189, 142, 76, 220, 144, 145, 5, 146, 147, 148, 149, 150, 151, 152, 153, 154, 77, 191, 192, 193, 194, 195, 221, 222, 223, 224, 225, 226, 227, 228, 229, 230, 231, 155, 156, 157, 158, 648, 649, 650, 651, 652, 653, 654, 655, 656] (by decide +kernel) (by decide +kernel)
set_option maxRecDepth 20000 in
theorem gL_law_X6_noise : GoodIn wsL_law (wsV RL 31 RX6 yX6_noise wsX6_noise) := goodIn_app (goodIn_of _ (by decide +kernel)) ggL_law_X6_noise
set_option maxRecDepth 20000 in
theorem ggL_law_X5_louder : GoodIn wsL_law wsX5_louder := goodIn_r _ [235, 89, 90, 15, 92, 93, 2, 94, 95, 96, 97, 102, 103, 104, 105, 19, 33, 106, 107, 108, 18, 109, 47, 110, 48, 49, 50, 51, 111, 112, 113, 114, 115, 116, 117, 118, 14, 119, 39, 120, 121, 122, 123, 124, 99, 100, 101, 40, 125, 126, 127, 128, 41, 129, 130, 131, 132, 42, 98, 204, 205, 206, 207, 208, 209, 210, 211, 212, 213, 214, 215, 641, 642, 643, 644, 645, 646, 647, 661, 662, 663, 664, 665, 666, 667, 657, 658, 659, 660] (by decide +kernel) (by decide +kernel)
set_option maxRecDepth 20000 in
theorem gL_law_X5_louder : GoodIn wsL_law (wsV RL 32 RX5 yX5_louder wsX5_louder) := goodIn_app (goodIn_of _ (by decide +kernel)) ggL_law_X5_louder
set_option maxRecDepth 20000 in
theorem ggL_law_X6_louder : GoodIn wsL_law wsX6_louder := goodIn_r _ [239, 141, 142, 76, 144, 145, 5, 146, 147, 148, 149, 150, 151, 152, 153, 154, 77, 221, 222, 223, 224, 225, 226, 227, 228, 229, 230, 231, 155, 156, 157, 158, 648, 649, 650, 651, 652, 653, 654, 655, 656] (by decide +kernel) (by decide +kernel)
set_option maxRecDepth 20000 in
theorem gL_law_X6_louder : GoodIn wsL_law (wsV RL 35 RX6 yX6_louder wsX6_louder) := goodIn_app (goodIn_of _ (by decide +kernel)) ggL_law_X6_louder
set_option maxRecDepth 20000 in
theorem ggL_law_X5_hear : GoodIn wsL_law wsX5_hear := goodIn_r _ [243, 89, 90, 15, 244, 245, 113, 114, 115, 246, 247, 2, 248, 95, 96, 97, 98, 99, 100, 14, 101, 40, 102, 103, 104, 105, 19, 33, 106, 107, 108, 18, 109, 47, 110, 48, 49, 50, 51, 111, 112, 116, 117, 118, 119, 39, 120, 121, 122, 123, 124, 125, 126, 127, 128, 41, 129, 130, 131, 132, 42, 163, 164, 165, 166, 204, 205, 206, 207, 133, 134, 135, 136, 641, 642, 643, 644, 645, 646, 647, 657, 658, 659, 660, 661, 662, 663, 664, 665, 666, 667] (by decide +kernel) (by decide +kernel)
set_option maxRecDepth 20000 in
theorem gL_law_X5_hear : GoodIn wsL_law (wsV RL 36 RX5 yX5_hear wsX5_hear) := goodIn_app (goodIn_of _ (by decide +kernel)) ggL_law_X5_hear
set_option maxRecDepth 20000 in
theorem ggL_law_X6_hear : GoodIn wsL_law wsX6_hear := goodIn_r _ [252, 141, 142, 76, 253, 147, 148, 5, 149, 150, 151, 152, 153, 154, 77, 221, 222, 223, 224, 155, 156, 157, 158, 648, 649, 650, 651, 652, 653, 654, 655, 656] (by decide +kernel) (by decide +kernel)
set_option maxRecDepth 20000 in
theorem gL_law_X6_hear : GoodIn wsL_law (wsV RL 39 RX6 yX6_hear wsX6_hear) := goodIn_app (goodIn_of _ (by decide +kernel)) ggL_law_X6_hear
set_option maxRecDepth 20000 in
theorem ggL_law_X5_bound : GoodIn wsL_law wsX5_bound := goodIn_r _ [257, 258, 90, 95, 96, 2, 97, 259, 260, 261, 262, 15, 102, 103, 104, 105, 19, 33, 106, 107, 108, 18, 109, 47, 110, 48, 49, 50, 51, 111, 112, 113, 114, 115, 116, 117, 118, 14, 119, 39, 120, 121, 122, 123, 124, 99, 100, 101, 40, 125, 126, 127, 128, 41, 129, 130, 131, 132, 42, 263, 264, 265, 266, 267, 268, 269, 270, 271, 272, 273, 274, 275, 276, 641, 642, 643, 644, 645, 646, 647, 661, 662, 663, 664, 665, 666, 667, 657, 658, 659, 660] (by decide +kernel) (by decide +kernel)
set_option maxRecDepth 20000 in
theorem gL_law_X5_bound : GoodIn wsL_law (wsV RL 40 RX5 yX5_bound wsX5_bound) := goodIn_app (goodIn_of _ (by decide +kernel)) ggL_law_X5_bound
set_option maxRecDepth 20000 in
theorem ggL_law_X6_bound : GoodIn wsL_law wsX6_bound := goodIn_r _ [280, 281, 142, 76, 147, 148, 5, 149, 150, 151, 152, 153, 154, 77, 648, 649, 650, 651, 652, 653, 654, 655, 656] (by decide +kernel) (by decide +kernel)
set_option maxRecDepth 20000 in
theorem gL_law_X6_bound : GoodIn wsL_law (wsV RL 43 RX6 yX6_bound wsX6_bound) := goodIn_app (goodIn_of _ (by decide +kernel)) ggL_law_X6_bound
set_option maxRecDepth 20000 in
theorem ggL_law_X5_undo : GoodIn wsL_law wsX5_undo := goodIn_r _ [285, 19, 244, 15, 33, 286, 287, 288, 18, 289, 111, 290, 291, 292, 293, 110, 48, 47, 49, 50, 51, 294, 295, 296, 14, 297, 39, 120, 121, 122, 123, 40, 298, 265, 266, 267, 41, 299, 274, 275, 276, 42, 641, 642, 643, 644, 645, 646, 647, 661, 662, 663, 664, 665, 666, 667, 657, 658, 659, 660] (by decide +kernel) (by decide +kernel)
set_option maxRecDepth 20000 in
theorem gL_law_X5_undo : GoodIn wsL_law (wsV RL 44 RX5 yX5_undo wsX5_undo) := goodIn_app (goodIn_of _ (by decide +kernel)) ggL_law_X5_undo
set_option maxRecDepth 20000 in
theorem ggL_law_X6_undo : GoodIn wsL_law wsX6_undo := goodIn_r _ [303, 154, 253, 76, 77, 648, 649, 650, 651, 652, 653, 654, 655, 656] (by decide +kernel) (by decide +kernel)
set_option maxRecDepth 20000 in
theorem gL_law_X6_undo : GoodIn wsL_law (wsV RL 48 RX6 yX6_undo wsX6_undo) := goodIn_app (goodIn_of _ (by decide +kernel)) ggL_law_X6_undo
set_option maxRecDepth 20000 in
theorem ggL_law_X5_told : GoodIn wsL_law wsX5_told := goodIn_r _ [307, 15, 28, 32, 19, 90, 308, 309, 310, 2, 311, 33, 24, 312, 313, 314, 23, 315, 57, 316, 182, 183, 14, 184, 40, 317, 318, 319, 320, 321, 322, 323, 324, 56, 325, 205, 206, 207, 39, 326, 327, 328, 329, 330, 331, 332, 333, 334, 126, 127, 128, 41, 272, 130, 131, 132, 42, 335, 336, 337, 27, 338, 339, 340, 341, 342, 64, 343, 344, 345, 346, 347, 348, 349, 350, 351, 352, 353, 354, 355, 63, 356, 357, 358, 359, 65, 360, 361, 362, 31, 363, 364, 365, 366, 367, 368, 70, 369, 370, 371, 372, 373, 374, 375, 376, 377, 378, 379, 380, 381, 382, 383, 384, 385, 386, 387, 388, 389, 71, 263, 390, 391, 392, 393, 394, 395, 396, 397, 398, 399, 400, 401, 402, 403, 404, 405, 406, 407, 408, 409, 410, 411, 412, 413, 414, 415, 416, 417, 418, 419, 420, 421, 422, 423, 424, 425, 426, 427, 428, 429, 430, 431, 286, 287, 288, 18, 289, 111, 641, 642, 643, 644, 645, 646, 647, 668, 669, 670, 657, 658, 659, 660, 671, 672, 673, 674, 675, 676, 677, 678, 679, 680, 661, 662, 663, 664, 665, 666, 667] (by decide +kernel) (by decide +kernel)
set_option maxRecDepth 20000 in
theorem gL_law_X5_told : GoodIn wsL_law (wsV RL 49 RX5 yX5_told wsX5_told) := goodIn_app (goodIn_of _ (by decide +kernel)) ggL_law_X5_told
set_option maxRecDepth 20000 in
theorem ggL_law_X6_told : GoodIn wsL_law wsX6_told := goodIn_r _ [435, 76, 83, 154, 142, 436, 437, 438, 5, 439, 84, 440, 441, 442, 443, 82, 196, 197, 198, 199, 444, 445, 446, 447, 448, 449, 450, 451, 81, 221, 222, 223, 224, 452, 453, 454, 455, 456, 457, 458, 459, 460, 461, 462, 463, 147, 148, 149, 464, 465, 466, 467, 468, 469, 470, 471, 472, 473, 474, 475, 476, 477, 478, 479, 480, 481, 482, 483, 484, 485, 486, 487, 488, 489, 490, 491, 492, 493, 494, 495, 648, 649, 650, 651, 652, 653, 654, 655, 656] (by decide +kernel) (by decide +kernel)
set_option maxRecDepth 20000 in
theorem gL_law_X6_told : GoodIn wsL_law (wsV RL 52 RX6 yX6_told wsX6_told) := goodIn_app (goodIn_of _ (by decide +kernel)) ggL_law_X6_told
set_option maxRecDepth 20000 in
theorem ggL_law_X5_row : GoodIn wsL_law wsX5_row := goodIn_r _ [499, 89, 15, 24, 90, 92, 93, 2, 94, 95, 96, 97, 308, 309, 310, 311, 33, 28, 32, 312, 313, 314, 23, 315, 57, 316, 182, 183, 14, 184, 40, 317, 318, 319, 320, 321, 322, 323, 324, 56, 325, 205, 206, 207, 39, 326, 327, 328, 329, 330, 331, 332, 333, 334, 126, 127, 128, 41, 272, 130, 131, 132, 42, 335, 336, 337, 27, 338, 339, 340, 341, 342, 64, 343, 344, 345, 346, 347, 348, 349, 350, 351, 352, 353, 354, 355, 63, 356, 357, 358, 359, 65, 360, 361, 362, 31, 363, 364, 365, 366, 367, 368, 70, 369, 370, 371, 372, 373, 374, 375, 376, 377, 378, 379, 380, 381, 382, 383, 384, 385, 386, 387, 388, 389, 71, 98, 99, 100, 101, 181, 500, 501, 502, 503, 504, 505, 506, 507, 508, 509, 510, 511, 512, 513, 514, 515, 516, 58, 641, 642, 643, 644, 645, 646, 647, 668, 669, 670, 657, 658, 659, 660, 671, 672, 673, 674, 675, 676, 677, 678, 679, 680] (by decide +kernel) (by decide +kernel)
set_option maxRecDepth 20000 in
theorem gL_law_X5_row : GoodIn wsL_law (wsV RL 53 RX5 yX5_row wsX5_row) := goodIn_app (goodIn_of _ (by decide +kernel)) ggL_law_X5_row
set_option maxRecDepth 20000 in
theorem ggL_law_X6_row : GoodIn wsL_law wsX6_row := goodIn_r _ [520, 141, 76, 82, 142, 144, 145, 5, 146, 147, 148, 149, 440, 441, 442, 443, 196, 197, 198, 199, 444, 445, 446, 447, 448, 449, 450, 451, 81, 221, 222, 223, 224, 452, 453, 454, 455, 480, 481, 482, 483, 456, 457, 458, 459, 460, 461, 462, 463, 521, 522, 523, 524, 648, 649, 650, 651, 652, 653, 654, 655, 656] (by decide +kernel) (by decide +kernel)
set_option maxRecDepth 20000 in
theorem gL_law_X6_row : GoodIn wsL_law (wsV RL 56 RX6 yX6_row wsX6_row) := goodIn_app (goodIn_of _ (by decide +kernel)) ggL_law_X6_row
set_option maxRecDepth 20000 in
theorem ggL_law_X5_at : GoodIn wsL_law wsX5_at := goodIn_r _ [528, 89, 15, 90, 92, 93, 2, 94, 95, 96, 97, 98, 99, 100, 14, 101, 40, 204, 205, 206, 207, 39, 641, 642, 643, 644, 645, 646, 647, 657, 658, 659, 660] (by decide +kernel) (by decide +kernel)
set_option maxRecDepth 20000 in
theorem gL_law_X5_at : GoodIn wsL_law (wsV RL 57 RX5 yX5_at wsX5_at) := goodIn_app (goodIn_of _ (by decide +kernel)) ggL_law_X5_at
set_option maxRecDepth 20000 in
theorem ggL_law_X6_at : GoodIn wsL_law wsX6_at := goodIn_r _ [532, 141, 76, 142, 144, 145, 5, 146, 147, 148, 149, 221, 222, 223, 224, 648, 649, 650, 651, 652, 653, 654, 655, 656] (by decide +kernel) (by decide +kernel)
set_option maxRecDepth 20000 in
theorem gL_law_X6_at : GoodIn wsL_law (wsV RL 60 RX6 yX6_at wsX6_at) := goodIn_app (goodIn_of _ (by decide +kernel)) ggL_law_X6_at
set_option maxRecDepth 20000 in
theorem ggL_law_X5_share : GoodIn wsL_law wsX5_share := goodIn_r _ [536, 89, 90, 24, 15, 537, 538, 539, 2, 540, 92, 93, 94, 95, 96, 97, 181, 182, 183, 14, 184, 40, 541, 542, 543, 23, 544, 321, 322, 323, 324, 56, 325, 205, 206, 207, 39, 326, 327, 328, 329, 330, 331, 332, 333, 641, 642, 643, 644, 645, 646, 647, 657, 658, 659, 660, 668, 669, 670] (by decide +kernel) (by decide +kernel)
set_option maxRecDepth 20000 in
theorem gL_law_X5_share : GoodIn wsL_law (wsV RL 61 RX5 yX5_share wsX5_share) := goodIn_app (goodIn_of _ (by decide +kernel)) ggL_law_X5_share
set_option maxRecDepth 20000 in
theorem ggL_law_X6_share : GoodIn wsL_law wsX6_share := goodIn_r _ [548, 141, 142, 144, 145, 5, 146, 147, 148, 149, 460, 461, 462, 463, 196, 197, 198, 199, 76, 448, 449, 450, 451, 81, 221, 222, 223, 224, 452, 453, 454, 455, 648, 649, 650, 651, 652, 653, 654, 655, 656] (by decide +kernel) (by decide +kernel)
set_option maxRecDepth 20000 in
theorem gL_law_X6_share : GoodIn wsL_law (wsV RL 64 RX6 yX6_share wsX6_share) := goodIn_app (goodIn_of _ (by decide +kernel)) ggL_law_X6_share
set_option maxRecDepth 20000 in
theorem ggL_law_X5_peak : GoodIn wsL_law wsX5_peak := goodIn_r _ [552, 89, 24, 537, 538, 539, 2, 540, 15, 92, 93, 94, 95, 96, 97, 181, 182, 183, 14, 184, 40, 308, 309, 310, 311, 33, 28, 32, 312, 313, 314, 23, 315, 57, 316, 317, 318, 319, 320, 321, 322, 323, 324, 56, 325, 205, 206, 207, 39, 326, 327, 328, 329, 330, 331, 332, 333, 334, 126, 127, 128, 41, 272, 130, 131, 132, 42, 335, 336, 337, 27, 338, 339, 340, 341, 342, 64, 343, 344, 345, 346, 347, 348, 349, 350, 351, 352, 353, 354, 355, 63, 356, 357, 358, 359, 65, 360, 361, 362, 31, 363, 364, 365, 366, 367, 368, 70, 369, 370, 371, 372, 373, 374, 375, 376, 377, 378, 379, 380, 381, 382, 383, 384, 385, 386, 387, 388, 389, 71, 553, 641, 642, 643, 644, 645, 646, 647, 657, 658, 659, 660, 668, 669, 670, 671, 672, 673, 674, 675, 676, 677, 678, 679, 680] (by decide +kernel) (by decide +kernel)
set_option maxRecDepth 20000 in
theorem gL_law_X5_peak : GoodIn wsL_law (wsV RL 65 RX5 yX5_peak wsX5_peak) := goodIn_app (goodIn_of _ (by decide +kernel)) ggL_law_X5_peak
set_option maxRecDepth 20000 in
theorem ggL_law_X6_peak : GoodIn wsL_law wsX6_peak := goodIn_r _ [557, 141, 144, 145, 5, 146, 147, 148, 149, 460, 461, 462, 463, 196, 197, 198, 199, 76, 444, 445, 446, 447, 448, 449, 450, 451, 81, 221, 222, 223, 224, 452, 453, 454, 455, 648, 649, 650, 651, 652, 653, 654, 655, 656] (by decide +kernel) (by decide +kernel)
set_option maxRecDepth 20000 in
theorem gL_law_X6_peak : GoodIn wsL_law (wsV RL 68 RX6 yX6_peak wsX6_peak) := goodIn_app (goodIn_of _ (by decide +kernel)) ggL_law_X6_peak
set_option maxRecDepth 20000 in
theorem ggL_law_X5_key : GoodIn wsL_law wsX5_key := goodIn_r _ [561, 89, 24, 15, 537, 538, 539, 2, 540, 92, 93, 94, 95, 96, 97, 181, 182, 183, 14, 184, 40, 308, 309, 310, 311, 33, 28, 32, 312, 313, 314, 23, 315, 57, 316, 317, 318, 319, 320, 321, 322, 323, 324, 56, 325, 205, 206, 207, 39, 326, 327, 328, 329, 330, 331, 332, 333, 334, 126, 127, 128, 41, 272, 130, 131, 132, 42, 335, 336, 337, 27, 338, 339, 340, 341, 342, 64, 343, 344, 345, 346, 347, 348, 349, 350, 351, 352, 353, 354, 355, 63, 356, 357, 358, 359, 65, 360, 361, 362, 31, 363, 364, 365, 366, 367, 368, 70, 369, 370, 371, 372, 373, 374, 375, 376, 377, 378, 379, 380, 381, 382, 383, 384, 385, 386, 387, 388, 389, 71, 562, 641, 642, 643, 644, 645, 646, 647, 657, 658, 659, 660, 668, 669, 670, 671, 672, 673, 674, 675, 676, 677, 678, 679, 680] (by decide +kernel) (by decide +kernel)
set_option maxRecDepth 20000 in
theorem gL_law_X5_key : GoodIn wsL_law (wsV RL 69 RX5 yX5_key wsX5_key) := goodIn_app (goodIn_of _ (by decide +kernel)) ggL_law_X5_key
set_option maxRecDepth 20000 in
theorem ggL_law_X6_key : GoodIn wsL_law wsX6_key := goodIn_r _ [566, 141, 144, 145, 5, 146, 147, 148, 149, 460, 461, 462, 463, 196, 197, 198, 199, 76, 440, 441, 442, 443, 82, 444, 445, 446, 447, 448, 449, 450, 451, 81, 221, 222, 223, 224, 452, 453, 454, 455, 456, 457, 458, 459, 648, 649, 650, 651, 652, 653, 654, 655, 656] (by decide +kernel) (by decide +kernel)
set_option maxRecDepth 20000 in
theorem gL_law_X6_key : GoodIn wsL_law (wsV RL 72 RX6 yX6_key wsX6_key) := goodIn_app (goodIn_of _ (by decide +kernel)) ggL_law_X6_key
set_option maxRecDepth 20000 in
theorem ggL_law_X5_keyAt : GoodIn wsL_law wsX5_keyAt := goodIn_r _ [570, 90, 28, 308, 309, 310, 2, 311, 33, 24, 15, 32, 312, 313, 314, 23, 315, 57, 316, 182, 183, 14, 184, 40, 317, 318, 319, 320, 321, 322, 323, 324, 56, 325, 205, 206, 207, 39, 326, 327, 328, 329, 330, 331, 332, 333, 334, 126, 127, 128, 41, 272, 130, 131, 132, 42, 335, 336, 337, 27, 338, 339, 340, 341, 342, 64, 343, 344, 345, 346, 347, 348, 349, 350, 351, 352, 353, 354, 355, 63, 356, 357, 358, 359, 65, 360, 361, 362, 31, 363, 364, 365, 366, 367, 368, 70, 369, 370, 371, 372, 373, 374, 375, 376, 377, 378, 379, 380, 381, 382, 383, 384, 385, 386, 387, 388, 389, 71, 571, 572, 573, 574, 641, 642, 643, 644, 645, 646, 647, 668, 669, 670, 657, 658, 659, 660, 671, 672, 673, 674, 675, 676, 677, 678, 679, 680] (by decide +kernel) (by decide +kernel)
set_option maxRecDepth 20000 in
theorem gL_law_X5_keyAt : GoodIn wsL_law (wsV RL 73 RX5 yX5_keyAt wsX5_keyAt) := goodIn_app (goodIn_of _ (by decide +kernel)) ggL_law_X5_keyAt
set_option maxRecDepth 20000 in
theorem ggL_law_X6_keyAt : GoodIn wsL_law wsX6_keyAt := goodIn_r _ [578, 142, 440, 441, 442, 5, 443, 82, 196, 197, 198, 199, 76, 444, 445, 446, 447, 448, 449, 450, 451, 81, 221, 222, 223, 224, 452, 453, 454, 455, 476, 477, 478, 479, 464, 465, 466, 467, 456, 457, 458, 459, 460, 461, 462, 463, 147, 148, 149, 648, 649, 650, 651, 652, 653, 654, 655, 656] (by decide +kernel) (by decide +kernel)
set_option maxRecDepth 20000 in
theorem gL_law_X6_keyAt : GoodIn wsL_law (wsV RL 76 RX6 yX6_keyAt wsX6_keyAt) := goodIn_app (goodIn_of _ (by decide +kernel)) ggL_law_X6_keyAt
set_option maxRecDepth 20000 in
theorem ggL_law_X5_places : GoodIn wsL_law wsX5_places := goodIn_r _ [582, 90, 28, 95, 96, 2, 97, 308, 309, 310, 311, 33, 24, 15, 32, 312, 313, 314, 23, 315, 57, 316, 182, 183, 14, 184, 40, 317, 318, 319, 320, 321, 322, 323, 324, 56, 325, 205, 206, 207, 39, 326, 327, 328, 329, 330, 331, 332, 333, 334, 126, 127, 128, 41, 272, 130, 131, 132, 42, 335, 336, 337, 27, 338, 339, 340, 341, 342, 64, 343, 344, 345, 346, 347, 348, 349, 350, 351, 352, 353, 354, 355, 63, 356, 357, 358, 359, 65, 360, 361, 362, 31, 363, 364, 365, 366, 367, 368, 70, 369, 370, 371, 372, 373, 374, 375, 376, 377, 378, 379, 380, 381, 382, 383, 384, 385, 386, 387, 388, 389, 71, 583, 641, 642, 643, 644, 645, 646, 647, 668, 669, 670, 657, 658, 659, 660, 671, 672, 673, 674, 675, 676, 677, 678, 679, 680] (by decide +kernel) (by decide +kernel)
set_option maxRecDepth 20000 in
theorem gL_law_X5_places : GoodIn wsL_law (wsV RL 77 RX5 yX5_places wsX5_places) := goodIn_app (goodIn_of _ (by decide +kernel)) ggL_law_X5_places
set_option maxRecDepth 20000 in
theorem ggL_law_X6_places : GoodIn wsL_law wsX6_places := goodIn_r _ [587, 142, 147, 148, 5, 149, 440, 441, 442, 443, 82, 196, 197, 198, 199, 76, 444, 445, 446, 447, 448, 449, 450, 451, 81, 221, 222, 223, 224, 452, 453, 454, 455, 476, 477, 478, 479, 464, 465, 466, 467, 456, 457, 458, 459, 460, 461, 462, 463, 648, 649, 650, 651, 652, 653, 654, 655, 656] (by decide +kernel) (by decide +kernel)
set_option maxRecDepth 20000 in
theorem gL_law_X6_places : GoodIn wsL_law (wsV RL 80 RX6 yX6_places wsX6_places) := goodIn_app (goodIn_of _ (by decide +kernel)) ggL_law_X6_places
set_option maxRecDepth 20000 in
theorem ggL_law_X5_place : GoodIn wsL_law wsX5_place := goodIn_r _ [591, 90, 28, 95, 96, 2, 97, 308, 309, 310, 311, 33, 24, 15, 32, 312, 313, 314, 23, 315, 57, 316, 182, 183, 14, 184, 40, 317, 318, 319, 320, 321, 322, 323, 324, 56, 325, 205, 206, 207, 39, 326, 327, 328, 329, 330, 331, 332, 333, 334, 126, 127, 128, 41, 272, 130, 131, 132, 42, 335, 336, 337, 27, 338, 339, 340, 341, 342, 64, 343, 344, 345, 346, 347, 348, 349, 350, 351, 352, 353, 354, 355, 63, 356, 357, 358, 359, 65, 360, 361, 362, 31, 363, 364, 365, 366, 367, 368, 70, 369, 370, 371, 372, 373, 374, 375, 376, 377, 378, 379, 380, 381, 382, 383, 384, 385, 386, 387, 388, 389, 71, 592, 641, 642, 643, 644, 645, 646, 647, 668, 669, 670, 657, 658, 659, 660, 671, 672, 673, 674, 675, 676, 677, 678, 679, 680] (by decide +kernel) (by decide +kernel)
set_option maxRecDepth 20000 in
theorem gL_law_X5_place : GoodIn wsL_law (wsV RL 81 RX5 yX5_place wsX5_place) := goodIn_app (goodIn_of _ (by decide +kernel)) ggL_law_X5_place
set_option maxRecDepth 20000 in
theorem ggL_law_X6_place : GoodIn wsL_law wsX6_place := goodIn_r _ [596, 142, 147, 148, 5, 149, 440, 441, 442, 443, 82, 196, 197, 198, 199, 76, 444, 445, 446, 447, 448, 449, 450, 451, 81, 221, 222, 223, 224, 452, 453, 454, 455, 464, 465, 466, 467, 456, 457, 458, 459, 460, 461, 462, 463, 648, 649, 650, 651, 652, 653, 654, 655, 656] (by decide +kernel) (by decide +kernel)
set_option maxRecDepth 20000 in
theorem gL_law_X6_place : GoodIn wsL_law (wsV RL 84 RX6 yX6_place wsX6_place) := goodIn_app (goodIn_of _ (by decide +kernel)) ggL_law_X6_place
set_option maxRecDepth 20000 in
theorem ggL_law_X5_votes : GoodIn wsL_law wsX5_votes := goodIn_r _ [600, 89, 90, 32, 246, 247, 2, 248, 95, 96, 97, 308, 309, 310, 311, 33, 24, 15, 28, 312, 313, 314, 23, 315, 57, 316, 182, 183, 14, 184, 40, 317, 318, 319, 320, 321, 322, 323, 324, 56, 325, 205, 206, 207, 39, 326, 327, 328, 329, 330, 331, 332, 333, 334, 126, 127, 128, 41, 272, 130, 131, 132, 42, 335, 336, 337, 27, 338, 339, 340, 341, 342, 64, 343, 344, 345, 346, 347, 348, 349, 350, 351, 352, 353, 354, 355, 63, 356, 357, 358, 359, 65, 360, 361, 362, 31, 363, 364, 365, 366, 367, 368, 70, 369, 370, 371, 372, 373, 374, 375, 376, 377, 378, 379, 380, 381, 382, 383, 384, 385, 386, 387, 388, 389, 71, 601, 602, 603, 604, 641, 642, 643, 644, 645, 646, 647, 668, 669, 670, 657, 658, 659, 660, 671, 672, 673, 674, 675, 676, 677, 678, 679, 680] (by decide +kernel) (by decide +kernel)
set_option maxRecDepth 20000 in
theorem gL_law_X5_votes : GoodIn wsL_law (wsV RL 85 RX5 yX5_votes wsX5_votes) := goodIn_app (goodIn_of _ (by decide +kernel)) ggL_law_X5_votes
set_option maxRecDepth 20000 in
theorem ggL_law_X6_votes : GoodIn wsL_law wsX6_votes := goodIn_r _ [608, 141, 142, 83, 147, 148, 5, 149, 436, 437, 438, 439, 84, 440, 441, 442, 443, 82, 196, 197, 198, 199, 76, 444, 445, 446, 447, 448, 449, 450, 451, 81, 221, 222, 223, 224, 452, 453, 454, 455, 456, 457, 458, 459, 460, 461, 462, 463, 464, 465, 466, 467, 648, 649, 650, 651, 652, 653, 654, 655, 656] (by decide +kernel) (by decide +kernel)
set_option maxRecDepth 20000 in
theorem gL_law_X6_votes : GoodIn wsL_law (wsV RL 88 RX6 yX6_votes wsX6_votes) := goodIn_app (goodIn_of _ (by decide +kernel)) ggL_law_X6_votes
set_option maxRecDepth 20000 in
theorem ggL_law_X5_rank : GoodIn wsL_law wsX5_rank := goodIn_r _ [612, 90, 32, 95, 96, 2, 97, 308, 309, 310, 311, 33, 24, 15, 28, 312, 313, 314, 23, 315, 57, 316, 182, 183, 14, 184, 40, 317, 318, 319, 320, 321, 322, 323, 324, 56, 325, 205, 206, 207, 39, 326, 327, 328, 329, 330, 331, 332, 333, 334, 126, 127, 128, 41, 272, 130, 131, 132, 42, 335, 336, 337, 27, 338, 339, 340, 341, 342, 64, 343, 344, 345, 346, 347, 348, 349, 350, 351, 352, 353, 354, 355, 63, 356, 357, 358, 359, 65, 360, 361, 362, 31, 363, 364, 365, 366, 367, 368, 70, 369, 370, 371, 372, 373, 374, 375, 376, 377, 378, 379, 380, 381, 382, 383, 384, 385, 386, 387, 388, 389, 71, 424, 425, 426, 427, 406, 407, 408, 409, 410, 411, 412, 413, 414, 415, 416, 417, 641, 642, 643, 644, 645, 646, 647, 668, 669, 670, 657, 658, 659, 660, 671, 672, 673, 674, 675, 676, 677, 678, 679, 680] (by decide +kernel) (by decide +kernel)
set_option maxRecDepth 20000 in
theorem gL_law_X5_rank : GoodIn wsL_law (wsV RL 89 RX5 yX5_rank wsX5_rank) := goodIn_app (goodIn_of _ (by decide +kernel)) ggL_law_X5_rank
set_option maxRecDepth 20000 in
theorem ggL_law_X6_rank : GoodIn wsL_law wsX6_rank := goodIn_r _ [616, 142, 84, 83, 147, 148, 5, 149, 436, 437, 438, 439, 440, 441, 442, 443, 82, 196, 197, 198, 199, 76, 444, 445, 446, 447, 448, 449, 450, 451, 81, 221, 222, 223, 224, 452, 453, 454, 455, 456, 457, 458, 459, 460, 461, 462, 463, 464, 465, 466, 467, 468, 469, 470, 471, 648, 649, 650, 651, 652, 653, 654, 655, 656] (by decide +kernel) (by decide +kernel)
set_option maxRecDepth 20000 in
theorem gL_law_X6_rank : GoodIn wsL_law (wsV RL 92 RX6 yX6_rank wsX6_rank) := goodIn_app (goodIn_of _ (by decide +kernel)) ggL_law_X6_rank
set_option maxRecDepth 20000 in
theorem ggL_law_X5_keep : GoodIn wsL_law wsX5_keep := goodIn_r _ [620, 89, 20, 12, 13, 14, 15, 19, 95, 96, 2, 97, 34, 35, 36, 37, 10, 11, 38, 39, 40, 41, 42, 621, 622, 623, 624, 120, 121, 122, 123, 625, 626, 627, 18, 628, 111, 641, 642, 643, 644, 645, 646, 647, 657, 658, 659, 660, 661, 662, 663, 664, 665, 666, 667] (by decide +kernel) (by decide +kernel)
set_option maxRecDepth 20000 in
theorem gL_law_X5_keep : GoodIn wsL_law (wsV RL 93 RX5 yX5_keep wsX5_keep) := goodIn_app (goodIn_of _ (by decide +kernel)) ggL_law_X5_keep
set_option maxRecDepth 20000 in
theorem ggL_law_X6_keep : GoodIn wsL_law wsX6_keep := goodIn_r _ [632, 141, 78, 76, 80, 154, 147, 148, 5, 149, 648, 649, 650, 651, 652, 653, 654, 655, 656] (by decide +kernel) (by decide +kernel)
set_option maxRecDepth 20000 in
theorem gL_law_X6_keep : GoodIn wsL_law (wsV RL 96 RX6 yX6_keep wsX6_keep) := goodIn_app (goodIn_of _ (by decide +kernel)) ggL_law_X6_keep
set_option maxRecDepth 20000 in
theorem ggL_law_X5_goBack : GoodIn wsL_law wsX5_goBack := goodIn_r _ [636, 89, 20, 244, 15, 19, 33, 95, 96, 2, 97, 621, 622, 623, 14, 624, 39, 120, 121, 122, 123, 40, 41, 42, 625, 626, 627, 18, 628, 111, 641, 642, 643, 644, 645, 646, 647, 657, 658, 659, 660, 661, 662, 663, 664, 665, 666, 667] (by decide +kernel) (by decide +kernel)
set_option maxRecDepth 20000 in
theorem gL_law_X5_goBack : GoodIn wsL_law (wsV RL 97 RX5 yX5_goBack wsX5_goBack) := goodIn_app (goodIn_of _ (by decide +kernel)) ggL_law_X5_goBack
set_option maxRecDepth 20000 in
theorem ggL_law_X6_goBack : GoodIn wsL_law wsX6_goBack := goodIn_r _ [640, 141, 80, 253, 76, 78, 154, 147, 148, 5, 149, 648, 649, 650, 651, 652, 653, 654, 655, 656] (by decide +kernel) (by decide +kernel)
set_option maxRecDepth 20000 in
theorem gL_law_X6_goBack : GoodIn wsL_law (wsV RL 100 RX6 yX6_goBack wsX6_goBack) := goodIn_app (goodIn_of _ (by decide +kernel)) ggL_law_X6_goBack
theorem dL_law_0 : decode cL_law 0 = .ok (.new 7, 3) := by decide +kernel
theorem dL_law_3 : decode cL_law 3 = .ok (.dup, 1) := by decide +kernel
theorem dL_law_4 : decode cL_law 4 = .ok (.invokespecial 9, 3) := by decide +kernel
theorem dL_law_7 : decode cL_law 7 = .ok (.astore_n 1, 1) := by decide +kernel
theorem dL_law_8 : decode cL_law 8 = .ok (.new 10, 3) := by decide +kernel
theorem dL_law_11 : decode cL_law 11 = .ok (.dup, 1) := by decide +kernel
theorem dL_law_12 : decode cL_law 12 = .ok (.invokespecial 12, 3) := by decide +kernel
theorem dL_law_15 : decode cL_law 15 = .ok (.astore_n 2, 1) := by decide +kernel
theorem dL_law_16 : decode cL_law 16 = .ok (.iconst 0, 1) := by decide +kernel
theorem dL_law_17 : decode cL_law 17 = .ok (.istore_n 3, 1) := by decide +kernel
theorem dL_law_18 : decode cL_law 18 = .ok (.iload_n 3, 1) := by decide +kernel
theorem dL_law_19 : decode cL_law 19 = .ok (.aload_n 0, 1) := by decide +kernel
theorem dL_law_20 : decode cL_law 20 = .ok (.arraylength, 1) := by decide +kernel
theorem dL_law_21 : decode cL_law 21 = .ok (.iconst 4, 1) := by decide +kernel
theorem dL_law_22 : decode cL_law 22 = .ok (.isub, 1) := by decide +kernel
theorem dL_law_23 : decode cL_law 23 = .ok (.if_icmp .gt 788, 3) := by decide +kernel
theorem dL_law_26 : decode cL_law 26 = .ok (.aload_n 0, 1) := by decide +kernel
theorem dL_law_27 : decode cL_law 27 = .ok (.iload_n 3, 1) := by decide +kernel
theorem dL_law_28 : decode cL_law 28 = .ok (.iaload, 1) := by decide +kernel
theorem dL_law_29 : decode cL_law 29 = .ok (.bipush 31, 2) := by decide +kernel
theorem dL_law_31 : decode cL_law 31 = .ok (.iand, 1) := by decide +kernel
theorem dL_law_32 : decode cL_law 32 = .ok (.tableswitch 773 0 20 #[100, 133, 156, 199, 242, 285, 328, 361, 374, 397, 430, 463, 506, 539, 582, 605, 628, 661, 694, 727, 750], 100) := by decide +kernel
theorem dL_law_132 : decode cL_law 132 = .ok (.aload_n 1, 1) := by decide +kernel
theorem dL_law_133 : decode cL_law 133 = .ok (.aload_n 0, 1) := by decide +kernel
theorem dL_law_134 : decode cL_law 134 = .ok (.iload_n 3, 1) := by decide +kernel
theorem dL_law_135 : decode cL_law 135 = .ok (.iconst 1, 1) := by decide +kernel
theorem dL_law_136 : decode cL_law 136 = .ok (.iadd, 1) := by decide +kernel
theorem dL_law_137 : decode cL_law 137 = .ok (.iaload, 1) := by decide +kernel
theorem dL_law_138 : decode cL_law 138 = .ok (.aload_n 0, 1) := by decide +kernel
theorem dL_law_139 : decode cL_law 139 = .ok (.iload_n 3, 1) := by decide +kernel
theorem dL_law_140 : decode cL_law 140 = .ok (.iconst 2, 1) := by decide +kernel
theorem dL_law_141 : decode cL_law 141 = .ok (.iadd, 1) := by decide +kernel
theorem dL_law_142 : decode cL_law 142 = .ok (.iaload, 1) := by decide +kernel
theorem dL_law_143 : decode cL_law 143 = .ok (.invokevirtual 13, 3) := by decide +kernel
theorem dL_law_146 : decode cL_law 146 = .ok (.aload_n 2, 1) := by decide +kernel
theorem dL_law_147 : decode cL_law 147 = .ok (.aload_n 0, 1) := by decide +kernel
theorem dL_law_148 : decode cL_law 148 = .ok (.iload_n 3, 1) := by decide +kernel
theorem dL_law_149 : decode cL_law 149 = .ok (.iconst 1, 1) := by decide +kernel
theorem dL_law_150 : decode cL_law 150 = .ok (.iadd, 1) := by decide +kernel
theorem dL_law_151 : decode cL_law 151 = .ok (.iaload, 1) := by decide +kernel
theorem dL_law_152 : decode cL_law 152 = .ok (.aload_n 0, 1) := by decide +kernel
theorem dL_law_153 : decode cL_law 153 = .ok (.iload_n 3, 1) := by decide +kernel
theorem dL_law_154 : decode cL_law 154 = .ok (.iconst 2, 1) := by decide +kernel
theorem dL_law_155 : decode cL_law 155 = .ok (.iadd, 1) := by decide +kernel
theorem dL_law_156 : decode cL_law 156 = .ok (.iaload, 1) := by decide +kernel
theorem dL_law_157 : decode cL_law 157 = .ok (.invokevirtual 17, 3) := by decide +kernel
theorem dL_law_160 : decode cL_law 160 = .ok (.if_icmp .eq 645, 3) := by decide +kernel
theorem dL_law_163 : decode cL_law 163 = .ok (.iconst 0, 1) := by decide +kernel
theorem dL_law_164 : decode cL_law 164 = .ok (.ireturn, 1) := by decide +kernel
theorem dL_law_165 : decode cL_law 165 = .ok (.aload_n 1, 1) := by decide +kernel
theorem dL_law_166 : decode cL_law 166 = .ok (.aload_n 0, 1) := by decide +kernel
theorem dL_law_167 : decode cL_law 167 = .ok (.iload_n 3, 1) := by decide +kernel
theorem dL_law_168 : decode cL_law 168 = .ok (.iconst 1, 1) := by decide +kernel
theorem dL_law_169 : decode cL_law 169 = .ok (.iadd, 1) := by decide +kernel
theorem dL_law_170 : decode cL_law 170 = .ok (.iaload, 1) := by decide +kernel
theorem dL_law_171 : decode cL_law 171 = .ok (.invokevirtual 18, 3) := by decide +kernel
theorem dL_law_174 : decode cL_law 174 = .ok (.aload_n 2, 1) := by decide +kernel
theorem dL_law_175 : decode cL_law 175 = .ok (.aload_n 0, 1) := by decide +kernel
theorem dL_law_176 : decode cL_law 176 = .ok (.iload_n 3, 1) := by decide +kernel
theorem dL_law_177 : decode cL_law 177 = .ok (.iconst 1, 1) := by decide +kernel
theorem dL_law_178 : decode cL_law 178 = .ok (.iadd, 1) := by decide +kernel
theorem dL_law_179 : decode cL_law 179 = .ok (.iaload, 1) := by decide +kernel
theorem dL_law_180 : decode cL_law 180 = .ok (.invokevirtual 22, 3) := by decide +kernel
theorem dL_law_183 : decode cL_law 183 = .ok (.if_icmp .eq 622, 3) := by decide +kernel
theorem dL_law_186 : decode cL_law 186 = .ok (.iconst 0, 1) := by decide +kernel
theorem dL_law_187 : decode cL_law 187 = .ok (.ireturn, 1) := by decide +kernel
theorem dL_law_188 : decode cL_law 188 = .ok (.aload_n 1, 1) := by decide +kernel
theorem dL_law_189 : decode cL_law 189 = .ok (.aload_n 0, 1) := by decide +kernel
theorem dL_law_190 : decode cL_law 190 = .ok (.iload_n 3, 1) := by decide +kernel
theorem dL_law_191 : decode cL_law 191 = .ok (.iconst 1, 1) := by decide +kernel
theorem dL_law_192 : decode cL_law 192 = .ok (.iadd, 1) := by decide +kernel
theorem dL_law_193 : decode cL_law 193 = .ok (.iaload, 1) := by decide +kernel
theorem dL_law_194 : decode cL_law 194 = .ok (.aload_n 0, 1) := by decide +kernel
theorem dL_law_195 : decode cL_law 195 = .ok (.iload_n 3, 1) := by decide +kernel
theorem dL_law_196 : decode cL_law 196 = .ok (.iconst 2, 1) := by decide +kernel
theorem dL_law_197 : decode cL_law 197 = .ok (.iadd, 1) := by decide +kernel
theorem dL_law_198 : decode cL_law 198 = .ok (.iaload, 1) := by decide +kernel
theorem dL_law_199 : decode cL_law 199 = .ok (.aload_n 0, 1) := by decide +kernel
theorem dL_law_200 : decode cL_law 200 = .ok (.iload_n 3, 1) := by decide +kernel
theorem dL_law_201 : decode cL_law 201 = .ok (.iconst 3, 1) := by decide +kernel
theorem dL_law_202 : decode cL_law 202 = .ok (.iadd, 1) := by decide +kernel
theorem dL_law_203 : decode cL_law 203 = .ok (.iaload, 1) := by decide +kernel
theorem dL_law_204 : decode cL_law 204 = .ok (.invokevirtual 23, 3) := by decide +kernel
theorem dL_law_207 : decode cL_law 207 = .ok (.aload_n 2, 1) := by decide +kernel
theorem dL_law_208 : decode cL_law 208 = .ok (.aload_n 0, 1) := by decide +kernel
theorem dL_law_209 : decode cL_law 209 = .ok (.iload_n 3, 1) := by decide +kernel
theorem dL_law_210 : decode cL_law 210 = .ok (.iconst 1, 1) := by decide +kernel
theorem dL_law_211 : decode cL_law 211 = .ok (.iadd, 1) := by decide +kernel
theorem dL_law_212 : decode cL_law 212 = .ok (.iaload, 1) := by decide +kernel
theorem dL_law_213 : decode cL_law 213 = .ok (.aload_n 0, 1) := by decide +kernel
theorem dL_law_214 : decode cL_law 214 = .ok (.iload_n 3, 1) := by decide +kernel
theorem dL_law_215 : decode cL_law 215 = .ok (.iconst 2, 1) := by decide +kernel
theorem dL_law_216 : decode cL_law 216 = .ok (.iadd, 1) := by decide +kernel
theorem dL_law_217 : decode cL_law 217 = .ok (.iaload, 1) := by decide +kernel
theorem dL_law_218 : decode cL_law 218 = .ok (.aload_n 0, 1) := by decide +kernel
theorem dL_law_219 : decode cL_law 219 = .ok (.iload_n 3, 1) := by decide +kernel
theorem dL_law_220 : decode cL_law 220 = .ok (.iconst 3, 1) := by decide +kernel
theorem dL_law_221 : decode cL_law 221 = .ok (.iadd, 1) := by decide +kernel
theorem dL_law_222 : decode cL_law 222 = .ok (.iaload, 1) := by decide +kernel
theorem dL_law_223 : decode cL_law 223 = .ok (.invokevirtual 27, 3) := by decide +kernel
theorem dL_law_226 : decode cL_law 226 = .ok (.if_icmp .eq 579, 3) := by decide +kernel
theorem dL_law_229 : decode cL_law 229 = .ok (.iconst 0, 1) := by decide +kernel
theorem dL_law_230 : decode cL_law 230 = .ok (.ireturn, 1) := by decide +kernel
theorem dL_law_231 : decode cL_law 231 = .ok (.aload_n 1, 1) := by decide +kernel
theorem dL_law_232 : decode cL_law 232 = .ok (.aload_n 0, 1) := by decide +kernel
theorem dL_law_233 : decode cL_law 233 = .ok (.iload_n 3, 1) := by decide +kernel
theorem dL_law_234 : decode cL_law 234 = .ok (.iconst 1, 1) := by decide +kernel
theorem dL_law_235 : decode cL_law 235 = .ok (.iadd, 1) := by decide +kernel
theorem dL_law_236 : decode cL_law 236 = .ok (.iaload, 1) := by decide +kernel
theorem dL_law_237 : decode cL_law 237 = .ok (.aload_n 0, 1) := by decide +kernel
theorem dL_law_238 : decode cL_law 238 = .ok (.iload_n 3, 1) := by decide +kernel
theorem dL_law_239 : decode cL_law 239 = .ok (.iconst 2, 1) := by decide +kernel
theorem dL_law_240 : decode cL_law 240 = .ok (.iadd, 1) := by decide +kernel
theorem dL_law_241 : decode cL_law 241 = .ok (.iaload, 1) := by decide +kernel
theorem dL_law_242 : decode cL_law 242 = .ok (.aload_n 0, 1) := by decide +kernel
theorem dL_law_243 : decode cL_law 243 = .ok (.iload_n 3, 1) := by decide +kernel
theorem dL_law_244 : decode cL_law 244 = .ok (.iconst 3, 1) := by decide +kernel
theorem dL_law_245 : decode cL_law 245 = .ok (.iadd, 1) := by decide +kernel
theorem dL_law_246 : decode cL_law 246 = .ok (.iaload, 1) := by decide +kernel
theorem dL_law_247 : decode cL_law 247 = .ok (.invokevirtual 28, 3) := by decide +kernel
theorem dL_law_250 : decode cL_law 250 = .ok (.aload_n 2, 1) := by decide +kernel
theorem dL_law_251 : decode cL_law 251 = .ok (.aload_n 0, 1) := by decide +kernel
theorem dL_law_252 : decode cL_law 252 = .ok (.iload_n 3, 1) := by decide +kernel
theorem dL_law_253 : decode cL_law 253 = .ok (.iconst 1, 1) := by decide +kernel
theorem dL_law_254 : decode cL_law 254 = .ok (.iadd, 1) := by decide +kernel
theorem dL_law_255 : decode cL_law 255 = .ok (.iaload, 1) := by decide +kernel
theorem dL_law_256 : decode cL_law 256 = .ok (.aload_n 0, 1) := by decide +kernel
theorem dL_law_257 : decode cL_law 257 = .ok (.iload_n 3, 1) := by decide +kernel
theorem dL_law_258 : decode cL_law 258 = .ok (.iconst 2, 1) := by decide +kernel
theorem dL_law_259 : decode cL_law 259 = .ok (.iadd, 1) := by decide +kernel
theorem dL_law_260 : decode cL_law 260 = .ok (.iaload, 1) := by decide +kernel
theorem dL_law_261 : decode cL_law 261 = .ok (.aload_n 0, 1) := by decide +kernel
theorem dL_law_262 : decode cL_law 262 = .ok (.iload_n 3, 1) := by decide +kernel
theorem dL_law_263 : decode cL_law 263 = .ok (.iconst 3, 1) := by decide +kernel
theorem dL_law_264 : decode cL_law 264 = .ok (.iadd, 1) := by decide +kernel
theorem dL_law_265 : decode cL_law 265 = .ok (.iaload, 1) := by decide +kernel
theorem dL_law_266 : decode cL_law 266 = .ok (.invokevirtual 31, 3) := by decide +kernel
theorem dL_law_269 : decode cL_law 269 = .ok (.if_icmp .eq 536, 3) := by decide +kernel
theorem dL_law_272 : decode cL_law 272 = .ok (.iconst 0, 1) := by decide +kernel
theorem dL_law_273 : decode cL_law 273 = .ok (.ireturn, 1) := by decide +kernel
theorem dL_law_274 : decode cL_law 274 = .ok (.aload_n 1, 1) := by decide +kernel
theorem dL_law_275 : decode cL_law 275 = .ok (.aload_n 0, 1) := by decide +kernel
theorem dL_law_276 : decode cL_law 276 = .ok (.iload_n 3, 1) := by decide +kernel
theorem dL_law_277 : decode cL_law 277 = .ok (.iconst 1, 1) := by decide +kernel
theorem dL_law_278 : decode cL_law 278 = .ok (.iadd, 1) := by decide +kernel
theorem dL_law_279 : decode cL_law 279 = .ok (.iaload, 1) := by decide +kernel
theorem dL_law_280 : decode cL_law 280 = .ok (.aload_n 0, 1) := by decide +kernel
theorem dL_law_281 : decode cL_law 281 = .ok (.iload_n 3, 1) := by decide +kernel
theorem dL_law_282 : decode cL_law 282 = .ok (.iconst 2, 1) := by decide +kernel
theorem dL_law_283 : decode cL_law 283 = .ok (.iadd, 1) := by decide +kernel
theorem dL_law_284 : decode cL_law 284 = .ok (.iaload, 1) := by decide +kernel
theorem dL_law_285 : decode cL_law 285 = .ok (.aload_n 0, 1) := by decide +kernel
theorem dL_law_286 : decode cL_law 286 = .ok (.iload_n 3, 1) := by decide +kernel
theorem dL_law_287 : decode cL_law 287 = .ok (.iconst 3, 1) := by decide +kernel
theorem dL_law_288 : decode cL_law 288 = .ok (.iadd, 1) := by decide +kernel
theorem dL_law_289 : decode cL_law 289 = .ok (.iaload, 1) := by decide +kernel
theorem dL_law_290 : decode cL_law 290 = .ok (.invokevirtual 32, 3) := by decide +kernel
theorem dL_law_293 : decode cL_law 293 = .ok (.aload_n 2, 1) := by decide +kernel
theorem dL_law_294 : decode cL_law 294 = .ok (.aload_n 0, 1) := by decide +kernel
theorem dL_law_295 : decode cL_law 295 = .ok (.iload_n 3, 1) := by decide +kernel
theorem dL_law_296 : decode cL_law 296 = .ok (.iconst 1, 1) := by decide +kernel
theorem dL_law_297 : decode cL_law 297 = .ok (.iadd, 1) := by decide +kernel
theorem dL_law_298 : decode cL_law 298 = .ok (.iaload, 1) := by decide +kernel
theorem dL_law_299 : decode cL_law 299 = .ok (.aload_n 0, 1) := by decide +kernel
theorem dL_law_300 : decode cL_law 300 = .ok (.iload_n 3, 1) := by decide +kernel
theorem dL_law_301 : decode cL_law 301 = .ok (.iconst 2, 1) := by decide +kernel
theorem dL_law_302 : decode cL_law 302 = .ok (.iadd, 1) := by decide +kernel
theorem dL_law_303 : decode cL_law 303 = .ok (.iaload, 1) := by decide +kernel
theorem dL_law_304 : decode cL_law 304 = .ok (.aload_n 0, 1) := by decide +kernel
theorem dL_law_305 : decode cL_law 305 = .ok (.iload_n 3, 1) := by decide +kernel
theorem dL_law_306 : decode cL_law 306 = .ok (.iconst 3, 1) := by decide +kernel
theorem dL_law_307 : decode cL_law 307 = .ok (.iadd, 1) := by decide +kernel
theorem dL_law_308 : decode cL_law 308 = .ok (.iaload, 1) := by decide +kernel
theorem dL_law_309 : decode cL_law 309 = .ok (.invokevirtual 35, 3) := by decide +kernel
theorem dL_law_312 : decode cL_law 312 = .ok (.if_icmp .eq 493, 3) := by decide +kernel
theorem dL_law_315 : decode cL_law 315 = .ok (.iconst 0, 1) := by decide +kernel
theorem dL_law_316 : decode cL_law 316 = .ok (.ireturn, 1) := by decide +kernel
theorem dL_law_317 : decode cL_law 317 = .ok (.aload_n 1, 1) := by decide +kernel
theorem dL_law_318 : decode cL_law 318 = .ok (.aload_n 0, 1) := by decide +kernel
theorem dL_law_319 : decode cL_law 319 = .ok (.iload_n 3, 1) := by decide +kernel
theorem dL_law_320 : decode cL_law 320 = .ok (.iconst 1, 1) := by decide +kernel
theorem dL_law_321 : decode cL_law 321 = .ok (.iadd, 1) := by decide +kernel
theorem dL_law_322 : decode cL_law 322 = .ok (.iaload, 1) := by decide +kernel
theorem dL_law_323 : decode cL_law 323 = .ok (.aload_n 0, 1) := by decide +kernel
theorem dL_law_324 : decode cL_law 324 = .ok (.iload_n 3, 1) := by decide +kernel
theorem dL_law_325 : decode cL_law 325 = .ok (.iconst 2, 1) := by decide +kernel
theorem dL_law_326 : decode cL_law 326 = .ok (.iadd, 1) := by decide +kernel
theorem dL_law_327 : decode cL_law 327 = .ok (.iaload, 1) := by decide +kernel
theorem dL_law_328 : decode cL_law 328 = .ok (.aload_n 0, 1) := by decide +kernel
theorem dL_law_329 : decode cL_law 329 = .ok (.iload_n 3, 1) := by decide +kernel
theorem dL_law_330 : decode cL_law 330 = .ok (.iconst 3, 1) := by decide +kernel
theorem dL_law_331 : decode cL_law 331 = .ok (.iadd, 1) := by decide +kernel
theorem dL_law_332 : decode cL_law 332 = .ok (.iaload, 1) := by decide +kernel
theorem dL_law_333 : decode cL_law 333 = .ok (.invokevirtual 36, 3) := by decide +kernel
theorem dL_law_336 : decode cL_law 336 = .ok (.aload_n 2, 1) := by decide +kernel
theorem dL_law_337 : decode cL_law 337 = .ok (.aload_n 0, 1) := by decide +kernel
theorem dL_law_338 : decode cL_law 338 = .ok (.iload_n 3, 1) := by decide +kernel
theorem dL_law_339 : decode cL_law 339 = .ok (.iconst 1, 1) := by decide +kernel
theorem dL_law_340 : decode cL_law 340 = .ok (.iadd, 1) := by decide +kernel
theorem dL_law_341 : decode cL_law 341 = .ok (.iaload, 1) := by decide +kernel
theorem dL_law_342 : decode cL_law 342 = .ok (.aload_n 0, 1) := by decide +kernel
theorem dL_law_343 : decode cL_law 343 = .ok (.iload_n 3, 1) := by decide +kernel
theorem dL_law_344 : decode cL_law 344 = .ok (.iconst 2, 1) := by decide +kernel
theorem dL_law_345 : decode cL_law 345 = .ok (.iadd, 1) := by decide +kernel
theorem dL_law_346 : decode cL_law 346 = .ok (.iaload, 1) := by decide +kernel
theorem dL_law_347 : decode cL_law 347 = .ok (.aload_n 0, 1) := by decide +kernel
theorem dL_law_348 : decode cL_law 348 = .ok (.iload_n 3, 1) := by decide +kernel
theorem dL_law_349 : decode cL_law 349 = .ok (.iconst 3, 1) := by decide +kernel
theorem dL_law_350 : decode cL_law 350 = .ok (.iadd, 1) := by decide +kernel
theorem dL_law_351 : decode cL_law 351 = .ok (.iaload, 1) := by decide +kernel
theorem dL_law_352 : decode cL_law 352 = .ok (.invokevirtual 39, 3) := by decide +kernel
theorem dL_law_355 : decode cL_law 355 = .ok (.if_icmp .eq 450, 3) := by decide +kernel
theorem dL_law_358 : decode cL_law 358 = .ok (.iconst 0, 1) := by decide +kernel
theorem dL_law_359 : decode cL_law 359 = .ok (.ireturn, 1) := by decide +kernel
theorem dL_law_360 : decode cL_law 360 = .ok (.aload_n 1, 1) := by decide +kernel
theorem dL_law_361 : decode cL_law 361 = .ok (.aload_n 0, 1) := by decide +kernel
theorem dL_law_362 : decode cL_law 362 = .ok (.iload_n 3, 1) := by decide +kernel
theorem dL_law_363 : decode cL_law 363 = .ok (.iconst 1, 1) := by decide +kernel
theorem dL_law_364 : decode cL_law 364 = .ok (.iadd, 1) := by decide +kernel
theorem dL_law_365 : decode cL_law 365 = .ok (.iaload, 1) := by decide +kernel
theorem dL_law_366 : decode cL_law 366 = .ok (.aload_n 0, 1) := by decide +kernel
theorem dL_law_367 : decode cL_law 367 = .ok (.iload_n 3, 1) := by decide +kernel
theorem dL_law_368 : decode cL_law 368 = .ok (.iconst 2, 1) := by decide +kernel
theorem dL_law_369 : decode cL_law 369 = .ok (.iadd, 1) := by decide +kernel
theorem dL_law_370 : decode cL_law 370 = .ok (.iaload, 1) := by decide +kernel
theorem dL_law_371 : decode cL_law 371 = .ok (.invokevirtual 40, 3) := by decide +kernel
theorem dL_law_374 : decode cL_law 374 = .ok (.aload_n 2, 1) := by decide +kernel
theorem dL_law_375 : decode cL_law 375 = .ok (.aload_n 0, 1) := by decide +kernel
theorem dL_law_376 : decode cL_law 376 = .ok (.iload_n 3, 1) := by decide +kernel
theorem dL_law_377 : decode cL_law 377 = .ok (.iconst 1, 1) := by decide +kernel
theorem dL_law_378 : decode cL_law 378 = .ok (.iadd, 1) := by decide +kernel
theorem dL_law_379 : decode cL_law 379 = .ok (.iaload, 1) := by decide +kernel
theorem dL_law_380 : decode cL_law 380 = .ok (.aload_n 0, 1) := by decide +kernel
theorem dL_law_381 : decode cL_law 381 = .ok (.iload_n 3, 1) := by decide +kernel
theorem dL_law_382 : decode cL_law 382 = .ok (.iconst 2, 1) := by decide +kernel
theorem dL_law_383 : decode cL_law 383 = .ok (.iadd, 1) := by decide +kernel
theorem dL_law_384 : decode cL_law 384 = .ok (.iaload, 1) := by decide +kernel
theorem dL_law_385 : decode cL_law 385 = .ok (.invokevirtual 43, 3) := by decide +kernel
theorem dL_law_388 : decode cL_law 388 = .ok (.if_icmp .eq 417, 3) := by decide +kernel
theorem dL_law_391 : decode cL_law 391 = .ok (.iconst 0, 1) := by decide +kernel
theorem dL_law_392 : decode cL_law 392 = .ok (.ireturn, 1) := by decide +kernel
theorem dL_law_393 : decode cL_law 393 = .ok (.aload_n 1, 1) := by decide +kernel
theorem dL_law_394 : decode cL_law 394 = .ok (.invokevirtual 44, 3) := by decide +kernel
theorem dL_law_397 : decode cL_law 397 = .ok (.aload_n 2, 1) := by decide +kernel
theorem dL_law_398 : decode cL_law 398 = .ok (.invokevirtual 48, 3) := by decide +kernel
theorem dL_law_401 : decode cL_law 401 = .ok (.if_icmp .eq 404, 3) := by decide +kernel
theorem dL_law_404 : decode cL_law 404 = .ok (.iconst 0, 1) := by decide +kernel
theorem dL_law_405 : decode cL_law 405 = .ok (.ireturn, 1) := by decide +kernel
theorem dL_law_406 : decode cL_law 406 = .ok (.aload_n 1, 1) := by decide +kernel
theorem dL_law_407 : decode cL_law 407 = .ok (.aload_n 0, 1) := by decide +kernel
theorem dL_law_408 : decode cL_law 408 = .ok (.iload_n 3, 1) := by decide +kernel
theorem dL_law_409 : decode cL_law 409 = .ok (.iconst 1, 1) := by decide +kernel
theorem dL_law_410 : decode cL_law 410 = .ok (.iadd, 1) := by decide +kernel
theorem dL_law_411 : decode cL_law 411 = .ok (.iaload, 1) := by decide +kernel
theorem dL_law_412 : decode cL_law 412 = .ok (.invokevirtual 49, 3) := by decide +kernel
theorem dL_law_415 : decode cL_law 415 = .ok (.aload_n 2, 1) := by decide +kernel
theorem dL_law_416 : decode cL_law 416 = .ok (.aload_n 0, 1) := by decide +kernel
theorem dL_law_417 : decode cL_law 417 = .ok (.iload_n 3, 1) := by decide +kernel
theorem dL_law_418 : decode cL_law 418 = .ok (.iconst 1, 1) := by decide +kernel
theorem dL_law_419 : decode cL_law 419 = .ok (.iadd, 1) := by decide +kernel
theorem dL_law_420 : decode cL_law 420 = .ok (.iaload, 1) := by decide +kernel
theorem dL_law_421 : decode cL_law 421 = .ok (.invokevirtual 52, 3) := by decide +kernel
theorem dL_law_424 : decode cL_law 424 = .ok (.if_icmp .eq 381, 3) := by decide +kernel
theorem dL_law_427 : decode cL_law 427 = .ok (.iconst 0, 1) := by decide +kernel
theorem dL_law_428 : decode cL_law 428 = .ok (.ireturn, 1) := by decide +kernel
theorem dL_law_429 : decode cL_law 429 = .ok (.aload_n 1, 1) := by decide +kernel
theorem dL_law_430 : decode cL_law 430 = .ok (.aload_n 0, 1) := by decide +kernel
theorem dL_law_431 : decode cL_law 431 = .ok (.iload_n 3, 1) := by decide +kernel
theorem dL_law_432 : decode cL_law 432 = .ok (.iconst 1, 1) := by decide +kernel
theorem dL_law_433 : decode cL_law 433 = .ok (.iadd, 1) := by decide +kernel
theorem dL_law_434 : decode cL_law 434 = .ok (.iaload, 1) := by decide +kernel
theorem dL_law_435 : decode cL_law 435 = .ok (.aload_n 0, 1) := by decide +kernel
theorem dL_law_436 : decode cL_law 436 = .ok (.iload_n 3, 1) := by decide +kernel
theorem dL_law_437 : decode cL_law 437 = .ok (.iconst 2, 1) := by decide +kernel
theorem dL_law_438 : decode cL_law 438 = .ok (.iadd, 1) := by decide +kernel
theorem dL_law_439 : decode cL_law 439 = .ok (.iaload, 1) := by decide +kernel
theorem dL_law_440 : decode cL_law 440 = .ok (.invokevirtual 53, 3) := by decide +kernel
theorem dL_law_443 : decode cL_law 443 = .ok (.aload_n 2, 1) := by decide +kernel
theorem dL_law_444 : decode cL_law 444 = .ok (.aload_n 0, 1) := by decide +kernel
theorem dL_law_445 : decode cL_law 445 = .ok (.iload_n 3, 1) := by decide +kernel
theorem dL_law_446 : decode cL_law 446 = .ok (.iconst 1, 1) := by decide +kernel
theorem dL_law_447 : decode cL_law 447 = .ok (.iadd, 1) := by decide +kernel
theorem dL_law_448 : decode cL_law 448 = .ok (.iaload, 1) := by decide +kernel
theorem dL_law_449 : decode cL_law 449 = .ok (.aload_n 0, 1) := by decide +kernel
theorem dL_law_450 : decode cL_law 450 = .ok (.iload_n 3, 1) := by decide +kernel
theorem dL_law_451 : decode cL_law 451 = .ok (.iconst 2, 1) := by decide +kernel
theorem dL_law_452 : decode cL_law 452 = .ok (.iadd, 1) := by decide +kernel
theorem dL_law_453 : decode cL_law 453 = .ok (.iaload, 1) := by decide +kernel
theorem dL_law_454 : decode cL_law 454 = .ok (.invokevirtual 56, 3) := by decide +kernel
theorem dL_law_457 : decode cL_law 457 = .ok (.if_icmp .eq 348, 3) := by decide +kernel
theorem dL_law_460 : decode cL_law 460 = .ok (.iconst 0, 1) := by decide +kernel
theorem dL_law_461 : decode cL_law 461 = .ok (.ireturn, 1) := by decide +kernel
theorem dL_law_462 : decode cL_law 462 = .ok (.aload_n 1, 1) := by decide +kernel
theorem dL_law_463 : decode cL_law 463 = .ok (.aload_n 0, 1) := by decide +kernel
theorem dL_law_464 : decode cL_law 464 = .ok (.iload_n 3, 1) := by decide +kernel
theorem dL_law_465 : decode cL_law 465 = .ok (.iconst 1, 1) := by decide +kernel
theorem dL_law_466 : decode cL_law 466 = .ok (.iadd, 1) := by decide +kernel
theorem dL_law_467 : decode cL_law 467 = .ok (.iaload, 1) := by decide +kernel
theorem dL_law_468 : decode cL_law 468 = .ok (.aload_n 0, 1) := by decide +kernel
theorem dL_law_469 : decode cL_law 469 = .ok (.iload_n 3, 1) := by decide +kernel
theorem dL_law_470 : decode cL_law 470 = .ok (.iconst 2, 1) := by decide +kernel
theorem dL_law_471 : decode cL_law 471 = .ok (.iadd, 1) := by decide +kernel
theorem dL_law_472 : decode cL_law 472 = .ok (.iaload, 1) := by decide +kernel
theorem dL_law_473 : decode cL_law 473 = .ok (.invokevirtual 57, 3) := by decide +kernel
theorem dL_law_476 : decode cL_law 476 = .ok (.aload_n 2, 1) := by decide +kernel
theorem dL_law_477 : decode cL_law 477 = .ok (.aload_n 0, 1) := by decide +kernel
theorem dL_law_478 : decode cL_law 478 = .ok (.iload_n 3, 1) := by decide +kernel
theorem dL_law_479 : decode cL_law 479 = .ok (.iconst 1, 1) := by decide +kernel
theorem dL_law_480 : decode cL_law 480 = .ok (.iadd, 1) := by decide +kernel
theorem dL_law_481 : decode cL_law 481 = .ok (.iaload, 1) := by decide +kernel
theorem dL_law_482 : decode cL_law 482 = .ok (.aload_n 0, 1) := by decide +kernel
theorem dL_law_483 : decode cL_law 483 = .ok (.iload_n 3, 1) := by decide +kernel
theorem dL_law_484 : decode cL_law 484 = .ok (.iconst 2, 1) := by decide +kernel
theorem dL_law_485 : decode cL_law 485 = .ok (.iadd, 1) := by decide +kernel
theorem dL_law_486 : decode cL_law 486 = .ok (.iaload, 1) := by decide +kernel
theorem dL_law_487 : decode cL_law 487 = .ok (.invokevirtual 60, 3) := by decide +kernel
theorem dL_law_490 : decode cL_law 490 = .ok (.if_icmp .eq 315, 3) := by decide +kernel
theorem dL_law_493 : decode cL_law 493 = .ok (.iconst 0, 1) := by decide +kernel
theorem dL_law_494 : decode cL_law 494 = .ok (.ireturn, 1) := by decide +kernel
theorem dL_law_495 : decode cL_law 495 = .ok (.aload_n 1, 1) := by decide +kernel
theorem dL_law_496 : decode cL_law 496 = .ok (.aload_n 0, 1) := by decide +kernel
theorem dL_law_497 : decode cL_law 497 = .ok (.iload_n 3, 1) := by decide +kernel
theorem dL_law_498 : decode cL_law 498 = .ok (.iconst 1, 1) := by decide +kernel
theorem dL_law_499 : decode cL_law 499 = .ok (.iadd, 1) := by decide +kernel
theorem dL_law_500 : decode cL_law 500 = .ok (.iaload, 1) := by decide +kernel
theorem dL_law_501 : decode cL_law 501 = .ok (.aload_n 0, 1) := by decide +kernel
theorem dL_law_502 : decode cL_law 502 = .ok (.iload_n 3, 1) := by decide +kernel
theorem dL_law_503 : decode cL_law 503 = .ok (.iconst 2, 1) := by decide +kernel
theorem dL_law_504 : decode cL_law 504 = .ok (.iadd, 1) := by decide +kernel
theorem dL_law_505 : decode cL_law 505 = .ok (.iaload, 1) := by decide +kernel
theorem dL_law_506 : decode cL_law 506 = .ok (.aload_n 0, 1) := by decide +kernel
theorem dL_law_507 : decode cL_law 507 = .ok (.iload_n 3, 1) := by decide +kernel
theorem dL_law_508 : decode cL_law 508 = .ok (.iconst 3, 1) := by decide +kernel
theorem dL_law_509 : decode cL_law 509 = .ok (.iadd, 1) := by decide +kernel
theorem dL_law_510 : decode cL_law 510 = .ok (.iaload, 1) := by decide +kernel
theorem dL_law_511 : decode cL_law 511 = .ok (.invokevirtual 61, 3) := by decide +kernel
theorem dL_law_514 : decode cL_law 514 = .ok (.aload_n 2, 1) := by decide +kernel
theorem dL_law_515 : decode cL_law 515 = .ok (.aload_n 0, 1) := by decide +kernel
theorem dL_law_516 : decode cL_law 516 = .ok (.iload_n 3, 1) := by decide +kernel
theorem dL_law_517 : decode cL_law 517 = .ok (.iconst 1, 1) := by decide +kernel
theorem dL_law_518 : decode cL_law 518 = .ok (.iadd, 1) := by decide +kernel
theorem dL_law_519 : decode cL_law 519 = .ok (.iaload, 1) := by decide +kernel
theorem dL_law_520 : decode cL_law 520 = .ok (.aload_n 0, 1) := by decide +kernel
theorem dL_law_521 : decode cL_law 521 = .ok (.iload_n 3, 1) := by decide +kernel
theorem dL_law_522 : decode cL_law 522 = .ok (.iconst 2, 1) := by decide +kernel
theorem dL_law_523 : decode cL_law 523 = .ok (.iadd, 1) := by decide +kernel
theorem dL_law_524 : decode cL_law 524 = .ok (.iaload, 1) := by decide +kernel
theorem dL_law_525 : decode cL_law 525 = .ok (.aload_n 0, 1) := by decide +kernel
theorem dL_law_526 : decode cL_law 526 = .ok (.iload_n 3, 1) := by decide +kernel
theorem dL_law_527 : decode cL_law 527 = .ok (.iconst 3, 1) := by decide +kernel
theorem dL_law_528 : decode cL_law 528 = .ok (.iadd, 1) := by decide +kernel
theorem dL_law_529 : decode cL_law 529 = .ok (.iaload, 1) := by decide +kernel
theorem dL_law_530 : decode cL_law 530 = .ok (.invokevirtual 64, 3) := by decide +kernel
theorem dL_law_533 : decode cL_law 533 = .ok (.if_icmp .eq 272, 3) := by decide +kernel
theorem dL_law_536 : decode cL_law 536 = .ok (.iconst 0, 1) := by decide +kernel
theorem dL_law_537 : decode cL_law 537 = .ok (.ireturn, 1) := by decide +kernel
theorem dL_law_538 : decode cL_law 538 = .ok (.aload_n 1, 1) := by decide +kernel
theorem dL_law_539 : decode cL_law 539 = .ok (.aload_n 0, 1) := by decide +kernel
theorem dL_law_540 : decode cL_law 540 = .ok (.iload_n 3, 1) := by decide +kernel
theorem dL_law_541 : decode cL_law 541 = .ok (.iconst 1, 1) := by decide +kernel
theorem dL_law_542 : decode cL_law 542 = .ok (.iadd, 1) := by decide +kernel
theorem dL_law_543 : decode cL_law 543 = .ok (.iaload, 1) := by decide +kernel
theorem dL_law_544 : decode cL_law 544 = .ok (.aload_n 0, 1) := by decide +kernel
theorem dL_law_545 : decode cL_law 545 = .ok (.iload_n 3, 1) := by decide +kernel
theorem dL_law_546 : decode cL_law 546 = .ok (.iconst 2, 1) := by decide +kernel
theorem dL_law_547 : decode cL_law 547 = .ok (.iadd, 1) := by decide +kernel
theorem dL_law_548 : decode cL_law 548 = .ok (.iaload, 1) := by decide +kernel
theorem dL_law_549 : decode cL_law 549 = .ok (.invokevirtual 65, 3) := by decide +kernel
theorem dL_law_552 : decode cL_law 552 = .ok (.aload_n 2, 1) := by decide +kernel
theorem dL_law_553 : decode cL_law 553 = .ok (.aload_n 0, 1) := by decide +kernel
theorem dL_law_554 : decode cL_law 554 = .ok (.iload_n 3, 1) := by decide +kernel
theorem dL_law_555 : decode cL_law 555 = .ok (.iconst 1, 1) := by decide +kernel
theorem dL_law_556 : decode cL_law 556 = .ok (.iadd, 1) := by decide +kernel
theorem dL_law_557 : decode cL_law 557 = .ok (.iaload, 1) := by decide +kernel
theorem dL_law_558 : decode cL_law 558 = .ok (.aload_n 0, 1) := by decide +kernel
theorem dL_law_559 : decode cL_law 559 = .ok (.iload_n 3, 1) := by decide +kernel
theorem dL_law_560 : decode cL_law 560 = .ok (.iconst 2, 1) := by decide +kernel
theorem dL_law_561 : decode cL_law 561 = .ok (.iadd, 1) := by decide +kernel
theorem dL_law_562 : decode cL_law 562 = .ok (.iaload, 1) := by decide +kernel
theorem dL_law_563 : decode cL_law 563 = .ok (.invokevirtual 68, 3) := by decide +kernel
theorem dL_law_566 : decode cL_law 566 = .ok (.if_icmp .eq 239, 3) := by decide +kernel
theorem dL_law_569 : decode cL_law 569 = .ok (.iconst 0, 1) := by decide +kernel
theorem dL_law_570 : decode cL_law 570 = .ok (.ireturn, 1) := by decide +kernel
theorem dL_law_571 : decode cL_law 571 = .ok (.aload_n 1, 1) := by decide +kernel
theorem dL_law_572 : decode cL_law 572 = .ok (.aload_n 0, 1) := by decide +kernel
theorem dL_law_573 : decode cL_law 573 = .ok (.iload_n 3, 1) := by decide +kernel
theorem dL_law_574 : decode cL_law 574 = .ok (.iconst 1, 1) := by decide +kernel
theorem dL_law_575 : decode cL_law 575 = .ok (.iadd, 1) := by decide +kernel
theorem dL_law_576 : decode cL_law 576 = .ok (.iaload, 1) := by decide +kernel
theorem dL_law_577 : decode cL_law 577 = .ok (.aload_n 0, 1) := by decide +kernel
theorem dL_law_578 : decode cL_law 578 = .ok (.iload_n 3, 1) := by decide +kernel
theorem dL_law_579 : decode cL_law 579 = .ok (.iconst 2, 1) := by decide +kernel
theorem dL_law_580 : decode cL_law 580 = .ok (.iadd, 1) := by decide +kernel
theorem dL_law_581 : decode cL_law 581 = .ok (.iaload, 1) := by decide +kernel
theorem dL_law_582 : decode cL_law 582 = .ok (.aload_n 0, 1) := by decide +kernel
theorem dL_law_583 : decode cL_law 583 = .ok (.iload_n 3, 1) := by decide +kernel
theorem dL_law_584 : decode cL_law 584 = .ok (.iconst 3, 1) := by decide +kernel
theorem dL_law_585 : decode cL_law 585 = .ok (.iadd, 1) := by decide +kernel
theorem dL_law_586 : decode cL_law 586 = .ok (.iaload, 1) := by decide +kernel
theorem dL_law_587 : decode cL_law 587 = .ok (.invokevirtual 69, 3) := by decide +kernel
theorem dL_law_590 : decode cL_law 590 = .ok (.aload_n 2, 1) := by decide +kernel
theorem dL_law_591 : decode cL_law 591 = .ok (.aload_n 0, 1) := by decide +kernel
theorem dL_law_592 : decode cL_law 592 = .ok (.iload_n 3, 1) := by decide +kernel
theorem dL_law_593 : decode cL_law 593 = .ok (.iconst 1, 1) := by decide +kernel
theorem dL_law_594 : decode cL_law 594 = .ok (.iadd, 1) := by decide +kernel
theorem dL_law_595 : decode cL_law 595 = .ok (.iaload, 1) := by decide +kernel
theorem dL_law_596 : decode cL_law 596 = .ok (.aload_n 0, 1) := by decide +kernel
theorem dL_law_597 : decode cL_law 597 = .ok (.iload_n 3, 1) := by decide +kernel
theorem dL_law_598 : decode cL_law 598 = .ok (.iconst 2, 1) := by decide +kernel
theorem dL_law_599 : decode cL_law 599 = .ok (.iadd, 1) := by decide +kernel
theorem dL_law_600 : decode cL_law 600 = .ok (.iaload, 1) := by decide +kernel
theorem dL_law_601 : decode cL_law 601 = .ok (.aload_n 0, 1) := by decide +kernel
theorem dL_law_602 : decode cL_law 602 = .ok (.iload_n 3, 1) := by decide +kernel
theorem dL_law_603 : decode cL_law 603 = .ok (.iconst 3, 1) := by decide +kernel
theorem dL_law_604 : decode cL_law 604 = .ok (.iadd, 1) := by decide +kernel
theorem dL_law_605 : decode cL_law 605 = .ok (.iaload, 1) := by decide +kernel
theorem dL_law_606 : decode cL_law 606 = .ok (.invokevirtual 72, 3) := by decide +kernel
theorem dL_law_609 : decode cL_law 609 = .ok (.if_icmp .eq 196, 3) := by decide +kernel
theorem dL_law_612 : decode cL_law 612 = .ok (.iconst 0, 1) := by decide +kernel
theorem dL_law_613 : decode cL_law 613 = .ok (.ireturn, 1) := by decide +kernel
theorem dL_law_614 : decode cL_law 614 = .ok (.aload_n 1, 1) := by decide +kernel
theorem dL_law_615 : decode cL_law 615 = .ok (.aload_n 0, 1) := by decide +kernel
theorem dL_law_616 : decode cL_law 616 = .ok (.iload_n 3, 1) := by decide +kernel
theorem dL_law_617 : decode cL_law 617 = .ok (.iconst 1, 1) := by decide +kernel
theorem dL_law_618 : decode cL_law 618 = .ok (.iadd, 1) := by decide +kernel
theorem dL_law_619 : decode cL_law 619 = .ok (.iaload, 1) := by decide +kernel
theorem dL_law_620 : decode cL_law 620 = .ok (.invokevirtual 73, 3) := by decide +kernel
theorem dL_law_623 : decode cL_law 623 = .ok (.aload_n 2, 1) := by decide +kernel
theorem dL_law_624 : decode cL_law 624 = .ok (.aload_n 0, 1) := by decide +kernel
theorem dL_law_625 : decode cL_law 625 = .ok (.iload_n 3, 1) := by decide +kernel
theorem dL_law_626 : decode cL_law 626 = .ok (.iconst 1, 1) := by decide +kernel
theorem dL_law_627 : decode cL_law 627 = .ok (.iadd, 1) := by decide +kernel
theorem dL_law_628 : decode cL_law 628 = .ok (.iaload, 1) := by decide +kernel
theorem dL_law_629 : decode cL_law 629 = .ok (.invokevirtual 76, 3) := by decide +kernel
theorem dL_law_632 : decode cL_law 632 = .ok (.if_icmp .eq 173, 3) := by decide +kernel
theorem dL_law_635 : decode cL_law 635 = .ok (.iconst 0, 1) := by decide +kernel
theorem dL_law_636 : decode cL_law 636 = .ok (.ireturn, 1) := by decide +kernel
theorem dL_law_637 : decode cL_law 637 = .ok (.aload_n 1, 1) := by decide +kernel
theorem dL_law_638 : decode cL_law 638 = .ok (.aload_n 0, 1) := by decide +kernel
theorem dL_law_639 : decode cL_law 639 = .ok (.iload_n 3, 1) := by decide +kernel
theorem dL_law_640 : decode cL_law 640 = .ok (.iconst 1, 1) := by decide +kernel
theorem dL_law_641 : decode cL_law 641 = .ok (.iadd, 1) := by decide +kernel
theorem dL_law_642 : decode cL_law 642 = .ok (.iaload, 1) := by decide +kernel
theorem dL_law_643 : decode cL_law 643 = .ok (.invokevirtual 77, 3) := by decide +kernel
theorem dL_law_646 : decode cL_law 646 = .ok (.aload_n 2, 1) := by decide +kernel
theorem dL_law_647 : decode cL_law 647 = .ok (.aload_n 0, 1) := by decide +kernel
theorem dL_law_648 : decode cL_law 648 = .ok (.iload_n 3, 1) := by decide +kernel
theorem dL_law_649 : decode cL_law 649 = .ok (.iconst 1, 1) := by decide +kernel
theorem dL_law_650 : decode cL_law 650 = .ok (.iadd, 1) := by decide +kernel
theorem dL_law_651 : decode cL_law 651 = .ok (.iaload, 1) := by decide +kernel
theorem dL_law_652 : decode cL_law 652 = .ok (.invokevirtual 80, 3) := by decide +kernel
theorem dL_law_655 : decode cL_law 655 = .ok (.if_icmp .eq 150, 3) := by decide +kernel
theorem dL_law_658 : decode cL_law 658 = .ok (.iconst 0, 1) := by decide +kernel
theorem dL_law_659 : decode cL_law 659 = .ok (.ireturn, 1) := by decide +kernel
theorem dL_law_660 : decode cL_law 660 = .ok (.aload_n 1, 1) := by decide +kernel
theorem dL_law_661 : decode cL_law 661 = .ok (.aload_n 0, 1) := by decide +kernel
theorem dL_law_662 : decode cL_law 662 = .ok (.iload_n 3, 1) := by decide +kernel
theorem dL_law_663 : decode cL_law 663 = .ok (.iconst 1, 1) := by decide +kernel
theorem dL_law_664 : decode cL_law 664 = .ok (.iadd, 1) := by decide +kernel
theorem dL_law_665 : decode cL_law 665 = .ok (.iaload, 1) := by decide +kernel
theorem dL_law_666 : decode cL_law 666 = .ok (.aload_n 0, 1) := by decide +kernel
theorem dL_law_667 : decode cL_law 667 = .ok (.iload_n 3, 1) := by decide +kernel
theorem dL_law_668 : decode cL_law 668 = .ok (.iconst 2, 1) := by decide +kernel
theorem dL_law_669 : decode cL_law 669 = .ok (.iadd, 1) := by decide +kernel
theorem dL_law_670 : decode cL_law 670 = .ok (.iaload, 1) := by decide +kernel
theorem dL_law_671 : decode cL_law 671 = .ok (.invokevirtual 81, 3) := by decide +kernel
theorem dL_law_674 : decode cL_law 674 = .ok (.aload_n 2, 1) := by decide +kernel
theorem dL_law_675 : decode cL_law 675 = .ok (.aload_n 0, 1) := by decide +kernel
theorem dL_law_676 : decode cL_law 676 = .ok (.iload_n 3, 1) := by decide +kernel
theorem dL_law_677 : decode cL_law 677 = .ok (.iconst 1, 1) := by decide +kernel
theorem dL_law_678 : decode cL_law 678 = .ok (.iadd, 1) := by decide +kernel
theorem dL_law_679 : decode cL_law 679 = .ok (.iaload, 1) := by decide +kernel
theorem dL_law_680 : decode cL_law 680 = .ok (.aload_n 0, 1) := by decide +kernel
theorem dL_law_681 : decode cL_law 681 = .ok (.iload_n 3, 1) := by decide +kernel
theorem dL_law_682 : decode cL_law 682 = .ok (.iconst 2, 1) := by decide +kernel
theorem dL_law_683 : decode cL_law 683 = .ok (.iadd, 1) := by decide +kernel
theorem dL_law_684 : decode cL_law 684 = .ok (.iaload, 1) := by decide +kernel
theorem dL_law_685 : decode cL_law 685 = .ok (.invokevirtual 84, 3) := by decide +kernel
theorem dL_law_688 : decode cL_law 688 = .ok (.if_icmp .eq 117, 3) := by decide +kernel
theorem dL_law_691 : decode cL_law 691 = .ok (.iconst 0, 1) := by decide +kernel
theorem dL_law_692 : decode cL_law 692 = .ok (.ireturn, 1) := by decide +kernel
theorem dL_law_693 : decode cL_law 693 = .ok (.aload_n 1, 1) := by decide +kernel
theorem dL_law_694 : decode cL_law 694 = .ok (.aload_n 0, 1) := by decide +kernel
theorem dL_law_695 : decode cL_law 695 = .ok (.iload_n 3, 1) := by decide +kernel
theorem dL_law_696 : decode cL_law 696 = .ok (.iconst 1, 1) := by decide +kernel
theorem dL_law_697 : decode cL_law 697 = .ok (.iadd, 1) := by decide +kernel
theorem dL_law_698 : decode cL_law 698 = .ok (.iaload, 1) := by decide +kernel
theorem dL_law_699 : decode cL_law 699 = .ok (.aload_n 0, 1) := by decide +kernel
theorem dL_law_700 : decode cL_law 700 = .ok (.iload_n 3, 1) := by decide +kernel
theorem dL_law_701 : decode cL_law 701 = .ok (.iconst 2, 1) := by decide +kernel
theorem dL_law_702 : decode cL_law 702 = .ok (.iadd, 1) := by decide +kernel
theorem dL_law_703 : decode cL_law 703 = .ok (.iaload, 1) := by decide +kernel
theorem dL_law_704 : decode cL_law 704 = .ok (.invokevirtual 85, 3) := by decide +kernel
theorem dL_law_707 : decode cL_law 707 = .ok (.aload_n 2, 1) := by decide +kernel
theorem dL_law_708 : decode cL_law 708 = .ok (.aload_n 0, 1) := by decide +kernel
theorem dL_law_709 : decode cL_law 709 = .ok (.iload_n 3, 1) := by decide +kernel
theorem dL_law_710 : decode cL_law 710 = .ok (.iconst 1, 1) := by decide +kernel
theorem dL_law_711 : decode cL_law 711 = .ok (.iadd, 1) := by decide +kernel
theorem dL_law_712 : decode cL_law 712 = .ok (.iaload, 1) := by decide +kernel
theorem dL_law_713 : decode cL_law 713 = .ok (.aload_n 0, 1) := by decide +kernel
theorem dL_law_714 : decode cL_law 714 = .ok (.iload_n 3, 1) := by decide +kernel
theorem dL_law_715 : decode cL_law 715 = .ok (.iconst 2, 1) := by decide +kernel
theorem dL_law_716 : decode cL_law 716 = .ok (.iadd, 1) := by decide +kernel
theorem dL_law_717 : decode cL_law 717 = .ok (.iaload, 1) := by decide +kernel
theorem dL_law_718 : decode cL_law 718 = .ok (.invokevirtual 88, 3) := by decide +kernel
theorem dL_law_721 : decode cL_law 721 = .ok (.if_icmp .eq 84, 3) := by decide +kernel
theorem dL_law_724 : decode cL_law 724 = .ok (.iconst 0, 1) := by decide +kernel
theorem dL_law_725 : decode cL_law 725 = .ok (.ireturn, 1) := by decide +kernel
theorem dL_law_726 : decode cL_law 726 = .ok (.aload_n 1, 1) := by decide +kernel
theorem dL_law_727 : decode cL_law 727 = .ok (.aload_n 0, 1) := by decide +kernel
theorem dL_law_728 : decode cL_law 728 = .ok (.iload_n 3, 1) := by decide +kernel
theorem dL_law_729 : decode cL_law 729 = .ok (.iconst 1, 1) := by decide +kernel
theorem dL_law_730 : decode cL_law 730 = .ok (.iadd, 1) := by decide +kernel
theorem dL_law_731 : decode cL_law 731 = .ok (.iaload, 1) := by decide +kernel
theorem dL_law_732 : decode cL_law 732 = .ok (.aload_n 0, 1) := by decide +kernel
theorem dL_law_733 : decode cL_law 733 = .ok (.iload_n 3, 1) := by decide +kernel
theorem dL_law_734 : decode cL_law 734 = .ok (.iconst 2, 1) := by decide +kernel
theorem dL_law_735 : decode cL_law 735 = .ok (.iadd, 1) := by decide +kernel
theorem dL_law_736 : decode cL_law 736 = .ok (.iaload, 1) := by decide +kernel
theorem dL_law_737 : decode cL_law 737 = .ok (.invokevirtual 89, 3) := by decide +kernel
theorem dL_law_740 : decode cL_law 740 = .ok (.aload_n 2, 1) := by decide +kernel
theorem dL_law_741 : decode cL_law 741 = .ok (.aload_n 0, 1) := by decide +kernel
theorem dL_law_742 : decode cL_law 742 = .ok (.iload_n 3, 1) := by decide +kernel
theorem dL_law_743 : decode cL_law 743 = .ok (.iconst 1, 1) := by decide +kernel
theorem dL_law_744 : decode cL_law 744 = .ok (.iadd, 1) := by decide +kernel
theorem dL_law_745 : decode cL_law 745 = .ok (.iaload, 1) := by decide +kernel
theorem dL_law_746 : decode cL_law 746 = .ok (.aload_n 0, 1) := by decide +kernel
theorem dL_law_747 : decode cL_law 747 = .ok (.iload_n 3, 1) := by decide +kernel
theorem dL_law_748 : decode cL_law 748 = .ok (.iconst 2, 1) := by decide +kernel
theorem dL_law_749 : decode cL_law 749 = .ok (.iadd, 1) := by decide +kernel
theorem dL_law_750 : decode cL_law 750 = .ok (.iaload, 1) := by decide +kernel
theorem dL_law_751 : decode cL_law 751 = .ok (.invokevirtual 92, 3) := by decide +kernel
theorem dL_law_754 : decode cL_law 754 = .ok (.if_icmp .eq 51, 3) := by decide +kernel
theorem dL_law_757 : decode cL_law 757 = .ok (.iconst 0, 1) := by decide +kernel
theorem dL_law_758 : decode cL_law 758 = .ok (.ireturn, 1) := by decide +kernel
theorem dL_law_759 : decode cL_law 759 = .ok (.aload_n 1, 1) := by decide +kernel
theorem dL_law_760 : decode cL_law 760 = .ok (.aload_n 0, 1) := by decide +kernel
theorem dL_law_761 : decode cL_law 761 = .ok (.iload_n 3, 1) := by decide +kernel
theorem dL_law_762 : decode cL_law 762 = .ok (.iconst 1, 1) := by decide +kernel
theorem dL_law_763 : decode cL_law 763 = .ok (.iadd, 1) := by decide +kernel
theorem dL_law_764 : decode cL_law 764 = .ok (.iaload, 1) := by decide +kernel
theorem dL_law_765 : decode cL_law 765 = .ok (.invokevirtual 93, 3) := by decide +kernel
theorem dL_law_768 : decode cL_law 768 = .ok (.aload_n 2, 1) := by decide +kernel
theorem dL_law_769 : decode cL_law 769 = .ok (.aload_n 0, 1) := by decide +kernel
theorem dL_law_770 : decode cL_law 770 = .ok (.iload_n 3, 1) := by decide +kernel
theorem dL_law_771 : decode cL_law 771 = .ok (.iconst 1, 1) := by decide +kernel
theorem dL_law_772 : decode cL_law 772 = .ok (.iadd, 1) := by decide +kernel
theorem dL_law_773 : decode cL_law 773 = .ok (.iaload, 1) := by decide +kernel
theorem dL_law_774 : decode cL_law 774 = .ok (.invokevirtual 96, 3) := by decide +kernel
theorem dL_law_777 : decode cL_law 777 = .ok (.if_icmp .eq 28, 3) := by decide +kernel
theorem dL_law_780 : decode cL_law 780 = .ok (.iconst 0, 1) := by decide +kernel
theorem dL_law_781 : decode cL_law 781 = .ok (.ireturn, 1) := by decide +kernel
theorem dL_law_782 : decode cL_law 782 = .ok (.aload_n 1, 1) := by decide +kernel
theorem dL_law_783 : decode cL_law 783 = .ok (.aload_n 0, 1) := by decide +kernel
theorem dL_law_784 : decode cL_law 784 = .ok (.iload_n 3, 1) := by decide +kernel
theorem dL_law_785 : decode cL_law 785 = .ok (.iconst 1, 1) := by decide +kernel
theorem dL_law_786 : decode cL_law 786 = .ok (.iadd, 1) := by decide +kernel
theorem dL_law_787 : decode cL_law 787 = .ok (.iaload, 1) := by decide +kernel
theorem dL_law_788 : decode cL_law 788 = .ok (.invokevirtual 97, 3) := by decide +kernel
theorem dL_law_791 : decode cL_law 791 = .ok (.aload_n 2, 1) := by decide +kernel
theorem dL_law_792 : decode cL_law 792 = .ok (.aload_n 0, 1) := by decide +kernel
theorem dL_law_793 : decode cL_law 793 = .ok (.iload_n 3, 1) := by decide +kernel
theorem dL_law_794 : decode cL_law 794 = .ok (.iconst 1, 1) := by decide +kernel
theorem dL_law_795 : decode cL_law 795 = .ok (.iadd, 1) := by decide +kernel
theorem dL_law_796 : decode cL_law 796 = .ok (.iaload, 1) := by decide +kernel
theorem dL_law_797 : decode cL_law 797 = .ok (.invokevirtual 100, 3) := by decide +kernel
theorem dL_law_800 : decode cL_law 800 = .ok (.if_icmp .eq 5, 3) := by decide +kernel
theorem dL_law_803 : decode cL_law 803 = .ok (.iconst 0, 1) := by decide +kernel
theorem dL_law_804 : decode cL_law 804 = .ok (.ireturn, 1) := by decide +kernel
theorem dL_law_805 : decode cL_law 805 = .ok (.iinc 3 4, 3) := by decide +kernel
theorem dL_law_808 : decode cL_law 808 = .ok (.goto (-790), 3) := by decide +kernel
theorem dL_law_811 : decode cL_law 811 = .ok (.iconst 1, 1) := by decide +kernel
theorem dL_law_812 : decode cL_law 812 = .ok (.ireturn, 1) := by decide +kernel
abbrev vwCl : List vw_C := [(RX0, TX0, 6), (RX1, TX1, 4), (RX2, TX2, 7), (RX3, TX3, 3), (RX4, TX4, 4), (RX5, TX5, 7), (RX6, TX6, 9)]
