theorem dX6_turns_72 : decode cX6_turns 72 = .ok (.iadd, 1) := by decide +kernel
theorem dX6_turns_73 : decode cX6_turns 73 = .ok (.iaload, 1) := by decide +kernel
theorem dX6_turns_74 : decode cX6_turns 74 = .ok (.istore 6, 2) := by decide +kernel
theorem dX6_turns_76 : decode cX6_turns 76 = .ok (.aload_n 0, 1) := by decide +kernel
theorem dX6_turns_77 : decode cX6_turns 77 = .ok (.getfield 23, 3) := by decide +kernel
theorem dX6_turns_80 : decode cX6_turns 80 = .ok (.iload 4, 2) := by decide +kernel
theorem dX6_turns_82 : decode cX6_turns 82 = .ok (.iload 5, 2) := by decide +kernel
theorem dX6_turns_84 : decode cX6_turns 84 = .ok (.iload 6, 2) := by decide +kernel
theorem dX6_turns_86 : decode cX6_turns 86 = .ok (.iadd, 1) := by decide +kernel
theorem dX6_turns_87 : decode cX6_turns 87 = .ok (.iastore, 1) := by decide +kernel
theorem dX6_turns_88 : decode cX6_turns 88 = .ok (.aload_n 0, 1) := by decide +kernel
theorem dX6_turns_89 : decode cX6_turns 89 = .ok (.getfield 23, 3) := by decide +kernel
theorem dX6_turns_92 : decode cX6_turns 92 = .ok (.iload 4, 2) := by decide +kernel
theorem dX6_turns_94 : decode cX6_turns 94 = .ok (.iload_n 3, 1) := by decide +kernel
theorem dX6_turns_95 : decode cX6_turns 95 = .ok (.iadd, 1) := by decide +kernel
theorem dX6_turns_96 : decode cX6_turns 96 = .ok (.iload 5, 2) := by decide +kernel
theorem dX6_turns_98 : decode cX6_turns 98 = .ok (.iload 6, 2) := by decide +kernel
theorem dX6_turns_100 : decode cX6_turns 100 = .ok (.isub, 1) := by decide +kernel
theorem dX6_turns_101 : decode cX6_turns 101 = .ok (.iastore, 1) := by decide +kernel
theorem dX6_turns_102 : decode cX6_turns 102 = .ok (.iinc 4 1, 3) := by decide +kernel
theorem dX6_turns_105 : decode cX6_turns 105 = .ok (.goto (-63), 3) := by decide +kernel
theorem dX6_turns_108 : decode cX6_turns 108 = .ok (.iload_n 3, 1) := by decide +kernel
theorem dX6_turns_109 : decode cX6_turns 109 = .ok (.iconst 2, 1) := by decide +kernel
theorem dX6_turns_110 : decode cX6_turns 110 = .ok (.imul, 1) := by decide +kernel
theorem dX6_turns_111 : decode cX6_turns 111 = .ok (.istore_n 3, 1) := by decide +kernel
theorem dX6_turns_112 : decode cX6_turns 112 = .ok (.goto (-79), 3) := by decide +kernel
theorem dX6_turns_115 : decode cX6_turns 115 = .ok (.return_, 1) := by decide +kernel
theorem dX6_shareOf_0 : decode cX6_shareOf 0 = .ok (.aload_n 0, 1) := by decide +kernel
theorem dX6_shareOf_1 : decode cX6_shareOf 1 = .ok (.getfield 23, 3) := by decide +kernel
theorem dX6_shareOf_4 : decode cX6_shareOf 4 = .ok (.iload_n 1, 1) := by decide +kernel
theorem dX6_shareOf_5 : decode cX6_shareOf 5 = .ok (.iaload, 1) := by decide +kernel
theorem dX6_shareOf_6 : decode cX6_shareOf 6 = .ok (.aload_n 0, 1) := by decide +kernel
theorem dX6_shareOf_7 : decode cX6_shareOf 7 = .ok (.getfield 23, 3) := by decide +kernel
theorem dX6_shareOf_10 : decode cX6_shareOf 10 = .ok (.iload_n 1, 1) := by decide +kernel
theorem dX6_shareOf_11 : decode cX6_shareOf 11 = .ok (.iaload, 1) := by decide +kernel
theorem dX6_shareOf_12 : decode cX6_shareOf 12 = .ok (.imul, 1) := by decide +kernel
theorem dX6_shareOf_13 : decode cX6_shareOf 13 = .ok (.bipush 64, 2) := by decide +kernel
theorem dX6_shareOf_15 : decode cX6_shareOf 15 = .ok (.idiv, 1) := by decide +kernel
theorem dX6_shareOf_16 : decode cX6_shareOf 16 = .ok (.ireturn, 1) := by decide +kernel
set_option maxRecDepth 20000 in
theorem ggX6_peakOf_X6_turns : GoodIn wsX6_peakOf wsX6_turns := goodIn_r _ [6, 7, 8, 9, 10, 5, 11, 1, 16, 17, 18, 19, 20, 21, 22, 23, 24] (by decide +kernel) (by decide +kernel)
set_option maxRecDepth 20000 in
theorem gX6_peakOf_X6_turns : GoodIn wsX6_peakOf (wsV RX6 87 RX6 yX6_turns wsX6_turns) := goodIn_app (goodIn_of _ (by decide +kernel)) ggX6_peakOf_X6_turns
set_option maxRecDepth 20000 in
theorem ggX6_peakOf_X6_shareOf : GoodIn wsX6_peakOf wsX6_shareOf := goodIn_r _ [15, 7, 16, 17, 18, 19, 20, 21, 22, 23, 24] (by decide +kernel) (by decide +kernel)
set_option maxRecDepth 20000 in
theorem gX6_peakOf_X6_shareOf : GoodIn wsX6_peakOf (wsV RX6 91 RX6 yX6_shareOf wsX6_shareOf) := goodIn_app (goodIn_of _ (by decide +kernel)) ggX6_peakOf_X6_shareOf
theorem dX6_peakOf_0 : decode cX6_peakOf 0 = .ok (.aload_n 0, 1) := by decide +kernel
theorem dX6_peakOf_1 : decode cX6_peakOf 1 = .ok (.iload_n 1, 1) := by decide +kernel
theorem dX6_peakOf_2 : decode cX6_peakOf 2 = .ok (.iload_n 2, 1) := by decide +kernel
theorem dX6_peakOf_3 : decode cX6_peakOf 3 = .ok (.invokevirtual 87, 3) := by decide +kernel
theorem dX6_peakOf_6 : decode cX6_peakOf 6 = .ok (.iconst 1, 1) := by decide +kernel
theorem dX6_peakOf_7 : decode cX6_peakOf 7 = .ok (.istore_n 3, 1) := by decide +kernel
theorem dX6_peakOf_8 : decode cX6_peakOf 8 = .ok (.iconst 2, 1) := by decide +kernel
theorem dX6_peakOf_9 : decode cX6_peakOf 9 = .ok (.istore 4, 2) := by decide +kernel
theorem dX6_peakOf_11 : decode cX6_peakOf 11 = .ok (.iload 4, 2) := by decide +kernel
theorem dX6_peakOf_13 : decode cX6_peakOf 13 = .ok (.bipush 8, 2) := by decide +kernel
theorem dX6_peakOf_15 : decode cX6_peakOf 15 = .ok (.if_icmp .ge 30, 3) := by decide +kernel
theorem dX6_peakOf_18 : decode cX6_peakOf 18 = .ok (.aload_n 0, 1) := by decide +kernel
theorem dX6_peakOf_19 : decode cX6_peakOf 19 = .ok (.iload 4, 2) := by decide +kernel
theorem dX6_peakOf_21 : decode cX6_peakOf 21 = .ok (.invokevirtual 91, 3) := by decide +kernel
theorem dX6_peakOf_24 : decode cX6_peakOf 24 = .ok (.aload_n 0, 1) := by decide +kernel
theorem dX6_peakOf_25 : decode cX6_peakOf 25 = .ok (.iload_n 3, 1) := by decide +kernel
theorem dX6_peakOf_26 : decode cX6_peakOf 26 = .ok (.invokevirtual 91, 3) := by decide +kernel
theorem dX6_peakOf_29 : decode cX6_peakOf 29 = .ok (.if_icmp .le 8, 3) := by decide +kernel
theorem dX6_peakOf_32 : decode cX6_peakOf 32 = .ok (.iload 4, 2) := by decide +kernel
theorem dX6_peakOf_34 : decode cX6_peakOf 34 = .ok (.goto 4, 3) := by decide +kernel
theorem dX6_peakOf_37 : decode cX6_peakOf 37 = .ok (.iload_n 3, 1) := by decide +kernel
theorem dX6_peakOf_38 : decode cX6_peakOf 38 = .ok (.istore_n 3, 1) := by decide +kernel
theorem dX6_peakOf_39 : decode cX6_peakOf 39 = .ok (.iinc 4 1, 3) := by decide +kernel
theorem dX6_peakOf_42 : decode cX6_peakOf 42 = .ok (.goto (-31), 3) := by decide +kernel
theorem dX6_peakOf_45 : decode cX6_peakOf 45 = .ok (.aload_n 0, 1) := by decide +kernel
theorem dX6_peakOf_46 : decode cX6_peakOf 46 = .ok (.iload_n 3, 1) := by decide +kernel
theorem dX6_peakOf_47 : decode cX6_peakOf 47 = .ok (.invokevirtual 91, 3) := by decide +kernel
theorem dX6_peakOf_50 : decode cX6_peakOf 50 = .ok (.aload_n 0, 1) := by decide +kernel
theorem dX6_peakOf_51 : decode cX6_peakOf 51 = .ok (.getfield 7, 3) := by decide +kernel
theorem dX6_peakOf_54 : decode cX6_peakOf 54 = .ok (.iconst 0, 1) := by decide +kernel
theorem dX6_peakOf_55 : decode cX6_peakOf 55 = .ok (.iaload, 1) := by decide +kernel
theorem dX6_peakOf_56 : decode cX6_peakOf 56 = .ok (.if_icmp .lt 7, 3) := by decide +kernel
theorem dX6_peakOf_59 : decode cX6_peakOf 59 = .ok (.iload_n 3, 1) := by decide +kernel
theorem dX6_peakOf_60 : decode cX6_peakOf 60 = .ok (.goto 4, 3) := by decide +kernel
theorem dX6_peakOf_63 : decode cX6_peakOf 63 = .ok (.iconst (-1), 1) := by decide +kernel
theorem dX6_peakOf_64 : decode cX6_peakOf 64 = .ok (.ireturn, 1) := by decide +kernel
set_option maxRecDepth 20000 in
theorem ggX6_findsPeaks_X6_windows : GoodIn wsX6_findsPeaks wsX6_windows := goodIn_r _ [6, 7, 25, 26, 27, 28, 29, 30, 31, 32, 33] (by decide +kernel) (by decide +kernel)
set_option maxRecDepth 20000 in
theorem gX6_findsPeaks_X6_windows : GoodIn wsX6_findsPeaks (wsV RX6 39 RX6 yX6_windows wsX6_windows) := goodIn_app (goodIn_of _ (by decide +kernel)) ggX6_findsPeaks_X6_windows
set_option maxRecDepth 20000 in
theorem ggX6_findsPeaks_X6_peakOf : GoodIn wsX6_findsPeaks wsX6_peakOf := goodIn_r _ [11, 7, 12, 13, 14, 5, 15, 16, 17, 18, 19, 20, 21, 22, 23, 24, 25, 26, 27, 28, 29, 30, 31, 32, 33] (by decide +kernel) (by decide +kernel)
set_option maxRecDepth 20000 in
theorem gX6_findsPeaks_X6_peakOf : GoodIn wsX6_findsPeaks (wsV RX6 94 RX6 yX6_peakOf wsX6_peakOf) := goodIn_app (goodIn_of _ (by decide +kernel)) ggX6_findsPeaks_X6_peakOf
theorem dX6_findsPeaks_0 : decode cX6_findsPeaks 0 = .ok (.iconst 0, 1) := by decide +kernel
theorem dX6_findsPeaks_1 : decode cX6_findsPeaks 1 = .ok (.istore_n 1, 1) := by decide +kernel
theorem dX6_findsPeaks_2 : decode cX6_findsPeaks 2 = .ok (.iload_n 1, 1) := by decide +kernel
theorem dX6_findsPeaks_3 : decode cX6_findsPeaks 3 = .ok (.iconst 5, 1) := by decide +kernel
theorem dX6_findsPeaks_4 : decode cX6_findsPeaks 4 = .ok (.if_icmp .ge 43, 3) := by decide +kernel
theorem dX6_findsPeaks_7 : decode cX6_findsPeaks 7 = .ok (.iconst 0, 1) := by decide +kernel
theorem dX6_findsPeaks_8 : decode cX6_findsPeaks 8 = .ok (.istore_n 2, 1) := by decide +kernel
theorem dX6_findsPeaks_9 : decode cX6_findsPeaks 9 = .ok (.iload_n 2, 1) := by decide +kernel
theorem dX6_findsPeaks_10 : decode cX6_findsPeaks 10 = .ok (.aload_n 0, 1) := by decide +kernel
theorem dX6_findsPeaks_11 : decode cX6_findsPeaks 11 = .ok (.iload_n 1, 1) := by decide +kernel
theorem dX6_findsPeaks_12 : decode cX6_findsPeaks 12 = .ok (.invokevirtual 39, 3) := by decide +kernel
theorem dX6_findsPeaks_15 : decode cX6_findsPeaks 15 = .ok (.if_icmp .ge 26, 3) := by decide +kernel
theorem dX6_findsPeaks_18 : decode cX6_findsPeaks 18 = .ok (.aload_n 0, 1) := by decide +kernel
theorem dX6_findsPeaks_19 : decode cX6_findsPeaks 19 = .ok (.getfield 26, 3) := by decide +kernel
theorem dX6_findsPeaks_22 : decode cX6_findsPeaks 22 = .ok (.bipush 16, 2) := by decide +kernel
theorem dX6_findsPeaks_24 : decode cX6_findsPeaks 24 = .ok (.iload_n 1, 1) := by decide +kernel
theorem dX6_findsPeaks_25 : decode cX6_findsPeaks 25 = .ok (.imul, 1) := by decide +kernel
theorem dX6_findsPeaks_26 : decode cX6_findsPeaks 26 = .ok (.iload_n 2, 1) := by decide +kernel
theorem dX6_findsPeaks_27 : decode cX6_findsPeaks 27 = .ok (.iadd, 1) := by decide +kernel
theorem dX6_findsPeaks_28 : decode cX6_findsPeaks 28 = .ok (.aload_n 0, 1) := by decide +kernel
theorem dX6_findsPeaks_29 : decode cX6_findsPeaks 29 = .ok (.iload_n 1, 1) := by decide +kernel
theorem dX6_findsPeaks_30 : decode cX6_findsPeaks 30 = .ok (.iload_n 2, 1) := by decide +kernel
theorem dX6_findsPeaks_31 : decode cX6_findsPeaks 31 = .ok (.invokevirtual 94, 3) := by decide +kernel
theorem dX6_findsPeaks_34 : decode cX6_findsPeaks 34 = .ok (.iastore, 1) := by decide +kernel
theorem dX6_findsPeaks_35 : decode cX6_findsPeaks 35 = .ok (.iinc 2 1, 3) := by decide +kernel
theorem dX6_findsPeaks_38 : decode cX6_findsPeaks 38 = .ok (.goto (-29), 3) := by decide +kernel
theorem dX6_findsPeaks_41 : decode cX6_findsPeaks 41 = .ok (.iinc 1 1, 3) := by decide +kernel
theorem dX6_findsPeaks_44 : decode cX6_findsPeaks 44 = .ok (.goto (-42), 3) := by decide +kernel
theorem dX6_findsPeaks_47 : decode cX6_findsPeaks 47 = .ok (.return_, 1) := by decide +kernel
set_option maxRecDepth 20000 in
theorem ggX6_keyOf_X6_isWindow : GoodIn wsX6_keyOf wsX6_isWindow := goodIn_r _ [7, 8, 9, 10, 6, 11, 1, 12, 13, 14, 15, 16, 17, 18, 19, 20, 21, 22, 23] (by decide +kernel) (by decide +kernel)
set_option maxRecDepth 20000 in
theorem gX6_keyOf_X6_isWindow : GoodIn wsX6_keyOf (wsV RX6 97 RX6 yX6_isWindow wsX6_isWindow) := goodIn_app (goodIn_of _ (by decide +kernel)) ggX6_keyOf_X6_isWindow
theorem dX6_keyOf_0 : decode cX6_keyOf 0 = .ok (.iload_n 2, 1) := by decide +kernel
theorem dX6_keyOf_1 : decode cX6_keyOf 1 = .ok (.iload_n 3, 1) := by decide +kernel
theorem dX6_keyOf_2 : decode cX6_keyOf 2 = .ok (.if_icmp .ge 37, 3) := by decide +kernel
theorem dX6_keyOf_5 : decode cX6_keyOf 5 = .ok (.iload_n 3, 1) := by decide +kernel
theorem dX6_keyOf_6 : decode cX6_keyOf 6 = .ok (.iload_n 2, 1) := by decide +kernel
theorem dX6_keyOf_7 : decode cX6_keyOf 7 = .ok (.isub, 1) := by decide +kernel
theorem dX6_keyOf_8 : decode cX6_keyOf 8 = .ok (.aload_n 0, 1) := by decide +kernel
theorem dX6_keyOf_9 : decode cX6_keyOf 9 = .ok (.getfield 7, 3) := by decide +kernel
theorem dX6_keyOf_12 : decode cX6_keyOf 12 = .ok (.iconst 1, 1) := by decide +kernel
theorem dX6_keyOf_13 : decode cX6_keyOf 13 = .ok (.iaload, 1) := by decide +kernel
theorem dX6_keyOf_14 : decode cX6_keyOf 14 = .ok (.if_icmp .gt 25, 3) := by decide +kernel
theorem dX6_keyOf_17 : decode cX6_keyOf 17 = .ok (.aload_n 0, 1) := by decide +kernel
theorem dX6_keyOf_18 : decode cX6_keyOf 18 = .ok (.iload_n 1, 1) := by decide +kernel
theorem dX6_keyOf_19 : decode cX6_keyOf 19 = .ok (.iload_n 2, 1) := by decide +kernel
theorem dX6_keyOf_20 : decode cX6_keyOf 20 = .ok (.invokevirtual 97, 3) := by decide +kernel
theorem dX6_keyOf_23 : decode cX6_keyOf 23 = .ok (.ifCond .eq 16, 3) := by decide +kernel
theorem dX6_keyOf_26 : decode cX6_keyOf 26 = .ok (.aload_n 0, 1) := by decide +kernel
theorem dX6_keyOf_27 : decode cX6_keyOf 27 = .ok (.iload_n 1, 1) := by decide +kernel
theorem dX6_keyOf_28 : decode cX6_keyOf 28 = .ok (.iload_n 3, 1) := by decide +kernel
theorem dX6_keyOf_29 : decode cX6_keyOf 29 = .ok (.invokevirtual 97, 3) := by decide +kernel
theorem dX6_keyOf_32 : decode cX6_keyOf 32 = .ok (.ifCond .eq 7, 3) := by decide +kernel
theorem dX6_keyOf_35 : decode cX6_keyOf 35 = .ok (.iconst 1, 1) := by decide +kernel
theorem dX6_keyOf_36 : decode cX6_keyOf 36 = .ok (.goto 4, 3) := by decide +kernel
theorem dX6_keyOf_39 : decode cX6_keyOf 39 = .ok (.iconst 0, 1) := by decide +kernel
theorem dX6_keyOf_40 : decode cX6_keyOf 40 = .ok (.istore 4, 2) := by decide +kernel
theorem dX6_keyOf_42 : decode cX6_keyOf 42 = .ok (.iload 4, 2) := by decide +kernel
theorem dX6_keyOf_44 : decode cX6_keyOf 44 = .ok (.ifCond .eq 33, 3) := by decide +kernel
theorem dX6_keyOf_47 : decode cX6_keyOf 47 = .ok (.aload_n 0, 1) := by decide +kernel
theorem dX6_keyOf_48 : decode cX6_keyOf 48 = .ok (.getfield 26, 3) := by decide +kernel
theorem dX6_keyOf_51 : decode cX6_keyOf 51 = .ok (.bipush 16, 2) := by decide +kernel
theorem dX6_keyOf_53 : decode cX6_keyOf 53 = .ok (.iload_n 1, 1) := by decide +kernel
theorem dX6_keyOf_54 : decode cX6_keyOf 54 = .ok (.imul, 1) := by decide +kernel
theorem dX6_keyOf_55 : decode cX6_keyOf 55 = .ok (.iload_n 2, 1) := by decide +kernel
theorem dX6_keyOf_56 : decode cX6_keyOf 56 = .ok (.iadd, 1) := by decide +kernel
theorem dX6_keyOf_57 : decode cX6_keyOf 57 = .ok (.iaload, 1) := by decide +kernel
theorem dX6_keyOf_58 : decode cX6_keyOf 58 = .ok (.iconst (-1), 1) := by decide +kernel
theorem dX6_keyOf_59 : decode cX6_keyOf 59 = .ok (.if_icmp .eq 18, 3) := by decide +kernel
theorem dX6_keyOf_62 : decode cX6_keyOf 62 = .ok (.aload_n 0, 1) := by decide +kernel
theorem dX6_keyOf_63 : decode cX6_keyOf 63 = .ok (.getfield 26, 3) := by decide +kernel
theorem dX6_keyOf_66 : decode cX6_keyOf 66 = .ok (.bipush 16, 2) := by decide +kernel
theorem dX6_keyOf_68 : decode cX6_keyOf 68 = .ok (.iload_n 1, 1) := by decide +kernel
theorem dX6_keyOf_69 : decode cX6_keyOf 69 = .ok (.imul, 1) := by decide +kernel
theorem dX6_keyOf_70 : decode cX6_keyOf 70 = .ok (.iload_n 3, 1) := by decide +kernel
theorem dX6_keyOf_71 : decode cX6_keyOf 71 = .ok (.iadd, 1) := by decide +kernel
theorem dX6_keyOf_72 : decode cX6_keyOf 72 = .ok (.iaload, 1) := by decide +kernel
theorem dX6_keyOf_73 : decode cX6_keyOf 73 = .ok (.iconst (-1), 1) := by decide +kernel
theorem dX6_keyOf_74 : decode cX6_keyOf 74 = .ok (.if_icmp .ne 5, 3) := by decide +kernel
theorem dX6_keyOf_77 : decode cX6_keyOf 77 = .ok (.iconst (-1), 1) := by decide +kernel
theorem dX6_keyOf_78 : decode cX6_keyOf 78 = .ok (.ireturn, 1) := by decide +kernel
theorem dX6_keyOf_79 : decode cX6_keyOf 79 = .ok (.bipush 64, 2) := by decide +kernel
theorem dX6_keyOf_81 : decode cX6_keyOf 81 = .ok (.iload_n 3, 1) := by decide +kernel
theorem dX6_keyOf_82 : decode cX6_keyOf 82 = .ok (.iload_n 2, 1) := by decide +kernel
theorem dX6_keyOf_83 : decode cX6_keyOf 83 = .ok (.isub, 1) := by decide +kernel
theorem dX6_keyOf_84 : decode cX6_keyOf 84 = .ok (.imul, 1) := by decide +kernel
theorem dX6_keyOf_85 : decode cX6_keyOf 85 = .ok (.bipush 8, 2) := by decide +kernel
theorem dX6_keyOf_87 : decode cX6_keyOf 87 = .ok (.aload_n 0, 1) := by decide +kernel
theorem dX6_keyOf_88 : decode cX6_keyOf 88 = .ok (.getfield 26, 3) := by decide +kernel
theorem dX6_keyOf_91 : decode cX6_keyOf 91 = .ok (.bipush 16, 2) := by decide +kernel
theorem dX6_keyOf_93 : decode cX6_keyOf 93 = .ok (.iload_n 1, 1) := by decide +kernel
theorem dX6_keyOf_94 : decode cX6_keyOf 94 = .ok (.imul, 1) := by decide +kernel
theorem dX6_keyOf_95 : decode cX6_keyOf 95 = .ok (.iload_n 2, 1) := by decide +kernel
theorem dX6_keyOf_96 : decode cX6_keyOf 96 = .ok (.iadd, 1) := by decide +kernel
theorem dX6_keyOf_97 : decode cX6_keyOf 97 = .ok (.iaload, 1) := by decide +kernel
theorem dX6_keyOf_98 : decode cX6_keyOf 98 = .ok (.imul, 1) := by decide +kernel
theorem dX6_keyOf_99 : decode cX6_keyOf 99 = .ok (.iadd, 1) := by decide +kernel
theorem dX6_keyOf_100 : decode cX6_keyOf 100 = .ok (.aload_n 0, 1) := by decide +kernel
theorem dX6_keyOf_101 : decode cX6_keyOf 101 = .ok (.getfield 26, 3) := by decide +kernel
theorem dX6_keyOf_104 : decode cX6_keyOf 104 = .ok (.bipush 16, 2) := by decide +kernel
theorem dX6_keyOf_106 : decode cX6_keyOf 106 = .ok (.iload_n 1, 1) := by decide +kernel
theorem dX6_keyOf_107 : decode cX6_keyOf 107 = .ok (.imul, 1) := by decide +kernel
theorem dX6_keyOf_108 : decode cX6_keyOf 108 = .ok (.iload_n 3, 1) := by decide +kernel
theorem dX6_keyOf_109 : decode cX6_keyOf 109 = .ok (.iadd, 1) := by decide +kernel
theorem dX6_keyOf_110 : decode cX6_keyOf 110 = .ok (.iaload, 1) := by decide +kernel
theorem dX6_keyOf_111 : decode cX6_keyOf 111 = .ok (.iadd, 1) := by decide +kernel
theorem dX6_keyOf_112 : decode cX6_keyOf 112 = .ok (.ireturn, 1) := by decide +kernel
set_option maxRecDepth 20000 in
theorem ggX6_stands_X6_keyOf : GoodIn wsX6_stands wsX6_keyOf := goodIn_r _ [5, 6, 7, 8, 9, 10, 4, 11, 12, 13, 14, 15, 16, 17, 18, 19, 20, 21, 22, 23, 24, 25, 26, 27] (by decide +kernel) (by decide +kernel)
set_option maxRecDepth 20000 in
theorem gX6_stands_X6_keyOf : GoodIn wsX6_stands (wsV RX6 101 RX6 yX6_keyOf wsX6_keyOf) := goodIn_app (goodIn_of _ (by decide +kernel)) ggX6_stands_X6_keyOf
theorem dX6_stands_0 : decode cX6_stands 0 = .ok (.aload_n 0, 1) := by decide +kernel
theorem dX6_stands_1 : decode cX6_stands 1 = .ok (.iload_n 1, 1) := by decide +kernel
theorem dX6_stands_2 : decode cX6_stands 2 = .ok (.iload_n 3, 1) := by decide +kernel
theorem dX6_stands_3 : decode cX6_stands 3 = .ok (.iload_n 3, 1) := by decide +kernel
theorem dX6_stands_4 : decode cX6_stands 4 = .ok (.iload_n 2, 1) := by decide +kernel
theorem dX6_stands_5 : decode cX6_stands 5 = .ok (.bipush 64, 2) := by decide +kernel
theorem dX6_stands_7 : decode cX6_stands 7 = .ok (.idiv, 1) := by decide +kernel
theorem dX6_stands_8 : decode cX6_stands 8 = .ok (.iadd, 1) := by decide +kernel
theorem dX6_stands_9 : decode cX6_stands 9 = .ok (.invokevirtual 101, 3) := by decide +kernel
theorem dX6_stands_12 : decode cX6_stands 12 = .ok (.iload_n 2, 1) := by decide +kernel
theorem dX6_stands_13 : decode cX6_stands 13 = .ok (.if_icmp .ne 7, 3) := by decide +kernel
theorem dX6_stands_16 : decode cX6_stands 16 = .ok (.iconst 1, 1) := by decide +kernel
theorem dX6_stands_17 : decode cX6_stands 17 = .ok (.goto 4, 3) := by decide +kernel
theorem dX6_stands_20 : decode cX6_stands 20 = .ok (.iconst 0, 1) := by decide +kernel
theorem dX6_stands_21 : decode cX6_stands 21 = .ok (.ireturn, 1) := by decide +kernel
set_option maxRecDepth 20000 in
theorem ggX6_placesOf_X6_stands : GoodIn wsX6_placesOf wsX6_stands := goodIn_r _ [5, 6, 7, 8, 4, 9, 10, 11, 12, 13, 14, 15, 16, 17, 18, 19, 20, 21, 22, 23, 24, 25, 26, 27, 28, 29, 30, 31] (by decide +kernel) (by decide +kernel)
set_option maxRecDepth 20000 in
theorem gX6_placesOf_X6_stands : GoodIn wsX6_placesOf (wsV RX6 104 RX6 yX6_stands wsX6_stands) := goodIn_app (goodIn_of _ (by decide +kernel)) ggX6_placesOf_X6_stands
theorem dX6_placesOf_0 : decode cX6_placesOf 0 = .ok (.iconst 0, 1) := by decide +kernel
theorem dX6_placesOf_1 : decode cX6_placesOf 1 = .ok (.istore_n 2, 1) := by decide +kernel
theorem dX6_placesOf_2 : decode cX6_placesOf 2 = .ok (.iconst 0, 1) := by decide +kernel
theorem dX6_placesOf_3 : decode cX6_placesOf 3 = .ok (.istore_n 3, 1) := by decide +kernel
theorem dX6_placesOf_4 : decode cX6_placesOf 4 = .ok (.iload_n 3, 1) := by decide +kernel
theorem dX6_placesOf_5 : decode cX6_placesOf 5 = .ok (.iconst 4, 1) := by decide +kernel
theorem dX6_placesOf_6 : decode cX6_placesOf 6 = .ok (.if_icmp .ge 44, 3) := by decide +kernel
theorem dX6_placesOf_9 : decode cX6_placesOf 9 = .ok (.iconst 0, 1) := by decide +kernel
theorem dX6_placesOf_10 : decode cX6_placesOf 10 = .ok (.istore 4, 2) := by decide +kernel
theorem dX6_placesOf_12 : decode cX6_placesOf 12 = .ok (.iload 4, 2) := by decide +kernel
theorem dX6_placesOf_14 : decode cX6_placesOf 14 = .ok (.bipush 16, 2) := by decide +kernel
theorem dX6_placesOf_16 : decode cX6_placesOf 16 = .ok (.if_icmp .ge 28, 3) := by decide +kernel
theorem dX6_placesOf_19 : decode cX6_placesOf 19 = .ok (.iload_n 2, 1) := by decide +kernel
theorem dX6_placesOf_20 : decode cX6_placesOf 20 = .ok (.aload_n 0, 1) := by decide +kernel
theorem dX6_placesOf_21 : decode cX6_placesOf 21 = .ok (.iload_n 3, 1) := by decide +kernel
theorem dX6_placesOf_22 : decode cX6_placesOf 22 = .ok (.iload_n 1, 1) := by decide +kernel
theorem dX6_placesOf_23 : decode cX6_placesOf 23 = .ok (.iload 4, 2) := by decide +kernel
theorem dX6_placesOf_25 : decode cX6_placesOf 25 = .ok (.invokevirtual 104, 3) := by decide +kernel
theorem dX6_placesOf_28 : decode cX6_placesOf 28 = .ok (.ifCond .eq 7, 3) := by decide +kernel
theorem dX6_placesOf_31 : decode cX6_placesOf 31 = .ok (.iconst 1, 1) := by decide +kernel
theorem dX6_placesOf_32 : decode cX6_placesOf 32 = .ok (.goto 4, 3) := by decide +kernel
theorem dX6_placesOf_35 : decode cX6_placesOf 35 = .ok (.iconst 0, 1) := by decide +kernel
theorem dX6_placesOf_36 : decode cX6_placesOf 36 = .ok (.iadd, 1) := by decide +kernel
theorem dX6_placesOf_37 : decode cX6_placesOf 37 = .ok (.istore_n 2, 1) := by decide +kernel
theorem dX6_placesOf_38 : decode cX6_placesOf 38 = .ok (.iinc 4 1, 3) := by decide +kernel
theorem dX6_placesOf_41 : decode cX6_placesOf 41 = .ok (.goto (-29), 3) := by decide +kernel
theorem dX6_placesOf_44 : decode cX6_placesOf 44 = .ok (.iinc 3 1, 3) := by decide +kernel
theorem dX6_placesOf_47 : decode cX6_placesOf 47 = .ok (.goto (-43), 3) := by decide +kernel
theorem dX6_placesOf_50 : decode cX6_placesOf 50 = .ok (.iload_n 2, 1) := by decide +kernel
theorem dX6_placesOf_51 : decode cX6_placesOf 51 = .ok (.ireturn, 1) := by decide +kernel
set_option maxRecDepth 20000 in
theorem ggX6_keysOf_X6_keyOf : GoodIn wsX6_keysOf wsX6_keyOf := goodIn_r _ [5, 6, 7, 8, 9, 10, 4, 11, 12, 13, 14, 15, 16, 17, 18, 19, 20, 21, 22, 23, 24, 25, 26, 27] (by decide +kernel) (by decide +kernel)
set_option maxRecDepth 20000 in
theorem gX6_keysOf_X6_keyOf : GoodIn wsX6_keysOf (wsV RX6 101 RX6 yX6_keyOf wsX6_keyOf) := goodIn_app (goodIn_of _ (by decide +kernel)) ggX6_keysOf_X6_keyOf
theorem dX6_keysOf_0 : decode cX6_keysOf 0 = .ok (.iconst 0, 1) := by decide +kernel
theorem dX6_keysOf_1 : decode cX6_keysOf 1 = .ok (.istore_n 2, 1) := by decide +kernel
theorem dX6_keysOf_2 : decode cX6_keysOf 2 = .ok (.iconst 0, 1) := by decide +kernel
theorem dX6_keysOf_3 : decode cX6_keysOf 3 = .ok (.istore_n 3, 1) := by decide +kernel
theorem dX6_keysOf_4 : decode cX6_keysOf 4 = .ok (.iload_n 3, 1) := by decide +kernel
theorem dX6_keysOf_5 : decode cX6_keysOf 5 = .ok (.bipush 16, 2) := by decide +kernel
theorem dX6_keysOf_7 : decode cX6_keysOf 7 = .ok (.if_icmp .ge 47, 3) := by decide +kernel
theorem dX6_keysOf_10 : decode cX6_keysOf 10 = .ok (.iload_n 3, 1) := by decide +kernel
theorem dX6_keysOf_11 : decode cX6_keysOf 11 = .ok (.iconst 1, 1) := by decide +kernel
theorem dX6_keysOf_12 : decode cX6_keysOf 12 = .ok (.iadd, 1) := by decide +kernel
theorem dX6_keysOf_13 : decode cX6_keysOf 13 = .ok (.istore 4, 2) := by decide +kernel
theorem dX6_keysOf_15 : decode cX6_keysOf 15 = .ok (.iload 4, 2) := by decide +kernel
theorem dX6_keysOf_17 : decode cX6_keysOf 17 = .ok (.bipush 16, 2) := by decide +kernel
theorem dX6_keysOf_19 : decode cX6_keysOf 19 = .ok (.if_icmp .ge 29, 3) := by decide +kernel
theorem dX6_keysOf_22 : decode cX6_keysOf 22 = .ok (.iload_n 2, 1) := by decide +kernel
theorem dX6_keysOf_23 : decode cX6_keysOf 23 = .ok (.aload_n 0, 1) := by decide +kernel
theorem dX6_keysOf_24 : decode cX6_keysOf 24 = .ok (.iload_n 1, 1) := by decide +kernel
theorem dX6_keysOf_25 : decode cX6_keysOf 25 = .ok (.iload_n 3, 1) := by decide +kernel
theorem dX6_keysOf_26 : decode cX6_keysOf 26 = .ok (.iload 4, 2) := by decide +kernel
theorem dX6_keysOf_28 : decode cX6_keysOf 28 = .ok (.invokevirtual 101, 3) := by decide +kernel
theorem dX6_keysOf_31 : decode cX6_keysOf 31 = .ok (.iconst (-1), 1) := by decide +kernel
theorem dX6_keysOf_32 : decode cX6_keysOf 32 = .ok (.if_icmp .ne 7, 3) := by decide +kernel
theorem dX6_keysOf_35 : decode cX6_keysOf 35 = .ok (.iconst 0, 1) := by decide +kernel
theorem dX6_keysOf_36 : decode cX6_keysOf 36 = .ok (.goto 4, 3) := by decide +kernel
theorem dX6_keysOf_39 : decode cX6_keysOf 39 = .ok (.iconst 1, 1) := by decide +kernel
theorem dX6_keysOf_40 : decode cX6_keysOf 40 = .ok (.iadd, 1) := by decide +kernel
theorem dX6_keysOf_41 : decode cX6_keysOf 41 = .ok (.istore_n 2, 1) := by decide +kernel
theorem dX6_keysOf_42 : decode cX6_keysOf 42 = .ok (.iinc 4 1, 3) := by decide +kernel
theorem dX6_keysOf_45 : decode cX6_keysOf 45 = .ok (.goto (-30), 3) := by decide +kernel
theorem dX6_keysOf_48 : decode cX6_keysOf 48 = .ok (.iinc 3 1, 3) := by decide +kernel
theorem dX6_keysOf_51 : decode cX6_keysOf 51 = .ok (.goto (-47), 3) := by decide +kernel
theorem dX6_keysOf_54 : decode cX6_keysOf 54 = .ok (.iload_n 2, 1) := by decide +kernel
theorem dX6_keysOf_55 : decode cX6_keysOf 55 = .ok (.ireturn, 1) := by decide +kernel
set_option maxRecDepth 20000 in
theorem ggX6_counts_X6_findsPeaks : GoodIn wsX6_counts wsX6_findsPeaks := goodIn_r _ [7, 8, 9, 10, 11, 6, 12, 13, 14, 15, 16, 17, 18, 19, 20, 21, 22, 23, 24, 25, 26, 27, 28, 29, 30, 46, 47, 48, 49, 50, 51, 52, 53, 54] (by decide +kernel) (by decide +kernel)
set_option maxRecDepth 20000 in
theorem gX6_counts_X6_findsPeaks : GoodIn wsX6_counts (wsV RX6 107 RX6 yX6_findsPeaks wsX6_findsPeaks) := goodIn_app (goodIn_of _ (by decide +kernel)) ggX6_counts_X6_findsPeaks
set_option maxRecDepth 20000 in
theorem ggX6_counts_X6_keyOf : GoodIn wsX6_counts wsX6_keyOf := goodIn_r _ [34, 13, 8, 35, 36, 37, 6, 38, 9, 10, 11, 12, 39, 40, 41, 46, 47, 48, 49, 50, 51, 52, 53, 54] (by decide +kernel) (by decide +kernel)
set_option maxRecDepth 20000 in
theorem gX6_counts_X6_keyOf : GoodIn wsX6_counts (wsV RX6 101 RX6 yX6_keyOf wsX6_keyOf) := goodIn_app (goodIn_of _ (by decide +kernel)) ggX6_counts_X6_keyOf
set_option maxRecDepth 20000 in
theorem ggX6_counts_X6_stands : GoodIn wsX6_counts wsX6_stands := goodIn_r _ [45, 31, 32, 33, 6, 34, 13, 8, 35, 36, 37, 38, 9, 10, 11, 12, 39, 40, 41, 46, 47, 48, 49, 50, 51, 52, 53, 54] (by decide +kernel) (by decide +kernel)
set_option maxRecDepth 20000 in
theorem gX6_counts_X6_stands : GoodIn wsX6_counts (wsV RX6 104 RX6 yX6_stands wsX6_stands) := goodIn_app (goodIn_of _ (by decide +kernel)) ggX6_counts_X6_stands
theorem dX6_counts_0 : decode cX6_counts 0 = .ok (.aload_n 0, 1) := by decide +kernel
theorem dX6_counts_1 : decode cX6_counts 1 = .ok (.invokevirtual 107, 3) := by decide +kernel
theorem dX6_counts_4 : decode cX6_counts 4 = .ok (.iconst 0, 1) := by decide +kernel
theorem dX6_counts_5 : decode cX6_counts 5 = .ok (.istore_n 1, 1) := by decide +kernel
theorem dX6_counts_6 : decode cX6_counts 6 = .ok (.iload_n 1, 1) := by decide +kernel
theorem dX6_counts_7 : decode cX6_counts 7 = .ok (.bipush 124, 2) := by decide +kernel
theorem dX6_counts_9 : decode cX6_counts 9 = .ok (.if_icmp .ge 23, 3) := by decide +kernel
theorem dX6_counts_12 : decode cX6_counts 12 = .ok (.aload_n 0, 1) := by decide +kernel
theorem dX6_counts_13 : decode cX6_counts 13 = .ok (.getfield 29, 3) := by decide +kernel
theorem dX6_counts_16 : decode cX6_counts 16 = .ok (.iload_n 1, 1) := by decide +kernel
theorem dX6_counts_17 : decode cX6_counts 17 = .ok (.iconst 0, 1) := by decide +kernel
theorem dX6_counts_18 : decode cX6_counts 18 = .ok (.iastore, 1) := by decide +kernel
theorem dX6_counts_19 : decode cX6_counts 19 = .ok (.aload_n 0, 1) := by decide +kernel
theorem dX6_counts_20 : decode cX6_counts 20 = .ok (.getfield 32, 3) := by decide +kernel
theorem dX6_counts_23 : decode cX6_counts 23 = .ok (.iload_n 1, 1) := by decide +kernel
theorem dX6_counts_24 : decode cX6_counts 24 = .ok (.iconst 0, 1) := by decide +kernel
theorem dX6_counts_25 : decode cX6_counts 25 = .ok (.bastore, 1) := by decide +kernel
theorem dX6_counts_26 : decode cX6_counts 26 = .ok (.iinc 1 1, 3) := by decide +kernel
theorem dX6_counts_29 : decode cX6_counts 29 = .ok (.goto (-23), 3) := by decide +kernel
theorem dX6_counts_32 : decode cX6_counts 32 = .ok (.iconst 0, 1) := by decide +kernel
theorem dX6_counts_33 : decode cX6_counts 33 = .ok (.istore_n 1, 1) := by decide +kernel
theorem dX6_counts_34 : decode cX6_counts 34 = .ok (.iload_n 1, 1) := by decide +kernel
theorem dX6_counts_35 : decode cX6_counts 35 = .ok (.bipush 16, 2) := by decide +kernel
theorem dX6_counts_37 : decode cX6_counts 37 = .ok (.if_icmp .ge 106, 3) := by decide +kernel
theorem dX6_counts_40 : decode cX6_counts 40 = .ok (.iload_n 1, 1) := by decide +kernel
theorem dX6_counts_41 : decode cX6_counts 41 = .ok (.iconst 1, 1) := by decide +kernel
theorem dX6_counts_42 : decode cX6_counts 42 = .ok (.iadd, 1) := by decide +kernel
theorem dX6_counts_43 : decode cX6_counts 43 = .ok (.istore_n 2, 1) := by decide +kernel
theorem dX6_counts_44 : decode cX6_counts 44 = .ok (.iload_n 2, 1) := by decide +kernel
theorem dX6_counts_45 : decode cX6_counts 45 = .ok (.bipush 16, 2) := by decide +kernel
theorem dX6_counts_47 : decode cX6_counts 47 = .ok (.if_icmp .ge 90, 3) := by decide +kernel
theorem dX6_counts_50 : decode cX6_counts 50 = .ok (.aload_n 0, 1) := by decide +kernel
theorem dX6_counts_51 : decode cX6_counts 51 = .ok (.iconst 4, 1) := by decide +kernel
theorem dX6_counts_52 : decode cX6_counts 52 = .ok (.iload_n 1, 1) := by decide +kernel
theorem dX6_counts_53 : decode cX6_counts 53 = .ok (.iload_n 2, 1) := by decide +kernel
theorem dX6_counts_54 : decode cX6_counts 54 = .ok (.invokevirtual 101, 3) := by decide +kernel
theorem dX6_counts_57 : decode cX6_counts 57 = .ok (.istore_n 3, 1) := by decide +kernel
theorem dX6_counts_58 : decode cX6_counts 58 = .ok (.iconst 0, 1) := by decide +kernel
theorem dX6_counts_59 : decode cX6_counts 59 = .ok (.istore 4, 2) := by decide +kernel
theorem dX6_counts_61 : decode cX6_counts 61 = .ok (.iload 4, 2) := by decide +kernel
theorem dX6_counts_63 : decode cX6_counts 63 = .ok (.bipush 64, 2) := by decide +kernel
theorem dX6_counts_65 : decode cX6_counts 65 = .ok (.if_icmp .ge 66, 3) := by decide +kernel
theorem dX6_counts_68 : decode cX6_counts 68 = .ok (.iload_n 3, 1) := by decide +kernel
theorem dX6_counts_69 : decode cX6_counts 69 = .ok (.iconst (-1), 1) := by decide +kernel
theorem dX6_counts_70 : decode cX6_counts 70 = .ok (.if_icmp .eq 61, 3) := by decide +kernel
theorem dX6_counts_73 : decode cX6_counts 73 = .ok (.iload 4, 2) := by decide +kernel
theorem dX6_counts_75 : decode cX6_counts 75 = .ok (.bipush 16, 2) := by decide +kernel
theorem dX6_counts_77 : decode cX6_counts 77 = .ok (.idiv, 1) := by decide +kernel
theorem dX6_counts_78 : decode cX6_counts 78 = .ok (.istore 5, 2) := by decide +kernel
theorem dX6_counts_80 : decode cX6_counts 80 = .ok (.iload 4, 2) := by decide +kernel
theorem dX6_counts_82 : decode cX6_counts 82 = .ok (.bipush 16, 2) := by decide +kernel
theorem dX6_counts_84 : decode cX6_counts 84 = .ok (.irem, 1) := by decide +kernel
theorem dX6_counts_85 : decode cX6_counts 85 = .ok (.istore 6, 2) := by decide +kernel
theorem dX6_counts_87 : decode cX6_counts 87 = .ok (.aload_n 0, 1) := by decide +kernel
theorem dX6_counts_88 : decode cX6_counts 88 = .ok (.getfield 29, 3) := by decide +kernel
theorem dX6_counts_91 : decode cX6_counts 91 = .ok (.bipush 31, 2) := by decide +kernel
theorem dX6_counts_93 : decode cX6_counts 93 = .ok (.iload 5, 2) := by decide +kernel
theorem dX6_counts_95 : decode cX6_counts 95 = .ok (.imul, 1) := by decide +kernel
theorem dX6_counts_96 : decode cX6_counts 96 = .ok (.iload 6, 2) := by decide +kernel
theorem dX6_counts_98 : decode cX6_counts 98 = .ok (.iadd, 1) := by decide +kernel
theorem dX6_counts_99 : decode cX6_counts 99 = .ok (.iload_n 1, 1) := by decide +kernel
theorem dX6_counts_100 : decode cX6_counts 100 = .ok (.isub, 1) := by decide +kernel
theorem dX6_counts_101 : decode cX6_counts 101 = .ok (.bipush 15, 2) := by decide +kernel
theorem dX6_counts_103 : decode cX6_counts 103 = .ok (.iadd, 1) := by decide +kernel
theorem dX6_counts_104 : decode cX6_counts 104 = .ok (.dup2, 1) := by decide +kernel
theorem dX6_counts_105 : decode cX6_counts 105 = .ok (.iaload, 1) := by decide +kernel
theorem dX6_counts_106 : decode cX6_counts 106 = .ok (.aload_n 0, 1) := by decide +kernel
theorem dX6_counts_107 : decode cX6_counts 107 = .ok (.iload 5, 2) := by decide +kernel
theorem dX6_counts_109 : decode cX6_counts 109 = .ok (.iload_n 3, 1) := by decide +kernel
theorem dX6_counts_110 : decode cX6_counts 110 = .ok (.iload 6, 2) := by decide +kernel
theorem dX6_counts_112 : decode cX6_counts 112 = .ok (.invokevirtual 104, 3) := by decide +kernel
theorem dX6_counts_115 : decode cX6_counts 115 = .ok (.ifCond .eq 7, 3) := by decide +kernel
theorem dX6_counts_118 : decode cX6_counts 118 = .ok (.iconst 1, 1) := by decide +kernel
theorem dX6_counts_119 : decode cX6_counts 119 = .ok (.goto 4, 3) := by decide +kernel
theorem dX6_counts_122 : decode cX6_counts 122 = .ok (.iconst 0, 1) := by decide +kernel
theorem dX6_counts_123 : decode cX6_counts 123 = .ok (.iadd, 1) := by decide +kernel
theorem dX6_counts_124 : decode cX6_counts 124 = .ok (.iastore, 1) := by decide +kernel
theorem dX6_counts_125 : decode cX6_counts 125 = .ok (.iinc 4 1, 3) := by decide +kernel
theorem dX6_counts_128 : decode cX6_counts 128 = .ok (.goto (-67), 3) := by decide +kernel
theorem dX6_counts_131 : decode cX6_counts 131 = .ok (.iinc 2 1, 3) := by decide +kernel
theorem dX6_counts_134 : decode cX6_counts 134 = .ok (.goto (-90), 3) := by decide +kernel
theorem dX6_counts_137 : decode cX6_counts 137 = .ok (.iinc 1 1, 3) := by decide +kernel
theorem dX6_counts_140 : decode cX6_counts 140 = .ok (.goto (-106), 3) := by decide +kernel
theorem dX6_counts_143 : decode cX6_counts 143 = .ok (.return_, 1) := by decide +kernel
theorem dX6_best_0 : decode cX6_best 0 = .ok (.iconst (-1), 1) := by decide +kernel
theorem dX6_best_1 : decode cX6_best 1 = .ok (.istore_n 2, 1) := by decide +kernel
theorem dX6_best_2 : decode cX6_best 2 = .ok (.iconst 0, 1) := by decide +kernel
theorem dX6_best_3 : decode cX6_best 3 = .ok (.istore_n 3, 1) := by decide +kernel
theorem dX6_best_4 : decode cX6_best 4 = .ok (.iload_n 3, 1) := by decide +kernel
theorem dX6_best_5 : decode cX6_best 5 = .ok (.bipush 124, 2) := by decide +kernel
theorem dX6_best_7 : decode cX6_best 7 = .ok (.if_icmp .ge 73, 3) := by decide +kernel
theorem dX6_best_10 : decode cX6_best 10 = .ok (.aload_n 0, 1) := by decide +kernel
theorem dX6_best_11 : decode cX6_best 11 = .ok (.getfield 29, 3) := by decide +kernel
theorem dX6_best_14 : decode cX6_best 14 = .ok (.iload_n 3, 1) := by decide +kernel
theorem dX6_best_15 : decode cX6_best 15 = .ok (.iaload, 1) := by decide +kernel
theorem dX6_best_16 : decode cX6_best 16 = .ok (.ifCond .le 24, 3) := by decide +kernel
theorem dX6_best_19 : decode cX6_best 19 = .ok (.aload_n 0, 1) := by decide +kernel
theorem dX6_best_20 : decode cX6_best 20 = .ok (.getfield 32, 3) := by decide +kernel
theorem dX6_best_23 : decode cX6_best 23 = .ok (.iload_n 3, 1) := by decide +kernel
theorem dX6_best_24 : decode cX6_best 24 = .ok (.baload, 1) := by decide +kernel
theorem dX6_best_25 : decode cX6_best 25 = .ok (.ifCond .ne 15, 3) := by decide +kernel
theorem dX6_best_28 : decode cX6_best 28 = .ok (.iload_n 3, 1) := by decide +kernel
theorem dX6_best_29 : decode cX6_best 29 = .ok (.bipush 31, 2) := by decide +kernel
theorem dX6_best_31 : decode cX6_best 31 = .ok (.idiv, 1) := by decide +kernel
theorem dX6_best_32 : decode cX6_best 32 = .ok (.iload_n 1, 1) := by decide +kernel
theorem dX6_best_33 : decode cX6_best 33 = .ok (.if_icmp .eq 7, 3) := by decide +kernel
theorem dX6_best_36 : decode cX6_best 36 = .ok (.iconst 1, 1) := by decide +kernel
theorem dX6_best_37 : decode cX6_best 37 = .ok (.goto 4, 3) := by decide +kernel
theorem dX6_best_40 : decode cX6_best 40 = .ok (.iconst 0, 1) := by decide +kernel
theorem dX6_best_41 : decode cX6_best 41 = .ok (.istore 4, 2) := by decide +kernel
theorem dX6_best_43 : decode cX6_best 43 = .ok (.iload 4, 2) := by decide +kernel
theorem dX6_best_45 : decode cX6_best 45 = .ok (.ifCond .eq 27, 3) := by decide +kernel
theorem dX6_best_48 : decode cX6_best 48 = .ok (.iload_n 2, 1) := by decide +kernel
theorem dX6_best_49 : decode cX6_best 49 = .ok (.iconst (-1), 1) := by decide +kernel
theorem dX6_best_50 : decode cX6_best 50 = .ok (.if_icmp .eq 18, 3) := by decide +kernel
theorem dX6_best_53 : decode cX6_best 53 = .ok (.aload_n 0, 1) := by decide +kernel
theorem dX6_best_54 : decode cX6_best 54 = .ok (.getfield 29, 3) := by decide +kernel
theorem dX6_best_57 : decode cX6_best 57 = .ok (.iload_n 3, 1) := by decide +kernel
theorem dX6_best_58 : decode cX6_best 58 = .ok (.iaload, 1) := by decide +kernel
theorem dX6_best_59 : decode cX6_best 59 = .ok (.aload_n 0, 1) := by decide +kernel
theorem dX6_best_60 : decode cX6_best 60 = .ok (.getfield 29, 3) := by decide +kernel
theorem dX6_best_63 : decode cX6_best 63 = .ok (.iload_n 2, 1) := by decide +kernel
theorem dX6_best_64 : decode cX6_best 64 = .ok (.iaload, 1) := by decide +kernel
theorem dX6_best_65 : decode cX6_best 65 = .ok (.if_icmp .le 7, 3) := by decide +kernel
theorem dX6_best_68 : decode cX6_best 68 = .ok (.iload_n 3, 1) := by decide +kernel
theorem dX6_best_69 : decode cX6_best 69 = .ok (.goto 4, 3) := by decide +kernel
theorem dX6_best_72 : decode cX6_best 72 = .ok (.iload_n 2, 1) := by decide +kernel
theorem dX6_best_73 : decode cX6_best 73 = .ok (.istore_n 2, 1) := by decide +kernel
theorem dX6_best_74 : decode cX6_best 74 = .ok (.iinc 3 1, 3) := by decide +kernel
theorem dX6_best_77 : decode cX6_best 77 = .ok (.goto (-73), 3) := by decide +kernel
theorem dX6_best_80 : decode cX6_best 80 = .ok (.iload_n 2, 1) := by decide +kernel
theorem dX6_best_81 : decode cX6_best 81 = .ok (.ireturn, 1) := by decide +kernel
set_option maxRecDepth 20000 in
theorem ggX6_doubt_X6_best : GoodIn wsX6_doubt wsX6_best := goodIn_r _ [6, 1, 7, 8, 9, 10, 11, 12, 13, 14, 15, 16] (by decide +kernel) (by decide +kernel)
set_option maxRecDepth 20000 in
theorem gX6_doubt_X6_best : GoodIn wsX6_doubt (wsV RX6 110 RX6 yX6_best wsX6_best) := goodIn_app (goodIn_of _ (by decide +kernel)) ggX6_doubt_X6_best
theorem dX6_doubt_0 : decode cX6_doubt 0 = .ok (.aload_n 0, 1) := by decide +kernel
theorem dX6_doubt_1 : decode cX6_doubt 1 = .ok (.iconst (-1), 1) := by decide +kernel
theorem dX6_doubt_2 : decode cX6_doubt 2 = .ok (.invokevirtual 110, 3) := by decide +kernel
theorem dX6_doubt_5 : decode cX6_doubt 5 = .ok (.istore_n 1, 1) := by decide +kernel
theorem dX6_doubt_6 : decode cX6_doubt 6 = .ok (.iload_n 1, 1) := by decide +kernel
theorem dX6_doubt_7 : decode cX6_doubt 7 = .ok (.iconst (-1), 1) := by decide +kernel
theorem dX6_doubt_8 : decode cX6_doubt 8 = .ok (.if_icmp .ne 6, 3) := by decide +kernel
theorem dX6_doubt_11 : decode cX6_doubt 11 = .ok (.bipush 100, 2) := by decide +kernel
theorem dX6_doubt_13 : decode cX6_doubt 13 = .ok (.ireturn, 1) := by decide +kernel
theorem dX6_doubt_14 : decode cX6_doubt 14 = .ok (.aload_n 0, 1) := by decide +kernel
theorem dX6_doubt_15 : decode cX6_doubt 15 = .ok (.iload_n 1, 1) := by decide +kernel
theorem dX6_doubt_16 : decode cX6_doubt 16 = .ok (.bipush 31, 2) := by decide +kernel
theorem dX6_doubt_18 : decode cX6_doubt 18 = .ok (.idiv, 1) := by decide +kernel
theorem dX6_doubt_19 : decode cX6_doubt 19 = .ok (.invokevirtual 110, 3) := by decide +kernel
theorem dX6_doubt_22 : decode cX6_doubt 22 = .ok (.istore_n 2, 1) := by decide +kernel
theorem dX6_doubt_23 : decode cX6_doubt 23 = .ok (.iload_n 2, 1) := by decide +kernel
theorem dX6_doubt_24 : decode cX6_doubt 24 = .ok (.iconst (-1), 1) := by decide +kernel
theorem dX6_doubt_25 : decode cX6_doubt 25 = .ok (.if_icmp .ne 7, 3) := by decide +kernel
theorem dX6_doubt_28 : decode cX6_doubt 28 = .ok (.iconst 0, 1) := by decide +kernel
theorem dX6_doubt_29 : decode cX6_doubt 29 = .ok (.goto 19, 3) := by decide +kernel
theorem dX6_doubt_32 : decode cX6_doubt 32 = .ok (.bipush 100, 2) := by decide +kernel
theorem dX6_doubt_34 : decode cX6_doubt 34 = .ok (.aload_n 0, 1) := by decide +kernel
theorem dX6_doubt_35 : decode cX6_doubt 35 = .ok (.getfield 29, 3) := by decide +kernel
theorem dX6_doubt_38 : decode cX6_doubt 38 = .ok (.iload_n 2, 1) := by decide +kernel
theorem dX6_doubt_39 : decode cX6_doubt 39 = .ok (.iaload, 1) := by decide +kernel
theorem dX6_doubt_40 : decode cX6_doubt 40 = .ok (.imul, 1) := by decide +kernel
theorem dX6_doubt_41 : decode cX6_doubt 41 = .ok (.aload_n 0, 1) := by decide +kernel
theorem dX6_doubt_42 : decode cX6_doubt 42 = .ok (.getfield 29, 3) := by decide +kernel
theorem dX6_doubt_45 : decode cX6_doubt 45 = .ok (.iload_n 1, 1) := by decide +kernel
theorem dX6_doubt_46 : decode cX6_doubt 46 = .ok (.iaload, 1) := by decide +kernel
theorem dX6_doubt_47 : decode cX6_doubt 47 = .ok (.idiv, 1) := by decide +kernel
theorem dX6_doubt_48 : decode cX6_doubt 48 = .ok (.ireturn, 1) := by decide +kernel
set_option maxRecDepth 20000 in
theorem ggX6_ledger_X6_placesOf : GoodIn wsX6_ledger wsX6_placesOf := goodIn_r _ [5, 6, 7, 8, 4, 9, 10, 11, 12, 13, 14, 15, 16, 17, 18, 19, 20, 21, 22, 23, 24, 25, 26, 27, 28, 29, 30, 31, 32, 33, 34, 35] (by decide +kernel) (by decide +kernel)
set_option maxRecDepth 20000 in
theorem gX6_ledger_X6_placesOf : GoodIn wsX6_ledger (wsV RX6 113 RX6 yX6_placesOf wsX6_placesOf) := goodIn_app (goodIn_of _ (by decide +kernel)) ggX6_ledger_X6_placesOf
theorem dX6_ledger_0 : decode cX6_ledger 0 = .ok (.iconst 0, 1) := by decide +kernel
theorem dX6_ledger_1 : decode cX6_ledger 1 = .ok (.istore_n 2, 1) := by decide +kernel
theorem dX6_ledger_2 : decode cX6_ledger 2 = .ok (.bipush 64, 2) := by decide +kernel
theorem dX6_ledger_4 : decode cX6_ledger 4 = .ok (.istore_n 3, 1) := by decide +kernel
theorem dX6_ledger_5 : decode cX6_ledger 5 = .ok (.iload_n 3, 1) := by decide +kernel
theorem dX6_ledger_6 : decode cX6_ledger 6 = .ok (.sipush 384, 3) := by decide +kernel
theorem dX6_ledger_9 : decode cX6_ledger 9 = .ok (.if_icmp .ge 38, 3) := by decide +kernel
theorem dX6_ledger_12 : decode cX6_ledger 12 = .ok (.aload_n 0, 1) := by decide +kernel
theorem dX6_ledger_13 : decode cX6_ledger 13 = .ok (.iload_n 3, 1) := by decide +kernel
theorem dX6_ledger_14 : decode cX6_ledger 14 = .ok (.invokevirtual 113, 3) := by decide +kernel
theorem dX6_ledger_17 : decode cX6_ledger 17 = .ok (.istore 4, 2) := by decide +kernel
theorem dX6_ledger_19 : decode cX6_ledger 19 = .ok (.iload_n 2, 1) := by decide +kernel
theorem dX6_ledger_20 : decode cX6_ledger 20 = .ok (.iload_n 1, 1) := by decide +kernel
theorem dX6_ledger_21 : decode cX6_ledger 21 = .ok (.ifCond .eq 8, 3) := by decide +kernel
theorem dX6_ledger_24 : decode cX6_ledger 24 = .ok (.iload 4, 2) := by decide +kernel
theorem dX6_ledger_26 : decode cX6_ledger 26 = .ok (.goto 13, 3) := by decide +kernel
theorem dX6_ledger_29 : decode cX6_ledger 29 = .ok (.iload 4, 2) := by decide +kernel
theorem dX6_ledger_31 : decode cX6_ledger 31 = .ok (.ifCond .le 7, 3) := by decide +kernel
theorem dX6_ledger_34 : decode cX6_ledger 34 = .ok (.iconst 1, 1) := by decide +kernel
theorem dX6_ledger_35 : decode cX6_ledger 35 = .ok (.goto 4, 3) := by decide +kernel
theorem dX6_ledger_38 : decode cX6_ledger 38 = .ok (.iconst 0, 1) := by decide +kernel
theorem dX6_ledger_39 : decode cX6_ledger 39 = .ok (.iadd, 1) := by decide +kernel
theorem dX6_ledger_40 : decode cX6_ledger 40 = .ok (.istore_n 2, 1) := by decide +kernel
theorem dX6_ledger_41 : decode cX6_ledger 41 = .ok (.iinc 3 1, 3) := by decide +kernel
theorem dX6_ledger_44 : decode cX6_ledger 44 = .ok (.goto (-39), 3) := by decide +kernel
theorem dX6_ledger_47 : decode cX6_ledger 47 = .ok (.iload_n 2, 1) := by decide +kernel
theorem dX6_ledger_48 : decode cX6_ledger 48 = .ok (.ireturn, 1) := by decide +kernel
set_option maxRecDepth 20000 in
theorem ggX6_known_X6_keyOf : GoodIn wsX6_known wsX6_keyOf := goodIn_r _ [5, 6, 7, 8, 9, 10, 4, 11, 12, 13, 14, 15, 16, 17, 18, 27, 28, 29, 30, 31, 32, 33, 34, 35] (by decide +kernel) (by decide +kernel)
set_option maxRecDepth 20000 in
theorem gX6_known_X6_keyOf : GoodIn wsX6_known (wsV RX6 101 RX6 yX6_keyOf wsX6_keyOf) := goodIn_app (goodIn_of _ (by decide +kernel)) ggX6_known_X6_keyOf
set_option maxRecDepth 20000 in
theorem ggX6_known_X6_placesOf : GoodIn wsX6_known wsX6_placesOf := goodIn_r _ [22, 23, 24, 25, 4, 26, 1, 2, 3, 5, 6, 7, 8, 9, 10, 11, 12, 13, 14, 15, 16, 17, 18, 27, 28, 29, 30, 31, 32, 33, 34, 35] (by decide +kernel) (by decide +kernel)
set_option maxRecDepth 20000 in
theorem gX6_known_X6_placesOf : GoodIn wsX6_known (wsV RX6 113 RX6 yX6_placesOf wsX6_placesOf) := goodIn_app (goodIn_of _ (by decide +kernel)) ggX6_known_X6_placesOf
theorem dX6_known_0 : decode cX6_known 0 = .ok (.iconst 0, 1) := by decide +kernel
theorem dX6_known_1 : decode cX6_known 1 = .ok (.istore_n 1, 1) := by decide +kernel
theorem dX6_known_2 : decode cX6_known 2 = .ok (.iconst 0, 1) := by decide +kernel
theorem dX6_known_3 : decode cX6_known 3 = .ok (.istore_n 2, 1) := by decide +kernel
theorem dX6_known_4 : decode cX6_known 4 = .ok (.iload_n 2, 1) := by decide +kernel
theorem dX6_known_5 : decode cX6_known 5 = .ok (.bipush 16, 2) := by decide +kernel
theorem dX6_known_7 : decode cX6_known 7 = .ok (.if_icmp .ge 57, 3) := by decide +kernel
theorem dX6_known_10 : decode cX6_known 10 = .ok (.iload_n 2, 1) := by decide +kernel
theorem dX6_known_11 : decode cX6_known 11 = .ok (.iconst 1, 1) := by decide +kernel
theorem dX6_known_12 : decode cX6_known 12 = .ok (.iadd, 1) := by decide +kernel
theorem dX6_known_13 : decode cX6_known 13 = .ok (.istore_n 3, 1) := by decide +kernel
theorem dX6_known_14 : decode cX6_known 14 = .ok (.iload_n 3, 1) := by decide +kernel
theorem dX6_known_15 : decode cX6_known 15 = .ok (.bipush 16, 2) := by decide +kernel
theorem dX6_known_17 : decode cX6_known 17 = .ok (.if_icmp .ge 41, 3) := by decide +kernel
theorem dX6_known_20 : decode cX6_known 20 = .ok (.aload_n 0, 1) := by decide +kernel
theorem dX6_known_21 : decode cX6_known 21 = .ok (.iconst 4, 1) := by decide +kernel
theorem dX6_known_22 : decode cX6_known 22 = .ok (.iload_n 2, 1) := by decide +kernel
theorem dX6_known_23 : decode cX6_known 23 = .ok (.iload_n 3, 1) := by decide +kernel
theorem dX6_known_24 : decode cX6_known 24 = .ok (.invokevirtual 101, 3) := by decide +kernel
theorem dX6_known_27 : decode cX6_known 27 = .ok (.istore 4, 2) := by decide +kernel
theorem dX6_known_29 : decode cX6_known 29 = .ok (.iload_n 1, 1) := by decide +kernel
theorem dX6_known_30 : decode cX6_known 30 = .ok (.iload 4, 2) := by decide +kernel
theorem dX6_known_32 : decode cX6_known 32 = .ok (.iconst (-1), 1) := by decide +kernel
theorem dX6_known_33 : decode cX6_known 33 = .ok (.if_icmp .eq 16, 3) := by decide +kernel
theorem dX6_known_36 : decode cX6_known 36 = .ok (.aload_n 0, 1) := by decide +kernel
theorem dX6_known_37 : decode cX6_known 37 = .ok (.iload 4, 2) := by decide +kernel
theorem dX6_known_39 : decode cX6_known 39 = .ok (.invokevirtual 113, 3) := by decide +kernel
theorem dX6_known_42 : decode cX6_known 42 = .ok (.ifCond .le 7, 3) := by decide +kernel
theorem dX6_known_45 : decode cX6_known 45 = .ok (.iconst 1, 1) := by decide +kernel
theorem dX6_known_46 : decode cX6_known 46 = .ok (.goto 4, 3) := by decide +kernel
theorem dX6_known_49 : decode cX6_known 49 = .ok (.iconst 0, 1) := by decide +kernel
theorem dX6_known_50 : decode cX6_known 50 = .ok (.iadd, 1) := by decide +kernel
theorem dX6_known_51 : decode cX6_known 51 = .ok (.istore_n 1, 1) := by decide +kernel
theorem dX6_known_52 : decode cX6_known 52 = .ok (.iinc 3 1, 3) := by decide +kernel
theorem dX6_known_55 : decode cX6_known 55 = .ok (.goto (-41), 3) := by decide +kernel
theorem dX6_known_58 : decode cX6_known 58 = .ok (.iinc 2 1, 3) := by decide +kernel
theorem dX6_known_61 : decode cX6_known 61 = .ok (.goto (-57), 3) := by decide +kernel
theorem dX6_known_64 : decode cX6_known 64 = .ok (.iload_n 1, 1) := by decide +kernel
theorem dX6_known_65 : decode cX6_known 65 = .ok (.ireturn, 1) := by decide +kernel
theorem dX6_allVotes_0 : decode cX6_allVotes 0 = .ok (.iconst 0, 1) := by decide +kernel
theorem dX6_allVotes_1 : decode cX6_allVotes 1 = .ok (.istore_n 2, 1) := by decide +kernel
theorem dX6_allVotes_2 : decode cX6_allVotes 2 = .ok (.iconst 0, 1) := by decide +kernel
theorem dX6_allVotes_3 : decode cX6_allVotes 3 = .ok (.istore_n 3, 1) := by decide +kernel
theorem dX6_allVotes_4 : decode cX6_allVotes 4 = .ok (.iload_n 3, 1) := by decide +kernel
theorem dX6_allVotes_5 : decode cX6_allVotes 5 = .ok (.bipush 124, 2) := by decide +kernel
theorem dX6_allVotes_7 : decode cX6_allVotes 7 = .ok (.if_icmp .ge 39, 3) := by decide +kernel
theorem dX6_allVotes_10 : decode cX6_allVotes 10 = .ok (.iload_n 2, 1) := by decide +kernel
theorem dX6_allVotes_11 : decode cX6_allVotes 11 = .ok (.iload_n 1, 1) := by decide +kernel
theorem dX6_allVotes_12 : decode cX6_allVotes 12 = .ok (.ifCond .eq 20, 3) := by decide +kernel
theorem dX6_allVotes_15 : decode cX6_allVotes 15 = .ok (.aload_n 0, 1) := by decide +kernel
theorem dX6_allVotes_16 : decode cX6_allVotes 16 = .ok (.getfield 29, 3) := by decide +kernel
theorem dX6_allVotes_19 : decode cX6_allVotes 19 = .ok (.iload_n 3, 1) := by decide +kernel
theorem dX6_allVotes_20 : decode cX6_allVotes 20 = .ok (.iaload, 1) := by decide +kernel
theorem dX6_allVotes_21 : decode cX6_allVotes 21 = .ok (.ifCond .le 7, 3) := by decide +kernel
theorem dX6_allVotes_24 : decode cX6_allVotes 24 = .ok (.iconst 1, 1) := by decide +kernel
theorem dX6_allVotes_25 : decode cX6_allVotes 25 = .ok (.goto 13, 3) := by decide +kernel
theorem dX6_allVotes_28 : decode cX6_allVotes 28 = .ok (.iconst 0, 1) := by decide +kernel
theorem dX6_allVotes_29 : decode cX6_allVotes 29 = .ok (.goto 9, 3) := by decide +kernel
theorem dX6_allVotes_32 : decode cX6_allVotes 32 = .ok (.aload_n 0, 1) := by decide +kernel
theorem dX6_allVotes_33 : decode cX6_allVotes 33 = .ok (.getfield 29, 3) := by decide +kernel
theorem dX6_allVotes_36 : decode cX6_allVotes 36 = .ok (.iload_n 3, 1) := by decide +kernel
theorem dX6_allVotes_37 : decode cX6_allVotes 37 = .ok (.iaload, 1) := by decide +kernel
theorem dX6_allVotes_38 : decode cX6_allVotes 38 = .ok (.iadd, 1) := by decide +kernel
theorem dX6_allVotes_39 : decode cX6_allVotes 39 = .ok (.istore_n 2, 1) := by decide +kernel
theorem dX6_allVotes_40 : decode cX6_allVotes 40 = .ok (.iinc 3 1, 3) := by decide +kernel
theorem dX6_allVotes_43 : decode cX6_allVotes 43 = .ok (.goto (-39), 3) := by decide +kernel
theorem dX6_allVotes_46 : decode cX6_allVotes 46 = .ok (.iload_n 2, 1) := by decide +kernel
theorem dX6_allVotes_47 : decode cX6_allVotes 47 = .ok (.ireturn, 1) := by decide +kernel
set_option maxRecDepth 20000 in
theorem ggX6_told_X6_counts : GoodIn wsX6_told wsX6_counts := goodIn_r _ [9, 2, 10, 11, 12, 13, 8, 14, 15, 16, 17, 18, 19, 1, 20, 21, 22, 23, 24, 25, 26, 27, 28, 29, 30, 31, 32, 33, 34, 35, 36, 37, 38, 39, 40, 41, 42, 43, 44, 45, 46, 47, 48, 49, 50, 51, 80, 81, 82, 83, 84, 85, 86, 87, 88] (by decide +kernel) (by decide +kernel)
set_option maxRecDepth 20000 in
theorem gX6_told_X6_counts : GoodIn wsX6_told (wsV RX6 116 RX6 yX6_counts wsX6_counts) := goodIn_app (goodIn_of _ (by decide +kernel)) ggX6_told_X6_counts
set_option maxRecDepth 20000 in
theorem ggX6_told_X6_best : GoodIn wsX6_told wsX6_best := goodIn_r _ [55, 2, 10, 80, 81, 82, 83, 84, 85, 86, 87, 88] (by decide +kernel) (by decide +kernel)
set_option maxRecDepth 20000 in
theorem gX6_told_X6_best : GoodIn wsX6_told (wsV RX6 110 RX6 yX6_best wsX6_best) := goodIn_app (goodIn_of _ (by decide +kernel)) ggX6_told_X6_best
set_option maxRecDepth 20000 in
theorem ggX6_told_X6_ledger : GoodIn wsX6_told wsX6_ledger := goodIn_r _ [59, 60, 61, 62, 8, 63, 48, 49, 50, 51, 37, 38, 39, 40, 1, 15, 41, 42, 43, 44, 16, 17, 18, 19, 45, 46, 47, 80, 81, 82, 83, 84, 85, 86, 87, 88] (by decide +kernel) (by decide +kernel)
set_option maxRecDepth 20000 in
theorem gX6_told_X6_ledger : GoodIn wsX6_told (wsV RX6 119 RX6 yX6_ledger wsX6_ledger) := goodIn_app (goodIn_of _ (by decide +kernel)) ggX6_told_X6_ledger
set_option maxRecDepth 20000 in
theorem ggX6_told_X6_keysOf : GoodIn wsX6_told wsX6_keysOf := goodIn_r _ [67, 37, 38, 39, 8, 40, 1, 15, 41, 42, 43, 44, 16, 17, 18, 19, 45, 46, 47, 80, 81, 82, 83, 84, 85, 86, 87, 88] (by decide +kernel) (by decide +kernel)
set_option maxRecDepth 20000 in
theorem gX6_told_X6_keysOf : GoodIn wsX6_told (wsV RX6 123 RX6 yX6_keysOf wsX6_keysOf) := goodIn_app (goodIn_of _ (by decide +kernel)) ggX6_told_X6_keysOf
set_option maxRecDepth 20000 in
theorem ggX6_told_X6_known : GoodIn wsX6_told wsX6_known := goodIn_r _ [71, 37, 38, 39, 8, 40, 1, 15, 41, 42, 43, 44, 16, 17, 18, 19, 45, 46, 47, 60, 61, 62, 63, 48, 49, 50, 51, 80, 81, 82, 83, 84, 85, 86, 87, 88] (by decide +kernel) (by decide +kernel)
set_option maxRecDepth 20000 in
theorem gX6_told_X6_known : GoodIn wsX6_told (wsV RX6 126 RX6 yX6_known wsX6_known) := goodIn_app (goodIn_of _ (by decide +kernel)) ggX6_told_X6_known
set_option maxRecDepth 20000 in
theorem ggX6_told_X6_doubt : GoodIn wsX6_told wsX6_doubt := goodIn_r _ [75, 2, 52, 53, 54, 8, 55, 10, 80, 81, 82, 83, 84, 85, 86, 87, 88] (by decide +kernel) (by decide +kernel)
set_option maxRecDepth 20000 in
theorem gX6_told_X6_doubt : GoodIn wsX6_told (wsV RX6 130 RX6 yX6_doubt wsX6_doubt) := goodIn_app (goodIn_of _ (by decide +kernel)) ggX6_told_X6_doubt
set_option maxRecDepth 20000 in
theorem ggX6_told_X6_allVotes : GoodIn wsX6_told wsX6_allVotes := goodIn_r _ [79, 2, 80, 81, 82, 83, 84, 85, 86, 87, 88] (by decide +kernel) (by decide +kernel)
set_option maxRecDepth 20000 in
theorem gX6_told_X6_allVotes : GoodIn wsX6_told (wsV RX6 133 RX6 yX6_allVotes wsX6_allVotes) := goodIn_app (goodIn_of _ (by decide +kernel)) ggX6_told_X6_allVotes
theorem dX6_told_0 : decode cX6_told 0 = .ok (.aload_n 0, 1) := by decide +kernel
theorem dX6_told_1 : decode cX6_told 1 = .ok (.invokevirtual 116, 3) := by decide +kernel
theorem dX6_told_4 : decode cX6_told 4 = .ok (.aload_n 0, 1) := by decide +kernel
theorem dX6_told_5 : decode cX6_told 5 = .ok (.iconst (-1), 1) := by decide +kernel
theorem dX6_told_6 : decode cX6_told 6 = .ok (.invokevirtual 110, 3) := by decide +kernel
theorem dX6_told_9 : decode cX6_told 9 = .ok (.istore_n 2, 1) := by decide +kernel
theorem dX6_told_10 : decode cX6_told 10 = .ok (.iload_n 1, 1) := by decide +kernel
theorem dX6_told_11 : decode cX6_told 11 = .ok (.tableswitch 164 0 12 #[65, 65, 72, 78, 84, 90, 95, 109, 126, 142, 147, 153, 159], 65) := by decide +kernel
theorem dX6_told_76 : decode cX6_told 76 = .ok (.aload_n 0, 1) := by decide +kernel
theorem dX6_told_77 : decode cX6_told 77 = .ok (.getfield 7, 3) := by decide +kernel
theorem dX6_told_80 : decode cX6_told 80 = .ok (.iload_n 1, 1) := by decide +kernel
theorem dX6_told_81 : decode cX6_told 81 = .ok (.iaload, 1) := by decide +kernel
theorem dX6_told_82 : decode cX6_told 82 = .ok (.ireturn, 1) := by decide +kernel
theorem dX6_told_83 : decode cX6_told 83 = .ok (.aload_n 0, 1) := by decide +kernel
theorem dX6_told_84 : decode cX6_told 84 = .ok (.iconst 0, 1) := by decide +kernel
theorem dX6_told_85 : decode cX6_told 85 = .ok (.invokevirtual 119, 3) := by decide +kernel
theorem dX6_told_88 : decode cX6_told 88 = .ok (.ireturn, 1) := by decide +kernel
theorem dX6_told_89 : decode cX6_told 89 = .ok (.aload_n 0, 1) := by decide +kernel
theorem dX6_told_90 : decode cX6_told 90 = .ok (.iconst 1, 1) := by decide +kernel
theorem dX6_told_91 : decode cX6_told 91 = .ok (.invokevirtual 119, 3) := by decide +kernel
theorem dX6_told_94 : decode cX6_told 94 = .ok (.ireturn, 1) := by decide +kernel
theorem dX6_told_95 : decode cX6_told 95 = .ok (.aload_n 0, 1) := by decide +kernel
theorem dX6_told_96 : decode cX6_told 96 = .ok (.iconst 4, 1) := by decide +kernel
theorem dX6_told_97 : decode cX6_told 97 = .ok (.invokevirtual 123, 3) := by decide +kernel
theorem dX6_told_100 : decode cX6_told 100 = .ok (.ireturn, 1) := by decide +kernel
theorem dX6_told_101 : decode cX6_told 101 = .ok (.aload_n 0, 1) := by decide +kernel
theorem dX6_told_102 : decode cX6_told 102 = .ok (.invokevirtual 126, 3) := by decide +kernel
theorem dX6_told_105 : decode cX6_told 105 = .ok (.ireturn, 1) := by decide +kernel
theorem dX6_told_106 : decode cX6_told 106 = .ok (.iload_n 2, 1) := by decide +kernel
theorem dX6_told_107 : decode cX6_told 107 = .ok (.iconst (-1), 1) := by decide +kernel
theorem dX6_told_108 : decode cX6_told 108 = .ok (.if_icmp .ne 7, 3) := by decide +kernel
theorem dX6_told_111 : decode cX6_told 111 = .ok (.iconst (-1), 1) := by decide +kernel
theorem dX6_told_112 : decode cX6_told 112 = .ok (.goto 7, 3) := by decide +kernel
theorem dX6_told_115 : decode cX6_told 115 = .ok (.iload_n 2, 1) := by decide +kernel
theorem dX6_told_116 : decode cX6_told 116 = .ok (.bipush 31, 2) := by decide +kernel
theorem dX6_told_118 : decode cX6_told 118 = .ok (.idiv, 1) := by decide +kernel
theorem dX6_told_119 : decode cX6_told 119 = .ok (.ireturn, 1) := by decide +kernel
theorem dX6_told_120 : decode cX6_told 120 = .ok (.iload_n 2, 1) := by decide +kernel
theorem dX6_told_121 : decode cX6_told 121 = .ok (.iconst (-1), 1) := by decide +kernel
theorem dX6_told_122 : decode cX6_told 122 = .ok (.if_icmp .ne 7, 3) := by decide +kernel
theorem dX6_told_125 : decode cX6_told 125 = .ok (.iconst 0, 1) := by decide +kernel
theorem dX6_told_126 : decode cX6_told 126 = .ok (.goto 10, 3) := by decide +kernel
theorem dX6_told_129 : decode cX6_told 129 = .ok (.iload_n 2, 1) := by decide +kernel
theorem dX6_told_130 : decode cX6_told 130 = .ok (.bipush 31, 2) := by decide +kernel
theorem dX6_told_132 : decode cX6_told 132 = .ok (.irem, 1) := by decide +kernel
theorem dX6_told_133 : decode cX6_told 133 = .ok (.bipush 15, 2) := by decide +kernel
theorem dX6_told_135 : decode cX6_told 135 = .ok (.isub, 1) := by decide +kernel
theorem dX6_told_136 : decode cX6_told 136 = .ok (.ireturn, 1) := by decide +kernel
theorem dX6_told_137 : decode cX6_told 137 = .ok (.iload_n 2, 1) := by decide +kernel
theorem dX6_told_138 : decode cX6_told 138 = .ok (.iconst (-1), 1) := by decide +kernel
theorem dX6_told_139 : decode cX6_told 139 = .ok (.if_icmp .ne 7, 3) := by decide +kernel
theorem dX6_told_142 : decode cX6_told 142 = .ok (.iconst 0, 1) := by decide +kernel
theorem dX6_told_143 : decode cX6_told 143 = .ok (.goto 9, 3) := by decide +kernel
theorem dX6_told_146 : decode cX6_told 146 = .ok (.aload_n 0, 1) := by decide +kernel
theorem dX6_told_147 : decode cX6_told 147 = .ok (.getfield 29, 3) := by decide +kernel
theorem dX6_told_150 : decode cX6_told 150 = .ok (.iload_n 2, 1) := by decide +kernel
theorem dX6_told_151 : decode cX6_told 151 = .ok (.iaload, 1) := by decide +kernel
theorem dX6_told_152 : decode cX6_told 152 = .ok (.ireturn, 1) := by decide +kernel
theorem dX6_told_153 : decode cX6_told 153 = .ok (.aload_n 0, 1) := by decide +kernel
theorem dX6_told_154 : decode cX6_told 154 = .ok (.invokevirtual 130, 3) := by decide +kernel
theorem dX6_told_157 : decode cX6_told 157 = .ok (.ireturn, 1) := by decide +kernel
theorem dX6_told_158 : decode cX6_told 158 = .ok (.aload_n 0, 1) := by decide +kernel
theorem dX6_told_159 : decode cX6_told 159 = .ok (.iconst 1, 1) := by decide +kernel
theorem dX6_told_160 : decode cX6_told 160 = .ok (.invokevirtual 133, 3) := by decide +kernel
theorem dX6_told_163 : decode cX6_told 163 = .ok (.ireturn, 1) := by decide +kernel
theorem dX6_told_164 : decode cX6_told 164 = .ok (.aload_n 0, 1) := by decide +kernel
theorem dX6_told_165 : decode cX6_told 165 = .ok (.iconst 0, 1) := by decide +kernel
theorem dX6_told_166 : decode cX6_told 166 = .ok (.invokevirtual 133, 3) := by decide +kernel
theorem dX6_told_169 : decode cX6_told 169 = .ok (.ireturn, 1) := by decide +kernel
theorem dX6_told_170 : decode cX6_told 170 = .ok (.aload_n 0, 1) := by decide +kernel
theorem dX6_told_171 : decode cX6_told 171 = .ok (.getfield 43, 3) := by decide +kernel
theorem dX6_told_174 : decode cX6_told 174 = .ok (.ireturn, 1) := by decide +kernel
theorem dX6_told_175 : decode cX6_told 175 = .ok (.ldc 56, 2) := by decide +kernel
theorem dX6_told_177 : decode cX6_told 177 = .ok (.ireturn, 1) := by decide +kernel
set_option maxRecDepth 20000 in
theorem ggX6_mostOften_X6_windows : GoodIn wsX6_mostOften wsX6_windows := goodIn_r _ [6, 7, 8, 9, 10, 11, 12, 13, 14, 15, 16] (by decide +kernel) (by decide +kernel)
set_option maxRecDepth 20000 in
theorem gX6_mostOften_X6_windows : GoodIn wsX6_mostOften (wsV RX6 39 RX6 yX6_windows wsX6_windows) := goodIn_app (goodIn_of _ (by decide +kernel)) ggX6_mostOften_X6_windows
theorem dX6_mostOften_0 : decode cX6_mostOften 0 = .ok (.iconst (-1), 1) := by decide +kernel
theorem dX6_mostOften_1 : decode cX6_mostOften 1 = .ok (.istore_n 2, 1) := by decide +kernel
theorem dX6_mostOften_2 : decode cX6_mostOften 2 = .ok (.iconst 0, 1) := by decide +kernel
theorem dX6_mostOften_3 : decode cX6_mostOften 3 = .ok (.istore_n 3, 1) := by decide +kernel
theorem dX6_mostOften_4 : decode cX6_mostOften 4 = .ok (.iconst 1, 1) := by decide +kernel
theorem dX6_mostOften_5 : decode cX6_mostOften 5 = .ok (.istore 4, 2) := by decide +kernel
theorem dX6_mostOften_7 : decode cX6_mostOften 7 = .ok (.iload 4, 2) := by decide +kernel
theorem dX6_mostOften_9 : decode cX6_mostOften 9 = .ok (.bipush 8, 2) := by decide +kernel
theorem dX6_mostOften_11 : decode cX6_mostOften 11 = .ok (.if_icmp .ge 84, 3) := by decide +kernel
theorem dX6_mostOften_14 : decode cX6_mostOften 14 = .ok (.iconst 0, 1) := by decide +kernel
theorem dX6_mostOften_15 : decode cX6_mostOften 15 = .ok (.istore 5, 2) := by decide +kernel
theorem dX6_mostOften_17 : decode cX6_mostOften 17 = .ok (.iconst 0, 1) := by decide +kernel
theorem dX6_mostOften_18 : decode cX6_mostOften 18 = .ok (.istore 6, 2) := by decide +kernel
theorem dX6_mostOften_20 : decode cX6_mostOften 20 = .ok (.iload 6, 2) := by decide +kernel
theorem dX6_mostOften_22 : decode cX6_mostOften 22 = .ok (.aload_n 0, 1) := by decide +kernel
theorem dX6_mostOften_23 : decode cX6_mostOften 23 = .ok (.iload_n 1, 1) := by decide +kernel
theorem dX6_mostOften_24 : decode cX6_mostOften 24 = .ok (.invokevirtual 39, 3) := by decide +kernel
theorem dX6_mostOften_27 : decode cX6_mostOften 27 = .ok (.if_icmp .ge 36, 3) := by decide +kernel
theorem dX6_mostOften_30 : decode cX6_mostOften 30 = .ok (.iload 5, 2) := by decide +kernel
theorem dX6_mostOften_32 : decode cX6_mostOften 32 = .ok (.aload_n 0, 1) := by decide +kernel
theorem dX6_mostOften_33 : decode cX6_mostOften 33 = .ok (.getfield 26, 3) := by decide +kernel
theorem dX6_mostOften_36 : decode cX6_mostOften 36 = .ok (.bipush 16, 2) := by decide +kernel
theorem dX6_mostOften_38 : decode cX6_mostOften 38 = .ok (.iload_n 1, 1) := by decide +kernel
theorem dX6_mostOften_39 : decode cX6_mostOften 39 = .ok (.imul, 1) := by decide +kernel
theorem dX6_mostOften_40 : decode cX6_mostOften 40 = .ok (.iload 6, 2) := by decide +kernel
theorem dX6_mostOften_42 : decode cX6_mostOften 42 = .ok (.iadd, 1) := by decide +kernel
theorem dX6_mostOften_43 : decode cX6_mostOften 43 = .ok (.iaload, 1) := by decide +kernel
theorem dX6_mostOften_44 : decode cX6_mostOften 44 = .ok (.iload 4, 2) := by decide +kernel
theorem dX6_mostOften_46 : decode cX6_mostOften 46 = .ok (.if_icmp .ne 7, 3) := by decide +kernel
theorem dX6_mostOften_49 : decode cX6_mostOften 49 = .ok (.iconst 1, 1) := by decide +kernel
theorem dX6_mostOften_50 : decode cX6_mostOften 50 = .ok (.goto 4, 3) := by decide +kernel
theorem dX6_mostOften_53 : decode cX6_mostOften 53 = .ok (.iconst 0, 1) := by decide +kernel
theorem dX6_mostOften_54 : decode cX6_mostOften 54 = .ok (.iadd, 1) := by decide +kernel
theorem dX6_mostOften_55 : decode cX6_mostOften 55 = .ok (.istore 5, 2) := by decide +kernel
theorem dX6_mostOften_57 : decode cX6_mostOften 57 = .ok (.iinc 6 1, 3) := by decide +kernel
theorem dX6_mostOften_60 : decode cX6_mostOften 60 = .ok (.goto (-40), 3) := by decide +kernel
theorem dX6_mostOften_63 : decode cX6_mostOften 63 = .ok (.iload 5, 2) := by decide +kernel
theorem dX6_mostOften_65 : decode cX6_mostOften 65 = .ok (.iload_n 3, 1) := by decide +kernel
theorem dX6_mostOften_66 : decode cX6_mostOften 66 = .ok (.if_icmp .le 8, 3) := by decide +kernel
theorem dX6_mostOften_69 : decode cX6_mostOften 69 = .ok (.iload 4, 2) := by decide +kernel
theorem dX6_mostOften_71 : decode cX6_mostOften 71 = .ok (.goto 4, 3) := by decide +kernel
theorem dX6_mostOften_74 : decode cX6_mostOften 74 = .ok (.iload_n 2, 1) := by decide +kernel
theorem dX6_mostOften_75 : decode cX6_mostOften 75 = .ok (.istore_n 2, 1) := by decide +kernel
theorem dX6_mostOften_76 : decode cX6_mostOften 76 = .ok (.iload 5, 2) := by decide +kernel
theorem dX6_mostOften_78 : decode cX6_mostOften 78 = .ok (.iload_n 3, 1) := by decide +kernel
theorem dX6_mostOften_79 : decode cX6_mostOften 79 = .ok (.if_icmp .le 8, 3) := by decide +kernel
theorem dX6_mostOften_82 : decode cX6_mostOften 82 = .ok (.iload 5, 2) := by decide +kernel
theorem dX6_mostOften_84 : decode cX6_mostOften 84 = .ok (.goto 4, 3) := by decide +kernel
theorem dX6_mostOften_87 : decode cX6_mostOften 87 = .ok (.iload_n 3, 1) := by decide +kernel
theorem dX6_mostOften_88 : decode cX6_mostOften 88 = .ok (.istore_n 3, 1) := by decide +kernel
theorem dX6_mostOften_89 : decode cX6_mostOften 89 = .ok (.iinc 4 1, 3) := by decide +kernel
theorem dX6_mostOften_92 : decode cX6_mostOften 92 = .ok (.goto (-85), 3) := by decide +kernel
theorem dX6_mostOften_95 : decode cX6_mostOften 95 = .ok (.iload_n 2, 1) := by decide +kernel
theorem dX6_mostOften_96 : decode cX6_mostOften 96 = .ok (.ireturn, 1) := by decide +kernel
set_option maxRecDepth 20000 in
theorem ggX6_row_X6_isRow : GoodIn wsX6_row wsX6_isRow := goodIn_r _ [8, 9, 10, 7, 11] (by decide +kernel) (by decide +kernel)
set_option maxRecDepth 20000 in
theorem gX6_row_X6_isRow : GoodIn wsX6_row (va_wsS RX6 51 yX6_isRow wsX6_isRow) := goodIn_app (goodIn_of _ (by decide +kernel)) ggX6_row_X6_isRow
set_option maxRecDepth 20000 in
theorem ggX6_row_X6_findsPeaks : GoodIn wsX6_row wsX6_findsPeaks := goodIn_r _ [15, 3, 16, 17, 18, 7, 19, 2, 20, 21, 22, 23, 24, 25, 26, 27, 28, 29, 30, 31, 32, 33, 34, 35, 36, 53, 54, 55, 56, 57, 58, 59, 60, 61] (by decide +kernel) (by decide +kernel)
set_option maxRecDepth 20000 in
theorem gX6_row_X6_findsPeaks : GoodIn wsX6_row (wsV RX6 107 RX6 yX6_findsPeaks wsX6_findsPeaks) := goodIn_app (goodIn_of _ (by decide +kernel)) ggX6_row_X6_findsPeaks
set_option maxRecDepth 20000 in
theorem ggX6_row_X6_windows : GoodIn wsX6_row wsX6_windows := goodIn_r _ [19, 2, 53, 54, 55, 56, 57, 58, 59, 60, 61] (by decide +kernel) (by decide +kernel)
set_option maxRecDepth 20000 in
theorem gX6_row_X6_windows : GoodIn wsX6_row (wsV RX6 39 RX6 yX6_windows wsX6_windows) := goodIn_app (goodIn_of _ (by decide +kernel)) ggX6_row_X6_windows
set_option maxRecDepth 20000 in
theorem ggX6_row_X6_keysOf : GoodIn wsX6_row wsX6_keysOf := goodIn_r _ [40, 41, 42, 43, 7, 44, 2, 3, 45, 46, 47, 48, 16, 17, 18, 19, 9, 10, 11, 53, 54, 55, 56, 57, 58, 59, 60, 61] (by decide +kernel) (by decide +kernel)
set_option maxRecDepth 20000 in
theorem gX6_row_X6_keysOf : GoodIn wsX6_row (wsV RX6 123 RX6 yX6_keysOf wsX6_keysOf) := goodIn_app (goodIn_of _ (by decide +kernel)) ggX6_row_X6_keysOf
set_option maxRecDepth 20000 in
theorem ggX6_row_X6_turns : GoodIn wsX6_row wsX6_turns := goodIn_r _ [27, 28, 29, 30, 31, 7, 32, 2, 53, 54, 55, 56, 57, 58, 59, 60, 61] (by decide +kernel) (by decide +kernel)
set_option maxRecDepth 20000 in
theorem gX6_row_X6_turns : GoodIn wsX6_row (wsV RX6 87 RX6 yX6_turns wsX6_turns) := goodIn_app (goodIn_of _ (by decide +kernel)) ggX6_row_X6_turns
set_option maxRecDepth 20000 in
theorem ggX6_row_X6_shareOf : GoodIn wsX6_row wsX6_shareOf := goodIn_r _ [36, 28, 53, 54, 55, 56, 57, 58, 59, 60, 61] (by decide +kernel) (by decide +kernel)
set_option maxRecDepth 20000 in
theorem gX6_row_X6_shareOf : GoodIn wsX6_row (wsV RX6 91 RX6 yX6_shareOf wsX6_shareOf) := goodIn_app (goodIn_of _ (by decide +kernel)) ggX6_row_X6_shareOf
set_option maxRecDepth 20000 in
theorem ggX6_row_X6_mostOften : GoodIn wsX6_row wsX6_mostOften := goodIn_r _ [52, 3, 16, 17, 18, 7, 19, 2, 53, 54, 55, 56, 57, 58, 59, 60, 61] (by decide +kernel) (by decide +kernel)
set_option maxRecDepth 20000 in
theorem gX6_row_X6_mostOften : GoodIn wsX6_row (wsV RX6 136 RX6 yX6_mostOften wsX6_mostOften) := goodIn_app (goodIn_of _ (by decide +kernel)) ggX6_row_X6_mostOften
theorem dX6_row_0 : decode cX6_row 0 = .ok (.iload_n 1, 1) := by decide +kernel
theorem dX6_row_1 : decode cX6_row 1 = .ok (.invokestatic 51, 3) := by decide +kernel
theorem dX6_row_4 : decode cX6_row 4 = .ok (.ifCond .ne 6, 3) := by decide +kernel
theorem dX6_row_7 : decode cX6_row 7 = .ok (.ldc 55, 2) := by decide +kernel
theorem dX6_row_9 : decode cX6_row 9 = .ok (.ireturn, 1) := by decide +kernel
theorem dX6_row_10 : decode cX6_row 10 = .ok (.aload_n 0, 1) := by decide +kernel
theorem dX6_row_11 : decode cX6_row 11 = .ok (.invokevirtual 107, 3) := by decide +kernel
theorem dX6_row_14 : decode cX6_row 14 = .ok (.iconst 0, 1) := by decide +kernel
theorem dX6_row_15 : decode cX6_row 15 = .ok (.istore_n 3, 1) := by decide +kernel
theorem dX6_row_16 : decode cX6_row 16 = .ok (.iload_n 2, 1) := by decide +kernel
theorem dX6_row_17 : decode cX6_row 17 = .ok (.tableswitch 164 0 5 #[39, 48, 54, 99, 105, 158], 39) := by decide +kernel
theorem dX6_row_56 : decode cX6_row 56 = .ok (.aload_n 0, 1) := by decide +kernel
theorem dX6_row_57 : decode cX6_row 57 = .ok (.getfield 7, 3) := by decide +kernel
theorem dX6_row_60 : decode cX6_row 60 = .ok (.iconst 2, 1) := by decide +kernel
theorem dX6_row_61 : decode cX6_row 61 = .ok (.iload_n 1, 1) := by decide +kernel
theorem dX6_row_62 : decode cX6_row 62 = .ok (.iadd, 1) := by decide +kernel
theorem dX6_row_63 : decode cX6_row 63 = .ok (.iaload, 1) := by decide +kernel
theorem dX6_row_64 : decode cX6_row 64 = .ok (.ireturn, 1) := by decide +kernel
theorem dX6_row_65 : decode cX6_row 65 = .ok (.aload_n 0, 1) := by decide +kernel
theorem dX6_row_66 : decode cX6_row 66 = .ok (.iload_n 1, 1) := by decide +kernel
theorem dX6_row_67 : decode cX6_row 67 = .ok (.invokevirtual 39, 3) := by decide +kernel
theorem dX6_row_70 : decode cX6_row 70 = .ok (.ireturn, 1) := by decide +kernel
theorem dX6_row_71 : decode cX6_row 71 = .ok (.iconst 0, 1) := by decide +kernel
theorem dX6_row_72 : decode cX6_row 72 = .ok (.istore 4, 2) := by decide +kernel
theorem dX6_row_74 : decode cX6_row 74 = .ok (.iload 4, 2) := by decide +kernel
theorem dX6_row_76 : decode cX6_row 76 = .ok (.aload_n 0, 1) := by decide +kernel
theorem dX6_row_77 : decode cX6_row 77 = .ok (.iload_n 1, 1) := by decide +kernel
theorem dX6_row_78 : decode cX6_row 78 = .ok (.invokevirtual 39, 3) := by decide +kernel
theorem dX6_row_81 : decode cX6_row 81 = .ok (.if_icmp .ge 33, 3) := by decide +kernel
theorem dX6_row_84 : decode cX6_row 84 = .ok (.iload_n 3, 1) := by decide +kernel
theorem dX6_row_85 : decode cX6_row 85 = .ok (.aload_n 0, 1) := by decide +kernel
theorem dX6_row_86 : decode cX6_row 86 = .ok (.getfield 26, 3) := by decide +kernel
theorem dX6_row_89 : decode cX6_row 89 = .ok (.bipush 16, 2) := by decide +kernel
theorem dX6_row_91 : decode cX6_row 91 = .ok (.iload_n 1, 1) := by decide +kernel
theorem dX6_row_92 : decode cX6_row 92 = .ok (.imul, 1) := by decide +kernel
theorem dX6_row_93 : decode cX6_row 93 = .ok (.iload 4, 2) := by decide +kernel
theorem dX6_row_95 : decode cX6_row 95 = .ok (.iadd, 1) := by decide +kernel
theorem dX6_row_96 : decode cX6_row 96 = .ok (.iaload, 1) := by decide +kernel
theorem dX6_row_97 : decode cX6_row 97 = .ok (.iconst (-1), 1) := by decide +kernel
theorem dX6_row_98 : decode cX6_row 98 = .ok (.if_icmp .ne 7, 3) := by decide +kernel
theorem dX6_row_101 : decode cX6_row 101 = .ok (.iconst 0, 1) := by decide +kernel
theorem dX6_row_102 : decode cX6_row 102 = .ok (.goto 4, 3) := by decide +kernel
theorem dX6_row_105 : decode cX6_row 105 = .ok (.iconst 1, 1) := by decide +kernel
theorem dX6_row_106 : decode cX6_row 106 = .ok (.iadd, 1) := by decide +kernel
theorem dX6_row_107 : decode cX6_row 107 = .ok (.istore_n 3, 1) := by decide +kernel
theorem dX6_row_108 : decode cX6_row 108 = .ok (.iinc 4 1, 3) := by decide +kernel
theorem dX6_row_111 : decode cX6_row 111 = .ok (.goto (-37), 3) := by decide +kernel
theorem dX6_row_114 : decode cX6_row 114 = .ok (.iload_n 3, 1) := by decide +kernel
theorem dX6_row_115 : decode cX6_row 115 = .ok (.ireturn, 1) := by decide +kernel
theorem dX6_row_116 : decode cX6_row 116 = .ok (.aload_n 0, 1) := by decide +kernel
theorem dX6_row_117 : decode cX6_row 117 = .ok (.iload_n 1, 1) := by decide +kernel
theorem dX6_row_118 : decode cX6_row 118 = .ok (.invokevirtual 123, 3) := by decide +kernel
theorem dX6_row_121 : decode cX6_row 121 = .ok (.ireturn, 1) := by decide +kernel
theorem dX6_row_122 : decode cX6_row 122 = .ok (.iconst 0, 1) := by decide +kernel
theorem dX6_row_123 : decode cX6_row 123 = .ok (.istore 4, 2) := by decide +kernel
theorem dX6_row_125 : decode cX6_row 125 = .ok (.iload 4, 2) := by decide +kernel
theorem dX6_row_127 : decode cX6_row 127 = .ok (.aload_n 0, 1) := by decide +kernel
theorem dX6_row_128 : decode cX6_row 128 = .ok (.iload_n 1, 1) := by decide +kernel
theorem dX6_row_129 : decode cX6_row 129 = .ok (.invokevirtual 39, 3) := by decide +kernel
theorem dX6_row_132 : decode cX6_row 132 = .ok (.if_icmp .ge 41, 3) := by decide +kernel
theorem dX6_row_135 : decode cX6_row 135 = .ok (.aload_n 0, 1) := by decide +kernel
theorem dX6_row_136 : decode cX6_row 136 = .ok (.iload_n 1, 1) := by decide +kernel
theorem dX6_row_137 : decode cX6_row 137 = .ok (.iload 4, 2) := by decide +kernel
theorem dX6_row_139 : decode cX6_row 139 = .ok (.invokevirtual 87, 3) := by decide +kernel
theorem dX6_row_142 : decode cX6_row 142 = .ok (.iconst 0, 1) := by decide +kernel
theorem dX6_row_143 : decode cX6_row 143 = .ok (.istore 5, 2) := by decide +kernel
theorem dX6_row_145 : decode cX6_row 145 = .ok (.iload 5, 2) := by decide +kernel
theorem dX6_row_147 : decode cX6_row 147 = .ok (.bipush 8, 2) := by decide +kernel
theorem dX6_row_149 : decode cX6_row 149 = .ok (.if_icmp .ge 18, 3) := by decide +kernel
theorem dX6_row_152 : decode cX6_row 152 = .ok (.iload_n 3, 1) := by decide +kernel
theorem dX6_row_153 : decode cX6_row 153 = .ok (.aload_n 0, 1) := by decide +kernel
theorem dX6_row_154 : decode cX6_row 154 = .ok (.iload 5, 2) := by decide +kernel
theorem dX6_row_156 : decode cX6_row 156 = .ok (.invokevirtual 91, 3) := by decide +kernel
theorem dX6_row_159 : decode cX6_row 159 = .ok (.iadd, 1) := by decide +kernel
theorem dX6_row_160 : decode cX6_row 160 = .ok (.istore_n 3, 1) := by decide +kernel
theorem dX6_row_161 : decode cX6_row 161 = .ok (.iinc 5 1, 3) := by decide +kernel
theorem dX6_row_164 : decode cX6_row 164 = .ok (.goto (-19), 3) := by decide +kernel
theorem dX6_row_167 : decode cX6_row 167 = .ok (.iinc 4 1, 3) := by decide +kernel
theorem dX6_row_170 : decode cX6_row 170 = .ok (.goto (-45), 3) := by decide +kernel
theorem dX6_row_173 : decode cX6_row 173 = .ok (.iload_n 3, 1) := by decide +kernel
theorem dX6_row_174 : decode cX6_row 174 = .ok (.ireturn, 1) := by decide +kernel
theorem dX6_row_175 : decode cX6_row 175 = .ok (.aload_n 0, 1) := by decide +kernel
theorem dX6_row_176 : decode cX6_row 176 = .ok (.iload_n 1, 1) := by decide +kernel
theorem dX6_row_177 : decode cX6_row 177 = .ok (.invokevirtual 136, 3) := by decide +kernel
theorem dX6_row_180 : decode cX6_row 180 = .ok (.ireturn, 1) := by decide +kernel
theorem dX6_row_181 : decode cX6_row 181 = .ok (.ldc 56, 2) := by decide +kernel
theorem dX6_row_183 : decode cX6_row 183 = .ok (.ireturn, 1) := by decide +kernel
set_option maxRecDepth 20000 in
theorem ggX6_at_X6_isRow : GoodIn wsX6_at wsX6_isRow := goodIn_r _ [7, 8, 9, 6, 10] (by decide +kernel) (by decide +kernel)
set_option maxRecDepth 20000 in
theorem gX6_at_X6_isRow : GoodIn wsX6_at (va_wsS RX6 51 yX6_isRow wsX6_isRow) := goodIn_app (goodIn_of _ (by decide +kernel)) ggX6_at_X6_isRow
set_option maxRecDepth 20000 in
theorem ggX6_at_X6_in : GoodIn wsX6_at wsX6_in := goodIn_r _ [10] (by decide +kernel) (by decide +kernel)
set_option maxRecDepth 20000 in
theorem gX6_at_X6_in : GoodIn wsX6_at (va_wsS RX6 35 yX6_in wsX6_in) := goodIn_app (goodIn_of _ (by decide +kernel)) ggX6_at_X6_in
set_option maxRecDepth 20000 in
theorem ggX6_at_X6_of : GoodIn wsX6_at wsX6_of := goodIn_r _ [14, 2, 15, 16, 17, 18, 19, 20, 21, 22, 23] (by decide +kernel) (by decide +kernel)
set_option maxRecDepth 20000 in
theorem gX6_at_X6_of : GoodIn wsX6_at (wsV RX6 72 RX6 yX6_of wsX6_of) := goodIn_app (goodIn_of _ (by decide +kernel)) ggX6_at_X6_of
theorem dX6_at_0 : decode cX6_at 0 = .ok (.iload_n 1, 1) := by decide +kernel
theorem dX6_at_1 : decode cX6_at 1 = .ok (.invokestatic 51, 3) := by decide +kernel
theorem dX6_at_4 : decode cX6_at 4 = .ok (.ifCond .ne 8, 3) := by decide +kernel
theorem dX6_at_7 : decode cX6_at 7 = .ok (.ldc 55, 2) := by decide +kernel
theorem dX6_at_9 : decode cX6_at 9 = .ok (.goto 32, 3) := by decide +kernel
theorem dX6_at_12 : decode cX6_at 12 = .ok (.iload_n 2, 1) := by decide +kernel
theorem dX6_at_13 : decode cX6_at 13 = .ok (.iconst 0, 1) := by decide +kernel
theorem dX6_at_14 : decode cX6_at 14 = .ok (.aload_n 0, 1) := by decide +kernel
theorem dX6_at_15 : decode cX6_at 15 = .ok (.getfield 7, 3) := by decide +kernel
theorem dX6_at_18 : decode cX6_at 18 = .ok (.iconst 2, 1) := by decide +kernel
theorem dX6_at_19 : decode cX6_at 19 = .ok (.iload_n 1, 1) := by decide +kernel
theorem dX6_at_20 : decode cX6_at 20 = .ok (.iadd, 1) := by decide +kernel
theorem dX6_at_21 : decode cX6_at 21 = .ok (.iaload, 1) := by decide +kernel
theorem dX6_at_22 : decode cX6_at 22 = .ok (.iconst 1, 1) := by decide +kernel
theorem dX6_at_23 : decode cX6_at 23 = .ok (.isub, 1) := by decide +kernel
theorem dX6_at_24 : decode cX6_at 24 = .ok (.invokestatic 35, 3) := by decide +kernel
theorem dX6_at_27 : decode cX6_at 27 = .ok (.ifCond .eq 12, 3) := by decide +kernel
theorem dX6_at_30 : decode cX6_at 30 = .ok (.aload_n 0, 1) := by decide +kernel
theorem dX6_at_31 : decode cX6_at 31 = .ok (.iload_n 1, 1) := by decide +kernel
theorem dX6_at_32 : decode cX6_at 32 = .ok (.iload_n 2, 1) := by decide +kernel
theorem dX6_at_33 : decode cX6_at 33 = .ok (.invokevirtual 72, 3) := by decide +kernel
theorem dX6_at_36 : decode cX6_at 36 = .ok (.goto 5, 3) := by decide +kernel
theorem dX6_at_39 : decode cX6_at 39 = .ok (.ldc 56, 2) := by decide +kernel
theorem dX6_at_41 : decode cX6_at 41 = .ok (.ireturn, 1) := by decide +kernel
set_option maxRecDepth 20000 in
theorem ggX6_share_X6_isRow : GoodIn wsX6_share wsX6_isRow := goodIn_r _ [6, 7, 8, 5, 9] (by decide +kernel) (by decide +kernel)
set_option maxRecDepth 20000 in
theorem gX6_share_X6_isRow : GoodIn wsX6_share (va_wsS RX6 51 yX6_isRow wsX6_isRow) := goodIn_app (goodIn_of _ (by decide +kernel)) ggX6_share_X6_isRow
set_option maxRecDepth 20000 in
theorem ggX6_share_X6_isWindow : GoodIn wsX6_share wsX6_isWindow := goodIn_r _ [13, 14, 15, 16, 5, 17, 18, 7, 8, 9, 32, 33, 34, 35, 36, 37, 38, 39, 40] (by decide +kernel) (by decide +kernel)
set_option maxRecDepth 20000 in
theorem gX6_share_X6_isWindow : GoodIn wsX6_share (wsV RX6 97 RX6 yX6_isWindow wsX6_isWindow) := goodIn_app (goodIn_of _ (by decide +kernel)) ggX6_share_X6_isWindow
set_option maxRecDepth 20000 in
theorem ggX6_share_X6_in : GoodIn wsX6_share wsX6_in := goodIn_r _ [9] (by decide +kernel) (by decide +kernel)
set_option maxRecDepth 20000 in
theorem gX6_share_X6_in : GoodIn wsX6_share (va_wsS RX6 35 yX6_in wsX6_in) := goodIn_app (goodIn_of _ (by decide +kernel)) ggX6_share_X6_in
set_option maxRecDepth 20000 in
theorem ggX6_share_X6_turns : GoodIn wsX6_share wsX6_turns := goodIn_r _ [22, 23, 24, 25, 26, 5, 27, 18, 32, 33, 34, 35, 36, 37, 38, 39, 40] (by decide +kernel) (by decide +kernel)
set_option maxRecDepth 20000 in
theorem gX6_share_X6_turns : GoodIn wsX6_share (wsV RX6 87 RX6 yX6_turns wsX6_turns) := goodIn_app (goodIn_of _ (by decide +kernel)) ggX6_share_X6_turns
set_option maxRecDepth 20000 in
theorem ggX6_share_X6_shareOf : GoodIn wsX6_share wsX6_shareOf := goodIn_r _ [31, 23, 32, 33, 34, 35, 36, 37, 38, 39, 40] (by decide +kernel) (by decide +kernel)
set_option maxRecDepth 20000 in
theorem gX6_share_X6_shareOf : GoodIn wsX6_share (wsV RX6 91 RX6 yX6_shareOf wsX6_shareOf) := goodIn_app (goodIn_of _ (by decide +kernel)) ggX6_share_X6_shareOf
theorem dX6_share_0 : decode cX6_share 0 = .ok (.iload_n 1, 1) := by decide +kernel
theorem dX6_share_1 : decode cX6_share 1 = .ok (.invokestatic 51, 3) := by decide +kernel
theorem dX6_share_4 : decode cX6_share 4 = .ok (.ifCond .eq 12, 3) := by decide +kernel
theorem dX6_share_7 : decode cX6_share 7 = .ok (.aload_n 0, 1) := by decide +kernel
theorem dX6_share_8 : decode cX6_share 8 = .ok (.iload_n 1, 1) := by decide +kernel
theorem dX6_share_9 : decode cX6_share 9 = .ok (.iload_n 2, 1) := by decide +kernel
theorem dX6_share_10 : decode cX6_share 10 = .ok (.invokevirtual 97, 3) := by decide +kernel
theorem dX6_share_13 : decode cX6_share 13 = .ok (.ifCond .ne 6, 3) := by decide +kernel
theorem dX6_share_16 : decode cX6_share 16 = .ok (.ldc 55, 2) := by decide +kernel
theorem dX6_share_18 : decode cX6_share 18 = .ok (.ireturn, 1) := by decide +kernel
theorem dX6_share_19 : decode cX6_share 19 = .ok (.iload_n 3, 1) := by decide +kernel
theorem dX6_share_20 : decode cX6_share 20 = .ok (.iconst 0, 1) := by decide +kernel
theorem dX6_share_21 : decode cX6_share 21 = .ok (.bipush 7, 2) := by decide +kernel
theorem dX6_share_23 : decode cX6_share 23 = .ok (.invokestatic 35, 3) := by decide +kernel
theorem dX6_share_26 : decode cX6_share 26 = .ok (.ifCond .ne 6, 3) := by decide +kernel
theorem dX6_share_29 : decode cX6_share 29 = .ok (.ldc 56, 2) := by decide +kernel
theorem dX6_share_31 : decode cX6_share 31 = .ok (.ireturn, 1) := by decide +kernel
theorem dX6_share_32 : decode cX6_share 32 = .ok (.aload_n 0, 1) := by decide +kernel
theorem dX6_share_33 : decode cX6_share 33 = .ok (.iload_n 1, 1) := by decide +kernel
theorem dX6_share_34 : decode cX6_share 34 = .ok (.iload_n 2, 1) := by decide +kernel
theorem dX6_share_35 : decode cX6_share 35 = .ok (.invokevirtual 87, 3) := by decide +kernel
theorem dX6_share_38 : decode cX6_share 38 = .ok (.aload_n 0, 1) := by decide +kernel
theorem dX6_share_39 : decode cX6_share 39 = .ok (.iload_n 3, 1) := by decide +kernel
theorem dX6_share_40 : decode cX6_share 40 = .ok (.invokevirtual 91, 3) := by decide +kernel
theorem dX6_share_43 : decode cX6_share 43 = .ok (.ireturn, 1) := by decide +kernel
set_option maxRecDepth 20000 in
theorem ggX6_peak_X6_isRow : GoodIn wsX6_peak wsX6_isRow := goodIn_r _ [5, 6, 7, 4, 8] (by decide +kernel) (by decide +kernel)
set_option maxRecDepth 20000 in
theorem gX6_peak_X6_isRow : GoodIn wsX6_peak (va_wsS RX6 51 yX6_isRow wsX6_isRow) := goodIn_app (goodIn_of _ (by decide +kernel)) ggX6_peak_X6_isRow
set_option maxRecDepth 20000 in
theorem ggX6_peak_X6_isWindow : GoodIn wsX6_peak wsX6_isWindow := goodIn_r _ [12, 13, 14, 15, 4, 16, 17, 6, 7, 8, 35, 36, 37, 38, 39, 40, 41, 42, 43] (by decide +kernel) (by decide +kernel)
set_option maxRecDepth 20000 in
theorem gX6_peak_X6_isWindow : GoodIn wsX6_peak (wsV RX6 97 RX6 yX6_isWindow wsX6_isWindow) := goodIn_app (goodIn_of _ (by decide +kernel)) ggX6_peak_X6_isWindow
set_option maxRecDepth 20000 in
theorem ggX6_peak_X6_peakOf : GoodIn wsX6_peak wsX6_peakOf := goodIn_r _ [21, 17, 22, 23, 24, 4, 25, 26, 27, 28, 29, 30, 31, 32, 33, 34, 35, 36, 37, 38, 39, 40, 41, 42, 43] (by decide +kernel) (by decide +kernel)
set_option maxRecDepth 20000 in
theorem gX6_peak_X6_peakOf : GoodIn wsX6_peak (wsV RX6 94 RX6 yX6_peakOf wsX6_peakOf) := goodIn_app (goodIn_of _ (by decide +kernel)) ggX6_peak_X6_peakOf
theorem dX6_peak_0 : decode cX6_peak 0 = .ok (.iload_n 1, 1) := by decide +kernel
theorem dX6_peak_1 : decode cX6_peak 1 = .ok (.invokestatic 51, 3) := by decide +kernel
theorem dX6_peak_4 : decode cX6_peak 4 = .ok (.ifCond .eq 21, 3) := by decide +kernel
theorem dX6_peak_7 : decode cX6_peak 7 = .ok (.aload_n 0, 1) := by decide +kernel
theorem dX6_peak_8 : decode cX6_peak 8 = .ok (.iload_n 1, 1) := by decide +kernel
theorem dX6_peak_9 : decode cX6_peak 9 = .ok (.iload_n 2, 1) := by decide +kernel
theorem dX6_peak_10 : decode cX6_peak 10 = .ok (.invokevirtual 97, 3) := by decide +kernel
theorem dX6_peak_13 : decode cX6_peak 13 = .ok (.ifCond .eq 12, 3) := by decide +kernel
theorem dX6_peak_16 : decode cX6_peak 16 = .ok (.aload_n 0, 1) := by decide +kernel
theorem dX6_peak_17 : decode cX6_peak 17 = .ok (.iload_n 1, 1) := by decide +kernel
theorem dX6_peak_18 : decode cX6_peak 18 = .ok (.iload_n 2, 1) := by decide +kernel
theorem dX6_peak_19 : decode cX6_peak 19 = .ok (.invokevirtual 94, 3) := by decide +kernel
theorem dX6_peak_22 : decode cX6_peak 22 = .ok (.goto 5, 3) := by decide +kernel
theorem dX6_peak_25 : decode cX6_peak 25 = .ok (.ldc 55, 2) := by decide +kernel
theorem dX6_peak_27 : decode cX6_peak 27 = .ok (.ireturn, 1) := by decide +kernel
set_option maxRecDepth 20000 in
theorem ggX6_key_X6_isRow : GoodIn wsX6_key wsX6_isRow := goodIn_r _ [5, 6, 7, 4, 8] (by decide +kernel) (by decide +kernel)
set_option maxRecDepth 20000 in
theorem gX6_key_X6_isRow : GoodIn wsX6_key (va_wsS RX6 51 yX6_isRow wsX6_isRow) := goodIn_app (goodIn_of _ (by decide +kernel)) ggX6_key_X6_isRow
set_option maxRecDepth 20000 in
theorem ggX6_key_X6_isWindow : GoodIn wsX6_key wsX6_isWindow := goodIn_r _ [12, 13, 14, 15, 4, 16, 17, 6, 7, 8, 44, 45, 46, 47, 48, 49, 50, 51, 52] (by decide +kernel) (by decide +kernel)
set_option maxRecDepth 20000 in
theorem gX6_key_X6_isWindow : GoodIn wsX6_key (wsV RX6 97 RX6 yX6_isWindow wsX6_isWindow) := goodIn_app (goodIn_of _ (by decide +kernel)) ggX6_key_X6_isWindow
set_option maxRecDepth 20000 in
theorem ggX6_key_X6_findsPeaks : GoodIn wsX6_key wsX6_findsPeaks := goodIn_r _ [21, 22, 13, 14, 15, 4, 16, 17, 23, 24, 25, 26, 27, 28, 29, 30, 31, 32, 33, 34, 35, 36, 37, 38, 39, 44, 45, 46, 47, 48, 49, 50, 51, 52] (by decide +kernel) (by decide +kernel)
set_option maxRecDepth 20000 in
theorem gX6_key_X6_findsPeaks : GoodIn wsX6_key (wsV RX6 107 RX6 yX6_findsPeaks wsX6_findsPeaks) := goodIn_app (goodIn_of _ (by decide +kernel)) ggX6_key_X6_findsPeaks
set_option maxRecDepth 20000 in
theorem ggX6_key_X6_keyOf : GoodIn wsX6_key wsX6_keyOf := goodIn_r _ [43, 17, 22, 9, 10, 11, 4, 12, 13, 14, 15, 16, 6, 7, 8, 44, 45, 46, 47, 48, 49, 50, 51, 52] (by decide +kernel) (by decide +kernel)
set_option maxRecDepth 20000 in
theorem gX6_key_X6_keyOf : GoodIn wsX6_key (wsV RX6 101 RX6 yX6_keyOf wsX6_keyOf) := goodIn_app (goodIn_of _ (by decide +kernel)) ggX6_key_X6_keyOf
theorem dX6_key_0 : decode cX6_key 0 = .ok (.iload_n 1, 1) := by decide +kernel
theorem dX6_key_1 : decode cX6_key 1 = .ok (.invokestatic 51, 3) := by decide +kernel
theorem dX6_key_4 : decode cX6_key 4 = .ok (.ifCond .eq 21, 3) := by decide +kernel
theorem dX6_key_7 : decode cX6_key 7 = .ok (.aload_n 0, 1) := by decide +kernel
theorem dX6_key_8 : decode cX6_key 8 = .ok (.iload_n 1, 1) := by decide +kernel
theorem dX6_key_9 : decode cX6_key 9 = .ok (.iload_n 2, 1) := by decide +kernel
theorem dX6_key_10 : decode cX6_key 10 = .ok (.invokevirtual 97, 3) := by decide +kernel
theorem dX6_key_13 : decode cX6_key 13 = .ok (.ifCond .eq 12, 3) := by decide +kernel
theorem dX6_key_16 : decode cX6_key 16 = .ok (.aload_n 0, 1) := by decide +kernel
theorem dX6_key_17 : decode cX6_key 17 = .ok (.iload_n 1, 1) := by decide +kernel
theorem dX6_key_18 : decode cX6_key 18 = .ok (.iload_n 3, 1) := by decide +kernel
theorem dX6_key_19 : decode cX6_key 19 = .ok (.invokevirtual 97, 3) := by decide +kernel
theorem dX6_key_22 : decode cX6_key 22 = .ok (.ifCond .ne 6, 3) := by decide +kernel
theorem dX6_key_25 : decode cX6_key 25 = .ok (.ldc 55, 2) := by decide +kernel
theorem dX6_key_27 : decode cX6_key 27 = .ok (.ireturn, 1) := by decide +kernel
theorem dX6_key_28 : decode cX6_key 28 = .ok (.aload_n 0, 1) := by decide +kernel
theorem dX6_key_29 : decode cX6_key 29 = .ok (.invokevirtual 107, 3) := by decide +kernel
theorem dX6_key_32 : decode cX6_key 32 = .ok (.aload_n 0, 1) := by decide +kernel
theorem dX6_key_33 : decode cX6_key 33 = .ok (.iload_n 1, 1) := by decide +kernel
theorem dX6_key_34 : decode cX6_key 34 = .ok (.iload_n 2, 1) := by decide +kernel
theorem dX6_key_35 : decode cX6_key 35 = .ok (.iload_n 3, 1) := by decide +kernel
theorem dX6_key_36 : decode cX6_key 36 = .ok (.invokevirtual 101, 3) := by decide +kernel
theorem dX6_key_39 : decode cX6_key 39 = .ok (.ireturn, 1) := by decide +kernel
set_option maxRecDepth 20000 in
theorem ggX6_keyAt_X6_findsPeaks : GoodIn wsX6_keyAt wsX6_findsPeaks := goodIn_r _ [6, 7, 8, 9, 10, 5, 11, 12, 13, 14, 15, 16, 17, 18, 19, 20, 21, 22, 23, 24, 25, 26, 27, 28, 29, 49, 50, 51, 52, 53, 54, 55, 56, 57] (by decide +kernel) (by decide +kernel)
set_option maxRecDepth 20000 in
theorem gX6_keyAt_X6_findsPeaks : GoodIn wsX6_keyAt (wsV RX6 107 RX6 yX6_findsPeaks wsX6_findsPeaks) := goodIn_app (goodIn_of _ (by decide +kernel)) ggX6_keyAt_X6_findsPeaks
set_option maxRecDepth 20000 in
theorem ggX6_keyAt_X6_placesOf : GoodIn wsX6_keyAt wsX6_placesOf := goodIn_r _ [33, 34, 35, 36, 5, 37, 38, 39, 40, 41, 12, 7, 42, 43, 44, 45, 8, 9, 10, 11, 46, 47, 48, 49, 50, 51, 52, 53, 54, 55, 56, 57] (by decide +kernel) (by decide +kernel)
set_option maxRecDepth 20000 in
theorem gX6_keyAt_X6_placesOf : GoodIn wsX6_keyAt (wsV RX6 113 RX6 yX6_placesOf wsX6_placesOf) := goodIn_app (goodIn_of _ (by decide +kernel)) ggX6_keyAt_X6_placesOf
theorem dX6_keyAt_0 : decode cX6_keyAt 0 = .ok (.iload_n 1, 1) := by decide +kernel
theorem dX6_keyAt_1 : decode cX6_keyAt 1 = .ok (.ifCond .ge 6, 3) := by decide +kernel
theorem dX6_keyAt_4 : decode cX6_keyAt 4 = .ok (.ldc 56, 2) := by decide +kernel
theorem dX6_keyAt_6 : decode cX6_keyAt 6 = .ok (.ireturn, 1) := by decide +kernel
theorem dX6_keyAt_7 : decode cX6_keyAt 7 = .ok (.aload_n 0, 1) := by decide +kernel
theorem dX6_keyAt_8 : decode cX6_keyAt 8 = .ok (.invokevirtual 107, 3) := by decide +kernel
theorem dX6_keyAt_11 : decode cX6_keyAt 11 = .ok (.iload_n 1, 1) := by decide +kernel
theorem dX6_keyAt_12 : decode cX6_keyAt 12 = .ok (.istore_n 2, 1) := by decide +kernel
theorem dX6_keyAt_13 : decode cX6_keyAt 13 = .ok (.bipush 64, 2) := by decide +kernel
theorem dX6_keyAt_15 : decode cX6_keyAt 15 = .ok (.istore_n 3, 1) := by decide +kernel
theorem dX6_keyAt_16 : decode cX6_keyAt 16 = .ok (.iload_n 3, 1) := by decide +kernel
theorem dX6_keyAt_17 : decode cX6_keyAt 17 = .ok (.sipush 384, 3) := by decide +kernel
theorem dX6_keyAt_20 : decode cX6_keyAt 20 = .ok (.if_icmp .ge 26, 3) := by decide +kernel
theorem dX6_keyAt_23 : decode cX6_keyAt 23 = .ok (.aload_n 0, 1) := by decide +kernel
theorem dX6_keyAt_24 : decode cX6_keyAt 24 = .ok (.iload_n 3, 1) := by decide +kernel
theorem dX6_keyAt_25 : decode cX6_keyAt 25 = .ok (.invokevirtual 113, 3) := by decide +kernel
theorem dX6_keyAt_28 : decode cX6_keyAt 28 = .ok (.ifCond .le 12, 3) := by decide +kernel
theorem dX6_keyAt_31 : decode cX6_keyAt 31 = .ok (.iload_n 2, 1) := by decide +kernel
theorem dX6_keyAt_32 : decode cX6_keyAt 32 = .ok (.ifCond .ne 5, 3) := by decide +kernel
theorem dX6_keyAt_35 : decode cX6_keyAt 35 = .ok (.iload_n 3, 1) := by decide +kernel
theorem dX6_keyAt_36 : decode cX6_keyAt 36 = .ok (.ireturn, 1) := by decide +kernel
theorem dX6_keyAt_37 : decode cX6_keyAt 37 = .ok (.iinc 2 (-1), 3) := by decide +kernel
theorem dX6_keyAt_40 : decode cX6_keyAt 40 = .ok (.iinc 3 1, 3) := by decide +kernel
theorem dX6_keyAt_43 : decode cX6_keyAt 43 = .ok (.goto (-27), 3) := by decide +kernel
theorem dX6_keyAt_46 : decode cX6_keyAt 46 = .ok (.iconst (-1), 1) := by decide +kernel
theorem dX6_keyAt_47 : decode cX6_keyAt 47 = .ok (.ireturn, 1) := by decide +kernel
set_option maxRecDepth 20000 in
theorem ggX6_places_X6_in : GoodIn wsX6_places wsX6_in := goodIn_r _ [5] (by decide +kernel) (by decide +kernel)
set_option maxRecDepth 20000 in
theorem gX6_places_X6_in : GoodIn wsX6_places (va_wsS RX6 35 yX6_in wsX6_in) := goodIn_app (goodIn_of _ (by decide +kernel)) ggX6_places_X6_in
set_option maxRecDepth 20000 in
theorem ggX6_places_X6_findsPeaks : GoodIn wsX6_places wsX6_findsPeaks := goodIn_r _ [9, 10, 11, 12, 13, 4, 14, 15, 16, 17, 18, 19, 20, 21, 22, 23, 24, 25, 26, 27, 28, 29, 30, 31, 32, 49, 50, 51, 52, 53, 54, 55, 56, 57] (by decide +kernel) (by decide +kernel)
set_option maxRecDepth 20000 in
theorem gX6_places_X6_findsPeaks : GoodIn wsX6_places (wsV RX6 107 RX6 yX6_findsPeaks wsX6_findsPeaks) := goodIn_app (goodIn_of _ (by decide +kernel)) ggX6_places_X6_findsPeaks
set_option maxRecDepth 20000 in
theorem ggX6_places_X6_placesOf : GoodIn wsX6_places wsX6_placesOf := goodIn_r _ [36, 37, 38, 39, 4, 40, 41, 42, 43, 44, 15, 10, 45, 46, 47, 48, 11, 12, 13, 14, 2, 3, 5, 49, 50, 51, 52, 53, 54, 55, 56, 57] (by decide +kernel) (by decide +kernel)
set_option maxRecDepth 20000 in
theorem gX6_places_X6_placesOf : GoodIn wsX6_places (wsV RX6 113 RX6 yX6_placesOf wsX6_placesOf) := goodIn_app (goodIn_of _ (by decide +kernel)) ggX6_places_X6_placesOf
theorem dX6_places_0 : decode cX6_places 0 = .ok (.iload_n 1, 1) := by decide +kernel
theorem dX6_places_1 : decode cX6_places 1 = .ok (.bipush 64, 2) := by decide +kernel
theorem dX6_places_3 : decode cX6_places 3 = .ok (.sipush 383, 3) := by decide +kernel
theorem dX6_places_6 : decode cX6_places 6 = .ok (.invokestatic 35, 3) := by decide +kernel
theorem dX6_places_9 : decode cX6_places 9 = .ok (.ifCond .ne 6, 3) := by decide +kernel
theorem dX6_places_12 : decode cX6_places 12 = .ok (.ldc 56, 2) := by decide +kernel
theorem dX6_places_14 : decode cX6_places 14 = .ok (.ireturn, 1) := by decide +kernel
theorem dX6_places_15 : decode cX6_places 15 = .ok (.aload_n 0, 1) := by decide +kernel
theorem dX6_places_16 : decode cX6_places 16 = .ok (.invokevirtual 107, 3) := by decide +kernel
theorem dX6_places_19 : decode cX6_places 19 = .ok (.aload_n 0, 1) := by decide +kernel
theorem dX6_places_20 : decode cX6_places 20 = .ok (.iload_n 1, 1) := by decide +kernel
theorem dX6_places_21 : decode cX6_places 21 = .ok (.invokevirtual 113, 3) := by decide +kernel
theorem dX6_places_24 : decode cX6_places 24 = .ok (.ireturn, 1) := by decide +kernel
set_option maxRecDepth 20000 in
theorem ggX6_place_X6_in : GoodIn wsX6_place wsX6_in := goodIn_r _ [5] (by decide +kernel) (by decide +kernel)
set_option maxRecDepth 20000 in
theorem gX6_place_X6_in : GoodIn wsX6_place (va_wsS RX6 35 yX6_in wsX6_in) := goodIn_app (goodIn_of _ (by decide +kernel)) ggX6_place_X6_in
set_option maxRecDepth 20000 in
theorem ggX6_place_X6_findsPeaks : GoodIn wsX6_place wsX6_findsPeaks := goodIn_r _ [9, 10, 11, 12, 13, 4, 14, 15, 16, 17, 18, 19, 20, 21, 22, 23, 24, 25, 26, 27, 28, 29, 30, 31, 32, 45, 46, 47, 48, 49, 50, 51, 52, 53] (by decide +kernel) (by decide +kernel)
set_option maxRecDepth 20000 in
theorem gX6_place_X6_findsPeaks : GoodIn wsX6_place (wsV RX6 107 RX6 yX6_findsPeaks wsX6_findsPeaks) := goodIn_app (goodIn_of _ (by decide +kernel)) ggX6_place_X6_findsPeaks
set_option maxRecDepth 20000 in
theorem ggX6_place_X6_stands : GoodIn wsX6_place wsX6_stands := goodIn_r _ [36, 37, 38, 39, 4, 40, 15, 10, 41, 42, 43, 44, 11, 12, 13, 14, 2, 3, 5, 45, 46, 47, 48, 49, 50, 51, 52, 53] (by decide +kernel) (by decide +kernel)
set_option maxRecDepth 20000 in
theorem gX6_place_X6_stands : GoodIn wsX6_place (wsV RX6 104 RX6 yX6_stands wsX6_stands) := goodIn_app (goodIn_of _ (by decide +kernel)) ggX6_place_X6_stands
theorem dX6_place_0 : decode cX6_place 0 = .ok (.iload_n 1, 1) := by decide +kernel
theorem dX6_place_1 : decode cX6_place 1 = .ok (.bipush 64, 2) := by decide +kernel
theorem dX6_place_3 : decode cX6_place 3 = .ok (.sipush 383, 3) := by decide +kernel
theorem dX6_place_6 : decode cX6_place 6 = .ok (.invokestatic 35, 3) := by decide +kernel
theorem dX6_place_9 : decode cX6_place 9 = .ok (.ifCond .eq 7, 3) := by decide +kernel
theorem dX6_place_12 : decode cX6_place 12 = .ok (.iload_n 2, 1) := by decide +kernel
theorem dX6_place_13 : decode cX6_place 13 = .ok (.ifCond .ge 6, 3) := by decide +kernel
theorem dX6_place_16 : decode cX6_place 16 = .ok (.ldc 56, 2) := by decide +kernel
theorem dX6_place_18 : decode cX6_place 18 = .ok (.ireturn, 1) := by decide +kernel
theorem dX6_place_19 : decode cX6_place 19 = .ok (.aload_n 0, 1) := by decide +kernel
theorem dX6_place_20 : decode cX6_place 20 = .ok (.invokevirtual 107, 3) := by decide +kernel
theorem dX6_place_23 : decode cX6_place 23 = .ok (.iload_n 2, 1) := by decide +kernel
theorem dX6_place_24 : decode cX6_place 24 = .ok (.istore_n 3, 1) := by decide +kernel
theorem dX6_place_25 : decode cX6_place 25 = .ok (.iconst 0, 1) := by decide +kernel
theorem dX6_place_26 : decode cX6_place 26 = .ok (.istore 4, 2) := by decide +kernel
theorem dX6_place_28 : decode cX6_place 28 = .ok (.iload 4, 2) := by decide +kernel
theorem dX6_place_30 : decode cX6_place 30 = .ok (.bipush 64, 2) := by decide +kernel
theorem dX6_place_32 : decode cX6_place 32 = .ok (.if_icmp .ge 50, 3) := by decide +kernel
theorem dX6_place_35 : decode cX6_place 35 = .ok (.aload_n 0, 1) := by decide +kernel
theorem dX6_place_36 : decode cX6_place 36 = .ok (.iload 4, 2) := by decide +kernel
theorem dX6_place_38 : decode cX6_place 38 = .ok (.bipush 16, 2) := by decide +kernel
theorem dX6_place_40 : decode cX6_place 40 = .ok (.idiv, 1) := by decide +kernel
theorem dX6_place_41 : decode cX6_place 41 = .ok (.iload_n 1, 1) := by decide +kernel
theorem dX6_place_42 : decode cX6_place 42 = .ok (.iload 4, 2) := by decide +kernel
theorem dX6_place_44 : decode cX6_place 44 = .ok (.bipush 16, 2) := by decide +kernel
theorem dX6_place_46 : decode cX6_place 46 = .ok (.irem, 1) := by decide +kernel
theorem dX6_place_47 : decode cX6_place 47 = .ok (.invokevirtual 104, 3) := by decide +kernel
theorem dX6_place_50 : decode cX6_place 50 = .ok (.ifCond .eq 26, 3) := by decide +kernel
theorem dX6_place_53 : decode cX6_place 53 = .ok (.iload_n 3, 1) := by decide +kernel
theorem dX6_place_54 : decode cX6_place 54 = .ok (.ifCond .ne 19, 3) := by decide +kernel
theorem dX6_place_57 : decode cX6_place 57 = .ok (.sipush 1000, 3) := by decide +kernel
theorem dX6_place_60 : decode cX6_place 60 = .ok (.iload 4, 2) := by decide +kernel
theorem dX6_place_62 : decode cX6_place 62 = .ok (.bipush 16, 2) := by decide +kernel
theorem dX6_place_64 : decode cX6_place 64 = .ok (.idiv, 1) := by decide +kernel
theorem dX6_place_65 : decode cX6_place 65 = .ok (.imul, 1) := by decide +kernel
theorem dX6_place_66 : decode cX6_place 66 = .ok (.iload 4, 2) := by decide +kernel
theorem dX6_place_68 : decode cX6_place 68 = .ok (.bipush 16, 2) := by decide +kernel
theorem dX6_place_70 : decode cX6_place 70 = .ok (.irem, 1) := by decide +kernel
theorem dX6_place_71 : decode cX6_place 71 = .ok (.iadd, 1) := by decide +kernel
theorem dX6_place_72 : decode cX6_place 72 = .ok (.ireturn, 1) := by decide +kernel
theorem dX6_place_73 : decode cX6_place 73 = .ok (.iinc 3 (-1), 3) := by decide +kernel
theorem dX6_place_76 : decode cX6_place 76 = .ok (.iinc 4 1, 3) := by decide +kernel
theorem dX6_place_79 : decode cX6_place 79 = .ok (.goto (-51), 3) := by decide +kernel
theorem dX6_place_82 : decode cX6_place 82 = .ok (.iconst (-1), 1) := by decide +kernel
theorem dX6_place_83 : decode cX6_place 83 = .ok (.ireturn, 1) := by decide +kernel
set_option maxRecDepth 20000 in
theorem ggX6_votes_X6_in : GoodIn wsX6_votes wsX6_in := goodIn_r _ [7] (by decide +kernel) (by decide +kernel)
set_option maxRecDepth 20000 in
theorem gX6_votes_X6_in : GoodIn wsX6_votes (va_wsS RX6 35 yX6_in wsX6_in) := goodIn_app (goodIn_of _ (by decide +kernel)) ggX6_votes_X6_in
set_option maxRecDepth 20000 in
theorem ggX6_votes_X6_counts : GoodIn wsX6_votes wsX6_counts := goodIn_r _ [11, 3, 12, 13, 14, 15, 6, 16, 17, 18, 19, 20, 21, 22, 23, 24, 25, 26, 27, 28, 29, 30, 31, 32, 33, 34, 35, 36, 37, 38, 39, 40, 41, 42, 43, 44, 45, 46, 47, 4, 5, 7, 48, 49, 50, 51, 52, 53, 54, 55, 56, 57, 58, 59, 60] (by decide +kernel) (by decide +kernel)
set_option maxRecDepth 20000 in
theorem gX6_votes_X6_counts : GoodIn wsX6_votes (wsV RX6 116 RX6 yX6_counts wsX6_counts) := goodIn_app (goodIn_of _ (by decide +kernel)) ggX6_votes_X6_counts
theorem dX6_votes_0 : decode cX6_votes 0 = .ok (.iload_n 1, 1) := by decide +kernel
theorem dX6_votes_1 : decode cX6_votes 1 = .ok (.iconst 0, 1) := by decide +kernel
theorem dX6_votes_2 : decode cX6_votes 2 = .ok (.iconst 3, 1) := by decide +kernel
theorem dX6_votes_3 : decode cX6_votes 3 = .ok (.invokestatic 35, 3) := by decide +kernel
theorem dX6_votes_6 : decode cX6_votes 6 = .ok (.ifCond .ne 6, 3) := by decide +kernel
theorem dX6_votes_9 : decode cX6_votes 9 = .ok (.ldc 55, 2) := by decide +kernel
theorem dX6_votes_11 : decode cX6_votes 11 = .ok (.ireturn, 1) := by decide +kernel
theorem dX6_votes_12 : decode cX6_votes 12 = .ok (.iload_n 2, 1) := by decide +kernel
theorem dX6_votes_13 : decode cX6_votes 13 = .ok (.bipush (-15), 2) := by decide +kernel
theorem dX6_votes_15 : decode cX6_votes 15 = .ok (.bipush 15, 2) := by decide +kernel
theorem dX6_votes_17 : decode cX6_votes 17 = .ok (.invokestatic 35, 3) := by decide +kernel
theorem dX6_votes_20 : decode cX6_votes 20 = .ok (.ifCond .ne 6, 3) := by decide +kernel
theorem dX6_votes_23 : decode cX6_votes 23 = .ok (.ldc 56, 2) := by decide +kernel
theorem dX6_votes_25 : decode cX6_votes 25 = .ok (.ireturn, 1) := by decide +kernel
theorem dX6_votes_26 : decode cX6_votes 26 = .ok (.aload_n 0, 1) := by decide +kernel
theorem dX6_votes_27 : decode cX6_votes 27 = .ok (.invokevirtual 116, 3) := by decide +kernel
theorem dX6_votes_30 : decode cX6_votes 30 = .ok (.aload_n 0, 1) := by decide +kernel
theorem dX6_votes_31 : decode cX6_votes 31 = .ok (.getfield 29, 3) := by decide +kernel
theorem dX6_votes_34 : decode cX6_votes 34 = .ok (.bipush 31, 2) := by decide +kernel
theorem dX6_votes_36 : decode cX6_votes 36 = .ok (.iload_n 1, 1) := by decide +kernel
theorem dX6_votes_37 : decode cX6_votes 37 = .ok (.imul, 1) := by decide +kernel
theorem dX6_votes_38 : decode cX6_votes 38 = .ok (.iload_n 2, 1) := by decide +kernel
theorem dX6_votes_39 : decode cX6_votes 39 = .ok (.iadd, 1) := by decide +kernel
theorem dX6_votes_40 : decode cX6_votes 40 = .ok (.bipush 15, 2) := by decide +kernel
theorem dX6_votes_42 : decode cX6_votes 42 = .ok (.iadd, 1) := by decide +kernel
theorem dX6_votes_43 : decode cX6_votes 43 = .ok (.iaload, 1) := by decide +kernel
theorem dX6_votes_44 : decode cX6_votes 44 = .ok (.ireturn, 1) := by decide +kernel
set_option maxRecDepth 20000 in
theorem ggX6_rank_X6_in : GoodIn wsX6_rank wsX6_in := goodIn_r _ [7] (by decide +kernel) (by decide +kernel)
set_option maxRecDepth 20000 in
theorem gX6_rank_X6_in : GoodIn wsX6_rank (va_wsS RX6 35 yX6_in wsX6_in) := goodIn_app (goodIn_of _ (by decide +kernel)) ggX6_rank_X6_in
set_option maxRecDepth 20000 in
theorem ggX6_rank_X6_counts : GoodIn wsX6_rank wsX6_counts := goodIn_r _ [11, 3, 2, 12, 13, 14, 6, 15, 16, 17, 18, 19, 20, 21, 22, 23, 24, 25, 26, 27, 28, 29, 30, 31, 32, 33, 34, 35, 36, 37, 38, 39, 40, 41, 42, 43, 44, 45, 46, 4, 5, 7, 47, 48, 49, 50, 55, 56, 57, 58, 59, 60, 61, 62, 63] (by decide +kernel) (by decide +kernel)
set_option maxRecDepth 20000 in
theorem gX6_rank_X6_counts : GoodIn wsX6_rank (wsV RX6 116 RX6 yX6_counts wsX6_counts) := goodIn_app (goodIn_of _ (by decide +kernel)) ggX6_rank_X6_counts
set_option maxRecDepth 20000 in
theorem ggX6_rank_X6_best : GoodIn wsX6_rank wsX6_best := goodIn_r _ [54, 3, 2, 55, 56, 57, 58, 59, 60, 61, 62, 63] (by decide +kernel) (by decide +kernel)
set_option maxRecDepth 20000 in
theorem gX6_rank_X6_best : GoodIn wsX6_rank (wsV RX6 110 RX6 yX6_best wsX6_best) := goodIn_app (goodIn_of _ (by decide +kernel)) ggX6_rank_X6_best
