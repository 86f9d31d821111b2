theorem dX5_places_23 : decode cX5_places 23 = .ok (.iload_n 1, 1) := by decide +kernel
theorem dX5_places_24 : decode cX5_places 24 = .ok (.invokevirtual 186, 3) := by decide +kernel
theorem dX5_places_27 : decode cX5_places 27 = .ok (.ireturn, 1) := by decide +kernel
set_option maxRecDepth 20000 in
theorem ggX5_place_X5_isWithin : GoodIn wsX5_place wsX5_isWithin := goodIn_r _ [6] (by decide +kernel) (by decide +kernel)
set_option maxRecDepth 20000 in
theorem gX5_place_X5_isWithin : GoodIn wsX5_place (va_wsS RX5 57 yX5_isWithin wsX5_isWithin) := goodIn_app (goodIn_of _ (by decide +kernel)) ggX5_place_X5_isWithin
set_option maxRecDepth 20000 in
theorem ggX5_place_X5_refresh : GoodIn wsX5_place wsX5_refresh := goodIn_r _ [10, 11, 12, 13, 2, 14, 15, 16, 17, 18, 19, 20, 21, 22, 23, 24, 25, 26, 27, 28, 29, 30, 31, 32, 33, 34, 35, 36, 37, 38, 39, 40, 41, 42, 43, 44, 45, 46, 47, 48, 49, 50, 51, 52, 53, 54, 55, 56, 57, 58, 59, 60, 61, 62, 63, 64, 65, 66, 67, 68, 69, 70, 71, 72, 73, 74, 75, 76, 77, 78, 79, 80, 81, 82, 83, 84, 85, 86, 87, 88, 89, 90, 91, 92, 93, 94, 95, 96, 97, 98, 99, 100, 101, 102, 103, 104, 105, 106, 107, 108, 109, 110, 111, 112, 113, 114, 115, 116, 117, 118, 119, 120, 122, 123, 124, 125, 126, 127, 128, 129, 130, 131, 132, 133, 134, 135, 136, 137, 138, 139, 140, 141, 142, 143, 144, 145] (by decide +kernel) (by decide +kernel)
set_option maxRecDepth 20000 in
theorem gX5_place_X5_refresh : GoodIn wsX5_place (wsV RX5 116 RX5 yX5_refresh wsX5_refresh) := goodIn_app (goodIn_of _ (by decide +kernel)) ggX5_place_X5_refresh
set_option maxRecDepth 20000 in
theorem ggX5_place_X1_placeOf : GoodIn wsX5_place wsX1_placeOf := goodIn_r _ [114, 87, 82, 115, 108, 109, 62, 110, 136, 137, 138, 139] (by decide +kernel) (by decide +kernel)
set_option maxRecDepth 20000 in
theorem gX5_place_X1_placeOf : GoodIn wsX5_place (wsV RX5 189 RX1 yX1_placeOf wsX1_placeOf) := goodIn_app (goodIn_of _ (by decide +kernel)) ggX5_place_X1_placeOf
theorem dX5_place_0 : decode cX5_place 0 = .ok (.iload_n 1, 1) := by decide +kernel
theorem dX5_place_1 : decode cX5_place 1 = .ok (.bipush 64, 2) := by decide +kernel
theorem dX5_place_3 : decode cX5_place 3 = .ok (.sipush 383, 3) := by decide +kernel
theorem dX5_place_6 : decode cX5_place 6 = .ok (.invokestatic 57, 3) := by decide +kernel
theorem dX5_place_9 : decode cX5_place 9 = .ok (.ifCond .eq 7, 3) := by decide +kernel
theorem dX5_place_12 : decode cX5_place 12 = .ok (.iload_n 2, 1) := by decide +kernel
theorem dX5_place_13 : decode cX5_place 13 = .ok (.ifCond .ge 6, 3) := by decide +kernel
theorem dX5_place_16 : decode cX5_place 16 = .ok (.ldc 61, 2) := by decide +kernel
theorem dX5_place_18 : decode cX5_place 18 = .ok (.ireturn, 1) := by decide +kernel
theorem dX5_place_19 : decode cX5_place 19 = .ok (.aload_n 0, 1) := by decide +kernel
theorem dX5_place_20 : decode cX5_place 20 = .ok (.invokevirtual 116, 3) := by decide +kernel
theorem dX5_place_23 : decode cX5_place 23 = .ok (.aload_n 0, 1) := by decide +kernel
theorem dX5_place_24 : decode cX5_place 24 = .ok (.getfield 37, 3) := by decide +kernel
theorem dX5_place_27 : decode cX5_place 27 = .ok (.iload_n 1, 1) := by decide +kernel
theorem dX5_place_28 : decode cX5_place 28 = .ok (.iload_n 2, 1) := by decide +kernel
theorem dX5_place_29 : decode cX5_place 29 = .ok (.invokevirtual 189, 3) := by decide +kernel
theorem dX5_place_32 : decode cX5_place 32 = .ok (.ireturn, 1) := by decide +kernel
set_option maxRecDepth 20000 in
theorem ggX5_votes_X5_isPiece : GoodIn wsX5_votes wsX5_isPiece := goodIn_r _ [7, 8, 9, 6, 10] (by decide +kernel) (by decide +kernel)
set_option maxRecDepth 20000 in
theorem gX5_votes_X5_isPiece : GoodIn wsX5_votes (va_wsS RX5 92 yX5_isPiece wsX5_isPiece) := goodIn_app (goodIn_of _ (by decide +kernel)) ggX5_votes_X5_isPiece
set_option maxRecDepth 20000 in
theorem ggX5_votes_X5_isWithin : GoodIn wsX5_votes wsX5_isWithin := goodIn_r _ [10] (by decide +kernel) (by decide +kernel)
set_option maxRecDepth 20000 in
theorem gX5_votes_X5_isWithin : GoodIn wsX5_votes (va_wsS RX5 57 yX5_isWithin wsX5_isWithin) := goodIn_app (goodIn_of _ (by decide +kernel)) ggX5_votes_X5_isWithin
set_option maxRecDepth 20000 in
theorem ggX5_votes_X5_refresh : GoodIn wsX5_votes wsX5_refresh := goodIn_r _ [14, 15, 16, 17, 18, 3, 19, 20, 21, 22, 23, 24, 25, 26, 27, 28, 29, 30, 31, 32, 33, 34, 35, 36, 37, 38, 39, 40, 41, 42, 43, 44, 45, 46, 47, 48, 49, 50, 51, 52, 53, 54, 55, 56, 57, 58, 59, 60, 61, 62, 63, 64, 65, 66, 67, 68, 69, 70, 71, 72, 73, 74, 75, 76, 77, 78, 79, 80, 81, 82, 83, 84, 85, 86, 87, 88, 89, 90, 91, 92, 93, 94, 95, 96, 97, 98, 99, 100, 101, 102, 103, 104, 105, 106, 107, 108, 109, 110, 111, 112, 113, 114, 115, 116, 117, 118, 119, 120, 121, 122, 123, 124, 129, 130, 131, 132, 133, 134, 135, 136, 137, 138, 139, 140, 141, 142, 143, 144, 145, 146, 147, 148, 149, 150, 151, 152] (by decide +kernel) (by decide +kernel)
set_option maxRecDepth 20000 in
theorem gX5_votes_X5_refresh : GoodIn wsX5_votes (wsV RX5 116 RX5 yX5_refresh wsX5_refresh) := goodIn_app (goodIn_of _ (by decide +kernel)) ggX5_votes_X5_refresh
set_option maxRecDepth 20000 in
theorem ggX5_votes_X0_votesFor : GoodIn wsX5_votes wsX0_votesFor := goodIn_r _ [128, 102, 147, 148, 149, 150, 151, 152] (by decide +kernel) (by decide +kernel)
set_option maxRecDepth 20000 in
theorem gX5_votes_X0_votesFor : GoodIn wsX5_votes (wsV RX5 192 RX0 yX0_votesFor wsX0_votesFor) := goodIn_app (goodIn_of _ (by decide +kernel)) ggX5_votes_X0_votesFor
theorem dX5_votes_0 : decode cX5_votes 0 = .ok (.iload_n 1, 1) := by decide +kernel
theorem dX5_votes_1 : decode cX5_votes 1 = .ok (.invokestatic 92, 3) := by decide +kernel
theorem dX5_votes_4 : decode cX5_votes 4 = .ok (.ifCond .ne 6, 3) := by decide +kernel
theorem dX5_votes_7 : decode cX5_votes 7 = .ok (.ldc 56, 2) := by decide +kernel
theorem dX5_votes_9 : decode cX5_votes 9 = .ok (.ireturn, 1) := by decide +kernel
theorem dX5_votes_10 : decode cX5_votes 10 = .ok (.iload_n 2, 1) := by decide +kernel
theorem dX5_votes_11 : decode cX5_votes 11 = .ok (.bipush (-15), 2) := by decide +kernel
theorem dX5_votes_13 : decode cX5_votes 13 = .ok (.bipush 15, 2) := by decide +kernel
theorem dX5_votes_15 : decode cX5_votes 15 = .ok (.invokestatic 57, 3) := by decide +kernel
theorem dX5_votes_18 : decode cX5_votes 18 = .ok (.ifCond .ne 6, 3) := by decide +kernel
theorem dX5_votes_21 : decode cX5_votes 21 = .ok (.ldc 61, 2) := by decide +kernel
theorem dX5_votes_23 : decode cX5_votes 23 = .ok (.ireturn, 1) := by decide +kernel
theorem dX5_votes_24 : decode cX5_votes 24 = .ok (.aload_n 0, 1) := by decide +kernel
theorem dX5_votes_25 : decode cX5_votes 25 = .ok (.invokevirtual 116, 3) := by decide +kernel
theorem dX5_votes_28 : decode cX5_votes 28 = .ok (.aload_n 0, 1) := by decide +kernel
theorem dX5_votes_29 : decode cX5_votes 29 = .ok (.getfield 44, 3) := by decide +kernel
theorem dX5_votes_32 : decode cX5_votes 32 = .ok (.iload_n 1, 1) := by decide +kernel
theorem dX5_votes_33 : decode cX5_votes 33 = .ok (.iload_n 2, 1) := by decide +kernel
theorem dX5_votes_34 : decode cX5_votes 34 = .ok (.invokevirtual 192, 3) := by decide +kernel
theorem dX5_votes_37 : decode cX5_votes 37 = .ok (.ireturn, 1) := by decide +kernel
set_option maxRecDepth 20000 in
theorem ggX5_rank_X5_isWithin : GoodIn wsX5_rank wsX5_isWithin := goodIn_r _ [6] (by decide +kernel) (by decide +kernel)
set_option maxRecDepth 20000 in
theorem gX5_rank_X5_isWithin : GoodIn wsX5_rank (va_wsS RX5 57 yX5_isWithin wsX5_isWithin) := goodIn_app (goodIn_of _ (by decide +kernel)) ggX5_rank_X5_isWithin
set_option maxRecDepth 20000 in
theorem ggX5_rank_X5_refresh : GoodIn wsX5_rank wsX5_refresh := goodIn_r _ [10, 11, 12, 13, 14, 2, 15, 16, 17, 18, 19, 20, 21, 22, 23, 24, 25, 26, 27, 28, 29, 30, 31, 32, 33, 34, 35, 36, 37, 38, 39, 40, 41, 42, 43, 44, 45, 46, 47, 48, 49, 50, 51, 52, 53, 54, 55, 56, 57, 58, 59, 60, 61, 62, 63, 64, 65, 66, 67, 68, 69, 70, 71, 72, 73, 74, 75, 76, 77, 78, 79, 80, 81, 82, 83, 84, 85, 86, 87, 88, 89, 90, 91, 92, 93, 94, 95, 96, 97, 98, 99, 100, 101, 102, 103, 104, 105, 106, 107, 108, 109, 110, 111, 112, 113, 114, 115, 116, 117, 118, 119, 120, 137, 138, 139, 140, 141, 142, 143, 144, 145, 146, 147, 148, 149, 150, 151, 152, 153, 154, 155, 156, 157, 158, 159, 160] (by decide +kernel) (by decide +kernel)
set_option maxRecDepth 20000 in
theorem gX5_rank_X5_refresh : GoodIn wsX5_rank (wsV RX5 116 RX5 yX5_refresh wsX5_refresh) := goodIn_app (goodIn_of _ (by decide +kernel)) ggX5_rank_X5_refresh
set_option maxRecDepth 20000 in
theorem ggX5_rank_X0_ranked : GoodIn wsX5_rank wsX0_ranked := goodIn_r _ [124, 99, 155, 156, 157, 158, 159, 160] (by decide +kernel) (by decide +kernel)
set_option maxRecDepth 20000 in
theorem gX5_rank_X0_ranked : GoodIn wsX5_rank (wsV RX5 149 RX0 yX0_ranked wsX0_ranked) := goodIn_app (goodIn_of _ (by decide +kernel)) ggX5_rank_X0_ranked
set_option maxRecDepth 20000 in
theorem ggX5_rank_X0_pieceOf : GoodIn wsX5_rank wsX0_pieceOf := goodIn_r _ [128, 99, 120, 155, 156, 157, 158, 159, 160] (by decide +kernel) (by decide +kernel)
set_option maxRecDepth 20000 in
theorem gX5_rank_X0_pieceOf : GoodIn wsX5_rank (wsV RX5 137 RX0 yX0_pieceOf wsX0_pieceOf) := goodIn_app (goodIn_of _ (by decide +kernel)) ggX5_rank_X0_pieceOf
set_option maxRecDepth 20000 in
theorem ggX5_rank_X0_offsetOf : GoodIn wsX5_rank wsX0_offsetOf := goodIn_r _ [132, 99, 120, 155, 156, 157, 158, 159, 160] (by decide +kernel) (by decide +kernel)
set_option maxRecDepth 20000 in
theorem gX5_rank_X0_offsetOf : GoodIn wsX5_rank (wsV RX5 140 RX0 yX0_offsetOf wsX0_offsetOf) := goodIn_app (goodIn_of _ (by decide +kernel)) ggX5_rank_X0_offsetOf
set_option maxRecDepth 20000 in
theorem ggX5_rank_X0_countOf : GoodIn wsX5_rank wsX0_countOf := goodIn_r _ [136, 99, 98, 120, 155, 156, 157, 158, 159, 160] (by decide +kernel) (by decide +kernel)
set_option maxRecDepth 20000 in
theorem gX5_rank_X0_countOf : GoodIn wsX5_rank (wsV RX5 143 RX0 yX0_countOf wsX0_countOf) := goodIn_app (goodIn_of _ (by decide +kernel)) ggX5_rank_X0_countOf
theorem dX5_rank_0 : decode cX5_rank 0 = .ok (.iload_n 1, 1) := by decide +kernel
theorem dX5_rank_1 : decode cX5_rank 1 = .ok (.ifCond .lt 12, 3) := by decide +kernel
theorem dX5_rank_4 : decode cX5_rank 4 = .ok (.iload_n 2, 1) := by decide +kernel
theorem dX5_rank_5 : decode cX5_rank 5 = .ok (.iconst 0, 1) := by decide +kernel
theorem dX5_rank_6 : decode cX5_rank 6 = .ok (.iconst 2, 1) := by decide +kernel
theorem dX5_rank_7 : decode cX5_rank 7 = .ok (.invokestatic 57, 3) := by decide +kernel
theorem dX5_rank_10 : decode cX5_rank 10 = .ok (.ifCond .ne 6, 3) := by decide +kernel
theorem dX5_rank_13 : decode cX5_rank 13 = .ok (.ldc 61, 2) := by decide +kernel
theorem dX5_rank_15 : decode cX5_rank 15 = .ok (.ireturn, 1) := by decide +kernel
theorem dX5_rank_16 : decode cX5_rank 16 = .ok (.aload_n 0, 1) := by decide +kernel
theorem dX5_rank_17 : decode cX5_rank 17 = .ok (.invokevirtual 116, 3) := by decide +kernel
theorem dX5_rank_20 : decode cX5_rank 20 = .ok (.iload_n 1, 1) := by decide +kernel
theorem dX5_rank_21 : decode cX5_rank 21 = .ok (.aload_n 0, 1) := by decide +kernel
theorem dX5_rank_22 : decode cX5_rank 22 = .ok (.getfield 44, 3) := by decide +kernel
theorem dX5_rank_25 : decode cX5_rank 25 = .ok (.invokevirtual 149, 3) := by decide +kernel
theorem dX5_rank_28 : decode cX5_rank 28 = .ok (.if_icmp .lt 5, 3) := by decide +kernel
theorem dX5_rank_31 : decode cX5_rank 31 = .ok (.iconst (-1), 1) := by decide +kernel
theorem dX5_rank_32 : decode cX5_rank 32 = .ok (.ireturn, 1) := by decide +kernel
theorem dX5_rank_33 : decode cX5_rank 33 = .ok (.iload_n 2, 1) := by decide +kernel
theorem dX5_rank_34 : decode cX5_rank 34 = .ok (.lookupswitch 47 #[(0, 26), (1, 35)], 26) := by decide +kernel
theorem dX5_rank_60 : decode cX5_rank 60 = .ok (.aload_n 0, 1) := by decide +kernel
theorem dX5_rank_61 : decode cX5_rank 61 = .ok (.getfield 44, 3) := by decide +kernel
theorem dX5_rank_64 : decode cX5_rank 64 = .ok (.iload_n 1, 1) := by decide +kernel
theorem dX5_rank_65 : decode cX5_rank 65 = .ok (.invokevirtual 137, 3) := by decide +kernel
theorem dX5_rank_68 : decode cX5_rank 68 = .ok (.ireturn, 1) := by decide +kernel
theorem dX5_rank_69 : decode cX5_rank 69 = .ok (.aload_n 0, 1) := by decide +kernel
theorem dX5_rank_70 : decode cX5_rank 70 = .ok (.getfield 44, 3) := by decide +kernel
theorem dX5_rank_73 : decode cX5_rank 73 = .ok (.iload_n 1, 1) := by decide +kernel
theorem dX5_rank_74 : decode cX5_rank 74 = .ok (.invokevirtual 140, 3) := by decide +kernel
theorem dX5_rank_77 : decode cX5_rank 77 = .ok (.bipush 100, 2) := by decide +kernel
theorem dX5_rank_79 : decode cX5_rank 79 = .ok (.iadd, 1) := by decide +kernel
theorem dX5_rank_80 : decode cX5_rank 80 = .ok (.ireturn, 1) := by decide +kernel
theorem dX5_rank_81 : decode cX5_rank 81 = .ok (.aload_n 0, 1) := by decide +kernel
theorem dX5_rank_82 : decode cX5_rank 82 = .ok (.getfield 44, 3) := by decide +kernel
theorem dX5_rank_85 : decode cX5_rank 85 = .ok (.iload_n 1, 1) := by decide +kernel
theorem dX5_rank_86 : decode cX5_rank 86 = .ok (.invokevirtual 143, 3) := by decide +kernel
theorem dX5_rank_89 : decode cX5_rank 89 = .ok (.ireturn, 1) := by decide +kernel
set_option maxRecDepth 20000 in
theorem ggX5_keep_X5_isWithin : GoodIn wsX5_keep wsX5_isWithin := goodIn_r _ [11] (by decide +kernel) (by decide +kernel)
set_option maxRecDepth 20000 in
theorem gX5_keep_X5_isWithin : GoodIn wsX5_keep (va_wsS RX5 57 yX5_isWithin wsX5_isWithin) := goodIn_app (goodIn_of _ (by decide +kernel)) ggX5_keep_X5_isWithin
set_option maxRecDepth 20000 in
theorem ggX5_keep_X4_init : GoodIn wsX5_keep wsX4_init := goodIn_r _ [14, 15, 16, 17, 18, 19, 20, 21, 22, 44, 45, 46, 47] (by decide +kernel) (by decide +kernel)
set_option maxRecDepth 20000 in
theorem gX5_keep_X4_init : GoodIn wsX5_keep (wsX4_init) := ggX5_keep_X4_init
set_option maxRecDepth 20000 in
theorem ggX5_keep_X4_become : GoodIn wsX5_keep wsX4_become := goodIn_r _ [26, 19, 27, 28, 29, 30, 20, 21, 22, 44, 45, 46, 47] (by decide +kernel) (by decide +kernel)
set_option maxRecDepth 20000 in
theorem gX5_keep_X4_become : GoodIn wsX5_keep (wsV RX5 195 RX4 yX4_become wsX4_become) := goodIn_app (goodIn_of _ (by decide +kernel)) ggX5_keep_X4_become
set_option maxRecDepth 20000 in
theorem ggX5_keep_X2_forget : GoodIn wsX5_keep wsX2_forget := goodIn_r _ [35, 36, 48, 49, 50, 51, 52, 53, 54] (by decide +kernel) (by decide +kernel)
set_option maxRecDepth 20000 in
theorem gX5_keep_X2_forget : GoodIn wsX5_keep (wsV RX5 198 RX2 yX2_forget wsX2_forget) := goodIn_app (goodIn_of _ (by decide +kernel)) ggX5_keep_X2_forget
theorem dX5_keep_0 : decode cX5_keep 0 = .ok (.iload_n 1, 1) := by decide +kernel
theorem dX5_keep_1 : decode cX5_keep 1 = .ok (.iconst 0, 1) := by decide +kernel
theorem dX5_keep_2 : decode cX5_keep 2 = .ok (.iconst 1, 1) := by decide +kernel
theorem dX5_keep_3 : decode cX5_keep 3 = .ok (.invokestatic 57, 3) := by decide +kernel
theorem dX5_keep_6 : decode cX5_keep 6 = .ok (.ifCond .ne 6, 3) := by decide +kernel
theorem dX5_keep_9 : decode cX5_keep 9 = .ok (.ldc 56, 2) := by decide +kernel
theorem dX5_keep_11 : decode cX5_keep 11 = .ok (.ireturn, 1) := by decide +kernel
theorem dX5_keep_12 : decode cX5_keep 12 = .ok (.aload_n 0, 1) := by decide +kernel
theorem dX5_keep_13 : decode cX5_keep 13 = .ok (.getfield 23, 3) := by decide +kernel
theorem dX5_keep_16 : decode cX5_keep 16 = .ok (.iload_n 1, 1) := by decide +kernel
theorem dX5_keep_17 : decode cX5_keep 17 = .ok (.aaload, 1) := by decide +kernel
theorem dX5_keep_18 : decode cX5_keep 18 = .ok (.astore_n 2, 1) := by decide +kernel
theorem dX5_keep_19 : decode cX5_keep 19 = .ok (.aload_n 2, 1) := by decide +kernel
theorem dX5_keep_20 : decode cX5_keep 20 = .ok (.ifnonnull 18, 3) := by decide +kernel
theorem dX5_keep_23 : decode cX5_keep 23 = .ok (.new 7, 3) := by decide +kernel
theorem dX5_keep_26 : decode cX5_keep 26 = .ok (.dup, 1) := by decide +kernel
theorem dX5_keep_27 : decode cX5_keep 27 = .ok (.invokespecial 9, 3) := by decide +kernel
theorem dX5_keep_30 : decode cX5_keep 30 = .ok (.astore_n 2, 1) := by decide +kernel
theorem dX5_keep_31 : decode cX5_keep 31 = .ok (.aload_n 0, 1) := by decide +kernel
theorem dX5_keep_32 : decode cX5_keep 32 = .ok (.getfield 23, 3) := by decide +kernel
theorem dX5_keep_35 : decode cX5_keep 35 = .ok (.iload_n 1, 1) := by decide +kernel
theorem dX5_keep_36 : decode cX5_keep 36 = .ok (.aload_n 2, 1) := by decide +kernel
theorem dX5_keep_37 : decode cX5_keep 37 = .ok (.aastore, 1) := by decide +kernel
theorem dX5_keep_38 : decode cX5_keep 38 = .ok (.aload_n 2, 1) := by decide +kernel
theorem dX5_keep_39 : decode cX5_keep 39 = .ok (.aload_n 0, 1) := by decide +kernel
theorem dX5_keep_40 : decode cX5_keep 40 = .ok (.getfield 10, 3) := by decide +kernel
theorem dX5_keep_43 : decode cX5_keep 43 = .ok (.invokevirtual 195, 3) := by decide +kernel
theorem dX5_keep_46 : decode cX5_keep 46 = .ok (.aload_n 0, 1) := by decide +kernel
theorem dX5_keep_47 : decode cX5_keep 47 = .ok (.getfield 19, 3) := by decide +kernel
theorem dX5_keep_50 : decode cX5_keep 50 = .ok (.invokevirtual 198, 3) := by decide +kernel
theorem dX5_keep_53 : decode cX5_keep 53 = .ok (.iconst 1, 1) := by decide +kernel
theorem dX5_keep_54 : decode cX5_keep 54 = .ok (.ireturn, 1) := by decide +kernel
set_option maxRecDepth 20000 in
theorem ggX5_goBack_X5_isWithin : GoodIn wsX5_goBack wsX5_isWithin := goodIn_r _ [10] (by decide +kernel) (by decide +kernel)
set_option maxRecDepth 20000 in
theorem gX5_goBack_X5_isWithin : GoodIn wsX5_goBack (va_wsS RX5 57 yX5_isWithin wsX5_isWithin) := goodIn_app (goodIn_of _ (by decide +kernel)) ggX5_goBack_X5_isWithin
set_option maxRecDepth 20000 in
theorem ggX5_goBack_X4_become : GoodIn wsX5_goBack wsX4_become := goodIn_r _ [15, 16, 17, 18, 19, 20, 21, 22, 23, 37, 38, 39, 40] (by decide +kernel) (by decide +kernel)
set_option maxRecDepth 20000 in
theorem gX5_goBack_X4_become : GoodIn wsX5_goBack (wsV RX5 195 RX4 yX4_become wsX4_become) := goodIn_app (goodIn_of _ (by decide +kernel)) ggX5_goBack_X4_become
set_option maxRecDepth 20000 in
theorem ggX5_goBack_X2_forget : GoodIn wsX5_goBack wsX2_forget := goodIn_r _ [28, 29, 41, 42, 43, 44, 45, 46, 47] (by decide +kernel) (by decide +kernel)
set_option maxRecDepth 20000 in
theorem gX5_goBack_X2_forget : GoodIn wsX5_goBack (wsV RX5 198 RX2 yX2_forget wsX2_forget) := goodIn_app (goodIn_of _ (by decide +kernel)) ggX5_goBack_X2_forget
theorem dX5_goBack_0 : decode cX5_goBack 0 = .ok (.iload_n 1, 1) := by decide +kernel
theorem dX5_goBack_1 : decode cX5_goBack 1 = .ok (.iconst 0, 1) := by decide +kernel
theorem dX5_goBack_2 : decode cX5_goBack 2 = .ok (.iconst 1, 1) := by decide +kernel
theorem dX5_goBack_3 : decode cX5_goBack 3 = .ok (.invokestatic 57, 3) := by decide +kernel
theorem dX5_goBack_6 : decode cX5_goBack 6 = .ok (.ifCond .ne 6, 3) := by decide +kernel
theorem dX5_goBack_9 : decode cX5_goBack 9 = .ok (.ldc 56, 2) := by decide +kernel
theorem dX5_goBack_11 : decode cX5_goBack 11 = .ok (.ireturn, 1) := by decide +kernel
theorem dX5_goBack_12 : decode cX5_goBack 12 = .ok (.aload_n 0, 1) := by decide +kernel
theorem dX5_goBack_13 : decode cX5_goBack 13 = .ok (.getfield 23, 3) := by decide +kernel
theorem dX5_goBack_16 : decode cX5_goBack 16 = .ok (.iload_n 1, 1) := by decide +kernel
theorem dX5_goBack_17 : decode cX5_goBack 17 = .ok (.aaload, 1) := by decide +kernel
theorem dX5_goBack_18 : decode cX5_goBack 18 = .ok (.astore_n 2, 1) := by decide +kernel
theorem dX5_goBack_19 : decode cX5_goBack 19 = .ok (.aload_n 2, 1) := by decide +kernel
theorem dX5_goBack_20 : decode cX5_goBack 20 = .ok (.ifnonnull 6, 3) := by decide +kernel
theorem dX5_goBack_23 : decode cX5_goBack 23 = .ok (.ldc 95, 2) := by decide +kernel
theorem dX5_goBack_25 : decode cX5_goBack 25 = .ok (.ireturn, 1) := by decide +kernel
theorem dX5_goBack_26 : decode cX5_goBack 26 = .ok (.aload_n 0, 1) := by decide +kernel
theorem dX5_goBack_27 : decode cX5_goBack 27 = .ok (.getfield 10, 3) := by decide +kernel
theorem dX5_goBack_30 : decode cX5_goBack 30 = .ok (.aload_n 2, 1) := by decide +kernel
theorem dX5_goBack_31 : decode cX5_goBack 31 = .ok (.invokevirtual 195, 3) := by decide +kernel
theorem dX5_goBack_34 : decode cX5_goBack 34 = .ok (.aload_n 0, 1) := by decide +kernel
theorem dX5_goBack_35 : decode cX5_goBack 35 = .ok (.getfield 19, 3) := by decide +kernel
theorem dX5_goBack_38 : decode cX5_goBack 38 = .ok (.invokevirtual 198, 3) := by decide +kernel
theorem dX5_goBack_41 : decode cX5_goBack 41 = .ok (.aload_n 0, 1) := by decide +kernel
theorem dX5_goBack_42 : decode cX5_goBack 42 = .ok (.iconst 0, 1) := by decide +kernel
theorem dX5_goBack_43 : decode cX5_goBack 43 = .ok (.putfield 48, 3) := by decide +kernel
theorem dX5_goBack_46 : decode cX5_goBack 46 = .ok (.iconst 1, 1) := by decide +kernel
theorem dX5_goBack_47 : decode cX5_goBack 47 = .ok (.ireturn, 1) := by decide +kernel
theorem dX5_isWithin_0 : decode cX5_isWithin 0 = .ok (.iload_n 0, 1) := by decide +kernel
theorem dX5_isWithin_1 : decode cX5_isWithin 1 = .ok (.iload_n 1, 1) := by decide +kernel
theorem dX5_isWithin_2 : decode cX5_isWithin 2 = .ok (.if_icmp .lt 12, 3) := by decide +kernel
theorem dX5_isWithin_5 : decode cX5_isWithin 5 = .ok (.iload_n 0, 1) := by decide +kernel
theorem dX5_isWithin_6 : decode cX5_isWithin 6 = .ok (.iload_n 2, 1) := by decide +kernel
theorem dX5_isWithin_7 : decode cX5_isWithin 7 = .ok (.if_icmp .gt 7, 3) := by decide +kernel
theorem dX5_isWithin_10 : decode cX5_isWithin 10 = .ok (.iconst 1, 1) := by decide +kernel
theorem dX5_isWithin_11 : decode cX5_isWithin 11 = .ok (.goto 4, 3) := by decide +kernel
theorem dX5_isWithin_14 : decode cX5_isWithin 14 = .ok (.iconst 0, 1) := by decide +kernel
theorem dX5_isWithin_15 : decode cX5_isWithin 15 = .ok (.ireturn, 1) := by decide +kernel
set_option maxRecDepth 20000 in
theorem ggX5_isPiece_X5_isWithin : GoodIn wsX5_isPiece wsX5_isWithin := goodIn_r _ [4] (by decide +kernel) (by decide +kernel)
set_option maxRecDepth 20000 in
theorem gX5_isPiece_X5_isWithin : GoodIn wsX5_isPiece (va_wsS RX5 57 yX5_isWithin wsX5_isWithin) := goodIn_app (goodIn_of _ (by decide +kernel)) ggX5_isPiece_X5_isWithin
theorem dX5_isPiece_0 : decode cX5_isPiece 0 = .ok (.iload_n 0, 1) := by decide +kernel
theorem dX5_isPiece_1 : decode cX5_isPiece 1 = .ok (.iconst 0, 1) := by decide +kernel
theorem dX5_isPiece_2 : decode cX5_isPiece 2 = .ok (.iconst 3, 1) := by decide +kernel
theorem dX5_isPiece_3 : decode cX5_isPiece 3 = .ok (.invokestatic 57, 3) := by decide +kernel
theorem dX5_isPiece_6 : decode cX5_isPiece 6 = .ok (.ireturn, 1) := by decide +kernel
set_option maxRecDepth 20000 in
theorem ggX5_isRow_X5_isWithin : GoodIn wsX5_isRow wsX5_isWithin := goodIn_r _ [4] (by decide +kernel) (by decide +kernel)
set_option maxRecDepth 20000 in
theorem gX5_isRow_X5_isWithin : GoodIn wsX5_isRow (va_wsS RX5 57 yX5_isWithin wsX5_isWithin) := goodIn_app (goodIn_of _ (by decide +kernel)) ggX5_isRow_X5_isWithin
theorem dX5_isRow_0 : decode cX5_isRow 0 = .ok (.iload_n 0, 1) := by decide +kernel
theorem dX5_isRow_1 : decode cX5_isRow 1 = .ok (.iconst 0, 1) := by decide +kernel
theorem dX5_isRow_2 : decode cX5_isRow 2 = .ok (.iconst 4, 1) := by decide +kernel
theorem dX5_isRow_3 : decode cX5_isRow 3 = .ok (.invokestatic 57, 3) := by decide +kernel
theorem dX5_isRow_6 : decode cX5_isRow 6 = .ok (.ireturn, 1) := by decide +kernel
set_option maxRecDepth 20000 in
theorem ggX5_isWindow_X5_isRow : GoodIn wsX5_isWindow wsX5_isRow := goodIn_r _ [5, 6, 7, 4, 8] (by decide +kernel) (by decide +kernel)
set_option maxRecDepth 20000 in
theorem gX5_isWindow_X5_isRow : GoodIn wsX5_isWindow (va_wsS RX5 52 yX5_isRow wsX5_isRow) := goodIn_app (goodIn_of _ (by decide +kernel)) ggX5_isWindow_X5_isRow
set_option maxRecDepth 20000 in
theorem ggX5_isWindow_X4_windowsOf : GoodIn wsX5_isWindow wsX4_windowsOf := goodIn_r _ [13, 14, 22, 23, 24, 25] (by decide +kernel) (by decide +kernel)
set_option maxRecDepth 20000 in
theorem gX5_isWindow_X4_windowsOf : GoodIn wsX5_isWindow (wsV RX5 82 RX4 yX4_windowsOf wsX4_windowsOf) := goodIn_app (goodIn_of _ (by decide +kernel)) ggX5_isWindow_X4_windowsOf
set_option maxRecDepth 20000 in
theorem ggX5_isWindow_X5_isWithin : GoodIn wsX5_isWindow wsX5_isWithin := goodIn_r _ [8] (by decide +kernel) (by decide +kernel)
set_option maxRecDepth 20000 in
theorem gX5_isWindow_X5_isWithin : GoodIn wsX5_isWindow (va_wsS RX5 57 yX5_isWithin wsX5_isWithin) := goodIn_app (goodIn_of _ (by decide +kernel)) ggX5_isWindow_X5_isWithin
theorem dX5_isWindow_0 : decode cX5_isWindow 0 = .ok (.iload_n 1, 1) := by decide +kernel
theorem dX5_isWindow_1 : decode cX5_isWindow 1 = .ok (.invokestatic 52, 3) := by decide +kernel
theorem dX5_isWindow_4 : decode cX5_isWindow 4 = .ok (.ifCond .eq 25, 3) := by decide +kernel
theorem dX5_isWindow_7 : decode cX5_isWindow 7 = .ok (.iload_n 2, 1) := by decide +kernel
theorem dX5_isWindow_8 : decode cX5_isWindow 8 = .ok (.iconst 0, 1) := by decide +kernel
theorem dX5_isWindow_9 : decode cX5_isWindow 9 = .ok (.aload_n 0, 1) := by decide +kernel
theorem dX5_isWindow_10 : decode cX5_isWindow 10 = .ok (.getfield 10, 3) := by decide +kernel
theorem dX5_isWindow_13 : decode cX5_isWindow 13 = .ok (.iload_n 1, 1) := by decide +kernel
theorem dX5_isWindow_14 : decode cX5_isWindow 14 = .ok (.invokevirtual 82, 3) := by decide +kernel
theorem dX5_isWindow_17 : decode cX5_isWindow 17 = .ok (.iconst 1, 1) := by decide +kernel
theorem dX5_isWindow_18 : decode cX5_isWindow 18 = .ok (.isub, 1) := by decide +kernel
theorem dX5_isWindow_19 : decode cX5_isWindow 19 = .ok (.invokestatic 57, 3) := by decide +kernel
theorem dX5_isWindow_22 : decode cX5_isWindow 22 = .ok (.ifCond .eq 7, 3) := by decide +kernel
theorem dX5_isWindow_25 : decode cX5_isWindow 25 = .ok (.iconst 1, 1) := by decide +kernel
theorem dX5_isWindow_26 : decode cX5_isWindow 26 = .ok (.goto 4, 3) := by decide +kernel
theorem dX5_isWindow_29 : decode cX5_isWindow 29 = .ok (.iconst 0, 1) := by decide +kernel
theorem dX5_isWindow_30 : decode cX5_isWindow 30 = .ok (.ireturn, 1) := by decide +kernel
theorem dX5_lotAfter_0 : decode cX5_lotAfter 0 = .ok (.iload_n 0, 1) := by decide +kernel
theorem dX5_lotAfter_1 : decode cX5_lotAfter 1 = .ok (.i2l, 1) := by decide +kernel
theorem dX5_lotAfter_2 : decode cX5_lotAfter 2 = .ok (.ldc2_w 201, 3) := by decide +kernel
theorem dX5_lotAfter_5 : decode cX5_lotAfter 5 = .ok (.lmul, 1) := by decide +kernel
theorem dX5_lotAfter_6 : decode cX5_lotAfter 6 = .ok (.ldc2_w 203, 3) := by decide +kernel
theorem dX5_lotAfter_9 : decode cX5_lotAfter 9 = .ok (.lrem, 1) := by decide +kernel
theorem dX5_lotAfter_10 : decode cX5_lotAfter 10 = .ok (.l2i, 1) := by decide +kernel
theorem dX5_lotAfter_11 : decode cX5_lotAfter 11 = .ok (.ireturn, 1) := by decide +kernel
set_option maxRecDepth 20000 in
theorem ggX5_beforeChange_X2_remember : GoodIn wsX5_beforeChange wsX2_remember := goodIn_r _ [8, 9, 10, 11, 12, 13, 14, 15, 16, 17, 18, 19, 20, 21, 22, 23, 24, 25, 26, 27, 28, 29, 30, 31, 32, 33, 34, 35, 36, 37, 38, 39, 40, 41, 42, 43, 44, 52, 53, 54, 55, 56, 57, 58, 59, 60, 61, 62] (by decide +kernel) (by decide +kernel)
set_option maxRecDepth 20000 in
theorem gX5_beforeChange_X2_remember : GoodIn wsX5_beforeChange (wsV RX5 205 RX2 yX2_remember wsX2_remember) := goodIn_app (goodIn_of _ (by decide +kernel)) ggX5_beforeChange_X2_remember
theorem dX5_beforeChange_0 : decode cX5_beforeChange 0 = .ok (.aload_n 0, 1) := by decide +kernel
theorem dX5_beforeChange_1 : decode cX5_beforeChange 1 = .ok (.getfield 19, 3) := by decide +kernel
theorem dX5_beforeChange_4 : decode cX5_beforeChange 4 = .ok (.aload_n 0, 1) := by decide +kernel
theorem dX5_beforeChange_5 : decode cX5_beforeChange 5 = .ok (.getfield 10, 3) := by decide +kernel
theorem dX5_beforeChange_8 : decode cX5_beforeChange 8 = .ok (.iload_n 1, 1) := by decide +kernel
theorem dX5_beforeChange_9 : decode cX5_beforeChange 9 = .ok (.invokevirtual 205, 3) := by decide +kernel
theorem dX5_beforeChange_12 : decode cX5_beforeChange 12 = .ok (.aload_n 0, 1) := by decide +kernel
theorem dX5_beforeChange_13 : decode cX5_beforeChange 13 = .ok (.iconst 0, 1) := by decide +kernel
theorem dX5_beforeChange_14 : decode cX5_beforeChange 14 = .ok (.putfield 48, 3) := by decide +kernel
theorem dX5_beforeChange_17 : decode cX5_beforeChange 17 = .ok (.return_, 1) := by decide +kernel
set_option maxRecDepth 20000 in
theorem ggX5_changeFloor_X5_beforeChange : GoodIn wsX5_changeFloor wsX5_beforeChange := goodIn_r _ [6, 7, 1, 8, 9, 10, 11, 12, 13, 14, 15, 16, 17, 18, 19, 20, 21, 22, 23, 24, 25, 26, 27, 28, 29, 30, 31, 32, 33, 34, 35, 36, 37, 38, 39, 40, 41, 42, 43, 44, 45, 46, 47, 48, 49, 55, 56, 57, 58, 59, 60, 61, 62, 63, 64, 65, 66, 67, 68, 69, 70, 71, 72] (by decide +kernel) (by decide +kernel)
set_option maxRecDepth 20000 in
theorem gX5_changeFloor_X5_beforeChange : GoodIn wsX5_changeFloor (wsV RX5 67 RX5 yX5_beforeChange wsX5_beforeChange) := goodIn_app (goodIn_of _ (by decide +kernel)) ggX5_changeFloor_X5_beforeChange
set_option maxRecDepth 20000 in
theorem ggX5_changeFloor_X4_floor : GoodIn wsX5_changeFloor wsX4_floor := goodIn_r _ [43, 44, 69, 70, 71, 72] (by decide +kernel) (by decide +kernel)
set_option maxRecDepth 20000 in
theorem gX5_changeFloor_X4_floor : GoodIn wsX5_changeFloor (wsV RX5 119 RX4 yX4_floor wsX4_floor) := goodIn_app (goodIn_of _ (by decide +kernel)) ggX5_changeFloor_X4_floor
set_option maxRecDepth 20000 in
theorem ggX5_changeFloor_X4_setFloor : GoodIn wsX5_changeFloor wsX4_setFloor := goodIn_r _ [54, 44, 69, 70, 71, 72] (by decide +kernel) (by decide +kernel)
set_option maxRecDepth 20000 in
theorem gX5_changeFloor_X4_setFloor : GoodIn wsX5_changeFloor (wsV RX5 209 RX4 yX4_setFloor wsX4_setFloor) := goodIn_app (goodIn_of _ (by decide +kernel)) ggX5_changeFloor_X4_setFloor
theorem dX5_changeFloor_0 : decode cX5_changeFloor 0 = .ok (.aload_n 0, 1) := by decide +kernel
theorem dX5_changeFloor_1 : decode cX5_changeFloor 1 = .ok (.iconst 4, 1) := by decide +kernel
theorem dX5_changeFloor_2 : decode cX5_changeFloor 2 = .ok (.invokevirtual 67, 3) := by decide +kernel
theorem dX5_changeFloor_5 : decode cX5_changeFloor 5 = .ok (.aload_n 0, 1) := by decide +kernel
theorem dX5_changeFloor_6 : decode cX5_changeFloor 6 = .ok (.getfield 10, 3) := by decide +kernel
theorem dX5_changeFloor_9 : decode cX5_changeFloor 9 = .ok (.invokevirtual 119, 3) := by decide +kernel
theorem dX5_changeFloor_12 : decode cX5_changeFloor 12 = .ok (.istore_n 2, 1) := by decide +kernel
theorem dX5_changeFloor_13 : decode cX5_changeFloor 13 = .ok (.aload_n 0, 1) := by decide +kernel
theorem dX5_changeFloor_14 : decode cX5_changeFloor 14 = .ok (.getfield 10, 3) := by decide +kernel
theorem dX5_changeFloor_17 : decode cX5_changeFloor 17 = .ok (.iload_n 1, 1) := by decide +kernel
theorem dX5_changeFloor_18 : decode cX5_changeFloor 18 = .ok (.invokevirtual 209, 3) := by decide +kernel
theorem dX5_changeFloor_21 : decode cX5_changeFloor 21 = .ok (.iload_n 2, 1) := by decide +kernel
theorem dX5_changeFloor_22 : decode cX5_changeFloor 22 = .ok (.ireturn, 1) := by decide +kernel
set_option maxRecDepth 20000 in
theorem ggX5_changeReach_X5_beforeChange : GoodIn wsX5_changeReach wsX5_beforeChange := goodIn_r _ [6, 7, 1, 8, 9, 10, 11, 12, 13, 14, 15, 16, 17, 18, 19, 20, 21, 22, 23, 24, 25, 26, 27, 28, 29, 30, 31, 32, 33, 34, 35, 36, 37, 38, 39, 40, 41, 42, 43, 44, 45, 46, 47, 48, 49, 55, 56, 57, 58, 59, 60, 61, 62, 63, 64, 65, 66, 67, 68, 69, 70, 71, 72] (by decide +kernel) (by decide +kernel)
set_option maxRecDepth 20000 in
theorem gX5_changeReach_X5_beforeChange : GoodIn wsX5_changeReach (wsV RX5 67 RX5 yX5_beforeChange wsX5_beforeChange) := goodIn_app (goodIn_of _ (by decide +kernel)) ggX5_changeReach_X5_beforeChange
set_option maxRecDepth 20000 in
theorem ggX5_changeReach_X4_reach : GoodIn wsX5_changeReach wsX4_reach := goodIn_r _ [48, 49, 69, 70, 71, 72] (by decide +kernel) (by decide +kernel)
set_option maxRecDepth 20000 in
theorem gX5_changeReach_X4_reach : GoodIn wsX5_changeReach (wsV RX5 122 RX4 yX4_reach wsX4_reach) := goodIn_app (goodIn_of _ (by decide +kernel)) ggX5_changeReach_X4_reach
set_option maxRecDepth 20000 in
theorem ggX5_changeReach_X4_setReach : GoodIn wsX5_changeReach wsX4_setReach := goodIn_r _ [54, 49, 69, 70, 71, 72] (by decide +kernel) (by decide +kernel)
set_option maxRecDepth 20000 in
theorem gX5_changeReach_X4_setReach : GoodIn wsX5_changeReach (wsV RX5 212 RX4 yX4_setReach wsX4_setReach) := goodIn_app (goodIn_of _ (by decide +kernel)) ggX5_changeReach_X4_setReach
theorem dX5_changeReach_0 : decode cX5_changeReach 0 = .ok (.aload_n 0, 1) := by decide +kernel
theorem dX5_changeReach_1 : decode cX5_changeReach 1 = .ok (.iconst 4, 1) := by decide +kernel
theorem dX5_changeReach_2 : decode cX5_changeReach 2 = .ok (.invokevirtual 67, 3) := by decide +kernel
theorem dX5_changeReach_5 : decode cX5_changeReach 5 = .ok (.aload_n 0, 1) := by decide +kernel
theorem dX5_changeReach_6 : decode cX5_changeReach 6 = .ok (.getfield 10, 3) := by decide +kernel
theorem dX5_changeReach_9 : decode cX5_changeReach 9 = .ok (.invokevirtual 122, 3) := by decide +kernel
theorem dX5_changeReach_12 : decode cX5_changeReach 12 = .ok (.istore_n 2, 1) := by decide +kernel
theorem dX5_changeReach_13 : decode cX5_changeReach 13 = .ok (.aload_n 0, 1) := by decide +kernel
theorem dX5_changeReach_14 : decode cX5_changeReach 14 = .ok (.getfield 10, 3) := by decide +kernel
theorem dX5_changeReach_17 : decode cX5_changeReach 17 = .ok (.iload_n 1, 1) := by decide +kernel
theorem dX5_changeReach_18 : decode cX5_changeReach 18 = .ok (.invokevirtual 212, 3) := by decide +kernel
theorem dX5_changeReach_21 : decode cX5_changeReach 21 = .ok (.iload_n 2, 1) := by decide +kernel
theorem dX5_changeReach_22 : decode cX5_changeReach 22 = .ok (.ireturn, 1) := by decide +kernel
set_option maxRecDepth 20000 in
theorem ggX5_refresh_X3_look : GoodIn wsX5_refresh wsX3_look := goodIn_r _ [10, 11, 12, 13, 14, 15, 16, 17, 18, 19, 20, 9, 21, 22, 23, 24, 25, 26, 27, 28, 29, 30, 31, 32, 33, 34, 35, 36, 37, 38, 39, 40, 41, 42, 43, 44, 119, 120, 121, 122, 123, 124, 125] (by decide +kernel) (by decide +kernel)
set_option maxRecDepth 20000 in
theorem gX5_refresh_X3_look : GoodIn wsX5_refresh (wsV RX5 215 RX3 yX3_look wsX3_look) := goodIn_app (goodIn_of _ (by decide +kernel)) ggX5_refresh_X3_look
set_option maxRecDepth 20000 in
theorem ggX5_refresh_X4_reach : GoodIn wsX5_refresh wsX4_reach := goodIn_r _ [48, 49, 122, 123, 124, 125] (by decide +kernel) (by decide +kernel)
set_option maxRecDepth 20000 in
theorem gX5_refresh_X4_reach : GoodIn wsX5_refresh (wsV RX5 122 RX4 yX4_reach wsX4_reach) := goodIn_app (goodIn_of _ (by decide +kernel)) ggX5_refresh_X4_reach
set_option maxRecDepth 20000 in
theorem ggX5_refresh_X1_write : GoodIn wsX5_refresh wsX1_write := goodIn_r _ [54, 55, 56, 57, 53, 58, 59, 60, 61, 62, 9, 63, 64, 65, 66, 67, 11, 68, 69, 70, 71, 72, 73, 74, 75, 76, 77, 78, 126, 127, 128, 129, 119, 120, 121] (by decide +kernel) (by decide +kernel)
set_option maxRecDepth 20000 in
theorem gX5_refresh_X1_write : GoodIn wsX5_refresh (wsV RX5 218 RX1 yX1_write wsX1_write) := goodIn_app (goodIn_of _ (by decide +kernel)) ggX5_refresh_X1_write
set_option maxRecDepth 20000 in
theorem ggX5_refresh_X0_cast : GoodIn wsX5_refresh wsX0_cast := goodIn_r _ [83, 84, 85, 86, 87, 82, 88, 89, 90, 91, 92, 93, 61, 62, 9, 63, 64, 65, 66, 67, 11, 94, 95, 96, 97, 98, 99, 100, 53, 101, 73, 102, 103, 104, 105, 78, 106, 107, 108, 109, 110, 111, 130, 131, 132, 133, 134, 135, 119, 120, 121, 126, 127, 128, 129] (by decide +kernel) (by decide +kernel)
set_option maxRecDepth 20000 in
theorem gX5_refresh_X0_cast : GoodIn wsX5_refresh (wsV RX5 222 RX0 yX0_cast wsX0_cast) := goodIn_app (goodIn_of _ (by decide +kernel)) ggX5_refresh_X0_cast
theorem dX5_refresh_0 : decode cX5_refresh 0 = .ok (.aload_n 0, 1) := by decide +kernel
theorem dX5_refresh_1 : decode cX5_refresh 1 = .ok (.getfield 48, 3) := by decide +kernel
theorem dX5_refresh_4 : decode cX5_refresh 4 = .ok (.ifCond .eq 4, 3) := by decide +kernel
theorem dX5_refresh_7 : decode cX5_refresh 7 = .ok (.return_, 1) := by decide +kernel
theorem dX5_refresh_8 : decode cX5_refresh 8 = .ok (.aload_n 0, 1) := by decide +kernel
theorem dX5_refresh_9 : decode cX5_refresh 9 = .ok (.getfield 30, 3) := by decide +kernel
theorem dX5_refresh_12 : decode cX5_refresh 12 = .ok (.aload_n 0, 1) := by decide +kernel
theorem dX5_refresh_13 : decode cX5_refresh 13 = .ok (.getfield 10, 3) := by decide +kernel
theorem dX5_refresh_16 : decode cX5_refresh 16 = .ok (.invokevirtual 215, 3) := by decide +kernel
theorem dX5_refresh_19 : decode cX5_refresh 19 = .ok (.aload_n 0, 1) := by decide +kernel
theorem dX5_refresh_20 : decode cX5_refresh 20 = .ok (.getfield 37, 3) := by decide +kernel
theorem dX5_refresh_23 : decode cX5_refresh 23 = .ok (.aload_n 0, 1) := by decide +kernel
theorem dX5_refresh_24 : decode cX5_refresh 24 = .ok (.getfield 30, 3) := by decide +kernel
theorem dX5_refresh_27 : decode cX5_refresh 27 = .ok (.aload_n 0, 1) := by decide +kernel
theorem dX5_refresh_28 : decode cX5_refresh 28 = .ok (.getfield 10, 3) := by decide +kernel
theorem dX5_refresh_31 : decode cX5_refresh 31 = .ok (.invokevirtual 122, 3) := by decide +kernel
theorem dX5_refresh_34 : decode cX5_refresh 34 = .ok (.invokevirtual 218, 3) := by decide +kernel
theorem dX5_refresh_37 : decode cX5_refresh 37 = .ok (.aload_n 0, 1) := by decide +kernel
theorem dX5_refresh_38 : decode cX5_refresh 38 = .ok (.getfield 44, 3) := by decide +kernel
theorem dX5_refresh_41 : decode cX5_refresh 41 = .ok (.aload_n 0, 1) := by decide +kernel
theorem dX5_refresh_42 : decode cX5_refresh 42 = .ok (.getfield 30, 3) := by decide +kernel
theorem dX5_refresh_45 : decode cX5_refresh 45 = .ok (.aload_n 0, 1) := by decide +kernel
theorem dX5_refresh_46 : decode cX5_refresh 46 = .ok (.getfield 37, 3) := by decide +kernel
theorem dX5_refresh_49 : decode cX5_refresh 49 = .ok (.aload_n 0, 1) := by decide +kernel
theorem dX5_refresh_50 : decode cX5_refresh 50 = .ok (.getfield 10, 3) := by decide +kernel
theorem dX5_refresh_53 : decode cX5_refresh 53 = .ok (.invokevirtual 122, 3) := by decide +kernel
theorem dX5_refresh_56 : decode cX5_refresh 56 = .ok (.invokevirtual 222, 3) := by decide +kernel
theorem dX5_refresh_59 : decode cX5_refresh 59 = .ok (.aload_n 0, 1) := by decide +kernel
theorem dX5_refresh_60 : decode cX5_refresh 60 = .ok (.iconst 1, 1) := by decide +kernel
theorem dX5_refresh_61 : decode cX5_refresh 61 = .ok (.putfield 48, 3) := by decide +kernel
theorem dX5_refresh_64 : decode cX5_refresh 64 = .ok (.return_, 1) := by decide +kernel
theorem dX6_init_0 : decode cX6_init 0 = .ok (.aload_n 0, 1) := by decide +kernel
theorem dX6_init_1 : decode cX6_init 1 = .ok (.invokespecial 1, 3) := by decide +kernel
theorem dX6_init_4 : decode cX6_init 4 = .ok (.aload_n 0, 1) := by decide +kernel
theorem dX6_init_5 : decode cX6_init 5 = .ok (.sipush 647, 3) := by decide +kernel
theorem dX6_init_8 : decode cX6_init 8 = .ok (.newarray .int, 2) := by decide +kernel
theorem dX6_init_10 : decode cX6_init 10 = .ok (.putfield 7, 3) := by decide +kernel
theorem dX6_init_13 : decode cX6_init 13 = .ok (.aload_n 0, 1) := by decide +kernel
theorem dX6_init_14 : decode cX6_init 14 = .ok (.sipush 5176, 3) := by decide +kernel
theorem dX6_init_17 : decode cX6_init 17 = .ok (.newarray .int, 2) := by decide +kernel
theorem dX6_init_19 : decode cX6_init 19 = .ok (.putfield 13, 3) := by decide +kernel
theorem dX6_init_22 : decode cX6_init 22 = .ok (.aload_n 0, 1) := by decide +kernel
theorem dX6_init_23 : decode cX6_init 23 = .ok (.sipush 1294, 3) := by decide +kernel
theorem dX6_init_26 : decode cX6_init 26 = .ok (.newarray .int, 2) := by decide +kernel
theorem dX6_init_28 : decode cX6_init 28 = .ok (.putfield 16, 3) := by decide +kernel
theorem dX6_init_31 : decode cX6_init 31 = .ok (.aload_n 0, 1) := by decide +kernel
theorem dX6_init_32 : decode cX6_init 32 = .ok (.iconst 2, 1) := by decide +kernel
theorem dX6_init_33 : decode cX6_init 33 = .ok (.newarray .boolean, 2) := by decide +kernel
theorem dX6_init_35 : decode cX6_init 35 = .ok (.putfield 19, 3) := by decide +kernel
theorem dX6_init_38 : decode cX6_init 38 = .ok (.aload_n 0, 1) := by decide +kernel
theorem dX6_init_39 : decode cX6_init 39 = .ok (.bipush 8, 2) := by decide +kernel
theorem dX6_init_41 : decode cX6_init 41 = .ok (.newarray .int, 2) := by decide +kernel
theorem dX6_init_43 : decode cX6_init 43 = .ok (.putfield 23, 3) := by decide +kernel
theorem dX6_init_46 : decode cX6_init 46 = .ok (.aload_n 0, 1) := by decide +kernel
theorem dX6_init_47 : decode cX6_init 47 = .ok (.bipush 80, 2) := by decide +kernel
theorem dX6_init_49 : decode cX6_init 49 = .ok (.newarray .int, 2) := by decide +kernel
theorem dX6_init_51 : decode cX6_init 51 = .ok (.putfield 26, 3) := by decide +kernel
theorem dX6_init_54 : decode cX6_init 54 = .ok (.aload_n 0, 1) := by decide +kernel
theorem dX6_init_55 : decode cX6_init 55 = .ok (.bipush 124, 2) := by decide +kernel
theorem dX6_init_57 : decode cX6_init 57 = .ok (.newarray .int, 2) := by decide +kernel
theorem dX6_init_59 : decode cX6_init 59 = .ok (.putfield 29, 3) := by decide +kernel
theorem dX6_init_62 : decode cX6_init 62 = .ok (.aload_n 0, 1) := by decide +kernel
theorem dX6_init_63 : decode cX6_init 63 = .ok (.bipush 124, 2) := by decide +kernel
theorem dX6_init_65 : decode cX6_init 65 = .ok (.newarray .boolean, 2) := by decide +kernel
theorem dX6_init_67 : decode cX6_init 67 = .ok (.putfield 32, 3) := by decide +kernel
theorem dX6_init_70 : decode cX6_init 70 = .ok (.aload_n 0, 1) := by decide +kernel
theorem dX6_init_71 : decode cX6_init 71 = .ok (.getfield 7, 3) := by decide +kernel
theorem dX6_init_74 : decode cX6_init 74 = .ok (.iconst 0, 1) := by decide +kernel
theorem dX6_init_75 : decode cX6_init 75 = .ok (.bipush 50, 2) := by decide +kernel
theorem dX6_init_77 : decode cX6_init 77 = .ok (.iastore, 1) := by decide +kernel
theorem dX6_init_78 : decode cX6_init 78 = .ok (.aload_n 0, 1) := by decide +kernel
theorem dX6_init_79 : decode cX6_init 79 = .ok (.getfield 7, 3) := by decide +kernel
theorem dX6_init_82 : decode cX6_init 82 = .ok (.iconst 1, 1) := by decide +kernel
theorem dX6_init_83 : decode cX6_init 83 = .ok (.iconst 3, 1) := by decide +kernel
theorem dX6_init_84 : decode cX6_init 84 = .ok (.iastore, 1) := by decide +kernel
theorem dX6_init_85 : decode cX6_init 85 = .ok (.return_, 1) := by decide +kernel
theorem dX6_in_0 : decode cX6_in 0 = .ok (.iload_n 0, 1) := by decide +kernel
theorem dX6_in_1 : decode cX6_in 1 = .ok (.iload_n 1, 1) := by decide +kernel
theorem dX6_in_2 : decode cX6_in 2 = .ok (.if_icmp .lt 12, 3) := by decide +kernel
theorem dX6_in_5 : decode cX6_in 5 = .ok (.iload_n 0, 1) := by decide +kernel
theorem dX6_in_6 : decode cX6_in 6 = .ok (.iload_n 2, 1) := by decide +kernel
theorem dX6_in_7 : decode cX6_in 7 = .ok (.if_icmp .gt 7, 3) := by decide +kernel
theorem dX6_in_10 : decode cX6_in 10 = .ok (.iconst 1, 1) := by decide +kernel
theorem dX6_in_11 : decode cX6_in 11 = .ok (.goto 4, 3) := by decide +kernel
theorem dX6_in_14 : decode cX6_in 14 = .ok (.iconst 0, 1) := by decide +kernel
theorem dX6_in_15 : decode cX6_in 15 = .ok (.ireturn, 1) := by decide +kernel
set_option maxRecDepth 20000 in
theorem ggX6_isRow_X6_in : GoodIn wsX6_isRow wsX6_in := goodIn_r _ [4] (by decide +kernel) (by decide +kernel)
set_option maxRecDepth 20000 in
theorem gX6_isRow_X6_in : GoodIn wsX6_isRow (va_wsS RX6 35 yX6_in wsX6_in) := goodIn_app (goodIn_of _ (by decide +kernel)) ggX6_isRow_X6_in
theorem dX6_isRow_0 : decode cX6_isRow 0 = .ok (.iload_n 0, 1) := by decide +kernel
theorem dX6_isRow_1 : decode cX6_isRow 1 = .ok (.iconst 0, 1) := by decide +kernel
theorem dX6_isRow_2 : decode cX6_isRow 2 = .ok (.iconst 4, 1) := by decide +kernel
theorem dX6_isRow_3 : decode cX6_isRow 3 = .ok (.invokestatic 35, 3) := by decide +kernel
theorem dX6_isRow_6 : decode cX6_isRow 6 = .ok (.ireturn, 1) := by decide +kernel
theorem dX6_windows_0 : decode cX6_windows 0 = .ok (.aload_n 0, 1) := by decide +kernel
theorem dX6_windows_1 : decode cX6_windows 1 = .ok (.getfield 7, 3) := by decide +kernel
theorem dX6_windows_4 : decode cX6_windows 4 = .ok (.iconst 2, 1) := by decide +kernel
theorem dX6_windows_5 : decode cX6_windows 5 = .ok (.iload_n 1, 1) := by decide +kernel
theorem dX6_windows_6 : decode cX6_windows 6 = .ok (.iadd, 1) := by decide +kernel
theorem dX6_windows_7 : decode cX6_windows 7 = .ok (.iaload, 1) := by decide +kernel
theorem dX6_windows_8 : decode cX6_windows 8 = .ok (.bipush 8, 2) := by decide +kernel
theorem dX6_windows_10 : decode cX6_windows 10 = .ok (.idiv, 1) := by decide +kernel
theorem dX6_windows_11 : decode cX6_windows 11 = .ok (.ireturn, 1) := by decide +kernel
set_option maxRecDepth 20000 in
theorem ggX6_isWindow_X6_windows : GoodIn wsX6_isWindow wsX6_windows := goodIn_r _ [5, 6, 10, 11, 12, 13, 14, 15, 16, 17, 18] (by decide +kernel) (by decide +kernel)
set_option maxRecDepth 20000 in
theorem gX6_isWindow_X6_windows : GoodIn wsX6_isWindow (wsV RX6 39 RX6 yX6_windows wsX6_windows) := goodIn_app (goodIn_of _ (by decide +kernel)) ggX6_isWindow_X6_windows
set_option maxRecDepth 20000 in
theorem ggX6_isWindow_X6_in : GoodIn wsX6_isWindow wsX6_in := goodIn_r _ [9] (by decide +kernel) (by decide +kernel)
set_option maxRecDepth 20000 in
theorem gX6_isWindow_X6_in : GoodIn wsX6_isWindow (va_wsS RX6 35 yX6_in wsX6_in) := goodIn_app (goodIn_of _ (by decide +kernel)) ggX6_isWindow_X6_in
theorem dX6_isWindow_0 : decode cX6_isWindow 0 = .ok (.iload_n 2, 1) := by decide +kernel
theorem dX6_isWindow_1 : decode cX6_isWindow 1 = .ok (.iconst 0, 1) := by decide +kernel
theorem dX6_isWindow_2 : decode cX6_isWindow 2 = .ok (.aload_n 0, 1) := by decide +kernel
theorem dX6_isWindow_3 : decode cX6_isWindow 3 = .ok (.iload_n 1, 1) := by decide +kernel
theorem dX6_isWindow_4 : decode cX6_isWindow 4 = .ok (.invokevirtual 39, 3) := by decide +kernel
theorem dX6_isWindow_7 : decode cX6_isWindow 7 = .ok (.iconst 1, 1) := by decide +kernel
theorem dX6_isWindow_8 : decode cX6_isWindow 8 = .ok (.isub, 1) := by decide +kernel
theorem dX6_isWindow_9 : decode cX6_isWindow 9 = .ok (.invokestatic 35, 3) := by decide +kernel
theorem dX6_isWindow_12 : decode cX6_isWindow 12 = .ok (.ireturn, 1) := by decide +kernel
theorem dX6_of_0 : decode cX6_of 0 = .ok (.aload_n 0, 1) := by decide +kernel
theorem dX6_of_1 : decode cX6_of 1 = .ok (.getfield 7, 3) := by decide +kernel
theorem dX6_of_4 : decode cX6_of 4 = .ok (.bipush 7, 2) := by decide +kernel
theorem dX6_of_6 : decode cX6_of 6 = .ok (.sipush 128, 3) := by decide +kernel
theorem dX6_of_9 : decode cX6_of 9 = .ok (.iload_n 1, 1) := by decide +kernel
theorem dX6_of_10 : decode cX6_of 10 = .ok (.imul, 1) := by decide +kernel
theorem dX6_of_11 : decode cX6_of 11 = .ok (.iadd, 1) := by decide +kernel
theorem dX6_of_12 : decode cX6_of 12 = .ok (.iload_n 2, 1) := by decide +kernel
theorem dX6_of_13 : decode cX6_of 13 = .ok (.iadd, 1) := by decide +kernel
theorem dX6_of_14 : decode cX6_of 14 = .ok (.iaload, 1) := by decide +kernel
theorem dX6_of_15 : decode cX6_of 15 = .ok (.ireturn, 1) := by decide +kernel
theorem dX6_put_0 : decode cX6_put 0 = .ok (.aload_n 0, 1) := by decide +kernel
theorem dX6_put_1 : decode cX6_put 1 = .ok (.getfield 7, 3) := by decide +kernel
theorem dX6_put_4 : decode cX6_put 4 = .ok (.bipush 7, 2) := by decide +kernel
theorem dX6_put_6 : decode cX6_put 6 = .ok (.sipush 128, 3) := by decide +kernel
theorem dX6_put_9 : decode cX6_put 9 = .ok (.iload_n 1, 1) := by decide +kernel
theorem dX6_put_10 : decode cX6_put 10 = .ok (.imul, 1) := by decide +kernel
theorem dX6_put_11 : decode cX6_put 11 = .ok (.iadd, 1) := by decide +kernel
theorem dX6_put_12 : decode cX6_put 12 = .ok (.iload_n 2, 1) := by decide +kernel
theorem dX6_put_13 : decode cX6_put 13 = .ok (.iadd, 1) := by decide +kernel
theorem dX6_put_14 : decode cX6_put 14 = .ok (.iload_n 3, 1) := by decide +kernel
theorem dX6_put_15 : decode cX6_put 15 = .ok (.iastore, 1) := by decide +kernel
theorem dX6_put_16 : decode cX6_put 16 = .ok (.return_, 1) := by decide +kernel
theorem dX6_notes_0 : decode cX6_notes 0 = .ok (.aload_n 0, 1) := by decide +kernel
theorem dX6_notes_1 : decode cX6_notes 1 = .ok (.getfield 43, 3) := by decide +kernel
theorem dX6_notes_4 : decode cX6_notes 4 = .ok (.bipush 8, 2) := by decide +kernel
theorem dX6_notes_6 : decode cX6_notes 6 = .ok (.if_icmp .ne 44, 3) := by decide +kernel
theorem dX6_notes_9 : decode cX6_notes 9 = .ok (.iconst 0, 1) := by decide +kernel
theorem dX6_notes_10 : decode cX6_notes 10 = .ok (.istore_n 1, 1) := by decide +kernel
theorem dX6_notes_11 : decode cX6_notes 11 = .ok (.iload_n 1, 1) := by decide +kernel
theorem dX6_notes_12 : decode cX6_notes 12 = .ok (.sipush 4529, 3) := by decide +kernel
theorem dX6_notes_15 : decode cX6_notes 15 = .ok (.if_icmp .ge 25, 3) := by decide +kernel
theorem dX6_notes_18 : decode cX6_notes 18 = .ok (.aload_n 0, 1) := by decide +kernel
theorem dX6_notes_19 : decode cX6_notes 19 = .ok (.getfield 13, 3) := by decide +kernel
theorem dX6_notes_22 : decode cX6_notes 22 = .ok (.iload_n 1, 1) := by decide +kernel
theorem dX6_notes_23 : decode cX6_notes 23 = .ok (.aload_n 0, 1) := by decide +kernel
theorem dX6_notes_24 : decode cX6_notes 24 = .ok (.getfield 13, 3) := by decide +kernel
theorem dX6_notes_27 : decode cX6_notes 27 = .ok (.iload_n 1, 1) := by decide +kernel
theorem dX6_notes_28 : decode cX6_notes 28 = .ok (.sipush 647, 3) := by decide +kernel
theorem dX6_notes_31 : decode cX6_notes 31 = .ok (.iadd, 1) := by decide +kernel
theorem dX6_notes_32 : decode cX6_notes 32 = .ok (.iaload, 1) := by decide +kernel
theorem dX6_notes_33 : decode cX6_notes 33 = .ok (.iastore, 1) := by decide +kernel
theorem dX6_notes_34 : decode cX6_notes 34 = .ok (.iinc 1 1, 3) := by decide +kernel
theorem dX6_notes_37 : decode cX6_notes 37 = .ok (.goto (-26), 3) := by decide +kernel
theorem dX6_notes_40 : decode cX6_notes 40 = .ok (.aload_n 0, 1) := by decide +kernel
theorem dX6_notes_41 : decode cX6_notes 41 = .ok (.dup, 1) := by decide +kernel
theorem dX6_notes_42 : decode cX6_notes 42 = .ok (.getfield 43, 3) := by decide +kernel
theorem dX6_notes_45 : decode cX6_notes 45 = .ok (.iconst 1, 1) := by decide +kernel
theorem dX6_notes_46 : decode cX6_notes 46 = .ok (.isub, 1) := by decide +kernel
theorem dX6_notes_47 : decode cX6_notes 47 = .ok (.putfield 43, 3) := by decide +kernel
theorem dX6_notes_50 : decode cX6_notes 50 = .ok (.iconst 0, 1) := by decide +kernel
theorem dX6_notes_51 : decode cX6_notes 51 = .ok (.istore_n 1, 1) := by decide +kernel
theorem dX6_notes_52 : decode cX6_notes 52 = .ok (.iload_n 1, 1) := by decide +kernel
theorem dX6_notes_53 : decode cX6_notes 53 = .ok (.sipush 647, 3) := by decide +kernel
theorem dX6_notes_56 : decode cX6_notes 56 = .ok (.if_icmp .ge 30, 3) := by decide +kernel
theorem dX6_notes_59 : decode cX6_notes 59 = .ok (.aload_n 0, 1) := by decide +kernel
theorem dX6_notes_60 : decode cX6_notes 60 = .ok (.getfield 13, 3) := by decide +kernel
theorem dX6_notes_63 : decode cX6_notes 63 = .ok (.sipush 647, 3) := by decide +kernel
theorem dX6_notes_66 : decode cX6_notes 66 = .ok (.aload_n 0, 1) := by decide +kernel
theorem dX6_notes_67 : decode cX6_notes 67 = .ok (.getfield 43, 3) := by decide +kernel
theorem dX6_notes_70 : decode cX6_notes 70 = .ok (.imul, 1) := by decide +kernel
theorem dX6_notes_71 : decode cX6_notes 71 = .ok (.iload_n 1, 1) := by decide +kernel
theorem dX6_notes_72 : decode cX6_notes 72 = .ok (.iadd, 1) := by decide +kernel
theorem dX6_notes_73 : decode cX6_notes 73 = .ok (.aload_n 0, 1) := by decide +kernel
theorem dX6_notes_74 : decode cX6_notes 74 = .ok (.getfield 7, 3) := by decide +kernel
theorem dX6_notes_77 : decode cX6_notes 77 = .ok (.iload_n 1, 1) := by decide +kernel
theorem dX6_notes_78 : decode cX6_notes 78 = .ok (.iaload, 1) := by decide +kernel
theorem dX6_notes_79 : decode cX6_notes 79 = .ok (.iastore, 1) := by decide +kernel
theorem dX6_notes_80 : decode cX6_notes 80 = .ok (.iinc 1 1, 3) := by decide +kernel
theorem dX6_notes_83 : decode cX6_notes 83 = .ok (.goto (-31), 3) := by decide +kernel
theorem dX6_notes_86 : decode cX6_notes 86 = .ok (.aload_n 0, 1) := by decide +kernel
theorem dX6_notes_87 : decode cX6_notes 87 = .ok (.dup, 1) := by decide +kernel
theorem dX6_notes_88 : decode cX6_notes 88 = .ok (.getfield 43, 3) := by decide +kernel
theorem dX6_notes_91 : decode cX6_notes 91 = .ok (.iconst 1, 1) := by decide +kernel
theorem dX6_notes_92 : decode cX6_notes 92 = .ok (.iadd, 1) := by decide +kernel
theorem dX6_notes_93 : decode cX6_notes 93 = .ok (.putfield 43, 3) := by decide +kernel
theorem dX6_notes_96 : decode cX6_notes 96 = .ok (.return_, 1) := by decide +kernel
theorem dX6_drawn_0 : decode cX6_drawn 0 = .ok (.lload_n 0, 1) := by decide +kernel
theorem dX6_drawn_1 : decode cX6_drawn 1 = .ok (.ldc2_w 47, 3) := by decide +kernel
theorem dX6_drawn_4 : decode cX6_drawn 4 = .ok (.lmul, 1) := by decide +kernel
theorem dX6_drawn_5 : decode cX6_drawn 5 = .ok (.ldc2_w 49, 3) := by decide +kernel
theorem dX6_drawn_8 : decode cX6_drawn 8 = .ok (.lrem, 1) := by decide +kernel
theorem dX6_drawn_9 : decode cX6_drawn 9 = .ok (.lreturn, 1) := by decide +kernel
theorem dX6_bounded_0 : decode cX6_bounded 0 = .ok (.iload_n 0, 1) := by decide +kernel
theorem dX6_bounded_1 : decode cX6_bounded 1 = .ok (.bipush 100, 2) := by decide +kernel
theorem dX6_bounded_3 : decode cX6_bounded 3 = .ok (.if_icmp .le 8, 3) := by decide +kernel
theorem dX6_bounded_6 : decode cX6_bounded 6 = .ok (.bipush 100, 2) := by decide +kernel
theorem dX6_bounded_8 : decode cX6_bounded 8 = .ok (.goto 15, 3) := by decide +kernel
theorem dX6_bounded_11 : decode cX6_bounded 11 = .ok (.iload_n 0, 1) := by decide +kernel
theorem dX6_bounded_12 : decode cX6_bounded 12 = .ok (.bipush (-100), 2) := by decide +kernel
theorem dX6_bounded_14 : decode cX6_bounded 14 = .ok (.if_icmp .ge 8, 3) := by decide +kernel
theorem dX6_bounded_17 : decode cX6_bounded 17 = .ok (.bipush (-100), 2) := by decide +kernel
theorem dX6_bounded_19 : decode cX6_bounded 19 = .ok (.goto 4, 3) := by decide +kernel
theorem dX6_bounded_22 : decode cX6_bounded 22 = .ok (.iload_n 0, 1) := by decide +kernel
theorem dX6_bounded_23 : decode cX6_bounded 23 = .ok (.ireturn, 1) := by decide +kernel
set_option maxRecDepth 20000 in
theorem ggX6_add_X6_isRow : GoodIn wsX6_add wsX6_isRow := goodIn_r _ [8, 9, 10, 7, 11] (by decide +kernel) (by decide +kernel)
set_option maxRecDepth 20000 in
theorem gX6_add_X6_isRow : GoodIn wsX6_add (va_wsS RX6 51 yX6_isRow wsX6_isRow) := goodIn_app (goodIn_of _ (by decide +kernel)) ggX6_add_X6_isRow
set_option maxRecDepth 20000 in
theorem ggX6_add_X6_in : GoodIn wsX6_add wsX6_in := goodIn_r _ [11] (by decide +kernel) (by decide +kernel)
set_option maxRecDepth 20000 in
theorem gX6_add_X6_in : GoodIn wsX6_add (va_wsS RX6 35 yX6_in wsX6_in) := goodIn_app (goodIn_of _ (by decide +kernel)) ggX6_add_X6_in
set_option maxRecDepth 20000 in
theorem ggX6_add_X6_notes : GoodIn wsX6_add wsX6_notes := goodIn_r _ [15, 16, 17, 3, 22, 23, 24, 25, 26, 27, 28, 29, 30] (by decide +kernel) (by decide +kernel)
set_option maxRecDepth 20000 in
theorem gX6_add_X6_notes : GoodIn wsX6_add (wsV RX6 58 RX6 yX6_notes wsX6_notes) := goodIn_app (goodIn_of _ (by decide +kernel)) ggX6_add_X6_notes
set_option maxRecDepth 20000 in
theorem ggX6_add_X6_put : GoodIn wsX6_add wsX6_put := goodIn_r _ [21, 3, 22, 23, 24, 25, 26, 27, 28, 29, 30] (by decide +kernel) (by decide +kernel)
set_option maxRecDepth 20000 in
theorem gX6_add_X6_put : GoodIn wsX6_add (wsV RX6 61 RX6 yX6_put wsX6_put) := goodIn_app (goodIn_of _ (by decide +kernel)) ggX6_add_X6_put
theorem dX6_add_0 : decode cX6_add 0 = .ok (.iload_n 1, 1) := by decide +kernel
theorem dX6_add_1 : decode cX6_add 1 = .ok (.invokestatic 51, 3) := by decide +kernel
theorem dX6_add_4 : decode cX6_add 4 = .ok (.ifCond .ne 6, 3) := by decide +kernel
theorem dX6_add_7 : decode cX6_add 7 = .ok (.ldc 55, 2) := by decide +kernel
theorem dX6_add_9 : decode cX6_add 9 = .ok (.ireturn, 1) := by decide +kernel
theorem dX6_add_10 : decode cX6_add 10 = .ok (.iload_n 2, 1) := by decide +kernel
theorem dX6_add_11 : decode cX6_add 11 = .ok (.bipush (-100), 2) := by decide +kernel
theorem dX6_add_13 : decode cX6_add 13 = .ok (.bipush 100, 2) := by decide +kernel
theorem dX6_add_15 : decode cX6_add 15 = .ok (.invokestatic 35, 3) := by decide +kernel
theorem dX6_add_18 : decode cX6_add 18 = .ok (.ifCond .ne 6, 3) := by decide +kernel
theorem dX6_add_21 : decode cX6_add 21 = .ok (.ldc 56, 2) := by decide +kernel
theorem dX6_add_23 : decode cX6_add 23 = .ok (.ireturn, 1) := by decide +kernel
theorem dX6_add_24 : decode cX6_add 24 = .ok (.aload_n 0, 1) := by decide +kernel
theorem dX6_add_25 : decode cX6_add 25 = .ok (.getfield 7, 3) := by decide +kernel
theorem dX6_add_28 : decode cX6_add 28 = .ok (.iconst 2, 1) := by decide +kernel
theorem dX6_add_29 : decode cX6_add 29 = .ok (.iload_n 1, 1) := by decide +kernel
theorem dX6_add_30 : decode cX6_add 30 = .ok (.iadd, 1) := by decide +kernel
theorem dX6_add_31 : decode cX6_add 31 = .ok (.iaload, 1) := by decide +kernel
theorem dX6_add_32 : decode cX6_add 32 = .ok (.sipush 128, 3) := by decide +kernel
theorem dX6_add_35 : decode cX6_add 35 = .ok (.if_icmp .ne 6, 3) := by decide +kernel
theorem dX6_add_38 : decode cX6_add 38 = .ok (.ldc 57, 2) := by decide +kernel
theorem dX6_add_40 : decode cX6_add 40 = .ok (.ireturn, 1) := by decide +kernel
theorem dX6_add_41 : decode cX6_add 41 = .ok (.aload_n 0, 1) := by decide +kernel
theorem dX6_add_42 : decode cX6_add 42 = .ok (.invokevirtual 58, 3) := by decide +kernel
theorem dX6_add_45 : decode cX6_add 45 = .ok (.aload_n 0, 1) := by decide +kernel
theorem dX6_add_46 : decode cX6_add 46 = .ok (.iload_n 1, 1) := by decide +kernel
theorem dX6_add_47 : decode cX6_add 47 = .ok (.aload_n 0, 1) := by decide +kernel
theorem dX6_add_48 : decode cX6_add 48 = .ok (.getfield 7, 3) := by decide +kernel
theorem dX6_add_51 : decode cX6_add 51 = .ok (.iconst 2, 1) := by decide +kernel
theorem dX6_add_52 : decode cX6_add 52 = .ok (.iload_n 1, 1) := by decide +kernel
theorem dX6_add_53 : decode cX6_add 53 = .ok (.iadd, 1) := by decide +kernel
theorem dX6_add_54 : decode cX6_add 54 = .ok (.iaload, 1) := by decide +kernel
theorem dX6_add_55 : decode cX6_add 55 = .ok (.iload_n 2, 1) := by decide +kernel
theorem dX6_add_56 : decode cX6_add 56 = .ok (.invokevirtual 61, 3) := by decide +kernel
theorem dX6_add_59 : decode cX6_add 59 = .ok (.aload_n 0, 1) := by decide +kernel
theorem dX6_add_60 : decode cX6_add 60 = .ok (.getfield 7, 3) := by decide +kernel
theorem dX6_add_63 : decode cX6_add 63 = .ok (.iconst 2, 1) := by decide +kernel
theorem dX6_add_64 : decode cX6_add 64 = .ok (.iload_n 1, 1) := by decide +kernel
theorem dX6_add_65 : decode cX6_add 65 = .ok (.iadd, 1) := by decide +kernel
theorem dX6_add_66 : decode cX6_add 66 = .ok (.dup2, 1) := by decide +kernel
theorem dX6_add_67 : decode cX6_add 67 = .ok (.iaload, 1) := by decide +kernel
theorem dX6_add_68 : decode cX6_add 68 = .ok (.iconst 1, 1) := by decide +kernel
theorem dX6_add_69 : decode cX6_add 69 = .ok (.iadd, 1) := by decide +kernel
theorem dX6_add_70 : decode cX6_add 70 = .ok (.iastore, 1) := by decide +kernel
theorem dX6_add_71 : decode cX6_add 71 = .ok (.aload_n 0, 1) := by decide +kernel
theorem dX6_add_72 : decode cX6_add 72 = .ok (.getfield 7, 3) := by decide +kernel
theorem dX6_add_75 : decode cX6_add 75 = .ok (.iconst 2, 1) := by decide +kernel
theorem dX6_add_76 : decode cX6_add 76 = .ok (.iload_n 1, 1) := by decide +kernel
theorem dX6_add_77 : decode cX6_add 77 = .ok (.iadd, 1) := by decide +kernel
theorem dX6_add_78 : decode cX6_add 78 = .ok (.iaload, 1) := by decide +kernel
theorem dX6_add_79 : decode cX6_add 79 = .ok (.ireturn, 1) := by decide +kernel
set_option maxRecDepth 20000 in
theorem ggX6_wipe_X6_isRow : GoodIn wsX6_wipe wsX6_isRow := goodIn_r _ [6, 7, 8, 5, 9] (by decide +kernel) (by decide +kernel)
set_option maxRecDepth 20000 in
theorem gX6_wipe_X6_isRow : GoodIn wsX6_wipe (va_wsS RX6 51 yX6_isRow wsX6_isRow) := goodIn_app (goodIn_of _ (by decide +kernel)) ggX6_wipe_X6_isRow
set_option maxRecDepth 20000 in
theorem ggX6_wipe_X6_notes : GoodIn wsX6_wipe wsX6_notes := goodIn_r _ [13, 14, 15, 2, 16, 17, 18, 19, 20, 21, 22, 23, 24] (by decide +kernel) (by decide +kernel)
set_option maxRecDepth 20000 in
theorem gX6_wipe_X6_notes : GoodIn wsX6_wipe (wsV RX6 58 RX6 yX6_notes wsX6_notes) := goodIn_app (goodIn_of _ (by decide +kernel)) ggX6_wipe_X6_notes
theorem dX6_wipe_0 : decode cX6_wipe 0 = .ok (.iload_n 1, 1) := by decide +kernel
theorem dX6_wipe_1 : decode cX6_wipe 1 = .ok (.invokestatic 51, 3) := by decide +kernel
theorem dX6_wipe_4 : decode cX6_wipe 4 = .ok (.ifCond .ne 6, 3) := by decide +kernel
theorem dX6_wipe_7 : decode cX6_wipe 7 = .ok (.ldc 55, 2) := by decide +kernel
theorem dX6_wipe_9 : decode cX6_wipe 9 = .ok (.ireturn, 1) := by decide +kernel
theorem dX6_wipe_10 : decode cX6_wipe 10 = .ok (.aload_n 0, 1) := by decide +kernel
theorem dX6_wipe_11 : decode cX6_wipe 11 = .ok (.invokevirtual 58, 3) := by decide +kernel
theorem dX6_wipe_14 : decode cX6_wipe 14 = .ok (.aload_n 0, 1) := by decide +kernel
theorem dX6_wipe_15 : decode cX6_wipe 15 = .ok (.getfield 7, 3) := by decide +kernel
theorem dX6_wipe_18 : decode cX6_wipe 18 = .ok (.iconst 2, 1) := by decide +kernel
theorem dX6_wipe_19 : decode cX6_wipe 19 = .ok (.iload_n 1, 1) := by decide +kernel
theorem dX6_wipe_20 : decode cX6_wipe 20 = .ok (.iadd, 1) := by decide +kernel
theorem dX6_wipe_21 : decode cX6_wipe 21 = .ok (.iaload, 1) := by decide +kernel
theorem dX6_wipe_22 : decode cX6_wipe 22 = .ok (.istore_n 2, 1) := by decide +kernel
theorem dX6_wipe_23 : decode cX6_wipe 23 = .ok (.aload_n 0, 1) := by decide +kernel
theorem dX6_wipe_24 : decode cX6_wipe 24 = .ok (.getfield 7, 3) := by decide +kernel
theorem dX6_wipe_27 : decode cX6_wipe 27 = .ok (.iconst 2, 1) := by decide +kernel
theorem dX6_wipe_28 : decode cX6_wipe 28 = .ok (.iload_n 1, 1) := by decide +kernel
theorem dX6_wipe_29 : decode cX6_wipe 29 = .ok (.iadd, 1) := by decide +kernel
theorem dX6_wipe_30 : decode cX6_wipe 30 = .ok (.iconst 0, 1) := by decide +kernel
theorem dX6_wipe_31 : decode cX6_wipe 31 = .ok (.iastore, 1) := by decide +kernel
theorem dX6_wipe_32 : decode cX6_wipe 32 = .ok (.iload_n 2, 1) := by decide +kernel
theorem dX6_wipe_33 : decode cX6_wipe 33 = .ok (.ireturn, 1) := by decide +kernel
set_option maxRecDepth 20000 in
theorem ggX6_lots_X6_isRow : GoodIn wsX6_lots wsX6_isRow := goodIn_r _ [9, 10, 11, 8, 12] (by decide +kernel) (by decide +kernel)
set_option maxRecDepth 20000 in
theorem gX6_lots_X6_isRow : GoodIn wsX6_lots (va_wsS RX6 51 yX6_isRow wsX6_isRow) := goodIn_app (goodIn_of _ (by decide +kernel)) ggX6_lots_X6_isRow
set_option maxRecDepth 20000 in
theorem ggX6_lots_X6_in : GoodIn wsX6_lots wsX6_in := goodIn_r _ [12] (by decide +kernel) (by decide +kernel)
set_option maxRecDepth 20000 in
theorem gX6_lots_X6_in : GoodIn wsX6_lots (va_wsS RX6 35 yX6_in wsX6_in) := goodIn_app (goodIn_of _ (by decide +kernel)) ggX6_lots_X6_in
set_option maxRecDepth 20000 in
theorem ggX6_lots_X6_notes : GoodIn wsX6_lots wsX6_notes := goodIn_r _ [16, 17, 18, 5, 32, 33, 34, 35, 36, 37, 38, 39, 40] (by decide +kernel) (by decide +kernel)
set_option maxRecDepth 20000 in
theorem gX6_lots_X6_notes : GoodIn wsX6_lots (wsV RX6 58 RX6 yX6_notes wsX6_notes) := goodIn_app (goodIn_of _ (by decide +kernel)) ggX6_lots_X6_notes
set_option maxRecDepth 20000 in
theorem ggX6_lots_X6_drawn : GoodIn wsX6_lots wsX6_drawn := goodIn_r _ [21, 22, 23] (by decide +kernel) (by decide +kernel)
set_option maxRecDepth 20000 in
theorem gX6_lots_X6_drawn : GoodIn wsX6_lots (va_wsS RX6 66 yX6_drawn wsX6_drawn) := goodIn_app (goodIn_of _ (by decide +kernel)) ggX6_lots_X6_drawn
set_option maxRecDepth 20000 in
theorem ggX6_lots_X6_put : GoodIn wsX6_lots wsX6_put := goodIn_r _ [27, 5, 32, 33, 34, 35, 36, 37, 38, 39, 40] (by decide +kernel) (by decide +kernel)
set_option maxRecDepth 20000 in
theorem gX6_lots_X6_put : GoodIn wsX6_lots (wsV RX6 61 RX6 yX6_put wsX6_put) := goodIn_app (goodIn_of _ (by decide +kernel)) ggX6_lots_X6_put
set_option maxRecDepth 20000 in
theorem ggX6_lots_X6_windows : GoodIn wsX6_lots wsX6_windows := goodIn_r _ [31, 5, 32, 33, 34, 35, 36, 37, 38, 39, 40] (by decide +kernel) (by decide +kernel)
set_option maxRecDepth 20000 in
theorem gX6_lots_X6_windows : GoodIn wsX6_lots (wsV RX6 39 RX6 yX6_windows wsX6_windows) := goodIn_app (goodIn_of _ (by decide +kernel)) ggX6_lots_X6_windows
theorem dX6_lots_0 : decode cX6_lots 0 = .ok (.iload_n 1, 1) := by decide +kernel
theorem dX6_lots_1 : decode cX6_lots 1 = .ok (.invokestatic 51, 3) := by decide +kernel
theorem dX6_lots_4 : decode cX6_lots 4 = .ok (.ifCond .ne 6, 3) := by decide +kernel
theorem dX6_lots_7 : decode cX6_lots 7 = .ok (.ldc 55, 2) := by decide +kernel
theorem dX6_lots_9 : decode cX6_lots 9 = .ok (.ireturn, 1) := by decide +kernel
theorem dX6_lots_10 : decode cX6_lots 10 = .ok (.iload_n 2, 1) := by decide +kernel
theorem dX6_lots_11 : decode cX6_lots 11 = .ok (.iconst 1, 1) := by decide +kernel
theorem dX6_lots_12 : decode cX6_lots 12 = .ok (.sipush 128, 3) := by decide +kernel
theorem dX6_lots_15 : decode cX6_lots 15 = .ok (.invokestatic 35, 3) := by decide +kernel
theorem dX6_lots_18 : decode cX6_lots 18 = .ok (.ifCond .eq 13, 3) := by decide +kernel
theorem dX6_lots_21 : decode cX6_lots 21 = .ok (.iload_n 3, 1) := by decide +kernel
theorem dX6_lots_22 : decode cX6_lots 22 = .ok (.iconst 1, 1) := by decide +kernel
theorem dX6_lots_23 : decode cX6_lots 23 = .ok (.ldc 65, 2) := by decide +kernel
theorem dX6_lots_25 : decode cX6_lots 25 = .ok (.invokestatic 35, 3) := by decide +kernel
theorem dX6_lots_28 : decode cX6_lots 28 = .ok (.ifCond .ne 6, 3) := by decide +kernel
theorem dX6_lots_31 : decode cX6_lots 31 = .ok (.ldc 56, 2) := by decide +kernel
theorem dX6_lots_33 : decode cX6_lots 33 = .ok (.ireturn, 1) := by decide +kernel
theorem dX6_lots_34 : decode cX6_lots 34 = .ok (.aload_n 0, 1) := by decide +kernel
theorem dX6_lots_35 : decode cX6_lots 35 = .ok (.invokevirtual 58, 3) := by decide +kernel
theorem dX6_lots_38 : decode cX6_lots 38 = .ok (.iload_n 3, 1) := by decide +kernel
theorem dX6_lots_39 : decode cX6_lots 39 = .ok (.i2l, 1) := by decide +kernel
theorem dX6_lots_40 : decode cX6_lots 40 = .ok (.lstore 4, 2) := by decide +kernel
theorem dX6_lots_42 : decode cX6_lots 42 = .ok (.iconst 0, 1) := by decide +kernel
theorem dX6_lots_43 : decode cX6_lots 43 = .ok (.istore 6, 2) := by decide +kernel
theorem dX6_lots_45 : decode cX6_lots 45 = .ok (.iload 6, 2) := by decide +kernel
theorem dX6_lots_47 : decode cX6_lots 47 = .ok (.iload_n 2, 1) := by decide +kernel
theorem dX6_lots_48 : decode cX6_lots 48 = .ok (.if_icmp .ge 33, 3) := by decide +kernel
theorem dX6_lots_51 : decode cX6_lots 51 = .ok (.lload 4, 2) := by decide +kernel
theorem dX6_lots_53 : decode cX6_lots 53 = .ok (.invokestatic 66, 3) := by decide +kernel
theorem dX6_lots_56 : decode cX6_lots 56 = .ok (.lstore 4, 2) := by decide +kernel
theorem dX6_lots_58 : decode cX6_lots 58 = .ok (.aload_n 0, 1) := by decide +kernel
theorem dX6_lots_59 : decode cX6_lots 59 = .ok (.iload_n 1, 1) := by decide +kernel
theorem dX6_lots_60 : decode cX6_lots 60 = .ok (.iload 6, 2) := by decide +kernel
theorem dX6_lots_62 : decode cX6_lots 62 = .ok (.lload 4, 2) := by decide +kernel
theorem dX6_lots_64 : decode cX6_lots 64 = .ok (.ldc2_w 70, 3) := by decide +kernel
theorem dX6_lots_67 : decode cX6_lots 67 = .ok (.lrem, 1) := by decide +kernel
theorem dX6_lots_68 : decode cX6_lots 68 = .ok (.l2i, 1) := by decide +kernel
theorem dX6_lots_69 : decode cX6_lots 69 = .ok (.bipush 100, 2) := by decide +kernel
theorem dX6_lots_71 : decode cX6_lots 71 = .ok (.isub, 1) := by decide +kernel
theorem dX6_lots_72 : decode cX6_lots 72 = .ok (.invokevirtual 61, 3) := by decide +kernel
theorem dX6_lots_75 : decode cX6_lots 75 = .ok (.iinc 6 1, 3) := by decide +kernel
theorem dX6_lots_78 : decode cX6_lots 78 = .ok (.goto (-33), 3) := by decide +kernel
theorem dX6_lots_81 : decode cX6_lots 81 = .ok (.aload_n 0, 1) := by decide +kernel
theorem dX6_lots_82 : decode cX6_lots 82 = .ok (.getfield 7, 3) := by decide +kernel
theorem dX6_lots_85 : decode cX6_lots 85 = .ok (.iconst 2, 1) := by decide +kernel
theorem dX6_lots_86 : decode cX6_lots 86 = .ok (.iload_n 1, 1) := by decide +kernel
theorem dX6_lots_87 : decode cX6_lots 87 = .ok (.iadd, 1) := by decide +kernel
theorem dX6_lots_88 : decode cX6_lots 88 = .ok (.iload_n 2, 1) := by decide +kernel
theorem dX6_lots_89 : decode cX6_lots 89 = .ok (.iastore, 1) := by decide +kernel
theorem dX6_lots_90 : decode cX6_lots 90 = .ok (.aload_n 0, 1) := by decide +kernel
theorem dX6_lots_91 : decode cX6_lots 91 = .ok (.iload_n 1, 1) := by decide +kernel
theorem dX6_lots_92 : decode cX6_lots 92 = .ok (.invokevirtual 39, 3) := by decide +kernel
theorem dX6_lots_95 : decode cX6_lots 95 = .ok (.ireturn, 1) := by decide +kernel
set_option maxRecDepth 20000 in
theorem ggX6_becomes_X6_of : GoodIn wsX6_becomes wsX6_of := goodIn_r _ [5, 6, 14, 15, 16, 17, 18, 19, 20, 21, 22] (by decide +kernel) (by decide +kernel)
set_option maxRecDepth 20000 in
theorem gX6_becomes_X6_of : GoodIn wsX6_becomes (wsV RX6 72 RX6 yX6_of wsX6_of) := goodIn_app (goodIn_of _ (by decide +kernel)) ggX6_becomes_X6_of
set_option maxRecDepth 20000 in
theorem ggX6_becomes_X6_bounded : GoodIn wsX6_becomes wsX6_bounded := goodIn_r _ [9] (by decide +kernel) (by decide +kernel)
set_option maxRecDepth 20000 in
theorem gX6_becomes_X6_bounded : GoodIn wsX6_becomes (va_wsS RX6 76 yX6_bounded wsX6_bounded) := goodIn_app (goodIn_of _ (by decide +kernel)) ggX6_becomes_X6_bounded
set_option maxRecDepth 20000 in
theorem ggX6_becomes_X6_put : GoodIn wsX6_becomes wsX6_put := goodIn_r _ [13, 6, 14, 15, 16, 17, 18, 19, 20, 21, 22] (by decide +kernel) (by decide +kernel)
set_option maxRecDepth 20000 in
theorem gX6_becomes_X6_put : GoodIn wsX6_becomes (wsV RX6 61 RX6 yX6_put wsX6_put) := goodIn_app (goodIn_of _ (by decide +kernel)) ggX6_becomes_X6_put
theorem dX6_becomes_0 : decode cX6_becomes 0 = .ok (.aload_n 0, 1) := by decide +kernel
theorem dX6_becomes_1 : decode cX6_becomes 1 = .ok (.iload_n 1, 1) := by decide +kernel
theorem dX6_becomes_2 : decode cX6_becomes 2 = .ok (.iload_n 2, 1) := by decide +kernel
theorem dX6_becomes_3 : decode cX6_becomes 3 = .ok (.invokevirtual 72, 3) := by decide +kernel
theorem dX6_becomes_6 : decode cX6_becomes 6 = .ok (.istore 4, 2) := by decide +kernel
theorem dX6_becomes_8 : decode cX6_becomes 8 = .ok (.aload_n 0, 1) := by decide +kernel
theorem dX6_becomes_9 : decode cX6_becomes 9 = .ok (.iload_n 1, 1) := by decide +kernel
theorem dX6_becomes_10 : decode cX6_becomes 10 = .ok (.iload_n 2, 1) := by decide +kernel
theorem dX6_becomes_11 : decode cX6_becomes 11 = .ok (.iload_n 3, 1) := by decide +kernel
theorem dX6_becomes_12 : decode cX6_becomes 12 = .ok (.invokestatic 76, 3) := by decide +kernel
theorem dX6_becomes_15 : decode cX6_becomes 15 = .ok (.invokevirtual 61, 3) := by decide +kernel
theorem dX6_becomes_18 : decode cX6_becomes 18 = .ok (.aload_n 0, 1) := by decide +kernel
theorem dX6_becomes_19 : decode cX6_becomes 19 = .ok (.iload_n 1, 1) := by decide +kernel
theorem dX6_becomes_20 : decode cX6_becomes 20 = .ok (.iload_n 2, 1) := by decide +kernel
theorem dX6_becomes_21 : decode cX6_becomes 21 = .ok (.invokevirtual 72, 3) := by decide +kernel
theorem dX6_becomes_24 : decode cX6_becomes 24 = .ok (.iload 4, 2) := by decide +kernel
theorem dX6_becomes_26 : decode cX6_becomes 26 = .ok (.if_icmp .ne 7, 3) := by decide +kernel
theorem dX6_becomes_29 : decode cX6_becomes 29 = .ok (.iconst 0, 1) := by decide +kernel
theorem dX6_becomes_30 : decode cX6_becomes 30 = .ok (.goto 4, 3) := by decide +kernel
theorem dX6_becomes_33 : decode cX6_becomes 33 = .ok (.iconst 1, 1) := by decide +kernel
theorem dX6_becomes_34 : decode cX6_becomes 34 = .ok (.ireturn, 1) := by decide +kernel
set_option maxRecDepth 20000 in
theorem ggX6_noise_X6_isRow : GoodIn wsX6_noise wsX6_isRow := goodIn_r _ [9, 10, 11, 8, 12] (by decide +kernel) (by decide +kernel)
set_option maxRecDepth 20000 in
theorem gX6_noise_X6_isRow : GoodIn wsX6_noise (va_wsS RX6 51 yX6_isRow wsX6_isRow) := goodIn_app (goodIn_of _ (by decide +kernel)) ggX6_noise_X6_isRow
set_option maxRecDepth 20000 in
theorem ggX6_noise_X6_in : GoodIn wsX6_noise wsX6_in := goodIn_r _ [12] (by decide +kernel) (by decide +kernel)
set_option maxRecDepth 20000 in
theorem gX6_noise_X6_in : GoodIn wsX6_noise (va_wsS RX6 35 yX6_in wsX6_in) := goodIn_app (goodIn_of _ (by decide +kernel)) ggX6_noise_X6_in
set_option maxRecDepth 20000 in
theorem ggX6_noise_X6_notes : GoodIn wsX6_noise wsX6_notes := goodIn_r _ [16, 17, 18, 4, 39, 40, 41, 42, 43, 44, 45, 46, 47] (by decide +kernel) (by decide +kernel)
set_option maxRecDepth 20000 in
theorem gX6_noise_X6_notes : GoodIn wsX6_noise (wsV RX6 58 RX6 yX6_notes wsX6_notes) := goodIn_app (goodIn_of _ (by decide +kernel)) ggX6_noise_X6_notes
set_option maxRecDepth 20000 in
theorem ggX6_noise_X6_drawn : GoodIn wsX6_noise wsX6_drawn := goodIn_r _ [21, 22, 23] (by decide +kernel) (by decide +kernel)
set_option maxRecDepth 20000 in
theorem gX6_noise_X6_drawn : GoodIn wsX6_noise (va_wsS RX6 66 yX6_drawn wsX6_drawn) := goodIn_app (goodIn_of _ (by decide +kernel)) ggX6_noise_X6_drawn
set_option maxRecDepth 20000 in
theorem ggX6_noise_X6_of : GoodIn wsX6_noise wsX6_of := goodIn_r _ [27, 4, 39, 40, 41, 42, 43, 44, 45, 46, 47] (by decide +kernel) (by decide +kernel)
set_option maxRecDepth 20000 in
theorem gX6_noise_X6_of : GoodIn wsX6_noise (wsV RX6 72 RX6 yX6_of wsX6_of) := goodIn_app (goodIn_of _ (by decide +kernel)) ggX6_noise_X6_of
set_option maxRecDepth 20000 in
theorem ggX6_noise_X6_becomes : GoodIn wsX6_noise wsX6_becomes := goodIn_r _ [31, 24, 25, 26, 8, 27, 4, 32, 33, 34, 35, 36, 37, 38, 39, 40, 41, 42, 43, 44, 45, 46, 47] (by decide +kernel) (by decide +kernel)
set_option maxRecDepth 20000 in
theorem gX6_noise_X6_becomes : GoodIn wsX6_noise (wsV RX6 81 RX6 yX6_becomes wsX6_becomes) := goodIn_app (goodIn_of _ (by decide +kernel)) ggX6_noise_X6_becomes
theorem dX6_noise_0 : decode cX6_noise 0 = .ok (.iload_n 1, 1) := by decide +kernel
theorem dX6_noise_1 : decode cX6_noise 1 = .ok (.invokestatic 51, 3) := by decide +kernel
theorem dX6_noise_4 : decode cX6_noise 4 = .ok (.ifCond .ne 6, 3) := by decide +kernel
theorem dX6_noise_7 : decode cX6_noise 7 = .ok (.ldc 55, 2) := by decide +kernel
theorem dX6_noise_9 : decode cX6_noise 9 = .ok (.ireturn, 1) := by decide +kernel
theorem dX6_noise_10 : decode cX6_noise 10 = .ok (.iload_n 2, 1) := by decide +kernel
theorem dX6_noise_11 : decode cX6_noise 11 = .ok (.iconst 1, 1) := by decide +kernel
theorem dX6_noise_12 : decode cX6_noise 12 = .ok (.bipush 100, 2) := by decide +kernel
theorem dX6_noise_14 : decode cX6_noise 14 = .ok (.invokestatic 35, 3) := by decide +kernel
theorem dX6_noise_17 : decode cX6_noise 17 = .ok (.ifCond .eq 13, 3) := by decide +kernel
theorem dX6_noise_20 : decode cX6_noise 20 = .ok (.iload_n 3, 1) := by decide +kernel
theorem dX6_noise_21 : decode cX6_noise 21 = .ok (.iconst 1, 1) := by decide +kernel
theorem dX6_noise_22 : decode cX6_noise 22 = .ok (.ldc 65, 2) := by decide +kernel
theorem dX6_noise_24 : decode cX6_noise 24 = .ok (.invokestatic 35, 3) := by decide +kernel
theorem dX6_noise_27 : decode cX6_noise 27 = .ok (.ifCond .ne 6, 3) := by decide +kernel
theorem dX6_noise_30 : decode cX6_noise 30 = .ok (.ldc 56, 2) := by decide +kernel
theorem dX6_noise_32 : decode cX6_noise 32 = .ok (.ireturn, 1) := by decide +kernel
theorem dX6_noise_33 : decode cX6_noise 33 = .ok (.aload_n 0, 1) := by decide +kernel
theorem dX6_noise_34 : decode cX6_noise 34 = .ok (.invokevirtual 58, 3) := by decide +kernel
theorem dX6_noise_37 : decode cX6_noise 37 = .ok (.iload_n 3, 1) := by decide +kernel
theorem dX6_noise_38 : decode cX6_noise 38 = .ok (.i2l, 1) := by decide +kernel
theorem dX6_noise_39 : decode cX6_noise 39 = .ok (.lstore 4, 2) := by decide +kernel
theorem dX6_noise_41 : decode cX6_noise 41 = .ok (.iconst 0, 1) := by decide +kernel
theorem dX6_noise_42 : decode cX6_noise 42 = .ok (.istore 6, 2) := by decide +kernel
theorem dX6_noise_44 : decode cX6_noise 44 = .ok (.iconst 0, 1) := by decide +kernel
theorem dX6_noise_45 : decode cX6_noise 45 = .ok (.istore 7, 2) := by decide +kernel
theorem dX6_noise_47 : decode cX6_noise 47 = .ok (.iload 7, 2) := by decide +kernel
theorem dX6_noise_49 : decode cX6_noise 49 = .ok (.aload_n 0, 1) := by decide +kernel
theorem dX6_noise_50 : decode cX6_noise 50 = .ok (.getfield 7, 3) := by decide +kernel
theorem dX6_noise_53 : decode cX6_noise 53 = .ok (.iconst 2, 1) := by decide +kernel
theorem dX6_noise_54 : decode cX6_noise 54 = .ok (.iload_n 1, 1) := by decide +kernel
theorem dX6_noise_55 : decode cX6_noise 55 = .ok (.iadd, 1) := by decide +kernel
theorem dX6_noise_56 : decode cX6_noise 56 = .ok (.iaload, 1) := by decide +kernel
theorem dX6_noise_57 : decode cX6_noise 57 = .ok (.if_icmp .ge 50, 3) := by decide +kernel
theorem dX6_noise_60 : decode cX6_noise 60 = .ok (.lload 4, 2) := by decide +kernel
theorem dX6_noise_62 : decode cX6_noise 62 = .ok (.invokestatic 66, 3) := by decide +kernel
theorem dX6_noise_65 : decode cX6_noise 65 = .ok (.lstore 4, 2) := by decide +kernel
theorem dX6_noise_67 : decode cX6_noise 67 = .ok (.iload 6, 2) := by decide +kernel
theorem dX6_noise_69 : decode cX6_noise 69 = .ok (.aload_n 0, 1) := by decide +kernel
theorem dX6_noise_70 : decode cX6_noise 70 = .ok (.iload_n 1, 1) := by decide +kernel
theorem dX6_noise_71 : decode cX6_noise 71 = .ok (.iload 7, 2) := by decide +kernel
theorem dX6_noise_73 : decode cX6_noise 73 = .ok (.aload_n 0, 1) := by decide +kernel
theorem dX6_noise_74 : decode cX6_noise 74 = .ok (.iload_n 1, 1) := by decide +kernel
theorem dX6_noise_75 : decode cX6_noise 75 = .ok (.iload 7, 2) := by decide +kernel
theorem dX6_noise_77 : decode cX6_noise 77 = .ok (.invokevirtual 72, 3) := by decide +kernel
theorem dX6_noise_80 : decode cX6_noise 80 = .ok (.lload 4, 2) := by decide +kernel
theorem dX6_noise_82 : decode cX6_noise 82 = .ok (.ldc2_w 79, 3) := by decide +kernel
theorem dX6_noise_85 : decode cX6_noise 85 = .ok (.iload_n 2, 1) := by decide +kernel
theorem dX6_noise_86 : decode cX6_noise 86 = .ok (.i2l, 1) := by decide +kernel
theorem dX6_noise_87 : decode cX6_noise 87 = .ok (.lmul, 1) := by decide +kernel
theorem dX6_noise_88 : decode cX6_noise 88 = .ok (.lconst 1, 1) := by decide +kernel
theorem dX6_noise_89 : decode cX6_noise 89 = .ok (.ladd, 1) := by decide +kernel
theorem dX6_noise_90 : decode cX6_noise 90 = .ok (.lrem, 1) := by decide +kernel
theorem dX6_noise_91 : decode cX6_noise 91 = .ok (.l2i, 1) := by decide +kernel
theorem dX6_noise_92 : decode cX6_noise 92 = .ok (.iadd, 1) := by decide +kernel
theorem dX6_noise_93 : decode cX6_noise 93 = .ok (.iload_n 2, 1) := by decide +kernel
theorem dX6_noise_94 : decode cX6_noise 94 = .ok (.isub, 1) := by decide +kernel
theorem dX6_noise_95 : decode cX6_noise 95 = .ok (.invokevirtual 81, 3) := by decide +kernel
theorem dX6_noise_98 : decode cX6_noise 98 = .ok (.iadd, 1) := by decide +kernel
theorem dX6_noise_99 : decode cX6_noise 99 = .ok (.istore 6, 2) := by decide +kernel
theorem dX6_noise_101 : decode cX6_noise 101 = .ok (.iinc 7 1, 3) := by decide +kernel
theorem dX6_noise_104 : decode cX6_noise 104 = .ok (.goto (-57), 3) := by decide +kernel
theorem dX6_noise_107 : decode cX6_noise 107 = .ok (.iload 6, 2) := by decide +kernel
theorem dX6_noise_109 : decode cX6_noise 109 = .ok (.ireturn, 1) := by decide +kernel
set_option maxRecDepth 20000 in
theorem ggX6_louder_X6_isRow : GoodIn wsX6_louder wsX6_isRow := goodIn_r _ [7, 8, 9, 6, 10] (by decide +kernel) (by decide +kernel)
set_option maxRecDepth 20000 in
theorem gX6_louder_X6_isRow : GoodIn wsX6_louder (va_wsS RX6 51 yX6_isRow wsX6_isRow) := goodIn_app (goodIn_of _ (by decide +kernel)) ggX6_louder_X6_isRow
set_option maxRecDepth 20000 in
theorem ggX6_louder_X6_in : GoodIn wsX6_louder wsX6_in := goodIn_r _ [10] (by decide +kernel) (by decide +kernel)
set_option maxRecDepth 20000 in
theorem gX6_louder_X6_in : GoodIn wsX6_louder (va_wsS RX6 35 yX6_in wsX6_in) := goodIn_app (goodIn_of _ (by decide +kernel)) ggX6_louder_X6_in
set_option maxRecDepth 20000 in
theorem ggX6_louder_X6_notes : GoodIn wsX6_louder wsX6_notes := goodIn_r _ [14, 15, 16, 3, 32, 33, 34, 35, 36, 37, 38, 39, 40] (by decide +kernel) (by decide +kernel)
set_option maxRecDepth 20000 in
theorem gX6_louder_X6_notes : GoodIn wsX6_louder (wsV RX6 58 RX6 yX6_notes wsX6_notes) := goodIn_app (goodIn_of _ (by decide +kernel)) ggX6_louder_X6_notes
set_option maxRecDepth 20000 in
theorem ggX6_louder_X6_of : GoodIn wsX6_louder wsX6_of := goodIn_r _ [20, 3, 32, 33, 34, 35, 36, 37, 38, 39, 40] (by decide +kernel) (by decide +kernel)
set_option maxRecDepth 20000 in
theorem gX6_louder_X6_of : GoodIn wsX6_louder (wsV RX6 72 RX6 yX6_of wsX6_of) := goodIn_app (goodIn_of _ (by decide +kernel)) ggX6_louder_X6_of
set_option maxRecDepth 20000 in
theorem ggX6_louder_X6_becomes : GoodIn wsX6_louder wsX6_becomes := goodIn_r _ [24, 17, 18, 19, 6, 20, 3, 25, 26, 27, 28, 29, 30, 31, 32, 33, 34, 35, 36, 37, 38, 39, 40] (by decide +kernel) (by decide +kernel)
set_option maxRecDepth 20000 in
theorem gX6_louder_X6_becomes : GoodIn wsX6_louder (wsV RX6 81 RX6 yX6_becomes wsX6_becomes) := goodIn_app (goodIn_of _ (by decide +kernel)) ggX6_louder_X6_becomes
theorem dX6_louder_0 : decode cX6_louder 0 = .ok (.iload_n 1, 1) := by decide +kernel
theorem dX6_louder_1 : decode cX6_louder 1 = .ok (.invokestatic 51, 3) := by decide +kernel
theorem dX6_louder_4 : decode cX6_louder 4 = .ok (.ifCond .ne 6, 3) := by decide +kernel
theorem dX6_louder_7 : decode cX6_louder 7 = .ok (.ldc 55, 2) := by decide +kernel
theorem dX6_louder_9 : decode cX6_louder 9 = .ok (.ireturn, 1) := by decide +kernel
theorem dX6_louder_10 : decode cX6_louder 10 = .ok (.iload_n 2, 1) := by decide +kernel
theorem dX6_louder_11 : decode cX6_louder 11 = .ok (.iconst 1, 1) := by decide +kernel
theorem dX6_louder_12 : decode cX6_louder 12 = .ok (.bipush 9, 2) := by decide +kernel
theorem dX6_louder_14 : decode cX6_louder 14 = .ok (.invokestatic 35, 3) := by decide +kernel
theorem dX6_louder_17 : decode cX6_louder 17 = .ok (.ifCond .eq 13, 3) := by decide +kernel
theorem dX6_louder_20 : decode cX6_louder 20 = .ok (.iload_n 3, 1) := by decide +kernel
theorem dX6_louder_21 : decode cX6_louder 21 = .ok (.iconst 1, 1) := by decide +kernel
theorem dX6_louder_22 : decode cX6_louder 22 = .ok (.bipush 9, 2) := by decide +kernel
theorem dX6_louder_24 : decode cX6_louder 24 = .ok (.invokestatic 35, 3) := by decide +kernel
theorem dX6_louder_27 : decode cX6_louder 27 = .ok (.ifCond .ne 6, 3) := by decide +kernel
theorem dX6_louder_30 : decode cX6_louder 30 = .ok (.ldc 56, 2) := by decide +kernel
theorem dX6_louder_32 : decode cX6_louder 32 = .ok (.ireturn, 1) := by decide +kernel
theorem dX6_louder_33 : decode cX6_louder 33 = .ok (.aload_n 0, 1) := by decide +kernel
theorem dX6_louder_34 : decode cX6_louder 34 = .ok (.invokevirtual 58, 3) := by decide +kernel
theorem dX6_louder_37 : decode cX6_louder 37 = .ok (.iconst 0, 1) := by decide +kernel
theorem dX6_louder_38 : decode cX6_louder 38 = .ok (.istore 4, 2) := by decide +kernel
theorem dX6_louder_40 : decode cX6_louder 40 = .ok (.iconst 0, 1) := by decide +kernel
theorem dX6_louder_41 : decode cX6_louder 41 = .ok (.istore 5, 2) := by decide +kernel
theorem dX6_louder_43 : decode cX6_louder 43 = .ok (.iload 5, 2) := by decide +kernel
theorem dX6_louder_45 : decode cX6_louder 45 = .ok (.aload_n 0, 1) := by decide +kernel
theorem dX6_louder_46 : decode cX6_louder 46 = .ok (.getfield 7, 3) := by decide +kernel
theorem dX6_louder_49 : decode cX6_louder 49 = .ok (.iconst 2, 1) := by decide +kernel
theorem dX6_louder_50 : decode cX6_louder 50 = .ok (.iload_n 1, 1) := by decide +kernel
theorem dX6_louder_51 : decode cX6_louder 51 = .ok (.iadd, 1) := by decide +kernel
theorem dX6_louder_52 : decode cX6_louder 52 = .ok (.iaload, 1) := by decide +kernel
theorem dX6_louder_53 : decode cX6_louder 53 = .ok (.if_icmp .ge 32, 3) := by decide +kernel
theorem dX6_louder_56 : decode cX6_louder 56 = .ok (.iload 4, 2) := by decide +kernel
theorem dX6_louder_58 : decode cX6_louder 58 = .ok (.aload_n 0, 1) := by decide +kernel
theorem dX6_louder_59 : decode cX6_louder 59 = .ok (.iload_n 1, 1) := by decide +kernel
theorem dX6_louder_60 : decode cX6_louder 60 = .ok (.iload 5, 2) := by decide +kernel
theorem dX6_louder_62 : decode cX6_louder 62 = .ok (.aload_n 0, 1) := by decide +kernel
theorem dX6_louder_63 : decode cX6_louder 63 = .ok (.iload_n 1, 1) := by decide +kernel
theorem dX6_louder_64 : decode cX6_louder 64 = .ok (.iload 5, 2) := by decide +kernel
theorem dX6_louder_66 : decode cX6_louder 66 = .ok (.invokevirtual 72, 3) := by decide +kernel
theorem dX6_louder_69 : decode cX6_louder 69 = .ok (.iload_n 2, 1) := by decide +kernel
theorem dX6_louder_70 : decode cX6_louder 70 = .ok (.imul, 1) := by decide +kernel
theorem dX6_louder_71 : decode cX6_louder 71 = .ok (.iload_n 3, 1) := by decide +kernel
theorem dX6_louder_72 : decode cX6_louder 72 = .ok (.idiv, 1) := by decide +kernel
theorem dX6_louder_73 : decode cX6_louder 73 = .ok (.invokevirtual 81, 3) := by decide +kernel
theorem dX6_louder_76 : decode cX6_louder 76 = .ok (.iadd, 1) := by decide +kernel
theorem dX6_louder_77 : decode cX6_louder 77 = .ok (.istore 4, 2) := by decide +kernel
theorem dX6_louder_79 : decode cX6_louder 79 = .ok (.iinc 5 1, 3) := by decide +kernel
theorem dX6_louder_82 : decode cX6_louder 82 = .ok (.goto (-39), 3) := by decide +kernel
theorem dX6_louder_85 : decode cX6_louder 85 = .ok (.iload 4, 2) := by decide +kernel
theorem dX6_louder_87 : decode cX6_louder 87 = .ok (.ireturn, 1) := by decide +kernel
set_option maxRecDepth 20000 in
theorem ggX6_hear_X6_in : GoodIn wsX6_hear wsX6_in := goodIn_r _ [8] (by decide +kernel) (by decide +kernel)
set_option maxRecDepth 20000 in
theorem gX6_hear_X6_in : GoodIn wsX6_hear (va_wsS RX6 35 yX6_in wsX6_in) := goodIn_app (goodIn_of _ (by decide +kernel)) ggX6_hear_X6_in
set_option maxRecDepth 20000 in
theorem ggX6_hear_X6_notes : GoodIn wsX6_hear wsX6_notes := goodIn_r _ [12, 13, 14, 3, 23, 24, 25, 26, 27, 28, 29, 30, 31] (by decide +kernel) (by decide +kernel)
set_option maxRecDepth 20000 in
theorem gX6_hear_X6_notes : GoodIn wsX6_hear (wsV RX6 58 RX6 yX6_notes wsX6_notes) := goodIn_app (goodIn_of _ (by decide +kernel)) ggX6_hear_X6_notes
set_option maxRecDepth 20000 in
theorem ggX6_hear_X6_of : GoodIn wsX6_hear wsX6_of := goodIn_r _ [18, 3, 23, 24, 25, 26, 27, 28, 29, 30, 31] (by decide +kernel) (by decide +kernel)
set_option maxRecDepth 20000 in
theorem gX6_hear_X6_of : GoodIn wsX6_hear (wsV RX6 72 RX6 yX6_of wsX6_of) := goodIn_app (goodIn_of _ (by decide +kernel)) ggX6_hear_X6_of
set_option maxRecDepth 20000 in
theorem ggX6_hear_X6_put : GoodIn wsX6_hear wsX6_put := goodIn_r _ [22, 3, 23, 24, 25, 26, 27, 28, 29, 30, 31] (by decide +kernel) (by decide +kernel)
set_option maxRecDepth 20000 in
theorem gX6_hear_X6_put : GoodIn wsX6_hear (wsV RX6 61 RX6 yX6_put wsX6_put) := goodIn_app (goodIn_of _ (by decide +kernel)) ggX6_hear_X6_put
theorem dX6_hear_0 : decode cX6_hear 0 = .ok (.iload_n 1, 1) := by decide +kernel
theorem dX6_hear_1 : decode cX6_hear 1 = .ok (.iconst 0, 1) := by decide +kernel
theorem dX6_hear_2 : decode cX6_hear 2 = .ok (.iconst 3, 1) := by decide +kernel
theorem dX6_hear_3 : decode cX6_hear 3 = .ok (.invokestatic 35, 3) := by decide +kernel
theorem dX6_hear_6 : decode cX6_hear 6 = .ok (.ifCond .ne 6, 3) := by decide +kernel
theorem dX6_hear_9 : decode cX6_hear 9 = .ok (.ldc 55, 2) := by decide +kernel
theorem dX6_hear_11 : decode cX6_hear 11 = .ok (.ireturn, 1) := by decide +kernel
theorem dX6_hear_12 : decode cX6_hear 12 = .ok (.iload_n 2, 1) := by decide +kernel
theorem dX6_hear_13 : decode cX6_hear 13 = .ok (.iconst 0, 1) := by decide +kernel
theorem dX6_hear_14 : decode cX6_hear 14 = .ok (.bipush 127, 2) := by decide +kernel
theorem dX6_hear_16 : decode cX6_hear 16 = .ok (.invokestatic 35, 3) := by decide +kernel
theorem dX6_hear_19 : decode cX6_hear 19 = .ok (.ifCond .eq 14, 3) := by decide +kernel
theorem dX6_hear_22 : decode cX6_hear 22 = .ok (.iload_n 3, 1) := by decide +kernel
theorem dX6_hear_23 : decode cX6_hear 23 = .ok (.iconst 1, 1) := by decide +kernel
theorem dX6_hear_24 : decode cX6_hear 24 = .ok (.sipush 128, 3) := by decide +kernel
theorem dX6_hear_27 : decode cX6_hear 27 = .ok (.invokestatic 35, 3) := by decide +kernel
theorem dX6_hear_30 : decode cX6_hear 30 = .ok (.ifCond .ne 6, 3) := by decide +kernel
theorem dX6_hear_33 : decode cX6_hear 33 = .ok (.ldc 56, 2) := by decide +kernel
theorem dX6_hear_35 : decode cX6_hear 35 = .ok (.ireturn, 1) := by decide +kernel
theorem dX6_hear_36 : decode cX6_hear 36 = .ok (.aload_n 0, 1) := by decide +kernel
theorem dX6_hear_37 : decode cX6_hear 37 = .ok (.getfield 7, 3) := by decide +kernel
theorem dX6_hear_40 : decode cX6_hear 40 = .ok (.iconst 2, 1) := by decide +kernel
theorem dX6_hear_41 : decode cX6_hear 41 = .ok (.iload_n 1, 1) := by decide +kernel
theorem dX6_hear_42 : decode cX6_hear 42 = .ok (.iadd, 1) := by decide +kernel
theorem dX6_hear_43 : decode cX6_hear 43 = .ok (.iaload, 1) := by decide +kernel
theorem dX6_hear_44 : decode cX6_hear 44 = .ok (.iload_n 2, 1) := by decide +kernel
theorem dX6_hear_45 : decode cX6_hear 45 = .ok (.isub, 1) := by decide +kernel
theorem dX6_hear_46 : decode cX6_hear 46 = .ok (.istore 4, 2) := by decide +kernel
theorem dX6_hear_48 : decode cX6_hear 48 = .ok (.iload 4, 2) := by decide +kernel
theorem dX6_hear_50 : decode cX6_hear 50 = .ok (.ifCond .gt 6, 3) := by decide +kernel
theorem dX6_hear_53 : decode cX6_hear 53 = .ok (.ldc 85, 2) := by decide +kernel
theorem dX6_hear_55 : decode cX6_hear 55 = .ok (.ireturn, 1) := by decide +kernel
theorem dX6_hear_56 : decode cX6_hear 56 = .ok (.aload_n 0, 1) := by decide +kernel
theorem dX6_hear_57 : decode cX6_hear 57 = .ok (.invokevirtual 58, 3) := by decide +kernel
theorem dX6_hear_60 : decode cX6_hear 60 = .ok (.iload_n 3, 1) := by decide +kernel
theorem dX6_hear_61 : decode cX6_hear 61 = .ok (.iload 4, 2) := by decide +kernel
theorem dX6_hear_63 : decode cX6_hear 63 = .ok (.if_icmp .ge 7, 3) := by decide +kernel
theorem dX6_hear_66 : decode cX6_hear 66 = .ok (.iload_n 3, 1) := by decide +kernel
theorem dX6_hear_67 : decode cX6_hear 67 = .ok (.goto 5, 3) := by decide +kernel
theorem dX6_hear_70 : decode cX6_hear 70 = .ok (.iload 4, 2) := by decide +kernel
theorem dX6_hear_72 : decode cX6_hear 72 = .ok (.istore 5, 2) := by decide +kernel
theorem dX6_hear_74 : decode cX6_hear 74 = .ok (.iconst 0, 1) := by decide +kernel
theorem dX6_hear_75 : decode cX6_hear 75 = .ok (.istore 6, 2) := by decide +kernel
theorem dX6_hear_77 : decode cX6_hear 77 = .ok (.iload 6, 2) := by decide +kernel
theorem dX6_hear_79 : decode cX6_hear 79 = .ok (.iload 5, 2) := by decide +kernel
theorem dX6_hear_81 : decode cX6_hear 81 = .ok (.if_icmp .ge 25, 3) := by decide +kernel
theorem dX6_hear_84 : decode cX6_hear 84 = .ok (.aload_n 0, 1) := by decide +kernel
theorem dX6_hear_85 : decode cX6_hear 85 = .ok (.iconst 4, 1) := by decide +kernel
theorem dX6_hear_86 : decode cX6_hear 86 = .ok (.iload 6, 2) := by decide +kernel
theorem dX6_hear_88 : decode cX6_hear 88 = .ok (.aload_n 0, 1) := by decide +kernel
theorem dX6_hear_89 : decode cX6_hear 89 = .ok (.iload_n 1, 1) := by decide +kernel
theorem dX6_hear_90 : decode cX6_hear 90 = .ok (.iload_n 2, 1) := by decide +kernel
theorem dX6_hear_91 : decode cX6_hear 91 = .ok (.iload 6, 2) := by decide +kernel
theorem dX6_hear_93 : decode cX6_hear 93 = .ok (.iadd, 1) := by decide +kernel
theorem dX6_hear_94 : decode cX6_hear 94 = .ok (.invokevirtual 72, 3) := by decide +kernel
theorem dX6_hear_97 : decode cX6_hear 97 = .ok (.invokevirtual 61, 3) := by decide +kernel
theorem dX6_hear_100 : decode cX6_hear 100 = .ok (.iinc 6 1, 3) := by decide +kernel
theorem dX6_hear_103 : decode cX6_hear 103 = .ok (.goto (-26), 3) := by decide +kernel
theorem dX6_hear_106 : decode cX6_hear 106 = .ok (.aload_n 0, 1) := by decide +kernel
theorem dX6_hear_107 : decode cX6_hear 107 = .ok (.getfield 7, 3) := by decide +kernel
theorem dX6_hear_110 : decode cX6_hear 110 = .ok (.bipush 6, 2) := by decide +kernel
theorem dX6_hear_112 : decode cX6_hear 112 = .ok (.iload 5, 2) := by decide +kernel
theorem dX6_hear_114 : decode cX6_hear 114 = .ok (.iastore, 1) := by decide +kernel
theorem dX6_hear_115 : decode cX6_hear 115 = .ok (.iload 5, 2) := by decide +kernel
theorem dX6_hear_117 : decode cX6_hear 117 = .ok (.ireturn, 1) := by decide +kernel
set_option maxRecDepth 20000 in
theorem ggX6_bound_X6_in : GoodIn wsX6_bound wsX6_in := goodIn_r _ [7] (by decide +kernel) (by decide +kernel)
set_option maxRecDepth 20000 in
theorem gX6_bound_X6_in : GoodIn wsX6_bound (va_wsS RX6 35 yX6_in wsX6_in) := goodIn_app (goodIn_of _ (by decide +kernel)) ggX6_bound_X6_in
set_option maxRecDepth 20000 in
theorem ggX6_bound_X6_notes : GoodIn wsX6_bound wsX6_notes := goodIn_r _ [11, 12, 13, 3, 14, 15, 16, 17, 18, 19, 20, 21, 22] (by decide +kernel) (by decide +kernel)
set_option maxRecDepth 20000 in
theorem gX6_bound_X6_notes : GoodIn wsX6_bound (wsV RX6 58 RX6 yX6_notes wsX6_notes) := goodIn_app (goodIn_of _ (by decide +kernel)) ggX6_bound_X6_notes
theorem dX6_bound_0 : decode cX6_bound 0 = .ok (.iload_n 1, 1) := by decide +kernel
theorem dX6_bound_1 : decode cX6_bound 1 = .ok (.ifCond .ne 13, 3) := by decide +kernel
theorem dX6_bound_4 : decode cX6_bound 4 = .ok (.iload_n 2, 1) := by decide +kernel
theorem dX6_bound_5 : decode cX6_bound 5 = .ok (.iconst 0, 1) := by decide +kernel
theorem dX6_bound_6 : decode cX6_bound 6 = .ok (.ldc 86, 2) := by decide +kernel
theorem dX6_bound_8 : decode cX6_bound 8 = .ok (.invokestatic 35, 3) := by decide +kernel
theorem dX6_bound_11 : decode cX6_bound 11 = .ok (.ifCond .ne 17, 3) := by decide +kernel
theorem dX6_bound_14 : decode cX6_bound 14 = .ok (.iload_n 1, 1) := by decide +kernel
theorem dX6_bound_15 : decode cX6_bound 15 = .ok (.iconst 1, 1) := by decide +kernel
theorem dX6_bound_16 : decode cX6_bound 16 = .ok (.if_icmp .ne 16, 3) := by decide +kernel
theorem dX6_bound_19 : decode cX6_bound 19 = .ok (.iload_n 2, 1) := by decide +kernel
theorem dX6_bound_20 : decode cX6_bound 20 = .ok (.iconst 1, 1) := by decide +kernel
theorem dX6_bound_21 : decode cX6_bound 21 = .ok (.iconst 5, 1) := by decide +kernel
theorem dX6_bound_22 : decode cX6_bound 22 = .ok (.invokestatic 35, 3) := by decide +kernel
theorem dX6_bound_25 : decode cX6_bound 25 = .ok (.ifCond .eq 7, 3) := by decide +kernel
theorem dX6_bound_28 : decode cX6_bound 28 = .ok (.iconst 1, 1) := by decide +kernel
theorem dX6_bound_29 : decode cX6_bound 29 = .ok (.goto 4, 3) := by decide +kernel
theorem dX6_bound_32 : decode cX6_bound 32 = .ok (.iconst 0, 1) := by decide +kernel
theorem dX6_bound_33 : decode cX6_bound 33 = .ok (.istore_n 3, 1) := by decide +kernel
theorem dX6_bound_34 : decode cX6_bound 34 = .ok (.iload_n 3, 1) := by decide +kernel
theorem dX6_bound_35 : decode cX6_bound 35 = .ok (.ifCond .ne 6, 3) := by decide +kernel
theorem dX6_bound_38 : decode cX6_bound 38 = .ok (.ldc 56, 2) := by decide +kernel
theorem dX6_bound_40 : decode cX6_bound 40 = .ok (.ireturn, 1) := by decide +kernel
theorem dX6_bound_41 : decode cX6_bound 41 = .ok (.aload_n 0, 1) := by decide +kernel
theorem dX6_bound_42 : decode cX6_bound 42 = .ok (.invokevirtual 58, 3) := by decide +kernel
theorem dX6_bound_45 : decode cX6_bound 45 = .ok (.aload_n 0, 1) := by decide +kernel
theorem dX6_bound_46 : decode cX6_bound 46 = .ok (.getfield 7, 3) := by decide +kernel
theorem dX6_bound_49 : decode cX6_bound 49 = .ok (.iload_n 1, 1) := by decide +kernel
theorem dX6_bound_50 : decode cX6_bound 50 = .ok (.iaload, 1) := by decide +kernel
theorem dX6_bound_51 : decode cX6_bound 51 = .ok (.istore 4, 2) := by decide +kernel
theorem dX6_bound_53 : decode cX6_bound 53 = .ok (.aload_n 0, 1) := by decide +kernel
theorem dX6_bound_54 : decode cX6_bound 54 = .ok (.getfield 7, 3) := by decide +kernel
theorem dX6_bound_57 : decode cX6_bound 57 = .ok (.iload_n 1, 1) := by decide +kernel
theorem dX6_bound_58 : decode cX6_bound 58 = .ok (.iload_n 2, 1) := by decide +kernel
theorem dX6_bound_59 : decode cX6_bound 59 = .ok (.iastore, 1) := by decide +kernel
theorem dX6_bound_60 : decode cX6_bound 60 = .ok (.iload 4, 2) := by decide +kernel
theorem dX6_bound_62 : decode cX6_bound 62 = .ok (.ireturn, 1) := by decide +kernel
theorem dX6_undo_0 : decode cX6_undo 0 = .ok (.aload_n 0, 1) := by decide +kernel
theorem dX6_undo_1 : decode cX6_undo 1 = .ok (.getfield 43, 3) := by decide +kernel
theorem dX6_undo_4 : decode cX6_undo 4 = .ok (.ifCond .ne 6, 3) := by decide +kernel
theorem dX6_undo_7 : decode cX6_undo 7 = .ok (.ldc 85, 2) := by decide +kernel
theorem dX6_undo_9 : decode cX6_undo 9 = .ok (.ireturn, 1) := by decide +kernel
theorem dX6_undo_10 : decode cX6_undo 10 = .ok (.aload_n 0, 1) := by decide +kernel
theorem dX6_undo_11 : decode cX6_undo 11 = .ok (.dup, 1) := by decide +kernel
theorem dX6_undo_12 : decode cX6_undo 12 = .ok (.getfield 43, 3) := by decide +kernel
theorem dX6_undo_15 : decode cX6_undo 15 = .ok (.iconst 1, 1) := by decide +kernel
theorem dX6_undo_16 : decode cX6_undo 16 = .ok (.isub, 1) := by decide +kernel
theorem dX6_undo_17 : decode cX6_undo 17 = .ok (.putfield 43, 3) := by decide +kernel
theorem dX6_undo_20 : decode cX6_undo 20 = .ok (.iconst 0, 1) := by decide +kernel
theorem dX6_undo_21 : decode cX6_undo 21 = .ok (.istore_n 1, 1) := by decide +kernel
theorem dX6_undo_22 : decode cX6_undo 22 = .ok (.iload_n 1, 1) := by decide +kernel
theorem dX6_undo_23 : decode cX6_undo 23 = .ok (.sipush 647, 3) := by decide +kernel
theorem dX6_undo_26 : decode cX6_undo 26 = .ok (.if_icmp .ge 30, 3) := by decide +kernel
theorem dX6_undo_29 : decode cX6_undo 29 = .ok (.aload_n 0, 1) := by decide +kernel
theorem dX6_undo_30 : decode cX6_undo 30 = .ok (.getfield 7, 3) := by decide +kernel
theorem dX6_undo_33 : decode cX6_undo 33 = .ok (.iload_n 1, 1) := by decide +kernel
theorem dX6_undo_34 : decode cX6_undo 34 = .ok (.aload_n 0, 1) := by decide +kernel
theorem dX6_undo_35 : decode cX6_undo 35 = .ok (.getfield 13, 3) := by decide +kernel
theorem dX6_undo_38 : decode cX6_undo 38 = .ok (.sipush 647, 3) := by decide +kernel
theorem dX6_undo_41 : decode cX6_undo 41 = .ok (.aload_n 0, 1) := by decide +kernel
theorem dX6_undo_42 : decode cX6_undo 42 = .ok (.getfield 43, 3) := by decide +kernel
theorem dX6_undo_45 : decode cX6_undo 45 = .ok (.imul, 1) := by decide +kernel
theorem dX6_undo_46 : decode cX6_undo 46 = .ok (.iload_n 1, 1) := by decide +kernel
theorem dX6_undo_47 : decode cX6_undo 47 = .ok (.iadd, 1) := by decide +kernel
theorem dX6_undo_48 : decode cX6_undo 48 = .ok (.iaload, 1) := by decide +kernel
theorem dX6_undo_49 : decode cX6_undo 49 = .ok (.iastore, 1) := by decide +kernel
theorem dX6_undo_50 : decode cX6_undo 50 = .ok (.iinc 1 1, 3) := by decide +kernel
theorem dX6_undo_53 : decode cX6_undo 53 = .ok (.goto (-31), 3) := by decide +kernel
theorem dX6_undo_56 : decode cX6_undo 56 = .ok (.aload_n 0, 1) := by decide +kernel
theorem dX6_undo_57 : decode cX6_undo 57 = .ok (.getfield 43, 3) := by decide +kernel
theorem dX6_undo_60 : decode cX6_undo 60 = .ok (.ireturn, 1) := by decide +kernel
set_option maxRecDepth 20000 in
theorem ggX6_turns_X6_of : GoodIn wsX6_turns wsX6_of := goodIn_r _ [6, 7, 8, 9, 10, 11, 12, 13, 14, 15, 16] (by decide +kernel) (by decide +kernel)
set_option maxRecDepth 20000 in
theorem gX6_turns_X6_of : GoodIn wsX6_turns (wsV RX6 72 RX6 yX6_of wsX6_of) := goodIn_app (goodIn_of _ (by decide +kernel)) ggX6_turns_X6_of
theorem dX6_turns_0 : decode cX6_turns 0 = .ok (.iconst 0, 1) := by decide +kernel
theorem dX6_turns_1 : decode cX6_turns 1 = .ok (.istore_n 3, 1) := by decide +kernel
theorem dX6_turns_2 : decode cX6_turns 2 = .ok (.iload_n 3, 1) := by decide +kernel
theorem dX6_turns_3 : decode cX6_turns 3 = .ok (.bipush 8, 2) := by decide +kernel
theorem dX6_turns_5 : decode cX6_turns 5 = .ok (.if_icmp .ge 26, 3) := by decide +kernel
theorem dX6_turns_8 : decode cX6_turns 8 = .ok (.aload_n 0, 1) := by decide +kernel
theorem dX6_turns_9 : decode cX6_turns 9 = .ok (.getfield 23, 3) := by decide +kernel
theorem dX6_turns_12 : decode cX6_turns 12 = .ok (.iload_n 3, 1) := by decide +kernel
theorem dX6_turns_13 : decode cX6_turns 13 = .ok (.aload_n 0, 1) := by decide +kernel
theorem dX6_turns_14 : decode cX6_turns 14 = .ok (.iload_n 1, 1) := by decide +kernel
theorem dX6_turns_15 : decode cX6_turns 15 = .ok (.bipush 8, 2) := by decide +kernel
theorem dX6_turns_17 : decode cX6_turns 17 = .ok (.iload_n 2, 1) := by decide +kernel
theorem dX6_turns_18 : decode cX6_turns 18 = .ok (.imul, 1) := by decide +kernel
theorem dX6_turns_19 : decode cX6_turns 19 = .ok (.iload_n 3, 1) := by decide +kernel
theorem dX6_turns_20 : decode cX6_turns 20 = .ok (.iadd, 1) := by decide +kernel
theorem dX6_turns_21 : decode cX6_turns 21 = .ok (.invokevirtual 72, 3) := by decide +kernel
theorem dX6_turns_24 : decode cX6_turns 24 = .ok (.iastore, 1) := by decide +kernel
theorem dX6_turns_25 : decode cX6_turns 25 = .ok (.iinc 3 1, 3) := by decide +kernel
theorem dX6_turns_28 : decode cX6_turns 28 = .ok (.goto (-26), 3) := by decide +kernel
theorem dX6_turns_31 : decode cX6_turns 31 = .ok (.iconst 1, 1) := by decide +kernel
theorem dX6_turns_32 : decode cX6_turns 32 = .ok (.istore_n 3, 1) := by decide +kernel
theorem dX6_turns_33 : decode cX6_turns 33 = .ok (.iload_n 3, 1) := by decide +kernel
theorem dX6_turns_34 : decode cX6_turns 34 = .ok (.bipush 8, 2) := by decide +kernel
theorem dX6_turns_36 : decode cX6_turns 36 = .ok (.if_icmp .ge 79, 3) := by decide +kernel
theorem dX6_turns_39 : decode cX6_turns 39 = .ok (.iconst 0, 1) := by decide +kernel
theorem dX6_turns_40 : decode cX6_turns 40 = .ok (.istore 4, 2) := by decide +kernel
theorem dX6_turns_42 : decode cX6_turns 42 = .ok (.iload 4, 2) := by decide +kernel
theorem dX6_turns_44 : decode cX6_turns 44 = .ok (.bipush 8, 2) := by decide +kernel
theorem dX6_turns_46 : decode cX6_turns 46 = .ok (.if_icmp .ge 62, 3) := by decide +kernel
theorem dX6_turns_49 : decode cX6_turns 49 = .ok (.iload 4, 2) := by decide +kernel
theorem dX6_turns_51 : decode cX6_turns 51 = .ok (.iload_n 3, 1) := by decide +kernel
theorem dX6_turns_52 : decode cX6_turns 52 = .ok (.iand, 1) := by decide +kernel
theorem dX6_turns_53 : decode cX6_turns 53 = .ok (.ifCond .ne 49, 3) := by decide +kernel
theorem dX6_turns_56 : decode cX6_turns 56 = .ok (.aload_n 0, 1) := by decide +kernel
theorem dX6_turns_57 : decode cX6_turns 57 = .ok (.getfield 23, 3) := by decide +kernel
theorem dX6_turns_60 : decode cX6_turns 60 = .ok (.iload 4, 2) := by decide +kernel
theorem dX6_turns_62 : decode cX6_turns 62 = .ok (.iaload, 1) := by decide +kernel
theorem dX6_turns_63 : decode cX6_turns 63 = .ok (.istore 5, 2) := by decide +kernel
theorem dX6_turns_65 : decode cX6_turns 65 = .ok (.aload_n 0, 1) := by decide +kernel
theorem dX6_turns_66 : decode cX6_turns 66 = .ok (.getfield 23, 3) := by decide +kernel
theorem dX6_turns_69 : decode cX6_turns 69 = .ok (.iload 4, 2) := by decide +kernel
theorem dX6_turns_71 : decode cX6_turns 71 = .ok (.iload_n 3, 1) := by decide +kernel
