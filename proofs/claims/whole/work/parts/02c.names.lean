theorem dX3_turn_22 : decode cX3_turn 22 = .ok (.iload 4, 2) := by decide +kernel
theorem dX3_turn_24 : decode cX3_turn 24 = .ok (.iadd, 1) := by decide +kernel
theorem dX3_turn_25 : decode cX3_turn 25 = .ok (.invokevirtual 50, 3) := by decide +kernel
theorem dX3_turn_28 : decode cX3_turn 28 = .ok (.iastore, 1) := by decide +kernel
theorem dX3_turn_29 : decode cX3_turn 29 = .ok (.iinc 4 1, 3) := by decide +kernel
theorem dX3_turn_32 : decode cX3_turn 32 = .ok (.goto (-29), 3) := by decide +kernel
theorem dX3_turn_35 : decode cX3_turn 35 = .ok (.iconst 1, 1) := by decide +kernel
theorem dX3_turn_36 : decode cX3_turn 36 = .ok (.istore 4, 2) := by decide +kernel
theorem dX3_turn_38 : decode cX3_turn 38 = .ok (.iload 4, 2) := by decide +kernel
theorem dX3_turn_40 : decode cX3_turn 40 = .ok (.bipush 8, 2) := by decide +kernel
theorem dX3_turn_42 : decode cX3_turn 42 = .ok (.if_icmp .ge 18, 3) := by decide +kernel
theorem dX3_turn_45 : decode cX3_turn 45 = .ok (.aload_n 0, 1) := by decide +kernel
theorem dX3_turn_46 : decode cX3_turn 46 = .ok (.iload 4, 2) := by decide +kernel
theorem dX3_turn_48 : decode cX3_turn 48 = .ok (.invokevirtual 53, 3) := by decide +kernel
theorem dX3_turn_51 : decode cX3_turn 51 = .ok (.iload 4, 2) := by decide +kernel
theorem dX3_turn_53 : decode cX3_turn 53 = .ok (.iconst 2, 1) := by decide +kernel
theorem dX3_turn_54 : decode cX3_turn 54 = .ok (.imul, 1) := by decide +kernel
theorem dX3_turn_55 : decode cX3_turn 55 = .ok (.istore 4, 2) := by decide +kernel
theorem dX3_turn_57 : decode cX3_turn 57 = .ok (.goto (-19), 3) := by decide +kernel
theorem dX3_turn_60 : decode cX3_turn 60 = .ok (.return_, 1) := by decide +kernel
theorem dX3_turnPairs_0 : decode cX3_turnPairs 0 = .ok (.iconst 0, 1) := by decide +kernel
theorem dX3_turnPairs_1 : decode cX3_turnPairs 1 = .ok (.istore_n 2, 1) := by decide +kernel
theorem dX3_turnPairs_2 : decode cX3_turnPairs 2 = .ok (.iload_n 2, 1) := by decide +kernel
theorem dX3_turnPairs_3 : decode cX3_turnPairs 3 = .ok (.iload_n 1, 1) := by decide +kernel
theorem dX3_turnPairs_4 : decode cX3_turnPairs 4 = .ok (.iadd, 1) := by decide +kernel
theorem dX3_turnPairs_5 : decode cX3_turnPairs 5 = .ok (.bipush 8, 2) := by decide +kernel
theorem dX3_turnPairs_7 : decode cX3_turnPairs 7 = .ok (.if_icmp .ge 54, 3) := by decide +kernel
theorem dX3_turnPairs_10 : decode cX3_turnPairs 10 = .ok (.iload_n 2, 1) := by decide +kernel
theorem dX3_turnPairs_11 : decode cX3_turnPairs 11 = .ok (.iload_n 1, 1) := by decide +kernel
theorem dX3_turnPairs_12 : decode cX3_turnPairs 12 = .ok (.iand, 1) := by decide +kernel
theorem dX3_turnPairs_13 : decode cX3_turnPairs 13 = .ok (.ifCond .ne 42, 3) := by decide +kernel
theorem dX3_turnPairs_16 : decode cX3_turnPairs 16 = .ok (.aload_n 0, 1) := by decide +kernel
theorem dX3_turnPairs_17 : decode cX3_turnPairs 17 = .ok (.getfield 9, 3) := by decide +kernel
theorem dX3_turnPairs_20 : decode cX3_turnPairs 20 = .ok (.iload_n 2, 1) := by decide +kernel
theorem dX3_turnPairs_21 : decode cX3_turnPairs 21 = .ok (.iaload, 1) := by decide +kernel
theorem dX3_turnPairs_22 : decode cX3_turnPairs 22 = .ok (.istore_n 3, 1) := by decide +kernel
theorem dX3_turnPairs_23 : decode cX3_turnPairs 23 = .ok (.aload_n 0, 1) := by decide +kernel
theorem dX3_turnPairs_24 : decode cX3_turnPairs 24 = .ok (.getfield 9, 3) := by decide +kernel
theorem dX3_turnPairs_27 : decode cX3_turnPairs 27 = .ok (.iload_n 2, 1) := by decide +kernel
theorem dX3_turnPairs_28 : decode cX3_turnPairs 28 = .ok (.iload_n 1, 1) := by decide +kernel
theorem dX3_turnPairs_29 : decode cX3_turnPairs 29 = .ok (.iadd, 1) := by decide +kernel
theorem dX3_turnPairs_30 : decode cX3_turnPairs 30 = .ok (.iaload, 1) := by decide +kernel
theorem dX3_turnPairs_31 : decode cX3_turnPairs 31 = .ok (.istore 4, 2) := by decide +kernel
theorem dX3_turnPairs_33 : decode cX3_turnPairs 33 = .ok (.aload_n 0, 1) := by decide +kernel
theorem dX3_turnPairs_34 : decode cX3_turnPairs 34 = .ok (.getfield 9, 3) := by decide +kernel
theorem dX3_turnPairs_37 : decode cX3_turnPairs 37 = .ok (.iload_n 2, 1) := by decide +kernel
theorem dX3_turnPairs_38 : decode cX3_turnPairs 38 = .ok (.iload_n 3, 1) := by decide +kernel
theorem dX3_turnPairs_39 : decode cX3_turnPairs 39 = .ok (.iload 4, 2) := by decide +kernel
theorem dX3_turnPairs_41 : decode cX3_turnPairs 41 = .ok (.iadd, 1) := by decide +kernel
theorem dX3_turnPairs_42 : decode cX3_turnPairs 42 = .ok (.iastore, 1) := by decide +kernel
theorem dX3_turnPairs_43 : decode cX3_turnPairs 43 = .ok (.aload_n 0, 1) := by decide +kernel
theorem dX3_turnPairs_44 : decode cX3_turnPairs 44 = .ok (.getfield 9, 3) := by decide +kernel
theorem dX3_turnPairs_47 : decode cX3_turnPairs 47 = .ok (.iload_n 2, 1) := by decide +kernel
theorem dX3_turnPairs_48 : decode cX3_turnPairs 48 = .ok (.iload_n 1, 1) := by decide +kernel
theorem dX3_turnPairs_49 : decode cX3_turnPairs 49 = .ok (.iadd, 1) := by decide +kernel
theorem dX3_turnPairs_50 : decode cX3_turnPairs 50 = .ok (.iload_n 3, 1) := by decide +kernel
theorem dX3_turnPairs_51 : decode cX3_turnPairs 51 = .ok (.iload 4, 2) := by decide +kernel
theorem dX3_turnPairs_53 : decode cX3_turnPairs 53 = .ok (.isub, 1) := by decide +kernel
theorem dX3_turnPairs_54 : decode cX3_turnPairs 54 = .ok (.iastore, 1) := by decide +kernel
theorem dX3_turnPairs_55 : decode cX3_turnPairs 55 = .ok (.iinc 2 1, 3) := by decide +kernel
theorem dX3_turnPairs_58 : decode cX3_turnPairs 58 = .ok (.goto (-56), 3) := by decide +kernel
theorem dX3_turnPairs_61 : decode cX3_turnPairs 61 = .ok (.return_, 1) := by decide +kernel
theorem dX4_init_0 : decode cX4_init 0 = .ok (.aload_n 0, 1) := by decide +kernel
theorem dX4_init_1 : decode cX4_init 1 = .ok (.invokespecial 3, 3) := by decide +kernel
theorem dX4_init_4 : decode cX4_init 4 = .ok (.aload_n 0, 1) := by decide +kernel
theorem dX4_init_5 : decode cX4_init 5 = .ok (.sipush 640, 3) := by decide +kernel
theorem dX4_init_8 : decode cX4_init 8 = .ok (.newarray .int, 2) := by decide +kernel
theorem dX4_init_10 : decode cX4_init 10 = .ok (.putfield 9, 3) := by decide +kernel
theorem dX4_init_13 : decode cX4_init 13 = .ok (.aload_n 0, 1) := by decide +kernel
theorem dX4_init_14 : decode cX4_init 14 = .ok (.iconst 5, 1) := by decide +kernel
theorem dX4_init_15 : decode cX4_init 15 = .ok (.newarray .int, 2) := by decide +kernel
theorem dX4_init_17 : decode cX4_init 17 = .ok (.putfield 15, 3) := by decide +kernel
theorem dX4_init_20 : decode cX4_init 20 = .ok (.aload_n 0, 1) := by decide +kernel
theorem dX4_init_21 : decode cX4_init 21 = .ok (.bipush 50, 2) := by decide +kernel
theorem dX4_init_23 : decode cX4_init 23 = .ok (.putfield 18, 3) := by decide +kernel
theorem dX4_init_26 : decode cX4_init 26 = .ok (.aload_n 0, 1) := by decide +kernel
theorem dX4_init_27 : decode cX4_init 27 = .ok (.iconst 3, 1) := by decide +kernel
theorem dX4_init_28 : decode cX4_init 28 = .ok (.putfield 22, 3) := by decide +kernel
theorem dX4_init_31 : decode cX4_init 31 = .ok (.return_, 1) := by decide +kernel
theorem dX4_floor_0 : decode cX4_floor 0 = .ok (.aload_n 0, 1) := by decide +kernel
theorem dX4_floor_1 : decode cX4_floor 1 = .ok (.getfield 18, 3) := by decide +kernel
theorem dX4_floor_4 : decode cX4_floor 4 = .ok (.ireturn, 1) := by decide +kernel
theorem dX4_reach_0 : decode cX4_reach 0 = .ok (.aload_n 0, 1) := by decide +kernel
theorem dX4_reach_1 : decode cX4_reach 1 = .ok (.getfield 22, 3) := by decide +kernel
theorem dX4_reach_4 : decode cX4_reach 4 = .ok (.ireturn, 1) := by decide +kernel
theorem dX4_setFloor_0 : decode cX4_setFloor 0 = .ok (.aload_n 0, 1) := by decide +kernel
theorem dX4_setFloor_1 : decode cX4_setFloor 1 = .ok (.iload_n 1, 1) := by decide +kernel
theorem dX4_setFloor_2 : decode cX4_setFloor 2 = .ok (.putfield 18, 3) := by decide +kernel
theorem dX4_setFloor_5 : decode cX4_setFloor 5 = .ok (.return_, 1) := by decide +kernel
theorem dX4_setReach_0 : decode cX4_setReach 0 = .ok (.aload_n 0, 1) := by decide +kernel
theorem dX4_setReach_1 : decode cX4_setReach 1 = .ok (.iload_n 1, 1) := by decide +kernel
theorem dX4_setReach_2 : decode cX4_setReach 2 = .ok (.putfield 22, 3) := by decide +kernel
theorem dX4_setReach_5 : decode cX4_setReach 5 = .ok (.return_, 1) := by decide +kernel
theorem dX4_sizeOf_0 : decode cX4_sizeOf 0 = .ok (.aload_n 0, 1) := by decide +kernel
theorem dX4_sizeOf_1 : decode cX4_sizeOf 1 = .ok (.getfield 15, 3) := by decide +kernel
theorem dX4_sizeOf_4 : decode cX4_sizeOf 4 = .ok (.iload_n 1, 1) := by decide +kernel
theorem dX4_sizeOf_5 : decode cX4_sizeOf 5 = .ok (.iaload, 1) := by decide +kernel
theorem dX4_sizeOf_6 : decode cX4_sizeOf 6 = .ok (.ireturn, 1) := by decide +kernel
theorem dX4_windowsOf_0 : decode cX4_windowsOf 0 = .ok (.aload_n 0, 1) := by decide +kernel
theorem dX4_windowsOf_1 : decode cX4_windowsOf 1 = .ok (.getfield 15, 3) := by decide +kernel
theorem dX4_windowsOf_4 : decode cX4_windowsOf 4 = .ok (.iload_n 1, 1) := by decide +kernel
theorem dX4_windowsOf_5 : decode cX4_windowsOf 5 = .ok (.iaload, 1) := by decide +kernel
theorem dX4_windowsOf_6 : decode cX4_windowsOf 6 = .ok (.bipush 8, 2) := by decide +kernel
theorem dX4_windowsOf_8 : decode cX4_windowsOf 8 = .ok (.idiv, 1) := by decide +kernel
theorem dX4_windowsOf_9 : decode cX4_windowsOf 9 = .ok (.ireturn, 1) := by decide +kernel
theorem dX4_numberAt_0 : decode cX4_numberAt 0 = .ok (.aload_n 0, 1) := by decide +kernel
theorem dX4_numberAt_1 : decode cX4_numberAt 1 = .ok (.getfield 9, 3) := by decide +kernel
theorem dX4_numberAt_4 : decode cX4_numberAt 4 = .ok (.iload_n 1, 1) := by decide +kernel
theorem dX4_numberAt_5 : decode cX4_numberAt 5 = .ok (.sipush 128, 3) := by decide +kernel
theorem dX4_numberAt_8 : decode cX4_numberAt 8 = .ok (.imul, 1) := by decide +kernel
theorem dX4_numberAt_9 : decode cX4_numberAt 9 = .ok (.iload_n 2, 1) := by decide +kernel
theorem dX4_numberAt_10 : decode cX4_numberAt 10 = .ok (.iadd, 1) := by decide +kernel
theorem dX4_numberAt_11 : decode cX4_numberAt 11 = .ok (.iaload, 1) := by decide +kernel
theorem dX4_numberAt_12 : decode cX4_numberAt 12 = .ok (.ireturn, 1) := by decide +kernel
theorem dX4_empty_0 : decode cX4_empty 0 = .ok (.aload_n 0, 1) := by decide +kernel
theorem dX4_empty_1 : decode cX4_empty 1 = .ok (.getfield 15, 3) := by decide +kernel
theorem dX4_empty_4 : decode cX4_empty 4 = .ok (.iload_n 1, 1) := by decide +kernel
theorem dX4_empty_5 : decode cX4_empty 5 = .ok (.iconst 0, 1) := by decide +kernel
theorem dX4_empty_6 : decode cX4_empty 6 = .ok (.iastore, 1) := by decide +kernel
theorem dX4_empty_7 : decode cX4_empty 7 = .ok (.return_, 1) := by decide +kernel
theorem dX4_append_0 : decode cX4_append 0 = .ok (.aload_n 0, 1) := by decide +kernel
theorem dX4_append_1 : decode cX4_append 1 = .ok (.getfield 15, 3) := by decide +kernel
theorem dX4_append_4 : decode cX4_append 4 = .ok (.iload_n 1, 1) := by decide +kernel
theorem dX4_append_5 : decode cX4_append 5 = .ok (.iaload, 1) := by decide +kernel
theorem dX4_append_6 : decode cX4_append 6 = .ok (.istore_n 3, 1) := by decide +kernel
theorem dX4_append_7 : decode cX4_append 7 = .ok (.iload_n 3, 1) := by decide +kernel
theorem dX4_append_8 : decode cX4_append 8 = .ok (.sipush 128, 3) := by decide +kernel
theorem dX4_append_11 : decode cX4_append 11 = .ok (.if_icmp .ge 25, 3) := by decide +kernel
theorem dX4_append_14 : decode cX4_append 14 = .ok (.aload_n 0, 1) := by decide +kernel
theorem dX4_append_15 : decode cX4_append 15 = .ok (.getfield 9, 3) := by decide +kernel
theorem dX4_append_18 : decode cX4_append 18 = .ok (.iload_n 1, 1) := by decide +kernel
theorem dX4_append_19 : decode cX4_append 19 = .ok (.sipush 128, 3) := by decide +kernel
theorem dX4_append_22 : decode cX4_append 22 = .ok (.imul, 1) := by decide +kernel
theorem dX4_append_23 : decode cX4_append 23 = .ok (.iload_n 3, 1) := by decide +kernel
theorem dX4_append_24 : decode cX4_append 24 = .ok (.iadd, 1) := by decide +kernel
theorem dX4_append_25 : decode cX4_append 25 = .ok (.iload_n 2, 1) := by decide +kernel
theorem dX4_append_26 : decode cX4_append 26 = .ok (.iastore, 1) := by decide +kernel
theorem dX4_append_27 : decode cX4_append 27 = .ok (.aload_n 0, 1) := by decide +kernel
theorem dX4_append_28 : decode cX4_append 28 = .ok (.getfield 15, 3) := by decide +kernel
theorem dX4_append_31 : decode cX4_append 31 = .ok (.iload_n 1, 1) := by decide +kernel
theorem dX4_append_32 : decode cX4_append 32 = .ok (.iload_n 3, 1) := by decide +kernel
theorem dX4_append_33 : decode cX4_append 33 = .ok (.iconst 1, 1) := by decide +kernel
theorem dX4_append_34 : decode cX4_append 34 = .ok (.iadd, 1) := by decide +kernel
theorem dX4_append_35 : decode cX4_append 35 = .ok (.iastore, 1) := by decide +kernel
theorem dX4_append_36 : decode cX4_append 36 = .ok (.return_, 1) := by decide +kernel
theorem dX4_replace_0 : decode cX4_replace 0 = .ok (.iload_n 1, 1) := by decide +kernel
theorem dX4_replace_1 : decode cX4_replace 1 = .ok (.sipush 128, 3) := by decide +kernel
theorem dX4_replace_4 : decode cX4_replace 4 = .ok (.imul, 1) := by decide +kernel
theorem dX4_replace_5 : decode cX4_replace 5 = .ok (.iload_n 2, 1) := by decide +kernel
theorem dX4_replace_6 : decode cX4_replace 6 = .ok (.iadd, 1) := by decide +kernel
theorem dX4_replace_7 : decode cX4_replace 7 = .ok (.istore 4, 2) := by decide +kernel
theorem dX4_replace_9 : decode cX4_replace 9 = .ok (.aload_n 0, 1) := by decide +kernel
theorem dX4_replace_10 : decode cX4_replace 10 = .ok (.getfield 9, 3) := by decide +kernel
theorem dX4_replace_13 : decode cX4_replace 13 = .ok (.iload 4, 2) := by decide +kernel
theorem dX4_replace_15 : decode cX4_replace 15 = .ok (.iaload, 1) := by decide +kernel
theorem dX4_replace_16 : decode cX4_replace 16 = .ok (.istore 5, 2) := by decide +kernel
theorem dX4_replace_18 : decode cX4_replace 18 = .ok (.bipush (-100), 2) := by decide +kernel
theorem dX4_replace_20 : decode cX4_replace 20 = .ok (.bipush 100, 2) := by decide +kernel
theorem dX4_replace_22 : decode cX4_replace 22 = .ok (.iload_n 3, 1) := by decide +kernel
theorem dX4_replace_23 : decode cX4_replace 23 = .ok (.invokestatic 25, 3) := by decide +kernel
theorem dX4_replace_26 : decode cX4_replace 26 = .ok (.invokestatic 31, 3) := by decide +kernel
theorem dX4_replace_29 : decode cX4_replace 29 = .ok (.istore 6, 2) := by decide +kernel
theorem dX4_replace_31 : decode cX4_replace 31 = .ok (.aload_n 0, 1) := by decide +kernel
theorem dX4_replace_32 : decode cX4_replace 32 = .ok (.getfield 9, 3) := by decide +kernel
theorem dX4_replace_35 : decode cX4_replace 35 = .ok (.iload 4, 2) := by decide +kernel
theorem dX4_replace_37 : decode cX4_replace 37 = .ok (.iload 6, 2) := by decide +kernel
theorem dX4_replace_39 : decode cX4_replace 39 = .ok (.iastore, 1) := by decide +kernel
theorem dX4_replace_40 : decode cX4_replace 40 = .ok (.iload 6, 2) := by decide +kernel
theorem dX4_replace_42 : decode cX4_replace 42 = .ok (.iload 5, 2) := by decide +kernel
theorem dX4_replace_44 : decode cX4_replace 44 = .ok (.if_icmp .eq 7, 3) := by decide +kernel
theorem dX4_replace_47 : decode cX4_replace 47 = .ok (.iconst 1, 1) := by decide +kernel
theorem dX4_replace_48 : decode cX4_replace 48 = .ok (.goto 4, 3) := by decide +kernel
theorem dX4_replace_51 : decode cX4_replace 51 = .ok (.iconst 0, 1) := by decide +kernel
theorem dX4_replace_52 : decode cX4_replace 52 = .ok (.ireturn, 1) := by decide +kernel
theorem dX4_become_0 : decode cX4_become 0 = .ok (.aload_n 1, 1) := by decide +kernel
theorem dX4_become_1 : decode cX4_become 1 = .ok (.getfield 9, 3) := by decide +kernel
theorem dX4_become_4 : decode cX4_become 4 = .ok (.iconst 0, 1) := by decide +kernel
theorem dX4_become_5 : decode cX4_become 5 = .ok (.aload_n 0, 1) := by decide +kernel
theorem dX4_become_6 : decode cX4_become 6 = .ok (.getfield 9, 3) := by decide +kernel
theorem dX4_become_9 : decode cX4_become 9 = .ok (.iconst 0, 1) := by decide +kernel
theorem dX4_become_10 : decode cX4_become 10 = .ok (.sipush 640, 3) := by decide +kernel
theorem dX4_become_13 : decode cX4_become 13 = .ok (.invokestatic 34, 3) := by decide +kernel
theorem dX4_become_16 : decode cX4_become 16 = .ok (.aload_n 1, 1) := by decide +kernel
theorem dX4_become_17 : decode cX4_become 17 = .ok (.getfield 15, 3) := by decide +kernel
theorem dX4_become_20 : decode cX4_become 20 = .ok (.iconst 0, 1) := by decide +kernel
theorem dX4_become_21 : decode cX4_become 21 = .ok (.aload_n 0, 1) := by decide +kernel
theorem dX4_become_22 : decode cX4_become 22 = .ok (.getfield 15, 3) := by decide +kernel
theorem dX4_become_25 : decode cX4_become 25 = .ok (.iconst 0, 1) := by decide +kernel
theorem dX4_become_26 : decode cX4_become 26 = .ok (.iconst 5, 1) := by decide +kernel
theorem dX4_become_27 : decode cX4_become 27 = .ok (.invokestatic 34, 3) := by decide +kernel
theorem dX4_become_30 : decode cX4_become 30 = .ok (.aload_n 0, 1) := by decide +kernel
theorem dX4_become_31 : decode cX4_become 31 = .ok (.aload_n 1, 1) := by decide +kernel
theorem dX4_become_32 : decode cX4_become 32 = .ok (.getfield 18, 3) := by decide +kernel
theorem dX4_become_35 : decode cX4_become 35 = .ok (.putfield 18, 3) := by decide +kernel
theorem dX4_become_38 : decode cX4_become 38 = .ok (.aload_n 0, 1) := by decide +kernel
theorem dX4_become_39 : decode cX4_become 39 = .ok (.aload_n 1, 1) := by decide +kernel
theorem dX4_become_40 : decode cX4_become 40 = .ok (.getfield 22, 3) := by decide +kernel
theorem dX4_become_43 : decode cX4_become 43 = .ok (.putfield 22, 3) := by decide +kernel
theorem dX4_become_46 : decode cX4_become 46 = .ok (.return_, 1) := by decide +kernel
theorem dX4_copyRowTo_0 : decode cX4_copyRowTo 0 = .ok (.aload_n 0, 1) := by decide +kernel
theorem dX4_copyRowTo_1 : decode cX4_copyRowTo 1 = .ok (.getfield 9, 3) := by decide +kernel
theorem dX4_copyRowTo_4 : decode cX4_copyRowTo 4 = .ok (.iload_n 1, 1) := by decide +kernel
theorem dX4_copyRowTo_5 : decode cX4_copyRowTo 5 = .ok (.sipush 128, 3) := by decide +kernel
theorem dX4_copyRowTo_8 : decode cX4_copyRowTo 8 = .ok (.imul, 1) := by decide +kernel
theorem dX4_copyRowTo_9 : decode cX4_copyRowTo 9 = .ok (.aload_n 2, 1) := by decide +kernel
theorem dX4_copyRowTo_10 : decode cX4_copyRowTo 10 = .ok (.iload_n 3, 1) := by decide +kernel
theorem dX4_copyRowTo_11 : decode cX4_copyRowTo 11 = .ok (.sipush 128, 3) := by decide +kernel
theorem dX4_copyRowTo_14 : decode cX4_copyRowTo 14 = .ok (.invokestatic 34, 3) := by decide +kernel
theorem dX4_copyRowTo_17 : decode cX4_copyRowTo 17 = .ok (.return_, 1) := by decide +kernel
theorem dX4_takeRow_0 : decode cX4_takeRow 0 = .ok (.aload_n 2, 1) := by decide +kernel
theorem dX4_takeRow_1 : decode cX4_takeRow 1 = .ok (.iload_n 3, 1) := by decide +kernel
theorem dX4_takeRow_2 : decode cX4_takeRow 2 = .ok (.aload_n 0, 1) := by decide +kernel
theorem dX4_takeRow_3 : decode cX4_takeRow 3 = .ok (.getfield 9, 3) := by decide +kernel
theorem dX4_takeRow_6 : decode cX4_takeRow 6 = .ok (.iload_n 1, 1) := by decide +kernel
theorem dX4_takeRow_7 : decode cX4_takeRow 7 = .ok (.sipush 128, 3) := by decide +kernel
theorem dX4_takeRow_10 : decode cX4_takeRow 10 = .ok (.imul, 1) := by decide +kernel
theorem dX4_takeRow_11 : decode cX4_takeRow 11 = .ok (.sipush 128, 3) := by decide +kernel
theorem dX4_takeRow_14 : decode cX4_takeRow 14 = .ok (.invokestatic 34, 3) := by decide +kernel
theorem dX4_takeRow_17 : decode cX4_takeRow 17 = .ok (.aload_n 0, 1) := by decide +kernel
theorem dX4_takeRow_18 : decode cX4_takeRow 18 = .ok (.getfield 15, 3) := by decide +kernel
theorem dX4_takeRow_21 : decode cX4_takeRow 21 = .ok (.iload_n 1, 1) := by decide +kernel
theorem dX4_takeRow_22 : decode cX4_takeRow 22 = .ok (.iload 4, 2) := by decide +kernel
theorem dX4_takeRow_24 : decode cX4_takeRow 24 = .ok (.iastore, 1) := by decide +kernel
theorem dX4_takeRow_25 : decode cX4_takeRow 25 = .ok (.return_, 1) := by decide +kernel
set_option maxRecDepth 20000 in
theorem ggX5_init_X4_init : GoodIn wsX5_init wsX4_init := goodIn_r _ [28, 29, 2, 3, 30, 31, 32, 33, 34, 64, 65, 66, 67] (by decide +kernel) (by decide +kernel)
set_option maxRecDepth 20000 in
theorem gX5_init_X4_init : GoodIn wsX5_init (wsX4_init) := ggX5_init_X4_init
set_option maxRecDepth 20000 in
theorem ggX5_init_X2_init : GoodIn wsX5_init wsX2_init := goodIn_r _ [37, 38, 2, 3, 30, 39, 40, 41, 42, 43, 75, 76, 77, 78, 79, 80, 81] (by decide +kernel) (by decide +kernel)
set_option maxRecDepth 20000 in
theorem gX5_init_X2_init : GoodIn wsX5_init (wsX2_init) := ggX5_init_X2_init
set_option maxRecDepth 20000 in
theorem ggX5_init_X3_init : GoodIn wsX5_init wsX3_init := goodIn_r _ [46, 47, 2, 3, 30, 48, 49, 50, 82, 83, 84] (by decide +kernel) (by decide +kernel)
set_option maxRecDepth 20000 in
theorem gX5_init_X3_init : GoodIn wsX5_init (wsX3_init) := ggX5_init_X3_init
set_option maxRecDepth 20000 in
theorem ggX5_init_X1_init : GoodIn wsX5_init wsX1_init := goodIn_r _ [53, 54, 2, 3, 30, 55, 56, 57, 85, 86, 87, 88] (by decide +kernel) (by decide +kernel)
set_option maxRecDepth 20000 in
theorem gX5_init_X1_init : GoodIn wsX5_init (wsX1_init) := ggX5_init_X1_init
set_option maxRecDepth 20000 in
theorem ggX5_init_X0_init : GoodIn wsX5_init wsX0_init := goodIn_r _ [60, 61, 2, 3, 30, 62, 63, 89, 90, 91, 92, 93, 94] (by decide +kernel) (by decide +kernel)
set_option maxRecDepth 20000 in
theorem gX5_init_X0_init : GoodIn wsX5_init (wsX0_init) := ggX5_init_X0_init
theorem dX5_init_0 : decode cX5_init 0 = .ok (.aload_n 0, 1) := by decide +kernel
theorem dX5_init_1 : decode cX5_init 1 = .ok (.invokespecial 1, 3) := by decide +kernel
theorem dX5_init_4 : decode cX5_init 4 = .ok (.aload_n 0, 1) := by decide +kernel
theorem dX5_init_5 : decode cX5_init 5 = .ok (.new 7, 3) := by decide +kernel
theorem dX5_init_8 : decode cX5_init 8 = .ok (.dup, 1) := by decide +kernel
theorem dX5_init_9 : decode cX5_init 9 = .ok (.invokespecial 9, 3) := by decide +kernel
theorem dX5_init_12 : decode cX5_init 12 = .ok (.putfield 10, 3) := by decide +kernel
theorem dX5_init_15 : decode cX5_init 15 = .ok (.aload_n 0, 1) := by decide +kernel
theorem dX5_init_16 : decode cX5_init 16 = .ok (.new 16, 3) := by decide +kernel
theorem dX5_init_19 : decode cX5_init 19 = .ok (.dup, 1) := by decide +kernel
theorem dX5_init_20 : decode cX5_init 20 = .ok (.invokespecial 18, 3) := by decide +kernel
theorem dX5_init_23 : decode cX5_init 23 = .ok (.putfield 19, 3) := by decide +kernel
theorem dX5_init_26 : decode cX5_init 26 = .ok (.aload_n 0, 1) := by decide +kernel
theorem dX5_init_27 : decode cX5_init 27 = .ok (.iconst 2, 1) := by decide +kernel
theorem dX5_init_28 : decode cX5_init 28 = .ok (.anewarray 7, 3) := by decide +kernel
theorem dX5_init_31 : decode cX5_init 31 = .ok (.putfield 23, 3) := by decide +kernel
theorem dX5_init_34 : decode cX5_init 34 = .ok (.aload_n 0, 1) := by decide +kernel
theorem dX5_init_35 : decode cX5_init 35 = .ok (.new 27, 3) := by decide +kernel
theorem dX5_init_38 : decode cX5_init 38 = .ok (.dup, 1) := by decide +kernel
theorem dX5_init_39 : decode cX5_init 39 = .ok (.invokespecial 29, 3) := by decide +kernel
theorem dX5_init_42 : decode cX5_init 42 = .ok (.putfield 30, 3) := by decide +kernel
theorem dX5_init_45 : decode cX5_init 45 = .ok (.aload_n 0, 1) := by decide +kernel
theorem dX5_init_46 : decode cX5_init 46 = .ok (.new 34, 3) := by decide +kernel
theorem dX5_init_49 : decode cX5_init 49 = .ok (.dup, 1) := by decide +kernel
theorem dX5_init_50 : decode cX5_init 50 = .ok (.invokespecial 36, 3) := by decide +kernel
theorem dX5_init_53 : decode cX5_init 53 = .ok (.putfield 37, 3) := by decide +kernel
theorem dX5_init_56 : decode cX5_init 56 = .ok (.aload_n 0, 1) := by decide +kernel
theorem dX5_init_57 : decode cX5_init 57 = .ok (.new 41, 3) := by decide +kernel
theorem dX5_init_60 : decode cX5_init 60 = .ok (.dup, 1) := by decide +kernel
theorem dX5_init_61 : decode cX5_init 61 = .ok (.invokespecial 43, 3) := by decide +kernel
theorem dX5_init_64 : decode cX5_init 64 = .ok (.putfield 44, 3) := by decide +kernel
theorem dX5_init_67 : decode cX5_init 67 = .ok (.aload_n 0, 1) := by decide +kernel
theorem dX5_init_68 : decode cX5_init 68 = .ok (.iconst 0, 1) := by decide +kernel
theorem dX5_init_69 : decode cX5_init 69 = .ok (.putfield 48, 3) := by decide +kernel
theorem dX5_init_72 : decode cX5_init 72 = .ok (.return_, 1) := by decide +kernel
set_option maxRecDepth 20000 in
theorem ggX5_add_X5_isRow : GoodIn wsX5_add wsX5_isRow := goodIn_r _ [8, 9, 10, 7, 11] (by decide +kernel) (by decide +kernel)
set_option maxRecDepth 20000 in
theorem gX5_add_X5_isRow : GoodIn wsX5_add (va_wsS RX5 52 yX5_isRow wsX5_isRow) := goodIn_app (goodIn_of _ (by decide +kernel)) ggX5_add_X5_isRow
set_option maxRecDepth 20000 in
theorem ggX5_add_X5_isWithin : GoodIn wsX5_add wsX5_isWithin := goodIn_r _ [11] (by decide +kernel) (by decide +kernel)
set_option maxRecDepth 20000 in
theorem gX5_add_X5_isWithin : GoodIn wsX5_add (va_wsS RX5 57 yX5_isWithin wsX5_isWithin) := goodIn_app (goodIn_of _ (by decide +kernel)) ggX5_add_X5_isWithin
set_option maxRecDepth 20000 in
theorem ggX5_add_X4_sizeOf : GoodIn wsX5_add wsX4_sizeOf := goodIn_r _ [16, 17, 71, 72, 73, 74] (by decide +kernel) (by decide +kernel)
set_option maxRecDepth 20000 in
theorem gX5_add_X4_sizeOf : GoodIn wsX5_add (wsV RX5 62 RX4 yX4_sizeOf wsX4_sizeOf) := goodIn_app (goodIn_of _ (by decide +kernel)) ggX5_add_X4_sizeOf
set_option maxRecDepth 20000 in
theorem ggX5_add_X5_beforeChange : GoodIn wsX5_add wsX5_beforeChange := goodIn_r _ [21, 22, 3, 23, 24, 25, 26, 27, 28, 29, 30, 31, 32, 33, 34, 35, 36, 37, 38, 39, 40, 41, 42, 15, 43, 44, 45, 46, 47, 48, 49, 13, 14, 16, 17, 50, 51, 52, 53, 54, 55, 56, 57, 58, 59, 64, 65, 66, 67, 68, 69, 70, 75, 76, 77, 78, 79, 80, 81, 71, 72, 73, 74] (by decide +kernel) (by decide +kernel)
set_option maxRecDepth 20000 in
theorem gX5_add_X5_beforeChange : GoodIn wsX5_add (wsV RX5 67 RX5 yX5_beforeChange wsX5_beforeChange) := goodIn_app (goodIn_of _ (by decide +kernel)) ggX5_add_X5_beforeChange
set_option maxRecDepth 20000 in
theorem ggX5_add_X4_append : GoodIn wsX5_add wsX4_append := goodIn_r _ [63, 17, 44, 71, 72, 73, 74] (by decide +kernel) (by decide +kernel)
set_option maxRecDepth 20000 in
theorem gX5_add_X4_append : GoodIn wsX5_add (wsV RX5 71 RX4 yX4_append wsX4_append) := goodIn_app (goodIn_of _ (by decide +kernel)) ggX5_add_X4_append
theorem dX5_add_0 : decode cX5_add 0 = .ok (.iload_n 1, 1) := by decide +kernel
theorem dX5_add_1 : decode cX5_add 1 = .ok (.invokestatic 52, 3) := by decide +kernel
theorem dX5_add_4 : decode cX5_add 4 = .ok (.ifCond .ne 6, 3) := by decide +kernel
theorem dX5_add_7 : decode cX5_add 7 = .ok (.ldc 56, 2) := by decide +kernel
theorem dX5_add_9 : decode cX5_add 9 = .ok (.ireturn, 1) := by decide +kernel
theorem dX5_add_10 : decode cX5_add 10 = .ok (.iload_n 2, 1) := by decide +kernel
theorem dX5_add_11 : decode cX5_add 11 = .ok (.bipush (-100), 2) := by decide +kernel
theorem dX5_add_13 : decode cX5_add 13 = .ok (.bipush 100, 2) := by decide +kernel
theorem dX5_add_15 : decode cX5_add 15 = .ok (.invokestatic 57, 3) := by decide +kernel
theorem dX5_add_18 : decode cX5_add 18 = .ok (.ifCond .ne 6, 3) := by decide +kernel
theorem dX5_add_21 : decode cX5_add 21 = .ok (.ldc 61, 2) := by decide +kernel
theorem dX5_add_23 : decode cX5_add 23 = .ok (.ireturn, 1) := by decide +kernel
theorem dX5_add_24 : decode cX5_add 24 = .ok (.aload_n 0, 1) := by decide +kernel
theorem dX5_add_25 : decode cX5_add 25 = .ok (.getfield 10, 3) := by decide +kernel
theorem dX5_add_28 : decode cX5_add 28 = .ok (.iload_n 1, 1) := by decide +kernel
theorem dX5_add_29 : decode cX5_add 29 = .ok (.invokevirtual 62, 3) := by decide +kernel
theorem dX5_add_32 : decode cX5_add 32 = .ok (.sipush 128, 3) := by decide +kernel
theorem dX5_add_35 : decode cX5_add 35 = .ok (.if_icmp .lt 6, 3) := by decide +kernel
theorem dX5_add_38 : decode cX5_add 38 = .ok (.ldc 66, 2) := by decide +kernel
theorem dX5_add_40 : decode cX5_add 40 = .ok (.ireturn, 1) := by decide +kernel
theorem dX5_add_41 : decode cX5_add 41 = .ok (.aload_n 0, 1) := by decide +kernel
theorem dX5_add_42 : decode cX5_add 42 = .ok (.iload_n 1, 1) := by decide +kernel
theorem dX5_add_43 : decode cX5_add 43 = .ok (.invokevirtual 67, 3) := by decide +kernel
theorem dX5_add_46 : decode cX5_add 46 = .ok (.aload_n 0, 1) := by decide +kernel
theorem dX5_add_47 : decode cX5_add 47 = .ok (.getfield 10, 3) := by decide +kernel
theorem dX5_add_50 : decode cX5_add 50 = .ok (.iload_n 1, 1) := by decide +kernel
theorem dX5_add_51 : decode cX5_add 51 = .ok (.iload_n 2, 1) := by decide +kernel
theorem dX5_add_52 : decode cX5_add 52 = .ok (.invokevirtual 71, 3) := by decide +kernel
theorem dX5_add_55 : decode cX5_add 55 = .ok (.aload_n 0, 1) := by decide +kernel
theorem dX5_add_56 : decode cX5_add 56 = .ok (.getfield 10, 3) := by decide +kernel
theorem dX5_add_59 : decode cX5_add 59 = .ok (.iload_n 1, 1) := by decide +kernel
theorem dX5_add_60 : decode cX5_add 60 = .ok (.invokevirtual 62, 3) := by decide +kernel
theorem dX5_add_63 : decode cX5_add 63 = .ok (.ireturn, 1) := by decide +kernel
set_option maxRecDepth 20000 in
theorem ggX5_wipe_X5_isRow : GoodIn wsX5_wipe wsX5_isRow := goodIn_r _ [6, 7, 8, 5, 9] (by decide +kernel) (by decide +kernel)
set_option maxRecDepth 20000 in
theorem gX5_wipe_X5_isRow : GoodIn wsX5_wipe (va_wsS RX5 52 yX5_isRow wsX5_isRow) := goodIn_app (goodIn_of _ (by decide +kernel)) ggX5_wipe_X5_isRow
set_option maxRecDepth 20000 in
theorem ggX5_wipe_X5_beforeChange : GoodIn wsX5_wipe wsX5_beforeChange := goodIn_r _ [13, 14, 2, 15, 16, 17, 18, 19, 20, 21, 22, 23, 24, 25, 26, 27, 28, 29, 30, 31, 32, 33, 34, 35, 36, 37, 38, 39, 40, 41, 42, 43, 44, 45, 46, 47, 48, 49, 50, 51, 52, 53, 54, 55, 56, 62, 63, 64, 65, 66, 67, 68, 69, 70, 71, 72, 73, 74, 75, 76, 77, 78, 79] (by decide +kernel) (by decide +kernel)
set_option maxRecDepth 20000 in
theorem gX5_wipe_X5_beforeChange : GoodIn wsX5_wipe (wsV RX5 67 RX5 yX5_beforeChange wsX5_beforeChange) := goodIn_app (goodIn_of _ (by decide +kernel)) ggX5_wipe_X5_beforeChange
set_option maxRecDepth 20000 in
theorem ggX5_wipe_X4_sizeOf : GoodIn wsX5_wipe wsX4_sizeOf := goodIn_r _ [45, 46, 76, 77, 78, 79] (by decide +kernel) (by decide +kernel)
set_option maxRecDepth 20000 in
theorem gX5_wipe_X4_sizeOf : GoodIn wsX5_wipe (wsV RX5 62 RX4 yX4_sizeOf wsX4_sizeOf) := goodIn_app (goodIn_of _ (by decide +kernel)) ggX5_wipe_X4_sizeOf
set_option maxRecDepth 20000 in
theorem ggX5_wipe_X4_empty : GoodIn wsX5_wipe wsX4_empty := goodIn_r _ [61, 46, 76, 77, 78, 79] (by decide +kernel) (by decide +kernel)
set_option maxRecDepth 20000 in
theorem gX5_wipe_X4_empty : GoodIn wsX5_wipe (wsV RX5 75 RX4 yX4_empty wsX4_empty) := goodIn_app (goodIn_of _ (by decide +kernel)) ggX5_wipe_X4_empty
theorem dX5_wipe_0 : decode cX5_wipe 0 = .ok (.iload_n 1, 1) := by decide +kernel
theorem dX5_wipe_1 : decode cX5_wipe 1 = .ok (.invokestatic 52, 3) := by decide +kernel
theorem dX5_wipe_4 : decode cX5_wipe 4 = .ok (.ifCond .ne 6, 3) := by decide +kernel
theorem dX5_wipe_7 : decode cX5_wipe 7 = .ok (.ldc 56, 2) := by decide +kernel
theorem dX5_wipe_9 : decode cX5_wipe 9 = .ok (.ireturn, 1) := by decide +kernel
theorem dX5_wipe_10 : decode cX5_wipe 10 = .ok (.aload_n 0, 1) := by decide +kernel
theorem dX5_wipe_11 : decode cX5_wipe 11 = .ok (.iload_n 1, 1) := by decide +kernel
theorem dX5_wipe_12 : decode cX5_wipe 12 = .ok (.invokevirtual 67, 3) := by decide +kernel
theorem dX5_wipe_15 : decode cX5_wipe 15 = .ok (.aload_n 0, 1) := by decide +kernel
theorem dX5_wipe_16 : decode cX5_wipe 16 = .ok (.getfield 10, 3) := by decide +kernel
theorem dX5_wipe_19 : decode cX5_wipe 19 = .ok (.iload_n 1, 1) := by decide +kernel
theorem dX5_wipe_20 : decode cX5_wipe 20 = .ok (.invokevirtual 62, 3) := by decide +kernel
theorem dX5_wipe_23 : decode cX5_wipe 23 = .ok (.istore_n 2, 1) := by decide +kernel
theorem dX5_wipe_24 : decode cX5_wipe 24 = .ok (.aload_n 0, 1) := by decide +kernel
theorem dX5_wipe_25 : decode cX5_wipe 25 = .ok (.getfield 10, 3) := by decide +kernel
theorem dX5_wipe_28 : decode cX5_wipe 28 = .ok (.iload_n 1, 1) := by decide +kernel
theorem dX5_wipe_29 : decode cX5_wipe 29 = .ok (.invokevirtual 75, 3) := by decide +kernel
theorem dX5_wipe_32 : decode cX5_wipe 32 = .ok (.iload_n 2, 1) := by decide +kernel
theorem dX5_wipe_33 : decode cX5_wipe 33 = .ok (.ireturn, 1) := by decide +kernel
set_option maxRecDepth 20000 in
theorem ggX5_lots_X5_isRow : GoodIn wsX5_lots wsX5_isRow := goodIn_r _ [8, 9, 10, 7, 11] (by decide +kernel) (by decide +kernel)
set_option maxRecDepth 20000 in
theorem gX5_lots_X5_isRow : GoodIn wsX5_lots (va_wsS RX5 52 yX5_isRow wsX5_isRow) := goodIn_app (goodIn_of _ (by decide +kernel)) ggX5_lots_X5_isRow
set_option maxRecDepth 20000 in
theorem ggX5_lots_X5_isWithin : GoodIn wsX5_lots wsX5_isWithin := goodIn_r _ [11] (by decide +kernel) (by decide +kernel)
set_option maxRecDepth 20000 in
theorem gX5_lots_X5_isWithin : GoodIn wsX5_lots (va_wsS RX5 57 yX5_isWithin wsX5_isWithin) := goodIn_app (goodIn_of _ (by decide +kernel)) ggX5_lots_X5_isWithin
set_option maxRecDepth 20000 in
theorem ggX5_lots_X5_beforeChange : GoodIn wsX5_lots wsX5_beforeChange := goodIn_r _ [15, 16, 4, 17, 18, 19, 20, 21, 22, 23, 24, 25, 26, 27, 28, 29, 30, 31, 32, 33, 34, 35, 36, 37, 38, 39, 40, 41, 42, 43, 44, 45, 46, 47, 48, 49, 50, 51, 52, 53, 54, 55, 56, 57, 58, 76, 77, 78, 79, 80, 81, 82, 83, 84, 85, 86, 87, 88, 89, 90, 91, 92, 93] (by decide +kernel) (by decide +kernel)
set_option maxRecDepth 20000 in
theorem gX5_lots_X5_beforeChange : GoodIn wsX5_lots (wsV RX5 67 RX5 yX5_beforeChange wsX5_beforeChange) := goodIn_app (goodIn_of _ (by decide +kernel)) ggX5_lots_X5_beforeChange
set_option maxRecDepth 20000 in
theorem ggX5_lots_X4_empty : GoodIn wsX5_lots wsX4_empty := goodIn_r _ [62, 48, 90, 91, 92, 93] (by decide +kernel) (by decide +kernel)
set_option maxRecDepth 20000 in
theorem gX5_lots_X4_empty : GoodIn wsX5_lots (wsV RX5 75 RX4 yX4_empty wsX4_empty) := goodIn_app (goodIn_of _ (by decide +kernel)) ggX5_lots_X4_empty
set_option maxRecDepth 20000 in
theorem ggX5_lots_X5_lotAfter : GoodIn wsX5_lots wsX5_lotAfter := goodIn_r _ [65, 66, 67] (by decide +kernel) (by decide +kernel)
set_option maxRecDepth 20000 in
theorem gX5_lots_X5_lotAfter : GoodIn wsX5_lots (va_wsS RX5 79 yX5_lotAfter wsX5_lotAfter) := goodIn_app (goodIn_of _ (by decide +kernel)) ggX5_lots_X5_lotAfter
set_option maxRecDepth 20000 in
theorem ggX5_lots_X4_append : GoodIn wsX5_lots wsX4_append := goodIn_r _ [71, 48, 39, 90, 91, 92, 93] (by decide +kernel) (by decide +kernel)
set_option maxRecDepth 20000 in
theorem gX5_lots_X4_append : GoodIn wsX5_lots (wsV RX5 71 RX4 yX4_append wsX4_append) := goodIn_app (goodIn_of _ (by decide +kernel)) ggX5_lots_X4_append
set_option maxRecDepth 20000 in
theorem ggX5_lots_X4_windowsOf : GoodIn wsX5_lots wsX4_windowsOf := goodIn_r _ [75, 48, 90, 91, 92, 93] (by decide +kernel) (by decide +kernel)
set_option maxRecDepth 20000 in
theorem gX5_lots_X4_windowsOf : GoodIn wsX5_lots (wsV RX5 82 RX4 yX4_windowsOf wsX4_windowsOf) := goodIn_app (goodIn_of _ (by decide +kernel)) ggX5_lots_X4_windowsOf
theorem dX5_lots_0 : decode cX5_lots 0 = .ok (.iload_n 1, 1) := by decide +kernel
theorem dX5_lots_1 : decode cX5_lots 1 = .ok (.invokestatic 52, 3) := by decide +kernel
theorem dX5_lots_4 : decode cX5_lots 4 = .ok (.ifCond .ne 6, 3) := by decide +kernel
theorem dX5_lots_7 : decode cX5_lots 7 = .ok (.ldc 56, 2) := by decide +kernel
theorem dX5_lots_9 : decode cX5_lots 9 = .ok (.ireturn, 1) := by decide +kernel
theorem dX5_lots_10 : decode cX5_lots 10 = .ok (.iload_n 2, 1) := by decide +kernel
theorem dX5_lots_11 : decode cX5_lots 11 = .ok (.iconst 1, 1) := by decide +kernel
theorem dX5_lots_12 : decode cX5_lots 12 = .ok (.sipush 128, 3) := by decide +kernel
theorem dX5_lots_15 : decode cX5_lots 15 = .ok (.invokestatic 57, 3) := by decide +kernel
theorem dX5_lots_18 : decode cX5_lots 18 = .ok (.ifCond .eq 13, 3) := by decide +kernel
theorem dX5_lots_21 : decode cX5_lots 21 = .ok (.iload_n 3, 1) := by decide +kernel
theorem dX5_lots_22 : decode cX5_lots 22 = .ok (.iconst 1, 1) := by decide +kernel
theorem dX5_lots_23 : decode cX5_lots 23 = .ok (.ldc 78, 2) := by decide +kernel
theorem dX5_lots_25 : decode cX5_lots 25 = .ok (.invokestatic 57, 3) := by decide +kernel
theorem dX5_lots_28 : decode cX5_lots 28 = .ok (.ifCond .ne 6, 3) := by decide +kernel
theorem dX5_lots_31 : decode cX5_lots 31 = .ok (.ldc 61, 2) := by decide +kernel
theorem dX5_lots_33 : decode cX5_lots 33 = .ok (.ireturn, 1) := by decide +kernel
theorem dX5_lots_34 : decode cX5_lots 34 = .ok (.aload_n 0, 1) := by decide +kernel
theorem dX5_lots_35 : decode cX5_lots 35 = .ok (.iload_n 1, 1) := by decide +kernel
theorem dX5_lots_36 : decode cX5_lots 36 = .ok (.invokevirtual 67, 3) := by decide +kernel
theorem dX5_lots_39 : decode cX5_lots 39 = .ok (.aload_n 0, 1) := by decide +kernel
theorem dX5_lots_40 : decode cX5_lots 40 = .ok (.getfield 10, 3) := by decide +kernel
theorem dX5_lots_43 : decode cX5_lots 43 = .ok (.iload_n 1, 1) := by decide +kernel
theorem dX5_lots_44 : decode cX5_lots 44 = .ok (.invokevirtual 75, 3) := by decide +kernel
theorem dX5_lots_47 : decode cX5_lots 47 = .ok (.iload_n 3, 1) := by decide +kernel
theorem dX5_lots_48 : decode cX5_lots 48 = .ok (.istore 4, 2) := by decide +kernel
theorem dX5_lots_50 : decode cX5_lots 50 = .ok (.iconst 0, 1) := by decide +kernel
theorem dX5_lots_51 : decode cX5_lots 51 = .ok (.istore 5, 2) := by decide +kernel
theorem dX5_lots_53 : decode cX5_lots 53 = .ok (.iload 5, 2) := by decide +kernel
theorem dX5_lots_55 : decode cX5_lots 55 = .ok (.iload_n 2, 1) := by decide +kernel
theorem dX5_lots_56 : decode cX5_lots 56 = .ok (.if_icmp .ge 33, 3) := by decide +kernel
theorem dX5_lots_59 : decode cX5_lots 59 = .ok (.iload 4, 2) := by decide +kernel
theorem dX5_lots_61 : decode cX5_lots 61 = .ok (.invokestatic 79, 3) := by decide +kernel
theorem dX5_lots_64 : decode cX5_lots 64 = .ok (.istore 4, 2) := by decide +kernel
theorem dX5_lots_66 : decode cX5_lots 66 = .ok (.aload_n 0, 1) := by decide +kernel
theorem dX5_lots_67 : decode cX5_lots 67 = .ok (.getfield 10, 3) := by decide +kernel
theorem dX5_lots_70 : decode cX5_lots 70 = .ok (.iload_n 1, 1) := by decide +kernel
theorem dX5_lots_71 : decode cX5_lots 71 = .ok (.iload 4, 2) := by decide +kernel
theorem dX5_lots_73 : decode cX5_lots 73 = .ok (.sipush 201, 3) := by decide +kernel
theorem dX5_lots_76 : decode cX5_lots 76 = .ok (.irem, 1) := by decide +kernel
theorem dX5_lots_77 : decode cX5_lots 77 = .ok (.bipush 100, 2) := by decide +kernel
theorem dX5_lots_79 : decode cX5_lots 79 = .ok (.isub, 1) := by decide +kernel
theorem dX5_lots_80 : decode cX5_lots 80 = .ok (.invokevirtual 71, 3) := by decide +kernel
theorem dX5_lots_83 : decode cX5_lots 83 = .ok (.iinc 5 1, 3) := by decide +kernel
theorem dX5_lots_86 : decode cX5_lots 86 = .ok (.goto (-33), 3) := by decide +kernel
theorem dX5_lots_89 : decode cX5_lots 89 = .ok (.aload_n 0, 1) := by decide +kernel
theorem dX5_lots_90 : decode cX5_lots 90 = .ok (.getfield 10, 3) := by decide +kernel
theorem dX5_lots_93 : decode cX5_lots 93 = .ok (.iload_n 1, 1) := by decide +kernel
theorem dX5_lots_94 : decode cX5_lots 94 = .ok (.invokevirtual 82, 3) := by decide +kernel
theorem dX5_lots_97 : decode cX5_lots 97 = .ok (.ireturn, 1) := by decide +kernel
set_option maxRecDepth 20000 in
theorem ggX5_noise_X5_isRow : GoodIn wsX5_noise wsX5_isRow := goodIn_r _ [8, 9, 10, 7, 11] (by decide +kernel) (by decide +kernel)
set_option maxRecDepth 20000 in
theorem gX5_noise_X5_isRow : GoodIn wsX5_noise (va_wsS RX5 52 yX5_isRow wsX5_isRow) := goodIn_app (goodIn_of _ (by decide +kernel)) ggX5_noise_X5_isRow
set_option maxRecDepth 20000 in
theorem ggX5_noise_X5_isWithin : GoodIn wsX5_noise wsX5_isWithin := goodIn_r _ [11] (by decide +kernel) (by decide +kernel)
set_option maxRecDepth 20000 in
theorem gX5_noise_X5_isWithin : GoodIn wsX5_noise (va_wsS RX5 57 yX5_isWithin wsX5_isWithin) := goodIn_app (goodIn_of _ (by decide +kernel)) ggX5_noise_X5_isWithin
set_option maxRecDepth 20000 in
theorem ggX5_noise_X5_beforeChange : GoodIn wsX5_noise wsX5_beforeChange := goodIn_r _ [15, 16, 4, 17, 18, 19, 20, 21, 22, 23, 24, 25, 26, 27, 28, 29, 30, 31, 32, 33, 34, 35, 36, 37, 38, 39, 40, 41, 42, 43, 44, 45, 46, 47, 48, 49, 50, 51, 52, 53, 54, 55, 56, 57, 58, 77, 78, 79, 80, 81, 82, 83, 84, 85, 86, 87, 88, 89, 90, 91, 92, 93, 94] (by decide +kernel) (by decide +kernel)
set_option maxRecDepth 20000 in
theorem gX5_noise_X5_beforeChange : GoodIn wsX5_noise (wsV RX5 67 RX5 yX5_beforeChange wsX5_beforeChange) := goodIn_app (goodIn_of _ (by decide +kernel)) ggX5_noise_X5_beforeChange
set_option maxRecDepth 20000 in
theorem ggX5_noise_X4_sizeOf : GoodIn wsX5_noise wsX4_sizeOf := goodIn_r _ [47, 48, 91, 92, 93, 94] (by decide +kernel) (by decide +kernel)
set_option maxRecDepth 20000 in
theorem gX5_noise_X4_sizeOf : GoodIn wsX5_noise (wsV RX5 62 RX4 yX4_sizeOf wsX4_sizeOf) := goodIn_app (goodIn_of _ (by decide +kernel)) ggX5_noise_X4_sizeOf
set_option maxRecDepth 20000 in
theorem ggX5_noise_X5_lotAfter : GoodIn wsX5_noise wsX5_lotAfter := goodIn_r _ [62, 63, 64] (by decide +kernel) (by decide +kernel)
set_option maxRecDepth 20000 in
theorem gX5_noise_X5_lotAfter : GoodIn wsX5_noise (va_wsS RX5 79 yX5_lotAfter wsX5_lotAfter) := goodIn_app (goodIn_of _ (by decide +kernel)) ggX5_noise_X5_lotAfter
set_option maxRecDepth 20000 in
theorem ggX5_noise_X4_numberAt : GoodIn wsX5_noise wsX4_numberAt := goodIn_r _ [68, 39, 91, 92, 93, 94] (by decide +kernel) (by decide +kernel)
set_option maxRecDepth 20000 in
theorem gX5_noise_X4_numberAt : GoodIn wsX5_noise (wsV RX5 85 RX4 yX4_numberAt wsX4_numberAt) := goodIn_app (goodIn_of _ (by decide +kernel)) ggX5_noise_X4_numberAt
set_option maxRecDepth 20000 in
theorem ggX5_noise_X4_replace : GoodIn wsX5_noise wsX4_replace := goodIn_r _ [72, 39, 73, 31, 32, 33, 74, 75, 76, 91, 92, 93, 94] (by decide +kernel) (by decide +kernel)
set_option maxRecDepth 20000 in
theorem gX5_noise_X4_replace : GoodIn wsX5_noise (wsV RX5 89 RX4 yX4_replace wsX4_replace) := goodIn_app (goodIn_of _ (by decide +kernel)) ggX5_noise_X4_replace
theorem dX5_noise_0 : decode cX5_noise 0 = .ok (.iload_n 1, 1) := by decide +kernel
theorem dX5_noise_1 : decode cX5_noise 1 = .ok (.invokestatic 52, 3) := by decide +kernel
theorem dX5_noise_4 : decode cX5_noise 4 = .ok (.ifCond .ne 6, 3) := by decide +kernel
theorem dX5_noise_7 : decode cX5_noise 7 = .ok (.ldc 56, 2) := by decide +kernel
theorem dX5_noise_9 : decode cX5_noise 9 = .ok (.ireturn, 1) := by decide +kernel
theorem dX5_noise_10 : decode cX5_noise 10 = .ok (.iload_n 2, 1) := by decide +kernel
theorem dX5_noise_11 : decode cX5_noise 11 = .ok (.iconst 1, 1) := by decide +kernel
theorem dX5_noise_12 : decode cX5_noise 12 = .ok (.bipush 100, 2) := by decide +kernel
theorem dX5_noise_14 : decode cX5_noise 14 = .ok (.invokestatic 57, 3) := by decide +kernel
theorem dX5_noise_17 : decode cX5_noise 17 = .ok (.ifCond .eq 13, 3) := by decide +kernel
theorem dX5_noise_20 : decode cX5_noise 20 = .ok (.iload_n 3, 1) := by decide +kernel
theorem dX5_noise_21 : decode cX5_noise 21 = .ok (.iconst 1, 1) := by decide +kernel
theorem dX5_noise_22 : decode cX5_noise 22 = .ok (.ldc 78, 2) := by decide +kernel
theorem dX5_noise_24 : decode cX5_noise 24 = .ok (.invokestatic 57, 3) := by decide +kernel
theorem dX5_noise_27 : decode cX5_noise 27 = .ok (.ifCond .ne 6, 3) := by decide +kernel
theorem dX5_noise_30 : decode cX5_noise 30 = .ok (.ldc 61, 2) := by decide +kernel
theorem dX5_noise_32 : decode cX5_noise 32 = .ok (.ireturn, 1) := by decide +kernel
theorem dX5_noise_33 : decode cX5_noise 33 = .ok (.aload_n 0, 1) := by decide +kernel
theorem dX5_noise_34 : decode cX5_noise 34 = .ok (.iload_n 1, 1) := by decide +kernel
theorem dX5_noise_35 : decode cX5_noise 35 = .ok (.invokevirtual 67, 3) := by decide +kernel
theorem dX5_noise_38 : decode cX5_noise 38 = .ok (.aload_n 0, 1) := by decide +kernel
theorem dX5_noise_39 : decode cX5_noise 39 = .ok (.getfield 10, 3) := by decide +kernel
theorem dX5_noise_42 : decode cX5_noise 42 = .ok (.iload_n 1, 1) := by decide +kernel
theorem dX5_noise_43 : decode cX5_noise 43 = .ok (.invokevirtual 62, 3) := by decide +kernel
theorem dX5_noise_46 : decode cX5_noise 46 = .ok (.istore 4, 2) := by decide +kernel
theorem dX5_noise_48 : decode cX5_noise 48 = .ok (.iload_n 3, 1) := by decide +kernel
theorem dX5_noise_49 : decode cX5_noise 49 = .ok (.istore 5, 2) := by decide +kernel
theorem dX5_noise_51 : decode cX5_noise 51 = .ok (.iconst 0, 1) := by decide +kernel
theorem dX5_noise_52 : decode cX5_noise 52 = .ok (.istore 6, 2) := by decide +kernel
theorem dX5_noise_54 : decode cX5_noise 54 = .ok (.iconst 0, 1) := by decide +kernel
theorem dX5_noise_55 : decode cX5_noise 55 = .ok (.istore 7, 2) := by decide +kernel
theorem dX5_noise_57 : decode cX5_noise 57 = .ok (.iload 7, 2) := by decide +kernel
theorem dX5_noise_59 : decode cX5_noise 59 = .ok (.iload 4, 2) := by decide +kernel
theorem dX5_noise_61 : decode cX5_noise 61 = .ok (.if_icmp .ge 53, 3) := by decide +kernel
theorem dX5_noise_64 : decode cX5_noise 64 = .ok (.iload 5, 2) := by decide +kernel
theorem dX5_noise_66 : decode cX5_noise 66 = .ok (.invokestatic 79, 3) := by decide +kernel
theorem dX5_noise_69 : decode cX5_noise 69 = .ok (.istore 5, 2) := by decide +kernel
theorem dX5_noise_71 : decode cX5_noise 71 = .ok (.aload_n 0, 1) := by decide +kernel
theorem dX5_noise_72 : decode cX5_noise 72 = .ok (.getfield 10, 3) := by decide +kernel
theorem dX5_noise_75 : decode cX5_noise 75 = .ok (.iload_n 1, 1) := by decide +kernel
theorem dX5_noise_76 : decode cX5_noise 76 = .ok (.iload 7, 2) := by decide +kernel
theorem dX5_noise_78 : decode cX5_noise 78 = .ok (.aload_n 0, 1) := by decide +kernel
theorem dX5_noise_79 : decode cX5_noise 79 = .ok (.getfield 10, 3) := by decide +kernel
theorem dX5_noise_82 : decode cX5_noise 82 = .ok (.iload_n 1, 1) := by decide +kernel
theorem dX5_noise_83 : decode cX5_noise 83 = .ok (.iload 7, 2) := by decide +kernel
theorem dX5_noise_85 : decode cX5_noise 85 = .ok (.invokevirtual 85, 3) := by decide +kernel
theorem dX5_noise_88 : decode cX5_noise 88 = .ok (.iload 5, 2) := by decide +kernel
theorem dX5_noise_90 : decode cX5_noise 90 = .ok (.iconst 2, 1) := by decide +kernel
theorem dX5_noise_91 : decode cX5_noise 91 = .ok (.iload_n 2, 1) := by decide +kernel
theorem dX5_noise_92 : decode cX5_noise 92 = .ok (.imul, 1) := by decide +kernel
theorem dX5_noise_93 : decode cX5_noise 93 = .ok (.iconst 1, 1) := by decide +kernel
theorem dX5_noise_94 : decode cX5_noise 94 = .ok (.iadd, 1) := by decide +kernel
theorem dX5_noise_95 : decode cX5_noise 95 = .ok (.irem, 1) := by decide +kernel
theorem dX5_noise_96 : decode cX5_noise 96 = .ok (.iadd, 1) := by decide +kernel
theorem dX5_noise_97 : decode cX5_noise 97 = .ok (.iload_n 2, 1) := by decide +kernel
theorem dX5_noise_98 : decode cX5_noise 98 = .ok (.isub, 1) := by decide +kernel
theorem dX5_noise_99 : decode cX5_noise 99 = .ok (.invokevirtual 89, 3) := by decide +kernel
theorem dX5_noise_102 : decode cX5_noise 102 = .ok (.ifCond .eq 6, 3) := by decide +kernel
theorem dX5_noise_105 : decode cX5_noise 105 = .ok (.iinc 6 1, 3) := by decide +kernel
theorem dX5_noise_108 : decode cX5_noise 108 = .ok (.iinc 7 1, 3) := by decide +kernel
theorem dX5_noise_111 : decode cX5_noise 111 = .ok (.goto (-54), 3) := by decide +kernel
theorem dX5_noise_114 : decode cX5_noise 114 = .ok (.iload 6, 2) := by decide +kernel
theorem dX5_noise_116 : decode cX5_noise 116 = .ok (.ireturn, 1) := by decide +kernel
set_option maxRecDepth 20000 in
theorem ggX5_louder_X5_isRow : GoodIn wsX5_louder wsX5_isRow := goodIn_r _ [7, 8, 9, 6, 10] (by decide +kernel) (by decide +kernel)
set_option maxRecDepth 20000 in
theorem gX5_louder_X5_isRow : GoodIn wsX5_louder (va_wsS RX5 52 yX5_isRow wsX5_isRow) := goodIn_app (goodIn_of _ (by decide +kernel)) ggX5_louder_X5_isRow
set_option maxRecDepth 20000 in
theorem ggX5_louder_X5_isWithin : GoodIn wsX5_louder wsX5_isWithin := goodIn_r _ [10] (by decide +kernel) (by decide +kernel)
set_option maxRecDepth 20000 in
theorem gX5_louder_X5_isWithin : GoodIn wsX5_louder (va_wsS RX5 57 yX5_isWithin wsX5_isWithin) := goodIn_app (goodIn_of _ (by decide +kernel)) ggX5_louder_X5_isWithin
set_option maxRecDepth 20000 in
theorem ggX5_louder_X5_beforeChange : GoodIn wsX5_louder wsX5_beforeChange := goodIn_r _ [14, 15, 3, 16, 17, 18, 19, 20, 21, 22, 23, 24, 25, 26, 27, 28, 29, 30, 31, 32, 33, 34, 35, 36, 37, 38, 39, 40, 41, 42, 43, 44, 45, 46, 47, 48, 49, 50, 51, 52, 53, 54, 55, 56, 57, 71, 72, 73, 74, 75, 76, 77, 78, 79, 80, 81, 82, 83, 84, 85, 86, 87, 88] (by decide +kernel) (by decide +kernel)
set_option maxRecDepth 20000 in
theorem gX5_louder_X5_beforeChange : GoodIn wsX5_louder (wsV RX5 67 RX5 yX5_beforeChange wsX5_beforeChange) := goodIn_app (goodIn_of _ (by decide +kernel)) ggX5_louder_X5_beforeChange
set_option maxRecDepth 20000 in
theorem ggX5_louder_X4_sizeOf : GoodIn wsX5_louder wsX4_sizeOf := goodIn_r _ [46, 47, 85, 86, 87, 88] (by decide +kernel) (by decide +kernel)
set_option maxRecDepth 20000 in
theorem gX5_louder_X4_sizeOf : GoodIn wsX5_louder (wsV RX5 62 RX4 yX4_sizeOf wsX4_sizeOf) := goodIn_app (goodIn_of _ (by decide +kernel)) ggX5_louder_X4_sizeOf
set_option maxRecDepth 20000 in
theorem ggX5_louder_X4_numberAt : GoodIn wsX5_louder wsX4_numberAt := goodIn_r _ [62, 38, 85, 86, 87, 88] (by decide +kernel) (by decide +kernel)
set_option maxRecDepth 20000 in
theorem gX5_louder_X4_numberAt : GoodIn wsX5_louder (wsV RX5 85 RX4 yX4_numberAt wsX4_numberAt) := goodIn_app (goodIn_of _ (by decide +kernel)) ggX5_louder_X4_numberAt
set_option maxRecDepth 20000 in
theorem ggX5_louder_X4_replace : GoodIn wsX5_louder wsX4_replace := goodIn_r _ [66, 38, 67, 30, 31, 32, 68, 69, 70, 85, 86, 87, 88] (by decide +kernel) (by decide +kernel)
set_option maxRecDepth 20000 in
theorem gX5_louder_X4_replace : GoodIn wsX5_louder (wsV RX5 89 RX4 yX4_replace wsX4_replace) := goodIn_app (goodIn_of _ (by decide +kernel)) ggX5_louder_X4_replace
theorem dX5_louder_0 : decode cX5_louder 0 = .ok (.iload_n 1, 1) := by decide +kernel
theorem dX5_louder_1 : decode cX5_louder 1 = .ok (.invokestatic 52, 3) := by decide +kernel
theorem dX5_louder_4 : decode cX5_louder 4 = .ok (.ifCond .ne 6, 3) := by decide +kernel
theorem dX5_louder_7 : decode cX5_louder 7 = .ok (.ldc 56, 2) := by decide +kernel
theorem dX5_louder_9 : decode cX5_louder 9 = .ok (.ireturn, 1) := by decide +kernel
theorem dX5_louder_10 : decode cX5_louder 10 = .ok (.iload_n 2, 1) := by decide +kernel
theorem dX5_louder_11 : decode cX5_louder 11 = .ok (.iconst 1, 1) := by decide +kernel
theorem dX5_louder_12 : decode cX5_louder 12 = .ok (.bipush 9, 2) := by decide +kernel
theorem dX5_louder_14 : decode cX5_louder 14 = .ok (.invokestatic 57, 3) := by decide +kernel
theorem dX5_louder_17 : decode cX5_louder 17 = .ok (.ifCond .eq 13, 3) := by decide +kernel
theorem dX5_louder_20 : decode cX5_louder 20 = .ok (.iload_n 3, 1) := by decide +kernel
theorem dX5_louder_21 : decode cX5_louder 21 = .ok (.iconst 1, 1) := by decide +kernel
theorem dX5_louder_22 : decode cX5_louder 22 = .ok (.bipush 9, 2) := by decide +kernel
theorem dX5_louder_24 : decode cX5_louder 24 = .ok (.invokestatic 57, 3) := by decide +kernel
theorem dX5_louder_27 : decode cX5_louder 27 = .ok (.ifCond .ne 6, 3) := by decide +kernel
theorem dX5_louder_30 : decode cX5_louder 30 = .ok (.ldc 61, 2) := by decide +kernel
theorem dX5_louder_32 : decode cX5_louder 32 = .ok (.ireturn, 1) := by decide +kernel
theorem dX5_louder_33 : decode cX5_louder 33 = .ok (.aload_n 0, 1) := by decide +kernel
theorem dX5_louder_34 : decode cX5_louder 34 = .ok (.iload_n 1, 1) := by decide +kernel
theorem dX5_louder_35 : decode cX5_louder 35 = .ok (.invokevirtual 67, 3) := by decide +kernel
theorem dX5_louder_38 : decode cX5_louder 38 = .ok (.aload_n 0, 1) := by decide +kernel
theorem dX5_louder_39 : decode cX5_louder 39 = .ok (.getfield 10, 3) := by decide +kernel
theorem dX5_louder_42 : decode cX5_louder 42 = .ok (.iload_n 1, 1) := by decide +kernel
theorem dX5_louder_43 : decode cX5_louder 43 = .ok (.invokevirtual 62, 3) := by decide +kernel
theorem dX5_louder_46 : decode cX5_louder 46 = .ok (.istore 4, 2) := by decide +kernel
theorem dX5_louder_48 : decode cX5_louder 48 = .ok (.iconst 0, 1) := by decide +kernel
theorem dX5_louder_49 : decode cX5_louder 49 = .ok (.istore 5, 2) := by decide +kernel
theorem dX5_louder_51 : decode cX5_louder 51 = .ok (.iconst 0, 1) := by decide +kernel
theorem dX5_louder_52 : decode cX5_louder 52 = .ok (.istore 6, 2) := by decide +kernel
theorem dX5_louder_54 : decode cX5_louder 54 = .ok (.iload 6, 2) := by decide +kernel
theorem dX5_louder_56 : decode cX5_louder 56 = .ok (.iload 4, 2) := by decide +kernel
theorem dX5_louder_58 : decode cX5_louder 58 = .ok (.if_icmp .ge 39, 3) := by decide +kernel
theorem dX5_louder_61 : decode cX5_louder 61 = .ok (.aload_n 0, 1) := by decide +kernel
theorem dX5_louder_62 : decode cX5_louder 62 = .ok (.getfield 10, 3) := by decide +kernel
theorem dX5_louder_65 : decode cX5_louder 65 = .ok (.iload_n 1, 1) := by decide +kernel
theorem dX5_louder_66 : decode cX5_louder 66 = .ok (.iload 6, 2) := by decide +kernel
theorem dX5_louder_68 : decode cX5_louder 68 = .ok (.aload_n 0, 1) := by decide +kernel
theorem dX5_louder_69 : decode cX5_louder 69 = .ok (.getfield 10, 3) := by decide +kernel
theorem dX5_louder_72 : decode cX5_louder 72 = .ok (.iload_n 1, 1) := by decide +kernel
theorem dX5_louder_73 : decode cX5_louder 73 = .ok (.iload 6, 2) := by decide +kernel
theorem dX5_louder_75 : decode cX5_louder 75 = .ok (.invokevirtual 85, 3) := by decide +kernel
theorem dX5_louder_78 : decode cX5_louder 78 = .ok (.iload_n 2, 1) := by decide +kernel
theorem dX5_louder_79 : decode cX5_louder 79 = .ok (.imul, 1) := by decide +kernel
theorem dX5_louder_80 : decode cX5_louder 80 = .ok (.iload_n 3, 1) := by decide +kernel
theorem dX5_louder_81 : decode cX5_louder 81 = .ok (.idiv, 1) := by decide +kernel
theorem dX5_louder_82 : decode cX5_louder 82 = .ok (.invokevirtual 89, 3) := by decide +kernel
theorem dX5_louder_85 : decode cX5_louder 85 = .ok (.ifCond .eq 6, 3) := by decide +kernel
theorem dX5_louder_88 : decode cX5_louder 88 = .ok (.iinc 5 1, 3) := by decide +kernel
theorem dX5_louder_91 : decode cX5_louder 91 = .ok (.iinc 6 1, 3) := by decide +kernel
theorem dX5_louder_94 : decode cX5_louder 94 = .ok (.goto (-40), 3) := by decide +kernel
theorem dX5_louder_97 : decode cX5_louder 97 = .ok (.iload 5, 2) := by decide +kernel
theorem dX5_louder_99 : decode cX5_louder 99 = .ok (.ireturn, 1) := by decide +kernel
set_option maxRecDepth 20000 in
theorem ggX5_hear_X5_isPiece : GoodIn wsX5_hear wsX5_isPiece := goodIn_r _ [12, 13, 14, 11, 15] (by decide +kernel) (by decide +kernel)
set_option maxRecDepth 20000 in
theorem gX5_hear_X5_isPiece : GoodIn wsX5_hear (va_wsS RX5 92 yX5_isPiece wsX5_isPiece) := goodIn_app (goodIn_of _ (by decide +kernel)) ggX5_hear_X5_isPiece
set_option maxRecDepth 20000 in
theorem ggX5_hear_X5_isWithin : GoodIn wsX5_hear wsX5_isWithin := goodIn_r _ [15] (by decide +kernel) (by decide +kernel)
set_option maxRecDepth 20000 in
theorem gX5_hear_X5_isWithin : GoodIn wsX5_hear (va_wsS RX5 57 yX5_isWithin wsX5_isWithin) := goodIn_app (goodIn_of _ (by decide +kernel)) ggX5_hear_X5_isWithin
set_option maxRecDepth 20000 in
theorem ggX5_hear_X4_sizeOf : GoodIn wsX5_hear wsX4_sizeOf := goodIn_r _ [20, 21, 80, 81, 82, 83] (by decide +kernel) (by decide +kernel)
set_option maxRecDepth 20000 in
theorem gX5_hear_X4_sizeOf : GoodIn wsX5_hear (wsV RX5 62 RX4 yX4_sizeOf wsX4_sizeOf) := goodIn_app (goodIn_of _ (by decide +kernel)) ggX5_hear_X4_sizeOf
set_option maxRecDepth 20000 in
theorem ggX5_hear_X5_beforeChange : GoodIn wsX5_hear wsX5_beforeChange := goodIn_r _ [25, 26, 3, 27, 28, 29, 30, 31, 32, 33, 34, 35, 36, 37, 38, 39, 40, 6, 7, 8, 41, 42, 43, 19, 44, 45, 46, 47, 48, 49, 50, 17, 18, 20, 21, 51, 52, 53, 54, 55, 56, 57, 58, 59, 60, 73, 74, 75, 76, 77, 78, 79, 84, 85, 86, 87, 88, 89, 90, 80, 81, 82, 83] (by decide +kernel) (by decide +kernel)
set_option maxRecDepth 20000 in
theorem gX5_hear_X5_beforeChange : GoodIn wsX5_hear (wsV RX5 67 RX5 yX5_beforeChange wsX5_beforeChange) := goodIn_app (goodIn_of _ (by decide +kernel)) ggX5_hear_X5_beforeChange
set_option maxRecDepth 20000 in
theorem ggX5_hear_X4_empty : GoodIn wsX5_hear wsX4_empty := goodIn_r _ [64, 21, 80, 81, 82, 83] (by decide +kernel) (by decide +kernel)
set_option maxRecDepth 20000 in
theorem gX5_hear_X4_empty : GoodIn wsX5_hear (wsV RX5 75 RX4 yX4_empty wsX4_empty) := goodIn_app (goodIn_of _ (by decide +kernel)) ggX5_hear_X4_empty
set_option maxRecDepth 20000 in
theorem ggX5_hear_X4_numberAt : GoodIn wsX5_hear wsX4_numberAt := goodIn_r _ [68, 45, 80, 81, 82, 83] (by decide +kernel) (by decide +kernel)
set_option maxRecDepth 20000 in
theorem gX5_hear_X4_numberAt : GoodIn wsX5_hear (wsV RX5 85 RX4 yX4_numberAt wsX4_numberAt) := goodIn_app (goodIn_of _ (by decide +kernel)) ggX5_hear_X4_numberAt
set_option maxRecDepth 20000 in
theorem ggX5_hear_X4_append : GoodIn wsX5_hear wsX4_append := goodIn_r _ [72, 21, 45, 80, 81, 82, 83] (by decide +kernel) (by decide +kernel)
set_option maxRecDepth 20000 in
theorem gX5_hear_X4_append : GoodIn wsX5_hear (wsV RX5 71 RX4 yX4_append wsX4_append) := goodIn_app (goodIn_of _ (by decide +kernel)) ggX5_hear_X4_append
theorem dX5_hear_0 : decode cX5_hear 0 = .ok (.iload_n 1, 1) := by decide +kernel
theorem dX5_hear_1 : decode cX5_hear 1 = .ok (.invokestatic 92, 3) := by decide +kernel
theorem dX5_hear_4 : decode cX5_hear 4 = .ok (.ifCond .ne 6, 3) := by decide +kernel
theorem dX5_hear_7 : decode cX5_hear 7 = .ok (.ldc 56, 2) := by decide +kernel
theorem dX5_hear_9 : decode cX5_hear 9 = .ok (.ireturn, 1) := by decide +kernel
theorem dX5_hear_10 : decode cX5_hear 10 = .ok (.iload_n 2, 1) := by decide +kernel
theorem dX5_hear_11 : decode cX5_hear 11 = .ok (.iconst 0, 1) := by decide +kernel
theorem dX5_hear_12 : decode cX5_hear 12 = .ok (.bipush 127, 2) := by decide +kernel
theorem dX5_hear_14 : decode cX5_hear 14 = .ok (.invokestatic 57, 3) := by decide +kernel
theorem dX5_hear_17 : decode cX5_hear 17 = .ok (.ifCond .eq 14, 3) := by decide +kernel
theorem dX5_hear_20 : decode cX5_hear 20 = .ok (.iload_n 3, 1) := by decide +kernel
theorem dX5_hear_21 : decode cX5_hear 21 = .ok (.iconst 1, 1) := by decide +kernel
theorem dX5_hear_22 : decode cX5_hear 22 = .ok (.sipush 128, 3) := by decide +kernel
theorem dX5_hear_25 : decode cX5_hear 25 = .ok (.invokestatic 57, 3) := by decide +kernel
theorem dX5_hear_28 : decode cX5_hear 28 = .ok (.ifCond .ne 6, 3) := by decide +kernel
theorem dX5_hear_31 : decode cX5_hear 31 = .ok (.ldc 61, 2) := by decide +kernel
theorem dX5_hear_33 : decode cX5_hear 33 = .ok (.ireturn, 1) := by decide +kernel
theorem dX5_hear_34 : decode cX5_hear 34 = .ok (.aload_n 0, 1) := by decide +kernel
theorem dX5_hear_35 : decode cX5_hear 35 = .ok (.getfield 10, 3) := by decide +kernel
theorem dX5_hear_38 : decode cX5_hear 38 = .ok (.iload_n 1, 1) := by decide +kernel
theorem dX5_hear_39 : decode cX5_hear 39 = .ok (.invokevirtual 62, 3) := by decide +kernel
theorem dX5_hear_42 : decode cX5_hear 42 = .ok (.istore 4, 2) := by decide +kernel
theorem dX5_hear_44 : decode cX5_hear 44 = .ok (.iload_n 2, 1) := by decide +kernel
theorem dX5_hear_45 : decode cX5_hear 45 = .ok (.iload 4, 2) := by decide +kernel
theorem dX5_hear_47 : decode cX5_hear 47 = .ok (.if_icmp .lt 6, 3) := by decide +kernel
theorem dX5_hear_50 : decode cX5_hear 50 = .ok (.ldc 95, 2) := by decide +kernel
theorem dX5_hear_52 : decode cX5_hear 52 = .ok (.ireturn, 1) := by decide +kernel
theorem dX5_hear_53 : decode cX5_hear 53 = .ok (.aload_n 0, 1) := by decide +kernel
theorem dX5_hear_54 : decode cX5_hear 54 = .ok (.iconst 4, 1) := by decide +kernel
theorem dX5_hear_55 : decode cX5_hear 55 = .ok (.invokevirtual 67, 3) := by decide +kernel
theorem dX5_hear_58 : decode cX5_hear 58 = .ok (.iload 4, 2) := by decide +kernel
theorem dX5_hear_60 : decode cX5_hear 60 = .ok (.iload_n 2, 1) := by decide +kernel
theorem dX5_hear_61 : decode cX5_hear 61 = .ok (.iload_n 3, 1) := by decide +kernel
theorem dX5_hear_62 : decode cX5_hear 62 = .ok (.iadd, 1) := by decide +kernel
theorem dX5_hear_63 : decode cX5_hear 63 = .ok (.invokestatic 96, 3) := by decide +kernel
theorem dX5_hear_66 : decode cX5_hear 66 = .ok (.istore 5, 2) := by decide +kernel
theorem dX5_hear_68 : decode cX5_hear 68 = .ok (.aload_n 0, 1) := by decide +kernel
theorem dX5_hear_69 : decode cX5_hear 69 = .ok (.getfield 10, 3) := by decide +kernel
theorem dX5_hear_72 : decode cX5_hear 72 = .ok (.iconst 4, 1) := by decide +kernel
theorem dX5_hear_73 : decode cX5_hear 73 = .ok (.invokevirtual 75, 3) := by decide +kernel
theorem dX5_hear_76 : decode cX5_hear 76 = .ok (.iload_n 2, 1) := by decide +kernel
theorem dX5_hear_77 : decode cX5_hear 77 = .ok (.istore 6, 2) := by decide +kernel
theorem dX5_hear_79 : decode cX5_hear 79 = .ok (.iload 6, 2) := by decide +kernel
theorem dX5_hear_81 : decode cX5_hear 81 = .ok (.iload 5, 2) := by decide +kernel
theorem dX5_hear_83 : decode cX5_hear 83 = .ok (.if_icmp .ge 27, 3) := by decide +kernel
theorem dX5_hear_86 : decode cX5_hear 86 = .ok (.aload_n 0, 1) := by decide +kernel
theorem dX5_hear_87 : decode cX5_hear 87 = .ok (.getfield 10, 3) := by decide +kernel
theorem dX5_hear_90 : decode cX5_hear 90 = .ok (.iconst 4, 1) := by decide +kernel
theorem dX5_hear_91 : decode cX5_hear 91 = .ok (.aload_n 0, 1) := by decide +kernel
theorem dX5_hear_92 : decode cX5_hear 92 = .ok (.getfield 10, 3) := by decide +kernel
theorem dX5_hear_95 : decode cX5_hear 95 = .ok (.iload_n 1, 1) := by decide +kernel
theorem dX5_hear_96 : decode cX5_hear 96 = .ok (.iload 6, 2) := by decide +kernel
theorem dX5_hear_98 : decode cX5_hear 98 = .ok (.invokevirtual 85, 3) := by decide +kernel
theorem dX5_hear_101 : decode cX5_hear 101 = .ok (.invokevirtual 71, 3) := by decide +kernel
theorem dX5_hear_104 : decode cX5_hear 104 = .ok (.iinc 6 1, 3) := by decide +kernel
theorem dX5_hear_107 : decode cX5_hear 107 = .ok (.goto (-28), 3) := by decide +kernel
theorem dX5_hear_110 : decode cX5_hear 110 = .ok (.aload_n 0, 1) := by decide +kernel
theorem dX5_hear_111 : decode cX5_hear 111 = .ok (.getfield 10, 3) := by decide +kernel
theorem dX5_hear_114 : decode cX5_hear 114 = .ok (.iconst 4, 1) := by decide +kernel
theorem dX5_hear_115 : decode cX5_hear 115 = .ok (.invokevirtual 62, 3) := by decide +kernel
theorem dX5_hear_118 : decode cX5_hear 118 = .ok (.ireturn, 1) := by decide +kernel
set_option maxRecDepth 20000 in
theorem ggX5_bound_X5_isWithin : GoodIn wsX5_bound wsX5_isWithin := goodIn_r _ [6] (by decide +kernel) (by decide +kernel)
set_option maxRecDepth 20000 in
theorem gX5_bound_X5_isWithin : GoodIn wsX5_bound (va_wsS RX5 57 yX5_isWithin wsX5_isWithin) := goodIn_app (goodIn_of _ (by decide +kernel)) ggX5_bound_X5_isWithin
set_option maxRecDepth 20000 in
theorem ggX5_bound_X5_changeFloor : GoodIn wsX5_bound wsX5_changeFloor := goodIn_r _ [10, 11, 12, 13, 14, 5, 15, 16, 17, 18, 19, 20, 21, 22, 23, 24, 25, 26, 27, 28, 29, 30, 31, 32, 33, 34, 35, 36, 37, 38, 39, 40, 41, 42, 43, 44, 45, 46, 47, 48, 49, 50, 51, 52, 53, 54, 55, 56, 57, 58, 59, 60, 61, 62, 63, 73, 74, 75, 76, 77, 78, 79, 80, 81, 82, 83, 84, 85, 86, 87, 88, 89, 90] (by decide +kernel) (by decide +kernel)
set_option maxRecDepth 20000 in
theorem gX5_bound_X5_changeFloor : GoodIn wsX5_bound (wsV RX5 102 RX5 yX5_changeFloor wsX5_changeFloor) := goodIn_app (goodIn_of _ (by decide +kernel)) ggX5_bound_X5_changeFloor
set_option maxRecDepth 20000 in
theorem ggX5_bound_X5_changeReach : GoodIn wsX5_bound wsX5_changeReach := goodIn_r _ [67, 11, 12, 13, 14, 5, 15, 16, 17, 18, 19, 20, 21, 22, 23, 24, 25, 26, 27, 28, 29, 30, 31, 32, 33, 34, 35, 36, 37, 38, 39, 40, 41, 42, 43, 44, 45, 46, 47, 48, 49, 50, 51, 52, 53, 54, 55, 56, 57, 58, 68, 69, 70, 71, 72, 73, 74, 75, 76, 77, 78, 79, 80, 81, 82, 83, 84, 85, 86, 87, 88, 89, 90] (by decide +kernel) (by decide +kernel)
set_option maxRecDepth 20000 in
theorem gX5_bound_X5_changeReach : GoodIn wsX5_bound (wsV RX5 105 RX5 yX5_changeReach wsX5_changeReach) := goodIn_app (goodIn_of _ (by decide +kernel)) ggX5_bound_X5_changeReach
theorem dX5_bound_0 : decode cX5_bound 0 = .ok (.iload_n 1, 1) := by decide +kernel
theorem dX5_bound_1 : decode cX5_bound 1 = .ok (.ifCond .ne 24, 3) := by decide +kernel
theorem dX5_bound_4 : decode cX5_bound 4 = .ok (.iload_n 2, 1) := by decide +kernel
theorem dX5_bound_5 : decode cX5_bound 5 = .ok (.iconst 0, 1) := by decide +kernel
theorem dX5_bound_6 : decode cX5_bound 6 = .ok (.ldc 101, 2) := by decide +kernel
theorem dX5_bound_8 : decode cX5_bound 8 = .ok (.invokestatic 57, 3) := by decide +kernel
theorem dX5_bound_11 : decode cX5_bound 11 = .ok (.ifCond .eq 11, 3) := by decide +kernel
theorem dX5_bound_14 : decode cX5_bound 14 = .ok (.aload_n 0, 1) := by decide +kernel
theorem dX5_bound_15 : decode cX5_bound 15 = .ok (.iload_n 2, 1) := by decide +kernel
theorem dX5_bound_16 : decode cX5_bound 16 = .ok (.invokevirtual 102, 3) := by decide +kernel
theorem dX5_bound_19 : decode cX5_bound 19 = .ok (.goto 5, 3) := by decide +kernel
theorem dX5_bound_22 : decode cX5_bound 22 = .ok (.ldc 61, 2) := by decide +kernel
theorem dX5_bound_24 : decode cX5_bound 24 = .ok (.ireturn, 1) := by decide +kernel
theorem dX5_bound_25 : decode cX5_bound 25 = .ok (.iload_n 1, 1) := by decide +kernel
theorem dX5_bound_26 : decode cX5_bound 26 = .ok (.iconst 1, 1) := by decide +kernel
theorem dX5_bound_27 : decode cX5_bound 27 = .ok (.if_icmp .ne 23, 3) := by decide +kernel
theorem dX5_bound_30 : decode cX5_bound 30 = .ok (.iload_n 2, 1) := by decide +kernel
theorem dX5_bound_31 : decode cX5_bound 31 = .ok (.iconst 1, 1) := by decide +kernel
theorem dX5_bound_32 : decode cX5_bound 32 = .ok (.iconst 5, 1) := by decide +kernel
theorem dX5_bound_33 : decode cX5_bound 33 = .ok (.invokestatic 57, 3) := by decide +kernel
theorem dX5_bound_36 : decode cX5_bound 36 = .ok (.ifCond .eq 11, 3) := by decide +kernel
theorem dX5_bound_39 : decode cX5_bound 39 = .ok (.aload_n 0, 1) := by decide +kernel
theorem dX5_bound_40 : decode cX5_bound 40 = .ok (.iload_n 2, 1) := by decide +kernel
theorem dX5_bound_41 : decode cX5_bound 41 = .ok (.invokevirtual 105, 3) := by decide +kernel
theorem dX5_bound_44 : decode cX5_bound 44 = .ok (.goto 5, 3) := by decide +kernel
theorem dX5_bound_47 : decode cX5_bound 47 = .ok (.ldc 61, 2) := by decide +kernel
theorem dX5_bound_49 : decode cX5_bound 49 = .ok (.ireturn, 1) := by decide +kernel
theorem dX5_bound_50 : decode cX5_bound 50 = .ok (.ldc 61, 2) := by decide +kernel
theorem dX5_bound_52 : decode cX5_bound 52 = .ok (.ireturn, 1) := by decide +kernel
set_option maxRecDepth 20000 in
theorem ggX5_undo_X2_depth : GoodIn wsX5_undo wsX2_depth := goodIn_r _ [9, 10, 49, 50, 51, 52, 53, 54, 55] (by decide +kernel) (by decide +kernel)
set_option maxRecDepth 20000 in
theorem gX5_undo_X2_depth : GoodIn wsX5_undo (wsV RX5 108 RX2 yX2_depth wsX2_depth) := goodIn_app (goodIn_of _ (by decide +kernel)) ggX5_undo_X2_depth
set_option maxRecDepth 20000 in
theorem ggX5_undo_X2_restoreLatest : GoodIn wsX5_undo wsX2_restoreLatest := goodIn_r _ [14, 10, 15, 16, 17, 18, 19, 20, 21, 22, 23, 24, 25, 26, 27, 28, 29, 30, 31, 32, 33, 34, 35, 36, 37, 38, 39, 40, 41, 49, 50, 51, 52, 53, 54, 55, 56, 57, 58, 59] (by decide +kernel) (by decide +kernel)
set_option maxRecDepth 20000 in
theorem gX5_undo_X2_restoreLatest : GoodIn wsX5_undo (wsV RX5 112 RX2 yX2_restoreLatest wsX2_restoreLatest) := goodIn_app (goodIn_of _ (by decide +kernel)) ggX5_undo_X2_restoreLatest
theorem dX5_undo_0 : decode cX5_undo 0 = .ok (.aload_n 0, 1) := by decide +kernel
theorem dX5_undo_1 : decode cX5_undo 1 = .ok (.getfield 19, 3) := by decide +kernel
theorem dX5_undo_4 : decode cX5_undo 4 = .ok (.invokevirtual 108, 3) := by decide +kernel
theorem dX5_undo_7 : decode cX5_undo 7 = .ok (.ifCond .ne 6, 3) := by decide +kernel
theorem dX5_undo_10 : decode cX5_undo 10 = .ok (.ldc 95, 2) := by decide +kernel
theorem dX5_undo_12 : decode cX5_undo 12 = .ok (.ireturn, 1) := by decide +kernel
theorem dX5_undo_13 : decode cX5_undo 13 = .ok (.aload_n 0, 1) := by decide +kernel
theorem dX5_undo_14 : decode cX5_undo 14 = .ok (.getfield 19, 3) := by decide +kernel
theorem dX5_undo_17 : decode cX5_undo 17 = .ok (.aload_n 0, 1) := by decide +kernel
theorem dX5_undo_18 : decode cX5_undo 18 = .ok (.getfield 10, 3) := by decide +kernel
theorem dX5_undo_21 : decode cX5_undo 21 = .ok (.invokevirtual 112, 3) := by decide +kernel
theorem dX5_undo_24 : decode cX5_undo 24 = .ok (.aload_n 0, 1) := by decide +kernel
theorem dX5_undo_25 : decode cX5_undo 25 = .ok (.iconst 0, 1) := by decide +kernel
theorem dX5_undo_26 : decode cX5_undo 26 = .ok (.putfield 48, 3) := by decide +kernel
theorem dX5_undo_29 : decode cX5_undo 29 = .ok (.aload_n 0, 1) := by decide +kernel
theorem dX5_undo_30 : decode cX5_undo 30 = .ok (.getfield 19, 3) := by decide +kernel
theorem dX5_undo_33 : decode cX5_undo 33 = .ok (.invokevirtual 108, 3) := by decide +kernel
theorem dX5_undo_36 : decode cX5_undo 36 = .ok (.ireturn, 1) := by decide +kernel
set_option maxRecDepth 20000 in
theorem ggX5_told_X5_refresh : GoodIn wsX5_told wsX5_refresh := goodIn_r _ [10, 11, 12, 1, 2, 3, 13, 14, 15, 16, 17, 18, 19, 20, 21, 22, 23, 24, 25, 26, 27, 28, 29, 30, 31, 32, 33, 34, 35, 36, 37, 38, 39, 40, 41, 42, 43, 44, 45, 46, 47, 48, 49, 50, 51, 52, 53, 54, 55, 56, 57, 58, 59, 60, 61, 62, 63, 64, 65, 66, 67, 68, 69, 70, 71, 72, 73, 74, 75, 76, 77, 78, 79, 80, 81, 82, 83, 84, 85, 86, 87, 88, 89, 90, 91, 92, 93, 94, 95, 96, 97, 98, 99, 100, 101, 102, 103, 104, 105, 106, 107, 108, 109, 110, 111, 112, 113, 114, 115, 116, 117, 118, 168, 169, 170, 171, 172, 173, 174, 175, 176, 177, 178, 179, 180, 181, 182, 183, 184, 185, 186, 187, 188, 189, 190, 191] (by decide +kernel) (by decide +kernel)
set_option maxRecDepth 20000 in
theorem gX5_told_X5_refresh : GoodIn wsX5_told (wsV RX5 116 RX5 yX5_refresh wsX5_refresh) := goodIn_app (goodIn_of _ (by decide +kernel)) ggX5_told_X5_refresh
set_option maxRecDepth 20000 in
theorem ggX5_told_X4_floor : GoodIn wsX5_told wsX4_floor := goodIn_r _ [50, 51, 178, 179, 180, 181] (by decide +kernel) (by decide +kernel)
set_option maxRecDepth 20000 in
theorem gX5_told_X4_floor : GoodIn wsX5_told (wsV RX5 119 RX4 yX4_floor wsX4_floor) := goodIn_app (goodIn_of _ (by decide +kernel)) ggX5_told_X4_floor
set_option maxRecDepth 20000 in
theorem ggX5_told_X4_reach : GoodIn wsX5_told wsX4_reach := goodIn_r _ [55, 56, 178, 179, 180, 181] (by decide +kernel) (by decide +kernel)
set_option maxRecDepth 20000 in
theorem gX5_told_X4_reach : GoodIn wsX5_told (wsV RX5 122 RX4 yX4_reach wsX4_reach) := goodIn_app (goodIn_of _ (by decide +kernel)) ggX5_told_X4_reach
set_option maxRecDepth 20000 in
theorem ggX5_told_X1_unlikeKeys : GoodIn wsX5_told wsX1_unlikeKeys := goodIn_r _ [123, 79, 182, 183, 184, 185] (by decide +kernel) (by decide +kernel)
set_option maxRecDepth 20000 in
theorem gX5_told_X1_unlikeKeys : GoodIn wsX5_told (wsV RX5 125 RX1 yX1_unlikeKeys wsX1_unlikeKeys) := goodIn_app (goodIn_of _ (by decide +kernel)) ggX5_told_X1_unlikeKeys
set_option maxRecDepth 20000 in
theorem ggX5_told_X1_allPlaces : GoodIn wsX5_told wsX1_allPlaces := goodIn_r _ [127, 80, 182, 183, 184, 185] (by decide +kernel) (by decide +kernel)
set_option maxRecDepth 20000 in
theorem gX5_told_X1_allPlaces : GoodIn wsX5_told (wsV RX5 128 RX1 yX1_allPlaces wsX1_allPlaces) := goodIn_app (goodIn_of _ (by decide +kernel)) ggX5_told_X1_allPlaces
set_option maxRecDepth 20000 in
theorem ggX5_told_X0_keysHeard : GoodIn wsX5_told wsX0_keysHeard := goodIn_r _ [131, 91, 186, 187, 188, 189, 190, 191] (by decide +kernel) (by decide +kernel)
set_option maxRecDepth 20000 in
theorem gX5_told_X0_keysHeard : GoodIn wsX5_told (wsV RX5 131 RX0 yX0_keysHeard wsX0_keysHeard) := goodIn_app (goodIn_of _ (by decide +kernel)) ggX5_told_X0_keysHeard
set_option maxRecDepth 20000 in
theorem ggX5_told_X0_keysKnown : GoodIn wsX5_told wsX0_keysKnown := goodIn_r _ [135, 98, 186, 187, 188, 189, 190, 191] (by decide +kernel) (by decide +kernel)
set_option maxRecDepth 20000 in
theorem gX5_told_X0_keysKnown : GoodIn wsX5_told (wsV RX5 134 RX0 yX0_keysKnown wsX0_keysKnown) := goodIn_app (goodIn_of _ (by decide +kernel)) ggX5_told_X0_keysKnown
set_option maxRecDepth 20000 in
theorem ggX5_told_X0_pieceOf : GoodIn wsX5_told wsX0_pieceOf := goodIn_r _ [139, 97, 118, 186, 187, 188, 189, 190, 191] (by decide +kernel) (by decide +kernel)
set_option maxRecDepth 20000 in
theorem gX5_told_X0_pieceOf : GoodIn wsX5_told (wsV RX5 137 RX0 yX0_pieceOf wsX0_pieceOf) := goodIn_app (goodIn_of _ (by decide +kernel)) ggX5_told_X0_pieceOf
set_option maxRecDepth 20000 in
theorem ggX5_told_X0_offsetOf : GoodIn wsX5_told wsX0_offsetOf := goodIn_r _ [143, 97, 118, 186, 187, 188, 189, 190, 191] (by decide +kernel) (by decide +kernel)
set_option maxRecDepth 20000 in
theorem gX5_told_X0_offsetOf : GoodIn wsX5_told (wsV RX5 140 RX0 yX0_offsetOf wsX0_offsetOf) := goodIn_app (goodIn_of _ (by decide +kernel)) ggX5_told_X0_offsetOf
set_option maxRecDepth 20000 in
theorem ggX5_told_X0_countOf : GoodIn wsX5_told wsX0_countOf := goodIn_r _ [147, 97, 96, 118, 186, 187, 188, 189, 190, 191] (by decide +kernel) (by decide +kernel)
set_option maxRecDepth 20000 in
theorem gX5_told_X0_countOf : GoodIn wsX5_told (wsV RX5 143 RX0 yX0_countOf wsX0_countOf) := goodIn_app (goodIn_of _ (by decide +kernel)) ggX5_told_X0_countOf
set_option maxRecDepth 20000 in
theorem ggX5_told_X0_doubt : GoodIn wsX5_told wsX0_doubt := goodIn_r _ [151, 97, 152, 145, 146, 89, 147, 96, 118, 153, 137, 138, 139, 186, 187, 188, 189, 190, 191] (by decide +kernel) (by decide +kernel)
set_option maxRecDepth 20000 in
theorem gX5_told_X0_doubt : GoodIn wsX5_told (wsV RX5 146 RX0 yX0_doubt wsX0_doubt) := goodIn_app (goodIn_of _ (by decide +kernel)) ggX5_told_X0_doubt
set_option maxRecDepth 20000 in
theorem ggX5_told_X0_ranked : GoodIn wsX5_told wsX0_ranked := goodIn_r _ [157, 97, 186, 187, 188, 189, 190, 191] (by decide +kernel) (by decide +kernel)
set_option maxRecDepth 20000 in
theorem gX5_told_X0_ranked : GoodIn wsX5_told (wsV RX5 149 RX0 yX0_ranked wsX0_ranked) := goodIn_app (goodIn_of _ (by decide +kernel)) ggX5_told_X0_ranked
set_option maxRecDepth 20000 in
theorem ggX5_told_X0_allVotes : GoodIn wsX5_told wsX0_allVotes := goodIn_r _ [161, 99, 186, 187, 188, 189, 190, 191] (by decide +kernel) (by decide +kernel)
set_option maxRecDepth 20000 in
theorem gX5_told_X0_allVotes : GoodIn wsX5_told (wsV RX5 152 RX0 yX0_allVotes wsX0_allVotes) := goodIn_app (goodIn_of _ (by decide +kernel)) ggX5_told_X0_allVotes
set_option maxRecDepth 20000 in
theorem ggX5_told_X2_depth : GoodIn wsX5_told wsX2_depth := goodIn_r _ [166, 167, 192, 193, 194, 195, 196, 197, 198] (by decide +kernel) (by decide +kernel)
set_option maxRecDepth 20000 in
theorem gX5_told_X2_depth : GoodIn wsX5_told (wsV RX5 108 RX2 yX2_depth wsX2_depth) := goodIn_app (goodIn_of _ (by decide +kernel)) ggX5_told_X2_depth
theorem dX5_told_0 : decode cX5_told 0 = .ok (.aload_n 0, 1) := by decide +kernel
theorem dX5_told_1 : decode cX5_told 1 = .ok (.invokevirtual 116, 3) := by decide +kernel
theorem dX5_told_4 : decode cX5_told 4 = .ok (.iload_n 1, 1) := by decide +kernel
theorem dX5_told_5 : decode cX5_told 5 = .ok (.tableswitch 174 0 12 #[67, 75, 83, 91, 99, 107, 115, 124, 133, 142, 150, 158, 166], 67) := by decide +kernel
theorem dX5_told_72 : decode cX5_told 72 = .ok (.aload_n 0, 1) := by decide +kernel
theorem dX5_told_73 : decode cX5_told 73 = .ok (.getfield 10, 3) := by decide +kernel
theorem dX5_told_76 : decode cX5_told 76 = .ok (.invokevirtual 119, 3) := by decide +kernel
theorem dX5_told_79 : decode cX5_told 79 = .ok (.ireturn, 1) := by decide +kernel
theorem dX5_told_80 : decode cX5_told 80 = .ok (.aload_n 0, 1) := by decide +kernel
theorem dX5_told_81 : decode cX5_told 81 = .ok (.getfield 10, 3) := by decide +kernel
theorem dX5_told_84 : decode cX5_told 84 = .ok (.invokevirtual 122, 3) := by decide +kernel
theorem dX5_told_87 : decode cX5_told 87 = .ok (.ireturn, 1) := by decide +kernel
theorem dX5_told_88 : decode cX5_told 88 = .ok (.aload_n 0, 1) := by decide +kernel
theorem dX5_told_89 : decode cX5_told 89 = .ok (.getfield 37, 3) := by decide +kernel
theorem dX5_told_92 : decode cX5_told 92 = .ok (.invokevirtual 125, 3) := by decide +kernel
theorem dX5_told_95 : decode cX5_told 95 = .ok (.ireturn, 1) := by decide +kernel
theorem dX5_told_96 : decode cX5_told 96 = .ok (.aload_n 0, 1) := by decide +kernel
theorem dX5_told_97 : decode cX5_told 97 = .ok (.getfield 37, 3) := by decide +kernel
theorem dX5_told_100 : decode cX5_told 100 = .ok (.invokevirtual 128, 3) := by decide +kernel
theorem dX5_told_103 : decode cX5_told 103 = .ok (.ireturn, 1) := by decide +kernel
theorem dX5_told_104 : decode cX5_told 104 = .ok (.aload_n 0, 1) := by decide +kernel
theorem dX5_told_105 : decode cX5_told 105 = .ok (.getfield 44, 3) := by decide +kernel
theorem dX5_told_108 : decode cX5_told 108 = .ok (.invokevirtual 131, 3) := by decide +kernel
theorem dX5_told_111 : decode cX5_told 111 = .ok (.ireturn, 1) := by decide +kernel
theorem dX5_told_112 : decode cX5_told 112 = .ok (.aload_n 0, 1) := by decide +kernel
theorem dX5_told_113 : decode cX5_told 113 = .ok (.getfield 44, 3) := by decide +kernel
theorem dX5_told_116 : decode cX5_told 116 = .ok (.invokevirtual 134, 3) := by decide +kernel
theorem dX5_told_119 : decode cX5_told 119 = .ok (.ireturn, 1) := by decide +kernel
theorem dX5_told_120 : decode cX5_told 120 = .ok (.aload_n 0, 1) := by decide +kernel
theorem dX5_told_121 : decode cX5_told 121 = .ok (.getfield 44, 3) := by decide +kernel
theorem dX5_told_124 : decode cX5_told 124 = .ok (.iconst 0, 1) := by decide +kernel
theorem dX5_told_125 : decode cX5_told 125 = .ok (.invokevirtual 137, 3) := by decide +kernel
theorem dX5_told_128 : decode cX5_told 128 = .ok (.ireturn, 1) := by decide +kernel
theorem dX5_told_129 : decode cX5_told 129 = .ok (.aload_n 0, 1) := by decide +kernel
theorem dX5_told_130 : decode cX5_told 130 = .ok (.getfield 44, 3) := by decide +kernel
theorem dX5_told_133 : decode cX5_told 133 = .ok (.iconst 0, 1) := by decide +kernel
theorem dX5_told_134 : decode cX5_told 134 = .ok (.invokevirtual 140, 3) := by decide +kernel
theorem dX5_told_137 : decode cX5_told 137 = .ok (.ireturn, 1) := by decide +kernel
theorem dX5_told_138 : decode cX5_told 138 = .ok (.aload_n 0, 1) := by decide +kernel
theorem dX5_told_139 : decode cX5_told 139 = .ok (.getfield 44, 3) := by decide +kernel
theorem dX5_told_142 : decode cX5_told 142 = .ok (.iconst 0, 1) := by decide +kernel
theorem dX5_told_143 : decode cX5_told 143 = .ok (.invokevirtual 143, 3) := by decide +kernel
theorem dX5_told_146 : decode cX5_told 146 = .ok (.ireturn, 1) := by decide +kernel
theorem dX5_told_147 : decode cX5_told 147 = .ok (.aload_n 0, 1) := by decide +kernel
theorem dX5_told_148 : decode cX5_told 148 = .ok (.getfield 44, 3) := by decide +kernel
theorem dX5_told_151 : decode cX5_told 151 = .ok (.invokevirtual 146, 3) := by decide +kernel
theorem dX5_told_154 : decode cX5_told 154 = .ok (.ireturn, 1) := by decide +kernel
theorem dX5_told_155 : decode cX5_told 155 = .ok (.aload_n 0, 1) := by decide +kernel
theorem dX5_told_156 : decode cX5_told 156 = .ok (.getfield 44, 3) := by decide +kernel
theorem dX5_told_159 : decode cX5_told 159 = .ok (.invokevirtual 149, 3) := by decide +kernel
theorem dX5_told_162 : decode cX5_told 162 = .ok (.ireturn, 1) := by decide +kernel
theorem dX5_told_163 : decode cX5_told 163 = .ok (.aload_n 0, 1) := by decide +kernel
theorem dX5_told_164 : decode cX5_told 164 = .ok (.getfield 44, 3) := by decide +kernel
theorem dX5_told_167 : decode cX5_told 167 = .ok (.invokevirtual 152, 3) := by decide +kernel
theorem dX5_told_170 : decode cX5_told 170 = .ok (.ireturn, 1) := by decide +kernel
theorem dX5_told_171 : decode cX5_told 171 = .ok (.aload_n 0, 1) := by decide +kernel
theorem dX5_told_172 : decode cX5_told 172 = .ok (.getfield 19, 3) := by decide +kernel
theorem dX5_told_175 : decode cX5_told 175 = .ok (.invokevirtual 108, 3) := by decide +kernel
theorem dX5_told_178 : decode cX5_told 178 = .ok (.ireturn, 1) := by decide +kernel
theorem dX5_told_179 : decode cX5_told 179 = .ok (.ldc 61, 2) := by decide +kernel
theorem dX5_told_181 : decode cX5_told 181 = .ok (.ireturn, 1) := by decide +kernel
set_option maxRecDepth 20000 in
theorem ggX5_row_X5_isRow : GoodIn wsX5_row wsX5_isRow := goodIn_r _ [8, 9, 10, 7, 11] (by decide +kernel) (by decide +kernel)
set_option maxRecDepth 20000 in
theorem gX5_row_X5_isRow : GoodIn wsX5_row (va_wsS RX5 52 yX5_isRow wsX5_isRow) := goodIn_app (goodIn_of _ (by decide +kernel)) ggX5_row_X5_isRow
set_option maxRecDepth 20000 in
theorem ggX5_row_X5_refresh : GoodIn wsX5_row wsX5_refresh := goodIn_r _ [15, 16, 3, 2, 17, 18, 19, 20, 21, 22, 23, 24, 25, 26, 27, 28, 29, 30, 31, 32, 33, 34, 35, 36, 37, 38, 39, 40, 41, 42, 43, 44, 45, 46, 47, 48, 49, 50, 51, 52, 53, 54, 55, 56, 57, 58, 59, 60, 61, 62, 63, 64, 65, 66, 67, 68, 69, 70, 71, 72, 73, 74, 75, 76, 77, 78, 79, 80, 81, 82, 83, 84, 85, 86, 87, 88, 89, 90, 91, 92, 93, 94, 95, 96, 97, 98, 99, 100, 101, 102, 103, 104, 105, 106, 107, 108, 109, 110, 111, 112, 113, 114, 115, 116, 117, 118, 119, 120, 121, 122, 123, 124, 148, 149, 150, 151, 152, 153, 154, 155, 156, 157, 158, 159, 160, 161, 162, 163, 164, 165, 166, 167, 168, 169, 170, 171] (by decide +kernel) (by decide +kernel)
set_option maxRecDepth 20000 in
theorem gX5_row_X5_refresh : GoodIn wsX5_row (wsV RX5 116 RX5 yX5_refresh wsX5_refresh) := goodIn_app (goodIn_of _ (by decide +kernel)) ggX5_row_X5_refresh
set_option maxRecDepth 20000 in
theorem ggX5_row_X4_sizeOf : GoodIn wsX5_row wsX4_sizeOf := goodIn_r _ [128, 30, 158, 159, 160, 161] (by decide +kernel) (by decide +kernel)
set_option maxRecDepth 20000 in
theorem gX5_row_X4_sizeOf : GoodIn wsX5_row (wsV RX5 62 RX4 yX4_sizeOf wsX4_sizeOf) := goodIn_app (goodIn_of _ (by decide +kernel)) ggX5_row_X4_sizeOf
set_option maxRecDepth 20000 in
theorem ggX5_row_X4_windowsOf : GoodIn wsX5_row wsX4_windowsOf := goodIn_r _ [29, 30, 158, 159, 160, 161] (by decide +kernel) (by decide +kernel)
set_option maxRecDepth 20000 in
theorem gX5_row_X4_windowsOf : GoodIn wsX5_row (wsV RX5 82 RX4 yX4_windowsOf wsX4_windowsOf) := goodIn_app (goodIn_of _ (by decide +kernel)) ggX5_row_X4_windowsOf
set_option maxRecDepth 20000 in
theorem ggX5_row_X3_countIn : GoodIn wsX5_row wsX3_countIn := goodIn_r _ [133, 77, 78, 79, 22, 80, 24, 155, 156, 157] (by decide +kernel) (by decide +kernel)
set_option maxRecDepth 20000 in
theorem gX5_row_X3_countIn : GoodIn wsX5_row (wsV RX5 155 RX3 yX3_countIn wsX3_countIn) := goodIn_app (goodIn_of _ (by decide +kernel)) ggX5_row_X3_countIn
set_option maxRecDepth 20000 in
theorem ggX5_row_X4_reach : GoodIn wsX5_row wsX4_reach := goodIn_r _ [61, 62, 158, 159, 160, 161] (by decide +kernel) (by decide +kernel)
set_option maxRecDepth 20000 in
theorem gX5_row_X4_reach : GoodIn wsX5_row (wsV RX5 122 RX4 yX4_reach wsX4_reach) := goodIn_app (goodIn_of _ (by decide +kernel)) ggX5_row_X4_reach
set_option maxRecDepth 20000 in
theorem ggX5_row_X3_countKeysIn : GoodIn wsX5_row wsX3_countKeysIn := goodIn_r _ [137, 138, 74, 75, 22, 76, 77, 78, 79, 80, 24, 155, 156, 157] (by decide +kernel) (by decide +kernel)
set_option maxRecDepth 20000 in
theorem gX5_row_X3_countKeysIn : GoodIn wsX5_row (wsV RX5 158 RX3 yX3_countKeysIn wsX3_countKeysIn) := goodIn_app (goodIn_of _ (by decide +kernel)) ggX5_row_X3_countKeysIn
set_option maxRecDepth 20000 in
theorem ggX5_row_X3_allSharesIn : GoodIn wsX5_row wsX3_allSharesIn := goodIn_r _ [142, 25, 26, 27, 28, 29, 30, 35, 36, 37, 22, 38, 39, 40, 41, 42, 43, 44, 45, 46, 47, 48, 49, 50, 51, 52, 158, 159, 160, 161, 155, 156, 157] (by decide +kernel) (by decide +kernel)
set_option maxRecDepth 20000 in
theorem gX5_row_X3_allSharesIn : GoodIn wsX5_row (wsV RX5 161 RX3 yX3_allSharesIn wsX3_allSharesIn) := goodIn_app (goodIn_of _ (by decide +kernel)) ggX5_row_X3_allSharesIn
set_option maxRecDepth 20000 in
theorem ggX5_row_X3_mostOftenIn : GoodIn wsX5_row wsX3_mostOftenIn := goodIn_r _ [146, 147, 77, 78, 79, 22, 80, 24, 155, 156, 157] (by decide +kernel) (by decide +kernel)
set_option maxRecDepth 20000 in
theorem gX5_row_X3_mostOftenIn : GoodIn wsX5_row (wsV RX5 165 RX3 yX3_mostOftenIn wsX3_mostOftenIn) := goodIn_app (goodIn_of _ (by decide +kernel)) ggX5_row_X3_mostOftenIn
theorem dX5_row_0 : decode cX5_row 0 = .ok (.iload_n 1, 1) := by decide +kernel
theorem dX5_row_1 : decode cX5_row 1 = .ok (.invokestatic 52, 3) := by decide +kernel
theorem dX5_row_4 : decode cX5_row 4 = .ok (.ifCond .ne 6, 3) := by decide +kernel
theorem dX5_row_7 : decode cX5_row 7 = .ok (.ldc 56, 2) := by decide +kernel
theorem dX5_row_9 : decode cX5_row 9 = .ok (.ireturn, 1) := by decide +kernel
theorem dX5_row_10 : decode cX5_row 10 = .ok (.aload_n 0, 1) := by decide +kernel
theorem dX5_row_11 : decode cX5_row 11 = .ok (.invokevirtual 116, 3) := by decide +kernel
theorem dX5_row_14 : decode cX5_row 14 = .ok (.iload_n 2, 1) := by decide +kernel
theorem dX5_row_15 : decode cX5_row 15 = .ok (.tableswitch 102 0 5 #[37, 46, 55, 64, 80, 93], 37) := by decide +kernel
theorem dX5_row_52 : decode cX5_row 52 = .ok (.aload_n 0, 1) := by decide +kernel
theorem dX5_row_53 : decode cX5_row 53 = .ok (.getfield 10, 3) := by decide +kernel
theorem dX5_row_56 : decode cX5_row 56 = .ok (.iload_n 1, 1) := by decide +kernel
theorem dX5_row_57 : decode cX5_row 57 = .ok (.invokevirtual 62, 3) := by decide +kernel
theorem dX5_row_60 : decode cX5_row 60 = .ok (.ireturn, 1) := by decide +kernel
theorem dX5_row_61 : decode cX5_row 61 = .ok (.aload_n 0, 1) := by decide +kernel
theorem dX5_row_62 : decode cX5_row 62 = .ok (.getfield 10, 3) := by decide +kernel
theorem dX5_row_65 : decode cX5_row 65 = .ok (.iload_n 1, 1) := by decide +kernel
theorem dX5_row_66 : decode cX5_row 66 = .ok (.invokevirtual 82, 3) := by decide +kernel
theorem dX5_row_69 : decode cX5_row 69 = .ok (.ireturn, 1) := by decide +kernel
theorem dX5_row_70 : decode cX5_row 70 = .ok (.aload_n 0, 1) := by decide +kernel
theorem dX5_row_71 : decode cX5_row 71 = .ok (.getfield 30, 3) := by decide +kernel
theorem dX5_row_74 : decode cX5_row 74 = .ok (.iload_n 1, 1) := by decide +kernel
theorem dX5_row_75 : decode cX5_row 75 = .ok (.invokevirtual 155, 3) := by decide +kernel
theorem dX5_row_78 : decode cX5_row 78 = .ok (.ireturn, 1) := by decide +kernel
theorem dX5_row_79 : decode cX5_row 79 = .ok (.aload_n 0, 1) := by decide +kernel
theorem dX5_row_80 : decode cX5_row 80 = .ok (.getfield 30, 3) := by decide +kernel
theorem dX5_row_83 : decode cX5_row 83 = .ok (.iload_n 1, 1) := by decide +kernel
theorem dX5_row_84 : decode cX5_row 84 = .ok (.aload_n 0, 1) := by decide +kernel
theorem dX5_row_85 : decode cX5_row 85 = .ok (.getfield 10, 3) := by decide +kernel
theorem dX5_row_88 : decode cX5_row 88 = .ok (.invokevirtual 122, 3) := by decide +kernel
theorem dX5_row_91 : decode cX5_row 91 = .ok (.invokevirtual 158, 3) := by decide +kernel
theorem dX5_row_94 : decode cX5_row 94 = .ok (.ireturn, 1) := by decide +kernel
theorem dX5_row_95 : decode cX5_row 95 = .ok (.aload_n 0, 1) := by decide +kernel
theorem dX5_row_96 : decode cX5_row 96 = .ok (.getfield 30, 3) := by decide +kernel
theorem dX5_row_99 : decode cX5_row 99 = .ok (.aload_n 0, 1) := by decide +kernel
theorem dX5_row_100 : decode cX5_row 100 = .ok (.getfield 10, 3) := by decide +kernel
theorem dX5_row_103 : decode cX5_row 103 = .ok (.iload_n 1, 1) := by decide +kernel
theorem dX5_row_104 : decode cX5_row 104 = .ok (.invokevirtual 161, 3) := by decide +kernel
theorem dX5_row_107 : decode cX5_row 107 = .ok (.ireturn, 1) := by decide +kernel
theorem dX5_row_108 : decode cX5_row 108 = .ok (.aload_n 0, 1) := by decide +kernel
theorem dX5_row_109 : decode cX5_row 109 = .ok (.getfield 30, 3) := by decide +kernel
theorem dX5_row_112 : decode cX5_row 112 = .ok (.iload_n 1, 1) := by decide +kernel
theorem dX5_row_113 : decode cX5_row 113 = .ok (.invokevirtual 165, 3) := by decide +kernel
theorem dX5_row_116 : decode cX5_row 116 = .ok (.ireturn, 1) := by decide +kernel
theorem dX5_row_117 : decode cX5_row 117 = .ok (.ldc 61, 2) := by decide +kernel
theorem dX5_row_119 : decode cX5_row 119 = .ok (.ireturn, 1) := by decide +kernel
set_option maxRecDepth 20000 in
theorem ggX5_at_X5_isRow : GoodIn wsX5_at wsX5_isRow := goodIn_r _ [7, 8, 9, 6, 10] (by decide +kernel) (by decide +kernel)
set_option maxRecDepth 20000 in
theorem gX5_at_X5_isRow : GoodIn wsX5_at (va_wsS RX5 52 yX5_isRow wsX5_isRow) := goodIn_app (goodIn_of _ (by decide +kernel)) ggX5_at_X5_isRow
set_option maxRecDepth 20000 in
theorem ggX5_at_X4_sizeOf : GoodIn wsX5_at wsX4_sizeOf := goodIn_r _ [15, 16, 29, 30, 31, 32] (by decide +kernel) (by decide +kernel)
set_option maxRecDepth 20000 in
theorem gX5_at_X4_sizeOf : GoodIn wsX5_at (wsV RX5 62 RX4 yX4_sizeOf wsX4_sizeOf) := goodIn_app (goodIn_of _ (by decide +kernel)) ggX5_at_X4_sizeOf
set_option maxRecDepth 20000 in
theorem ggX5_at_X5_isWithin : GoodIn wsX5_at wsX5_isWithin := goodIn_r _ [10] (by decide +kernel) (by decide +kernel)
set_option maxRecDepth 20000 in
theorem gX5_at_X5_isWithin : GoodIn wsX5_at (va_wsS RX5 57 yX5_isWithin wsX5_isWithin) := goodIn_app (goodIn_of _ (by decide +kernel)) ggX5_at_X5_isWithin
set_option maxRecDepth 20000 in
theorem ggX5_at_X4_numberAt : GoodIn wsX5_at wsX4_numberAt := goodIn_r _ [20, 21, 29, 30, 31, 32] (by decide +kernel) (by decide +kernel)
set_option maxRecDepth 20000 in
theorem gX5_at_X4_numberAt : GoodIn wsX5_at (wsV RX5 85 RX4 yX4_numberAt wsX4_numberAt) := goodIn_app (goodIn_of _ (by decide +kernel)) ggX5_at_X4_numberAt
theorem dX5_at_0 : decode cX5_at 0 = .ok (.iload_n 1, 1) := by decide +kernel
theorem dX5_at_1 : decode cX5_at 1 = .ok (.invokestatic 52, 3) := by decide +kernel
theorem dX5_at_4 : decode cX5_at 4 = .ok (.ifCond .ne 6, 3) := by decide +kernel
theorem dX5_at_7 : decode cX5_at 7 = .ok (.ldc 56, 2) := by decide +kernel
theorem dX5_at_9 : decode cX5_at 9 = .ok (.ireturn, 1) := by decide +kernel
theorem dX5_at_10 : decode cX5_at 10 = .ok (.iload_n 2, 1) := by decide +kernel
theorem dX5_at_11 : decode cX5_at 11 = .ok (.iconst 0, 1) := by decide +kernel
theorem dX5_at_12 : decode cX5_at 12 = .ok (.aload_n 0, 1) := by decide +kernel
theorem dX5_at_13 : decode cX5_at 13 = .ok (.getfield 10, 3) := by decide +kernel
theorem dX5_at_16 : decode cX5_at 16 = .ok (.iload_n 1, 1) := by decide +kernel
theorem dX5_at_17 : decode cX5_at 17 = .ok (.invokevirtual 62, 3) := by decide +kernel
theorem dX5_at_20 : decode cX5_at 20 = .ok (.iconst 1, 1) := by decide +kernel
theorem dX5_at_21 : decode cX5_at 21 = .ok (.isub, 1) := by decide +kernel
theorem dX5_at_22 : decode cX5_at 22 = .ok (.invokestatic 57, 3) := by decide +kernel
theorem dX5_at_25 : decode cX5_at 25 = .ok (.ifCond .ne 6, 3) := by decide +kernel
theorem dX5_at_28 : decode cX5_at 28 = .ok (.ldc 61, 2) := by decide +kernel
theorem dX5_at_30 : decode cX5_at 30 = .ok (.ireturn, 1) := by decide +kernel
theorem dX5_at_31 : decode cX5_at 31 = .ok (.aload_n 0, 1) := by decide +kernel
theorem dX5_at_32 : decode cX5_at 32 = .ok (.getfield 10, 3) := by decide +kernel
theorem dX5_at_35 : decode cX5_at 35 = .ok (.iload_n 1, 1) := by decide +kernel
theorem dX5_at_36 : decode cX5_at 36 = .ok (.iload_n 2, 1) := by decide +kernel
theorem dX5_at_37 : decode cX5_at 37 = .ok (.invokevirtual 85, 3) := by decide +kernel
theorem dX5_at_40 : decode cX5_at 40 = .ok (.ireturn, 1) := by decide +kernel
set_option maxRecDepth 20000 in
theorem ggX5_share_X5_isWindow : GoodIn wsX5_share wsX5_isWindow := goodIn_r _ [9, 4, 10, 11, 8, 12, 13, 14, 15, 16, 17, 18, 19, 20, 21, 45, 46, 47, 48, 49, 50, 51, 52, 53, 54, 55] (by decide +kernel) (by decide +kernel)
set_option maxRecDepth 20000 in
theorem gX5_share_X5_isWindow : GoodIn wsX5_share (wsV RX5 168 RX5 yX5_isWindow wsX5_isWindow) := goodIn_app (goodIn_of _ (by decide +kernel)) ggX5_share_X5_isWindow
set_option maxRecDepth 20000 in
theorem ggX5_share_X5_isWithin : GoodIn wsX5_share wsX5_isWithin := goodIn_r _ [15] (by decide +kernel) (by decide +kernel)
set_option maxRecDepth 20000 in
theorem gX5_share_X5_isWithin : GoodIn wsX5_share (va_wsS RX5 57 yX5_isWithin wsX5_isWithin) := goodIn_app (goodIn_of _ (by decide +kernel)) ggX5_share_X5_isWithin
set_option maxRecDepth 20000 in
theorem ggX5_share_X3_shareIn : GoodIn wsX5_share wsX3_shareIn := goodIn_r _ [26, 27, 28, 29, 25, 30, 31, 32, 33, 34, 19, 35, 36, 37, 38, 39, 40, 41, 42, 43, 44, 56, 57, 58, 52, 53, 54, 55] (by decide +kernel) (by decide +kernel)
set_option maxRecDepth 20000 in
theorem gX5_share_X3_shareIn : GoodIn wsX5_share (wsV RX5 172 RX3 yX3_shareIn wsX3_shareIn) := goodIn_app (goodIn_of _ (by decide +kernel)) ggX5_share_X3_shareIn
theorem dX5_share_0 : decode cX5_share 0 = .ok (.aload_n 0, 1) := by decide +kernel
theorem dX5_share_1 : decode cX5_share 1 = .ok (.iload_n 1, 1) := by decide +kernel
theorem dX5_share_2 : decode cX5_share 2 = .ok (.iload_n 2, 1) := by decide +kernel
theorem dX5_share_3 : decode cX5_share 3 = .ok (.invokevirtual 168, 3) := by decide +kernel
theorem dX5_share_6 : decode cX5_share 6 = .ok (.ifCond .ne 6, 3) := by decide +kernel
theorem dX5_share_9 : decode cX5_share 9 = .ok (.ldc 56, 2) := by decide +kernel
theorem dX5_share_11 : decode cX5_share 11 = .ok (.ireturn, 1) := by decide +kernel
theorem dX5_share_12 : decode cX5_share 12 = .ok (.iload_n 3, 1) := by decide +kernel
theorem dX5_share_13 : decode cX5_share 13 = .ok (.iconst 0, 1) := by decide +kernel
theorem dX5_share_14 : decode cX5_share 14 = .ok (.bipush 7, 2) := by decide +kernel
theorem dX5_share_16 : decode cX5_share 16 = .ok (.invokestatic 57, 3) := by decide +kernel
theorem dX5_share_19 : decode cX5_share 19 = .ok (.ifCond .ne 6, 3) := by decide +kernel
theorem dX5_share_22 : decode cX5_share 22 = .ok (.ldc 61, 2) := by decide +kernel
theorem dX5_share_24 : decode cX5_share 24 = .ok (.ireturn, 1) := by decide +kernel
theorem dX5_share_25 : decode cX5_share 25 = .ok (.aload_n 0, 1) := by decide +kernel
theorem dX5_share_26 : decode cX5_share 26 = .ok (.getfield 30, 3) := by decide +kernel
theorem dX5_share_29 : decode cX5_share 29 = .ok (.aload_n 0, 1) := by decide +kernel
theorem dX5_share_30 : decode cX5_share 30 = .ok (.getfield 10, 3) := by decide +kernel
theorem dX5_share_33 : decode cX5_share 33 = .ok (.iload_n 1, 1) := by decide +kernel
theorem dX5_share_34 : decode cX5_share 34 = .ok (.iload_n 2, 1) := by decide +kernel
theorem dX5_share_35 : decode cX5_share 35 = .ok (.iload_n 3, 1) := by decide +kernel
theorem dX5_share_36 : decode cX5_share 36 = .ok (.invokevirtual 172, 3) := by decide +kernel
theorem dX5_share_39 : decode cX5_share 39 = .ok (.ireturn, 1) := by decide +kernel
set_option maxRecDepth 20000 in
theorem ggX5_peak_X5_isWindow : GoodIn wsX5_peak wsX5_isWindow := goodIn_r _ [7, 8, 9, 10, 6, 11, 12, 13, 14, 15, 16, 17, 18, 19, 20, 130, 131, 132, 133, 134, 135, 136, 137, 138, 139, 140] (by decide +kernel) (by decide +kernel)
set_option maxRecDepth 20000 in
theorem gX5_peak_X5_isWindow : GoodIn wsX5_peak (wsV RX5 168 RX5 yX5_isWindow wsX5_isWindow) := goodIn_app (goodIn_of _ (by decide +kernel)) ggX5_peak_X5_isWindow
set_option maxRecDepth 20000 in
theorem ggX5_peak_X5_refresh : GoodIn wsX5_peak wsX5_refresh := goodIn_r _ [24, 25, 2, 8, 26, 27, 28, 29, 30, 31, 32, 33, 34, 16, 17, 18, 19, 20, 35, 36, 37, 38, 39, 40, 41, 42, 43, 44, 45, 46, 47, 48, 49, 50, 51, 52, 53, 54, 55, 56, 57, 58, 59, 60, 61, 62, 63, 64, 65, 66, 67, 68, 69, 70, 71, 72, 73, 74, 75, 76, 77, 78, 79, 80, 81, 82, 83, 84, 85, 86, 87, 88, 89, 90, 91, 92, 93, 94, 95, 96, 97, 98, 99, 100, 101, 102, 103, 104, 105, 106, 107, 108, 109, 110, 111, 112, 113, 114, 115, 116, 117, 118, 119, 120, 121, 122, 123, 124, 125, 126, 127, 128, 130, 131, 132, 133, 134, 135, 136, 141, 142, 143, 137, 138, 139, 140, 144, 145, 146, 147, 148, 149, 150, 151, 152, 153] (by decide +kernel) (by decide +kernel)
set_option maxRecDepth 20000 in
theorem gX5_peak_X5_refresh : GoodIn wsX5_peak (wsV RX5 116 RX5 yX5_refresh wsX5_refresh) := goodIn_app (goodIn_of _ (by decide +kernel)) ggX5_peak_X5_refresh
set_option maxRecDepth 20000 in
theorem ggX5_peak_X3_peakOf : GoodIn wsX5_peak wsX3_peakOf := goodIn_r _ [84, 33, 141, 142, 143] (by decide +kernel) (by decide +kernel)
set_option maxRecDepth 20000 in
theorem gX5_peak_X3_peakOf : GoodIn wsX5_peak (wsV RX5 176 RX3 yX3_peakOf wsX3_peakOf) := goodIn_app (goodIn_of _ (by decide +kernel)) ggX5_peak_X3_peakOf
theorem dX5_peak_0 : decode cX5_peak 0 = .ok (.aload_n 0, 1) := by decide +kernel
theorem dX5_peak_1 : decode cX5_peak 1 = .ok (.iload_n 1, 1) := by decide +kernel
theorem dX5_peak_2 : decode cX5_peak 2 = .ok (.iload_n 2, 1) := by decide +kernel
theorem dX5_peak_3 : decode cX5_peak 3 = .ok (.invokevirtual 168, 3) := by decide +kernel
theorem dX5_peak_6 : decode cX5_peak 6 = .ok (.ifCond .ne 6, 3) := by decide +kernel
theorem dX5_peak_9 : decode cX5_peak 9 = .ok (.ldc 56, 2) := by decide +kernel
theorem dX5_peak_11 : decode cX5_peak 11 = .ok (.ireturn, 1) := by decide +kernel
theorem dX5_peak_12 : decode cX5_peak 12 = .ok (.aload_n 0, 1) := by decide +kernel
theorem dX5_peak_13 : decode cX5_peak 13 = .ok (.invokevirtual 116, 3) := by decide +kernel
theorem dX5_peak_16 : decode cX5_peak 16 = .ok (.aload_n 0, 1) := by decide +kernel
theorem dX5_peak_17 : decode cX5_peak 17 = .ok (.getfield 30, 3) := by decide +kernel
theorem dX5_peak_20 : decode cX5_peak 20 = .ok (.iload_n 1, 1) := by decide +kernel
theorem dX5_peak_21 : decode cX5_peak 21 = .ok (.iload_n 2, 1) := by decide +kernel
theorem dX5_peak_22 : decode cX5_peak 22 = .ok (.invokevirtual 176, 3) := by decide +kernel
theorem dX5_peak_25 : decode cX5_peak 25 = .ok (.ireturn, 1) := by decide +kernel
set_option maxRecDepth 20000 in
theorem ggX5_key_X5_isWindow : GoodIn wsX5_key wsX5_isWindow := goodIn_r _ [8, 3, 9, 10, 7, 11, 12, 13, 14, 15, 16, 17, 18, 19, 20, 130, 131, 132, 133, 134, 135, 136, 137, 138, 139, 140] (by decide +kernel) (by decide +kernel)
set_option maxRecDepth 20000 in
theorem gX5_key_X5_isWindow : GoodIn wsX5_key (wsV RX5 168 RX5 yX5_isWindow wsX5_isWindow) := goodIn_app (goodIn_of _ (by decide +kernel)) ggX5_key_X5_isWindow
set_option maxRecDepth 20000 in
theorem ggX5_key_X5_refresh : GoodIn wsX5_key wsX5_refresh := goodIn_r _ [24, 25, 2, 3, 26, 27, 28, 29, 30, 31, 32, 33, 34, 16, 17, 18, 19, 20, 35, 36, 37, 38, 39, 40, 41, 42, 43, 44, 45, 46, 47, 48, 49, 50, 51, 52, 53, 54, 55, 56, 57, 58, 59, 60, 61, 62, 63, 64, 65, 66, 67, 68, 69, 70, 71, 72, 73, 74, 75, 76, 77, 78, 79, 80, 81, 82, 83, 84, 85, 86, 87, 88, 89, 90, 91, 92, 93, 94, 95, 96, 97, 98, 99, 100, 101, 102, 103, 104, 105, 106, 107, 108, 109, 110, 111, 112, 113, 114, 115, 116, 117, 118, 119, 120, 121, 122, 123, 124, 125, 126, 127, 128, 130, 131, 132, 133, 134, 135, 136, 141, 142, 143, 137, 138, 139, 140, 144, 145, 146, 147, 148, 149, 150, 151, 152, 153] (by decide +kernel) (by decide +kernel)
set_option maxRecDepth 20000 in
theorem gX5_key_X5_refresh : GoodIn wsX5_key (wsV RX5 116 RX5 yX5_refresh wsX5_refresh) := goodIn_app (goodIn_of _ (by decide +kernel)) ggX5_key_X5_refresh
set_option maxRecDepth 20000 in
theorem ggX5_key_X4_reach : GoodIn wsX5_key wsX4_reach := goodIn_r _ [65, 66, 137, 138, 139, 140] (by decide +kernel) (by decide +kernel)
set_option maxRecDepth 20000 in
theorem gX5_key_X4_reach : GoodIn wsX5_key (wsV RX5 122 RX4 yX4_reach wsX4_reach) := goodIn_app (goodIn_of _ (by decide +kernel)) ggX5_key_X4_reach
set_option maxRecDepth 20000 in
theorem ggX5_key_X3_keyOf : GoodIn wsX5_key wsX3_keyOf := goodIn_r _ [80, 81, 82, 83, 31, 84, 33, 141, 142, 143] (by decide +kernel) (by decide +kernel)
set_option maxRecDepth 20000 in
theorem gX5_key_X3_keyOf : GoodIn wsX5_key (wsV RX5 179 RX3 yX3_keyOf wsX3_keyOf) := goodIn_app (goodIn_of _ (by decide +kernel)) ggX5_key_X3_keyOf
theorem dX5_key_0 : decode cX5_key 0 = .ok (.aload_n 0, 1) := by decide +kernel
theorem dX5_key_1 : decode cX5_key 1 = .ok (.iload_n 1, 1) := by decide +kernel
theorem dX5_key_2 : decode cX5_key 2 = .ok (.iload_n 2, 1) := by decide +kernel
theorem dX5_key_3 : decode cX5_key 3 = .ok (.invokevirtual 168, 3) := by decide +kernel
theorem dX5_key_6 : decode cX5_key 6 = .ok (.ifCond .eq 12, 3) := by decide +kernel
theorem dX5_key_9 : decode cX5_key 9 = .ok (.aload_n 0, 1) := by decide +kernel
theorem dX5_key_10 : decode cX5_key 10 = .ok (.iload_n 1, 1) := by decide +kernel
theorem dX5_key_11 : decode cX5_key 11 = .ok (.iload_n 3, 1) := by decide +kernel
theorem dX5_key_12 : decode cX5_key 12 = .ok (.invokevirtual 168, 3) := by decide +kernel
theorem dX5_key_15 : decode cX5_key 15 = .ok (.ifCond .ne 6, 3) := by decide +kernel
theorem dX5_key_18 : decode cX5_key 18 = .ok (.ldc 56, 2) := by decide +kernel
theorem dX5_key_20 : decode cX5_key 20 = .ok (.ireturn, 1) := by decide +kernel
theorem dX5_key_21 : decode cX5_key 21 = .ok (.aload_n 0, 1) := by decide +kernel
theorem dX5_key_22 : decode cX5_key 22 = .ok (.invokevirtual 116, 3) := by decide +kernel
theorem dX5_key_25 : decode cX5_key 25 = .ok (.aload_n 0, 1) := by decide +kernel
theorem dX5_key_26 : decode cX5_key 26 = .ok (.getfield 30, 3) := by decide +kernel
theorem dX5_key_29 : decode cX5_key 29 = .ok (.iload_n 1, 1) := by decide +kernel
theorem dX5_key_30 : decode cX5_key 30 = .ok (.iload_n 2, 1) := by decide +kernel
theorem dX5_key_31 : decode cX5_key 31 = .ok (.iload_n 3, 1) := by decide +kernel
theorem dX5_key_32 : decode cX5_key 32 = .ok (.aload_n 0, 1) := by decide +kernel
theorem dX5_key_33 : decode cX5_key 33 = .ok (.getfield 10, 3) := by decide +kernel
theorem dX5_key_36 : decode cX5_key 36 = .ok (.invokevirtual 122, 3) := by decide +kernel
theorem dX5_key_39 : decode cX5_key 39 = .ok (.invokevirtual 179, 3) := by decide +kernel
theorem dX5_key_42 : decode cX5_key 42 = .ok (.ireturn, 1) := by decide +kernel
set_option maxRecDepth 20000 in
theorem ggX5_keyAt_X5_refresh : GoodIn wsX5_keyAt wsX5_refresh := goodIn_r _ [7, 8, 9, 10, 2, 11, 12, 13, 14, 15, 16, 17, 18, 19, 20, 21, 22, 23, 24, 25, 26, 27, 28, 29, 30, 31, 32, 33, 34, 35, 36, 37, 38, 39, 40, 41, 42, 43, 44, 45, 46, 47, 48, 49, 50, 51, 52, 53, 54, 55, 56, 57, 58, 59, 60, 61, 62, 63, 64, 65, 66, 67, 68, 69, 70, 71, 72, 73, 74, 75, 76, 77, 78, 79, 80, 81, 82, 83, 84, 85, 86, 87, 88, 89, 90, 91, 92, 93, 94, 95, 96, 97, 98, 99, 100, 101, 102, 103, 104, 105, 106, 107, 108, 109, 110, 111, 112, 113, 114, 115, 116, 117, 122, 123, 124, 125, 126, 127, 128, 129, 130, 131, 132, 133, 134, 135, 136, 137, 138, 139, 140, 141, 142, 143, 144, 145] (by decide +kernel) (by decide +kernel)
set_option maxRecDepth 20000 in
theorem gX5_keyAt_X5_refresh : GoodIn wsX5_keyAt (wsV RX5 116 RX5 yX5_refresh wsX5_refresh) := goodIn_app (goodIn_of _ (by decide +kernel)) ggX5_keyAt_X5_refresh
set_option maxRecDepth 20000 in
theorem ggX5_keyAt_X1_keyByRise : GoodIn wsX5_keyAt wsX1_keyByRise := goodIn_r _ [121, 112, 105, 106, 59, 107, 79, 136, 137, 138, 139] (by decide +kernel) (by decide +kernel)
set_option maxRecDepth 20000 in
theorem gX5_keyAt_X1_keyByRise : GoodIn wsX5_keyAt (wsV RX5 183 RX1 yX1_keyByRise wsX1_keyByRise) := goodIn_app (goodIn_of _ (by decide +kernel)) ggX5_keyAt_X1_keyByRise
theorem dX5_keyAt_0 : decode cX5_keyAt 0 = .ok (.iload_n 1, 1) := by decide +kernel
theorem dX5_keyAt_1 : decode cX5_keyAt 1 = .ok (.ifCond .ge 6, 3) := by decide +kernel
theorem dX5_keyAt_4 : decode cX5_keyAt 4 = .ok (.ldc 61, 2) := by decide +kernel
theorem dX5_keyAt_6 : decode cX5_keyAt 6 = .ok (.ireturn, 1) := by decide +kernel
theorem dX5_keyAt_7 : decode cX5_keyAt 7 = .ok (.aload_n 0, 1) := by decide +kernel
theorem dX5_keyAt_8 : decode cX5_keyAt 8 = .ok (.invokevirtual 116, 3) := by decide +kernel
theorem dX5_keyAt_11 : decode cX5_keyAt 11 = .ok (.aload_n 0, 1) := by decide +kernel
theorem dX5_keyAt_12 : decode cX5_keyAt 12 = .ok (.getfield 37, 3) := by decide +kernel
theorem dX5_keyAt_15 : decode cX5_keyAt 15 = .ok (.iload_n 1, 1) := by decide +kernel
theorem dX5_keyAt_16 : decode cX5_keyAt 16 = .ok (.invokevirtual 183, 3) := by decide +kernel
theorem dX5_keyAt_19 : decode cX5_keyAt 19 = .ok (.ireturn, 1) := by decide +kernel
set_option maxRecDepth 20000 in
theorem ggX5_places_X5_isWithin : GoodIn wsX5_places wsX5_isWithin := goodIn_r _ [6] (by decide +kernel) (by decide +kernel)
set_option maxRecDepth 20000 in
theorem gX5_places_X5_isWithin : GoodIn wsX5_places (va_wsS RX5 57 yX5_isWithin wsX5_isWithin) := goodIn_app (goodIn_of _ (by decide +kernel)) ggX5_places_X5_isWithin
set_option maxRecDepth 20000 in
theorem ggX5_places_X5_refresh : GoodIn wsX5_places wsX5_refresh := goodIn_r _ [10, 11, 12, 13, 2, 14, 15, 16, 17, 18, 19, 20, 21, 22, 23, 24, 25, 26, 27, 28, 29, 30, 31, 32, 33, 34, 35, 36, 37, 38, 39, 40, 41, 42, 43, 44, 45, 46, 47, 48, 49, 50, 51, 52, 53, 54, 55, 56, 57, 58, 59, 60, 61, 62, 63, 64, 65, 66, 67, 68, 69, 70, 71, 72, 73, 74, 75, 76, 77, 78, 79, 80, 81, 82, 83, 84, 85, 86, 87, 88, 89, 90, 91, 92, 93, 94, 95, 96, 97, 98, 99, 100, 101, 102, 103, 104, 105, 106, 107, 108, 109, 110, 111, 112, 113, 114, 115, 116, 117, 118, 119, 120, 122, 123, 124, 125, 126, 127, 128, 129, 130, 131, 132, 133, 134, 135, 136, 137, 138, 139, 140, 141, 142, 143, 144, 145] (by decide +kernel) (by decide +kernel)
set_option maxRecDepth 20000 in
theorem gX5_places_X5_refresh : GoodIn wsX5_places (wsV RX5 116 RX5 yX5_refresh wsX5_refresh) := goodIn_app (goodIn_of _ (by decide +kernel)) ggX5_places_X5_refresh
set_option maxRecDepth 20000 in
theorem ggX5_places_X1_placesOf : GoodIn wsX5_places wsX1_placesOf := goodIn_r _ [110, 82, 136, 137, 138, 139] (by decide +kernel) (by decide +kernel)
set_option maxRecDepth 20000 in
theorem gX5_places_X1_placesOf : GoodIn wsX5_places (wsV RX5 186 RX1 yX1_placesOf wsX1_placesOf) := goodIn_app (goodIn_of _ (by decide +kernel)) ggX5_places_X1_placesOf
theorem dX5_places_0 : decode cX5_places 0 = .ok (.iload_n 1, 1) := by decide +kernel
theorem dX5_places_1 : decode cX5_places 1 = .ok (.bipush 64, 2) := by decide +kernel
theorem dX5_places_3 : decode cX5_places 3 = .ok (.sipush 383, 3) := by decide +kernel
theorem dX5_places_6 : decode cX5_places 6 = .ok (.invokestatic 57, 3) := by decide +kernel
theorem dX5_places_9 : decode cX5_places 9 = .ok (.ifCond .ne 6, 3) := by decide +kernel
theorem dX5_places_12 : decode cX5_places 12 = .ok (.ldc 61, 2) := by decide +kernel
theorem dX5_places_14 : decode cX5_places 14 = .ok (.ireturn, 1) := by decide +kernel
theorem dX5_places_15 : decode cX5_places 15 = .ok (.aload_n 0, 1) := by decide +kernel
theorem dX5_places_16 : decode cX5_places 16 = .ok (.invokevirtual 116, 3) := by decide +kernel
theorem dX5_places_19 : decode cX5_places 19 = .ok (.aload_n 0, 1) := by decide +kernel
theorem dX5_places_20 : decode cX5_places 20 = .ok (.getfield 37, 3) := by decide +kernel
