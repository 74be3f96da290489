theorem dX4_wordsIn_45 : decode cX4_wordsIn 45 = .ok (.ireturn, 1) := by decide +kernel
set_option maxRecDepth 20000 in
theorem ggX4_findCases_X4_sets : GoodIn wsX4_findCases wsX4_sets := goodIn_r _ [9, 10, 26, 27, 28, 29, 30, 31, 32, 33, 34] (by decide +kernel) (by decide +kernel)
set_option maxRecDepth 20000 in
theorem gX4_findCases_X4_sets : GoodIn wsX4_findCases (wsV RX4 42 RX4 yX4_sets wsX4_sets) := goodIn_app (goodIn_of _ (by decide +kernel)) ggX4_findCases_X4_sets
set_option maxRecDepth 20000 in
theorem ggX4_findCases_X4_allFollows : GoodIn wsX4_findCases wsX4_allFollows := goodIn_r _ [14, 15, 16, 17, 18, 19, 20, 35, 36, 37, 38, 39, 40, 41] (by decide +kernel) (by decide +kernel)
set_option maxRecDepth 20000 in
theorem gX4_findCases_X4_allFollows : GoodIn wsX4_findCases (wsV RX4 76 RX4 yX4_allFollows wsX4_allFollows) := goodIn_app (goodIn_of _ (by decide +kernel)) ggX4_findCases_X4_allFollows
set_option maxRecDepth 20000 in
theorem ggX4_findCases_X4_weigh : GoodIn wsX4_findCases wsX4_weigh := goodIn_r _ [24, 10, 25, 18, 19, 20, 26, 27, 28, 29, 30, 31, 32, 33, 34] (by decide +kernel) (by decide +kernel)
set_option maxRecDepth 20000 in
theorem gX4_findCases_X4_weigh : GoodIn wsX4_findCases (wsV RX4 80 RX4 yX4_weigh wsX4_weigh) := goodIn_app (goodIn_of _ (by decide +kernel)) ggX4_findCases_X4_weigh
theorem dX4_findCases_0 : decode cX4_findCases 0 = .ok (.aload_n 0, 1) := by decide +kernel
theorem dX4_findCases_1 : decode cX4_findCases 1 = .ok (.lconst 0, 1) := by decide +kernel
theorem dX4_findCases_2 : decode cX4_findCases 2 = .ok (.putfield 38, 3) := by decide +kernel
theorem dX4_findCases_5 : decode cX4_findCases 5 = .ok (.aload_n 0, 1) := by decide +kernel
theorem dX4_findCases_6 : decode cX4_findCases 6 = .ok (.iconst 0, 1) := by decide +kernel
theorem dX4_findCases_7 : decode cX4_findCases 7 = .ok (.putfield 73, 3) := by decide +kernel
theorem dX4_findCases_10 : decode cX4_findCases 10 = .ok (.iconst 0, 1) := by decide +kernel
theorem dX4_findCases_11 : decode cX4_findCases 11 = .ok (.istore_n 2, 1) := by decide +kernel
theorem dX4_findCases_12 : decode cX4_findCases 12 = .ok (.iload_n 2, 1) := by decide +kernel
theorem dX4_findCases_13 : decode cX4_findCases 13 = .ok (.aload_n 0, 1) := by decide +kernel
theorem dX4_findCases_14 : decode cX4_findCases 14 = .ok (.invokevirtual 42, 3) := by decide +kernel
theorem dX4_findCases_17 : decode cX4_findCases 17 = .ok (.if_icmp .ge 67, 3) := by decide +kernel
theorem dX4_findCases_20 : decode cX4_findCases 20 = .ok (.iload_n 2, 1) := by decide +kernel
theorem dX4_findCases_21 : decode cX4_findCases 21 = .ok (.bipush 64, 2) := by decide +kernel
theorem dX4_findCases_23 : decode cX4_findCases 23 = .ok (.if_icmp .ge 61, 3) := by decide +kernel
theorem dX4_findCases_26 : decode cX4_findCases 26 = .ok (.aload_n 0, 1) := by decide +kernel
theorem dX4_findCases_27 : decode cX4_findCases 27 = .ok (.iload_n 2, 1) := by decide +kernel
theorem dX4_findCases_28 : decode cX4_findCases 28 = .ok (.aload_n 1, 1) := by decide +kernel
theorem dX4_findCases_29 : decode cX4_findCases 29 = .ok (.invokevirtual 76, 3) := by decide +kernel
theorem dX4_findCases_32 : decode cX4_findCases 32 = .ok (.ifCond .eq 46, 3) := by decide +kernel
theorem dX4_findCases_35 : decode cX4_findCases 35 = .ok (.aload_n 0, 1) := by decide +kernel
theorem dX4_findCases_36 : decode cX4_findCases 36 = .ok (.getfield 18, 3) := by decide +kernel
theorem dX4_findCases_39 : decode cX4_findCases 39 = .ok (.aload_n 0, 1) := by decide +kernel
theorem dX4_findCases_40 : decode cX4_findCases 40 = .ok (.getfield 73, 3) := by decide +kernel
theorem dX4_findCases_43 : decode cX4_findCases 43 = .ok (.iload_n 2, 1) := by decide +kernel
theorem dX4_findCases_44 : decode cX4_findCases 44 = .ok (.iastore, 1) := by decide +kernel
theorem dX4_findCases_45 : decode cX4_findCases 45 = .ok (.aload_n 0, 1) := by decide +kernel
theorem dX4_findCases_46 : decode cX4_findCases 46 = .ok (.getfield 21, 3) := by decide +kernel
theorem dX4_findCases_49 : decode cX4_findCases 49 = .ok (.iload_n 2, 1) := by decide +kernel
theorem dX4_findCases_50 : decode cX4_findCases 50 = .ok (.aload_n 0, 1) := by decide +kernel
theorem dX4_findCases_51 : decode cX4_findCases 51 = .ok (.iload_n 2, 1) := by decide +kernel
theorem dX4_findCases_52 : decode cX4_findCases 52 = .ok (.invokevirtual 80, 3) := by decide +kernel
theorem dX4_findCases_55 : decode cX4_findCases 55 = .ok (.iastore, 1) := by decide +kernel
theorem dX4_findCases_56 : decode cX4_findCases 56 = .ok (.aload_n 0, 1) := by decide +kernel
theorem dX4_findCases_57 : decode cX4_findCases 57 = .ok (.dup, 1) := by decide +kernel
theorem dX4_findCases_58 : decode cX4_findCases 58 = .ok (.getfield 38, 3) := by decide +kernel
theorem dX4_findCases_61 : decode cX4_findCases 61 = .ok (.lconst 1, 1) := by decide +kernel
theorem dX4_findCases_62 : decode cX4_findCases 62 = .ok (.iload_n 2, 1) := by decide +kernel
theorem dX4_findCases_63 : decode cX4_findCases 63 = .ok (.lshl, 1) := by decide +kernel
theorem dX4_findCases_64 : decode cX4_findCases 64 = .ok (.lor, 1) := by decide +kernel
theorem dX4_findCases_65 : decode cX4_findCases 65 = .ok (.putfield 38, 3) := by decide +kernel
theorem dX4_findCases_68 : decode cX4_findCases 68 = .ok (.aload_n 0, 1) := by decide +kernel
theorem dX4_findCases_69 : decode cX4_findCases 69 = .ok (.dup, 1) := by decide +kernel
theorem dX4_findCases_70 : decode cX4_findCases 70 = .ok (.getfield 73, 3) := by decide +kernel
theorem dX4_findCases_73 : decode cX4_findCases 73 = .ok (.iconst 1, 1) := by decide +kernel
theorem dX4_findCases_74 : decode cX4_findCases 74 = .ok (.iadd, 1) := by decide +kernel
theorem dX4_findCases_75 : decode cX4_findCases 75 = .ok (.putfield 73, 3) := by decide +kernel
theorem dX4_findCases_78 : decode cX4_findCases 78 = .ok (.iinc 2 1, 3) := by decide +kernel
theorem dX4_findCases_81 : decode cX4_findCases 81 = .ok (.goto (-69), 3) := by decide +kernel
theorem dX4_findCases_84 : decode cX4_findCases 84 = .ok (.return_, 1) := by decide +kernel
set_option maxRecDepth 20000 in
theorem ggX4_allFollows_X5_has : GoodIn wsX4_allFollows wsX5_has := goodIn_r _ [6] (by decide +kernel) (by decide +kernel)
set_option maxRecDepth 20000 in
theorem gX4_allFollows_X5_has_n65 : GoodIn wsX4_allFollows (wsX5_has) := ggX4_allFollows_X5_has
theorem dX4_allFollows_0 : decode cX4_allFollows 0 = .ok (.iconst 0, 1) := by decide +kernel
theorem dX4_allFollows_1 : decode cX4_allFollows 1 = .ok (.istore_n 3, 1) := by decide +kernel
theorem dX4_allFollows_2 : decode cX4_allFollows 2 = .ok (.iload_n 3, 1) := by decide +kernel
theorem dX4_allFollows_3 : decode cX4_allFollows 3 = .ok (.aload_n 2, 1) := by decide +kernel
theorem dX4_allFollows_4 : decode cX4_allFollows 4 = .ok (.getfield 83, 3) := by decide +kernel
theorem dX4_allFollows_7 : decode cX4_allFollows 7 = .ok (.if_icmp .ge 42, 3) := by decide +kernel
theorem dX4_allFollows_10 : decode cX4_allFollows 10 = .ok (.iload_n 3, 1) := by decide +kernel
theorem dX4_allFollows_11 : decode cX4_allFollows 11 = .ok (.iconst 4, 1) := by decide +kernel
theorem dX4_allFollows_12 : decode cX4_allFollows 12 = .ok (.if_icmp .ge 37, 3) := by decide +kernel
theorem dX4_allFollows_15 : decode cX4_allFollows 15 = .ok (.iload_n 1, 1) := by decide +kernel
theorem dX4_allFollows_16 : decode cX4_allFollows 16 = .ok (.aload_n 2, 1) := by decide +kernel
theorem dX4_allFollows_17 : decode cX4_allFollows 17 = .ok (.getfield 86, 3) := by decide +kernel
theorem dX4_allFollows_20 : decode cX4_allFollows 20 = .ok (.iload_n 3, 1) := by decide +kernel
theorem dX4_allFollows_21 : decode cX4_allFollows 21 = .ok (.iaload, 1) := by decide +kernel
theorem dX4_allFollows_22 : decode cX4_allFollows 22 = .ok (.invokestatic 65, 3) := by decide +kernel
theorem dX4_allFollows_25 : decode cX4_allFollows 25 = .ok (.ifCond .eq 18, 3) := by decide +kernel
theorem dX4_allFollows_28 : decode cX4_allFollows 28 = .ok (.iload_n 1, 1) := by decide +kernel
theorem dX4_allFollows_29 : decode cX4_allFollows 29 = .ok (.aload_n 2, 1) := by decide +kernel
theorem dX4_allFollows_30 : decode cX4_allFollows 30 = .ok (.getfield 89, 3) := by decide +kernel
theorem dX4_allFollows_33 : decode cX4_allFollows 33 = .ok (.iload_n 3, 1) := by decide +kernel
theorem dX4_allFollows_34 : decode cX4_allFollows 34 = .ok (.iaload, 1) := by decide +kernel
theorem dX4_allFollows_35 : decode cX4_allFollows 35 = .ok (.invokestatic 65, 3) := by decide +kernel
theorem dX4_allFollows_38 : decode cX4_allFollows 38 = .ok (.ifCond .ne 5, 3) := by decide +kernel
theorem dX4_allFollows_41 : decode cX4_allFollows 41 = .ok (.iconst 0, 1) := by decide +kernel
theorem dX4_allFollows_42 : decode cX4_allFollows 42 = .ok (.ireturn, 1) := by decide +kernel
theorem dX4_allFollows_43 : decode cX4_allFollows 43 = .ok (.iinc 3 1, 3) := by decide +kernel
theorem dX4_allFollows_46 : decode cX4_allFollows 46 = .ok (.goto (-44), 3) := by decide +kernel
theorem dX4_allFollows_49 : decode cX4_allFollows 49 = .ok (.iconst 1, 1) := by decide +kernel
theorem dX4_allFollows_50 : decode cX4_allFollows 50 = .ok (.ireturn, 1) := by decide +kernel
set_option maxRecDepth 20000 in
theorem ggX4_weigh_X5_has : GoodIn wsX4_weigh wsX5_has := goodIn_r _ [5] (by decide +kernel) (by decide +kernel)
set_option maxRecDepth 20000 in
theorem gX4_weigh_X5_has_n65 : GoodIn wsX4_weigh (wsX5_has) := ggX4_weigh_X5_has
theorem dX4_weigh_0 : decode cX4_weigh 0 = .ok (.iconst 1, 1) := by decide +kernel
theorem dX4_weigh_1 : decode cX4_weigh 1 = .ok (.istore_n 2, 1) := by decide +kernel
theorem dX4_weigh_2 : decode cX4_weigh 2 = .ok (.iconst 0, 1) := by decide +kernel
theorem dX4_weigh_3 : decode cX4_weigh 3 = .ok (.istore_n 3, 1) := by decide +kernel
theorem dX4_weigh_4 : decode cX4_weigh 4 = .ok (.iload_n 3, 1) := by decide +kernel
theorem dX4_weigh_5 : decode cX4_weigh 5 = .ok (.aload_n 0, 1) := by decide +kernel
theorem dX4_weigh_6 : decode cX4_weigh 6 = .ok (.getfield 30, 3) := by decide +kernel
theorem dX4_weigh_9 : decode cX4_weigh 9 = .ok (.if_icmp .ge 44, 3) := by decide +kernel
theorem dX4_weigh_12 : decode cX4_weigh 12 = .ok (.iload_n 3, 1) := by decide +kernel
theorem dX4_weigh_13 : decode cX4_weigh 13 = .ok (.bipush 6, 2) := by decide +kernel
theorem dX4_weigh_15 : decode cX4_weigh 15 = .ok (.if_icmp .ge 38, 3) := by decide +kernel
theorem dX4_weigh_18 : decode cX4_weigh 18 = .ok (.iload_n 2, 1) := by decide +kernel
theorem dX4_weigh_19 : decode cX4_weigh 19 = .ok (.iload_n 1, 1) := by decide +kernel
theorem dX4_weigh_20 : decode cX4_weigh 20 = .ok (.iload_n 3, 1) := by decide +kernel
theorem dX4_weigh_21 : decode cX4_weigh 21 = .ok (.invokestatic 65, 3) := by decide +kernel
theorem dX4_weigh_24 : decode cX4_weigh 24 = .ok (.ifCond .eq 12, 3) := by decide +kernel
theorem dX4_weigh_27 : decode cX4_weigh 27 = .ok (.aload_n 0, 1) := by decide +kernel
theorem dX4_weigh_28 : decode cX4_weigh 28 = .ok (.getfield 15, 3) := by decide +kernel
theorem dX4_weigh_31 : decode cX4_weigh 31 = .ok (.iload_n 3, 1) := by decide +kernel
theorem dX4_weigh_32 : decode cX4_weigh 32 = .ok (.iaload, 1) := by decide +kernel
theorem dX4_weigh_33 : decode cX4_weigh 33 = .ok (.goto 12, 3) := by decide +kernel
theorem dX4_weigh_36 : decode cX4_weigh 36 = .ok (.bipush 10, 2) := by decide +kernel
theorem dX4_weigh_38 : decode cX4_weigh 38 = .ok (.aload_n 0, 1) := by decide +kernel
theorem dX4_weigh_39 : decode cX4_weigh 39 = .ok (.getfield 15, 3) := by decide +kernel
theorem dX4_weigh_42 : decode cX4_weigh 42 = .ok (.iload_n 3, 1) := by decide +kernel
theorem dX4_weigh_43 : decode cX4_weigh 43 = .ok (.iaload, 1) := by decide +kernel
theorem dX4_weigh_44 : decode cX4_weigh 44 = .ok (.isub, 1) := by decide +kernel
theorem dX4_weigh_45 : decode cX4_weigh 45 = .ok (.imul, 1) := by decide +kernel
theorem dX4_weigh_46 : decode cX4_weigh 46 = .ok (.istore_n 2, 1) := by decide +kernel
theorem dX4_weigh_47 : decode cX4_weigh 47 = .ok (.iinc 3 1, 3) := by decide +kernel
theorem dX4_weigh_50 : decode cX4_weigh 50 = .ok (.goto (-46), 3) := by decide +kernel
theorem dX4_weigh_53 : decode cX4_weigh 53 = .ok (.iload_n 2, 1) := by decide +kernel
theorem dX4_weigh_54 : decode cX4_weigh 54 = .ok (.ireturn, 1) := by decide +kernel
theorem dX4_orderThings_0 : decode cX4_orderThings 0 = .ok (.iconst 0, 1) := by decide +kernel
theorem dX4_orderThings_1 : decode cX4_orderThings 1 = .ok (.istore_n 1, 1) := by decide +kernel
theorem dX4_orderThings_2 : decode cX4_orderThings 2 = .ok (.iconst 0, 1) := by decide +kernel
theorem dX4_orderThings_3 : decode cX4_orderThings 3 = .ok (.istore_n 2, 1) := by decide +kernel
theorem dX4_orderThings_4 : decode cX4_orderThings 4 = .ok (.iload_n 2, 1) := by decide +kernel
theorem dX4_orderThings_5 : decode cX4_orderThings 5 = .ok (.iconst 2, 1) := by decide +kernel
theorem dX4_orderThings_6 : decode cX4_orderThings 6 = .ok (.if_icmp .ge 72, 3) := by decide +kernel
theorem dX4_orderThings_9 : decode cX4_orderThings 9 = .ok (.iconst 0, 1) := by decide +kernel
theorem dX4_orderThings_10 : decode cX4_orderThings 10 = .ok (.istore_n 3, 1) := by decide +kernel
theorem dX4_orderThings_11 : decode cX4_orderThings 11 = .ok (.iload_n 3, 1) := by decide +kernel
theorem dX4_orderThings_12 : decode cX4_orderThings 12 = .ok (.aload_n 0, 1) := by decide +kernel
theorem dX4_orderThings_13 : decode cX4_orderThings 13 = .ok (.getfield 30, 3) := by decide +kernel
theorem dX4_orderThings_16 : decode cX4_orderThings 16 = .ok (.if_icmp .ge 56, 3) := by decide +kernel
theorem dX4_orderThings_19 : decode cX4_orderThings 19 = .ok (.iload_n 1, 1) := by decide +kernel
theorem dX4_orderThings_20 : decode cX4_orderThings 20 = .ok (.bipush 6, 2) := by decide +kernel
theorem dX4_orderThings_22 : decode cX4_orderThings 22 = .ok (.if_icmp .ge 50, 3) := by decide +kernel
theorem dX4_orderThings_25 : decode cX4_orderThings 25 = .ok (.aload_n 0, 1) := by decide +kernel
theorem dX4_orderThings_26 : decode cX4_orderThings 26 = .ok (.getfield 9, 3) := by decide +kernel
theorem dX4_orderThings_29 : decode cX4_orderThings 29 = .ok (.iload_n 3, 1) := by decide +kernel
theorem dX4_orderThings_30 : decode cX4_orderThings 30 = .ok (.iaload, 1) := by decide +kernel
theorem dX4_orderThings_31 : decode cX4_orderThings 31 = .ok (.iconst 2, 1) := by decide +kernel
theorem dX4_orderThings_32 : decode cX4_orderThings 32 = .ok (.if_icmp .ne 7, 3) := by decide +kernel
theorem dX4_orderThings_35 : decode cX4_orderThings 35 = .ok (.iconst 1, 1) := by decide +kernel
theorem dX4_orderThings_36 : decode cX4_orderThings 36 = .ok (.goto 4, 3) := by decide +kernel
theorem dX4_orderThings_39 : decode cX4_orderThings 39 = .ok (.iconst 0, 1) := by decide +kernel
theorem dX4_orderThings_40 : decode cX4_orderThings 40 = .ok (.istore 4, 2) := by decide +kernel
theorem dX4_orderThings_42 : decode cX4_orderThings 42 = .ok (.iload 4, 2) := by decide +kernel
theorem dX4_orderThings_44 : decode cX4_orderThings 44 = .ok (.iload_n 2, 1) := by decide +kernel
theorem dX4_orderThings_45 : decode cX4_orderThings 45 = .ok (.ifCond .ne 7, 3) := by decide +kernel
theorem dX4_orderThings_48 : decode cX4_orderThings 48 = .ok (.iconst 1, 1) := by decide +kernel
theorem dX4_orderThings_49 : decode cX4_orderThings 49 = .ok (.goto 4, 3) := by decide +kernel
theorem dX4_orderThings_52 : decode cX4_orderThings 52 = .ok (.iconst 0, 1) := by decide +kernel
theorem dX4_orderThings_53 : decode cX4_orderThings 53 = .ok (.if_icmp .ne 13, 3) := by decide +kernel
theorem dX4_orderThings_56 : decode cX4_orderThings 56 = .ok (.aload_n 0, 1) := by decide +kernel
theorem dX4_orderThings_57 : decode cX4_orderThings 57 = .ok (.getfield 24, 3) := by decide +kernel
theorem dX4_orderThings_60 : decode cX4_orderThings 60 = .ok (.iload_n 1, 1) := by decide +kernel
theorem dX4_orderThings_61 : decode cX4_orderThings 61 = .ok (.iload_n 3, 1) := by decide +kernel
theorem dX4_orderThings_62 : decode cX4_orderThings 62 = .ok (.iastore, 1) := by decide +kernel
theorem dX4_orderThings_63 : decode cX4_orderThings 63 = .ok (.iinc 1 1, 3) := by decide +kernel
theorem dX4_orderThings_66 : decode cX4_orderThings 66 = .ok (.iinc 3 1, 3) := by decide +kernel
theorem dX4_orderThings_69 : decode cX4_orderThings 69 = .ok (.goto (-58), 3) := by decide +kernel
theorem dX4_orderThings_72 : decode cX4_orderThings 72 = .ok (.iinc 2 1, 3) := by decide +kernel
theorem dX4_orderThings_75 : decode cX4_orderThings 75 = .ok (.goto (-71), 3) := by decide +kernel
theorem dX4_orderThings_78 : decode cX4_orderThings 78 = .ok (.return_, 1) := by decide +kernel
set_option maxRecDepth 20000 in
theorem ggX4_fillCalls_X5_has : GoodIn wsX4_fillCalls wsX5_has := goodIn_r _ [6] (by decide +kernel) (by decide +kernel)
set_option maxRecDepth 20000 in
theorem gX4_fillCalls_X5_has_n65 : GoodIn wsX4_fillCalls (wsX5_has) := ggX4_fillCalls_X5_has
set_option maxRecDepth 20000 in
theorem ggX4_fillCalls_X5_wordsOfKind : GoodIn wsX4_fillCalls wsX5_wordsOfKind := goodIn_r _ [8] (by decide +kernel) (by decide +kernel)
set_option maxRecDepth 20000 in
theorem gX4_fillCalls_X5_wordsOfKind_n69 : GoodIn wsX4_fillCalls (wsX5_wordsOfKind) := ggX4_fillCalls_X5_wordsOfKind
set_option maxRecDepth 20000 in
theorem ggX4_fillCalls_X4_fillBreaths : GoodIn wsX4_fillCalls wsX4_fillBreaths := goodIn_r _ [13, 14, 15, 16, 17, 18, 19, 20, 21, 22, 23] (by decide +kernel) (by decide +kernel)
set_option maxRecDepth 20000 in
theorem gX4_fillCalls_X4_fillBreaths : GoodIn wsX4_fillCalls (wsV RX4 92 RX4 yX4_fillBreaths wsX4_fillBreaths) := goodIn_app (goodIn_of _ (by decide +kernel)) ggX4_fillCalls_X4_fillBreaths
theorem dX4_fillCalls_0 : decode cX4_fillCalls 0 = .ok (.iconst 0, 1) := by decide +kernel
theorem dX4_fillCalls_1 : decode cX4_fillCalls 1 = .ok (.istore_n 2, 1) := by decide +kernel
theorem dX4_fillCalls_2 : decode cX4_fillCalls 2 = .ok (.iconst 0, 1) := by decide +kernel
theorem dX4_fillCalls_3 : decode cX4_fillCalls 3 = .ok (.istore_n 3, 1) := by decide +kernel
theorem dX4_fillCalls_4 : decode cX4_fillCalls 4 = .ok (.iconst 0, 1) := by decide +kernel
theorem dX4_fillCalls_5 : decode cX4_fillCalls 5 = .ok (.istore 4, 2) := by decide +kernel
theorem dX4_fillCalls_7 : decode cX4_fillCalls 7 = .ok (.iload 4, 2) := by decide +kernel
theorem dX4_fillCalls_9 : decode cX4_fillCalls 9 = .ok (.aload_n 0, 1) := by decide +kernel
theorem dX4_fillCalls_10 : decode cX4_fillCalls 10 = .ok (.getfield 30, 3) := by decide +kernel
theorem dX4_fillCalls_13 : decode cX4_fillCalls 13 = .ok (.if_icmp .ge 67, 3) := by decide +kernel
theorem dX4_fillCalls_16 : decode cX4_fillCalls 16 = .ok (.iload 4, 2) := by decide +kernel
theorem dX4_fillCalls_18 : decode cX4_fillCalls 18 = .ok (.bipush 6, 2) := by decide +kernel
theorem dX4_fillCalls_20 : decode cX4_fillCalls 20 = .ok (.if_icmp .ge 60, 3) := by decide +kernel
theorem dX4_fillCalls_23 : decode cX4_fillCalls 23 = .ok (.aload_n 0, 1) := by decide +kernel
theorem dX4_fillCalls_24 : decode cX4_fillCalls 24 = .ok (.getfield 24, 3) := by decide +kernel
theorem dX4_fillCalls_27 : decode cX4_fillCalls 27 = .ok (.iload 4, 2) := by decide +kernel
theorem dX4_fillCalls_29 : decode cX4_fillCalls 29 = .ok (.iaload, 1) := by decide +kernel
theorem dX4_fillCalls_30 : decode cX4_fillCalls 30 = .ok (.istore 5, 2) := by decide +kernel
theorem dX4_fillCalls_32 : decode cX4_fillCalls 32 = .ok (.iload_n 1, 1) := by decide +kernel
theorem dX4_fillCalls_33 : decode cX4_fillCalls 33 = .ok (.iload 5, 2) := by decide +kernel
theorem dX4_fillCalls_35 : decode cX4_fillCalls 35 = .ok (.invokestatic 65, 3) := by decide +kernel
theorem dX4_fillCalls_38 : decode cX4_fillCalls 38 = .ok (.ifCond .eq 36, 3) := by decide +kernel
theorem dX4_fillCalls_41 : decode cX4_fillCalls 41 = .ok (.iload_n 3, 1) := by decide +kernel
theorem dX4_fillCalls_42 : decode cX4_fillCalls 42 = .ok (.aload_n 0, 1) := by decide +kernel
theorem dX4_fillCalls_43 : decode cX4_fillCalls 43 = .ok (.getfield 9, 3) := by decide +kernel
theorem dX4_fillCalls_46 : decode cX4_fillCalls 46 = .ok (.iload 5, 2) := by decide +kernel
theorem dX4_fillCalls_48 : decode cX4_fillCalls 48 = .ok (.iaload, 1) := by decide +kernel
theorem dX4_fillCalls_49 : decode cX4_fillCalls 49 = .ok (.invokestatic 69, 3) := by decide +kernel
theorem dX4_fillCalls_52 : decode cX4_fillCalls 52 = .ok (.iadd, 1) := by decide +kernel
theorem dX4_fillCalls_53 : decode cX4_fillCalls 53 = .ok (.istore 6, 2) := by decide +kernel
theorem dX4_fillCalls_55 : decode cX4_fillCalls 55 = .ok (.aload_n 0, 1) := by decide +kernel
theorem dX4_fillCalls_56 : decode cX4_fillCalls 56 = .ok (.iload_n 1, 1) := by decide +kernel
theorem dX4_fillCalls_57 : decode cX4_fillCalls 57 = .ok (.iload_n 2, 1) := by decide +kernel
theorem dX4_fillCalls_58 : decode cX4_fillCalls 58 = .ok (.iload_n 3, 1) := by decide +kernel
theorem dX4_fillCalls_59 : decode cX4_fillCalls 59 = .ok (.iload 6, 2) := by decide +kernel
theorem dX4_fillCalls_61 : decode cX4_fillCalls 61 = .ok (.invokevirtual 92, 3) := by decide +kernel
theorem dX4_fillCalls_64 : decode cX4_fillCalls 64 = .ok (.iload_n 2, 1) := by decide +kernel
theorem dX4_fillCalls_65 : decode cX4_fillCalls 65 = .ok (.iconst 1, 1) := by decide +kernel
theorem dX4_fillCalls_66 : decode cX4_fillCalls 66 = .ok (.iload 5, 2) := by decide +kernel
theorem dX4_fillCalls_68 : decode cX4_fillCalls 68 = .ok (.ishl, 1) := by decide +kernel
theorem dX4_fillCalls_69 : decode cX4_fillCalls 69 = .ok (.ior, 1) := by decide +kernel
theorem dX4_fillCalls_70 : decode cX4_fillCalls 70 = .ok (.istore_n 2, 1) := by decide +kernel
theorem dX4_fillCalls_71 : decode cX4_fillCalls 71 = .ok (.iload 6, 2) := by decide +kernel
theorem dX4_fillCalls_73 : decode cX4_fillCalls 73 = .ok (.istore_n 3, 1) := by decide +kernel
theorem dX4_fillCalls_74 : decode cX4_fillCalls 74 = .ok (.iinc 4 1, 3) := by decide +kernel
theorem dX4_fillCalls_77 : decode cX4_fillCalls 77 = .ok (.goto (-70), 3) := by decide +kernel
theorem dX4_fillCalls_80 : decode cX4_fillCalls 80 = .ok (.aload_n 0, 1) := by decide +kernel
theorem dX4_fillCalls_81 : decode cX4_fillCalls 81 = .ok (.iload_n 1, 1) := by decide +kernel
theorem dX4_fillCalls_82 : decode cX4_fillCalls 82 = .ok (.iload_n 2, 1) := by decide +kernel
theorem dX4_fillCalls_83 : decode cX4_fillCalls 83 = .ok (.iload_n 3, 1) := by decide +kernel
theorem dX4_fillCalls_84 : decode cX4_fillCalls 84 = .ok (.bipush 19, 2) := by decide +kernel
theorem dX4_fillCalls_86 : decode cX4_fillCalls 86 = .ok (.invokevirtual 92, 3) := by decide +kernel
theorem dX4_fillCalls_89 : decode cX4_fillCalls 89 = .ok (.return_, 1) := by decide +kernel
theorem dX4_fillBreaths_0 : decode cX4_fillBreaths 0 = .ok (.iload_n 3, 1) := by decide +kernel
theorem dX4_fillBreaths_1 : decode cX4_fillBreaths 1 = .ok (.istore 5, 2) := by decide +kernel
theorem dX4_fillBreaths_3 : decode cX4_fillBreaths 3 = .ok (.iload 5, 2) := by decide +kernel
theorem dX4_fillBreaths_5 : decode cX4_fillBreaths 5 = .ok (.iload 4, 2) := by decide +kernel
theorem dX4_fillBreaths_7 : decode cX4_fillBreaths 7 = .ok (.if_icmp .ge 29, 3) := by decide +kernel
theorem dX4_fillBreaths_10 : decode cX4_fillBreaths 10 = .ok (.iload 5, 2) := by decide +kernel
theorem dX4_fillBreaths_12 : decode cX4_fillBreaths 12 = .ok (.bipush 18, 2) := by decide +kernel
theorem dX4_fillBreaths_14 : decode cX4_fillBreaths 14 = .ok (.if_icmp .gt 22, 3) := by decide +kernel
theorem dX4_fillBreaths_17 : decode cX4_fillBreaths 17 = .ok (.aload_n 0, 1) := by decide +kernel
theorem dX4_fillBreaths_18 : decode cX4_fillBreaths 18 = .ok (.getfield 27, 3) := by decide +kernel
theorem dX4_fillBreaths_21 : decode cX4_fillBreaths 21 = .ok (.iload 5, 2) := by decide +kernel
theorem dX4_fillBreaths_23 : decode cX4_fillBreaths 23 = .ok (.bipush 64, 2) := by decide +kernel
theorem dX4_fillBreaths_25 : decode cX4_fillBreaths 25 = .ok (.imul, 1) := by decide +kernel
theorem dX4_fillBreaths_26 : decode cX4_fillBreaths 26 = .ok (.iload_n 1, 1) := by decide +kernel
theorem dX4_fillBreaths_27 : decode cX4_fillBreaths 27 = .ok (.iadd, 1) := by decide +kernel
theorem dX4_fillBreaths_28 : decode cX4_fillBreaths 28 = .ok (.iload_n 2, 1) := by decide +kernel
theorem dX4_fillBreaths_29 : decode cX4_fillBreaths 29 = .ok (.iastore, 1) := by decide +kernel
theorem dX4_fillBreaths_30 : decode cX4_fillBreaths 30 = .ok (.iinc 5 1, 3) := by decide +kernel
theorem dX4_fillBreaths_33 : decode cX4_fillBreaths 33 = .ok (.goto (-30), 3) := by decide +kernel
theorem dX4_fillBreaths_36 : decode cX4_fillBreaths 36 = .ok (.return_, 1) := by decide +kernel
set_option maxRecDepth 20000 in
theorem ggX5_init_X2_init : GoodIn wsX5_init wsX2_init := goodIn_r _ [32, 33, 2, 3, 24, 34, 35, 36, 75, 76, 77] (by decide +kernel) (by decide +kernel)
set_option maxRecDepth 20000 in
theorem gX5_init_X2_init : GoodIn wsX5_init (wsX2_init) := ggX5_init_X2_init
set_option maxRecDepth 20000 in
theorem ggX5_init_X3_init : GoodIn wsX5_init wsX3_init := goodIn_r _ [39, 40, 2, 3, 24, 41, 42, 43, 44, 88, 89, 90, 91, 92, 93, 94] (by decide +kernel) (by decide +kernel)
set_option maxRecDepth 20000 in
theorem gX5_init_X3_init : GoodIn wsX5_init (wsX3_init) := ggX5_init_X3_init
set_option maxRecDepth 20000 in
theorem ggX5_init_X4_init : GoodIn wsX5_init wsX4_init := goodIn_r _ [47, 48, 2, 3, 24, 49, 50, 51, 52, 53, 54, 95, 96, 97, 98, 99, 100, 101, 102, 103] (by decide +kernel) (by decide +kernel)
set_option maxRecDepth 20000 in
theorem gX5_init_X4_init : GoodIn wsX5_init (wsX4_init) := ggX5_init_X4_init
set_option maxRecDepth 20000 in
theorem ggX5_init_X0_init : GoodIn wsX5_init wsX0_init := goodIn_r _ [57, 58, 2, 3, 59, 60, 24, 61, 62, 104, 105, 106, 107, 108] (by decide +kernel) (by decide +kernel)
set_option maxRecDepth 20000 in
theorem gX5_init_X0_init : GoodIn wsX5_init (wsX0_init) := ggX5_init_X0_init
set_option maxRecDepth 20000 in
theorem ggX5_init_X1_init : GoodIn wsX5_init wsX1_init := goodIn_r _ [65, 66, 2, 3, 24, 67, 68, 69, 109, 110, 111, 112] (by decide +kernel) (by decide +kernel)
set_option maxRecDepth 20000 in
theorem gX5_init_X1_init : GoodIn wsX5_init (wsX1_init) := ggX5_init_X1_init
set_option maxRecDepth 20000 in
theorem ggX5_init_X5_makeHoursAnew : GoodIn wsX5_init wsX5_makeHoursAnew := goodIn_r _ [74, 25, 26, 27, 78, 79, 80, 81, 82, 83, 84, 85, 86, 87] (by decide +kernel) (by decide +kernel)
set_option maxRecDepth 20000 in
theorem gX5_init_X5_makeHoursAnew : GoodIn wsX5_init (wsV RX5 63 RX5 yX5_makeHoursAnew wsX5_makeHoursAnew) := goodIn_app (goodIn_of _ (by decide +kernel)) ggX5_init_X5_makeHoursAnew
theorem dX5_init_0 : decode cX5_init 0 = .ok (.aload_n 0, 1) := by decide +kernel
theorem dX5_init_1 : decode cX5_init 1 = .ok (.invokespecial 3, 3) := by decide +kernel
theorem dX5_init_4 : decode cX5_init 4 = .ok (.aload_n 0, 1) := by decide +kernel
theorem dX5_init_5 : decode cX5_init 5 = .ok (.new 9, 3) := by decide +kernel
theorem dX5_init_8 : decode cX5_init 8 = .ok (.dup, 1) := by decide +kernel
theorem dX5_init_9 : decode cX5_init 9 = .ok (.invokespecial 11, 3) := by decide +kernel
theorem dX5_init_12 : decode cX5_init 12 = .ok (.putfield 12, 3) := by decide +kernel
theorem dX5_init_15 : decode cX5_init 15 = .ok (.aload_n 0, 1) := by decide +kernel
theorem dX5_init_16 : decode cX5_init 16 = .ok (.new 18, 3) := by decide +kernel
theorem dX5_init_19 : decode cX5_init 19 = .ok (.dup, 1) := by decide +kernel
theorem dX5_init_20 : decode cX5_init 20 = .ok (.invokespecial 20, 3) := by decide +kernel
theorem dX5_init_23 : decode cX5_init 23 = .ok (.putfield 21, 3) := by decide +kernel
theorem dX5_init_26 : decode cX5_init 26 = .ok (.aload_n 0, 1) := by decide +kernel
theorem dX5_init_27 : decode cX5_init 27 = .ok (.new 25, 3) := by decide +kernel
theorem dX5_init_30 : decode cX5_init 30 = .ok (.dup, 1) := by decide +kernel
theorem dX5_init_31 : decode cX5_init 31 = .ok (.invokespecial 27, 3) := by decide +kernel
theorem dX5_init_34 : decode cX5_init 34 = .ok (.putfield 28, 3) := by decide +kernel
theorem dX5_init_37 : decode cX5_init 37 = .ok (.aload_n 0, 1) := by decide +kernel
theorem dX5_init_38 : decode cX5_init 38 = .ok (.new 32, 3) := by decide +kernel
theorem dX5_init_41 : decode cX5_init 41 = .ok (.dup, 1) := by decide +kernel
theorem dX5_init_42 : decode cX5_init 42 = .ok (.invokespecial 34, 3) := by decide +kernel
theorem dX5_init_45 : decode cX5_init 45 = .ok (.putfield 35, 3) := by decide +kernel
theorem dX5_init_48 : decode cX5_init 48 = .ok (.aload_n 0, 1) := by decide +kernel
theorem dX5_init_49 : decode cX5_init 49 = .ok (.new 39, 3) := by decide +kernel
theorem dX5_init_52 : decode cX5_init 52 = .ok (.dup, 1) := by decide +kernel
theorem dX5_init_53 : decode cX5_init 53 = .ok (.invokespecial 41, 3) := by decide +kernel
theorem dX5_init_56 : decode cX5_init 56 = .ok (.putfield 42, 3) := by decide +kernel
theorem dX5_init_59 : decode cX5_init 59 = .ok (.aload_n 0, 1) := by decide +kernel
theorem dX5_init_60 : decode cX5_init 60 = .ok (.bipush 6, 2) := by decide +kernel
theorem dX5_init_62 : decode cX5_init 62 = .ok (.newarray .int, 2) := by decide +kernel
theorem dX5_init_64 : decode cX5_init 64 = .ok (.putfield 46, 3) := by decide +kernel
theorem dX5_init_67 : decode cX5_init 67 = .ok (.aload_n 0, 1) := by decide +kernel
theorem dX5_init_68 : decode cX5_init 68 = .ok (.bipush 6, 2) := by decide +kernel
theorem dX5_init_70 : decode cX5_init 70 = .ok (.newarray .int, 2) := by decide +kernel
theorem dX5_init_72 : decode cX5_init 72 = .ok (.putfield 50, 3) := by decide +kernel
theorem dX5_init_75 : decode cX5_init 75 = .ok (.aload_n 0, 1) := by decide +kernel
theorem dX5_init_76 : decode cX5_init 76 = .ok (.bipush 6, 2) := by decide +kernel
theorem dX5_init_78 : decode cX5_init 78 = .ok (.newarray .int, 2) := by decide +kernel
theorem dX5_init_80 : decode cX5_init 80 = .ok (.putfield 53, 3) := by decide +kernel
theorem dX5_init_83 : decode cX5_init 83 = .ok (.aload_n 0, 1) := by decide +kernel
theorem dX5_init_84 : decode cX5_init 84 = .ok (.iconst 0, 1) := by decide +kernel
theorem dX5_init_85 : decode cX5_init 85 = .ok (.putfield 56, 3) := by decide +kernel
theorem dX5_init_88 : decode cX5_init 88 = .ok (.aload_n 0, 1) := by decide +kernel
theorem dX5_init_89 : decode cX5_init 89 = .ok (.iconst 0, 1) := by decide +kernel
theorem dX5_init_90 : decode cX5_init 90 = .ok (.putfield 60, 3) := by decide +kernel
theorem dX5_init_93 : decode cX5_init 93 = .ok (.aload_n 0, 1) := by decide +kernel
theorem dX5_init_94 : decode cX5_init 94 = .ok (.invokevirtual 63, 3) := by decide +kernel
theorem dX5_init_97 : decode cX5_init 97 = .ok (.return_, 1) := by decide +kernel
set_option maxRecDepth 20000 in
theorem ggX5_town_X5_refusalOfCells : GoodIn wsX5_town wsX5_refusalOfCells := goodIn_r _ [11, 12, 2, 13, 14, 15, 16, 17, 18, 19, 10, 20, 21, 22, 23, 24, 25, 26, 27, 28, 29, 30, 31, 32, 33, 34, 35, 36, 37, 38, 151, 152, 153, 154, 155, 156, 157, 158, 159, 160, 174, 175, 176] (by decide +kernel) (by decide +kernel)
set_option maxRecDepth 20000 in
theorem gX5_town_X5_refusalOfCells : GoodIn wsX5_town (wsV RX5 66 RX5 yX5_refusalOfCells wsX5_refusalOfCells) := goodIn_app (goodIn_of _ (by decide +kernel)) ggX5_town_X5_refusalOfCells
set_option maxRecDepth 20000 in
theorem ggX5_town_X3_firstFault : GoodIn wsX5_town wsX3_firstFault := goodIn_r _ [43, 44, 45, 46, 47, 48, 49, 16, 50, 51, 52, 53, 54, 55, 38, 56, 57, 58, 42, 59, 60, 61, 62, 63, 64, 65, 66, 67, 68, 69, 70, 71, 72, 73, 74, 75, 76, 77, 78, 79, 80, 81, 82, 83, 84, 85, 86, 87, 88, 89, 90, 91, 177, 178, 179, 180, 181, 182, 183, 174, 175, 176] (by decide +kernel) (by decide +kernel)
set_option maxRecDepth 20000 in
theorem gX5_town_X3_firstFault : GoodIn wsX5_town (wsV RX5 70 RX3 yX3_firstFault wsX3_firstFault) := goodIn_app (goodIn_of _ (by decide +kernel)) ggX5_town_X3_firstFault
set_option maxRecDepth 20000 in
theorem ggX5_town_X4_build : GoodIn wsX5_town wsX4_build := goodIn_r _ [96, 97, 98, 99, 100, 101, 102, 103, 104, 105, 95, 106, 107, 108, 109, 110, 111, 112, 113, 114, 115, 116, 117, 118, 119, 120, 121, 122, 10, 123, 124, 125, 126, 127, 128, 129, 130, 131, 132, 133, 134, 135, 136, 137, 138, 139, 140, 141, 142, 143, 177, 178, 179, 180, 181, 182, 183, 165, 166, 167, 168, 169, 170, 171, 172, 173] (by decide +kernel) (by decide +kernel)
set_option maxRecDepth 20000 in
theorem gX5_town_X4_build : GoodIn wsX5_town (wsV RX5 74 RX4 yX4_build wsX4_build) := goodIn_app (goodIn_of _ (by decide +kernel)) ggX5_town_X4_build
set_option maxRecDepth 20000 in
theorem ggX5_town_X5_makeHoursAnew : GoodIn wsX5_town wsX5_makeHoursAnew := goodIn_r _ [147, 148, 149, 150, 151, 152, 153, 154, 155, 156, 157, 158, 159, 160] (by decide +kernel) (by decide +kernel)
set_option maxRecDepth 20000 in
theorem gX5_town_X5_makeHoursAnew : GoodIn wsX5_town (wsV RX5 63 RX5 yX5_makeHoursAnew wsX5_makeHoursAnew) := goodIn_app (goodIn_of _ (by decide +kernel)) ggX5_town_X5_makeHoursAnew
theorem dX5_town_0 : decode cX5_town 0 = .ok (.aload_n 0, 1) := by decide +kernel
theorem dX5_town_1 : decode cX5_town 1 = .ok (.iload_n 1, 1) := by decide +kernel
theorem dX5_town_2 : decode cX5_town 2 = .ok (.iload_n 2, 1) := by decide +kernel
theorem dX5_town_3 : decode cX5_town 3 = .ok (.iload_n 3, 1) := by decide +kernel
theorem dX5_town_4 : decode cX5_town 4 = .ok (.iload 4, 2) := by decide +kernel
theorem dX5_town_6 : decode cX5_town 6 = .ok (.invokevirtual 66, 3) := by decide +kernel
theorem dX5_town_9 : decode cX5_town 9 = .ok (.istore 5, 2) := by decide +kernel
theorem dX5_town_11 : decode cX5_town 11 = .ok (.iload 5, 2) := by decide +kernel
theorem dX5_town_13 : decode cX5_town 13 = .ok (.ifCond .eq 6, 3) := by decide +kernel
theorem dX5_town_16 : decode cX5_town 16 = .ok (.iload 5, 2) := by decide +kernel
theorem dX5_town_18 : decode cX5_town 18 = .ok (.ireturn, 1) := by decide +kernel
theorem dX5_town_19 : decode cX5_town 19 = .ok (.aload_n 0, 1) := by decide +kernel
theorem dX5_town_20 : decode cX5_town 20 = .ok (.getfield 21, 3) := by decide +kernel
theorem dX5_town_23 : decode cX5_town 23 = .ok (.aload_n 0, 1) := by decide +kernel
theorem dX5_town_24 : decode cX5_town 24 = .ok (.getfield 12, 3) := by decide +kernel
theorem dX5_town_27 : decode cX5_town 27 = .ok (.iload_n 1, 1) := by decide +kernel
theorem dX5_town_28 : decode cX5_town 28 = .ok (.iload_n 3, 1) := by decide +kernel
theorem dX5_town_29 : decode cX5_town 29 = .ok (.iload 4, 2) := by decide +kernel
theorem dX5_town_31 : decode cX5_town 31 = .ok (.invokevirtual 70, 3) := by decide +kernel
theorem dX5_town_34 : decode cX5_town 34 = .ok (.istore 6, 2) := by decide +kernel
theorem dX5_town_36 : decode cX5_town 36 = .ok (.iload 6, 2) := by decide +kernel
theorem dX5_town_38 : decode cX5_town 38 = .ok (.iconst (-1), 1) := by decide +kernel
theorem dX5_town_39 : decode cX5_town 39 = .ok (.if_icmp .eq 9, 3) := by decide +kernel
theorem dX5_town_42 : decode cX5_town 42 = .ok (.bipush (-100), 2) := by decide +kernel
theorem dX5_town_44 : decode cX5_town 44 = .ok (.iload 6, 2) := by decide +kernel
theorem dX5_town_46 : decode cX5_town 46 = .ok (.isub, 1) := by decide +kernel
theorem dX5_town_47 : decode cX5_town 47 = .ok (.ireturn, 1) := by decide +kernel
theorem dX5_town_48 : decode cX5_town 48 = .ok (.aload_n 0, 1) := by decide +kernel
theorem dX5_town_49 : decode cX5_town 49 = .ok (.getfield 28, 3) := by decide +kernel
theorem dX5_town_52 : decode cX5_town 52 = .ok (.aload_n 0, 1) := by decide +kernel
theorem dX5_town_53 : decode cX5_town 53 = .ok (.getfield 21, 3) := by decide +kernel
theorem dX5_town_56 : decode cX5_town 56 = .ok (.invokevirtual 74, 3) := by decide +kernel
theorem dX5_town_59 : decode cX5_town 59 = .ok (.aload_n 0, 1) := by decide +kernel
theorem dX5_town_60 : decode cX5_town 60 = .ok (.invokevirtual 63, 3) := by decide +kernel
theorem dX5_town_63 : decode cX5_town 63 = .ok (.aload_n 0, 1) := by decide +kernel
theorem dX5_town_64 : decode cX5_town 64 = .ok (.getfield 42, 3) := by decide +kernel
theorem dX5_town_67 : decode cX5_town 67 = .ok (.iconst 0, 1) := by decide +kernel
theorem dX5_town_68 : decode cX5_town 68 = .ok (.putfield 78, 3) := by decide +kernel
theorem dX5_town_71 : decode cX5_town 71 = .ok (.aload_n 0, 1) := by decide +kernel
theorem dX5_town_72 : decode cX5_town 72 = .ok (.getfield 28, 3) := by decide +kernel
theorem dX5_town_75 : decode cX5_town 75 = .ok (.getfield 81, 3) := by decide +kernel
theorem dX5_town_78 : decode cX5_town 78 = .ok (.ireturn, 1) := by decide +kernel
set_option maxRecDepth 20000 in
theorem ggX5_ofThing_X4_isThing : GoodIn wsX5_ofThing wsX4_isThing := goodIn_r _ [8, 9, 24, 25, 26, 27, 28, 29, 30, 31, 32] (by decide +kernel) (by decide +kernel)
set_option maxRecDepth 20000 in
theorem gX5_ofThing_X4_isThing : GoodIn wsX5_ofThing (wsV RX5 84 RX4 yX4_isThing wsX4_isThing) := goodIn_app (goodIn_of _ (by decide +kernel)) ggX5_ofThing_X4_isThing
set_option maxRecDepth 20000 in
theorem ggX5_ofThing_X5_wordsOfKind : GoodIn wsX5_ofThing wsX5_wordsOfKind := goodIn_r _ [13] (by decide +kernel) (by decide +kernel)
set_option maxRecDepth 20000 in
theorem gX5_ofThing_X5_wordsOfKind : GoodIn wsX5_ofThing (va_wsS RX5 94 yX5_wordsOfKind wsX5_wordsOfKind) := goodIn_app (goodIn_of _ (by decide +kernel)) ggX5_ofThing_X5_wordsOfKind
theorem dX5_ofThing_0 : decode cX5_ofThing 0 = .ok (.aload_n 0, 1) := by decide +kernel
theorem dX5_ofThing_1 : decode cX5_ofThing 1 = .ok (.getfield 28, 3) := by decide +kernel
theorem dX5_ofThing_4 : decode cX5_ofThing 4 = .ok (.iload_n 1, 1) := by decide +kernel
theorem dX5_ofThing_5 : decode cX5_ofThing 5 = .ok (.invokevirtual 84, 3) := by decide +kernel
theorem dX5_ofThing_8 : decode cX5_ofThing 8 = .ok (.ifCond .ne 5, 3) := by decide +kernel
theorem dX5_ofThing_11 : decode cX5_ofThing 11 = .ok (.iconst (-1), 1) := by decide +kernel
theorem dX5_ofThing_12 : decode cX5_ofThing 12 = .ok (.ireturn, 1) := by decide +kernel
theorem dX5_ofThing_13 : decode cX5_ofThing 13 = .ok (.iload_n 2, 1) := by decide +kernel
theorem dX5_ofThing_14 : decode cX5_ofThing 14 = .ok (.ifCond .ne 13, 3) := by decide +kernel
theorem dX5_ofThing_17 : decode cX5_ofThing 17 = .ok (.aload_n 0, 1) := by decide +kernel
theorem dX5_ofThing_18 : decode cX5_ofThing 18 = .ok (.getfield 28, 3) := by decide +kernel
theorem dX5_ofThing_21 : decode cX5_ofThing 21 = .ok (.getfield 88, 3) := by decide +kernel
theorem dX5_ofThing_24 : decode cX5_ofThing 24 = .ok (.iload_n 1, 1) := by decide +kernel
theorem dX5_ofThing_25 : decode cX5_ofThing 25 = .ok (.iaload, 1) := by decide +kernel
theorem dX5_ofThing_26 : decode cX5_ofThing 26 = .ok (.ireturn, 1) := by decide +kernel
theorem dX5_ofThing_27 : decode cX5_ofThing 27 = .ok (.iload_n 2, 1) := by decide +kernel
theorem dX5_ofThing_28 : decode cX5_ofThing 28 = .ok (.iconst 1, 1) := by decide +kernel
theorem dX5_ofThing_29 : decode cX5_ofThing 29 = .ok (.if_icmp .ne 13, 3) := by decide +kernel
theorem dX5_ofThing_32 : decode cX5_ofThing 32 = .ok (.aload_n 0, 1) := by decide +kernel
theorem dX5_ofThing_33 : decode cX5_ofThing 33 = .ok (.getfield 28, 3) := by decide +kernel
theorem dX5_ofThing_36 : decode cX5_ofThing 36 = .ok (.getfield 91, 3) := by decide +kernel
theorem dX5_ofThing_39 : decode cX5_ofThing 39 = .ok (.iload_n 1, 1) := by decide +kernel
theorem dX5_ofThing_40 : decode cX5_ofThing 40 = .ok (.iaload, 1) := by decide +kernel
theorem dX5_ofThing_41 : decode cX5_ofThing 41 = .ok (.ireturn, 1) := by decide +kernel
theorem dX5_ofThing_42 : decode cX5_ofThing 42 = .ok (.iload_n 2, 1) := by decide +kernel
theorem dX5_ofThing_43 : decode cX5_ofThing 43 = .ok (.iconst 2, 1) := by decide +kernel
theorem dX5_ofThing_44 : decode cX5_ofThing 44 = .ok (.if_icmp .ne 18, 3) := by decide +kernel
theorem dX5_ofThing_47 : decode cX5_ofThing 47 = .ok (.aload_n 0, 1) := by decide +kernel
theorem dX5_ofThing_48 : decode cX5_ofThing 48 = .ok (.getfield 28, 3) := by decide +kernel
theorem dX5_ofThing_51 : decode cX5_ofThing 51 = .ok (.getfield 88, 3) := by decide +kernel
theorem dX5_ofThing_54 : decode cX5_ofThing 54 = .ok (.iload_n 1, 1) := by decide +kernel
theorem dX5_ofThing_55 : decode cX5_ofThing 55 = .ok (.iaload, 1) := by decide +kernel
theorem dX5_ofThing_56 : decode cX5_ofThing 56 = .ok (.invokestatic 94, 3) := by decide +kernel
theorem dX5_ofThing_59 : decode cX5_ofThing 59 = .ok (.goto 5, 3) := by decide +kernel
theorem dX5_ofThing_62 : decode cX5_ofThing 62 = .ok (.bipush (-2), 2) := by decide +kernel
theorem dX5_ofThing_64 : decode cX5_ofThing 64 = .ok (.ireturn, 1) := by decide +kernel
theorem dX5_cases_0 : decode cX5_cases 0 = .ok (.aload_n 0, 1) := by decide +kernel
theorem dX5_cases_1 : decode cX5_cases 1 = .ok (.getfield 28, 3) := by decide +kernel
theorem dX5_cases_4 : decode cX5_cases 4 = .ok (.getfield 98, 3) := by decide +kernel
theorem dX5_cases_7 : decode cX5_cases 7 = .ok (.lreturn, 1) := by decide +kernel
set_option maxRecDepth 20000 in
theorem ggX5_weight_X4_isCase : GoodIn wsX5_weight wsX4_isCase := goodIn_r _ [7, 8, 19, 20, 21, 22, 23, 24, 25, 26, 27] (by decide +kernel) (by decide +kernel)
set_option maxRecDepth 20000 in
theorem gX5_weight_X4_isCase : GoodIn wsX5_weight (wsV RX5 102 RX4 yX4_isCase wsX4_isCase) := goodIn_app (goodIn_of _ (by decide +kernel)) ggX5_weight_X4_isCase
theorem dX5_weight_0 : decode cX5_weight 0 = .ok (.aload_n 0, 1) := by decide +kernel
theorem dX5_weight_1 : decode cX5_weight 1 = .ok (.getfield 28, 3) := by decide +kernel
theorem dX5_weight_4 : decode cX5_weight 4 = .ok (.iload_n 1, 1) := by decide +kernel
theorem dX5_weight_5 : decode cX5_weight 5 = .ok (.invokevirtual 102, 3) := by decide +kernel
theorem dX5_weight_8 : decode cX5_weight 8 = .ok (.ifCond .eq 15, 3) := by decide +kernel
theorem dX5_weight_11 : decode cX5_weight 11 = .ok (.aload_n 0, 1) := by decide +kernel
theorem dX5_weight_12 : decode cX5_weight 12 = .ok (.getfield 28, 3) := by decide +kernel
theorem dX5_weight_15 : decode cX5_weight 15 = .ok (.getfield 105, 3) := by decide +kernel
theorem dX5_weight_18 : decode cX5_weight 18 = .ok (.iload_n 1, 1) := by decide +kernel
theorem dX5_weight_19 : decode cX5_weight 19 = .ok (.iaload, 1) := by decide +kernel
theorem dX5_weight_20 : decode cX5_weight 20 = .ok (.goto 4, 3) := by decide +kernel
theorem dX5_weight_23 : decode cX5_weight 23 = .ok (.iconst (-1), 1) := by decide +kernel
theorem dX5_weight_24 : decode cX5_weight 24 = .ok (.ireturn, 1) := by decide +kernel
set_option maxRecDepth 20000 in
theorem ggX5_list_X5_refusalOfSet : GoodIn wsX5_list wsX5_refusalOfSet := goodIn_r _ [6, 7, 8, 9, 5, 10, 11, 12, 13, 14, 15, 16, 17, 18, 19, 20, 21, 22, 23, 24, 25, 26, 27, 28, 29, 30, 31, 32, 33, 34, 35, 36, 37, 38, 39, 40, 41, 42, 43, 44, 45, 46, 47, 48] (by decide +kernel) (by decide +kernel)
set_option maxRecDepth 20000 in
theorem gX5_list_X5_refusalOfSet : GoodIn wsX5_list (wsV RX5 108 RX5 yX5_refusalOfSet wsX5_refusalOfSet) := goodIn_app (goodIn_of _ (by decide +kernel)) ggX5_list_X5_refusalOfSet
theorem dX5_list_0 : decode cX5_list 0 = .ok (.aload_n 0, 1) := by decide +kernel
theorem dX5_list_1 : decode cX5_list 1 = .ok (.iload_n 1, 1) := by decide +kernel
theorem dX5_list_2 : decode cX5_list 2 = .ok (.iload_n 2, 1) := by decide +kernel
theorem dX5_list_3 : decode cX5_list 3 = .ok (.invokevirtual 108, 3) := by decide +kernel
theorem dX5_list_6 : decode cX5_list 6 = .ok (.istore_n 3, 1) := by decide +kernel
theorem dX5_list_7 : decode cX5_list 7 = .ok (.iload_n 3, 1) := by decide +kernel
theorem dX5_list_8 : decode cX5_list 8 = .ok (.ifCond .eq 5, 3) := by decide +kernel
theorem dX5_list_11 : decode cX5_list 11 = .ok (.iload_n 3, 1) := by decide +kernel
theorem dX5_list_12 : decode cX5_list 12 = .ok (.ireturn, 1) := by decide +kernel
theorem dX5_list_13 : decode cX5_list 13 = .ok (.aload_n 0, 1) := by decide +kernel
theorem dX5_list_14 : decode cX5_list 14 = .ok (.getfield 46, 3) := by decide +kernel
theorem dX5_list_17 : decode cX5_list 17 = .ok (.iload_n 1, 1) := by decide +kernel
theorem dX5_list_18 : decode cX5_list 18 = .ok (.iaload, 1) := by decide +kernel
theorem dX5_list_19 : decode cX5_list 19 = .ok (.istore 4, 2) := by decide +kernel
theorem dX5_list_21 : decode cX5_list 21 = .ok (.aload_n 0, 1) := by decide +kernel
theorem dX5_list_22 : decode cX5_list 22 = .ok (.getfield 46, 3) := by decide +kernel
theorem dX5_list_25 : decode cX5_list 25 = .ok (.iload_n 1, 1) := by decide +kernel
theorem dX5_list_26 : decode cX5_list 26 = .ok (.iload_n 2, 1) := by decide +kernel
theorem dX5_list_27 : decode cX5_list 27 = .ok (.iastore, 1) := by decide +kernel
theorem dX5_list_28 : decode cX5_list 28 = .ok (.iload 4, 2) := by decide +kernel
theorem dX5_list_30 : decode cX5_list 30 = .ok (.ireturn, 1) := by decide +kernel
set_option maxRecDepth 20000 in
theorem ggX5_breath_X5_isHour : GoodIn wsX5_breath wsX5_isHour := goodIn_r _ [5] (by decide +kernel) (by decide +kernel)
set_option maxRecDepth 20000 in
theorem gX5_breath_X5_isHour : GoodIn wsX5_breath (va_wsS RX5 112 yX5_isHour wsX5_isHour) := goodIn_app (goodIn_of _ (by decide +kernel)) ggX5_breath_X5_isHour
set_option maxRecDepth 20000 in
theorem ggX5_breath_X5_isBreath : GoodIn wsX5_breath wsX5_isBreath := goodIn_r _ [8] (by decide +kernel) (by decide +kernel)
set_option maxRecDepth 20000 in
theorem gX5_breath_X5_isBreath : GoodIn wsX5_breath (va_wsS RX5 115 yX5_isBreath wsX5_isBreath) := goodIn_app (goodIn_of _ (by decide +kernel)) ggX5_breath_X5_isBreath
set_option maxRecDepth 20000 in
theorem ggX5_breath_X5_hasTown : GoodIn wsX5_breath wsX5_hasTown := goodIn_r _ [12, 13, 14, 15, 16, 17, 18, 19, 20, 21, 22, 23, 24, 25, 26, 27, 28, 29, 30, 31, 32, 33] (by decide +kernel) (by decide +kernel)
set_option maxRecDepth 20000 in
theorem gX5_breath_X5_hasTown : GoodIn wsX5_breath (wsV RX5 118 RX5 yX5_hasTown wsX5_hasTown) := goodIn_app (goodIn_of _ (by decide +kernel)) ggX5_breath_X5_hasTown
theorem dX5_breath_0 : decode cX5_breath 0 = .ok (.iload_n 1, 1) := by decide +kernel
theorem dX5_breath_1 : decode cX5_breath 1 = .ok (.invokestatic 112, 3) := by decide +kernel
theorem dX5_breath_4 : decode cX5_breath 4 = .ok (.ifCond .ne 5, 3) := by decide +kernel
theorem dX5_breath_7 : decode cX5_breath 7 = .ok (.iconst (-1), 1) := by decide +kernel
theorem dX5_breath_8 : decode cX5_breath 8 = .ok (.ireturn, 1) := by decide +kernel
theorem dX5_breath_9 : decode cX5_breath 9 = .ok (.iload_n 2, 1) := by decide +kernel
theorem dX5_breath_10 : decode cX5_breath 10 = .ok (.invokestatic 115, 3) := by decide +kernel
theorem dX5_breath_13 : decode cX5_breath 13 = .ok (.ifCond .ne 6, 3) := by decide +kernel
theorem dX5_breath_16 : decode cX5_breath 16 = .ok (.bipush (-2), 2) := by decide +kernel
theorem dX5_breath_18 : decode cX5_breath 18 = .ok (.ireturn, 1) := by decide +kernel
theorem dX5_breath_19 : decode cX5_breath 19 = .ok (.aload_n 0, 1) := by decide +kernel
theorem dX5_breath_20 : decode cX5_breath 20 = .ok (.invokevirtual 118, 3) := by decide +kernel
theorem dX5_breath_23 : decode cX5_breath 23 = .ok (.ifCond .ne 6, 3) := by decide +kernel
theorem dX5_breath_26 : decode cX5_breath 26 = .ok (.bipush (-3), 2) := by decide +kernel
theorem dX5_breath_28 : decode cX5_breath 28 = .ok (.ireturn, 1) := by decide +kernel
theorem dX5_breath_29 : decode cX5_breath 29 = .ok (.aload_n 0, 1) := by decide +kernel
theorem dX5_breath_30 : decode cX5_breath 30 = .ok (.getfield 50, 3) := by decide +kernel
theorem dX5_breath_33 : decode cX5_breath 33 = .ok (.iload_n 1, 1) := by decide +kernel
theorem dX5_breath_34 : decode cX5_breath 34 = .ok (.iaload, 1) := by decide +kernel
theorem dX5_breath_35 : decode cX5_breath 35 = .ok (.istore_n 3, 1) := by decide +kernel
theorem dX5_breath_36 : decode cX5_breath 36 = .ok (.aload_n 0, 1) := by decide +kernel
theorem dX5_breath_37 : decode cX5_breath 37 = .ok (.getfield 50, 3) := by decide +kernel
theorem dX5_breath_40 : decode cX5_breath 40 = .ok (.iload_n 1, 1) := by decide +kernel
theorem dX5_breath_41 : decode cX5_breath 41 = .ok (.iload_n 2, 1) := by decide +kernel
theorem dX5_breath_42 : decode cX5_breath 42 = .ok (.iastore, 1) := by decide +kernel
theorem dX5_breath_43 : decode cX5_breath 43 = .ok (.iload_n 3, 1) := by decide +kernel
theorem dX5_breath_44 : decode cX5_breath 44 = .ok (.ireturn, 1) := by decide +kernel
set_option maxRecDepth 20000 in
theorem ggX5_called_X4_isCase : GoodIn wsX5_called wsX4_isCase := goodIn_r _ [6, 7, 35, 36, 37, 38, 39, 40, 41, 42, 43] (by decide +kernel) (by decide +kernel)
set_option maxRecDepth 20000 in
theorem gX5_called_X4_isCase : GoodIn wsX5_called (wsV RX5 102 RX4 yX4_isCase wsX4_isCase) := goodIn_app (goodIn_of _ (by decide +kernel)) ggX5_called_X4_isCase
set_option maxRecDepth 20000 in
theorem ggX5_called_X5_isHour : GoodIn wsX5_called wsX5_isHour := goodIn_r _ [11] (by decide +kernel) (by decide +kernel)
set_option maxRecDepth 20000 in
theorem gX5_called_X5_isHour : GoodIn wsX5_called (va_wsS RX5 112 yX5_isHour wsX5_isHour) := goodIn_app (goodIn_of _ (by decide +kernel)) ggX5_called_X5_isHour
set_option maxRecDepth 20000 in
theorem ggX5_called_X5_callOfHour : GoodIn wsX5_called wsX5_callOfHour := goodIn_r _ [15, 1, 16, 17, 18, 19, 20, 5, 21, 22, 23, 10, 24, 25, 26, 27, 28, 29, 30, 31, 32, 33, 34, 35, 36, 37, 38, 39, 40, 41, 42, 43] (by decide +kernel) (by decide +kernel)
set_option maxRecDepth 20000 in
theorem gX5_called_X5_callOfHour : GoodIn wsX5_called (wsV RX5 122 RX5 yX5_callOfHour wsX5_callOfHour) := goodIn_app (goodIn_of _ (by decide +kernel)) ggX5_called_X5_callOfHour
theorem dX5_called_0 : decode cX5_called 0 = .ok (.aload_n 0, 1) := by decide +kernel
theorem dX5_called_1 : decode cX5_called 1 = .ok (.getfield 28, 3) := by decide +kernel
theorem dX5_called_4 : decode cX5_called 4 = .ok (.iload_n 1, 1) := by decide +kernel
theorem dX5_called_5 : decode cX5_called 5 = .ok (.invokevirtual 102, 3) := by decide +kernel
theorem dX5_called_8 : decode cX5_called 8 = .ok (.ifCond .eq 10, 3) := by decide +kernel
theorem dX5_called_11 : decode cX5_called 11 = .ok (.iload_n 2, 1) := by decide +kernel
theorem dX5_called_12 : decode cX5_called 12 = .ok (.invokestatic 112, 3) := by decide +kernel
theorem dX5_called_15 : decode cX5_called 15 = .ok (.ifCond .ne 5, 3) := by decide +kernel
theorem dX5_called_18 : decode cX5_called 18 = .ok (.iconst (-1), 1) := by decide +kernel
theorem dX5_called_19 : decode cX5_called 19 = .ok (.ireturn, 1) := by decide +kernel
theorem dX5_called_20 : decode cX5_called 20 = .ok (.aload_n 0, 1) := by decide +kernel
theorem dX5_called_21 : decode cX5_called 21 = .ok (.iload_n 1, 1) := by decide +kernel
theorem dX5_called_22 : decode cX5_called 22 = .ok (.iload_n 2, 1) := by decide +kernel
theorem dX5_called_23 : decode cX5_called 23 = .ok (.invokevirtual 122, 3) := by decide +kernel
theorem dX5_called_26 : decode cX5_called 26 = .ok (.ireturn, 1) := by decide +kernel
set_option maxRecDepth 20000 in
theorem ggX5_hear_X5_refusalOfSet : GoodIn wsX5_hear wsX5_refusalOfSet := goodIn_r _ [6, 7, 8, 9, 5, 10, 11, 12, 13, 14, 15, 16, 17, 18, 19, 20, 21, 22, 23, 24, 25, 26, 27, 28, 29, 30, 31, 32, 33, 34, 35, 36, 37, 38, 39, 40, 41, 42, 43, 44, 45, 46, 47, 48] (by decide +kernel) (by decide +kernel)
set_option maxRecDepth 20000 in
theorem gX5_hear_X5_refusalOfSet : GoodIn wsX5_hear (wsV RX5 108 RX5 yX5_refusalOfSet wsX5_refusalOfSet) := goodIn_app (goodIn_of _ (by decide +kernel)) ggX5_hear_X5_refusalOfSet
theorem dX5_hear_0 : decode cX5_hear 0 = .ok (.aload_n 0, 1) := by decide +kernel
theorem dX5_hear_1 : decode cX5_hear 1 = .ok (.iload_n 1, 1) := by decide +kernel
theorem dX5_hear_2 : decode cX5_hear 2 = .ok (.iload_n 2, 1) := by decide +kernel
theorem dX5_hear_3 : decode cX5_hear 3 = .ok (.bipush (-9), 2) := by decide +kernel
theorem dX5_hear_5 : decode cX5_hear 5 = .ok (.if_icmp .ne 7, 3) := by decide +kernel
theorem dX5_hear_8 : decode cX5_hear 8 = .ok (.iconst 0, 1) := by decide +kernel
theorem dX5_hear_9 : decode cX5_hear 9 = .ok (.goto 4, 3) := by decide +kernel
theorem dX5_hear_12 : decode cX5_hear 12 = .ok (.iload_n 2, 1) := by decide +kernel
theorem dX5_hear_13 : decode cX5_hear 13 = .ok (.invokevirtual 108, 3) := by decide +kernel
theorem dX5_hear_16 : decode cX5_hear 16 = .ok (.istore_n 3, 1) := by decide +kernel
theorem dX5_hear_17 : decode cX5_hear 17 = .ok (.iload_n 3, 1) := by decide +kernel
theorem dX5_hear_18 : decode cX5_hear 18 = .ok (.ifCond .eq 5, 3) := by decide +kernel
theorem dX5_hear_21 : decode cX5_hear 21 = .ok (.iload_n 3, 1) := by decide +kernel
theorem dX5_hear_22 : decode cX5_hear 22 = .ok (.ireturn, 1) := by decide +kernel
theorem dX5_hear_23 : decode cX5_hear 23 = .ok (.aload_n 0, 1) := by decide +kernel
theorem dX5_hear_24 : decode cX5_hear 24 = .ok (.getfield 53, 3) := by decide +kernel
theorem dX5_hear_27 : decode cX5_hear 27 = .ok (.iload_n 1, 1) := by decide +kernel
theorem dX5_hear_28 : decode cX5_hear 28 = .ok (.iaload, 1) := by decide +kernel
theorem dX5_hear_29 : decode cX5_hear 29 = .ok (.istore 4, 2) := by decide +kernel
theorem dX5_hear_31 : decode cX5_hear 31 = .ok (.aload_n 0, 1) := by decide +kernel
theorem dX5_hear_32 : decode cX5_hear 32 = .ok (.getfield 53, 3) := by decide +kernel
theorem dX5_hear_35 : decode cX5_hear 35 = .ok (.iload_n 1, 1) := by decide +kernel
theorem dX5_hear_36 : decode cX5_hear 36 = .ok (.iload_n 2, 1) := by decide +kernel
theorem dX5_hear_37 : decode cX5_hear 37 = .ok (.iastore, 1) := by decide +kernel
theorem dX5_hear_38 : decode cX5_hear 38 = .ok (.iload 4, 2) := by decide +kernel
theorem dX5_hear_40 : decode cX5_hear 40 = .ok (.ireturn, 1) := by decide +kernel
set_option maxRecDepth 20000 in
theorem ggX5_thought_X5_isThought : GoodIn wsX5_thought wsX5_isThought := goodIn_r _ [8, 9, 10, 11, 12, 7, 13, 1, 14, 15, 16, 17, 18, 19, 20, 21, 22, 23, 24, 25, 26, 27, 28, 29, 30, 31, 32, 33, 34, 35, 36, 37, 38, 39, 40, 41, 42] (by decide +kernel) (by decide +kernel)
set_option maxRecDepth 20000 in
theorem gX5_thought_X5_isThought : GoodIn wsX5_thought (wsV RX5 131 RX5 yX5_isThought wsX5_isThought) := goodIn_app (goodIn_of _ (by decide +kernel)) ggX5_thought_X5_isThought
theorem dX5_thought_0 : decode cX5_thought 0 = .ok (.lconst 0, 1) := by decide +kernel
theorem dX5_thought_1 : decode cX5_thought 1 = .ok (.lstore_n 1, 1) := by decide +kernel
theorem dX5_thought_2 : decode cX5_thought 2 = .ok (.iconst 0, 1) := by decide +kernel
theorem dX5_thought_3 : decode cX5_thought 3 = .ok (.istore_n 3, 1) := by decide +kernel
theorem dX5_thought_4 : decode cX5_thought 4 = .ok (.iload_n 3, 1) := by decide +kernel
theorem dX5_thought_5 : decode cX5_thought 5 = .ok (.aload_n 0, 1) := by decide +kernel
theorem dX5_thought_6 : decode cX5_thought 6 = .ok (.getfield 28, 3) := by decide +kernel
theorem dX5_thought_9 : decode cX5_thought 9 = .ok (.getfield 125, 3) := by decide +kernel
theorem dX5_thought_12 : decode cX5_thought 12 = .ok (.if_icmp .ge 36, 3) := by decide +kernel
theorem dX5_thought_15 : decode cX5_thought 15 = .ok (.aload_n 0, 1) := by decide +kernel
theorem dX5_thought_16 : decode cX5_thought 16 = .ok (.getfield 28, 3) := by decide +kernel
theorem dX5_thought_19 : decode cX5_thought 19 = .ok (.getfield 128, 3) := by decide +kernel
theorem dX5_thought_22 : decode cX5_thought 22 = .ok (.iload_n 3, 1) := by decide +kernel
theorem dX5_thought_23 : decode cX5_thought 23 = .ok (.iaload, 1) := by decide +kernel
theorem dX5_thought_24 : decode cX5_thought 24 = .ok (.istore 4, 2) := by decide +kernel
theorem dX5_thought_26 : decode cX5_thought 26 = .ok (.aload_n 0, 1) := by decide +kernel
theorem dX5_thought_27 : decode cX5_thought 27 = .ok (.iload 4, 2) := by decide +kernel
theorem dX5_thought_29 : decode cX5_thought 29 = .ok (.invokevirtual 131, 3) := by decide +kernel
theorem dX5_thought_32 : decode cX5_thought 32 = .ok (.ifCond .eq 10, 3) := by decide +kernel
theorem dX5_thought_35 : decode cX5_thought 35 = .ok (.lload_n 1, 1) := by decide +kernel
theorem dX5_thought_36 : decode cX5_thought 36 = .ok (.lconst 1, 1) := by decide +kernel
theorem dX5_thought_37 : decode cX5_thought 37 = .ok (.iload 4, 2) := by decide +kernel
theorem dX5_thought_39 : decode cX5_thought 39 = .ok (.lshl, 1) := by decide +kernel
theorem dX5_thought_40 : decode cX5_thought 40 = .ok (.lor, 1) := by decide +kernel
theorem dX5_thought_41 : decode cX5_thought 41 = .ok (.lstore_n 1, 1) := by decide +kernel
theorem dX5_thought_42 : decode cX5_thought 42 = .ok (.iinc 3 1, 3) := by decide +kernel
theorem dX5_thought_45 : decode cX5_thought 45 = .ok (.goto (-41), 3) := by decide +kernel
theorem dX5_thought_48 : decode cX5_thought 48 = .ok (.lload_n 1, 1) := by decide +kernel
theorem dX5_thought_49 : decode cX5_thought 49 = .ok (.lreturn, 1) := by decide +kernel
set_option maxRecDepth 20000 in
theorem ggX5_sure_X5_hasTown : GoodIn wsX5_sure wsX5_hasTown := goodIn_r _ [8, 1, 9, 38, 39, 40, 41, 42, 43, 44, 45, 46, 47, 48, 49, 50, 51, 52, 53, 54, 55, 56] (by decide +kernel) (by decide +kernel)
set_option maxRecDepth 20000 in
theorem gX5_sure_X5_hasTown : GoodIn wsX5_sure (wsV RX5 118 RX5 yX5_hasTown wsX5_hasTown) := goodIn_app (goodIn_of _ (by decide +kernel)) ggX5_sure_X5_hasTown
set_option maxRecDepth 20000 in
theorem ggX5_sure_X4_allThings : GoodIn wsX5_sure wsX4_allThings := goodIn_r _ [14, 15, 16, 17, 13, 18, 19, 48, 49, 50, 51, 52, 53, 54, 55, 56] (by decide +kernel) (by decide +kernel)
set_option maxRecDepth 20000 in
theorem gX5_sure_X4_allThings : GoodIn wsX5_sure (wsV RX5 134 RX4 yX4_allThings wsX4_allThings) := goodIn_app (goodIn_of _ (by decide +kernel)) ggX5_sure_X4_allThings
set_option maxRecDepth 20000 in
theorem ggX5_sure_X5_isThought : GoodIn wsX5_sure wsX5_isThought := goodIn_r _ [23, 24, 25, 26, 27, 7, 28, 1, 29, 30, 31, 32, 33, 13, 34, 35, 36, 37, 38, 39, 40, 41, 42, 43, 44, 45, 46, 47, 48, 49, 50, 51, 52, 53, 54, 55, 56] (by decide +kernel) (by decide +kernel)
set_option maxRecDepth 20000 in
theorem gX5_sure_X5_isThought : GoodIn wsX5_sure (wsV RX5 131 RX5 yX5_isThought wsX5_isThought) := goodIn_app (goodIn_of _ (by decide +kernel)) ggX5_sure_X5_isThought
theorem dX5_sure_0 : decode cX5_sure 0 = .ok (.iload_n 1, 1) := by decide +kernel
theorem dX5_sure_1 : decode cX5_sure 1 = .ok (.ifCond .eq 11, 3) := by decide +kernel
theorem dX5_sure_4 : decode cX5_sure 4 = .ok (.iload_n 1, 1) := by decide +kernel
theorem dX5_sure_5 : decode cX5_sure 5 = .ok (.iconst 1, 1) := by decide +kernel
theorem dX5_sure_6 : decode cX5_sure 6 = .ok (.if_icmp .eq 6, 3) := by decide +kernel
theorem dX5_sure_9 : decode cX5_sure 9 = .ok (.bipush (-2), 2) := by decide +kernel
theorem dX5_sure_11 : decode cX5_sure 11 = .ok (.ireturn, 1) := by decide +kernel
theorem dX5_sure_12 : decode cX5_sure 12 = .ok (.aload_n 0, 1) := by decide +kernel
theorem dX5_sure_13 : decode cX5_sure 13 = .ok (.invokevirtual 118, 3) := by decide +kernel
theorem dX5_sure_16 : decode cX5_sure 16 = .ok (.ifCond .ne 6, 3) := by decide +kernel
theorem dX5_sure_19 : decode cX5_sure 19 = .ok (.bipush (-3), 2) := by decide +kernel
theorem dX5_sure_21 : decode cX5_sure 21 = .ok (.ireturn, 1) := by decide +kernel
theorem dX5_sure_22 : decode cX5_sure 22 = .ok (.aload_n 0, 1) := by decide +kernel
theorem dX5_sure_23 : decode cX5_sure 23 = .ok (.getfield 28, 3) := by decide +kernel
theorem dX5_sure_26 : decode cX5_sure 26 = .ok (.invokevirtual 134, 3) := by decide +kernel
theorem dX5_sure_29 : decode cX5_sure 29 = .ok (.istore_n 2, 1) := by decide +kernel
theorem dX5_sure_30 : decode cX5_sure 30 = .ok (.iconst 0, 1) := by decide +kernel
theorem dX5_sure_31 : decode cX5_sure 31 = .ok (.istore_n 3, 1) := by decide +kernel
theorem dX5_sure_32 : decode cX5_sure 32 = .ok (.iload_n 3, 1) := by decide +kernel
theorem dX5_sure_33 : decode cX5_sure 33 = .ok (.aload_n 0, 1) := by decide +kernel
theorem dX5_sure_34 : decode cX5_sure 34 = .ok (.getfield 28, 3) := by decide +kernel
theorem dX5_sure_37 : decode cX5_sure 37 = .ok (.getfield 125, 3) := by decide +kernel
theorem dX5_sure_40 : decode cX5_sure 40 = .ok (.if_icmp .ge 45, 3) := by decide +kernel
theorem dX5_sure_43 : decode cX5_sure 43 = .ok (.aload_n 0, 1) := by decide +kernel
theorem dX5_sure_44 : decode cX5_sure 44 = .ok (.getfield 28, 3) := by decide +kernel
theorem dX5_sure_47 : decode cX5_sure 47 = .ok (.getfield 128, 3) := by decide +kernel
theorem dX5_sure_50 : decode cX5_sure 50 = .ok (.iload_n 3, 1) := by decide +kernel
theorem dX5_sure_51 : decode cX5_sure 51 = .ok (.iaload, 1) := by decide +kernel
theorem dX5_sure_52 : decode cX5_sure 52 = .ok (.istore 4, 2) := by decide +kernel
theorem dX5_sure_54 : decode cX5_sure 54 = .ok (.aload_n 0, 1) := by decide +kernel
theorem dX5_sure_55 : decode cX5_sure 55 = .ok (.iload 4, 2) := by decide +kernel
theorem dX5_sure_57 : decode cX5_sure 57 = .ok (.invokevirtual 131, 3) := by decide +kernel
theorem dX5_sure_60 : decode cX5_sure 60 = .ok (.ifCond .eq 19, 3) := by decide +kernel
theorem dX5_sure_63 : decode cX5_sure 63 = .ok (.iload_n 2, 1) := by decide +kernel
theorem dX5_sure_64 : decode cX5_sure 64 = .ok (.iload_n 1, 1) := by decide +kernel
theorem dX5_sure_65 : decode cX5_sure 65 = .ok (.ifCond .ne 8, 3) := by decide +kernel
theorem dX5_sure_68 : decode cX5_sure 68 = .ok (.iload 4, 2) := by decide +kernel
theorem dX5_sure_70 : decode cX5_sure 70 = .ok (.goto 7, 3) := by decide +kernel
theorem dX5_sure_73 : decode cX5_sure 73 = .ok (.iload 4, 2) := by decide +kernel
theorem dX5_sure_75 : decode cX5_sure 75 = .ok (.iconst (-1), 1) := by decide +kernel
theorem dX5_sure_76 : decode cX5_sure 76 = .ok (.ixor, 1) := by decide +kernel
theorem dX5_sure_77 : decode cX5_sure 77 = .ok (.iand, 1) := by decide +kernel
theorem dX5_sure_78 : decode cX5_sure 78 = .ok (.istore_n 2, 1) := by decide +kernel
theorem dX5_sure_79 : decode cX5_sure 79 = .ok (.iinc 3 1, 3) := by decide +kernel
theorem dX5_sure_82 : decode cX5_sure 82 = .ok (.goto (-50), 3) := by decide +kernel
theorem dX5_sure_85 : decode cX5_sure 85 = .ok (.iload_n 2, 1) := by decide +kernel
theorem dX5_sure_86 : decode cX5_sure 86 = .ok (.ireturn, 1) := by decide +kernel
set_option maxRecDepth 20000 in
theorem ggX5_chance_X4_isThing : GoodIn wsX5_chance wsX4_isThing := goodIn_r _ [10, 11, 53, 54, 55, 56, 57, 58, 59, 60, 61] (by decide +kernel) (by decide +kernel)
set_option maxRecDepth 20000 in
theorem gX5_chance_X4_isThing : GoodIn wsX5_chance (wsV RX5 84 RX4 yX4_isThing wsX4_isThing) := goodIn_app (goodIn_of _ (by decide +kernel)) ggX5_chance_X4_isThing
set_option maxRecDepth 20000 in
theorem ggX5_chance_X5_isHalfOfShare : GoodIn wsX5_chance wsX5_isHalfOfShare := goodIn_r _ [15] (by decide +kernel) (by decide +kernel)
set_option maxRecDepth 20000 in
theorem gX5_chance_X5_isHalfOfShare : GoodIn wsX5_chance (va_wsS RX5 138 yX5_isHalfOfShare wsX5_isHalfOfShare) := goodIn_app (goodIn_of _ (by decide +kernel)) ggX5_chance_X5_isHalfOfShare
set_option maxRecDepth 20000 in
theorem ggX5_chance_X5_isThought : GoodIn wsX5_chance wsX5_isThought := goodIn_r _ [19, 20, 21, 22, 23, 14, 24, 1, 25, 26, 27, 28, 29, 9, 30, 31, 32, 33, 43, 44, 45, 46, 47, 48, 49, 50, 51, 52, 53, 54, 55, 56, 57, 58, 59, 60, 61] (by decide +kernel) (by decide +kernel)
set_option maxRecDepth 20000 in
theorem gX5_chance_X5_isThought : GoodIn wsX5_chance (wsV RX5 131 RX5 yX5_isThought wsX5_isThought) := goodIn_app (goodIn_of _ (by decide +kernel)) ggX5_chance_X5_isThought
set_option maxRecDepth 20000 in
theorem ggX5_chance_X5_has : GoodIn wsX5_chance wsX5_has := goodIn_r _ [36] (by decide +kernel) (by decide +kernel)
set_option maxRecDepth 20000 in
theorem gX5_chance_X5_has : GoodIn wsX5_chance (va_wsS RX5 143 yX5_has wsX5_has) := goodIn_app (goodIn_of _ (by decide +kernel)) ggX5_chance_X5_has
set_option maxRecDepth 20000 in
theorem ggX5_chance_X5_halfOfShare : GoodIn wsX5_chance wsX5_halfOfShare := goodIn_r _ [39, 40, 41, 14, 42] (by decide +kernel) (by decide +kernel)
set_option maxRecDepth 20000 in
theorem gX5_chance_X5_halfOfShare : GoodIn wsX5_chance (va_wsS RX5 147 yX5_halfOfShare wsX5_halfOfShare) := goodIn_app (goodIn_of _ (by decide +kernel)) ggX5_chance_X5_halfOfShare
theorem dX5_chance_0 : decode cX5_chance 0 = .ok (.aload_n 0, 1) := by decide +kernel
theorem dX5_chance_1 : decode cX5_chance 1 = .ok (.getfield 28, 3) := by decide +kernel
theorem dX5_chance_4 : decode cX5_chance 4 = .ok (.iload_n 1, 1) := by decide +kernel
theorem dX5_chance_5 : decode cX5_chance 5 = .ok (.invokevirtual 84, 3) := by decide +kernel
theorem dX5_chance_8 : decode cX5_chance 8 = .ok (.ifCond .eq 10, 3) := by decide +kernel
theorem dX5_chance_11 : decode cX5_chance 11 = .ok (.iload_n 2, 1) := by decide +kernel
theorem dX5_chance_12 : decode cX5_chance 12 = .ok (.invokestatic 138, 3) := by decide +kernel
theorem dX5_chance_15 : decode cX5_chance 15 = .ok (.ifCond .ne 7, 3) := by decide +kernel
theorem dX5_chance_18 : decode cX5_chance 18 = .ok (.ldc2_w 141, 3) := by decide +kernel
theorem dX5_chance_21 : decode cX5_chance 21 = .ok (.lreturn, 1) := by decide +kernel
theorem dX5_chance_22 : decode cX5_chance 22 = .ok (.lconst 0, 1) := by decide +kernel
theorem dX5_chance_23 : decode cX5_chance 23 = .ok (.lstore_n 3, 1) := by decide +kernel
theorem dX5_chance_24 : decode cX5_chance 24 = .ok (.lconst 0, 1) := by decide +kernel
theorem dX5_chance_25 : decode cX5_chance 25 = .ok (.lstore 5, 2) := by decide +kernel
theorem dX5_chance_27 : decode cX5_chance 27 = .ok (.iconst 0, 1) := by decide +kernel
theorem dX5_chance_28 : decode cX5_chance 28 = .ok (.istore 7, 2) := by decide +kernel
theorem dX5_chance_30 : decode cX5_chance 30 = .ok (.iload 7, 2) := by decide +kernel
theorem dX5_chance_32 : decode cX5_chance 32 = .ok (.aload_n 0, 1) := by decide +kernel
theorem dX5_chance_33 : decode cX5_chance 33 = .ok (.getfield 28, 3) := by decide +kernel
theorem dX5_chance_36 : decode cX5_chance 36 = .ok (.getfield 125, 3) := by decide +kernel
theorem dX5_chance_39 : decode cX5_chance 39 = .ok (.if_icmp .ge 73, 3) := by decide +kernel
theorem dX5_chance_42 : decode cX5_chance 42 = .ok (.aload_n 0, 1) := by decide +kernel
theorem dX5_chance_43 : decode cX5_chance 43 = .ok (.getfield 28, 3) := by decide +kernel
theorem dX5_chance_46 : decode cX5_chance 46 = .ok (.getfield 128, 3) := by decide +kernel
theorem dX5_chance_49 : decode cX5_chance 49 = .ok (.iload 7, 2) := by decide +kernel
theorem dX5_chance_51 : decode cX5_chance 51 = .ok (.iaload, 1) := by decide +kernel
theorem dX5_chance_52 : decode cX5_chance 52 = .ok (.istore 8, 2) := by decide +kernel
theorem dX5_chance_54 : decode cX5_chance 54 = .ok (.aload_n 0, 1) := by decide +kernel
theorem dX5_chance_55 : decode cX5_chance 55 = .ok (.iload 8, 2) := by decide +kernel
theorem dX5_chance_57 : decode cX5_chance 57 = .ok (.invokevirtual 131, 3) := by decide +kernel
theorem dX5_chance_60 : decode cX5_chance 60 = .ok (.ifCond .eq 46, 3) := by decide +kernel
theorem dX5_chance_63 : decode cX5_chance 63 = .ok (.lload 5, 2) := by decide +kernel
theorem dX5_chance_65 : decode cX5_chance 65 = .ok (.aload_n 0, 1) := by decide +kernel
theorem dX5_chance_66 : decode cX5_chance 66 = .ok (.getfield 28, 3) := by decide +kernel
theorem dX5_chance_69 : decode cX5_chance 69 = .ok (.getfield 105, 3) := by decide +kernel
theorem dX5_chance_72 : decode cX5_chance 72 = .ok (.iload 8, 2) := by decide +kernel
theorem dX5_chance_74 : decode cX5_chance 74 = .ok (.iaload, 1) := by decide +kernel
theorem dX5_chance_75 : decode cX5_chance 75 = .ok (.i2l, 1) := by decide +kernel
theorem dX5_chance_76 : decode cX5_chance 76 = .ok (.ladd, 1) := by decide +kernel
theorem dX5_chance_77 : decode cX5_chance 77 = .ok (.lstore 5, 2) := by decide +kernel
theorem dX5_chance_79 : decode cX5_chance 79 = .ok (.lload_n 3, 1) := by decide +kernel
theorem dX5_chance_80 : decode cX5_chance 80 = .ok (.iload 8, 2) := by decide +kernel
theorem dX5_chance_82 : decode cX5_chance 82 = .ok (.iload_n 1, 1) := by decide +kernel
theorem dX5_chance_83 : decode cX5_chance 83 = .ok (.invokestatic 143, 3) := by decide +kernel
theorem dX5_chance_86 : decode cX5_chance 86 = .ok (.ifCond .eq 17, 3) := by decide +kernel
theorem dX5_chance_89 : decode cX5_chance 89 = .ok (.aload_n 0, 1) := by decide +kernel
theorem dX5_chance_90 : decode cX5_chance 90 = .ok (.getfield 28, 3) := by decide +kernel
theorem dX5_chance_93 : decode cX5_chance 93 = .ok (.getfield 105, 3) := by decide +kernel
theorem dX5_chance_96 : decode cX5_chance 96 = .ok (.iload 8, 2) := by decide +kernel
theorem dX5_chance_98 : decode cX5_chance 98 = .ok (.iaload, 1) := by decide +kernel
theorem dX5_chance_99 : decode cX5_chance 99 = .ok (.i2l, 1) := by decide +kernel
theorem dX5_chance_100 : decode cX5_chance 100 = .ok (.goto 4, 3) := by decide +kernel
theorem dX5_chance_103 : decode cX5_chance 103 = .ok (.lconst 0, 1) := by decide +kernel
theorem dX5_chance_104 : decode cX5_chance 104 = .ok (.ladd, 1) := by decide +kernel
theorem dX5_chance_105 : decode cX5_chance 105 = .ok (.lstore_n 3, 1) := by decide +kernel
theorem dX5_chance_106 : decode cX5_chance 106 = .ok (.iinc 7 1, 3) := by decide +kernel
theorem dX5_chance_109 : decode cX5_chance 109 = .ok (.goto (-79), 3) := by decide +kernel
theorem dX5_chance_112 : decode cX5_chance 112 = .ok (.lload_n 3, 1) := by decide +kernel
theorem dX5_chance_113 : decode cX5_chance 113 = .ok (.lload 5, 2) := by decide +kernel
theorem dX5_chance_115 : decode cX5_chance 115 = .ok (.iload_n 2, 1) := by decide +kernel
theorem dX5_chance_116 : decode cX5_chance 116 = .ok (.invokestatic 147, 3) := by decide +kernel
theorem dX5_chance_119 : decode cX5_chance 119 = .ok (.lreturn, 1) := by decide +kernel
set_option maxRecDepth 20000 in
theorem ggX5_parts_X5_hasTown : GoodIn wsX5_parts wsX5_hasTown := goodIn_r _ [6, 7, 8, 50, 51, 52, 53, 54, 55, 56, 57, 58, 59, 60, 61, 62, 63, 64, 65, 66, 67, 68] (by decide +kernel) (by decide +kernel)
set_option maxRecDepth 20000 in
theorem gX5_parts_X5_hasTown : GoodIn wsX5_parts (wsV RX5 118 RX5 yX5_hasTown wsX5_hasTown) := goodIn_app (goodIn_of _ (by decide +kernel)) ggX5_parts_X5_hasTown
set_option maxRecDepth 20000 in
theorem ggX5_parts_X5_splitByHours : GoodIn wsX5_parts wsX5_splitByHours := goodIn_r _ [12, 1, 7, 13, 14, 15, 16, 17, 18, 19, 20, 21, 22, 23, 24, 25, 26, 27, 28, 29, 30, 31, 32, 33, 34, 35, 36, 37, 38, 5, 39, 50, 51, 52, 53, 54, 55, 56, 57, 58, 59, 60, 61, 62, 63, 64, 65, 66, 67, 68, 69, 70, 71, 72, 73] (by decide +kernel) (by decide +kernel)
set_option maxRecDepth 20000 in
theorem gX5_parts_X5_splitByHours : GoodIn wsX5_parts (wsV RX5 151 RX5 yX5_splitByHours wsX5_splitByHours) := goodIn_app (goodIn_of _ (by decide +kernel)) ggX5_parts_X5_splitByHours
set_option maxRecDepth 20000 in
theorem ggX5_parts_X0_number : GoodIn wsX5_parts wsX0_number := goodIn_r _ [43, 44, 25, 45, 46, 47, 48, 18, 49, 26, 69, 70, 71, 72, 73] (by decide +kernel) (by decide +kernel)
set_option maxRecDepth 20000 in
theorem gX5_parts_X0_number : GoodIn wsX5_parts (wsV RX5 155 RX0 yX0_number wsX0_number) := goodIn_app (goodIn_of _ (by decide +kernel)) ggX5_parts_X0_number
theorem dX5_parts_0 : decode cX5_parts 0 = .ok (.iload_n 1, 1) := by decide +kernel
theorem dX5_parts_1 : decode cX5_parts 1 = .ok (.ifCond .lt 9, 3) := by decide +kernel
theorem dX5_parts_4 : decode cX5_parts 4 = .ok (.iload_n 1, 1) := by decide +kernel
theorem dX5_parts_5 : decode cX5_parts 5 = .ok (.bipush 6, 2) := by decide +kernel
theorem dX5_parts_7 : decode cX5_parts 7 = .ok (.if_icmp .le 6, 3) := by decide +kernel
theorem dX5_parts_10 : decode cX5_parts 10 = .ok (.bipush (-2), 2) := by decide +kernel
theorem dX5_parts_12 : decode cX5_parts 12 = .ok (.ireturn, 1) := by decide +kernel
theorem dX5_parts_13 : decode cX5_parts 13 = .ok (.aload_n 0, 1) := by decide +kernel
theorem dX5_parts_14 : decode cX5_parts 14 = .ok (.invokevirtual 118, 3) := by decide +kernel
theorem dX5_parts_17 : decode cX5_parts 17 = .ok (.ifCond .ne 6, 3) := by decide +kernel
theorem dX5_parts_20 : decode cX5_parts 20 = .ok (.bipush (-3), 2) := by decide +kernel
theorem dX5_parts_22 : decode cX5_parts 22 = .ok (.ireturn, 1) := by decide +kernel
theorem dX5_parts_23 : decode cX5_parts 23 = .ok (.aload_n 0, 1) := by decide +kernel
theorem dX5_parts_24 : decode cX5_parts 24 = .ok (.iload_n 1, 1) := by decide +kernel
theorem dX5_parts_25 : decode cX5_parts 25 = .ok (.invokevirtual 151, 3) := by decide +kernel
theorem dX5_parts_28 : decode cX5_parts 28 = .ok (.aload_n 0, 1) := by decide +kernel
theorem dX5_parts_29 : decode cX5_parts 29 = .ok (.getfield 35, 3) := by decide +kernel
theorem dX5_parts_32 : decode cX5_parts 32 = .ok (.invokevirtual 155, 3) := by decide +kernel
theorem dX5_parts_35 : decode cX5_parts 35 = .ok (.ireturn, 1) := by decide +kernel
set_option maxRecDepth 20000 in
theorem ggX5_best_X5_isHour : GoodIn wsX5_best wsX5_isHour := goodIn_r _ [7] (by decide +kernel) (by decide +kernel)
set_option maxRecDepth 20000 in
theorem gX5_best_X5_isHour : GoodIn wsX5_best (va_wsS RX5 112 yX5_isHour wsX5_isHour) := goodIn_app (goodIn_of _ (by decide +kernel)) ggX5_best_X5_isHour
set_option maxRecDepth 20000 in
theorem ggX5_best_X5_hasTown : GoodIn wsX5_best wsX5_hasTown := goodIn_r _ [11, 2, 12, 63, 64, 65, 66, 67, 68, 69, 70, 71, 72, 73, 74, 75, 76, 77, 78, 79, 80, 81] (by decide +kernel) (by decide +kernel)
set_option maxRecDepth 20000 in
theorem gX5_best_X5_hasTown : GoodIn wsX5_best (wsV RX5 118 RX5 yX5_hasTown wsX5_hasTown) := goodIn_app (goodIn_of _ (by decide +kernel)) ggX5_best_X5_hasTown
set_option maxRecDepth 20000 in
theorem ggX5_best_X5_splitByHours : GoodIn wsX5_best wsX5_splitByHours := goodIn_r _ [16, 1, 2, 17, 3, 18, 19, 20, 21, 22, 23, 24, 25, 26, 27, 28, 29, 30, 31, 32, 33, 34, 35, 36, 37, 38, 39, 40, 41, 6, 42, 63, 64, 65, 66, 67, 68, 69, 70, 71, 72, 73, 74, 75, 76, 77, 78, 79, 80, 81, 82, 83, 84, 85, 86] (by decide +kernel) (by decide +kernel)
set_option maxRecDepth 20000 in
theorem gX5_best_X5_splitByHours : GoodIn wsX5_best (wsV RX5 151 RX5 yX5_splitByHours wsX5_splitByHours) := goodIn_app (goodIn_of _ (by decide +kernel)) ggX5_best_X5_splitByHours
set_option maxRecDepth 20000 in
theorem ggX5_best_X0_number : GoodIn wsX5_best wsX0_number := goodIn_r _ [46, 47, 28, 48, 49, 50, 51, 21, 52, 29, 82, 83, 84, 85, 86] (by decide +kernel) (by decide +kernel)
set_option maxRecDepth 20000 in
theorem gX5_best_X0_number : GoodIn wsX5_best (wsV RX5 155 RX0 yX0_number wsX0_number) := goodIn_app (goodIn_of _ (by decide +kernel)) ggX5_best_X0_number
set_option maxRecDepth 20000 in
theorem ggX5_best_X4_sets : GoodIn wsX5_best wsX4_sets := goodIn_r _ [56, 57, 73, 74, 75, 76, 77, 78, 79, 80, 81] (by decide +kernel) (by decide +kernel)
set_option maxRecDepth 20000 in
theorem gX5_best_X4_sets : GoodIn wsX5_best (wsV RX5 158 RX4 yX4_sets wsX4_sets) := goodIn_app (goodIn_of _ (by decide +kernel)) ggX5_best_X4_sets
set_option maxRecDepth 20000 in
theorem ggX5_best_X0_countWith : GoodIn wsX5_best wsX0_countWith := goodIn_r _ [61, 47, 62, 28, 34, 48, 35, 36, 37, 38, 39, 40, 41, 6, 42, 82, 83, 84, 85, 86, 73, 74, 75, 76, 77, 78, 79, 80, 81] (by decide +kernel) (by decide +kernel)
set_option maxRecDepth 20000 in
theorem gX5_best_X0_countWith : GoodIn wsX5_best (wsV RX5 161 RX0 yX0_countWith wsX0_countWith) := goodIn_app (goodIn_of _ (by decide +kernel)) ggX5_best_X0_countWith
theorem dX5_best_0 : decode cX5_best 0 = .ok (.iload_n 1, 1) := by decide +kernel
theorem dX5_best_1 : decode cX5_best 1 = .ok (.invokestatic 112, 3) := by decide +kernel
theorem dX5_best_4 : decode cX5_best 4 = .ok (.ifCond .ne 5, 3) := by decide +kernel
theorem dX5_best_7 : decode cX5_best 7 = .ok (.iconst (-1), 1) := by decide +kernel
theorem dX5_best_8 : decode cX5_best 8 = .ok (.ireturn, 1) := by decide +kernel
theorem dX5_best_9 : decode cX5_best 9 = .ok (.iload_n 2, 1) := by decide +kernel
theorem dX5_best_10 : decode cX5_best 10 = .ok (.ifCond .eq 11, 3) := by decide +kernel
theorem dX5_best_13 : decode cX5_best 13 = .ok (.iload_n 2, 1) := by decide +kernel
theorem dX5_best_14 : decode cX5_best 14 = .ok (.iconst 1, 1) := by decide +kernel
theorem dX5_best_15 : decode cX5_best 15 = .ok (.if_icmp .eq 6, 3) := by decide +kernel
theorem dX5_best_18 : decode cX5_best 18 = .ok (.bipush (-2), 2) := by decide +kernel
theorem dX5_best_20 : decode cX5_best 20 = .ok (.ireturn, 1) := by decide +kernel
theorem dX5_best_21 : decode cX5_best 21 = .ok (.aload_n 0, 1) := by decide +kernel
theorem dX5_best_22 : decode cX5_best 22 = .ok (.invokevirtual 118, 3) := by decide +kernel
theorem dX5_best_25 : decode cX5_best 25 = .ok (.ifCond .ne 6, 3) := by decide +kernel
theorem dX5_best_28 : decode cX5_best 28 = .ok (.bipush (-3), 2) := by decide +kernel
theorem dX5_best_30 : decode cX5_best 30 = .ok (.ireturn, 1) := by decide +kernel
theorem dX5_best_31 : decode cX5_best 31 = .ok (.aload_n 0, 1) := by decide +kernel
theorem dX5_best_32 : decode cX5_best 32 = .ok (.iload_n 1, 1) := by decide +kernel
theorem dX5_best_33 : decode cX5_best 33 = .ok (.invokevirtual 151, 3) := by decide +kernel
theorem dX5_best_36 : decode cX5_best 36 = .ok (.aload_n 0, 1) := by decide +kernel
theorem dX5_best_37 : decode cX5_best 37 = .ok (.getfield 35, 3) := by decide +kernel
theorem dX5_best_40 : decode cX5_best 40 = .ok (.invokevirtual 155, 3) := by decide +kernel
theorem dX5_best_43 : decode cX5_best 43 = .ok (.pop, 1) := by decide +kernel
theorem dX5_best_44 : decode cX5_best 44 = .ok (.iconst 0, 1) := by decide +kernel
theorem dX5_best_45 : decode cX5_best 45 = .ok (.istore_n 3, 1) := by decide +kernel
theorem dX5_best_46 : decode cX5_best 46 = .ok (.iconst 0, 1) := by decide +kernel
theorem dX5_best_47 : decode cX5_best 47 = .ok (.istore 4, 2) := by decide +kernel
theorem dX5_best_49 : decode cX5_best 49 = .ok (.iconst 0, 1) := by decide +kernel
theorem dX5_best_50 : decode cX5_best 50 = .ok (.istore 5, 2) := by decide +kernel
theorem dX5_best_52 : decode cX5_best 52 = .ok (.iload 5, 2) := by decide +kernel
theorem dX5_best_54 : decode cX5_best 54 = .ok (.aload_n 0, 1) := by decide +kernel
theorem dX5_best_55 : decode cX5_best 55 = .ok (.getfield 28, 3) := by decide +kernel
theorem dX5_best_58 : decode cX5_best 58 = .ok (.invokevirtual 158, 3) := by decide +kernel
theorem dX5_best_61 : decode cX5_best 61 = .ok (.if_icmp .ge 44, 3) := by decide +kernel
theorem dX5_best_64 : decode cX5_best 64 = .ok (.aload_n 0, 1) := by decide +kernel
theorem dX5_best_65 : decode cX5_best 65 = .ok (.getfield 35, 3) := by decide +kernel
theorem dX5_best_68 : decode cX5_best 68 = .ok (.aload_n 0, 1) := by decide +kernel
theorem dX5_best_69 : decode cX5_best 69 = .ok (.getfield 28, 3) := by decide +kernel
theorem dX5_best_72 : decode cX5_best 72 = .ok (.iload 5, 2) := by decide +kernel
theorem dX5_best_74 : decode cX5_best 74 = .ok (.aload_n 0, 1) := by decide +kernel
theorem dX5_best_75 : decode cX5_best 75 = .ok (.getfield 50, 3) := by decide +kernel
theorem dX5_best_78 : decode cX5_best 78 = .ok (.iload_n 1, 1) := by decide +kernel
theorem dX5_best_79 : decode cX5_best 79 = .ok (.iaload, 1) := by decide +kernel
theorem dX5_best_80 : decode cX5_best 80 = .ok (.invokevirtual 161, 3) := by decide +kernel
theorem dX5_best_83 : decode cX5_best 83 = .ok (.istore 6, 2) := by decide +kernel
theorem dX5_best_85 : decode cX5_best 85 = .ok (.iload 6, 2) := by decide +kernel
theorem dX5_best_87 : decode cX5_best 87 = .ok (.iload 4, 2) := by decide +kernel
theorem dX5_best_89 : decode cX5_best 89 = .ok (.if_icmp .le 10, 3) := by decide +kernel
theorem dX5_best_92 : decode cX5_best 92 = .ok (.iload 6, 2) := by decide +kernel
theorem dX5_best_94 : decode cX5_best 94 = .ok (.istore 4, 2) := by decide +kernel
theorem dX5_best_96 : decode cX5_best 96 = .ok (.iload 5, 2) := by decide +kernel
theorem dX5_best_98 : decode cX5_best 98 = .ok (.istore_n 3, 1) := by decide +kernel
theorem dX5_best_99 : decode cX5_best 99 = .ok (.iinc 5 1, 3) := by decide +kernel
theorem dX5_best_102 : decode cX5_best 102 = .ok (.goto (-50), 3) := by decide +kernel
theorem dX5_best_105 : decode cX5_best 105 = .ok (.iload_n 2, 1) := by decide +kernel
theorem dX5_best_106 : decode cX5_best 106 = .ok (.ifCond .ne 7, 3) := by decide +kernel
theorem dX5_best_109 : decode cX5_best 109 = .ok (.iload_n 3, 1) := by decide +kernel
theorem dX5_best_110 : decode cX5_best 110 = .ok (.goto 5, 3) := by decide +kernel
theorem dX5_best_113 : decode cX5_best 113 = .ok (.iload 4, 2) := by decide +kernel
theorem dX5_best_115 : decode cX5_best 115 = .ok (.ireturn, 1) := by decide +kernel
set_option maxRecDepth 20000 in
theorem ggX5_words_X5_isHour : GoodIn wsX5_words wsX5_isHour := goodIn_r _ [9] (by decide +kernel) (by decide +kernel)
set_option maxRecDepth 20000 in
theorem gX5_words_X5_isHour : GoodIn wsX5_words (va_wsS RX5 112 yX5_isHour wsX5_isHour) := goodIn_app (goodIn_of _ (by decide +kernel)) ggX5_words_X5_isHour
set_option maxRecDepth 20000 in
theorem ggX5_words_X5_isHalfOfShare : GoodIn wsX5_words wsX5_isHalfOfShare := goodIn_r _ [12] (by decide +kernel) (by decide +kernel)
set_option maxRecDepth 20000 in
theorem gX5_words_X5_isHalfOfShare : GoodIn wsX5_words (va_wsS RX5 138 yX5_isHalfOfShare wsX5_isHalfOfShare) := goodIn_app (goodIn_of _ (by decide +kernel)) ggX5_words_X5_isHalfOfShare
set_option maxRecDepth 20000 in
theorem ggX5_words_X5_hasTown : GoodIn wsX5_words wsX5_hasTown := goodIn_r _ [16, 2, 17, 48, 49, 50, 51, 52, 53, 54, 55, 56, 57, 58, 59, 60, 61, 62, 63, 64, 65, 66] (by decide +kernel) (by decide +kernel)
set_option maxRecDepth 20000 in
theorem gX5_words_X5_hasTown : GoodIn wsX5_words (wsV RX5 118 RX5 yX5_hasTown wsX5_hasTown) := goodIn_app (goodIn_of _ (by decide +kernel)) ggX5_words_X5_hasTown
set_option maxRecDepth 20000 in
theorem ggX5_words_X5_callOfHour : GoodIn wsX5_words wsX5_callOfHour := goodIn_r _ [21, 2, 22, 23, 24, 25, 26, 27, 28, 29, 30, 8, 31, 48, 49, 50, 51, 52, 53, 54, 55, 56, 57, 58, 59, 60, 61, 62, 63, 64, 65, 66] (by decide +kernel) (by decide +kernel)
set_option maxRecDepth 20000 in
theorem gX5_words_X5_callOfHour : GoodIn wsX5_words (wsV RX5 122 RX5 yX5_callOfHour wsX5_callOfHour) := goodIn_app (goodIn_of _ (by decide +kernel)) ggX5_words_X5_callOfHour
set_option maxRecDepth 20000 in
theorem ggX5_words_X4_wordsIn : GoodIn wsX5_words wsX4_wordsIn := goodIn_r _ [35, 36, 37, 38, 8, 39, 40, 41, 58, 59, 60, 61, 62, 63, 64, 65, 66] (by decide +kernel) (by decide +kernel)
set_option maxRecDepth 20000 in
theorem gX5_words_X4_wordsIn : GoodIn wsX5_words (wsV RX5 165 RX4 yX4_wordsIn wsX4_wordsIn) := goodIn_app (goodIn_of _ (by decide +kernel)) ggX5_words_X4_wordsIn
set_option maxRecDepth 20000 in
theorem ggX5_words_X5_halfOfShare : GoodIn wsX5_words wsX5_halfOfShare := goodIn_r _ [44, 45, 46, 8, 47] (by decide +kernel) (by decide +kernel)
set_option maxRecDepth 20000 in
theorem gX5_words_X5_halfOfShare : GoodIn wsX5_words (va_wsS RX5 147 yX5_halfOfShare wsX5_halfOfShare) := goodIn_app (goodIn_of _ (by decide +kernel)) ggX5_words_X5_halfOfShare
theorem dX5_words_0 : decode cX5_words 0 = .ok (.iload_n 1, 1) := by decide +kernel
theorem dX5_words_1 : decode cX5_words 1 = .ok (.invokestatic 112, 3) := by decide +kernel
theorem dX5_words_4 : decode cX5_words 4 = .ok (.ifCond .eq 17, 3) := by decide +kernel
theorem dX5_words_7 : decode cX5_words 7 = .ok (.iload_n 2, 1) := by decide +kernel
theorem dX5_words_8 : decode cX5_words 8 = .ok (.invokestatic 138, 3) := by decide +kernel
theorem dX5_words_11 : decode cX5_words 11 = .ok (.ifCond .eq 10, 3) := by decide +kernel
theorem dX5_words_14 : decode cX5_words 14 = .ok (.aload_n 0, 1) := by decide +kernel
theorem dX5_words_15 : decode cX5_words 15 = .ok (.invokevirtual 118, 3) := by decide +kernel
theorem dX5_words_18 : decode cX5_words 18 = .ok (.ifCond .ne 7, 3) := by decide +kernel
theorem dX5_words_21 : decode cX5_words 21 = .ok (.ldc2_w 141, 3) := by decide +kernel
theorem dX5_words_24 : decode cX5_words 24 = .ok (.lreturn, 1) := by decide +kernel
theorem dX5_words_25 : decode cX5_words 25 = .ok (.lconst 0, 1) := by decide +kernel
theorem dX5_words_26 : decode cX5_words 26 = .ok (.lstore_n 3, 1) := by decide +kernel
theorem dX5_words_27 : decode cX5_words 27 = .ok (.lconst 0, 1) := by decide +kernel
theorem dX5_words_28 : decode cX5_words 28 = .ok (.lstore 5, 2) := by decide +kernel
theorem dX5_words_30 : decode cX5_words 30 = .ok (.iconst 0, 1) := by decide +kernel
theorem dX5_words_31 : decode cX5_words 31 = .ok (.istore 7, 2) := by decide +kernel
theorem dX5_words_33 : decode cX5_words 33 = .ok (.iload 7, 2) := by decide +kernel
theorem dX5_words_35 : decode cX5_words 35 = .ok (.aload_n 0, 1) := by decide +kernel
theorem dX5_words_36 : decode cX5_words 36 = .ok (.getfield 28, 3) := by decide +kernel
theorem dX5_words_39 : decode cX5_words 39 = .ok (.getfield 125, 3) := by decide +kernel
theorem dX5_words_42 : decode cX5_words 42 = .ok (.if_icmp .ge 67, 3) := by decide +kernel
theorem dX5_words_45 : decode cX5_words 45 = .ok (.aload_n 0, 1) := by decide +kernel
theorem dX5_words_46 : decode cX5_words 46 = .ok (.getfield 28, 3) := by decide +kernel
theorem dX5_words_49 : decode cX5_words 49 = .ok (.getfield 128, 3) := by decide +kernel
theorem dX5_words_52 : decode cX5_words 52 = .ok (.iload 7, 2) := by decide +kernel
theorem dX5_words_54 : decode cX5_words 54 = .ok (.iaload, 1) := by decide +kernel
theorem dX5_words_55 : decode cX5_words 55 = .ok (.istore 8, 2) := by decide +kernel
theorem dX5_words_57 : decode cX5_words 57 = .ok (.lload 5, 2) := by decide +kernel
theorem dX5_words_59 : decode cX5_words 59 = .ok (.aload_n 0, 1) := by decide +kernel
theorem dX5_words_60 : decode cX5_words 60 = .ok (.getfield 28, 3) := by decide +kernel
theorem dX5_words_63 : decode cX5_words 63 = .ok (.getfield 105, 3) := by decide +kernel
theorem dX5_words_66 : decode cX5_words 66 = .ok (.iload 8, 2) := by decide +kernel
theorem dX5_words_68 : decode cX5_words 68 = .ok (.iaload, 1) := by decide +kernel
theorem dX5_words_69 : decode cX5_words 69 = .ok (.i2l, 1) := by decide +kernel
theorem dX5_words_70 : decode cX5_words 70 = .ok (.ladd, 1) := by decide +kernel
theorem dX5_words_71 : decode cX5_words 71 = .ok (.lstore 5, 2) := by decide +kernel
theorem dX5_words_73 : decode cX5_words 73 = .ok (.lload_n 3, 1) := by decide +kernel
theorem dX5_words_74 : decode cX5_words 74 = .ok (.aload_n 0, 1) := by decide +kernel
theorem dX5_words_75 : decode cX5_words 75 = .ok (.getfield 28, 3) := by decide +kernel
theorem dX5_words_78 : decode cX5_words 78 = .ok (.getfield 105, 3) := by decide +kernel
theorem dX5_words_81 : decode cX5_words 81 = .ok (.iload 8, 2) := by decide +kernel
theorem dX5_words_83 : decode cX5_words 83 = .ok (.iaload, 1) := by decide +kernel
theorem dX5_words_84 : decode cX5_words 84 = .ok (.i2l, 1) := by decide +kernel
theorem dX5_words_85 : decode cX5_words 85 = .ok (.aload_n 0, 1) := by decide +kernel
theorem dX5_words_86 : decode cX5_words 86 = .ok (.getfield 28, 3) := by decide +kernel
theorem dX5_words_89 : decode cX5_words 89 = .ok (.aload_n 0, 1) := by decide +kernel
theorem dX5_words_90 : decode cX5_words 90 = .ok (.iload 8, 2) := by decide +kernel
theorem dX5_words_92 : decode cX5_words 92 = .ok (.iload_n 1, 1) := by decide +kernel
theorem dX5_words_93 : decode cX5_words 93 = .ok (.invokevirtual 122, 3) := by decide +kernel
theorem dX5_words_96 : decode cX5_words 96 = .ok (.invokevirtual 165, 3) := by decide +kernel
theorem dX5_words_99 : decode cX5_words 99 = .ok (.i2l, 1) := by decide +kernel
theorem dX5_words_100 : decode cX5_words 100 = .ok (.lmul, 1) := by decide +kernel
theorem dX5_words_101 : decode cX5_words 101 = .ok (.ladd, 1) := by decide +kernel
theorem dX5_words_102 : decode cX5_words 102 = .ok (.lstore_n 3, 1) := by decide +kernel
theorem dX5_words_103 : decode cX5_words 103 = .ok (.iinc 7 1, 3) := by decide +kernel
theorem dX5_words_106 : decode cX5_words 106 = .ok (.goto (-73), 3) := by decide +kernel
theorem dX5_words_109 : decode cX5_words 109 = .ok (.lload_n 3, 1) := by decide +kernel
theorem dX5_words_110 : decode cX5_words 110 = .ok (.lload 5, 2) := by decide +kernel
theorem dX5_words_112 : decode cX5_words 112 = .ok (.iload_n 2, 1) := by decide +kernel
theorem dX5_words_113 : decode cX5_words 113 = .ok (.invokestatic 147, 3) := by decide +kernel
theorem dX5_words_116 : decode cX5_words 116 = .ok (.lreturn, 1) := by decide +kernel
set_option maxRecDepth 20000 in
theorem ggX5_secret_X4_isCase : GoodIn wsX5_secret wsX4_isCase := goodIn_r _ [7, 8, 57, 58, 59, 60, 61, 62, 63, 64, 65] (by decide +kernel) (by decide +kernel)
set_option maxRecDepth 20000 in
theorem gX5_secret_X4_isCase : GoodIn wsX5_secret (wsV RX5 102 RX4 yX4_isCase wsX4_isCase) := goodIn_app (goodIn_of _ (by decide +kernel)) ggX5_secret_X4_isCase
set_option maxRecDepth 20000 in
theorem ggX5_secret_X4_isThing : GoodIn wsX5_secret wsX4_isThing := goodIn_r _ [12, 13, 57, 58, 59, 60, 61, 62, 63, 64, 65] (by decide +kernel) (by decide +kernel)
set_option maxRecDepth 20000 in
theorem gX5_secret_X4_isThing : GoodIn wsX5_secret (wsV RX5 84 RX4 yX4_isThing wsX4_isThing) := goodIn_app (goodIn_of _ (by decide +kernel)) ggX5_secret_X4_isThing
set_option maxRecDepth 20000 in
theorem ggX5_secret_X5_isHour : GoodIn wsX5_secret wsX5_isHour := goodIn_r _ [17] (by decide +kernel) (by decide +kernel)
set_option maxRecDepth 20000 in
theorem gX5_secret_X5_isHour : GoodIn wsX5_secret (va_wsS RX5 112 yX5_isHour wsX5_isHour) := goodIn_app (goodIn_of _ (by decide +kernel)) ggX5_secret_X5_isHour
set_option maxRecDepth 20000 in
theorem ggX5_secret_X4_isSet : GoodIn wsX5_secret wsX4_isSet := goodIn_r _ [21, 22, 23, 24, 6, 25, 26, 27, 28, 29, 13, 57, 58, 59, 60, 61, 62, 63, 64, 65] (by decide +kernel) (by decide +kernel)
set_option maxRecDepth 20000 in
theorem gX5_secret_X4_isSet : GoodIn wsX5_secret (wsV RX5 168 RX4 yX4_isSet wsX4_isSet) := goodIn_app (goodIn_of _ (by decide +kernel)) ggX5_secret_X4_isSet
set_option maxRecDepth 20000 in
theorem ggX5_secret_X4_sets : GoodIn wsX5_secret wsX4_sets := goodIn_r _ [29, 13, 57, 58, 59, 60, 61, 62, 63, 64, 65] (by decide +kernel) (by decide +kernel)
set_option maxRecDepth 20000 in
theorem gX5_secret_X4_sets : GoodIn wsX5_secret (wsV RX5 158 RX4 yX4_sets wsX4_sets) := goodIn_app (goodIn_of _ (by decide +kernel)) ggX5_secret_X4_sets
set_option maxRecDepth 20000 in
theorem ggX5_secret_X5_isSecret : GoodIn wsX5_secret wsX5_isSecret := goodIn_r _ [34, 1, 35, 36, 37, 38, 39, 6, 40, 41, 42, 16, 43, 44, 45, 46, 47, 48, 49, 50, 51, 52, 53, 54, 55, 56, 57, 58, 59, 60, 61, 62, 63, 64, 65] (by decide +kernel) (by decide +kernel)
set_option maxRecDepth 20000 in
theorem gX5_secret_X5_isSecret : GoodIn wsX5_secret (wsV RX5 171 RX5 yX5_isSecret wsX5_isSecret) := goodIn_app (goodIn_of _ (by decide +kernel)) ggX5_secret_X5_isSecret
theorem dX5_secret_0 : decode cX5_secret 0 = .ok (.aload_n 0, 1) := by decide +kernel
theorem dX5_secret_1 : decode cX5_secret 1 = .ok (.getfield 28, 3) := by decide +kernel
theorem dX5_secret_4 : decode cX5_secret 4 = .ok (.iload_n 1, 1) := by decide +kernel
theorem dX5_secret_5 : decode cX5_secret 5 = .ok (.invokevirtual 102, 3) := by decide +kernel
theorem dX5_secret_8 : decode cX5_secret 8 = .ok (.ifCond .eq 22, 3) := by decide +kernel
theorem dX5_secret_11 : decode cX5_secret 11 = .ok (.aload_n 0, 1) := by decide +kernel
theorem dX5_secret_12 : decode cX5_secret 12 = .ok (.getfield 28, 3) := by decide +kernel
theorem dX5_secret_15 : decode cX5_secret 15 = .ok (.iload_n 3, 1) := by decide +kernel
theorem dX5_secret_16 : decode cX5_secret 16 = .ok (.invokevirtual 84, 3) := by decide +kernel
theorem dX5_secret_19 : decode cX5_secret 19 = .ok (.ifCond .eq 11, 3) := by decide +kernel
theorem dX5_secret_22 : decode cX5_secret 22 = .ok (.iload 4, 2) := by decide +kernel
theorem dX5_secret_24 : decode cX5_secret 24 = .ok (.invokestatic 112, 3) := by decide +kernel
theorem dX5_secret_27 : decode cX5_secret 27 = .ok (.ifCond .ne 5, 3) := by decide +kernel
theorem dX5_secret_30 : decode cX5_secret 30 = .ok (.iconst (-1), 1) := by decide +kernel
theorem dX5_secret_31 : decode cX5_secret 31 = .ok (.ireturn, 1) := by decide +kernel
theorem dX5_secret_32 : decode cX5_secret 32 = .ok (.aload_n 0, 1) := by decide +kernel
theorem dX5_secret_33 : decode cX5_secret 33 = .ok (.getfield 28, 3) := by decide +kernel
theorem dX5_secret_36 : decode cX5_secret 36 = .ok (.iload_n 2, 1) := by decide +kernel
theorem dX5_secret_37 : decode cX5_secret 37 = .ok (.invokevirtual 168, 3) := by decide +kernel
theorem dX5_secret_40 : decode cX5_secret 40 = .ok (.ifCond .ne 6, 3) := by decide +kernel
theorem dX5_secret_43 : decode cX5_secret 43 = .ok (.bipush (-2), 2) := by decide +kernel
theorem dX5_secret_45 : decode cX5_secret 45 = .ok (.ireturn, 1) := by decide +kernel
