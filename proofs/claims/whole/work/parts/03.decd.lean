set_option maxRecDepth 20000 in
theorem gX5_refusalOfCells_X5_faulted : GoodIn wsX5_refusalOfCells (wsV RX5 212 RX5 yX5_faulted wsX5_faulted) := goodIn_app (goodIn_of _ (by decide +kernel)) ggX5_refusalOfCells_X5_faulted
set_option maxRecDepth 20000 in
theorem ggX5_refusalOfCells_X2_hasRow : GoodIn wsX5_refusalOfCells wsX2_hasRow := goodIn_r _ [24, 16, 40, 41, 42] (by decide +kernel) (by decide +kernel)
set_option maxRecDepth 20000 in
theorem gX5_refusalOfCells_X2_hasRow : GoodIn wsX5_refusalOfCells (wsV RX5 219 RX2 yX2_hasRow wsX2_hasRow) := goodIn_app (goodIn_of _ (by decide +kernel)) ggX5_refusalOfCells_X2_hasRow
set_option maxRecDepth 20000 in
theorem ggX5_refusalOfCells_X2_hasCells : GoodIn wsX5_refusalOfCells wsX2_hasCells := goodIn_r _ [28, 29, 40, 41, 42] (by decide +kernel) (by decide +kernel)
set_option maxRecDepth 20000 in
theorem gX5_refusalOfCells_X2_hasCells : GoodIn wsX5_refusalOfCells (wsV RX5 237 RX2 yX2_hasCells wsX2_hasCells) := goodIn_app (goodIn_of _ (by decide +kernel)) ggX5_refusalOfCells_X2_hasCells
theorem dX5_refusalOfCells_0 : decode cX5_refusalOfCells 0 = .ok (.aload_n 0, 1) := by decide +kernel
theorem dX5_refusalOfCells_1 : decode cX5_refusalOfCells 1 = .ok (.iconst 0, 1) := by decide +kernel
theorem dX5_refusalOfCells_2 : decode cX5_refusalOfCells 2 = .ok (.putfield 60, 3) := by decide +kernel
theorem dX5_refusalOfCells_5 : decode cX5_refusalOfCells 5 = .ok (.aload_n 0, 1) := by decide +kernel
theorem dX5_refusalOfCells_6 : decode cX5_refusalOfCells 6 = .ok (.getfield 12, 3) := by decide +kernel
theorem dX5_refusalOfCells_9 : decode cX5_refusalOfCells 9 = .ok (.iload_n 1, 1) := by decide +kernel
theorem dX5_refusalOfCells_10 : decode cX5_refusalOfCells 10 = .ok (.invokevirtual 206, 3) := by decide +kernel
theorem dX5_refusalOfCells_13 : decode cX5_refusalOfCells 13 = .ok (.ifCond .ne 5, 3) := by decide +kernel
theorem dX5_refusalOfCells_16 : decode cX5_refusalOfCells 16 = .ok (.iconst (-1), 1) := by decide +kernel
theorem dX5_refusalOfCells_17 : decode cX5_refusalOfCells 17 = .ok (.ireturn, 1) := by decide +kernel
theorem dX5_refusalOfCells_18 : decode cX5_refusalOfCells 18 = .ok (.iload_n 2, 1) := by decide +kernel
theorem dX5_refusalOfCells_19 : decode cX5_refusalOfCells 19 = .ok (.invokestatic 209, 3) := by decide +kernel
theorem dX5_refusalOfCells_22 : decode cX5_refusalOfCells 22 = .ok (.ifCond .ne 6, 3) := by decide +kernel
theorem dX5_refusalOfCells_25 : decode cX5_refusalOfCells 25 = .ok (.bipush (-2), 2) := by decide +kernel
theorem dX5_refusalOfCells_27 : decode cX5_refusalOfCells 27 = .ok (.ireturn, 1) := by decide +kernel
theorem dX5_refusalOfCells_28 : decode cX5_refusalOfCells 28 = .ok (.aload_n 0, 1) := by decide +kernel
theorem dX5_refusalOfCells_29 : decode cX5_refusalOfCells 29 = .ok (.getfield 12, 3) := by decide +kernel
theorem dX5_refusalOfCells_32 : decode cX5_refusalOfCells 32 = .ok (.iload_n 1, 1) := by decide +kernel
theorem dX5_refusalOfCells_33 : decode cX5_refusalOfCells 33 = .ok (.iload_n 2, 1) := by decide +kernel
theorem dX5_refusalOfCells_34 : decode cX5_refusalOfCells 34 = .ok (.invokevirtual 231, 3) := by decide +kernel
theorem dX5_refusalOfCells_37 : decode cX5_refusalOfCells 37 = .ok (.ifCond .ne 9, 3) := by decide +kernel
theorem dX5_refusalOfCells_40 : decode cX5_refusalOfCells 40 = .ok (.aload_n 0, 1) := by decide +kernel
theorem dX5_refusalOfCells_41 : decode cX5_refusalOfCells 41 = .ok (.iconst 2, 1) := by decide +kernel
theorem dX5_refusalOfCells_42 : decode cX5_refusalOfCells 42 = .ok (.invokevirtual 212, 3) := by decide +kernel
theorem dX5_refusalOfCells_45 : decode cX5_refusalOfCells 45 = .ok (.ireturn, 1) := by decide +kernel
theorem dX5_refusalOfCells_46 : decode cX5_refusalOfCells 46 = .ok (.aload_n 0, 1) := by decide +kernel
theorem dX5_refusalOfCells_47 : decode cX5_refusalOfCells 47 = .ok (.getfield 12, 3) := by decide +kernel
theorem dX5_refusalOfCells_50 : decode cX5_refusalOfCells 50 = .ok (.iload_n 1, 1) := by decide +kernel
theorem dX5_refusalOfCells_51 : decode cX5_refusalOfCells 51 = .ok (.invokevirtual 219, 3) := by decide +kernel
theorem dX5_refusalOfCells_54 : decode cX5_refusalOfCells 54 = .ok (.ifCond .ne 9, 3) := by decide +kernel
theorem dX5_refusalOfCells_57 : decode cX5_refusalOfCells 57 = .ok (.aload_n 0, 1) := by decide +kernel
theorem dX5_refusalOfCells_58 : decode cX5_refusalOfCells 58 = .ok (.iconst 1, 1) := by decide +kernel
theorem dX5_refusalOfCells_59 : decode cX5_refusalOfCells 59 = .ok (.invokevirtual 212, 3) := by decide +kernel
theorem dX5_refusalOfCells_62 : decode cX5_refusalOfCells 62 = .ok (.ireturn, 1) := by decide +kernel
theorem dX5_refusalOfCells_63 : decode cX5_refusalOfCells 63 = .ok (.iload 4, 2) := by decide +kernel
theorem dX5_refusalOfCells_65 : decode cX5_refusalOfCells 65 = .ok (.ifCond .ge 9, 3) := by decide +kernel
theorem dX5_refusalOfCells_68 : decode cX5_refusalOfCells 68 = .ok (.aload_n 0, 1) := by decide +kernel
theorem dX5_refusalOfCells_69 : decode cX5_refusalOfCells 69 = .ok (.iconst 4, 1) := by decide +kernel
theorem dX5_refusalOfCells_70 : decode cX5_refusalOfCells 70 = .ok (.invokevirtual 212, 3) := by decide +kernel
theorem dX5_refusalOfCells_73 : decode cX5_refusalOfCells 73 = .ok (.ireturn, 1) := by decide +kernel
theorem dX5_refusalOfCells_74 : decode cX5_refusalOfCells 74 = .ok (.aload_n 0, 1) := by decide +kernel
theorem dX5_refusalOfCells_75 : decode cX5_refusalOfCells 75 = .ok (.getfield 12, 3) := by decide +kernel
theorem dX5_refusalOfCells_78 : decode cX5_refusalOfCells 78 = .ok (.iload_n 1, 1) := by decide +kernel
theorem dX5_refusalOfCells_79 : decode cX5_refusalOfCells 79 = .ok (.iload_n 3, 1) := by decide +kernel
theorem dX5_refusalOfCells_80 : decode cX5_refusalOfCells 80 = .ok (.iload 4, 2) := by decide +kernel
theorem dX5_refusalOfCells_82 : decode cX5_refusalOfCells 82 = .ok (.invokevirtual 237, 3) := by decide +kernel
theorem dX5_refusalOfCells_85 : decode cX5_refusalOfCells 85 = .ok (.ifCond .eq 7, 3) := by decide +kernel
theorem dX5_refusalOfCells_88 : decode cX5_refusalOfCells 88 = .ok (.iconst 0, 1) := by decide +kernel
theorem dX5_refusalOfCells_89 : decode cX5_refusalOfCells 89 = .ok (.goto 8, 3) := by decide +kernel
theorem dX5_refusalOfCells_92 : decode cX5_refusalOfCells 92 = .ok (.aload_n 0, 1) := by decide +kernel
theorem dX5_refusalOfCells_93 : decode cX5_refusalOfCells 93 = .ok (.iconst 3, 1) := by decide +kernel
theorem dX5_refusalOfCells_94 : decode cX5_refusalOfCells 94 = .ok (.invokevirtual 212, 3) := by decide +kernel
theorem dX5_refusalOfCells_97 : decode cX5_refusalOfCells 97 = .ok (.ireturn, 1) := by decide +kernel
set_option maxRecDepth 20000 in
theorem ggX5_callOfHour_X4_callIn : GoodIn wsX5_callOfHour wsX4_callIn := goodIn_r _ [8, 9, 10, 11, 12, 23, 24, 25, 26, 27, 28, 29, 30, 31] (by decide +kernel) (by decide +kernel)
set_option maxRecDepth 20000 in
theorem gX5_callOfHour_X4_callIn : GoodIn wsX5_callOfHour (wsV RX5 262 RX4 yX4_callIn wsX4_callIn) := goodIn_app (goodIn_of _ (by decide +kernel)) ggX5_callOfHour_X4_callIn
theorem dX5_callOfHour_0 : decode cX5_callOfHour 0 = .ok (.aload_n 0, 1) := by decide +kernel
theorem dX5_callOfHour_1 : decode cX5_callOfHour 1 = .ok (.getfield 28, 3) := by decide +kernel
theorem dX5_callOfHour_4 : decode cX5_callOfHour 4 = .ok (.iload_n 1, 1) := by decide +kernel
theorem dX5_callOfHour_5 : decode cX5_callOfHour 5 = .ok (.aload_n 0, 1) := by decide +kernel
theorem dX5_callOfHour_6 : decode cX5_callOfHour 6 = .ok (.getfield 46, 3) := by decide +kernel
theorem dX5_callOfHour_9 : decode cX5_callOfHour 9 = .ok (.iload_n 2, 1) := by decide +kernel
theorem dX5_callOfHour_10 : decode cX5_callOfHour 10 = .ok (.iaload, 1) := by decide +kernel
theorem dX5_callOfHour_11 : decode cX5_callOfHour 11 = .ok (.aload_n 0, 1) := by decide +kernel
theorem dX5_callOfHour_12 : decode cX5_callOfHour 12 = .ok (.getfield 50, 3) := by decide +kernel
theorem dX5_callOfHour_15 : decode cX5_callOfHour 15 = .ok (.iload_n 2, 1) := by decide +kernel
theorem dX5_callOfHour_16 : decode cX5_callOfHour 16 = .ok (.iaload, 1) := by decide +kernel
theorem dX5_callOfHour_17 : decode cX5_callOfHour 17 = .ok (.invokevirtual 262, 3) := by decide +kernel
theorem dX5_callOfHour_20 : decode cX5_callOfHour 20 = .ok (.ireturn, 1) := by decide +kernel
set_option maxRecDepth 20000 in
theorem ggX5_isThought_X5_callOfHour : GoodIn wsX5_isThought wsX5_callOfHour := goodIn_r _ [6, 7, 8, 9, 10, 11, 12, 13, 14, 15, 16, 5, 17, 18, 19, 20, 21, 22, 23, 24, 25, 26, 27, 28, 29, 30, 31, 32, 33, 34, 35, 36] (by decide +kernel) (by decide +kernel)
set_option maxRecDepth 20000 in
theorem gX5_isThought_X5_callOfHour : GoodIn wsX5_isThought (wsV RX5 122 RX5 yX5_callOfHour wsX5_callOfHour) := goodIn_app (goodIn_of _ (by decide +kernel)) ggX5_isThought_X5_callOfHour
theorem dX5_isThought_0 : decode cX5_isThought 0 = .ok (.iconst 0, 1) := by decide +kernel
theorem dX5_isThought_1 : decode cX5_isThought 1 = .ok (.istore_n 2, 1) := by decide +kernel
theorem dX5_isThought_2 : decode cX5_isThought 2 = .ok (.iload_n 2, 1) := by decide +kernel
theorem dX5_isThought_3 : decode cX5_isThought 3 = .ok (.bipush 6, 2) := by decide +kernel
theorem dX5_isThought_5 : decode cX5_isThought 5 = .ok (.if_icmp .ge 37, 3) := by decide +kernel
theorem dX5_isThought_8 : decode cX5_isThought 8 = .ok (.aload_n 0, 1) := by decide +kernel
theorem dX5_isThought_9 : decode cX5_isThought 9 = .ok (.getfield 53, 3) := by decide +kernel
theorem dX5_isThought_12 : decode cX5_isThought 12 = .ok (.iload_n 2, 1) := by decide +kernel
theorem dX5_isThought_13 : decode cX5_isThought 13 = .ok (.iaload, 1) := by decide +kernel
theorem dX5_isThought_14 : decode cX5_isThought 14 = .ok (.bipush (-9), 2) := by decide +kernel
theorem dX5_isThought_16 : decode cX5_isThought 16 = .ok (.if_icmp .eq 20, 3) := by decide +kernel
theorem dX5_isThought_19 : decode cX5_isThought 19 = .ok (.aload_n 0, 1) := by decide +kernel
theorem dX5_isThought_20 : decode cX5_isThought 20 = .ok (.getfield 53, 3) := by decide +kernel
theorem dX5_isThought_23 : decode cX5_isThought 23 = .ok (.iload_n 2, 1) := by decide +kernel
theorem dX5_isThought_24 : decode cX5_isThought 24 = .ok (.iaload, 1) := by decide +kernel
theorem dX5_isThought_25 : decode cX5_isThought 25 = .ok (.aload_n 0, 1) := by decide +kernel
theorem dX5_isThought_26 : decode cX5_isThought 26 = .ok (.iload_n 1, 1) := by decide +kernel
theorem dX5_isThought_27 : decode cX5_isThought 27 = .ok (.iload_n 2, 1) := by decide +kernel
theorem dX5_isThought_28 : decode cX5_isThought 28 = .ok (.invokevirtual 122, 3) := by decide +kernel
theorem dX5_isThought_31 : decode cX5_isThought 31 = .ok (.if_icmp .eq 5, 3) := by decide +kernel
theorem dX5_isThought_34 : decode cX5_isThought 34 = .ok (.iconst 0, 1) := by decide +kernel
theorem dX5_isThought_35 : decode cX5_isThought 35 = .ok (.ireturn, 1) := by decide +kernel
theorem dX5_isThought_36 : decode cX5_isThought 36 = .ok (.iinc 2 1, 3) := by decide +kernel
theorem dX5_isThought_39 : decode cX5_isThought 39 = .ok (.goto (-37), 3) := by decide +kernel
theorem dX5_isThought_42 : decode cX5_isThought 42 = .ok (.iconst 1, 1) := by decide +kernel
theorem dX5_isThought_43 : decode cX5_isThought 43 = .ok (.ireturn, 1) := by decide +kernel
theorem dX5_countHeard_0 : decode cX5_countHeard 0 = .ok (.iconst 0, 1) := by decide +kernel
theorem dX5_countHeard_1 : decode cX5_countHeard 1 = .ok (.istore_n 1, 1) := by decide +kernel
theorem dX5_countHeard_2 : decode cX5_countHeard 2 = .ok (.iconst 0, 1) := by decide +kernel
theorem dX5_countHeard_3 : decode cX5_countHeard 3 = .ok (.istore_n 2, 1) := by decide +kernel
theorem dX5_countHeard_4 : decode cX5_countHeard 4 = .ok (.iload_n 2, 1) := by decide +kernel
theorem dX5_countHeard_5 : decode cX5_countHeard 5 = .ok (.bipush 6, 2) := by decide +kernel
theorem dX5_countHeard_7 : decode cX5_countHeard 7 = .ok (.if_icmp .ge 23, 3) := by decide +kernel
theorem dX5_countHeard_10 : decode cX5_countHeard 10 = .ok (.aload_n 0, 1) := by decide +kernel
theorem dX5_countHeard_11 : decode cX5_countHeard 11 = .ok (.getfield 53, 3) := by decide +kernel
theorem dX5_countHeard_14 : decode cX5_countHeard 14 = .ok (.iload_n 2, 1) := by decide +kernel
theorem dX5_countHeard_15 : decode cX5_countHeard 15 = .ok (.iaload, 1) := by decide +kernel
theorem dX5_countHeard_16 : decode cX5_countHeard 16 = .ok (.bipush (-9), 2) := by decide +kernel
theorem dX5_countHeard_18 : decode cX5_countHeard 18 = .ok (.if_icmp .eq 6, 3) := by decide +kernel
theorem dX5_countHeard_21 : decode cX5_countHeard 21 = .ok (.iinc 1 1, 3) := by decide +kernel
theorem dX5_countHeard_24 : decode cX5_countHeard 24 = .ok (.iinc 2 1, 3) := by decide +kernel
theorem dX5_countHeard_27 : decode cX5_countHeard 27 = .ok (.goto (-23), 3) := by decide +kernel
theorem dX5_countHeard_30 : decode cX5_countHeard 30 = .ok (.iload_n 1, 1) := by decide +kernel
theorem dX5_countHeard_31 : decode cX5_countHeard 31 = .ok (.ireturn, 1) := by decide +kernel
set_option maxRecDepth 20000 in
theorem ggX5_halfOfShare_X5_commonDivisor : GoodIn wsX5_halfOfShare wsX5_commonDivisor := goodIn_r _ [4] (by decide +kernel) (by decide +kernel)
set_option maxRecDepth 20000 in
theorem gX5_halfOfShare_X5_commonDivisor : GoodIn wsX5_halfOfShare (va_wsS RX5 265 yX5_commonDivisor wsX5_commonDivisor) := goodIn_app (goodIn_of _ (by decide +kernel)) ggX5_halfOfShare_X5_commonDivisor
theorem dX5_halfOfShare_0 : decode cX5_halfOfShare 0 = .ok (.lload_n 0, 1) := by decide +kernel
theorem dX5_halfOfShare_1 : decode cX5_halfOfShare 1 = .ok (.lload_n 2, 1) := by decide +kernel
theorem dX5_halfOfShare_2 : decode cX5_halfOfShare 2 = .ok (.invokestatic 265, 3) := by decide +kernel
theorem dX5_halfOfShare_5 : decode cX5_halfOfShare 5 = .ok (.lstore 5, 2) := by decide +kernel
theorem dX5_halfOfShare_7 : decode cX5_halfOfShare 7 = .ok (.lload_n 2, 1) := by decide +kernel
theorem dX5_halfOfShare_8 : decode cX5_halfOfShare 8 = .ok (.lconst 0, 1) := by decide +kernel
theorem dX5_halfOfShare_9 : decode cX5_halfOfShare 9 = .ok (.lcmp, 1) := by decide +kernel
theorem dX5_halfOfShare_10 : decode cX5_halfOfShare 10 = .ok (.ifCond .le 10, 3) := by decide +kernel
theorem dX5_halfOfShare_13 : decode cX5_halfOfShare 13 = .ok (.lload 5, 2) := by decide +kernel
theorem dX5_halfOfShare_15 : decode cX5_halfOfShare 15 = .ok (.lconst 0, 1) := by decide +kernel
theorem dX5_halfOfShare_16 : decode cX5_halfOfShare 16 = .ok (.lcmp, 1) := by decide +kernel
theorem dX5_halfOfShare_17 : decode cX5_halfOfShare 17 = .ok (.ifCond .gt 7, 3) := by decide +kernel
theorem dX5_halfOfShare_20 : decode cX5_halfOfShare 20 = .ok (.iload 4, 2) := by decide +kernel
theorem dX5_halfOfShare_22 : decode cX5_halfOfShare 22 = .ok (.i2l, 1) := by decide +kernel
theorem dX5_halfOfShare_23 : decode cX5_halfOfShare 23 = .ok (.lreturn, 1) := by decide +kernel
theorem dX5_halfOfShare_24 : decode cX5_halfOfShare 24 = .ok (.iload 4, 2) := by decide +kernel
theorem dX5_halfOfShare_26 : decode cX5_halfOfShare 26 = .ok (.ifCond .ne 7, 3) := by decide +kernel
theorem dX5_halfOfShare_29 : decode cX5_halfOfShare 29 = .ok (.lload_n 0, 1) := by decide +kernel
theorem dX5_halfOfShare_30 : decode cX5_halfOfShare 30 = .ok (.goto 4, 3) := by decide +kernel
theorem dX5_halfOfShare_33 : decode cX5_halfOfShare 33 = .ok (.lload_n 2, 1) := by decide +kernel
theorem dX5_halfOfShare_34 : decode cX5_halfOfShare 34 = .ok (.lload 5, 2) := by decide +kernel
theorem dX5_halfOfShare_36 : decode cX5_halfOfShare 36 = .ok (.ldiv, 1) := by decide +kernel
theorem dX5_halfOfShare_37 : decode cX5_halfOfShare 37 = .ok (.lreturn, 1) := by decide +kernel
theorem dX5_commonDivisor_0 : decode cX5_commonDivisor 0 = .ok (.lload_n 0, 1) := by decide +kernel
theorem dX5_commonDivisor_1 : decode cX5_commonDivisor 1 = .ok (.lstore 4, 2) := by decide +kernel
theorem dX5_commonDivisor_3 : decode cX5_commonDivisor 3 = .ok (.lload_n 2, 1) := by decide +kernel
theorem dX5_commonDivisor_4 : decode cX5_commonDivisor 4 = .ok (.lstore 6, 2) := by decide +kernel
theorem dX5_commonDivisor_6 : decode cX5_commonDivisor 6 = .ok (.iconst 0, 1) := by decide +kernel
theorem dX5_commonDivisor_7 : decode cX5_commonDivisor 7 = .ok (.istore 8, 2) := by decide +kernel
theorem dX5_commonDivisor_9 : decode cX5_commonDivisor 9 = .ok (.iload 8, 2) := by decide +kernel
theorem dX5_commonDivisor_11 : decode cX5_commonDivisor 11 = .ok (.sipush 128, 3) := by decide +kernel
theorem dX5_commonDivisor_14 : decode cX5_commonDivisor 14 = .ok (.if_icmp .ge 31, 3) := by decide +kernel
theorem dX5_commonDivisor_17 : decode cX5_commonDivisor 17 = .ok (.lload 6, 2) := by decide +kernel
theorem dX5_commonDivisor_19 : decode cX5_commonDivisor 19 = .ok (.lconst 0, 1) := by decide +kernel
theorem dX5_commonDivisor_20 : decode cX5_commonDivisor 20 = .ok (.lcmp, 1) := by decide +kernel
theorem dX5_commonDivisor_21 : decode cX5_commonDivisor 21 = .ok (.ifCond .eq 24, 3) := by decide +kernel
theorem dX5_commonDivisor_24 : decode cX5_commonDivisor 24 = .ok (.lload 4, 2) := by decide +kernel
theorem dX5_commonDivisor_26 : decode cX5_commonDivisor 26 = .ok (.lload 6, 2) := by decide +kernel
theorem dX5_commonDivisor_28 : decode cX5_commonDivisor 28 = .ok (.lrem, 1) := by decide +kernel
theorem dX5_commonDivisor_29 : decode cX5_commonDivisor 29 = .ok (.lstore 9, 2) := by decide +kernel
theorem dX5_commonDivisor_31 : decode cX5_commonDivisor 31 = .ok (.lload 6, 2) := by decide +kernel
theorem dX5_commonDivisor_33 : decode cX5_commonDivisor 33 = .ok (.lstore 4, 2) := by decide +kernel
theorem dX5_commonDivisor_35 : decode cX5_commonDivisor 35 = .ok (.lload 9, 2) := by decide +kernel
theorem dX5_commonDivisor_37 : decode cX5_commonDivisor 37 = .ok (.lstore 6, 2) := by decide +kernel
theorem dX5_commonDivisor_39 : decode cX5_commonDivisor 39 = .ok (.iinc 8 1, 3) := by decide +kernel
theorem dX5_commonDivisor_42 : decode cX5_commonDivisor 42 = .ok (.goto (-33), 3) := by decide +kernel
theorem dX5_commonDivisor_45 : decode cX5_commonDivisor 45 = .ok (.lload 4, 2) := by decide +kernel
theorem dX5_commonDivisor_47 : decode cX5_commonDivisor 47 = .ok (.lreturn, 1) := by decide +kernel
set_option maxRecDepth 20000 in
theorem ggX5_splitByHours_X0_begin : GoodIn wsX5_splitByHours wsX0_begin := goodIn_r _ [9, 10, 11, 12, 13, 14, 15, 16, 41, 42, 43, 44, 45, 46, 47, 48, 49, 50, 51, 52, 53, 54] (by decide +kernel) (by decide +kernel)
set_option maxRecDepth 20000 in
theorem gX5_splitByHours_X0_begin : GoodIn wsX5_splitByHours (wsV RX5 184 RX0 yX0_begin wsX0_begin) := goodIn_app (goodIn_of _ (by decide +kernel)) ggX5_splitByHours_X0_begin
set_option maxRecDepth 20000 in
theorem ggX5_splitByHours_X0_splitBy : GoodIn wsX5_splitByHours wsX0_splitBy := goodIn_r _ [20, 15, 16, 21, 22, 23, 24, 25, 26, 27, 28, 29, 30, 50, 51, 52, 53, 54, 41, 42, 43, 44, 45, 46, 47, 48, 49] (by decide +kernel) (by decide +kernel)
set_option maxRecDepth 20000 in
theorem gX5_splitByHours_X0_splitBy : GoodIn wsX5_splitByHours (wsV RX5 188 RX0 yX0_splitBy wsX0_splitBy) := goodIn_app (goodIn_of _ (by decide +kernel)) ggX5_splitByHours_X0_splitBy
theorem dX5_splitByHours_0 : decode cX5_splitByHours 0 = .ok (.aload_n 0, 1) := by decide +kernel
theorem dX5_splitByHours_1 : decode cX5_splitByHours 1 = .ok (.getfield 35, 3) := by decide +kernel
theorem dX5_splitByHours_4 : decode cX5_splitByHours 4 = .ok (.aload_n 0, 1) := by decide +kernel
theorem dX5_splitByHours_5 : decode cX5_splitByHours 5 = .ok (.getfield 28, 3) := by decide +kernel
theorem dX5_splitByHours_8 : decode cX5_splitByHours 8 = .ok (.invokevirtual 184, 3) := by decide +kernel
theorem dX5_splitByHours_11 : decode cX5_splitByHours 11 = .ok (.iconst 0, 1) := by decide +kernel
theorem dX5_splitByHours_12 : decode cX5_splitByHours 12 = .ok (.istore_n 2, 1) := by decide +kernel
theorem dX5_splitByHours_13 : decode cX5_splitByHours 13 = .ok (.iload_n 2, 1) := by decide +kernel
theorem dX5_splitByHours_14 : decode cX5_splitByHours 14 = .ok (.iload_n 1, 1) := by decide +kernel
theorem dX5_splitByHours_15 : decode cX5_splitByHours 15 = .ok (.if_icmp .ge 38, 3) := by decide +kernel
theorem dX5_splitByHours_18 : decode cX5_splitByHours 18 = .ok (.iload_n 2, 1) := by decide +kernel
theorem dX5_splitByHours_19 : decode cX5_splitByHours 19 = .ok (.bipush 6, 2) := by decide +kernel
theorem dX5_splitByHours_21 : decode cX5_splitByHours 21 = .ok (.if_icmp .ge 32, 3) := by decide +kernel
theorem dX5_splitByHours_24 : decode cX5_splitByHours 24 = .ok (.aload_n 0, 1) := by decide +kernel
theorem dX5_splitByHours_25 : decode cX5_splitByHours 25 = .ok (.getfield 35, 3) := by decide +kernel
theorem dX5_splitByHours_28 : decode cX5_splitByHours 28 = .ok (.aload_n 0, 1) := by decide +kernel
theorem dX5_splitByHours_29 : decode cX5_splitByHours 29 = .ok (.getfield 28, 3) := by decide +kernel
theorem dX5_splitByHours_32 : decode cX5_splitByHours 32 = .ok (.aload_n 0, 1) := by decide +kernel
theorem dX5_splitByHours_33 : decode cX5_splitByHours 33 = .ok (.getfield 46, 3) := by decide +kernel
theorem dX5_splitByHours_36 : decode cX5_splitByHours 36 = .ok (.iload_n 2, 1) := by decide +kernel
theorem dX5_splitByHours_37 : decode cX5_splitByHours 37 = .ok (.iaload, 1) := by decide +kernel
theorem dX5_splitByHours_38 : decode cX5_splitByHours 38 = .ok (.aload_n 0, 1) := by decide +kernel
theorem dX5_splitByHours_39 : decode cX5_splitByHours 39 = .ok (.getfield 50, 3) := by decide +kernel
theorem dX5_splitByHours_42 : decode cX5_splitByHours 42 = .ok (.iload_n 2, 1) := by decide +kernel
theorem dX5_splitByHours_43 : decode cX5_splitByHours 43 = .ok (.iaload, 1) := by decide +kernel
theorem dX5_splitByHours_44 : decode cX5_splitByHours 44 = .ok (.invokevirtual 188, 3) := by decide +kernel
theorem dX5_splitByHours_47 : decode cX5_splitByHours 47 = .ok (.iinc 2 1, 3) := by decide +kernel
theorem dX5_splitByHours_50 : decode cX5_splitByHours 50 = .ok (.goto (-37), 3) := by decide +kernel
theorem dX5_splitByHours_53 : decode cX5_splitByHours 53 = .ok (.return_, 1) := by decide +kernel
set_option maxRecDepth 20000 in
theorem ggX5_areBreaths_X2_at : GoodIn wsX5_areBreaths wsX2_at := goodIn_r _ [6, 7, 8, 9, 10, 5, 11, 12, 27, 28, 29] (by decide +kernel) (by decide +kernel)
set_option maxRecDepth 20000 in
theorem gX5_areBreaths_X2_at : GoodIn wsX5_areBreaths (wsV RX5 203 RX2 yX2_at wsX2_at) := goodIn_app (goodIn_of _ (by decide +kernel)) ggX5_areBreaths_X2_at
set_option maxRecDepth 20000 in
theorem ggX5_areBreaths_X5_isBreath : GoodIn wsX5_areBreaths wsX5_isBreath := goodIn_r _ [16] (by decide +kernel) (by decide +kernel)
set_option maxRecDepth 20000 in
theorem gX5_areBreaths_X5_isBreath : GoodIn wsX5_areBreaths (va_wsS RX5 115 yX5_isBreath wsX5_isBreath) := goodIn_app (goodIn_of _ (by decide +kernel)) ggX5_areBreaths_X5_isBreath
theorem dX5_areBreaths_0 : decode cX5_areBreaths 0 = .ok (.iconst 0, 1) := by decide +kernel
theorem dX5_areBreaths_1 : decode cX5_areBreaths 1 = .ok (.istore 4, 2) := by decide +kernel
theorem dX5_areBreaths_3 : decode cX5_areBreaths 3 = .ok (.iload 4, 2) := by decide +kernel
theorem dX5_areBreaths_5 : decode cX5_areBreaths 5 = .ok (.iload_n 3, 1) := by decide +kernel
theorem dX5_areBreaths_6 : decode cX5_areBreaths 6 = .ok (.if_icmp .ge 36, 3) := by decide +kernel
theorem dX5_areBreaths_9 : decode cX5_areBreaths 9 = .ok (.iload 4, 2) := by decide +kernel
theorem dX5_areBreaths_11 : decode cX5_areBreaths 11 = .ok (.bipush 6, 2) := by decide +kernel
theorem dX5_areBreaths_13 : decode cX5_areBreaths 13 = .ok (.if_icmp .ge 29, 3) := by decide +kernel
theorem dX5_areBreaths_16 : decode cX5_areBreaths 16 = .ok (.aload_n 0, 1) := by decide +kernel
theorem dX5_areBreaths_17 : decode cX5_areBreaths 17 = .ok (.getfield 12, 3) := by decide +kernel
theorem dX5_areBreaths_20 : decode cX5_areBreaths 20 = .ok (.iload_n 1, 1) := by decide +kernel
theorem dX5_areBreaths_21 : decode cX5_areBreaths 21 = .ok (.iload_n 2, 1) := by decide +kernel
theorem dX5_areBreaths_22 : decode cX5_areBreaths 22 = .ok (.iload 4, 2) := by decide +kernel
theorem dX5_areBreaths_24 : decode cX5_areBreaths 24 = .ok (.iadd, 1) := by decide +kernel
theorem dX5_areBreaths_25 : decode cX5_areBreaths 25 = .ok (.invokevirtual 203, 3) := by decide +kernel
theorem dX5_areBreaths_28 : decode cX5_areBreaths 28 = .ok (.invokestatic 115, 3) := by decide +kernel
theorem dX5_areBreaths_31 : decode cX5_areBreaths 31 = .ok (.ifCond .ne 5, 3) := by decide +kernel
theorem dX5_areBreaths_34 : decode cX5_areBreaths 34 = .ok (.iconst 0, 1) := by decide +kernel
theorem dX5_areBreaths_35 : decode cX5_areBreaths 35 = .ok (.ireturn, 1) := by decide +kernel
theorem dX5_areBreaths_36 : decode cX5_areBreaths 36 = .ok (.iinc 4 1, 3) := by decide +kernel
theorem dX5_areBreaths_39 : decode cX5_areBreaths 39 = .ok (.goto (-36), 3) := by decide +kernel
theorem dX5_areBreaths_42 : decode cX5_areBreaths 42 = .ok (.iconst 1, 1) := by decide +kernel
theorem dX5_areBreaths_43 : decode cX5_areBreaths 43 = .ok (.ireturn, 1) := by decide +kernel
set_option maxRecDepth 20000 in
theorem ggX5_isSecret_X4_callIn : GoodIn wsX5_isSecret wsX4_callIn := goodIn_r _ [8, 9, 10, 11, 12, 26, 27, 28, 29, 30, 31, 32, 33, 34] (by decide +kernel) (by decide +kernel)
set_option maxRecDepth 20000 in
theorem gX5_isSecret_X4_callIn : GoodIn wsX5_isSecret (wsV RX5 262 RX4 yX4_callIn wsX4_callIn) := goodIn_app (goodIn_of _ (by decide +kernel)) ggX5_isSecret_X4_callIn
set_option maxRecDepth 20000 in
theorem ggX5_isSecret_X5_has : GoodIn wsX5_isSecret wsX5_has := goodIn_r _ [15] (by decide +kernel) (by decide +kernel)
set_option maxRecDepth 20000 in
theorem gX5_isSecret_X5_has : GoodIn wsX5_isSecret (va_wsS RX5 143 yX5_has wsX5_has) := goodIn_app (goodIn_of _ (by decide +kernel)) ggX5_isSecret_X5_has
theorem dX5_isSecret_0 : decode cX5_isSecret 0 = .ok (.aload_n 0, 1) := by decide +kernel
theorem dX5_isSecret_1 : decode cX5_isSecret 1 = .ok (.getfield 28, 3) := by decide +kernel
theorem dX5_isSecret_4 : decode cX5_isSecret 4 = .ok (.iload_n 1, 1) := by decide +kernel
theorem dX5_isSecret_5 : decode cX5_isSecret 5 = .ok (.iload 4, 2) := by decide +kernel
theorem dX5_isSecret_7 : decode cX5_isSecret 7 = .ok (.iload 5, 2) := by decide +kernel
theorem dX5_isSecret_9 : decode cX5_isSecret 9 = .ok (.invokevirtual 262, 3) := by decide +kernel
theorem dX5_isSecret_12 : decode cX5_isSecret 12 = .ok (.istore 6, 2) := by decide +kernel
theorem dX5_isSecret_14 : decode cX5_isSecret 14 = .ok (.iconst 0, 1) := by decide +kernel
theorem dX5_isSecret_15 : decode cX5_isSecret 15 = .ok (.istore 7, 2) := by decide +kernel
theorem dX5_isSecret_17 : decode cX5_isSecret 17 = .ok (.iconst 0, 1) := by decide +kernel
theorem dX5_isSecret_18 : decode cX5_isSecret 18 = .ok (.istore 8, 2) := by decide +kernel
theorem dX5_isSecret_20 : decode cX5_isSecret 20 = .ok (.iload 8, 2) := by decide +kernel
theorem dX5_isSecret_22 : decode cX5_isSecret 22 = .ok (.aload_n 0, 1) := by decide +kernel
theorem dX5_isSecret_23 : decode cX5_isSecret 23 = .ok (.getfield 28, 3) := by decide +kernel
theorem dX5_isSecret_26 : decode cX5_isSecret 26 = .ok (.getfield 125, 3) := by decide +kernel
theorem dX5_isSecret_29 : decode cX5_isSecret 29 = .ok (.if_icmp .ge 70, 3) := by decide +kernel
theorem dX5_isSecret_32 : decode cX5_isSecret 32 = .ok (.aload_n 0, 1) := by decide +kernel
theorem dX5_isSecret_33 : decode cX5_isSecret 33 = .ok (.getfield 28, 3) := by decide +kernel
theorem dX5_isSecret_36 : decode cX5_isSecret 36 = .ok (.getfield 128, 3) := by decide +kernel
theorem dX5_isSecret_39 : decode cX5_isSecret 39 = .ok (.iload 8, 2) := by decide +kernel
theorem dX5_isSecret_41 : decode cX5_isSecret 41 = .ok (.iaload, 1) := by decide +kernel
theorem dX5_isSecret_42 : decode cX5_isSecret 42 = .ok (.iload_n 1, 1) := by decide +kernel
theorem dX5_isSecret_43 : decode cX5_isSecret 43 = .ok (.ixor, 1) := by decide +kernel
theorem dX5_isSecret_44 : decode cX5_isSecret 44 = .ok (.istore 9, 2) := by decide +kernel
theorem dX5_isSecret_46 : decode cX5_isSecret 46 = .ok (.iload 9, 2) := by decide +kernel
theorem dX5_isSecret_48 : decode cX5_isSecret 48 = .ok (.iload_n 3, 1) := by decide +kernel
theorem dX5_isSecret_49 : decode cX5_isSecret 49 = .ok (.invokestatic 143, 3) := by decide +kernel
theorem dX5_isSecret_52 : decode cX5_isSecret 52 = .ok (.ifCond .eq 41, 3) := by decide +kernel
theorem dX5_isSecret_55 : decode cX5_isSecret 55 = .ok (.aload_n 0, 1) := by decide +kernel
theorem dX5_isSecret_56 : decode cX5_isSecret 56 = .ok (.getfield 28, 3) := by decide +kernel
theorem dX5_isSecret_59 : decode cX5_isSecret 59 = .ok (.aload_n 0, 1) := by decide +kernel
theorem dX5_isSecret_60 : decode cX5_isSecret 60 = .ok (.getfield 28, 3) := by decide +kernel
theorem dX5_isSecret_63 : decode cX5_isSecret 63 = .ok (.getfield 128, 3) := by decide +kernel
theorem dX5_isSecret_66 : decode cX5_isSecret 66 = .ok (.iload 8, 2) := by decide +kernel
theorem dX5_isSecret_68 : decode cX5_isSecret 68 = .ok (.iaload, 1) := by decide +kernel
theorem dX5_isSecret_69 : decode cX5_isSecret 69 = .ok (.iload 4, 2) := by decide +kernel
theorem dX5_isSecret_71 : decode cX5_isSecret 71 = .ok (.iload 5, 2) := by decide +kernel
theorem dX5_isSecret_73 : decode cX5_isSecret 73 = .ok (.invokevirtual 262, 3) := by decide +kernel
theorem dX5_isSecret_76 : decode cX5_isSecret 76 = .ok (.iload 6, 2) := by decide +kernel
theorem dX5_isSecret_78 : decode cX5_isSecret 78 = .ok (.if_icmp .ne 15, 3) := by decide +kernel
theorem dX5_isSecret_81 : decode cX5_isSecret 81 = .ok (.iload 9, 2) := by decide +kernel
theorem dX5_isSecret_83 : decode cX5_isSecret 83 = .ok (.iload_n 2, 1) := by decide +kernel
theorem dX5_isSecret_84 : decode cX5_isSecret 84 = .ok (.iand, 1) := by decide +kernel
theorem dX5_isSecret_85 : decode cX5_isSecret 85 = .ok (.ifCond .ne 5, 3) := by decide +kernel
theorem dX5_isSecret_88 : decode cX5_isSecret 88 = .ok (.iconst 0, 1) := by decide +kernel
theorem dX5_isSecret_89 : decode cX5_isSecret 89 = .ok (.ireturn, 1) := by decide +kernel
theorem dX5_isSecret_90 : decode cX5_isSecret 90 = .ok (.iconst 1, 1) := by decide +kernel
theorem dX5_isSecret_91 : decode cX5_isSecret 91 = .ok (.istore 7, 2) := by decide +kernel
theorem dX5_isSecret_93 : decode cX5_isSecret 93 = .ok (.iinc 8 1, 3) := by decide +kernel
theorem dX5_isSecret_96 : decode cX5_isSecret 96 = .ok (.goto (-76), 3) := by decide +kernel
theorem dX5_isSecret_99 : decode cX5_isSecret 99 = .ok (.iload 7, 2) := by decide +kernel
theorem dX5_isSecret_101 : decode cX5_isSecret 101 = .ok (.ireturn, 1) := by decide +kernel
set_option maxRecDepth 20000 in
theorem ggX5_tells_X4_callIn : GoodIn wsX5_tells wsX4_callIn := goodIn_r _ [8, 9, 10, 11, 12, 26, 27, 28, 29, 30, 31, 32, 33, 34] (by decide +kernel) (by decide +kernel)
set_option maxRecDepth 20000 in
theorem gX5_tells_X4_callIn : GoodIn wsX5_tells (wsV RX5 262 RX4 yX4_callIn wsX4_callIn) := goodIn_app (goodIn_of _ (by decide +kernel)) ggX5_tells_X4_callIn
set_option maxRecDepth 20000 in
theorem ggX5_tells_X5_has : GoodIn wsX5_tells wsX5_has := goodIn_r _ [15] (by decide +kernel) (by decide +kernel)
set_option maxRecDepth 20000 in
theorem gX5_tells_X5_has : GoodIn wsX5_tells (va_wsS RX5 143 yX5_has wsX5_has) := goodIn_app (goodIn_of _ (by decide +kernel)) ggX5_tells_X5_has
theorem dX5_tells_0 : decode cX5_tells 0 = .ok (.lconst 0, 1) := by decide +kernel
theorem dX5_tells_1 : decode cX5_tells 1 = .ok (.lstore 4, 2) := by decide +kernel
theorem dX5_tells_3 : decode cX5_tells 3 = .ok (.lconst 0, 1) := by decide +kernel
theorem dX5_tells_4 : decode cX5_tells 4 = .ok (.lstore 6, 2) := by decide +kernel
theorem dX5_tells_6 : decode cX5_tells 6 = .ok (.iconst 0, 1) := by decide +kernel
theorem dX5_tells_7 : decode cX5_tells 7 = .ok (.istore 8, 2) := by decide +kernel
theorem dX5_tells_9 : decode cX5_tells 9 = .ok (.iload 8, 2) := by decide +kernel
theorem dX5_tells_11 : decode cX5_tells 11 = .ok (.aload_n 0, 1) := by decide +kernel
theorem dX5_tells_12 : decode cX5_tells 12 = .ok (.getfield 28, 3) := by decide +kernel
theorem dX5_tells_15 : decode cX5_tells 15 = .ok (.getfield 125, 3) := by decide +kernel
theorem dX5_tells_18 : decode cX5_tells 18 = .ok (.if_icmp .ge 62, 3) := by decide +kernel
theorem dX5_tells_21 : decode cX5_tells 21 = .ok (.aload_n 0, 1) := by decide +kernel
theorem dX5_tells_22 : decode cX5_tells 22 = .ok (.getfield 28, 3) := by decide +kernel
theorem dX5_tells_25 : decode cX5_tells 25 = .ok (.getfield 128, 3) := by decide +kernel
theorem dX5_tells_28 : decode cX5_tells 28 = .ok (.iload 8, 2) := by decide +kernel
theorem dX5_tells_30 : decode cX5_tells 30 = .ok (.iaload, 1) := by decide +kernel
theorem dX5_tells_31 : decode cX5_tells 31 = .ok (.istore 9, 2) := by decide +kernel
theorem dX5_tells_33 : decode cX5_tells 33 = .ok (.lconst 1, 1) := by decide +kernel
theorem dX5_tells_34 : decode cX5_tells 34 = .ok (.aload_n 0, 1) := by decide +kernel
theorem dX5_tells_35 : decode cX5_tells 35 = .ok (.getfield 28, 3) := by decide +kernel
theorem dX5_tells_38 : decode cX5_tells 38 = .ok (.iload 9, 2) := by decide +kernel
theorem dX5_tells_40 : decode cX5_tells 40 = .ok (.iload_n 2, 1) := by decide +kernel
theorem dX5_tells_41 : decode cX5_tells 41 = .ok (.iload_n 3, 1) := by decide +kernel
theorem dX5_tells_42 : decode cX5_tells 42 = .ok (.invokevirtual 262, 3) := by decide +kernel
theorem dX5_tells_45 : decode cX5_tells 45 = .ok (.lshl, 1) := by decide +kernel
theorem dX5_tells_46 : decode cX5_tells 46 = .ok (.lstore 10, 2) := by decide +kernel
theorem dX5_tells_48 : decode cX5_tells 48 = .ok (.iload 9, 2) := by decide +kernel
theorem dX5_tells_50 : decode cX5_tells 50 = .ok (.iload_n 1, 1) := by decide +kernel
theorem dX5_tells_51 : decode cX5_tells 51 = .ok (.invokestatic 143, 3) := by decide +kernel
theorem dX5_tells_54 : decode cX5_tells 54 = .ok (.ifCond .eq 13, 3) := by decide +kernel
theorem dX5_tells_57 : decode cX5_tells 57 = .ok (.lload 4, 2) := by decide +kernel
theorem dX5_tells_59 : decode cX5_tells 59 = .ok (.lload 10, 2) := by decide +kernel
theorem dX5_tells_61 : decode cX5_tells 61 = .ok (.lor, 1) := by decide +kernel
theorem dX5_tells_62 : decode cX5_tells 62 = .ok (.lstore 4, 2) := by decide +kernel
theorem dX5_tells_64 : decode cX5_tells 64 = .ok (.goto 10, 3) := by decide +kernel
theorem dX5_tells_67 : decode cX5_tells 67 = .ok (.lload 6, 2) := by decide +kernel
theorem dX5_tells_69 : decode cX5_tells 69 = .ok (.lload 10, 2) := by decide +kernel
theorem dX5_tells_71 : decode cX5_tells 71 = .ok (.lor, 1) := by decide +kernel
theorem dX5_tells_72 : decode cX5_tells 72 = .ok (.lstore 6, 2) := by decide +kernel
theorem dX5_tells_74 : decode cX5_tells 74 = .ok (.iinc 8 1, 3) := by decide +kernel
theorem dX5_tells_77 : decode cX5_tells 77 = .ok (.goto (-68), 3) := by decide +kernel
theorem dX5_tells_80 : decode cX5_tells 80 = .ok (.lload 4, 2) := by decide +kernel
theorem dX5_tells_82 : decode cX5_tells 82 = .ok (.lload 6, 2) := by decide +kernel
theorem dX5_tells_84 : decode cX5_tells 84 = .ok (.land, 1) := by decide +kernel
theorem dX5_tells_85 : decode cX5_tells 85 = .ok (.lconst 0, 1) := by decide +kernel
theorem dX5_tells_86 : decode cX5_tells 86 = .ok (.lcmp, 1) := by decide +kernel
theorem dX5_tells_87 : decode cX5_tells 87 = .ok (.ifCond .ne 7, 3) := by decide +kernel
theorem dX5_tells_90 : decode cX5_tells 90 = .ok (.iconst 1, 1) := by decide +kernel
theorem dX5_tells_91 : decode cX5_tells 91 = .ok (.goto 4, 3) := by decide +kernel
theorem dX5_tells_94 : decode cX5_tells 94 = .ok (.iconst 0, 1) := by decide +kernel
theorem dX5_tells_95 : decode cX5_tells 95 = .ok (.ireturn, 1) := by decide +kernel
theorem dX5_leaveTrace_0 : decode cX5_leaveTrace 0 = .ok (.aload_n 0, 1) := by decide +kernel
theorem dX5_leaveTrace_1 : decode cX5_leaveTrace 1 = .ok (.bipush 31, 2) := by decide +kernel
theorem dX5_leaveTrace_3 : decode cX5_leaveTrace 3 = .ok (.aload_n 0, 1) := by decide +kernel
theorem dX5_leaveTrace_4 : decode cX5_leaveTrace 4 = .ok (.getfield 56, 3) := by decide +kernel
theorem dX5_leaveTrace_7 : decode cX5_leaveTrace 7 = .ok (.imul, 1) := by decide +kernel
theorem dX5_leaveTrace_8 : decode cX5_leaveTrace 8 = .ok (.iload_n 1, 1) := by decide +kernel
theorem dX5_leaveTrace_9 : decode cX5_leaveTrace 9 = .ok (.iadd, 1) := by decide +kernel
theorem dX5_leaveTrace_10 : decode cX5_leaveTrace 10 = .ok (.putfield 56, 3) := by decide +kernel
theorem dX5_leaveTrace_13 : decode cX5_leaveTrace 13 = .ok (.return_, 1) := by decide +kernel
set_option maxRecDepth 20000 in
theorem ggX5_tellThing_X5_leaveTrace : GoodIn wsX5_tellThing wsX5_leaveTrace := goodIn_r _ [5, 6, 7, 8, 9, 10, 11, 12, 13, 14, 15, 16] (by decide +kernel) (by decide +kernel)
set_option maxRecDepth 20000 in
theorem gX5_tellThing_X5_leaveTrace : GoodIn wsX5_tellThing (wsV RX5 269 RX5 yX5_leaveTrace wsX5_leaveTrace) := goodIn_app (goodIn_of _ (by decide +kernel)) ggX5_tellThing_X5_leaveTrace
theorem dX5_tellThing_0 : decode cX5_tellThing 0 = .ok (.aload_n 0, 1) := by decide +kernel
theorem dX5_tellThing_1 : decode cX5_tellThing 1 = .ok (.iconst 1, 1) := by decide +kernel
theorem dX5_tellThing_2 : decode cX5_tellThing 2 = .ok (.invokevirtual 269, 3) := by decide +kernel
theorem dX5_tellThing_5 : decode cX5_tellThing 5 = .ok (.iload_n 1, 1) := by decide +kernel
theorem dX5_tellThing_6 : decode cX5_tellThing 6 = .ok (.ireturn, 1) := by decide +kernel
set_option maxRecDepth 20000 in
theorem ggX5_tellLong_X5_leaveTrace : GoodIn wsX5_tellLong wsX5_leaveTrace := goodIn_r _ [5, 6, 11, 12, 13, 14, 15, 16, 17, 18, 19, 20] (by decide +kernel) (by decide +kernel)
set_option maxRecDepth 20000 in
theorem gX5_tellLong_X5_leaveTrace : GoodIn wsX5_tellLong (wsV RX5 269 RX5 yX5_leaveTrace wsX5_leaveTrace) := goodIn_app (goodIn_of _ (by decide +kernel)) ggX5_tellLong_X5_leaveTrace
set_option maxRecDepth 20000 in
theorem ggX5_tellLong_X5_tellThing : GoodIn wsX5_tellLong wsX5_tellThing := goodIn_r _ [10, 1, 2, 3, 4, 5, 6, 11, 12, 13, 14, 15, 16, 17, 18, 19, 20] (by decide +kernel) (by decide +kernel)
set_option maxRecDepth 20000 in
theorem gX5_tellLong_X5_tellThing : GoodIn wsX5_tellLong (wsV RX5 250 RX5 yX5_tellThing wsX5_tellThing) := goodIn_app (goodIn_of _ (by decide +kernel)) ggX5_tellLong_X5_tellThing
theorem dX5_tellLong_0 : decode cX5_tellLong 0 = .ok (.aload_n 0, 1) := by decide +kernel
theorem dX5_tellLong_1 : decode cX5_tellLong 1 = .ok (.iconst 2, 1) := by decide +kernel
theorem dX5_tellLong_2 : decode cX5_tellLong 2 = .ok (.invokevirtual 269, 3) := by decide +kernel
theorem dX5_tellLong_5 : decode cX5_tellLong 5 = .ok (.aload_n 0, 1) := by decide +kernel
theorem dX5_tellLong_6 : decode cX5_tellLong 6 = .ok (.iload_n 1, 1) := by decide +kernel
theorem dX5_tellLong_7 : decode cX5_tellLong 7 = .ok (.invokevirtual 250, 3) := by decide +kernel
theorem dX5_tellLong_10 : decode cX5_tellLong 10 = .ok (.bipush 100, 2) := by decide +kernel
theorem dX5_tellLong_12 : decode cX5_tellLong 12 = .ok (.iadd, 1) := by decide +kernel
theorem dX5_tellLong_13 : decode cX5_tellLong 13 = .ok (.ireturn, 1) := by decide +kernel
set_option maxRecDepth 20000 in
theorem ggX5_tellDreaded_X5_leaveTrace : GoodIn wsX5_tellDreaded wsX5_leaveTrace := goodIn_r _ [5, 6, 15, 16, 17, 18, 19, 20, 21, 22, 23, 24] (by decide +kernel) (by decide +kernel)
set_option maxRecDepth 20000 in
theorem gX5_tellDreaded_X5_leaveTrace : GoodIn wsX5_tellDreaded (wsV RX5 269 RX5 yX5_leaveTrace wsX5_leaveTrace) := goodIn_app (goodIn_of _ (by decide +kernel)) ggX5_tellDreaded_X5_leaveTrace
set_option maxRecDepth 20000 in
theorem ggX5_tellDreaded_X5_tellLong : GoodIn wsX5_tellDreaded wsX5_tellLong := goodIn_r _ [10, 1, 2, 3, 4, 5, 6, 11, 12, 13, 14, 15, 16, 17, 18, 19, 20, 21, 22, 23, 24] (by decide +kernel) (by decide +kernel)
set_option maxRecDepth 20000 in
theorem gX5_tellDreaded_X5_tellLong : GoodIn wsX5_tellDreaded (wsV RX5 247 RX5 yX5_tellLong wsX5_tellLong) := goodIn_app (goodIn_of _ (by decide +kernel)) ggX5_tellDreaded_X5_tellLong
set_option maxRecDepth 20000 in
theorem ggX5_tellDreaded_X5_tellThing : GoodIn wsX5_tellDreaded wsX5_tellThing := goodIn_r _ [14, 1, 2, 3, 4, 5, 6, 15, 16, 17, 18, 19, 20, 21, 22, 23, 24] (by decide +kernel) (by decide +kernel)
set_option maxRecDepth 20000 in
theorem gX5_tellDreaded_X5_tellThing : GoodIn wsX5_tellDreaded (wsV RX5 250 RX5 yX5_tellThing wsX5_tellThing) := goodIn_app (goodIn_of _ (by decide +kernel)) ggX5_tellDreaded_X5_tellThing
theorem dX5_tellDreaded_0 : decode cX5_tellDreaded 0 = .ok (.aload_n 0, 1) := by decide +kernel
theorem dX5_tellDreaded_1 : decode cX5_tellDreaded 1 = .ok (.iconst 3, 1) := by decide +kernel
theorem dX5_tellDreaded_2 : decode cX5_tellDreaded 2 = .ok (.invokevirtual 269, 3) := by decide +kernel
theorem dX5_tellDreaded_5 : decode cX5_tellDreaded 5 = .ok (.aload_n 0, 1) := by decide +kernel
theorem dX5_tellDreaded_6 : decode cX5_tellDreaded 6 = .ok (.iload_n 1, 1) := by decide +kernel
theorem dX5_tellDreaded_7 : decode cX5_tellDreaded 7 = .ok (.invokevirtual 247, 3) := by decide +kernel
theorem dX5_tellDreaded_10 : decode cX5_tellDreaded 10 = .ok (.istore_n 2, 1) := by decide +kernel
theorem dX5_tellDreaded_11 : decode cX5_tellDreaded 11 = .ok (.iload_n 2, 1) := by decide +kernel
theorem dX5_tellDreaded_12 : decode cX5_tellDreaded 12 = .ok (.aload_n 0, 1) := by decide +kernel
theorem dX5_tellDreaded_13 : decode cX5_tellDreaded 13 = .ok (.iload_n 1, 1) := by decide +kernel
theorem dX5_tellDreaded_14 : decode cX5_tellDreaded 14 = .ok (.invokevirtual 250, 3) := by decide +kernel
theorem dX5_tellDreaded_17 : decode cX5_tellDreaded 17 = .ok (.iadd, 1) := by decide +kernel
theorem dX5_tellDreaded_18 : decode cX5_tellDreaded 18 = .ok (.ireturn, 1) := by decide +kernel
set_option maxRecDepth 20000 in
theorem ggX5_fearLent_X5_leaveTrace : GoodIn wsX5_fearLent wsX5_leaveTrace := goodIn_r _ [5, 6, 7, 8, 9, 10, 11, 12, 13, 14, 15, 16] (by decide +kernel) (by decide +kernel)
set_option maxRecDepth 20000 in
theorem gX5_fearLent_X5_leaveTrace : GoodIn wsX5_fearLent (wsV RX5 269 RX5 yX5_leaveTrace wsX5_leaveTrace) := goodIn_app (goodIn_of _ (by decide +kernel)) ggX5_fearLent_X5_leaveTrace
theorem dX5_fearLent_0 : decode cX5_fearLent 0 = .ok (.aload_n 0, 1) := by decide +kernel
theorem dX5_fearLent_1 : decode cX5_fearLent 1 = .ok (.iconst 4, 1) := by decide +kernel
theorem dX5_fearLent_2 : decode cX5_fearLent 2 = .ok (.invokevirtual 269, 3) := by decide +kernel
theorem dX5_fearLent_5 : decode cX5_fearLent 5 = .ok (.iload_n 1, 1) := by decide +kernel
theorem dX5_fearLent_6 : decode cX5_fearLent 6 = .ok (.ireturn, 1) := by decide +kernel
set_option maxRecDepth 20000 in
theorem ggX5_fearDreaded_X5_leaveTrace : GoodIn wsX5_fearDreaded wsX5_leaveTrace := goodIn_r _ [5, 6, 7, 8, 9, 10, 11, 12, 13, 14, 15, 16] (by decide +kernel) (by decide +kernel)
set_option maxRecDepth 20000 in
theorem gX5_fearDreaded_X5_leaveTrace : GoodIn wsX5_fearDreaded (wsV RX5 269 RX5 yX5_leaveTrace wsX5_leaveTrace) := goodIn_app (goodIn_of _ (by decide +kernel)) ggX5_fearDreaded_X5_leaveTrace
theorem dX5_fearDreaded_0 : decode cX5_fearDreaded 0 = .ok (.aload_n 0, 1) := by decide +kernel
theorem dX5_fearDreaded_1 : decode cX5_fearDreaded 1 = .ok (.iconst 5, 1) := by decide +kernel
theorem dX5_fearDreaded_2 : decode cX5_fearDreaded 2 = .ok (.invokevirtual 269, 3) := by decide +kernel
theorem dX5_fearDreaded_5 : decode cX5_fearDreaded 5 = .ok (.bipush 30, 2) := by decide +kernel
theorem dX5_fearDreaded_7 : decode cX5_fearDreaded 7 = .ok (.ireturn, 1) := by decide +kernel
theorem dX6_init_0 : decode cX6_init 0 = .ok (.aload_n 0, 1) := by decide +kernel
theorem dX6_init_1 : decode cX6_init 1 = .ok (.invokespecial 1, 3) := by decide +kernel
theorem dX6_init_4 : decode cX6_init 4 = .ok (.aload_n 0, 1) := by decide +kernel
theorem dX6_init_5 : decode cX6_init 5 = .ok (.bipush 6, 2) := by decide +kernel
theorem dX6_init_7 : decode cX6_init 7 = .ok (.newarray .int, 2) := by decide +kernel
theorem dX6_init_9 : decode cX6_init 9 = .ok (.putfield 7, 3) := by decide +kernel
theorem dX6_init_12 : decode cX6_init 12 = .ok (.aload_n 0, 1) := by decide +kernel
theorem dX6_init_13 : decode cX6_init 13 = .ok (.bipush 6, 2) := by decide +kernel
theorem dX6_init_15 : decode cX6_init 15 = .ok (.newarray .int, 2) := by decide +kernel
theorem dX6_init_17 : decode cX6_init 17 = .ok (.putfield 13, 3) := by decide +kernel
theorem dX6_init_20 : decode cX6_init 20 = .ok (.aload_n 0, 1) := by decide +kernel
theorem dX6_init_21 : decode cX6_init 21 = .ok (.iconst 4, 1) := by decide +kernel
theorem dX6_init_22 : decode cX6_init 22 = .ok (.newarray .int, 2) := by decide +kernel
theorem dX6_init_24 : decode cX6_init 24 = .ok (.putfield 16, 3) := by decide +kernel
theorem dX6_init_27 : decode cX6_init 27 = .ok (.aload_n 0, 1) := by decide +kernel
theorem dX6_init_28 : decode cX6_init 28 = .ok (.iconst 4, 1) := by decide +kernel
theorem dX6_init_29 : decode cX6_init 29 = .ok (.newarray .int, 2) := by decide +kernel
theorem dX6_init_31 : decode cX6_init 31 = .ok (.putfield 19, 3) := by decide +kernel
theorem dX6_init_34 : decode cX6_init 34 = .ok (.aload_n 0, 1) := by decide +kernel
theorem dX6_init_35 : decode cX6_init 35 = .ok (.bipush 6, 2) := by decide +kernel
theorem dX6_init_37 : decode cX6_init 37 = .ok (.newarray .int, 2) := by decide +kernel
theorem dX6_init_39 : decode cX6_init 39 = .ok (.putfield 22, 3) := by decide +kernel
theorem dX6_init_42 : decode cX6_init 42 = .ok (.aload_n 0, 1) := by decide +kernel
theorem dX6_init_43 : decode cX6_init 43 = .ok (.bipush 6, 2) := by decide +kernel
theorem dX6_init_45 : decode cX6_init 45 = .ok (.newarray .int, 2) := by decide +kernel
theorem dX6_init_47 : decode cX6_init 47 = .ok (.putfield 25, 3) := by decide +kernel
theorem dX6_init_50 : decode cX6_init 50 = .ok (.aload_n 0, 1) := by decide +kernel
theorem dX6_init_51 : decode cX6_init 51 = .ok (.bipush 6, 2) := by decide +kernel
theorem dX6_init_53 : decode cX6_init 53 = .ok (.newarray .int, 2) := by decide +kernel
theorem dX6_init_55 : decode cX6_init 55 = .ok (.putfield 28, 3) := by decide +kernel
theorem dX6_init_58 : decode cX6_init 58 = .ok (.aload_n 0, 1) := by decide +kernel
theorem dX6_init_59 : decode cX6_init 59 = .ok (.bipush 6, 2) := by decide +kernel
theorem dX6_init_61 : decode cX6_init 61 = .ok (.newarray .int, 2) := by decide +kernel
theorem dX6_init_63 : decode cX6_init 63 = .ok (.putfield 31, 3) := by decide +kernel
theorem dX6_init_66 : decode cX6_init 66 = .ok (.aload_n 0, 1) := by decide +kernel
theorem dX6_init_67 : decode cX6_init 67 = .ok (.bipush 6, 2) := by decide +kernel
theorem dX6_init_69 : decode cX6_init 69 = .ok (.newarray .int, 2) := by decide +kernel
theorem dX6_init_71 : decode cX6_init 71 = .ok (.putfield 34, 3) := by decide +kernel
theorem dX6_init_74 : decode cX6_init 74 = .ok (.aload_n 0, 1) := by decide +kernel
theorem dX6_init_75 : decode cX6_init 75 = .ok (.iconst 4, 1) := by decide +kernel
theorem dX6_init_76 : decode cX6_init 76 = .ok (.newarray .int, 2) := by decide +kernel
theorem dX6_init_78 : decode cX6_init 78 = .ok (.putfield 37, 3) := by decide +kernel
theorem dX6_init_81 : decode cX6_init 81 = .ok (.aload_n 0, 1) := by decide +kernel
theorem dX6_init_82 : decode cX6_init 82 = .ok (.iconst 4, 1) := by decide +kernel
theorem dX6_init_83 : decode cX6_init 83 = .ok (.newarray .int, 2) := by decide +kernel
theorem dX6_init_85 : decode cX6_init 85 = .ok (.putfield 40, 3) := by decide +kernel
theorem dX6_init_88 : decode cX6_init 88 = .ok (.aload_n 0, 1) := by decide +kernel
theorem dX6_init_89 : decode cX6_init 89 = .ok (.bipush 8, 2) := by decide +kernel
theorem dX6_init_91 : decode cX6_init 91 = .ok (.newarray .int, 2) := by decide +kernel
theorem dX6_init_93 : decode cX6_init 93 = .ok (.putfield 43, 3) := by decide +kernel
theorem dX6_init_96 : decode cX6_init 96 = .ok (.aload_n 0, 1) := by decide +kernel
theorem dX6_init_97 : decode cX6_init 97 = .ok (.bipush 8, 2) := by decide +kernel
theorem dX6_init_99 : decode cX6_init 99 = .ok (.newarray .int, 2) := by decide +kernel
theorem dX6_init_101 : decode cX6_init 101 = .ok (.putfield 46, 3) := by decide +kernel
theorem dX6_init_104 : decode cX6_init 104 = .ok (.aload_n 0, 1) := by decide +kernel
theorem dX6_init_105 : decode cX6_init 105 = .ok (.bipush 8, 2) := by decide +kernel
theorem dX6_init_107 : decode cX6_init 107 = .ok (.newarray .int, 2) := by decide +kernel
theorem dX6_init_109 : decode cX6_init 109 = .ok (.putfield 49, 3) := by decide +kernel
theorem dX6_init_112 : decode cX6_init 112 = .ok (.aload_n 0, 1) := by decide +kernel
theorem dX6_init_113 : decode cX6_init 113 = .ok (.bipush 6, 2) := by decide +kernel
theorem dX6_init_115 : decode cX6_init 115 = .ok (.newarray .int, 2) := by decide +kernel
theorem dX6_init_117 : decode cX6_init 117 = .ok (.putfield 52, 3) := by decide +kernel
theorem dX6_init_120 : decode cX6_init 120 = .ok (.aload_n 0, 1) := by decide +kernel
theorem dX6_init_121 : decode cX6_init 121 = .ok (.iconst 4, 1) := by decide +kernel
theorem dX6_init_122 : decode cX6_init 122 = .ok (.newarray .int, 2) := by decide +kernel
theorem dX6_init_124 : decode cX6_init 124 = .ok (.putfield 55, 3) := by decide +kernel
theorem dX6_init_127 : decode cX6_init 127 = .ok (.aload_n 0, 1) := by decide +kernel
theorem dX6_init_128 : decode cX6_init 128 = .ok (.iconst 4, 1) := by decide +kernel
theorem dX6_init_129 : decode cX6_init 129 = .ok (.newarray .int, 2) := by decide +kernel
theorem dX6_init_131 : decode cX6_init 131 = .ok (.putfield 58, 3) := by decide +kernel
theorem dX6_init_134 : decode cX6_init 134 = .ok (.aload_n 0, 1) := by decide +kernel
theorem dX6_init_135 : decode cX6_init 135 = .ok (.sipush 240, 3) := by decide +kernel
theorem dX6_init_138 : decode cX6_init 138 = .ok (.newarray .int, 2) := by decide +kernel
theorem dX6_init_140 : decode cX6_init 140 = .ok (.putfield 61, 3) := by decide +kernel
theorem dX6_init_143 : decode cX6_init 143 = .ok (.aload_n 0, 1) := by decide +kernel
theorem dX6_init_144 : decode cX6_init 144 = .ok (.bipush 60, 2) := by decide +kernel
theorem dX6_init_146 : decode cX6_init 146 = .ok (.newarray .int, 2) := by decide +kernel
theorem dX6_init_148 : decode cX6_init 148 = .ok (.putfield 64, 3) := by decide +kernel
theorem dX6_init_151 : decode cX6_init 151 = .ok (.iconst 0, 1) := by decide +kernel
theorem dX6_init_152 : decode cX6_init 152 = .ok (.istore_n 1, 1) := by decide +kernel
theorem dX6_init_153 : decode cX6_init 153 = .ok (.iload_n 1, 1) := by decide +kernel
theorem dX6_init_154 : decode cX6_init 154 = .ok (.iconst 4, 1) := by decide +kernel
theorem dX6_init_155 : decode cX6_init 155 = .ok (.if_icmp .ge 16, 3) := by decide +kernel
theorem dX6_init_158 : decode cX6_init 158 = .ok (.aload_n 0, 1) := by decide +kernel
theorem dX6_init_159 : decode cX6_init 159 = .ok (.getfield 55, 3) := by decide +kernel
theorem dX6_init_162 : decode cX6_init 162 = .ok (.iload_n 1, 1) := by decide +kernel
theorem dX6_init_163 : decode cX6_init 163 = .ok (.iconst (-1), 1) := by decide +kernel
theorem dX6_init_164 : decode cX6_init 164 = .ok (.iastore, 1) := by decide +kernel
theorem dX6_init_165 : decode cX6_init 165 = .ok (.iinc 1 1, 3) := by decide +kernel
theorem dX6_init_168 : decode cX6_init 168 = .ok (.goto (-15), 3) := by decide +kernel
theorem dX6_init_171 : decode cX6_init 171 = .ok (.return_, 1) := by decide +kernel
theorem dX6_in_0 : decode cX6_in 0 = .ok (.lload_n 0, 1) := by decide +kernel
theorem dX6_in_1 : decode cX6_in 1 = .ok (.lload_n 2, 1) := by decide +kernel
theorem dX6_in_2 : decode cX6_in 2 = .ok (.lcmp, 1) := by decide +kernel
theorem dX6_in_3 : decode cX6_in 3 = .ok (.ifCond .lt 14, 3) := by decide +kernel
theorem dX6_in_6 : decode cX6_in 6 = .ok (.lload_n 0, 1) := by decide +kernel
theorem dX6_in_7 : decode cX6_in 7 = .ok (.lload 4, 2) := by decide +kernel
theorem dX6_in_9 : decode cX6_in 9 = .ok (.lcmp, 1) := by decide +kernel
theorem dX6_in_10 : decode cX6_in 10 = .ok (.ifCond .gt 7, 3) := by decide +kernel
theorem dX6_in_13 : decode cX6_in 13 = .ok (.iconst 1, 1) := by decide +kernel
theorem dX6_in_14 : decode cX6_in 14 = .ok (.goto 4, 3) := by decide +kernel
theorem dX6_in_17 : decode cX6_in 17 = .ok (.iconst 0, 1) := by decide +kernel
theorem dX6_in_18 : decode cX6_in 18 = .ok (.ireturn, 1) := by decide +kernel
theorem dX6_lost_0 : decode cX6_lost 0 = .ok (.ldc2_w 67, 3) := by decide +kernel
theorem dX6_lost_3 : decode cX6_lost 3 = .ok (.lreturn, 1) := by decide +kernel
theorem dX6_told_0 : decode cX6_told 0 = .ok (.lload_n 0, 1) := by decide +kernel
theorem dX6_told_1 : decode cX6_told 1 = .ok (.lstore 5, 2) := by decide +kernel
theorem dX6_told_3 : decode cX6_told 3 = .ok (.lload_n 2, 1) := by decide +kernel
theorem dX6_told_4 : decode cX6_told 4 = .ok (.lstore 7, 2) := by decide +kernel
theorem dX6_told_6 : decode cX6_told 6 = .ok (.lload 7, 2) := by decide +kernel
theorem dX6_told_8 : decode cX6_told 8 = .ok (.lconst 0, 1) := by decide +kernel
theorem dX6_told_9 : decode cX6_told 9 = .ok (.lcmp, 1) := by decide +kernel
theorem dX6_told_10 : decode cX6_told 10 = .ok (.ifCond .eq 21, 3) := by decide +kernel
theorem dX6_told_13 : decode cX6_told 13 = .ok (.lload 5, 2) := by decide +kernel
theorem dX6_told_15 : decode cX6_told 15 = .ok (.lload 7, 2) := by decide +kernel
theorem dX6_told_17 : decode cX6_told 17 = .ok (.lrem, 1) := by decide +kernel
theorem dX6_told_18 : decode cX6_told 18 = .ok (.lstore 9, 2) := by decide +kernel
theorem dX6_told_20 : decode cX6_told 20 = .ok (.lload 7, 2) := by decide +kernel
theorem dX6_told_22 : decode cX6_told 22 = .ok (.lstore 5, 2) := by decide +kernel
theorem dX6_told_24 : decode cX6_told 24 = .ok (.lload 9, 2) := by decide +kernel
theorem dX6_told_26 : decode cX6_told 26 = .ok (.lstore 7, 2) := by decide +kernel
theorem dX6_told_28 : decode cX6_told 28 = .ok (.goto (-22), 3) := by decide +kernel
theorem dX6_told_31 : decode cX6_told 31 = .ok (.iload 4, 2) := by decide +kernel
theorem dX6_told_33 : decode cX6_told 33 = .ok (.ifCond .ne 7, 3) := by decide +kernel
theorem dX6_told_36 : decode cX6_told 36 = .ok (.lload_n 0, 1) := by decide +kernel
theorem dX6_told_37 : decode cX6_told 37 = .ok (.goto 4, 3) := by decide +kernel
theorem dX6_told_40 : decode cX6_told 40 = .ok (.lload_n 2, 1) := by decide +kernel
theorem dX6_told_41 : decode cX6_told 41 = .ok (.lload 5, 2) := by decide +kernel
theorem dX6_told_43 : decode cX6_told 43 = .ok (.ldiv, 1) := by decide +kernel
theorem dX6_told_44 : decode cX6_told 44 = .ok (.lreturn, 1) := by decide +kernel
theorem dX6_isIn_0 : decode cX6_isIn 0 = .ok (.iload_n 0, 1) := by decide +kernel
theorem dX6_isIn_1 : decode cX6_isIn 1 = .ok (.iload_n 1, 1) := by decide +kernel
theorem dX6_isIn_2 : decode cX6_isIn 2 = .ok (.ishr, 1) := by decide +kernel
theorem dX6_isIn_3 : decode cX6_isIn 3 = .ok (.iconst 1, 1) := by decide +kernel
theorem dX6_isIn_4 : decode cX6_isIn 4 = .ok (.iand, 1) := by decide +kernel
theorem dX6_isIn_5 : decode cX6_isIn 5 = .ok (.iconst 1, 1) := by decide +kernel
theorem dX6_isIn_6 : decode cX6_isIn 6 = .ok (.if_icmp .ne 7, 3) := by decide +kernel
theorem dX6_isIn_9 : decode cX6_isIn 9 = .ok (.iconst 1, 1) := by decide +kernel
theorem dX6_isIn_10 : decode cX6_isIn 10 = .ok (.goto 4, 3) := by decide +kernel
theorem dX6_isIn_13 : decode cX6_isIn 13 = .ok (.iconst 0, 1) := by decide +kernel
theorem dX6_isIn_14 : decode cX6_isIn 14 = .ok (.ireturn, 1) := by decide +kernel
theorem dX6_bits_0 : decode cX6_bits 0 = .ok (.iconst 0, 1) := by decide +kernel
theorem dX6_bits_1 : decode cX6_bits 1 = .ok (.istore_n 1, 1) := by decide +kernel
theorem dX6_bits_2 : decode cX6_bits 2 = .ok (.iload_n 0, 1) := by decide +kernel
theorem dX6_bits_3 : decode cX6_bits 3 = .ok (.istore_n 2, 1) := by decide +kernel
theorem dX6_bits_4 : decode cX6_bits 4 = .ok (.iload_n 2, 1) := by decide +kernel
theorem dX6_bits_5 : decode cX6_bits 5 = .ok (.ifCond .le 16, 3) := by decide +kernel
theorem dX6_bits_8 : decode cX6_bits 8 = .ok (.iload_n 1, 1) := by decide +kernel
theorem dX6_bits_9 : decode cX6_bits 9 = .ok (.iload_n 2, 1) := by decide +kernel
theorem dX6_bits_10 : decode cX6_bits 10 = .ok (.iconst 1, 1) := by decide +kernel
theorem dX6_bits_11 : decode cX6_bits 11 = .ok (.iand, 1) := by decide +kernel
theorem dX6_bits_12 : decode cX6_bits 12 = .ok (.iadd, 1) := by decide +kernel
theorem dX6_bits_13 : decode cX6_bits 13 = .ok (.istore_n 1, 1) := by decide +kernel
theorem dX6_bits_14 : decode cX6_bits 14 = .ok (.iload_n 2, 1) := by decide +kernel
theorem dX6_bits_15 : decode cX6_bits 15 = .ok (.iconst 1, 1) := by decide +kernel
theorem dX6_bits_16 : decode cX6_bits 16 = .ok (.ishr, 1) := by decide +kernel
theorem dX6_bits_17 : decode cX6_bits 17 = .ok (.istore_n 2, 1) := by decide +kernel
theorem dX6_bits_18 : decode cX6_bits 18 = .ok (.goto (-14), 3) := by decide +kernel
theorem dX6_bits_21 : decode cX6_bits 21 = .ok (.iload_n 1, 1) := by decide +kernel
theorem dX6_bits_22 : decode cX6_bits 22 = .ok (.ireturn, 1) := by decide +kernel
theorem dX6_refused_0 : decode cX6_refused 0 = .ok (.aload_n 0, 1) := by decide +kernel
theorem dX6_refused_1 : decode cX6_refused 1 = .ok (.iconst 0, 1) := by decide +kernel
theorem dX6_refused_2 : decode cX6_refused 2 = .ok (.putfield 69, 3) := by decide +kernel
theorem dX6_refused_5 : decode cX6_refused 5 = .ok (.iload_n 1, 1) := by decide +kernel
theorem dX6_refused_6 : decode cX6_refused 6 = .ok (.ireturn, 1) := by decide +kernel
theorem dX6_failed_0 : decode cX6_failed 0 = .ok (.aload_n 0, 1) := by decide +kernel
theorem dX6_failed_1 : decode cX6_failed 1 = .ok (.iload_n 1, 1) := by decide +kernel
theorem dX6_failed_2 : decode cX6_failed 2 = .ok (.putfield 69, 3) := by decide +kernel
theorem dX6_failed_5 : decode cX6_failed 5 = .ok (.bipush (-10), 2) := by decide +kernel
theorem dX6_failed_7 : decode cX6_failed 7 = .ok (.iload_n 1, 1) := by decide +kernel
theorem dX6_failed_8 : decode cX6_failed 8 = .ok (.isub, 1) := by decide +kernel
theorem dX6_failed_9 : decode cX6_failed 9 = .ok (.ireturn, 1) := by decide +kernel
set_option maxRecDepth 20000 in
theorem ggX6_failedLong_X6_lost : GoodIn wsX6_failedLong wsX6_lost := goodIn_r _ [5, 6] (by decide +kernel) (by decide +kernel)
set_option maxRecDepth 20000 in
theorem gX6_failedLong_X6_lost : GoodIn wsX6_failedLong (va_wsS RX6 73 yX6_lost wsX6_lost) := goodIn_app (goodIn_of _ (by decide +kernel)) ggX6_failedLong_X6_lost
theorem dX6_failedLong_0 : decode cX6_failedLong 0 = .ok (.aload_n 0, 1) := by decide +kernel
theorem dX6_failedLong_1 : decode cX6_failedLong 1 = .ok (.iload_n 1, 1) := by decide +kernel
theorem dX6_failedLong_2 : decode cX6_failedLong 2 = .ok (.putfield 69, 3) := by decide +kernel
theorem dX6_failedLong_5 : decode cX6_failedLong 5 = .ok (.invokestatic 73, 3) := by decide +kernel
theorem dX6_failedLong_8 : decode cX6_failedLong 8 = .ok (.lreturn, 1) := by decide +kernel
set_option maxRecDepth 20000 in
theorem ggX6_barred_X6_noSheet : GoodIn wsX6_barred wsX6_noSheet := goodIn_r _ [7, 8, 9, 10, 6, 11] (by decide +kernel) (by decide +kernel)
set_option maxRecDepth 20000 in
theorem gX6_barred_X6_noSheet : GoodIn wsX6_barred (va_wsS RX6 77 yX6_noSheet wsX6_noSheet) := goodIn_app (goodIn_of _ (by decide +kernel)) ggX6_barred_X6_noSheet
set_option maxRecDepth 20000 in
theorem ggX6_barred_X6_refused : GoodIn wsX6_barred wsX6_refused := goodIn_r _ [15, 16, 24, 25, 26, 27, 28, 29, 30, 31, 32, 33, 34, 35, 36, 37, 38, 39, 40, 41, 42, 43, 44, 45, 46, 47, 48, 49, 50] (by decide +kernel) (by decide +kernel)
set_option maxRecDepth 20000 in
theorem gX6_barred_X6_refused : GoodIn wsX6_barred (wsV RX6 81 RX6 yX6_refused wsX6_refused) := goodIn_app (goodIn_of _ (by decide +kernel)) ggX6_barred_X6_refused
set_option maxRecDepth 20000 in
theorem ggX6_barred_X6_in : GoodIn wsX6_barred wsX6_in := goodIn_r _ [11] (by decide +kernel) (by decide +kernel)
set_option maxRecDepth 20000 in
theorem gX6_barred_X6_in : GoodIn wsX6_barred (va_wsS RX6 87 yX6_in wsX6_in) := goodIn_app (goodIn_of _ (by decide +kernel)) ggX6_barred_X6_in
set_option maxRecDepth 20000 in
theorem ggX6_barred_X6_failed : GoodIn wsX6_barred wsX6_failed := goodIn_r _ [20, 16, 24, 25, 26, 27, 28, 29, 30, 31, 32, 33, 34, 35, 36, 37, 38, 39, 40, 41, 42, 43, 44, 45, 46, 47, 48, 49, 50] (by decide +kernel) (by decide +kernel)
set_option maxRecDepth 20000 in
theorem gX6_barred_X6_failed : GoodIn wsX6_barred (wsV RX6 91 RX6 yX6_failed wsX6_failed) := goodIn_app (goodIn_of _ (by decide +kernel)) ggX6_barred_X6_failed
set_option maxRecDepth 20000 in
theorem ggX6_barred_X6_isBeyond : GoodIn wsX6_barred wsX6_isBeyond := goodIn_r _ [23] (by decide +kernel) (by decide +kernel)
set_option maxRecDepth 20000 in
theorem gX6_barred_X6_isBeyond : GoodIn wsX6_barred (va_wsS RX6 94 yX6_isBeyond wsX6_isBeyond) := goodIn_app (goodIn_of _ (by decide +kernel)) ggX6_barred_X6_isBeyond
theorem dX6_barred_0 : decode cX6_barred 0 = .ok (.iload_n 1, 1) := by decide +kernel
theorem dX6_barred_1 : decode cX6_barred 1 = .ok (.invokestatic 77, 3) := by decide +kernel
theorem dX6_barred_4 : decode cX6_barred 4 = .ok (.ifCond .eq 9, 3) := by decide +kernel
theorem dX6_barred_7 : decode cX6_barred 7 = .ok (.aload_n 0, 1) := by decide +kernel
theorem dX6_barred_8 : decode cX6_barred 8 = .ok (.iconst (-1), 1) := by decide +kernel
theorem dX6_barred_9 : decode cX6_barred 9 = .ok (.invokevirtual 81, 3) := by decide +kernel
theorem dX6_barred_12 : decode cX6_barred 12 = .ok (.ireturn, 1) := by decide +kernel
theorem dX6_barred_13 : decode cX6_barred 13 = .ok (.iload_n 2, 1) := by decide +kernel
theorem dX6_barred_14 : decode cX6_barred 14 = .ok (.i2l, 1) := by decide +kernel
theorem dX6_barred_15 : decode cX6_barred 15 = .ok (.lconst 0, 1) := by decide +kernel
theorem dX6_barred_16 : decode cX6_barred 16 = .ok (.ldc2_w 85, 3) := by decide +kernel
theorem dX6_barred_19 : decode cX6_barred 19 = .ok (.invokestatic 87, 3) := by decide +kernel
theorem dX6_barred_22 : decode cX6_barred 22 = .ok (.ifCond .ne 10, 3) := by decide +kernel
theorem dX6_barred_25 : decode cX6_barred 25 = .ok (.aload_n 0, 1) := by decide +kernel
theorem dX6_barred_26 : decode cX6_barred 26 = .ok (.bipush (-2), 2) := by decide +kernel
theorem dX6_barred_28 : decode cX6_barred 28 = .ok (.invokevirtual 81, 3) := by decide +kernel
theorem dX6_barred_31 : decode cX6_barred 31 = .ok (.ireturn, 1) := by decide +kernel
theorem dX6_barred_32 : decode cX6_barred 32 = .ok (.aload_n 0, 1) := by decide +kernel
theorem dX6_barred_33 : decode cX6_barred 33 = .ok (.getfield 55, 3) := by decide +kernel
theorem dX6_barred_36 : decode cX6_barred 36 = .ok (.iload_n 1, 1) := by decide +kernel
theorem dX6_barred_37 : decode cX6_barred 37 = .ok (.iaload, 1) := by decide +kernel
theorem dX6_barred_38 : decode cX6_barred 38 = .ok (.ifCond .lt 19, 3) := by decide +kernel
theorem dX6_barred_41 : decode cX6_barred 41 = .ok (.aload_n 0, 1) := by decide +kernel
theorem dX6_barred_42 : decode cX6_barred 42 = .ok (.getfield 58, 3) := by decide +kernel
theorem dX6_barred_45 : decode cX6_barred 45 = .ok (.iload_n 1, 1) := by decide +kernel
theorem dX6_barred_46 : decode cX6_barred 46 = .ok (.iaload, 1) := by decide +kernel
theorem dX6_barred_47 : decode cX6_barred 47 = .ok (.iload_n 2, 1) := by decide +kernel
theorem dX6_barred_48 : decode cX6_barred 48 = .ok (.if_icmp .eq 9, 3) := by decide +kernel
theorem dX6_barred_51 : decode cX6_barred 51 = .ok (.aload_n 0, 1) := by decide +kernel
theorem dX6_barred_52 : decode cX6_barred 52 = .ok (.iconst 2, 1) := by decide +kernel
theorem dX6_barred_53 : decode cX6_barred 53 = .ok (.invokevirtual 91, 3) := by decide +kernel
theorem dX6_barred_56 : decode cX6_barred 56 = .ok (.ireturn, 1) := by decide +kernel
theorem dX6_barred_57 : decode cX6_barred 57 = .ok (.aload_n 0, 1) := by decide +kernel
theorem dX6_barred_58 : decode cX6_barred 58 = .ok (.getfield 55, 3) := by decide +kernel
theorem dX6_barred_61 : decode cX6_barred 61 = .ok (.iload_n 1, 1) := by decide +kernel
theorem dX6_barred_62 : decode cX6_barred 62 = .ok (.iaload, 1) := by decide +kernel
theorem dX6_barred_63 : decode cX6_barred 63 = .ok (.ifCond .ge 9, 3) := by decide +kernel
theorem dX6_barred_66 : decode cX6_barred 66 = .ok (.aload_n 0, 1) := by decide +kernel
theorem dX6_barred_67 : decode cX6_barred 67 = .ok (.iconst 1, 1) := by decide +kernel
theorem dX6_barred_68 : decode cX6_barred 68 = .ok (.invokevirtual 91, 3) := by decide +kernel
theorem dX6_barred_71 : decode cX6_barred 71 = .ok (.ireturn, 1) := by decide +kernel
theorem dX6_barred_72 : decode cX6_barred 72 = .ok (.lload 4, 2) := by decide +kernel
theorem dX6_barred_74 : decode cX6_barred 74 = .ok (.lconst 0, 1) := by decide +kernel
theorem dX6_barred_75 : decode cX6_barred 75 = .ok (.lcmp, 1) := by decide +kernel
theorem dX6_barred_76 : decode cX6_barred 76 = .ok (.ifCond .ge 9, 3) := by decide +kernel
theorem dX6_barred_79 : decode cX6_barred 79 = .ok (.aload_n 0, 1) := by decide +kernel
theorem dX6_barred_80 : decode cX6_barred 80 = .ok (.iconst 4, 1) := by decide +kernel
theorem dX6_barred_81 : decode cX6_barred 81 = .ok (.invokevirtual 91, 3) := by decide +kernel
theorem dX6_barred_84 : decode cX6_barred 84 = .ok (.ireturn, 1) := by decide +kernel
theorem dX6_barred_85 : decode cX6_barred 85 = .ok (.iload_n 3, 1) := by decide +kernel
theorem dX6_barred_86 : decode cX6_barred 86 = .ok (.lload 4, 2) := by decide +kernel
theorem dX6_barred_88 : decode cX6_barred 88 = .ok (.aload_n 0, 1) := by decide +kernel
theorem dX6_barred_89 : decode cX6_barred 89 = .ok (.getfield 55, 3) := by decide +kernel
theorem dX6_barred_92 : decode cX6_barred 92 = .ok (.iload_n 1, 1) := by decide +kernel
theorem dX6_barred_93 : decode cX6_barred 93 = .ok (.iaload, 1) := by decide +kernel
theorem dX6_barred_94 : decode cX6_barred 94 = .ok (.invokestatic 94, 3) := by decide +kernel
theorem dX6_barred_97 : decode cX6_barred 97 = .ok (.ifCond .eq 11, 3) := by decide +kernel
theorem dX6_barred_100 : decode cX6_barred 100 = .ok (.aload_n 0, 1) := by decide +kernel
theorem dX6_barred_101 : decode cX6_barred 101 = .ok (.iconst 3, 1) := by decide +kernel
theorem dX6_barred_102 : decode cX6_barred 102 = .ok (.invokevirtual 91, 3) := by decide +kernel
theorem dX6_barred_105 : decode cX6_barred 105 = .ok (.goto 4, 3) := by decide +kernel
theorem dX6_barred_108 : decode cX6_barred 108 = .ok (.iconst 0, 1) := by decide +kernel
theorem dX6_barred_109 : decode cX6_barred 109 = .ok (.ireturn, 1) := by decide +kernel
set_option maxRecDepth 20000 in
theorem ggX6_noThing_X6_in : GoodIn wsX6_noThing wsX6_in := goodIn_r _ [5] (by decide +kernel) (by decide +kernel)
set_option maxRecDepth 20000 in
theorem gX6_noThing_X6_in : GoodIn wsX6_noThing (va_wsS RX6 87 yX6_in wsX6_in) := goodIn_app (goodIn_of _ (by decide +kernel)) ggX6_noThing_X6_in
theorem dX6_noThing_0 : decode cX6_noThing 0 = .ok (.iload_n 1, 1) := by decide +kernel
theorem dX6_noThing_1 : decode cX6_noThing 1 = .ok (.i2l, 1) := by decide +kernel
theorem dX6_noThing_2 : decode cX6_noThing 2 = .ok (.lconst 0, 1) := by decide +kernel
theorem dX6_noThing_3 : decode cX6_noThing 3 = .ok (.aload_n 0, 1) := by decide +kernel
theorem dX6_noThing_4 : decode cX6_noThing 4 = .ok (.getfield 98, 3) := by decide +kernel
theorem dX6_noThing_7 : decode cX6_noThing 7 = .ok (.i2l, 1) := by decide +kernel
theorem dX6_noThing_8 : decode cX6_noThing 8 = .ok (.lconst 1, 1) := by decide +kernel
theorem dX6_noThing_9 : decode cX6_noThing 9 = .ok (.lsub, 1) := by decide +kernel
theorem dX6_noThing_10 : decode cX6_noThing 10 = .ok (.invokestatic 87, 3) := by decide +kernel
theorem dX6_noThing_13 : decode cX6_noThing 13 = .ok (.ifCond .ne 7, 3) := by decide +kernel
theorem dX6_noThing_16 : decode cX6_noThing 16 = .ok (.iconst 1, 1) := by decide +kernel
theorem dX6_noThing_17 : decode cX6_noThing 17 = .ok (.goto 4, 3) := by decide +kernel
theorem dX6_noThing_20 : decode cX6_noThing 20 = .ok (.iconst 0, 1) := by decide +kernel
theorem dX6_noThing_21 : decode cX6_noThing 21 = .ok (.ireturn, 1) := by decide +kernel
set_option maxRecDepth 20000 in
theorem ggX6_noHour_X6_in : GoodIn wsX6_noHour wsX6_in := goodIn_r _ [5] (by decide +kernel) (by decide +kernel)
set_option maxRecDepth 20000 in
theorem gX6_noHour_X6_in : GoodIn wsX6_noHour (va_wsS RX6 87 yX6_in wsX6_in) := goodIn_app (goodIn_of _ (by decide +kernel)) ggX6_noHour_X6_in
theorem dX6_noHour_0 : decode cX6_noHour 0 = .ok (.iload_n 0, 1) := by decide +kernel
theorem dX6_noHour_1 : decode cX6_noHour 1 = .ok (.i2l, 1) := by decide +kernel
theorem dX6_noHour_2 : decode cX6_noHour 2 = .ok (.lconst 0, 1) := by decide +kernel
theorem dX6_noHour_3 : decode cX6_noHour 3 = .ok (.ldc2_w 101, 3) := by decide +kernel
theorem dX6_noHour_6 : decode cX6_noHour 6 = .ok (.invokestatic 87, 3) := by decide +kernel
theorem dX6_noHour_9 : decode cX6_noHour 9 = .ok (.ifCond .ne 7, 3) := by decide +kernel
theorem dX6_noHour_12 : decode cX6_noHour 12 = .ok (.iconst 1, 1) := by decide +kernel
theorem dX6_noHour_13 : decode cX6_noHour 13 = .ok (.goto 4, 3) := by decide +kernel
theorem dX6_noHour_16 : decode cX6_noHour 16 = .ok (.iconst 0, 1) := by decide +kernel
theorem dX6_noHour_17 : decode cX6_noHour 17 = .ok (.ireturn, 1) := by decide +kernel
theorem dX6_all_0 : decode cX6_all 0 = .ok (.iconst 1, 1) := by decide +kernel
theorem dX6_all_1 : decode cX6_all 1 = .ok (.aload_n 0, 1) := by decide +kernel
theorem dX6_all_2 : decode cX6_all 2 = .ok (.getfield 98, 3) := by decide +kernel
theorem dX6_all_5 : decode cX6_all 5 = .ok (.ishl, 1) := by decide +kernel
theorem dX6_all_6 : decode cX6_all 6 = .ok (.iconst 1, 1) := by decide +kernel
theorem dX6_all_7 : decode cX6_all 7 = .ok (.isub, 1) := by decide +kernel
theorem dX6_all_8 : decode cX6_all 8 = .ok (.ireturn, 1) := by decide +kernel
set_option maxRecDepth 20000 in
theorem ggX6_isOfThings_X6_all : GoodIn wsX6_isOfThings wsX6_all := goodIn_r _ [5, 6, 10, 11, 12, 13, 14, 15, 16, 17, 18, 19, 20, 21, 22, 23, 24, 25, 26, 27, 28, 29, 30, 31, 32, 33, 34, 35, 36] (by decide +kernel) (by decide +kernel)
set_option maxRecDepth 20000 in
theorem gX6_isOfThings_X6_all : GoodIn wsX6_isOfThings (wsV RX6 103 RX6 yX6_all wsX6_all) := goodIn_app (goodIn_of _ (by decide +kernel)) ggX6_isOfThings_X6_all
set_option maxRecDepth 20000 in
theorem ggX6_isOfThings_X6_in : GoodIn wsX6_isOfThings wsX6_in := goodIn_r _ [9] (by decide +kernel) (by decide +kernel)
set_option maxRecDepth 20000 in
theorem gX6_isOfThings_X6_in : GoodIn wsX6_isOfThings (va_wsS RX6 87 yX6_in wsX6_in) := goodIn_app (goodIn_of _ (by decide +kernel)) ggX6_isOfThings_X6_in
theorem dX6_isOfThings_0 : decode cX6_isOfThings 0 = .ok (.iload_n 1, 1) := by decide +kernel
theorem dX6_isOfThings_1 : decode cX6_isOfThings 1 = .ok (.i2l, 1) := by decide +kernel
theorem dX6_isOfThings_2 : decode cX6_isOfThings 2 = .ok (.lconst 0, 1) := by decide +kernel
theorem dX6_isOfThings_3 : decode cX6_isOfThings 3 = .ok (.aload_n 0, 1) := by decide +kernel
theorem dX6_isOfThings_4 : decode cX6_isOfThings 4 = .ok (.invokevirtual 103, 3) := by decide +kernel
theorem dX6_isOfThings_7 : decode cX6_isOfThings 7 = .ok (.i2l, 1) := by decide +kernel
theorem dX6_isOfThings_8 : decode cX6_isOfThings 8 = .ok (.invokestatic 87, 3) := by decide +kernel
theorem dX6_isOfThings_11 : decode cX6_isOfThings 11 = .ok (.ireturn, 1) := by decide +kernel
theorem dX6_codeAt_0 : decode cX6_codeAt 0 = .ok (.aload_n 0, 1) := by decide +kernel
theorem dX6_codeAt_1 : decode cX6_codeAt 1 = .ok (.getfield 107, 3) := by decide +kernel
theorem dX6_codeAt_4 : decode cX6_codeAt 4 = .ok (.iload_n 2, 1) := by decide +kernel
theorem dX6_codeAt_5 : decode cX6_codeAt 5 = .ok (.if_icmp .ge 17, 3) := by decide +kernel
theorem dX6_codeAt_8 : decode cX6_codeAt 8 = .ok (.aload_n 0, 1) := by decide +kernel
theorem dX6_codeAt_9 : decode cX6_codeAt 9 = .ok (.getfield 61, 3) := by decide +kernel
theorem dX6_codeAt_12 : decode cX6_codeAt 12 = .ok (.iload_n 1, 1) := by decide +kernel
theorem dX6_codeAt_13 : decode cX6_codeAt 13 = .ok (.aload_n 0, 1) := by decide +kernel
theorem dX6_codeAt_14 : decode cX6_codeAt 14 = .ok (.getfield 107, 3) := by decide +kernel
theorem dX6_codeAt_17 : decode cX6_codeAt 17 = .ok (.iadd, 1) := by decide +kernel
theorem dX6_codeAt_18 : decode cX6_codeAt 18 = .ok (.iaload, 1) := by decide +kernel
theorem dX6_codeAt_19 : decode cX6_codeAt 19 = .ok (.goto 5, 3) := by decide +kernel
theorem dX6_codeAt_22 : decode cX6_codeAt 22 = .ok (.bipush (-9), 2) := by decide +kernel
theorem dX6_codeAt_24 : decode cX6_codeAt 24 = .ok (.ireturn, 1) := by decide +kernel
set_option maxRecDepth 20000 in
theorem ggX6_figure_X6_codeAt : GoodIn wsX6_figure wsX6_codeAt := goodIn_r _ [6, 1, 7, 11, 12, 13, 14, 15, 16, 17, 18, 19, 20, 21, 22, 23, 24, 25, 26, 27, 28, 29, 30, 31, 32, 33, 34, 35, 36, 37] (by decide +kernel) (by decide +kernel)
set_option maxRecDepth 20000 in
theorem gX6_figure_X6_codeAt : GoodIn wsX6_figure (wsV RX6 110 RX6 yX6_codeAt wsX6_codeAt) := goodIn_app (goodIn_of _ (by decide +kernel)) ggX6_figure_X6_codeAt
set_option maxRecDepth 20000 in
theorem ggX6_figure_X6_in : GoodIn wsX6_figure wsX6_in := goodIn_r _ [10] (by decide +kernel) (by decide +kernel)
set_option maxRecDepth 20000 in
theorem gX6_figure_X6_in : GoodIn wsX6_figure (va_wsS RX6 87 yX6_in wsX6_in) := goodIn_app (goodIn_of _ (by decide +kernel)) ggX6_figure_X6_in
theorem dX6_figure_0 : decode cX6_figure 0 = .ok (.aload_n 0, 1) := by decide +kernel
theorem dX6_figure_1 : decode cX6_figure 1 = .ok (.iload_n 1, 1) := by decide +kernel
theorem dX6_figure_2 : decode cX6_figure 2 = .ok (.iload_n 2, 1) := by decide +kernel
theorem dX6_figure_3 : decode cX6_figure 3 = .ok (.invokevirtual 110, 3) := by decide +kernel
theorem dX6_figure_6 : decode cX6_figure 6 = .ok (.bipush 48, 2) := by decide +kernel
theorem dX6_figure_8 : decode cX6_figure 8 = .ok (.isub, 1) := by decide +kernel
theorem dX6_figure_9 : decode cX6_figure 9 = .ok (.istore 5, 2) := by decide +kernel
theorem dX6_figure_11 : decode cX6_figure 11 = .ok (.iload 5, 2) := by decide +kernel
theorem dX6_figure_13 : decode cX6_figure 13 = .ok (.i2l, 1) := by decide +kernel
theorem dX6_figure_14 : decode cX6_figure 14 = .ok (.iload_n 3, 1) := by decide +kernel
theorem dX6_figure_15 : decode cX6_figure 15 = .ok (.i2l, 1) := by decide +kernel
theorem dX6_figure_16 : decode cX6_figure 16 = .ok (.iload 4, 2) := by decide +kernel
theorem dX6_figure_18 : decode cX6_figure 18 = .ok (.i2l, 1) := by decide +kernel
theorem dX6_figure_19 : decode cX6_figure 19 = .ok (.invokestatic 87, 3) := by decide +kernel
theorem dX6_figure_22 : decode cX6_figure 22 = .ok (.istore 6, 2) := by decide +kernel
theorem dX6_figure_24 : decode cX6_figure 24 = .ok (.aload_n 0, 1) := by decide +kernel
theorem dX6_figure_25 : decode cX6_figure 25 = .ok (.dup, 1) := by decide +kernel
theorem dX6_figure_26 : decode cX6_figure 26 = .ok (.getfield 107, 3) := by decide +kernel
theorem dX6_figure_29 : decode cX6_figure 29 = .ok (.iload 6, 2) := by decide +kernel
theorem dX6_figure_31 : decode cX6_figure 31 = .ok (.ifCond .eq 7, 3) := by decide +kernel
theorem dX6_figure_34 : decode cX6_figure 34 = .ok (.iconst 1, 1) := by decide +kernel
theorem dX6_figure_35 : decode cX6_figure 35 = .ok (.goto 4, 3) := by decide +kernel
theorem dX6_figure_38 : decode cX6_figure 38 = .ok (.iconst 0, 1) := by decide +kernel
theorem dX6_figure_39 : decode cX6_figure 39 = .ok (.iadd, 1) := by decide +kernel
theorem dX6_figure_40 : decode cX6_figure 40 = .ok (.putfield 107, 3) := by decide +kernel
theorem dX6_figure_43 : decode cX6_figure 43 = .ok (.iload 6, 2) := by decide +kernel
theorem dX6_figure_45 : decode cX6_figure 45 = .ok (.ifCond .eq 8, 3) := by decide +kernel
theorem dX6_figure_48 : decode cX6_figure 48 = .ok (.iload 5, 2) := by decide +kernel
theorem dX6_figure_50 : decode cX6_figure 50 = .ok (.goto 5, 3) := by decide +kernel
theorem dX6_figure_53 : decode cX6_figure 53 = .ok (.bipush (-9), 2) := by decide +kernel
theorem dX6_figure_55 : decode cX6_figure 55 = .ok (.ireturn, 1) := by decide +kernel
set_option maxRecDepth 20000 in
theorem ggX6_readsThing_X6_codeAt : GoodIn wsX6_readsThing wsX6_codeAt := goodIn_r _ [9, 2, 10, 18, 19, 20, 21, 22, 23, 24, 25, 26, 27, 28, 29, 30, 31, 32, 33, 34, 35, 36, 37, 38, 39, 40, 41, 42, 43, 44] (by decide +kernel) (by decide +kernel)
set_option maxRecDepth 20000 in
theorem gX6_readsThing_X6_codeAt : GoodIn wsX6_readsThing (wsV RX6 110 RX6 yX6_codeAt wsX6_codeAt) := goodIn_app (goodIn_of _ (by decide +kernel)) ggX6_readsThing_X6_codeAt
set_option maxRecDepth 20000 in
theorem ggX6_readsThing_X6_figure : GoodIn wsX6_readsThing wsX6_figure := goodIn_r _ [14, 2, 5, 6, 7, 8, 9, 10, 15, 16, 17, 18, 19, 20, 21, 22, 23, 24, 25, 26, 27, 28, 29, 30, 31, 32, 33, 34, 35, 36, 37, 38, 39, 40, 41, 42, 43, 44] (by decide +kernel) (by decide +kernel)
set_option maxRecDepth 20000 in
theorem gX6_readsThing_X6_figure : GoodIn wsX6_readsThing (wsV RX6 117 RX6 yX6_figure wsX6_figure) := goodIn_app (goodIn_of _ (by decide +kernel)) ggX6_readsThing_X6_figure
theorem dX6_readsThing_0 : decode cX6_readsThing 0 = .ok (.aload_n 0, 1) := by decide +kernel
theorem dX6_readsThing_1 : decode cX6_readsThing 1 = .ok (.iload_n 1, 1) := by decide +kernel
theorem dX6_readsThing_2 : decode cX6_readsThing 2 = .ok (.iload_n 2, 1) := by decide +kernel
theorem dX6_readsThing_3 : decode cX6_readsThing 3 = .ok (.invokevirtual 110, 3) := by decide +kernel
theorem dX6_readsThing_6 : decode cX6_readsThing 6 = .ok (.istore_n 3, 1) := by decide +kernel
theorem dX6_readsThing_7 : decode cX6_readsThing 7 = .ok (.aload_n 0, 1) := by decide +kernel
theorem dX6_readsThing_8 : decode cX6_readsThing 8 = .ok (.getfield 114, 3) := by decide +kernel
theorem dX6_readsThing_11 : decode cX6_readsThing 11 = .ok (.bipush 6, 2) := by decide +kernel
theorem dX6_readsThing_13 : decode cX6_readsThing 13 = .ok (.if_icmp .eq 21, 3) := by decide +kernel
theorem dX6_readsThing_16 : decode cX6_readsThing 16 = .ok (.iload_n 3, 1) := by decide +kernel
theorem dX6_readsThing_17 : decode cX6_readsThing 17 = .ok (.bipush 116, 2) := by decide +kernel
theorem dX6_readsThing_19 : decode cX6_readsThing 19 = .ok (.if_icmp .eq 17, 3) := by decide +kernel
theorem dX6_readsThing_22 : decode cX6_readsThing 22 = .ok (.iload_n 3, 1) := by decide +kernel
theorem dX6_readsThing_23 : decode cX6_readsThing 23 = .ok (.bipush 108, 2) := by decide +kernel
theorem dX6_readsThing_25 : decode cX6_readsThing 25 = .ok (.if_icmp .eq 11, 3) := by decide +kernel
theorem dX6_readsThing_28 : decode cX6_readsThing 28 = .ok (.iload_n 3, 1) := by decide +kernel
theorem dX6_readsThing_29 : decode cX6_readsThing 29 = .ok (.bipush 100, 2) := by decide +kernel
theorem dX6_readsThing_31 : decode cX6_readsThing 31 = .ok (.if_icmp .eq 5, 3) := by decide +kernel
theorem dX6_readsThing_34 : decode cX6_readsThing 34 = .ok (.iconst 0, 1) := by decide +kernel
theorem dX6_readsThing_35 : decode cX6_readsThing 35 = .ok (.ireturn, 1) := by decide +kernel
theorem dX6_readsThing_36 : decode cX6_readsThing 36 = .ok (.aload_n 0, 1) := by decide +kernel
theorem dX6_readsThing_37 : decode cX6_readsThing 37 = .ok (.dup, 1) := by decide +kernel
theorem dX6_readsThing_38 : decode cX6_readsThing 38 = .ok (.getfield 107, 3) := by decide +kernel
theorem dX6_readsThing_41 : decode cX6_readsThing 41 = .ok (.iconst 1, 1) := by decide +kernel
theorem dX6_readsThing_42 : decode cX6_readsThing 42 = .ok (.iadd, 1) := by decide +kernel
theorem dX6_readsThing_43 : decode cX6_readsThing 43 = .ok (.putfield 107, 3) := by decide +kernel
theorem dX6_readsThing_46 : decode cX6_readsThing 46 = .ok (.aload_n 0, 1) := by decide +kernel
theorem dX6_readsThing_47 : decode cX6_readsThing 47 = .ok (.iload_n 1, 1) := by decide +kernel
theorem dX6_readsThing_48 : decode cX6_readsThing 48 = .ok (.iload_n 2, 1) := by decide +kernel
theorem dX6_readsThing_49 : decode cX6_readsThing 49 = .ok (.iconst 1, 1) := by decide +kernel
theorem dX6_readsThing_50 : decode cX6_readsThing 50 = .ok (.bipush 9, 2) := by decide +kernel
theorem dX6_readsThing_52 : decode cX6_readsThing 52 = .ok (.invokevirtual 117, 3) := by decide +kernel
theorem dX6_readsThing_55 : decode cX6_readsThing 55 = .ok (.istore 4, 2) := by decide +kernel
theorem dX6_readsThing_57 : decode cX6_readsThing 57 = .ok (.iload 4, 2) := by decide +kernel
theorem dX6_readsThing_59 : decode cX6_readsThing 59 = .ok (.ifCond .ge 5, 3) := by decide +kernel
theorem dX6_readsThing_62 : decode cX6_readsThing 62 = .ok (.iconst 0, 1) := by decide +kernel
theorem dX6_readsThing_63 : decode cX6_readsThing 63 = .ok (.ireturn, 1) := by decide +kernel
theorem dX6_readsThing_64 : decode cX6_readsThing 64 = .ok (.aload_n 0, 1) := by decide +kernel
theorem dX6_readsThing_65 : decode cX6_readsThing 65 = .ok (.getfield 31, 3) := by decide +kernel
theorem dX6_readsThing_68 : decode cX6_readsThing 68 = .ok (.aload_n 0, 1) := by decide +kernel
theorem dX6_readsThing_69 : decode cX6_readsThing 69 = .ok (.getfield 114, 3) := by decide +kernel
theorem dX6_readsThing_72 : decode cX6_readsThing 72 = .ok (.iload_n 3, 1) := by decide +kernel
theorem dX6_readsThing_73 : decode cX6_readsThing 73 = .ok (.bipush 116, 2) := by decide +kernel
theorem dX6_readsThing_75 : decode cX6_readsThing 75 = .ok (.if_icmp .ne 7, 3) := by decide +kernel
theorem dX6_readsThing_78 : decode cX6_readsThing 78 = .ok (.iconst 0, 1) := by decide +kernel
theorem dX6_readsThing_79 : decode cX6_readsThing 79 = .ok (.goto 14, 3) := by decide +kernel
theorem dX6_readsThing_82 : decode cX6_readsThing 82 = .ok (.iload_n 3, 1) := by decide +kernel
theorem dX6_readsThing_83 : decode cX6_readsThing 83 = .ok (.bipush 108, 2) := by decide +kernel
theorem dX6_readsThing_85 : decode cX6_readsThing 85 = .ok (.if_icmp .ne 7, 3) := by decide +kernel
theorem dX6_readsThing_88 : decode cX6_readsThing 88 = .ok (.iconst 1, 1) := by decide +kernel
theorem dX6_readsThing_89 : decode cX6_readsThing 89 = .ok (.goto 4, 3) := by decide +kernel
theorem dX6_readsThing_92 : decode cX6_readsThing 92 = .ok (.iconst 2, 1) := by decide +kernel
theorem dX6_readsThing_93 : decode cX6_readsThing 93 = .ok (.iastore, 1) := by decide +kernel
theorem dX6_readsThing_94 : decode cX6_readsThing 94 = .ok (.aload_n 0, 1) := by decide +kernel
theorem dX6_readsThing_95 : decode cX6_readsThing 95 = .ok (.getfield 34, 3) := by decide +kernel
theorem dX6_readsThing_98 : decode cX6_readsThing 98 = .ok (.aload_n 0, 1) := by decide +kernel
theorem dX6_readsThing_99 : decode cX6_readsThing 99 = .ok (.getfield 114, 3) := by decide +kernel
theorem dX6_readsThing_102 : decode cX6_readsThing 102 = .ok (.iload 4, 2) := by decide +kernel
theorem dX6_readsThing_104 : decode cX6_readsThing 104 = .ok (.iastore, 1) := by decide +kernel
theorem dX6_readsThing_105 : decode cX6_readsThing 105 = .ok (.aload_n 0, 1) := by decide +kernel
theorem dX6_readsThing_106 : decode cX6_readsThing 106 = .ok (.dup, 1) := by decide +kernel
theorem dX6_readsThing_107 : decode cX6_readsThing 107 = .ok (.getfield 114, 3) := by decide +kernel
theorem dX6_readsThing_110 : decode cX6_readsThing 110 = .ok (.iconst 1, 1) := by decide +kernel
theorem dX6_readsThing_111 : decode cX6_readsThing 111 = .ok (.iadd, 1) := by decide +kernel
theorem dX6_readsThing_112 : decode cX6_readsThing 112 = .ok (.putfield 114, 3) := by decide +kernel
theorem dX6_readsThing_115 : decode cX6_readsThing 115 = .ok (.iconst 1, 1) := by decide +kernel
theorem dX6_readsThing_116 : decode cX6_readsThing 116 = .ok (.ireturn, 1) := by decide +kernel
set_option maxRecDepth 20000 in
theorem ggX6_readsFollow_X6_codeAt : GoodIn wsX6_readsFollow wsX6_codeAt := goodIn_r _ [10, 2, 11, 19, 20, 21, 22, 23, 24, 25, 26, 27, 28, 29, 30, 31, 32, 33, 34, 35, 36, 37, 38, 39, 40, 41, 42, 43, 44, 45] (by decide +kernel) (by decide +kernel)
set_option maxRecDepth 20000 in
theorem gX6_readsFollow_X6_codeAt : GoodIn wsX6_readsFollow (wsV RX6 110 RX6 yX6_codeAt wsX6_codeAt) := goodIn_app (goodIn_of _ (by decide +kernel)) ggX6_readsFollow_X6_codeAt
set_option maxRecDepth 20000 in
theorem ggX6_readsFollow_X6_figure : GoodIn wsX6_readsFollow wsX6_figure := goodIn_r _ [15, 2, 6, 7, 8, 9, 10, 11, 16, 17, 18, 19, 20, 21, 22, 23, 24, 25, 26, 27, 28, 29, 30, 31, 32, 33, 34, 35, 36, 37, 38, 39, 40, 41, 42, 43, 44, 45] (by decide +kernel) (by decide +kernel)
set_option maxRecDepth 20000 in
theorem gX6_readsFollow_X6_figure : GoodIn wsX6_readsFollow (wsV RX6 117 RX6 yX6_figure wsX6_figure) := goodIn_app (goodIn_of _ (by decide +kernel)) ggX6_readsFollow_X6_figure
theorem dX6_readsFollow_0 : decode cX6_readsFollow 0 = .ok (.aload_n 0, 1) := by decide +kernel
theorem dX6_readsFollow_1 : decode cX6_readsFollow 1 = .ok (.getfield 121, 3) := by decide +kernel
theorem dX6_readsFollow_4 : decode cX6_readsFollow 4 = .ok (.iconst 4, 1) := by decide +kernel
theorem dX6_readsFollow_5 : decode cX6_readsFollow 5 = .ok (.if_icmp .eq 14, 3) := by decide +kernel
theorem dX6_readsFollow_8 : decode cX6_readsFollow 8 = .ok (.aload_n 0, 1) := by decide +kernel
theorem dX6_readsFollow_9 : decode cX6_readsFollow 9 = .ok (.iload_n 1, 1) := by decide +kernel
theorem dX6_readsFollow_10 : decode cX6_readsFollow 10 = .ok (.iload_n 2, 1) := by decide +kernel
theorem dX6_readsFollow_11 : decode cX6_readsFollow 11 = .ok (.invokevirtual 110, 3) := by decide +kernel
theorem dX6_readsFollow_14 : decode cX6_readsFollow 14 = .ok (.bipush 59, 2) := by decide +kernel
theorem dX6_readsFollow_16 : decode cX6_readsFollow 16 = .ok (.if_icmp .eq 5, 3) := by decide +kernel
theorem dX6_readsFollow_19 : decode cX6_readsFollow 19 = .ok (.iconst 0, 1) := by decide +kernel
theorem dX6_readsFollow_20 : decode cX6_readsFollow 20 = .ok (.ireturn, 1) := by decide +kernel
theorem dX6_readsFollow_21 : decode cX6_readsFollow 21 = .ok (.aload_n 0, 1) := by decide +kernel
theorem dX6_readsFollow_22 : decode cX6_readsFollow 22 = .ok (.dup, 1) := by decide +kernel
theorem dX6_readsFollow_23 : decode cX6_readsFollow 23 = .ok (.getfield 107, 3) := by decide +kernel
theorem dX6_readsFollow_26 : decode cX6_readsFollow 26 = .ok (.iconst 1, 1) := by decide +kernel
theorem dX6_readsFollow_27 : decode cX6_readsFollow 27 = .ok (.iadd, 1) := by decide +kernel
theorem dX6_readsFollow_28 : decode cX6_readsFollow 28 = .ok (.putfield 107, 3) := by decide +kernel
theorem dX6_readsFollow_31 : decode cX6_readsFollow 31 = .ok (.aload_n 0, 1) := by decide +kernel
theorem dX6_readsFollow_32 : decode cX6_readsFollow 32 = .ok (.iload_n 1, 1) := by decide +kernel
theorem dX6_readsFollow_33 : decode cX6_readsFollow 33 = .ok (.iload_n 2, 1) := by decide +kernel
theorem dX6_readsFollow_34 : decode cX6_readsFollow 34 = .ok (.iconst 0, 1) := by decide +kernel
theorem dX6_readsFollow_35 : decode cX6_readsFollow 35 = .ok (.aload_n 0, 1) := by decide +kernel
theorem dX6_readsFollow_36 : decode cX6_readsFollow 36 = .ok (.getfield 114, 3) := by decide +kernel
theorem dX6_readsFollow_39 : decode cX6_readsFollow 39 = .ok (.iconst 1, 1) := by decide +kernel
theorem dX6_readsFollow_40 : decode cX6_readsFollow 40 = .ok (.isub, 1) := by decide +kernel
theorem dX6_readsFollow_41 : decode cX6_readsFollow 41 = .ok (.invokevirtual 117, 3) := by decide +kernel
theorem dX6_readsFollow_44 : decode cX6_readsFollow 44 = .ok (.istore_n 3, 1) := by decide +kernel
theorem dX6_readsFollow_45 : decode cX6_readsFollow 45 = .ok (.iload_n 3, 1) := by decide +kernel
theorem dX6_readsFollow_46 : decode cX6_readsFollow 46 = .ok (.ifCond .lt 16, 3) := by decide +kernel
theorem dX6_readsFollow_49 : decode cX6_readsFollow 49 = .ok (.aload_n 0, 1) := by decide +kernel
theorem dX6_readsFollow_50 : decode cX6_readsFollow 50 = .ok (.iload_n 1, 1) := by decide +kernel
theorem dX6_readsFollow_51 : decode cX6_readsFollow 51 = .ok (.iload_n 2, 1) := by decide +kernel
theorem dX6_readsFollow_52 : decode cX6_readsFollow 52 = .ok (.invokevirtual 110, 3) := by decide +kernel
theorem dX6_readsFollow_55 : decode cX6_readsFollow 55 = .ok (.bipush 48, 2) := by decide +kernel
theorem dX6_readsFollow_57 : decode cX6_readsFollow 57 = .ok (.iload_n 3, 1) := by decide +kernel
theorem dX6_readsFollow_58 : decode cX6_readsFollow 58 = .ok (.iadd, 1) := by decide +kernel
theorem dX6_readsFollow_59 : decode cX6_readsFollow 59 = .ok (.if_icmp .ne 5, 3) := by decide +kernel
theorem dX6_readsFollow_62 : decode cX6_readsFollow 62 = .ok (.iconst 0, 1) := by decide +kernel
theorem dX6_readsFollow_63 : decode cX6_readsFollow 63 = .ok (.ireturn, 1) := by decide +kernel
theorem dX6_readsFollow_64 : decode cX6_readsFollow 64 = .ok (.aload_n 0, 1) := by decide +kernel
theorem dX6_readsFollow_65 : decode cX6_readsFollow 65 = .ok (.iload_n 1, 1) := by decide +kernel
theorem dX6_readsFollow_66 : decode cX6_readsFollow 66 = .ok (.iload_n 2, 1) := by decide +kernel
theorem dX6_readsFollow_67 : decode cX6_readsFollow 67 = .ok (.iconst 0, 1) := by decide +kernel
theorem dX6_readsFollow_68 : decode cX6_readsFollow 68 = .ok (.aload_n 0, 1) := by decide +kernel
theorem dX6_readsFollow_69 : decode cX6_readsFollow 69 = .ok (.getfield 114, 3) := by decide +kernel
theorem dX6_readsFollow_72 : decode cX6_readsFollow 72 = .ok (.iconst 1, 1) := by decide +kernel
theorem dX6_readsFollow_73 : decode cX6_readsFollow 73 = .ok (.isub, 1) := by decide +kernel
theorem dX6_readsFollow_74 : decode cX6_readsFollow 74 = .ok (.invokevirtual 117, 3) := by decide +kernel
theorem dX6_readsFollow_77 : decode cX6_readsFollow 77 = .ok (.istore 4, 2) := by decide +kernel
theorem dX6_readsFollow_79 : decode cX6_readsFollow 79 = .ok (.iload 4, 2) := by decide +kernel
theorem dX6_readsFollow_81 : decode cX6_readsFollow 81 = .ok (.ifCond .ge 5, 3) := by decide +kernel
theorem dX6_readsFollow_84 : decode cX6_readsFollow 84 = .ok (.iconst 0, 1) := by decide +kernel
theorem dX6_readsFollow_85 : decode cX6_readsFollow 85 = .ok (.ireturn, 1) := by decide +kernel
theorem dX6_readsFollow_86 : decode cX6_readsFollow 86 = .ok (.aload_n 0, 1) := by decide +kernel
theorem dX6_readsFollow_87 : decode cX6_readsFollow 87 = .ok (.getfield 37, 3) := by decide +kernel
theorem dX6_readsFollow_90 : decode cX6_readsFollow 90 = .ok (.aload_n 0, 1) := by decide +kernel
theorem dX6_readsFollow_91 : decode cX6_readsFollow 91 = .ok (.getfield 121, 3) := by decide +kernel
theorem dX6_readsFollow_94 : decode cX6_readsFollow 94 = .ok (.iload_n 3, 1) := by decide +kernel
theorem dX6_readsFollow_95 : decode cX6_readsFollow 95 = .ok (.iastore, 1) := by decide +kernel
theorem dX6_readsFollow_96 : decode cX6_readsFollow 96 = .ok (.aload_n 0, 1) := by decide +kernel
theorem dX6_readsFollow_97 : decode cX6_readsFollow 97 = .ok (.getfield 40, 3) := by decide +kernel
theorem dX6_readsFollow_100 : decode cX6_readsFollow 100 = .ok (.aload_n 0, 1) := by decide +kernel
theorem dX6_readsFollow_101 : decode cX6_readsFollow 101 = .ok (.getfield 121, 3) := by decide +kernel
theorem dX6_readsFollow_104 : decode cX6_readsFollow 104 = .ok (.iload 4, 2) := by decide +kernel
theorem dX6_readsFollow_106 : decode cX6_readsFollow 106 = .ok (.iastore, 1) := by decide +kernel
theorem dX6_readsFollow_107 : decode cX6_readsFollow 107 = .ok (.aload_n 0, 1) := by decide +kernel
theorem dX6_readsFollow_108 : decode cX6_readsFollow 108 = .ok (.dup, 1) := by decide +kernel
theorem dX6_readsFollow_109 : decode cX6_readsFollow 109 = .ok (.getfield 121, 3) := by decide +kernel
theorem dX6_readsFollow_112 : decode cX6_readsFollow 112 = .ok (.iconst 1, 1) := by decide +kernel
theorem dX6_readsFollow_113 : decode cX6_readsFollow 113 = .ok (.iadd, 1) := by decide +kernel
theorem dX6_readsFollow_114 : decode cX6_readsFollow 114 = .ok (.putfield 121, 3) := by decide +kernel
theorem dX6_readsFollow_117 : decode cX6_readsFollow 117 = .ok (.iconst 1, 1) := by decide +kernel
theorem dX6_readsFollow_118 : decode cX6_readsFollow 118 = .ok (.ireturn, 1) := by decide +kernel
set_option maxRecDepth 20000 in
theorem ggX6_readsTown_X6_codeAt : GoodIn wsX6_readsTown wsX6_codeAt := goodIn_r _ [8, 1, 9, 29, 30, 31, 32, 33, 34, 35, 36, 37, 38, 39, 40, 41, 42, 43, 44, 45, 46, 47, 48, 49, 50, 51, 52, 53, 54, 55] (by decide +kernel) (by decide +kernel)
set_option maxRecDepth 20000 in
theorem gX6_readsTown_X6_codeAt : GoodIn wsX6_readsTown (wsV RX6 110 RX6 yX6_codeAt wsX6_codeAt) := goodIn_app (goodIn_of _ (by decide +kernel)) ggX6_readsTown_X6_codeAt
set_option maxRecDepth 20000 in
theorem ggX6_readsTown_X6_readsThing : GoodIn wsX6_readsTown wsX6_readsThing := goodIn_r _ [13, 2, 1, 14, 15, 4, 5, 6, 7, 8, 9, 16, 17, 18, 19, 20, 21, 22, 29, 30, 31, 32, 33, 34, 35, 36, 37, 38, 39, 40, 41, 42, 43, 44, 45, 46, 47, 48, 49, 50, 51, 52, 53, 54, 55] (by decide +kernel) (by decide +kernel)
set_option maxRecDepth 20000 in
theorem gX6_readsTown_X6_readsThing : GoodIn wsX6_readsTown (wsV RX6 124 RX6 yX6_readsThing wsX6_readsThing) := goodIn_app (goodIn_of _ (by decide +kernel)) ggX6_readsTown_X6_readsThing
set_option maxRecDepth 20000 in
theorem ggX6_readsTown_X6_readsFollow : GoodIn wsX6_readsTown wsX6_readsFollow := goodIn_r _ [26, 3, 1, 2, 27, 28, 4, 5, 6, 7, 8, 9, 16, 17, 18, 19, 20, 21, 22, 29, 30, 31, 32, 33, 34, 35, 36, 37, 38, 39, 40, 41, 42, 43, 44, 45, 46, 47, 48, 49, 50, 51, 52, 53, 54, 55] (by decide +kernel) (by decide +kernel)
set_option maxRecDepth 20000 in
theorem gX6_readsTown_X6_readsFollow : GoodIn wsX6_readsTown (wsV RX6 128 RX6 yX6_readsFollow wsX6_readsFollow) := goodIn_app (goodIn_of _ (by decide +kernel)) ggX6_readsTown_X6_readsFollow
theorem dX6_readsTown_0 : decode cX6_readsTown 0 = .ok (.aload_n 0, 1) := by decide +kernel
theorem dX6_readsTown_1 : decode cX6_readsTown 1 = .ok (.iconst 0, 1) := by decide +kernel
theorem dX6_readsTown_2 : decode cX6_readsTown 2 = .ok (.putfield 107, 3) := by decide +kernel
theorem dX6_readsTown_5 : decode cX6_readsTown 5 = .ok (.aload_n 0, 1) := by decide +kernel
theorem dX6_readsTown_6 : decode cX6_readsTown 6 = .ok (.iconst 0, 1) := by decide +kernel
theorem dX6_readsTown_7 : decode cX6_readsTown 7 = .ok (.putfield 114, 3) := by decide +kernel
theorem dX6_readsTown_10 : decode cX6_readsTown 10 = .ok (.aload_n 0, 1) := by decide +kernel
theorem dX6_readsTown_11 : decode cX6_readsTown 11 = .ok (.iconst 0, 1) := by decide +kernel
theorem dX6_readsTown_12 : decode cX6_readsTown 12 = .ok (.putfield 121, 3) := by decide +kernel
theorem dX6_readsTown_15 : decode cX6_readsTown 15 = .ok (.aload_n 0, 1) := by decide +kernel
theorem dX6_readsTown_16 : decode cX6_readsTown 16 = .ok (.iload_n 1, 1) := by decide +kernel
theorem dX6_readsTown_17 : decode cX6_readsTown 17 = .ok (.iload_n 2, 1) := by decide +kernel
theorem dX6_readsTown_18 : decode cX6_readsTown 18 = .ok (.invokevirtual 110, 3) := by decide +kernel
theorem dX6_readsTown_21 : decode cX6_readsTown 21 = .ok (.bipush 119, 2) := by decide +kernel
