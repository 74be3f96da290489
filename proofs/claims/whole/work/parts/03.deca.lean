theorem dX0_init_0 : decode cX0_init 0 = .ok (.aload_n 0, 1) := by decide +kernel
theorem dX0_init_1 : decode cX0_init 1 = .ok (.invokespecial 3, 3) := by decide +kernel
theorem dX0_init_4 : decode cX0_init 4 = .ok (.aload_n 0, 1) := by decide +kernel
theorem dX0_init_5 : decode cX0_init 5 = .ok (.bipush 64, 2) := by decide +kernel
theorem dX0_init_7 : decode cX0_init 7 = .ok (.newarray .long, 2) := by decide +kernel
theorem dX0_init_9 : decode cX0_init 9 = .ok (.putfield 9, 3) := by decide +kernel
theorem dX0_init_12 : decode cX0_init 12 = .ok (.aload_n 0, 1) := by decide +kernel
theorem dX0_init_13 : decode cX0_init 13 = .ok (.bipush 64, 2) := by decide +kernel
theorem dX0_init_15 : decode cX0_init 15 = .ok (.newarray .int, 2) := by decide +kernel
theorem dX0_init_17 : decode cX0_init 17 = .ok (.putfield 15, 3) := by decide +kernel
theorem dX0_init_20 : decode cX0_init 20 = .ok (.aload_n 0, 1) := by decide +kernel
theorem dX0_init_21 : decode cX0_init 21 = .ok (.bipush 64, 2) := by decide +kernel
theorem dX0_init_23 : decode cX0_init 23 = .ok (.newarray .long, 2) := by decide +kernel
theorem dX0_init_25 : decode cX0_init 25 = .ok (.putfield 19, 3) := by decide +kernel
theorem dX0_init_28 : decode cX0_init 28 = .ok (.return_, 1) := by decide +kernel
theorem dX0_begin_0 : decode cX0_begin 0 = .ok (.aload_n 0, 1) := by decide +kernel
theorem dX0_begin_1 : decode cX0_begin 1 = .ok (.aload_n 1, 1) := by decide +kernel
theorem dX0_begin_2 : decode cX0_begin 2 = .ok (.getfield 22, 3) := by decide +kernel
theorem dX0_begin_5 : decode cX0_begin 5 = .ok (.bipush 64, 2) := by decide +kernel
theorem dX0_begin_7 : decode cX0_begin 7 = .ok (.invokestatic 28, 3) := by decide +kernel
theorem dX0_begin_10 : decode cX0_begin 10 = .ok (.putfield 34, 3) := by decide +kernel
theorem dX0_begin_13 : decode cX0_begin 13 = .ok (.iconst 0, 1) := by decide +kernel
theorem dX0_begin_14 : decode cX0_begin 14 = .ok (.istore_n 2, 1) := by decide +kernel
theorem dX0_begin_15 : decode cX0_begin 15 = .ok (.iload_n 2, 1) := by decide +kernel
theorem dX0_begin_16 : decode cX0_begin 16 = .ok (.aload_n 0, 1) := by decide +kernel
theorem dX0_begin_17 : decode cX0_begin 17 = .ok (.getfield 34, 3) := by decide +kernel
theorem dX0_begin_20 : decode cX0_begin 20 = .ok (.if_icmp .ge 16, 3) := by decide +kernel
theorem dX0_begin_23 : decode cX0_begin 23 = .ok (.aload_n 0, 1) := by decide +kernel
theorem dX0_begin_24 : decode cX0_begin 24 = .ok (.getfield 9, 3) := by decide +kernel
theorem dX0_begin_27 : decode cX0_begin 27 = .ok (.iload_n 2, 1) := by decide +kernel
theorem dX0_begin_28 : decode cX0_begin 28 = .ok (.lconst 0, 1) := by decide +kernel
theorem dX0_begin_29 : decode cX0_begin 29 = .ok (.lastore, 1) := by decide +kernel
theorem dX0_begin_30 : decode cX0_begin 30 = .ok (.iinc 2 1, 3) := by decide +kernel
theorem dX0_begin_33 : decode cX0_begin 33 = .ok (.goto (-18), 3) := by decide +kernel
theorem dX0_begin_36 : decode cX0_begin 36 = .ok (.return_, 1) := by decide +kernel
set_option maxRecDepth 20000 in
theorem ggX0_splitBy_X4_callIn : GoodIn wsX0_splitBy wsX4_callIn := goodIn_r _ [8, 9, 10, 11, 12, 18, 19, 20, 21, 22, 23, 24, 25, 26] (by decide +kernel) (by decide +kernel)
set_option maxRecDepth 20000 in
theorem gX0_splitBy_X4_callIn : GoodIn wsX0_splitBy (wsV RX0 40 RX4 yX4_callIn wsX4_callIn) := goodIn_app (goodIn_of _ (by decide +kernel)) ggX0_splitBy_X4_callIn
theorem dX0_splitBy_0 : decode cX0_splitBy 0 = .ok (.iconst 0, 1) := by decide +kernel
theorem dX0_splitBy_1 : decode cX0_splitBy 1 = .ok (.istore 4, 2) := by decide +kernel
theorem dX0_splitBy_3 : decode cX0_splitBy 3 = .ok (.iload 4, 2) := by decide +kernel
theorem dX0_splitBy_5 : decode cX0_splitBy 5 = .ok (.aload_n 0, 1) := by decide +kernel
theorem dX0_splitBy_6 : decode cX0_splitBy 6 = .ok (.getfield 34, 3) := by decide +kernel
theorem dX0_splitBy_9 : decode cX0_splitBy 9 = .ok (.if_icmp .ge 41, 3) := by decide +kernel
theorem dX0_splitBy_12 : decode cX0_splitBy 12 = .ok (.aload_n 0, 1) := by decide +kernel
theorem dX0_splitBy_13 : decode cX0_splitBy 13 = .ok (.getfield 9, 3) := by decide +kernel
theorem dX0_splitBy_16 : decode cX0_splitBy 16 = .ok (.iload 4, 2) := by decide +kernel
theorem dX0_splitBy_18 : decode cX0_splitBy 18 = .ok (.aload_n 0, 1) := by decide +kernel
theorem dX0_splitBy_19 : decode cX0_splitBy 19 = .ok (.getfield 9, 3) := by decide +kernel
theorem dX0_splitBy_22 : decode cX0_splitBy 22 = .ok (.iload 4, 2) := by decide +kernel
theorem dX0_splitBy_24 : decode cX0_splitBy 24 = .ok (.laload, 1) := by decide +kernel
theorem dX0_splitBy_25 : decode cX0_splitBy 25 = .ok (.bipush 6, 2) := by decide +kernel
theorem dX0_splitBy_27 : decode cX0_splitBy 27 = .ok (.lshl, 1) := by decide +kernel
theorem dX0_splitBy_28 : decode cX0_splitBy 28 = .ok (.aload_n 1, 1) := by decide +kernel
theorem dX0_splitBy_29 : decode cX0_splitBy 29 = .ok (.aload_n 1, 1) := by decide +kernel
theorem dX0_splitBy_30 : decode cX0_splitBy 30 = .ok (.getfield 37, 3) := by decide +kernel
theorem dX0_splitBy_33 : decode cX0_splitBy 33 = .ok (.iload 4, 2) := by decide +kernel
theorem dX0_splitBy_35 : decode cX0_splitBy 35 = .ok (.iaload, 1) := by decide +kernel
theorem dX0_splitBy_36 : decode cX0_splitBy 36 = .ok (.iload_n 2, 1) := by decide +kernel
theorem dX0_splitBy_37 : decode cX0_splitBy 37 = .ok (.iload_n 3, 1) := by decide +kernel
theorem dX0_splitBy_38 : decode cX0_splitBy 38 = .ok (.invokevirtual 40, 3) := by decide +kernel
theorem dX0_splitBy_41 : decode cX0_splitBy 41 = .ok (.i2l, 1) := by decide +kernel
theorem dX0_splitBy_42 : decode cX0_splitBy 42 = .ok (.lor, 1) := by decide +kernel
theorem dX0_splitBy_43 : decode cX0_splitBy 43 = .ok (.lastore, 1) := by decide +kernel
theorem dX0_splitBy_44 : decode cX0_splitBy 44 = .ok (.iinc 4 1, 3) := by decide +kernel
theorem dX0_splitBy_47 : decode cX0_splitBy 47 = .ok (.goto (-44), 3) := by decide +kernel
theorem dX0_splitBy_50 : decode cX0_splitBy 50 = .ok (.return_, 1) := by decide +kernel
set_option maxRecDepth 20000 in
theorem ggX0_number_X0_firstLike : GoodIn wsX0_number wsX0_firstLike := goodIn_r _ [8, 9, 10, 11, 12, 13, 14] (by decide +kernel) (by decide +kernel)
set_option maxRecDepth 20000 in
theorem gX0_number_X0_firstLike : GoodIn wsX0_number (wsV RX0 47 RX0 yX0_firstLike wsX0_firstLike) := goodIn_app (goodIn_of _ (by decide +kernel)) ggX0_number_X0_firstLike
theorem dX0_number_0 : decode cX0_number 0 = .ok (.aload_n 0, 1) := by decide +kernel
theorem dX0_number_1 : decode cX0_number 1 = .ok (.iconst 0, 1) := by decide +kernel
theorem dX0_number_2 : decode cX0_number 2 = .ok (.putfield 44, 3) := by decide +kernel
theorem dX0_number_5 : decode cX0_number 5 = .ok (.iconst 0, 1) := by decide +kernel
theorem dX0_number_6 : decode cX0_number 6 = .ok (.istore_n 1, 1) := by decide +kernel
theorem dX0_number_7 : decode cX0_number 7 = .ok (.iload_n 1, 1) := by decide +kernel
theorem dX0_number_8 : decode cX0_number 8 = .ok (.aload_n 0, 1) := by decide +kernel
theorem dX0_number_9 : decode cX0_number 9 = .ok (.getfield 34, 3) := by decide +kernel
theorem dX0_number_12 : decode cX0_number 12 = .ok (.if_icmp .ge 55, 3) := by decide +kernel
theorem dX0_number_15 : decode cX0_number 15 = .ok (.aload_n 0, 1) := by decide +kernel
theorem dX0_number_16 : decode cX0_number 16 = .ok (.iload_n 1, 1) := by decide +kernel
theorem dX0_number_17 : decode cX0_number 17 = .ok (.invokevirtual 47, 3) := by decide +kernel
theorem dX0_number_20 : decode cX0_number 20 = .ok (.istore_n 2, 1) := by decide +kernel
theorem dX0_number_21 : decode cX0_number 21 = .ok (.iload_n 2, 1) := by decide +kernel
theorem dX0_number_22 : decode cX0_number 22 = .ok (.iload_n 1, 1) := by decide +kernel
theorem dX0_number_23 : decode cX0_number 23 = .ok (.if_icmp .ne 26, 3) := by decide +kernel
theorem dX0_number_26 : decode cX0_number 26 = .ok (.aload_n 0, 1) := by decide +kernel
theorem dX0_number_27 : decode cX0_number 27 = .ok (.getfield 15, 3) := by decide +kernel
theorem dX0_number_30 : decode cX0_number 30 = .ok (.iload_n 1, 1) := by decide +kernel
theorem dX0_number_31 : decode cX0_number 31 = .ok (.aload_n 0, 1) := by decide +kernel
theorem dX0_number_32 : decode cX0_number 32 = .ok (.getfield 44, 3) := by decide +kernel
theorem dX0_number_35 : decode cX0_number 35 = .ok (.iastore, 1) := by decide +kernel
theorem dX0_number_36 : decode cX0_number 36 = .ok (.aload_n 0, 1) := by decide +kernel
theorem dX0_number_37 : decode cX0_number 37 = .ok (.dup, 1) := by decide +kernel
theorem dX0_number_38 : decode cX0_number 38 = .ok (.getfield 44, 3) := by decide +kernel
theorem dX0_number_41 : decode cX0_number 41 = .ok (.iconst 1, 1) := by decide +kernel
theorem dX0_number_42 : decode cX0_number 42 = .ok (.iadd, 1) := by decide +kernel
theorem dX0_number_43 : decode cX0_number 43 = .ok (.putfield 44, 3) := by decide +kernel
theorem dX0_number_46 : decode cX0_number 46 = .ok (.goto 15, 3) := by decide +kernel
theorem dX0_number_49 : decode cX0_number 49 = .ok (.aload_n 0, 1) := by decide +kernel
theorem dX0_number_50 : decode cX0_number 50 = .ok (.getfield 15, 3) := by decide +kernel
theorem dX0_number_53 : decode cX0_number 53 = .ok (.iload_n 1, 1) := by decide +kernel
theorem dX0_number_54 : decode cX0_number 54 = .ok (.aload_n 0, 1) := by decide +kernel
theorem dX0_number_55 : decode cX0_number 55 = .ok (.getfield 15, 3) := by decide +kernel
theorem dX0_number_58 : decode cX0_number 58 = .ok (.iload_n 2, 1) := by decide +kernel
theorem dX0_number_59 : decode cX0_number 59 = .ok (.iaload, 1) := by decide +kernel
theorem dX0_number_60 : decode cX0_number 60 = .ok (.iastore, 1) := by decide +kernel
theorem dX0_number_61 : decode cX0_number 61 = .ok (.iinc 1 1, 3) := by decide +kernel
theorem dX0_number_64 : decode cX0_number 64 = .ok (.goto (-57), 3) := by decide +kernel
theorem dX0_number_67 : decode cX0_number 67 = .ok (.aload_n 0, 1) := by decide +kernel
theorem dX0_number_68 : decode cX0_number 68 = .ok (.getfield 44, 3) := by decide +kernel
theorem dX0_number_71 : decode cX0_number 71 = .ok (.ireturn, 1) := by decide +kernel
theorem dX0_firstLike_0 : decode cX0_firstLike 0 = .ok (.iconst 0, 1) := by decide +kernel
theorem dX0_firstLike_1 : decode cX0_firstLike 1 = .ok (.istore_n 2, 1) := by decide +kernel
theorem dX0_firstLike_2 : decode cX0_firstLike 2 = .ok (.iload_n 2, 1) := by decide +kernel
theorem dX0_firstLike_3 : decode cX0_firstLike 3 = .ok (.iload_n 1, 1) := by decide +kernel
theorem dX0_firstLike_4 : decode cX0_firstLike 4 = .ok (.if_icmp .ge 27, 3) := by decide +kernel
theorem dX0_firstLike_7 : decode cX0_firstLike 7 = .ok (.aload_n 0, 1) := by decide +kernel
theorem dX0_firstLike_8 : decode cX0_firstLike 8 = .ok (.getfield 9, 3) := by decide +kernel
theorem dX0_firstLike_11 : decode cX0_firstLike 11 = .ok (.iload_n 2, 1) := by decide +kernel
theorem dX0_firstLike_12 : decode cX0_firstLike 12 = .ok (.laload, 1) := by decide +kernel
theorem dX0_firstLike_13 : decode cX0_firstLike 13 = .ok (.aload_n 0, 1) := by decide +kernel
theorem dX0_firstLike_14 : decode cX0_firstLike 14 = .ok (.getfield 9, 3) := by decide +kernel
theorem dX0_firstLike_17 : decode cX0_firstLike 17 = .ok (.iload_n 1, 1) := by decide +kernel
theorem dX0_firstLike_18 : decode cX0_firstLike 18 = .ok (.laload, 1) := by decide +kernel
theorem dX0_firstLike_19 : decode cX0_firstLike 19 = .ok (.lcmp, 1) := by decide +kernel
theorem dX0_firstLike_20 : decode cX0_firstLike 20 = .ok (.ifCond .ne 5, 3) := by decide +kernel
theorem dX0_firstLike_23 : decode cX0_firstLike 23 = .ok (.iload_n 2, 1) := by decide +kernel
theorem dX0_firstLike_24 : decode cX0_firstLike 24 = .ok (.ireturn, 1) := by decide +kernel
theorem dX0_firstLike_25 : decode cX0_firstLike 25 = .ok (.iinc 2 1, 3) := by decide +kernel
theorem dX0_firstLike_28 : decode cX0_firstLike 28 = .ok (.goto (-26), 3) := by decide +kernel
theorem dX0_firstLike_31 : decode cX0_firstLike 31 = .ok (.iload_n 1, 1) := by decide +kernel
theorem dX0_firstLike_32 : decode cX0_firstLike 32 = .ok (.ireturn, 1) := by decide +kernel
set_option maxRecDepth 20000 in
theorem ggX0_countWith_X4_callIn : GoodIn wsX0_countWith wsX4_callIn := goodIn_r _ [10, 11, 12, 13, 14, 20, 21, 22, 23, 24, 25, 26, 27, 28] (by decide +kernel) (by decide +kernel)
set_option maxRecDepth 20000 in
theorem gX0_countWith_X4_callIn : GoodIn wsX0_countWith (wsV RX0 40 RX4 yX4_callIn wsX4_callIn) := goodIn_app (goodIn_of _ (by decide +kernel)) ggX0_countWith_X4_callIn
theorem dX0_countWith_0 : decode cX0_countWith 0 = .ok (.iconst 0, 1) := by decide +kernel
theorem dX0_countWith_1 : decode cX0_countWith 1 = .ok (.istore 4, 2) := by decide +kernel
theorem dX0_countWith_3 : decode cX0_countWith 3 = .ok (.iload 4, 2) := by decide +kernel
theorem dX0_countWith_5 : decode cX0_countWith 5 = .ok (.aload_n 0, 1) := by decide +kernel
theorem dX0_countWith_6 : decode cX0_countWith 6 = .ok (.getfield 44, 3) := by decide +kernel
theorem dX0_countWith_9 : decode cX0_countWith 9 = .ok (.if_icmp .ge 17, 3) := by decide +kernel
theorem dX0_countWith_12 : decode cX0_countWith 12 = .ok (.aload_n 0, 1) := by decide +kernel
theorem dX0_countWith_13 : decode cX0_countWith 13 = .ok (.getfield 19, 3) := by decide +kernel
theorem dX0_countWith_16 : decode cX0_countWith 16 = .ok (.iload 4, 2) := by decide +kernel
theorem dX0_countWith_18 : decode cX0_countWith 18 = .ok (.lconst 0, 1) := by decide +kernel
theorem dX0_countWith_19 : decode cX0_countWith 19 = .ok (.lastore, 1) := by decide +kernel
theorem dX0_countWith_20 : decode cX0_countWith 20 = .ok (.iinc 4 1, 3) := by decide +kernel
theorem dX0_countWith_23 : decode cX0_countWith 23 = .ok (.goto (-20), 3) := by decide +kernel
theorem dX0_countWith_26 : decode cX0_countWith 26 = .ok (.iconst 0, 1) := by decide +kernel
theorem dX0_countWith_27 : decode cX0_countWith 27 = .ok (.istore 4, 2) := by decide +kernel
theorem dX0_countWith_29 : decode cX0_countWith 29 = .ok (.iconst 0, 1) := by decide +kernel
theorem dX0_countWith_30 : decode cX0_countWith 30 = .ok (.istore 5, 2) := by decide +kernel
theorem dX0_countWith_32 : decode cX0_countWith 32 = .ok (.iload 5, 2) := by decide +kernel
theorem dX0_countWith_34 : decode cX0_countWith 34 = .ok (.aload_n 0, 1) := by decide +kernel
theorem dX0_countWith_35 : decode cX0_countWith 35 = .ok (.getfield 34, 3) := by decide +kernel
theorem dX0_countWith_38 : decode cX0_countWith 38 = .ok (.if_icmp .ge 65, 3) := by decide +kernel
theorem dX0_countWith_41 : decode cX0_countWith 41 = .ok (.lconst 1, 1) := by decide +kernel
theorem dX0_countWith_42 : decode cX0_countWith 42 = .ok (.aload_n 1, 1) := by decide +kernel
theorem dX0_countWith_43 : decode cX0_countWith 43 = .ok (.aload_n 1, 1) := by decide +kernel
theorem dX0_countWith_44 : decode cX0_countWith 44 = .ok (.getfield 37, 3) := by decide +kernel
theorem dX0_countWith_47 : decode cX0_countWith 47 = .ok (.iload 5, 2) := by decide +kernel
theorem dX0_countWith_49 : decode cX0_countWith 49 = .ok (.iaload, 1) := by decide +kernel
theorem dX0_countWith_50 : decode cX0_countWith 50 = .ok (.iload_n 2, 1) := by decide +kernel
theorem dX0_countWith_51 : decode cX0_countWith 51 = .ok (.iload_n 3, 1) := by decide +kernel
theorem dX0_countWith_52 : decode cX0_countWith 52 = .ok (.invokevirtual 40, 3) := by decide +kernel
theorem dX0_countWith_55 : decode cX0_countWith 55 = .ok (.lshl, 1) := by decide +kernel
theorem dX0_countWith_56 : decode cX0_countWith 56 = .ok (.lstore 6, 2) := by decide +kernel
theorem dX0_countWith_58 : decode cX0_countWith 58 = .ok (.aload_n 0, 1) := by decide +kernel
theorem dX0_countWith_59 : decode cX0_countWith 59 = .ok (.getfield 15, 3) := by decide +kernel
theorem dX0_countWith_62 : decode cX0_countWith 62 = .ok (.iload 5, 2) := by decide +kernel
theorem dX0_countWith_64 : decode cX0_countWith 64 = .ok (.iaload, 1) := by decide +kernel
theorem dX0_countWith_65 : decode cX0_countWith 65 = .ok (.istore 8, 2) := by decide +kernel
theorem dX0_countWith_67 : decode cX0_countWith 67 = .ok (.aload_n 0, 1) := by decide +kernel
theorem dX0_countWith_68 : decode cX0_countWith 68 = .ok (.getfield 19, 3) := by decide +kernel
theorem dX0_countWith_71 : decode cX0_countWith 71 = .ok (.iload 8, 2) := by decide +kernel
theorem dX0_countWith_73 : decode cX0_countWith 73 = .ok (.laload, 1) := by decide +kernel
theorem dX0_countWith_74 : decode cX0_countWith 74 = .ok (.lload 6, 2) := by decide +kernel
theorem dX0_countWith_76 : decode cX0_countWith 76 = .ok (.land, 1) := by decide +kernel
theorem dX0_countWith_77 : decode cX0_countWith 77 = .ok (.lconst 0, 1) := by decide +kernel
theorem dX0_countWith_78 : decode cX0_countWith 78 = .ok (.lcmp, 1) := by decide +kernel
theorem dX0_countWith_79 : decode cX0_countWith 79 = .ok (.ifCond .ne 18, 3) := by decide +kernel
theorem dX0_countWith_82 : decode cX0_countWith 82 = .ok (.aload_n 0, 1) := by decide +kernel
theorem dX0_countWith_83 : decode cX0_countWith 83 = .ok (.getfield 19, 3) := by decide +kernel
theorem dX0_countWith_86 : decode cX0_countWith 86 = .ok (.iload 8, 2) := by decide +kernel
theorem dX0_countWith_88 : decode cX0_countWith 88 = .ok (.dup2, 1) := by decide +kernel
theorem dX0_countWith_89 : decode cX0_countWith 89 = .ok (.laload, 1) := by decide +kernel
theorem dX0_countWith_90 : decode cX0_countWith 90 = .ok (.lload 6, 2) := by decide +kernel
theorem dX0_countWith_92 : decode cX0_countWith 92 = .ok (.lor, 1) := by decide +kernel
theorem dX0_countWith_93 : decode cX0_countWith 93 = .ok (.lastore, 1) := by decide +kernel
theorem dX0_countWith_94 : decode cX0_countWith 94 = .ok (.iinc 4 1, 3) := by decide +kernel
theorem dX0_countWith_97 : decode cX0_countWith 97 = .ok (.iinc 5 1, 3) := by decide +kernel
theorem dX0_countWith_100 : decode cX0_countWith 100 = .ok (.goto (-68), 3) := by decide +kernel
theorem dX0_countWith_103 : decode cX0_countWith 103 = .ok (.iload 4, 2) := by decide +kernel
theorem dX0_countWith_105 : decode cX0_countWith 105 = .ok (.ireturn, 1) := by decide +kernel
theorem dX1_init_0 : decode cX1_init 0 = .ok (.aload_n 0, 1) := by decide +kernel
theorem dX1_init_1 : decode cX1_init 1 = .ok (.invokespecial 3, 3) := by decide +kernel
theorem dX1_init_4 : decode cX1_init 4 = .ok (.aload_n 0, 1) := by decide +kernel
theorem dX1_init_5 : decode cX1_init 5 = .ok (.bipush 8, 2) := by decide +kernel
theorem dX1_init_7 : decode cX1_init 7 = .ok (.newarray .int, 2) := by decide +kernel
theorem dX1_init_9 : decode cX1_init 9 = .ok (.putfield 9, 3) := by decide +kernel
theorem dX1_init_12 : decode cX1_init 12 = .ok (.aload_n 0, 1) := by decide +kernel
theorem dX1_init_13 : decode cX1_init 13 = .ok (.bipush 8, 2) := by decide +kernel
theorem dX1_init_15 : decode cX1_init 15 = .ok (.newarray .int, 2) := by decide +kernel
theorem dX1_init_17 : decode cX1_init 17 = .ok (.putfield 15, 3) := by decide +kernel
theorem dX1_init_20 : decode cX1_init 20 = .ok (.aload_n 0, 1) := by decide +kernel
theorem dX1_init_21 : decode cX1_init 21 = .ok (.bipush 8, 2) := by decide +kernel
theorem dX1_init_23 : decode cX1_init 23 = .ok (.newarray .int, 2) := by decide +kernel
theorem dX1_init_25 : decode cX1_init 25 = .ok (.putfield 18, 3) := by decide +kernel
theorem dX1_init_28 : decode cX1_init 28 = .ok (.return_, 1) := by decide +kernel
theorem dX1_take_0 : decode cX1_take 0 = .ok (.aload_n 0, 1) := by decide +kernel
theorem dX1_take_1 : decode cX1_take 1 = .ok (.getfield 21, 3) := by decide +kernel
theorem dX1_take_4 : decode cX1_take 4 = .ok (.istore 4, 2) := by decide +kernel
theorem dX1_take_6 : decode cX1_take 6 = .ok (.iload 4, 2) := by decide +kernel
theorem dX1_take_8 : decode cX1_take 8 = .ok (.bipush 8, 2) := by decide +kernel
theorem dX1_take_10 : decode cX1_take 10 = .ok (.if_icmp .ge 37, 3) := by decide +kernel
theorem dX1_take_13 : decode cX1_take 13 = .ok (.aload_n 0, 1) := by decide +kernel
theorem dX1_take_14 : decode cX1_take 14 = .ok (.getfield 9, 3) := by decide +kernel
theorem dX1_take_17 : decode cX1_take 17 = .ok (.iload 4, 2) := by decide +kernel
theorem dX1_take_19 : decode cX1_take 19 = .ok (.iload_n 1, 1) := by decide +kernel
theorem dX1_take_20 : decode cX1_take 20 = .ok (.iastore, 1) := by decide +kernel
theorem dX1_take_21 : decode cX1_take 21 = .ok (.aload_n 0, 1) := by decide +kernel
theorem dX1_take_22 : decode cX1_take 22 = .ok (.getfield 15, 3) := by decide +kernel
theorem dX1_take_25 : decode cX1_take 25 = .ok (.iload 4, 2) := by decide +kernel
theorem dX1_take_27 : decode cX1_take 27 = .ok (.iload_n 2, 1) := by decide +kernel
theorem dX1_take_28 : decode cX1_take 28 = .ok (.iastore, 1) := by decide +kernel
theorem dX1_take_29 : decode cX1_take 29 = .ok (.aload_n 0, 1) := by decide +kernel
theorem dX1_take_30 : decode cX1_take 30 = .ok (.getfield 18, 3) := by decide +kernel
theorem dX1_take_33 : decode cX1_take 33 = .ok (.iload 4, 2) := by decide +kernel
theorem dX1_take_35 : decode cX1_take 35 = .ok (.iload_n 3, 1) := by decide +kernel
theorem dX1_take_36 : decode cX1_take 36 = .ok (.iastore, 1) := by decide +kernel
theorem dX1_take_37 : decode cX1_take 37 = .ok (.aload_n 0, 1) := by decide +kernel
theorem dX1_take_38 : decode cX1_take 38 = .ok (.dup, 1) := by decide +kernel
theorem dX1_take_39 : decode cX1_take 39 = .ok (.getfield 21, 3) := by decide +kernel
theorem dX1_take_42 : decode cX1_take 42 = .ok (.iconst 1, 1) := by decide +kernel
theorem dX1_take_43 : decode cX1_take 43 = .ok (.iadd, 1) := by decide +kernel
theorem dX1_take_44 : decode cX1_take 44 = .ok (.putfield 21, 3) := by decide +kernel
theorem dX1_take_47 : decode cX1_take 47 = .ok (.iload 4, 2) := by decide +kernel
theorem dX1_take_49 : decode cX1_take 49 = .ok (.ireturn, 1) := by decide +kernel
set_option maxRecDepth 20000 in
theorem ggX1_allow_X4_callIn : GoodIn wsX1_allow wsX4_callIn := goodIn_r _ [9, 10, 11, 12, 13, 18, 19, 20, 21, 22, 23, 24, 25, 26] (by decide +kernel) (by decide +kernel)
set_option maxRecDepth 20000 in
theorem gX1_allow_X4_callIn : GoodIn wsX1_allow (wsV RX1 25 RX4 yX4_callIn wsX4_callIn) := goodIn_app (goodIn_of _ (by decide +kernel)) ggX1_allow_X4_callIn
theorem dX1_allow_0 : decode cX1_allow 0 = .ok (.iconst 0, 1) := by decide +kernel
theorem dX1_allow_1 : decode cX1_allow 1 = .ok (.istore 5, 2) := by decide +kernel
theorem dX1_allow_3 : decode cX1_allow 3 = .ok (.iload 5, 2) := by decide +kernel
theorem dX1_allow_5 : decode cX1_allow 5 = .ok (.aload_n 0, 1) := by decide +kernel
theorem dX1_allow_6 : decode cX1_allow 6 = .ok (.getfield 21, 3) := by decide +kernel
theorem dX1_allow_9 : decode cX1_allow 9 = .ok (.if_icmp .ge 53, 3) := by decide +kernel
theorem dX1_allow_12 : decode cX1_allow 12 = .ok (.iload 5, 2) := by decide +kernel
theorem dX1_allow_14 : decode cX1_allow 14 = .ok (.bipush 8, 2) := by decide +kernel
theorem dX1_allow_16 : decode cX1_allow 16 = .ok (.if_icmp .ge 46, 3) := by decide +kernel
theorem dX1_allow_19 : decode cX1_allow 19 = .ok (.aload_n 0, 1) := by decide +kernel
theorem dX1_allow_20 : decode cX1_allow 20 = .ok (.getfield 15, 3) := by decide +kernel
theorem dX1_allow_23 : decode cX1_allow 23 = .ok (.iload 5, 2) := by decide +kernel
theorem dX1_allow_25 : decode cX1_allow 25 = .ok (.iaload, 1) := by decide +kernel
theorem dX1_allow_26 : decode cX1_allow 26 = .ok (.iload_n 3, 1) := by decide +kernel
theorem dX1_allow_27 : decode cX1_allow 27 = .ok (.if_icmp .ne 29, 3) := by decide +kernel
theorem dX1_allow_30 : decode cX1_allow 30 = .ok (.aload_n 1, 1) := by decide +kernel
theorem dX1_allow_31 : decode cX1_allow 31 = .ok (.aload_n 0, 1) := by decide +kernel
theorem dX1_allow_32 : decode cX1_allow 32 = .ok (.getfield 9, 3) := by decide +kernel
theorem dX1_allow_35 : decode cX1_allow 35 = .ok (.iload 5, 2) := by decide +kernel
theorem dX1_allow_37 : decode cX1_allow 37 = .ok (.iaload, 1) := by decide +kernel
theorem dX1_allow_38 : decode cX1_allow 38 = .ok (.iload_n 2, 1) := by decide +kernel
theorem dX1_allow_39 : decode cX1_allow 39 = .ok (.iload 4, 2) := by decide +kernel
theorem dX1_allow_41 : decode cX1_allow 41 = .ok (.invokevirtual 25, 3) := by decide +kernel
theorem dX1_allow_44 : decode cX1_allow 44 = .ok (.aload_n 0, 1) := by decide +kernel
theorem dX1_allow_45 : decode cX1_allow 45 = .ok (.getfield 18, 3) := by decide +kernel
theorem dX1_allow_48 : decode cX1_allow 48 = .ok (.iload 5, 2) := by decide +kernel
theorem dX1_allow_50 : decode cX1_allow 50 = .ok (.iaload, 1) := by decide +kernel
theorem dX1_allow_51 : decode cX1_allow 51 = .ok (.if_icmp .eq 5, 3) := by decide +kernel
theorem dX1_allow_54 : decode cX1_allow 54 = .ok (.iconst 0, 1) := by decide +kernel
theorem dX1_allow_55 : decode cX1_allow 55 = .ok (.ireturn, 1) := by decide +kernel
theorem dX1_allow_56 : decode cX1_allow 56 = .ok (.iinc 5 1, 3) := by decide +kernel
theorem dX1_allow_59 : decode cX1_allow 59 = .ok (.goto (-56), 3) := by decide +kernel
theorem dX1_allow_62 : decode cX1_allow 62 = .ok (.iconst 1, 1) := by decide +kernel
theorem dX1_allow_63 : decode cX1_allow 63 = .ok (.ireturn, 1) := by decide +kernel
theorem dX2_init_0 : decode cX2_init 0 = .ok (.aload_n 0, 1) := by decide +kernel
theorem dX2_init_1 : decode cX2_init 1 = .ok (.invokespecial 3, 3) := by decide +kernel
theorem dX2_init_4 : decode cX2_init 4 = .ok (.aload_n 0, 1) := by decide +kernel
theorem dX2_init_5 : decode cX2_init 5 = .ok (.iconst 4, 1) := by decide +kernel
theorem dX2_init_6 : decode cX2_init 6 = .ok (.newarray .int, 2) := by decide +kernel
theorem dX2_init_8 : decode cX2_init 8 = .ok (.putfield 9, 3) := by decide +kernel
theorem dX2_init_11 : decode cX2_init 11 = .ok (.aload_n 0, 1) := by decide +kernel
theorem dX2_init_12 : decode cX2_init 12 = .ok (.iconst 4, 1) := by decide +kernel
theorem dX2_init_13 : decode cX2_init 13 = .ok (.newarray .int, 2) := by decide +kernel
theorem dX2_init_15 : decode cX2_init 15 = .ok (.putfield 15, 3) := by decide +kernel
theorem dX2_init_18 : decode cX2_init 18 = .ok (.aload_n 0, 1) := by decide +kernel
theorem dX2_init_19 : decode cX2_init 19 = .ok (.sipush 240, 3) := by decide +kernel
theorem dX2_init_22 : decode cX2_init 22 = .ok (.newarray .int, 2) := by decide +kernel
theorem dX2_init_24 : decode cX2_init 24 = .ok (.putfield 18, 3) := by decide +kernel
theorem dX2_init_27 : decode cX2_init 27 = .ok (.iconst 0, 1) := by decide +kernel
theorem dX2_init_28 : decode cX2_init 28 = .ok (.istore_n 1, 1) := by decide +kernel
theorem dX2_init_29 : decode cX2_init 29 = .ok (.iload_n 1, 1) := by decide +kernel
theorem dX2_init_30 : decode cX2_init 30 = .ok (.iconst 4, 1) := by decide +kernel
theorem dX2_init_31 : decode cX2_init 31 = .ok (.if_icmp .ge 16, 3) := by decide +kernel
theorem dX2_init_34 : decode cX2_init 34 = .ok (.aload_n 0, 1) := by decide +kernel
theorem dX2_init_35 : decode cX2_init 35 = .ok (.getfield 9, 3) := by decide +kernel
theorem dX2_init_38 : decode cX2_init 38 = .ok (.iload_n 1, 1) := by decide +kernel
theorem dX2_init_39 : decode cX2_init 39 = .ok (.iconst (-1), 1) := by decide +kernel
theorem dX2_init_40 : decode cX2_init 40 = .ok (.iastore, 1) := by decide +kernel
theorem dX2_init_41 : decode cX2_init 41 = .ok (.iinc 1 1, 3) := by decide +kernel
theorem dX2_init_44 : decode cX2_init 44 = .ok (.goto (-15), 3) := by decide +kernel
theorem dX2_init_47 : decode cX2_init 47 = .ok (.return_, 1) := by decide +kernel
theorem dX2_isSheet_0 : decode cX2_isSheet 0 = .ok (.iload_n 1, 1) := by decide +kernel
theorem dX2_isSheet_1 : decode cX2_isSheet 1 = .ok (.ifCond .lt 12, 3) := by decide +kernel
theorem dX2_isSheet_4 : decode cX2_isSheet 4 = .ok (.iload_n 1, 1) := by decide +kernel
theorem dX2_isSheet_5 : decode cX2_isSheet 5 = .ok (.iconst 4, 1) := by decide +kernel
theorem dX2_isSheet_6 : decode cX2_isSheet 6 = .ok (.if_icmp .ge 7, 3) := by decide +kernel
theorem dX2_isSheet_9 : decode cX2_isSheet 9 = .ok (.iconst 1, 1) := by decide +kernel
theorem dX2_isSheet_10 : decode cX2_isSheet 10 = .ok (.goto 4, 3) := by decide +kernel
theorem dX2_isSheet_13 : decode cX2_isSheet 13 = .ok (.iconst 0, 1) := by decide +kernel
theorem dX2_isSheet_14 : decode cX2_isSheet 14 = .ok (.ireturn, 1) := by decide +kernel
theorem dX2_hasRow_0 : decode cX2_hasRow 0 = .ok (.aload_n 0, 1) := by decide +kernel
theorem dX2_hasRow_1 : decode cX2_hasRow 1 = .ok (.getfield 9, 3) := by decide +kernel
theorem dX2_hasRow_4 : decode cX2_hasRow 4 = .ok (.iload_n 1, 1) := by decide +kernel
theorem dX2_hasRow_5 : decode cX2_hasRow 5 = .ok (.iaload, 1) := by decide +kernel
theorem dX2_hasRow_6 : decode cX2_hasRow 6 = .ok (.iconst (-1), 1) := by decide +kernel
theorem dX2_hasRow_7 : decode cX2_hasRow 7 = .ok (.if_icmp .eq 7, 3) := by decide +kernel
theorem dX2_hasRow_10 : decode cX2_hasRow 10 = .ok (.iconst 1, 1) := by decide +kernel
theorem dX2_hasRow_11 : decode cX2_hasRow 11 = .ok (.goto 4, 3) := by decide +kernel
theorem dX2_hasRow_14 : decode cX2_hasRow 14 = .ok (.iconst 0, 1) := by decide +kernel
theorem dX2_hasRow_15 : decode cX2_hasRow 15 = .ok (.ireturn, 1) := by decide +kernel
theorem dX2_mayBeOfLane_0 : decode cX2_mayBeOfLane 0 = .ok (.aload_n 0, 1) := by decide +kernel
theorem dX2_mayBeOfLane_1 : decode cX2_mayBeOfLane 1 = .ok (.getfield 9, 3) := by decide +kernel
theorem dX2_mayBeOfLane_4 : decode cX2_mayBeOfLane 4 = .ok (.iload_n 1, 1) := by decide +kernel
theorem dX2_mayBeOfLane_5 : decode cX2_mayBeOfLane 5 = .ok (.iaload, 1) := by decide +kernel
theorem dX2_mayBeOfLane_6 : decode cX2_mayBeOfLane 6 = .ok (.iconst (-1), 1) := by decide +kernel
theorem dX2_mayBeOfLane_7 : decode cX2_mayBeOfLane 7 = .ok (.if_icmp .eq 13, 3) := by decide +kernel
theorem dX2_mayBeOfLane_10 : decode cX2_mayBeOfLane 10 = .ok (.aload_n 0, 1) := by decide +kernel
theorem dX2_mayBeOfLane_11 : decode cX2_mayBeOfLane 11 = .ok (.getfield 9, 3) := by decide +kernel
theorem dX2_mayBeOfLane_14 : decode cX2_mayBeOfLane 14 = .ok (.iload_n 1, 1) := by decide +kernel
theorem dX2_mayBeOfLane_15 : decode cX2_mayBeOfLane 15 = .ok (.iaload, 1) := by decide +kernel
theorem dX2_mayBeOfLane_16 : decode cX2_mayBeOfLane 16 = .ok (.iload_n 2, 1) := by decide +kernel
theorem dX2_mayBeOfLane_17 : decode cX2_mayBeOfLane 17 = .ok (.if_icmp .ne 7, 3) := by decide +kernel
theorem dX2_mayBeOfLane_20 : decode cX2_mayBeOfLane 20 = .ok (.iconst 1, 1) := by decide +kernel
theorem dX2_mayBeOfLane_21 : decode cX2_mayBeOfLane 21 = .ok (.goto 4, 3) := by decide +kernel
theorem dX2_mayBeOfLane_24 : decode cX2_mayBeOfLane 24 = .ok (.iconst 0, 1) := by decide +kernel
theorem dX2_mayBeOfLane_25 : decode cX2_mayBeOfLane 25 = .ok (.ireturn, 1) := by decide +kernel
theorem dX2_isCell_0 : decode cX2_isCell 0 = .ok (.iload_n 2, 1) := by decide +kernel
theorem dX2_isCell_1 : decode cX2_isCell 1 = .ok (.ifCond .lt 17, 3) := by decide +kernel
theorem dX2_isCell_4 : decode cX2_isCell 4 = .ok (.iload_n 2, 1) := by decide +kernel
theorem dX2_isCell_5 : decode cX2_isCell 5 = .ok (.aload_n 0, 1) := by decide +kernel
theorem dX2_isCell_6 : decode cX2_isCell 6 = .ok (.getfield 15, 3) := by decide +kernel
theorem dX2_isCell_9 : decode cX2_isCell 9 = .ok (.iload_n 1, 1) := by decide +kernel
theorem dX2_isCell_10 : decode cX2_isCell 10 = .ok (.iaload, 1) := by decide +kernel
theorem dX2_isCell_11 : decode cX2_isCell 11 = .ok (.if_icmp .ge 7, 3) := by decide +kernel
theorem dX2_isCell_14 : decode cX2_isCell 14 = .ok (.iconst 1, 1) := by decide +kernel
theorem dX2_isCell_15 : decode cX2_isCell 15 = .ok (.goto 4, 3) := by decide +kernel
theorem dX2_isCell_18 : decode cX2_isCell 18 = .ok (.iconst 0, 1) := by decide +kernel
theorem dX2_isCell_19 : decode cX2_isCell 19 = .ok (.ireturn, 1) := by decide +kernel
theorem dX2_hasCells_0 : decode cX2_hasCells 0 = .ok (.iload_n 3, 1) := by decide +kernel
theorem dX2_hasCells_1 : decode cX2_hasCells 1 = .ok (.ifCond .lt 33, 3) := by decide +kernel
theorem dX2_hasCells_4 : decode cX2_hasCells 4 = .ok (.iload_n 2, 1) := by decide +kernel
theorem dX2_hasCells_5 : decode cX2_hasCells 5 = .ok (.ifCond .lt 29, 3) := by decide +kernel
theorem dX2_hasCells_8 : decode cX2_hasCells 8 = .ok (.iload_n 2, 1) := by decide +kernel
theorem dX2_hasCells_9 : decode cX2_hasCells 9 = .ok (.aload_n 0, 1) := by decide +kernel
theorem dX2_hasCells_10 : decode cX2_hasCells 10 = .ok (.getfield 15, 3) := by decide +kernel
theorem dX2_hasCells_13 : decode cX2_hasCells 13 = .ok (.iload_n 1, 1) := by decide +kernel
theorem dX2_hasCells_14 : decode cX2_hasCells 14 = .ok (.iaload, 1) := by decide +kernel
theorem dX2_hasCells_15 : decode cX2_hasCells 15 = .ok (.if_icmp .gt 19, 3) := by decide +kernel
theorem dX2_hasCells_18 : decode cX2_hasCells 18 = .ok (.iload_n 3, 1) := by decide +kernel
theorem dX2_hasCells_19 : decode cX2_hasCells 19 = .ok (.aload_n 0, 1) := by decide +kernel
theorem dX2_hasCells_20 : decode cX2_hasCells 20 = .ok (.getfield 15, 3) := by decide +kernel
theorem dX2_hasCells_23 : decode cX2_hasCells 23 = .ok (.iload_n 1, 1) := by decide +kernel
theorem dX2_hasCells_24 : decode cX2_hasCells 24 = .ok (.iaload, 1) := by decide +kernel
theorem dX2_hasCells_25 : decode cX2_hasCells 25 = .ok (.iload_n 2, 1) := by decide +kernel
theorem dX2_hasCells_26 : decode cX2_hasCells 26 = .ok (.isub, 1) := by decide +kernel
theorem dX2_hasCells_27 : decode cX2_hasCells 27 = .ok (.if_icmp .gt 7, 3) := by decide +kernel
theorem dX2_hasCells_30 : decode cX2_hasCells 30 = .ok (.iconst 1, 1) := by decide +kernel
theorem dX2_hasCells_31 : decode cX2_hasCells 31 = .ok (.goto 4, 3) := by decide +kernel
theorem dX2_hasCells_34 : decode cX2_hasCells 34 = .ok (.iconst 0, 1) := by decide +kernel
theorem dX2_hasCells_35 : decode cX2_hasCells 35 = .ok (.ireturn, 1) := by decide +kernel
theorem dX2_renew_0 : decode cX2_renew 0 = .ok (.aload_n 0, 1) := by decide +kernel
theorem dX2_renew_1 : decode cX2_renew 1 = .ok (.getfield 9, 3) := by decide +kernel
theorem dX2_renew_4 : decode cX2_renew 4 = .ok (.iload_n 1, 1) := by decide +kernel
theorem dX2_renew_5 : decode cX2_renew 5 = .ok (.iload_n 2, 1) := by decide +kernel
theorem dX2_renew_6 : decode cX2_renew 6 = .ok (.iastore, 1) := by decide +kernel
theorem dX2_renew_7 : decode cX2_renew 7 = .ok (.aload_n 0, 1) := by decide +kernel
theorem dX2_renew_8 : decode cX2_renew 8 = .ok (.getfield 15, 3) := by decide +kernel
theorem dX2_renew_11 : decode cX2_renew 11 = .ok (.iload_n 1, 1) := by decide +kernel
theorem dX2_renew_12 : decode cX2_renew 12 = .ok (.iload_n 3, 1) := by decide +kernel
theorem dX2_renew_13 : decode cX2_renew 13 = .ok (.iastore, 1) := by decide +kernel
theorem dX2_renew_14 : decode cX2_renew 14 = .ok (.iconst 0, 1) := by decide +kernel
theorem dX2_renew_15 : decode cX2_renew 15 = .ok (.istore 4, 2) := by decide +kernel
theorem dX2_renew_17 : decode cX2_renew 17 = .ok (.iload 4, 2) := by decide +kernel
theorem dX2_renew_19 : decode cX2_renew 19 = .ok (.bipush 60, 2) := by decide +kernel
theorem dX2_renew_21 : decode cX2_renew 21 = .ok (.if_icmp .ge 22, 3) := by decide +kernel
theorem dX2_renew_24 : decode cX2_renew 24 = .ok (.aload_n 0, 1) := by decide +kernel
theorem dX2_renew_25 : decode cX2_renew 25 = .ok (.getfield 18, 3) := by decide +kernel
theorem dX2_renew_28 : decode cX2_renew 28 = .ok (.iload_n 1, 1) := by decide +kernel
theorem dX2_renew_29 : decode cX2_renew 29 = .ok (.bipush 60, 2) := by decide +kernel
theorem dX2_renew_31 : decode cX2_renew 31 = .ok (.imul, 1) := by decide +kernel
theorem dX2_renew_32 : decode cX2_renew 32 = .ok (.iload 4, 2) := by decide +kernel
theorem dX2_renew_34 : decode cX2_renew 34 = .ok (.iadd, 1) := by decide +kernel
theorem dX2_renew_35 : decode cX2_renew 35 = .ok (.iconst 0, 1) := by decide +kernel
theorem dX2_renew_36 : decode cX2_renew 36 = .ok (.iastore, 1) := by decide +kernel
theorem dX2_renew_37 : decode cX2_renew 37 = .ok (.iinc 4 1, 3) := by decide +kernel
theorem dX2_renew_40 : decode cX2_renew 40 = .ok (.goto (-23), 3) := by decide +kernel
theorem dX2_renew_43 : decode cX2_renew 43 = .ok (.return_, 1) := by decide +kernel
theorem dX2_drop_0 : decode cX2_drop 0 = .ok (.aload_n 0, 1) := by decide +kernel
theorem dX2_drop_1 : decode cX2_drop 1 = .ok (.getfield 9, 3) := by decide +kernel
theorem dX2_drop_4 : decode cX2_drop 4 = .ok (.iload_n 1, 1) := by decide +kernel
theorem dX2_drop_5 : decode cX2_drop 5 = .ok (.iconst (-1), 1) := by decide +kernel
theorem dX2_drop_6 : decode cX2_drop 6 = .ok (.iastore, 1) := by decide +kernel
theorem dX2_drop_7 : decode cX2_drop 7 = .ok (.aload_n 0, 1) := by decide +kernel
theorem dX2_drop_8 : decode cX2_drop 8 = .ok (.getfield 15, 3) := by decide +kernel
theorem dX2_drop_11 : decode cX2_drop 11 = .ok (.iload_n 1, 1) := by decide +kernel
theorem dX2_drop_12 : decode cX2_drop 12 = .ok (.iconst 0, 1) := by decide +kernel
theorem dX2_drop_13 : decode cX2_drop 13 = .ok (.iastore, 1) := by decide +kernel
theorem dX2_drop_14 : decode cX2_drop 14 = .ok (.return_, 1) := by decide +kernel
set_option maxRecDepth 20000 in
theorem ggX2_at_X2_isCell : GoodIn wsX2_at wsX2_isCell := goodIn_r _ [6, 7, 8, 9, 10] (by decide +kernel) (by decide +kernel)
set_option maxRecDepth 20000 in
theorem gX2_at_X2_isCell : GoodIn wsX2_at (wsV RX2 21 RX2 yX2_isCell wsX2_isCell) := goodIn_app (goodIn_of _ (by decide +kernel)) ggX2_at_X2_isCell
theorem dX2_at_0 : decode cX2_at 0 = .ok (.aload_n 0, 1) := by decide +kernel
theorem dX2_at_1 : decode cX2_at 1 = .ok (.iload_n 1, 1) := by decide +kernel
theorem dX2_at_2 : decode cX2_at 2 = .ok (.iload_n 2, 1) := by decide +kernel
theorem dX2_at_3 : decode cX2_at 3 = .ok (.invokevirtual 21, 3) := by decide +kernel
theorem dX2_at_6 : decode cX2_at 6 = .ok (.ifCond .eq 17, 3) := by decide +kernel
theorem dX2_at_9 : decode cX2_at 9 = .ok (.aload_n 0, 1) := by decide +kernel
theorem dX2_at_10 : decode cX2_at 10 = .ok (.getfield 18, 3) := by decide +kernel
theorem dX2_at_13 : decode cX2_at 13 = .ok (.iload_n 1, 1) := by decide +kernel
theorem dX2_at_14 : decode cX2_at 14 = .ok (.bipush 60, 2) := by decide +kernel
theorem dX2_at_16 : decode cX2_at 16 = .ok (.imul, 1) := by decide +kernel
theorem dX2_at_17 : decode cX2_at 17 = .ok (.iload_n 2, 1) := by decide +kernel
theorem dX2_at_18 : decode cX2_at 18 = .ok (.iadd, 1) := by decide +kernel
theorem dX2_at_19 : decode cX2_at 19 = .ok (.iaload, 1) := by decide +kernel
theorem dX2_at_20 : decode cX2_at 20 = .ok (.goto 4, 3) := by decide +kernel
theorem dX2_at_23 : decode cX2_at 23 = .ok (.iconst 0, 1) := by decide +kernel
theorem dX2_at_24 : decode cX2_at 24 = .ok (.ireturn, 1) := by decide +kernel
theorem dX2_write_0 : decode cX2_write 0 = .ok (.iload_n 3, 1) := by decide +kernel
theorem dX2_write_1 : decode cX2_write 1 = .ok (.istore 4, 2) := by decide +kernel
theorem dX2_write_3 : decode cX2_write 3 = .ok (.aload_n 0, 1) := by decide +kernel
theorem dX2_write_4 : decode cX2_write 4 = .ok (.getfield 9, 3) := by decide +kernel
theorem dX2_write_7 : decode cX2_write 7 = .ok (.iload_n 1, 1) := by decide +kernel
theorem dX2_write_8 : decode cX2_write 8 = .ok (.iaload, 1) := by decide +kernel
theorem dX2_write_9 : decode cX2_write 9 = .ok (.ifCond .ne 10, 3) := by decide +kernel
theorem dX2_write_12 : decode cX2_write 12 = .ok (.iload_n 3, 1) := by decide +kernel
theorem dX2_write_13 : decode cX2_write 13 = .ok (.i2b, 1) := by decide +kernel
theorem dX2_write_14 : decode cX2_write 14 = .ok (.istore 4, 2) := by decide +kernel
theorem dX2_write_16 : decode cX2_write 16 = .ok (.goto 17, 3) := by decide +kernel
theorem dX2_write_19 : decode cX2_write 19 = .ok (.aload_n 0, 1) := by decide +kernel
theorem dX2_write_20 : decode cX2_write 20 = .ok (.getfield 9, 3) := by decide +kernel
theorem dX2_write_23 : decode cX2_write 23 = .ok (.iload_n 1, 1) := by decide +kernel
theorem dX2_write_24 : decode cX2_write 24 = .ok (.iaload, 1) := by decide +kernel
theorem dX2_write_25 : decode cX2_write 25 = .ok (.iconst 1, 1) := by decide +kernel
theorem dX2_write_26 : decode cX2_write 26 = .ok (.if_icmp .ne 7, 3) := by decide +kernel
theorem dX2_write_29 : decode cX2_write 29 = .ok (.iload_n 3, 1) := by decide +kernel
theorem dX2_write_30 : decode cX2_write 30 = .ok (.i2s, 1) := by decide +kernel
theorem dX2_write_31 : decode cX2_write 31 = .ok (.istore 4, 2) := by decide +kernel
theorem dX2_write_33 : decode cX2_write 33 = .ok (.aload_n 0, 1) := by decide +kernel
theorem dX2_write_34 : decode cX2_write 34 = .ok (.getfield 18, 3) := by decide +kernel
theorem dX2_write_37 : decode cX2_write 37 = .ok (.iload_n 1, 1) := by decide +kernel
theorem dX2_write_38 : decode cX2_write 38 = .ok (.bipush 60, 2) := by decide +kernel
theorem dX2_write_40 : decode cX2_write 40 = .ok (.imul, 1) := by decide +kernel
theorem dX2_write_41 : decode cX2_write 41 = .ok (.iload_n 2, 1) := by decide +kernel
theorem dX2_write_42 : decode cX2_write 42 = .ok (.iadd, 1) := by decide +kernel
theorem dX2_write_43 : decode cX2_write 43 = .ok (.iload 4, 2) := by decide +kernel
theorem dX2_write_45 : decode cX2_write 45 = .ok (.iastore, 1) := by decide +kernel
theorem dX2_write_46 : decode cX2_write 46 = .ok (.return_, 1) := by decide +kernel
theorem dX2_move_0 : decode cX2_move 0 = .ok (.aload_n 0, 1) := by decide +kernel
theorem dX2_move_1 : decode cX2_move 1 = .ok (.getfield 18, 3) := by decide +kernel
theorem dX2_move_4 : decode cX2_move 4 = .ok (.iload_n 1, 1) := by decide +kernel
theorem dX2_move_5 : decode cX2_move 5 = .ok (.bipush 60, 2) := by decide +kernel
theorem dX2_move_7 : decode cX2_move 7 = .ok (.imul, 1) := by decide +kernel
theorem dX2_move_8 : decode cX2_move 8 = .ok (.iload_n 2, 1) := by decide +kernel
theorem dX2_move_9 : decode cX2_move 9 = .ok (.iadd, 1) := by decide +kernel
theorem dX2_move_10 : decode cX2_move 10 = .ok (.aload_n 0, 1) := by decide +kernel
theorem dX2_move_11 : decode cX2_move 11 = .ok (.getfield 18, 3) := by decide +kernel
theorem dX2_move_14 : decode cX2_move 14 = .ok (.iload_n 3, 1) := by decide +kernel
theorem dX2_move_15 : decode cX2_move 15 = .ok (.bipush 60, 2) := by decide +kernel
theorem dX2_move_17 : decode cX2_move 17 = .ok (.imul, 1) := by decide +kernel
theorem dX2_move_18 : decode cX2_move 18 = .ok (.iload 4, 2) := by decide +kernel
theorem dX2_move_20 : decode cX2_move 20 = .ok (.iadd, 1) := by decide +kernel
theorem dX2_move_21 : decode cX2_move 21 = .ok (.iload 5, 2) := by decide +kernel
theorem dX2_move_23 : decode cX2_move 23 = .ok (.invokestatic 25, 3) := by decide +kernel
theorem dX2_move_26 : decode cX2_move 26 = .ok (.return_, 1) := by decide +kernel
theorem dX3_init_0 : decode cX3_init 0 = .ok (.aload_n 0, 1) := by decide +kernel
theorem dX3_init_1 : decode cX3_init 1 = .ok (.invokespecial 3, 3) := by decide +kernel
theorem dX3_init_4 : decode cX3_init 4 = .ok (.aload_n 0, 1) := by decide +kernel
theorem dX3_init_5 : decode cX3_init 5 = .ok (.bipush 6, 2) := by decide +kernel
theorem dX3_init_7 : decode cX3_init 7 = .ok (.newarray .int, 2) := by decide +kernel
theorem dX3_init_9 : decode cX3_init 9 = .ok (.putfield 9, 3) := by decide +kernel
theorem dX3_init_12 : decode cX3_init 12 = .ok (.aload_n 0, 1) := by decide +kernel
theorem dX3_init_13 : decode cX3_init 13 = .ok (.bipush 6, 2) := by decide +kernel
theorem dX3_init_15 : decode cX3_init 15 = .ok (.newarray .int, 2) := by decide +kernel
theorem dX3_init_17 : decode cX3_init 17 = .ok (.putfield 15, 3) := by decide +kernel
theorem dX3_init_20 : decode cX3_init 20 = .ok (.aload_n 0, 1) := by decide +kernel
theorem dX3_init_21 : decode cX3_init 21 = .ok (.iconst 4, 1) := by decide +kernel
theorem dX3_init_22 : decode cX3_init 22 = .ok (.newarray .int, 2) := by decide +kernel
theorem dX3_init_24 : decode cX3_init 24 = .ok (.putfield 18, 3) := by decide +kernel
theorem dX3_init_27 : decode cX3_init 27 = .ok (.aload_n 0, 1) := by decide +kernel
theorem dX3_init_28 : decode cX3_init 28 = .ok (.iconst 4, 1) := by decide +kernel
theorem dX3_init_29 : decode cX3_init 29 = .ok (.newarray .int, 2) := by decide +kernel
theorem dX3_init_31 : decode cX3_init 31 = .ok (.putfield 21, 3) := by decide +kernel
theorem dX3_init_34 : decode cX3_init 34 = .ok (.return_, 1) := by decide +kernel
set_option maxRecDepth 20000 in
theorem ggX3_firstFault_X2_at : GoodIn wsX3_firstFault wsX2_at := goodIn_r _ [8, 9, 10, 11, 12, 7, 13, 14, 59, 60, 61] (by decide +kernel) (by decide +kernel)
set_option maxRecDepth 20000 in
theorem gX3_firstFault_X2_at : GoodIn wsX3_firstFault (wsV RX3 34 RX2 yX2_at wsX2_at) := goodIn_app (goodIn_of _ (by decide +kernel)) ggX3_firstFault_X2_at
set_option maxRecDepth 20000 in
theorem ggX3_firstFault_X3_goesOn : GoodIn wsX3_firstFault wsX3_goesOn := goodIn_r _ [19, 3, 20, 21, 22, 18, 23, 24, 25, 26, 27, 1, 2, 28, 29, 30, 31, 32, 33, 34, 35, 36, 37, 38, 39, 40, 41, 42, 43, 44, 45, 46, 47, 52, 53, 54, 55, 56, 57, 58] (by decide +kernel) (by decide +kernel)
set_option maxRecDepth 20000 in
theorem gX3_firstFault_X3_goesOn : GoodIn wsX3_firstFault (wsV RX3 40 RX3 yX3_goesOn wsX3_goesOn) := goodIn_app (goodIn_of _ (by decide +kernel)) ggX3_firstFault_X3_goesOn
set_option maxRecDepth 20000 in
theorem ggX3_firstFault_X3_mayEnd : GoodIn wsX3_firstFault wsX3_mayEnd := goodIn_r _ [51, 3, 1, 52, 53, 54, 55, 56, 57, 58] (by decide +kernel) (by decide +kernel)
set_option maxRecDepth 20000 in
theorem gX3_firstFault_X3_mayEnd : GoodIn wsX3_firstFault (wsV RX3 44 RX3 yX3_mayEnd wsX3_mayEnd) := goodIn_app (goodIn_of _ (by decide +kernel)) ggX3_firstFault_X3_mayEnd
theorem dX3_firstFault_0 : decode cX3_firstFault 0 = .ok (.aload_n 0, 1) := by decide +kernel
theorem dX3_firstFault_1 : decode cX3_firstFault 1 = .ok (.iconst 0, 1) := by decide +kernel
theorem dX3_firstFault_2 : decode cX3_firstFault 2 = .ok (.putfield 24, 3) := by decide +kernel
theorem dX3_firstFault_5 : decode cX3_firstFault 5 = .ok (.aload_n 0, 1) := by decide +kernel
theorem dX3_firstFault_6 : decode cX3_firstFault 6 = .ok (.iconst 0, 1) := by decide +kernel
theorem dX3_firstFault_7 : decode cX3_firstFault 7 = .ok (.putfield 28, 3) := by decide +kernel
theorem dX3_firstFault_10 : decode cX3_firstFault 10 = .ok (.aload_n 0, 1) := by decide +kernel
theorem dX3_firstFault_11 : decode cX3_firstFault 11 = .ok (.iconst 0, 1) := by decide +kernel
theorem dX3_firstFault_12 : decode cX3_firstFault 12 = .ok (.putfield 31, 3) := by decide +kernel
theorem dX3_firstFault_15 : decode cX3_firstFault 15 = .ok (.iconst 0, 1) := by decide +kernel
theorem dX3_firstFault_16 : decode cX3_firstFault 16 = .ok (.istore 5, 2) := by decide +kernel
theorem dX3_firstFault_18 : decode cX3_firstFault 18 = .ok (.iload 5, 2) := by decide +kernel
theorem dX3_firstFault_20 : decode cX3_firstFault 20 = .ok (.iload 4, 2) := by decide +kernel
theorem dX3_firstFault_22 : decode cX3_firstFault 22 = .ok (.if_icmp .ge 35, 3) := by decide +kernel
theorem dX3_firstFault_25 : decode cX3_firstFault 25 = .ok (.iload 5, 2) := by decide +kernel
theorem dX3_firstFault_27 : decode cX3_firstFault 27 = .ok (.bipush 60, 2) := by decide +kernel
theorem dX3_firstFault_29 : decode cX3_firstFault 29 = .ok (.if_icmp .ge 28, 3) := by decide +kernel
theorem dX3_firstFault_32 : decode cX3_firstFault 32 = .ok (.aload_n 0, 1) := by decide +kernel
theorem dX3_firstFault_33 : decode cX3_firstFault 33 = .ok (.aload_n 1, 1) := by decide +kernel
theorem dX3_firstFault_34 : decode cX3_firstFault 34 = .ok (.iload_n 2, 1) := by decide +kernel
theorem dX3_firstFault_35 : decode cX3_firstFault 35 = .ok (.iload_n 3, 1) := by decide +kernel
theorem dX3_firstFault_36 : decode cX3_firstFault 36 = .ok (.iload 5, 2) := by decide +kernel
theorem dX3_firstFault_38 : decode cX3_firstFault 38 = .ok (.iadd, 1) := by decide +kernel
theorem dX3_firstFault_39 : decode cX3_firstFault 39 = .ok (.invokevirtual 34, 3) := by decide +kernel
theorem dX3_firstFault_42 : decode cX3_firstFault 42 = .ok (.invokevirtual 40, 3) := by decide +kernel
theorem dX3_firstFault_45 : decode cX3_firstFault 45 = .ok (.ifCond .ne 6, 3) := by decide +kernel
theorem dX3_firstFault_48 : decode cX3_firstFault 48 = .ok (.iload 5, 2) := by decide +kernel
theorem dX3_firstFault_50 : decode cX3_firstFault 50 = .ok (.ireturn, 1) := by decide +kernel
theorem dX3_firstFault_51 : decode cX3_firstFault 51 = .ok (.iinc 5 1, 3) := by decide +kernel
theorem dX3_firstFault_54 : decode cX3_firstFault 54 = .ok (.goto (-36), 3) := by decide +kernel
theorem dX3_firstFault_57 : decode cX3_firstFault 57 = .ok (.aload_n 0, 1) := by decide +kernel
theorem dX3_firstFault_58 : decode cX3_firstFault 58 = .ok (.invokevirtual 44, 3) := by decide +kernel
theorem dX3_firstFault_61 : decode cX3_firstFault 61 = .ok (.ifCond .eq 7, 3) := by decide +kernel
theorem dX3_firstFault_64 : decode cX3_firstFault 64 = .ok (.iconst (-1), 1) := by decide +kernel
theorem dX3_firstFault_65 : decode cX3_firstFault 65 = .ok (.goto 5, 3) := by decide +kernel
theorem dX3_firstFault_68 : decode cX3_firstFault 68 = .ok (.iload 4, 2) := by decide +kernel
theorem dX3_firstFault_70 : decode cX3_firstFault 70 = .ok (.ireturn, 1) := by decide +kernel
theorem dX3_mayEnd_0 : decode cX3_mayEnd 0 = .ok (.aload_n 0, 1) := by decide +kernel
theorem dX3_mayEnd_1 : decode cX3_mayEnd 1 = .ok (.getfield 31, 3) := by decide +kernel
theorem dX3_mayEnd_4 : decode cX3_mayEnd 4 = .ok (.iconst 5, 1) := by decide +kernel
theorem dX3_mayEnd_5 : decode cX3_mayEnd 5 = .ok (.if_icmp .eq 19, 3) := by decide +kernel
theorem dX3_mayEnd_8 : decode cX3_mayEnd 8 = .ok (.aload_n 0, 1) := by decide +kernel
theorem dX3_mayEnd_9 : decode cX3_mayEnd 9 = .ok (.getfield 31, 3) := by decide +kernel
theorem dX3_mayEnd_12 : decode cX3_mayEnd 12 = .ok (.iconst 1, 1) := by decide +kernel
theorem dX3_mayEnd_13 : decode cX3_mayEnd 13 = .ok (.if_icmp .ne 15, 3) := by decide +kernel
theorem dX3_mayEnd_16 : decode cX3_mayEnd 16 = .ok (.aload_n 0, 1) := by decide +kernel
theorem dX3_mayEnd_17 : decode cX3_mayEnd 17 = .ok (.getfield 24, 3) := by decide +kernel
theorem dX3_mayEnd_20 : decode cX3_mayEnd 20 = .ok (.iconst 2, 1) := by decide +kernel
theorem dX3_mayEnd_21 : decode cX3_mayEnd 21 = .ok (.if_icmp .lt 7, 3) := by decide +kernel
theorem dX3_mayEnd_24 : decode cX3_mayEnd 24 = .ok (.iconst 1, 1) := by decide +kernel
theorem dX3_mayEnd_25 : decode cX3_mayEnd 25 = .ok (.goto 4, 3) := by decide +kernel
theorem dX3_mayEnd_28 : decode cX3_mayEnd 28 = .ok (.iconst 0, 1) := by decide +kernel
theorem dX3_mayEnd_29 : decode cX3_mayEnd 29 = .ok (.ireturn, 1) := by decide +kernel
set_option maxRecDepth 20000 in
theorem ggX3_goesOn_X3_startsWith : GoodIn wsX3_goesOn wsX3_startsWith := goodIn_r _ [6, 1, 33, 34, 35, 36, 37, 38, 39] (by decide +kernel) (by decide +kernel)
set_option maxRecDepth 20000 in
theorem gX3_goesOn_X3_startsWith : GoodIn wsX3_goesOn (wsV RX3 48 RX3 yX3_startsWith wsX3_startsWith) := goodIn_app (goodIn_of _ (by decide +kernel)) ggX3_goesOn_X3_startsWith
set_option maxRecDepth 20000 in
theorem ggX3_goesOn_X3_beginsFollowing : GoodIn wsX3_goesOn wsX3_beginsFollowing := goodIn_r _ [10, 1, 11, 12, 33, 34, 35, 36, 37, 38, 39] (by decide +kernel) (by decide +kernel)
set_option maxRecDepth 20000 in
theorem gX3_goesOn_X3_beginsFollowing : GoodIn wsX3_goesOn (wsV RX3 51 RX3 yX3_beginsFollowing wsX3_beginsFollowing) := goodIn_app (goodIn_of _ (by decide +kernel)) ggX3_goesOn_X3_beginsFollowing
set_option maxRecDepth 20000 in
theorem ggX3_goesOn_X3_namesKind : GoodIn wsX3_goesOn wsX3_namesKind := goodIn_r _ [16, 11, 17, 1, 33, 34, 35, 36, 37, 38, 39] (by decide +kernel) (by decide +kernel)
set_option maxRecDepth 20000 in
theorem gX3_goesOn_X3_namesKind : GoodIn wsX3_goesOn (wsV RX3 54 RX3 yX3_namesKind wsX3_namesKind) := goodIn_app (goodIn_of _ (by decide +kernel)) ggX3_goesOn_X3_namesKind
set_option maxRecDepth 20000 in
theorem ggX3_goesOn_X3_tellsChance : GoodIn wsX3_goesOn wsX3_tellsChance := goodIn_r _ [21, 11, 22, 1, 33, 34, 35, 36, 37, 38, 39] (by decide +kernel) (by decide +kernel)
set_option maxRecDepth 20000 in
theorem gX3_goesOn_X3_tellsChance : GoodIn wsX3_goesOn (wsV RX3 57 RX3 yX3_tellsChance wsX3_tellsChance) := goodIn_app (goodIn_of _ (by decide +kernel)) ggX3_goesOn_X3_tellsChance
set_option maxRecDepth 20000 in
theorem ggX3_goesOn_X3_tellsCause : GoodIn wsX3_goesOn wsX3_tellsCause := goodIn_r _ [26, 12, 11, 27, 1, 33, 34, 35, 36, 37, 38, 39] (by decide +kernel) (by decide +kernel)
set_option maxRecDepth 20000 in
theorem gX3_goesOn_X3_tellsCause : GoodIn wsX3_goesOn (wsV RX3 60 RX3 yX3_tellsCause wsX3_tellsCause) := goodIn_app (goodIn_of _ (by decide +kernel)) ggX3_goesOn_X3_tellsCause
set_option maxRecDepth 20000 in
theorem ggX3_goesOn_X3_tellsEffect : GoodIn wsX3_goesOn wsX3_tellsEffect := goodIn_r _ [31, 12, 11, 27, 32, 1, 33, 34, 35, 36, 37, 38, 39] (by decide +kernel) (by decide +kernel)
set_option maxRecDepth 20000 in
theorem gX3_goesOn_X3_tellsEffect : GoodIn wsX3_goesOn (wsV RX3 63 RX3 yX3_tellsEffect wsX3_tellsEffect) := goodIn_app (goodIn_of _ (by decide +kernel)) ggX3_goesOn_X3_tellsEffect
theorem dX3_goesOn_0 : decode cX3_goesOn 0 = .ok (.aload_n 0, 1) := by decide +kernel
theorem dX3_goesOn_1 : decode cX3_goesOn 1 = .ok (.getfield 31, 3) := by decide +kernel
theorem dX3_goesOn_4 : decode cX3_goesOn 4 = .ok (.tableswitch 88 0 4 #[36, 42, 61, 70, 79], 36) := by decide +kernel
theorem dX3_goesOn_40 : decode cX3_goesOn 40 = .ok (.aload_n 0, 1) := by decide +kernel
theorem dX3_goesOn_41 : decode cX3_goesOn 41 = .ok (.iload_n 1, 1) := by decide +kernel
theorem dX3_goesOn_42 : decode cX3_goesOn 42 = .ok (.invokevirtual 48, 3) := by decide +kernel
theorem dX3_goesOn_45 : decode cX3_goesOn 45 = .ok (.ireturn, 1) := by decide +kernel
theorem dX3_goesOn_46 : decode cX3_goesOn 46 = .ok (.iload_n 1, 1) := by decide +kernel
theorem dX3_goesOn_47 : decode cX3_goesOn 47 = .ok (.bipush 59, 2) := by decide +kernel
theorem dX3_goesOn_49 : decode cX3_goesOn 49 = .ok (.if_icmp .ne 10, 3) := by decide +kernel
theorem dX3_goesOn_52 : decode cX3_goesOn 52 = .ok (.aload_n 0, 1) := by decide +kernel
theorem dX3_goesOn_53 : decode cX3_goesOn 53 = .ok (.invokevirtual 51, 3) := by decide +kernel
theorem dX3_goesOn_56 : decode cX3_goesOn 56 = .ok (.goto 8, 3) := by decide +kernel
theorem dX3_goesOn_59 : decode cX3_goesOn 59 = .ok (.aload_n 0, 1) := by decide +kernel
theorem dX3_goesOn_60 : decode cX3_goesOn 60 = .ok (.iload_n 1, 1) := by decide +kernel
theorem dX3_goesOn_61 : decode cX3_goesOn 61 = .ok (.invokevirtual 54, 3) := by decide +kernel
theorem dX3_goesOn_64 : decode cX3_goesOn 64 = .ok (.ireturn, 1) := by decide +kernel
theorem dX3_goesOn_65 : decode cX3_goesOn 65 = .ok (.aload_n 0, 1) := by decide +kernel
theorem dX3_goesOn_66 : decode cX3_goesOn 66 = .ok (.iload_n 1, 1) := by decide +kernel
theorem dX3_goesOn_67 : decode cX3_goesOn 67 = .ok (.bipush 48, 2) := by decide +kernel
theorem dX3_goesOn_69 : decode cX3_goesOn 69 = .ok (.isub, 1) := by decide +kernel
theorem dX3_goesOn_70 : decode cX3_goesOn 70 = .ok (.invokevirtual 57, 3) := by decide +kernel
theorem dX3_goesOn_73 : decode cX3_goesOn 73 = .ok (.ireturn, 1) := by decide +kernel
theorem dX3_goesOn_74 : decode cX3_goesOn 74 = .ok (.aload_n 0, 1) := by decide +kernel
theorem dX3_goesOn_75 : decode cX3_goesOn 75 = .ok (.iload_n 1, 1) := by decide +kernel
theorem dX3_goesOn_76 : decode cX3_goesOn 76 = .ok (.bipush 48, 2) := by decide +kernel
theorem dX3_goesOn_78 : decode cX3_goesOn 78 = .ok (.isub, 1) := by decide +kernel
theorem dX3_goesOn_79 : decode cX3_goesOn 79 = .ok (.invokevirtual 60, 3) := by decide +kernel
theorem dX3_goesOn_82 : decode cX3_goesOn 82 = .ok (.ireturn, 1) := by decide +kernel
theorem dX3_goesOn_83 : decode cX3_goesOn 83 = .ok (.aload_n 0, 1) := by decide +kernel
theorem dX3_goesOn_84 : decode cX3_goesOn 84 = .ok (.iload_n 1, 1) := by decide +kernel
theorem dX3_goesOn_85 : decode cX3_goesOn 85 = .ok (.bipush 48, 2) := by decide +kernel
theorem dX3_goesOn_87 : decode cX3_goesOn 87 = .ok (.isub, 1) := by decide +kernel
theorem dX3_goesOn_88 : decode cX3_goesOn 88 = .ok (.invokevirtual 63, 3) := by decide +kernel
theorem dX3_goesOn_91 : decode cX3_goesOn 91 = .ok (.ireturn, 1) := by decide +kernel
theorem dX3_goesOn_92 : decode cX3_goesOn 92 = .ok (.iload_n 1, 1) := by decide +kernel
theorem dX3_goesOn_93 : decode cX3_goesOn 93 = .ok (.bipush 59, 2) := by decide +kernel
theorem dX3_goesOn_95 : decode cX3_goesOn 95 = .ok (.if_icmp .ne 14, 3) := by decide +kernel
theorem dX3_goesOn_98 : decode cX3_goesOn 98 = .ok (.aload_n 0, 1) := by decide +kernel
theorem dX3_goesOn_99 : decode cX3_goesOn 99 = .ok (.invokevirtual 51, 3) := by decide +kernel
theorem dX3_goesOn_102 : decode cX3_goesOn 102 = .ok (.ifCond .eq 7, 3) := by decide +kernel
theorem dX3_goesOn_105 : decode cX3_goesOn 105 = .ok (.iconst 1, 1) := by decide +kernel
theorem dX3_goesOn_106 : decode cX3_goesOn 106 = .ok (.goto 4, 3) := by decide +kernel
theorem dX3_goesOn_109 : decode cX3_goesOn 109 = .ok (.iconst 0, 1) := by decide +kernel
theorem dX3_goesOn_110 : decode cX3_goesOn 110 = .ok (.ireturn, 1) := by decide +kernel
theorem dX3_startsWith_0 : decode cX3_startsWith 0 = .ok (.aload_n 0, 1) := by decide +kernel
theorem dX3_startsWith_1 : decode cX3_startsWith 1 = .ok (.iconst 1, 1) := by decide +kernel
theorem dX3_startsWith_2 : decode cX3_startsWith 2 = .ok (.putfield 31, 3) := by decide +kernel
theorem dX3_startsWith_5 : decode cX3_startsWith 5 = .ok (.iload_n 1, 1) := by decide +kernel
theorem dX3_startsWith_6 : decode cX3_startsWith 6 = .ok (.bipush 119, 2) := by decide +kernel
theorem dX3_startsWith_8 : decode cX3_startsWith 8 = .ok (.if_icmp .ne 7, 3) := by decide +kernel
theorem dX3_startsWith_11 : decode cX3_startsWith 11 = .ok (.iconst 1, 1) := by decide +kernel
theorem dX3_startsWith_12 : decode cX3_startsWith 12 = .ok (.goto 4, 3) := by decide +kernel
theorem dX3_startsWith_15 : decode cX3_startsWith 15 = .ok (.iconst 0, 1) := by decide +kernel
theorem dX3_startsWith_16 : decode cX3_startsWith 16 = .ok (.ireturn, 1) := by decide +kernel
theorem dX3_namesKind_0 : decode cX3_namesKind 0 = .ok (.aload_n 0, 1) := by decide +kernel
theorem dX3_namesKind_1 : decode cX3_namesKind 1 = .ok (.getfield 24, 3) := by decide +kernel
theorem dX3_namesKind_4 : decode cX3_namesKind 4 = .ok (.bipush 6, 2) := by decide +kernel
theorem dX3_namesKind_6 : decode cX3_namesKind 6 = .ok (.if_icmp .ge 21, 3) := by decide +kernel
theorem dX3_namesKind_9 : decode cX3_namesKind 9 = .ok (.iload_n 1, 1) := by decide +kernel
theorem dX3_namesKind_10 : decode cX3_namesKind 10 = .ok (.bipush 116, 2) := by decide +kernel
theorem dX3_namesKind_12 : decode cX3_namesKind 12 = .ok (.if_icmp .eq 17, 3) := by decide +kernel
theorem dX3_namesKind_15 : decode cX3_namesKind 15 = .ok (.iload_n 1, 1) := by decide +kernel
theorem dX3_namesKind_16 : decode cX3_namesKind 16 = .ok (.bipush 108, 2) := by decide +kernel
theorem dX3_namesKind_18 : decode cX3_namesKind 18 = .ok (.if_icmp .eq 11, 3) := by decide +kernel
theorem dX3_namesKind_21 : decode cX3_namesKind 21 = .ok (.iload_n 1, 1) := by decide +kernel
theorem dX3_namesKind_22 : decode cX3_namesKind 22 = .ok (.bipush 100, 2) := by decide +kernel
theorem dX3_namesKind_24 : decode cX3_namesKind 24 = .ok (.if_icmp .eq 5, 3) := by decide +kernel
theorem dX3_namesKind_27 : decode cX3_namesKind 27 = .ok (.iconst 0, 1) := by decide +kernel
theorem dX3_namesKind_28 : decode cX3_namesKind 28 = .ok (.ireturn, 1) := by decide +kernel
theorem dX3_namesKind_29 : decode cX3_namesKind 29 = .ok (.iload_n 1, 1) := by decide +kernel
theorem dX3_namesKind_30 : decode cX3_namesKind 30 = .ok (.bipush 116, 2) := by decide +kernel
theorem dX3_namesKind_32 : decode cX3_namesKind 32 = .ok (.if_icmp .ne 16, 3) := by decide +kernel
theorem dX3_namesKind_35 : decode cX3_namesKind 35 = .ok (.aload_n 0, 1) := by decide +kernel
theorem dX3_namesKind_36 : decode cX3_namesKind 36 = .ok (.getfield 9, 3) := by decide +kernel
theorem dX3_namesKind_39 : decode cX3_namesKind 39 = .ok (.aload_n 0, 1) := by decide +kernel
theorem dX3_namesKind_40 : decode cX3_namesKind 40 = .ok (.getfield 24, 3) := by decide +kernel
theorem dX3_namesKind_43 : decode cX3_namesKind 43 = .ok (.iconst 0, 1) := by decide +kernel
theorem dX3_namesKind_44 : decode cX3_namesKind 44 = .ok (.iastore, 1) := by decide +kernel
theorem dX3_namesKind_45 : decode cX3_namesKind 45 = .ok (.goto 23, 3) := by decide +kernel
theorem dX3_namesKind_48 : decode cX3_namesKind 48 = .ok (.aload_n 0, 1) := by decide +kernel
theorem dX3_namesKind_49 : decode cX3_namesKind 49 = .ok (.getfield 9, 3) := by decide +kernel
theorem dX3_namesKind_52 : decode cX3_namesKind 52 = .ok (.aload_n 0, 1) := by decide +kernel
theorem dX3_namesKind_53 : decode cX3_namesKind 53 = .ok (.getfield 24, 3) := by decide +kernel
theorem dX3_namesKind_56 : decode cX3_namesKind 56 = .ok (.iload_n 1, 1) := by decide +kernel
theorem dX3_namesKind_57 : decode cX3_namesKind 57 = .ok (.bipush 108, 2) := by decide +kernel
theorem dX3_namesKind_59 : decode cX3_namesKind 59 = .ok (.if_icmp .ne 7, 3) := by decide +kernel
theorem dX3_namesKind_62 : decode cX3_namesKind 62 = .ok (.iconst 1, 1) := by decide +kernel
theorem dX3_namesKind_63 : decode cX3_namesKind 63 = .ok (.goto 4, 3) := by decide +kernel
theorem dX3_namesKind_66 : decode cX3_namesKind 66 = .ok (.iconst 2, 1) := by decide +kernel
theorem dX3_namesKind_67 : decode cX3_namesKind 67 = .ok (.iastore, 1) := by decide +kernel
theorem dX3_namesKind_68 : decode cX3_namesKind 68 = .ok (.aload_n 0, 1) := by decide +kernel
theorem dX3_namesKind_69 : decode cX3_namesKind 69 = .ok (.iconst 2, 1) := by decide +kernel
theorem dX3_namesKind_70 : decode cX3_namesKind 70 = .ok (.putfield 31, 3) := by decide +kernel
theorem dX3_namesKind_73 : decode cX3_namesKind 73 = .ok (.iconst 1, 1) := by decide +kernel
theorem dX3_namesKind_74 : decode cX3_namesKind 74 = .ok (.ireturn, 1) := by decide +kernel
theorem dX3_tellsChance_0 : decode cX3_tellsChance 0 = .ok (.aload_n 0, 1) := by decide +kernel
theorem dX3_tellsChance_1 : decode cX3_tellsChance 1 = .ok (.getfield 24, 3) := by decide +kernel
theorem dX3_tellsChance_4 : decode cX3_tellsChance 4 = .ok (.bipush 6, 2) := by decide +kernel
theorem dX3_tellsChance_6 : decode cX3_tellsChance 6 = .ok (.if_icmp .ge 14, 3) := by decide +kernel
theorem dX3_tellsChance_9 : decode cX3_tellsChance 9 = .ok (.iload_n 1, 1) := by decide +kernel
theorem dX3_tellsChance_10 : decode cX3_tellsChance 10 = .ok (.iconst 1, 1) := by decide +kernel
theorem dX3_tellsChance_11 : decode cX3_tellsChance 11 = .ok (.if_icmp .lt 9, 3) := by decide +kernel
theorem dX3_tellsChance_14 : decode cX3_tellsChance 14 = .ok (.iload_n 1, 1) := by decide +kernel
theorem dX3_tellsChance_15 : decode cX3_tellsChance 15 = .ok (.bipush 10, 2) := by decide +kernel
theorem dX3_tellsChance_17 : decode cX3_tellsChance 17 = .ok (.if_icmp .lt 5, 3) := by decide +kernel
theorem dX3_tellsChance_20 : decode cX3_tellsChance 20 = .ok (.iconst 0, 1) := by decide +kernel
theorem dX3_tellsChance_21 : decode cX3_tellsChance 21 = .ok (.ireturn, 1) := by decide +kernel
theorem dX3_tellsChance_22 : decode cX3_tellsChance 22 = .ok (.aload_n 0, 1) := by decide +kernel
theorem dX3_tellsChance_23 : decode cX3_tellsChance 23 = .ok (.getfield 15, 3) := by decide +kernel
theorem dX3_tellsChance_26 : decode cX3_tellsChance 26 = .ok (.aload_n 0, 1) := by decide +kernel
theorem dX3_tellsChance_27 : decode cX3_tellsChance 27 = .ok (.getfield 24, 3) := by decide +kernel
theorem dX3_tellsChance_30 : decode cX3_tellsChance 30 = .ok (.iload_n 1, 1) := by decide +kernel
theorem dX3_tellsChance_31 : decode cX3_tellsChance 31 = .ok (.iastore, 1) := by decide +kernel
theorem dX3_tellsChance_32 : decode cX3_tellsChance 32 = .ok (.aload_n 0, 1) := by decide +kernel
theorem dX3_tellsChance_33 : decode cX3_tellsChance 33 = .ok (.dup, 1) := by decide +kernel
theorem dX3_tellsChance_34 : decode cX3_tellsChance 34 = .ok (.getfield 24, 3) := by decide +kernel
theorem dX3_tellsChance_37 : decode cX3_tellsChance 37 = .ok (.iconst 1, 1) := by decide +kernel
theorem dX3_tellsChance_38 : decode cX3_tellsChance 38 = .ok (.iadd, 1) := by decide +kernel
theorem dX3_tellsChance_39 : decode cX3_tellsChance 39 = .ok (.putfield 24, 3) := by decide +kernel
theorem dX3_tellsChance_42 : decode cX3_tellsChance 42 = .ok (.aload_n 0, 1) := by decide +kernel
theorem dX3_tellsChance_43 : decode cX3_tellsChance 43 = .ok (.iconst 1, 1) := by decide +kernel
theorem dX3_tellsChance_44 : decode cX3_tellsChance 44 = .ok (.putfield 31, 3) := by decide +kernel
theorem dX3_tellsChance_47 : decode cX3_tellsChance 47 = .ok (.iconst 1, 1) := by decide +kernel
theorem dX3_tellsChance_48 : decode cX3_tellsChance 48 = .ok (.ireturn, 1) := by decide +kernel
theorem dX3_beginsFollowing_0 : decode cX3_beginsFollowing 0 = .ok (.aload_n 0, 1) := by decide +kernel
theorem dX3_beginsFollowing_1 : decode cX3_beginsFollowing 1 = .ok (.iconst 3, 1) := by decide +kernel
theorem dX3_beginsFollowing_2 : decode cX3_beginsFollowing 2 = .ok (.putfield 31, 3) := by decide +kernel
theorem dX3_beginsFollowing_5 : decode cX3_beginsFollowing 5 = .ok (.aload_n 0, 1) := by decide +kernel
theorem dX3_beginsFollowing_6 : decode cX3_beginsFollowing 6 = .ok (.getfield 24, 3) := by decide +kernel
theorem dX3_beginsFollowing_9 : decode cX3_beginsFollowing 9 = .ok (.iconst 2, 1) := by decide +kernel
theorem dX3_beginsFollowing_10 : decode cX3_beginsFollowing 10 = .ok (.if_icmp .lt 15, 3) := by decide +kernel
theorem dX3_beginsFollowing_13 : decode cX3_beginsFollowing 13 = .ok (.aload_n 0, 1) := by decide +kernel
theorem dX3_beginsFollowing_14 : decode cX3_beginsFollowing 14 = .ok (.getfield 28, 3) := by decide +kernel
theorem dX3_beginsFollowing_17 : decode cX3_beginsFollowing 17 = .ok (.iconst 4, 1) := by decide +kernel
theorem dX3_beginsFollowing_18 : decode cX3_beginsFollowing 18 = .ok (.if_icmp .ge 7, 3) := by decide +kernel
theorem dX3_beginsFollowing_21 : decode cX3_beginsFollowing 21 = .ok (.iconst 1, 1) := by decide +kernel
theorem dX3_beginsFollowing_22 : decode cX3_beginsFollowing 22 = .ok (.goto 4, 3) := by decide +kernel
theorem dX3_beginsFollowing_25 : decode cX3_beginsFollowing 25 = .ok (.iconst 0, 1) := by decide +kernel
theorem dX3_beginsFollowing_26 : decode cX3_beginsFollowing 26 = .ok (.ireturn, 1) := by decide +kernel
theorem dX3_tellsCause_0 : decode cX3_tellsCause 0 = .ok (.aload_n 0, 1) := by decide +kernel
theorem dX3_tellsCause_1 : decode cX3_tellsCause 1 = .ok (.getfield 28, 3) := by decide +kernel
theorem dX3_tellsCause_4 : decode cX3_tellsCause 4 = .ok (.iconst 4, 1) := by decide +kernel
theorem dX3_tellsCause_5 : decode cX3_tellsCause 5 = .ok (.if_icmp .ge 15, 3) := by decide +kernel
theorem dX3_tellsCause_8 : decode cX3_tellsCause 8 = .ok (.iload_n 1, 1) := by decide +kernel
theorem dX3_tellsCause_9 : decode cX3_tellsCause 9 = .ok (.ifCond .lt 11, 3) := by decide +kernel
theorem dX3_tellsCause_12 : decode cX3_tellsCause 12 = .ok (.iload_n 1, 1) := by decide +kernel
theorem dX3_tellsCause_13 : decode cX3_tellsCause 13 = .ok (.aload_n 0, 1) := by decide +kernel
theorem dX3_tellsCause_14 : decode cX3_tellsCause 14 = .ok (.getfield 24, 3) := by decide +kernel
theorem dX3_tellsCause_17 : decode cX3_tellsCause 17 = .ok (.if_icmp .lt 5, 3) := by decide +kernel
theorem dX3_tellsCause_20 : decode cX3_tellsCause 20 = .ok (.iconst 0, 1) := by decide +kernel
theorem dX3_tellsCause_21 : decode cX3_tellsCause 21 = .ok (.ireturn, 1) := by decide +kernel
theorem dX3_tellsCause_22 : decode cX3_tellsCause 22 = .ok (.aload_n 0, 1) := by decide +kernel
theorem dX3_tellsCause_23 : decode cX3_tellsCause 23 = .ok (.getfield 18, 3) := by decide +kernel
theorem dX3_tellsCause_26 : decode cX3_tellsCause 26 = .ok (.aload_n 0, 1) := by decide +kernel
theorem dX3_tellsCause_27 : decode cX3_tellsCause 27 = .ok (.getfield 28, 3) := by decide +kernel
theorem dX3_tellsCause_30 : decode cX3_tellsCause 30 = .ok (.iload_n 1, 1) := by decide +kernel
theorem dX3_tellsCause_31 : decode cX3_tellsCause 31 = .ok (.iastore, 1) := by decide +kernel
theorem dX3_tellsCause_32 : decode cX3_tellsCause 32 = .ok (.aload_n 0, 1) := by decide +kernel
theorem dX3_tellsCause_33 : decode cX3_tellsCause 33 = .ok (.iconst 4, 1) := by decide +kernel
theorem dX3_tellsCause_34 : decode cX3_tellsCause 34 = .ok (.putfield 31, 3) := by decide +kernel
theorem dX3_tellsCause_37 : decode cX3_tellsCause 37 = .ok (.iconst 1, 1) := by decide +kernel
theorem dX3_tellsCause_38 : decode cX3_tellsCause 38 = .ok (.ireturn, 1) := by decide +kernel
theorem dX3_tellsEffect_0 : decode cX3_tellsEffect 0 = .ok (.aload_n 0, 1) := by decide +kernel
theorem dX3_tellsEffect_1 : decode cX3_tellsEffect 1 = .ok (.getfield 28, 3) := by decide +kernel
theorem dX3_tellsEffect_4 : decode cX3_tellsEffect 4 = .ok (.iconst 4, 1) := by decide +kernel
theorem dX3_tellsEffect_5 : decode cX3_tellsEffect 5 = .ok (.if_icmp .ge 28, 3) := by decide +kernel
theorem dX3_tellsEffect_8 : decode cX3_tellsEffect 8 = .ok (.iload_n 1, 1) := by decide +kernel
theorem dX3_tellsEffect_9 : decode cX3_tellsEffect 9 = .ok (.ifCond .lt 24, 3) := by decide +kernel
theorem dX3_tellsEffect_12 : decode cX3_tellsEffect 12 = .ok (.iload_n 1, 1) := by decide +kernel
theorem dX3_tellsEffect_13 : decode cX3_tellsEffect 13 = .ok (.aload_n 0, 1) := by decide +kernel
theorem dX3_tellsEffect_14 : decode cX3_tellsEffect 14 = .ok (.getfield 24, 3) := by decide +kernel
theorem dX3_tellsEffect_17 : decode cX3_tellsEffect 17 = .ok (.if_icmp .ge 16, 3) := by decide +kernel
theorem dX3_tellsEffect_20 : decode cX3_tellsEffect 20 = .ok (.iload_n 1, 1) := by decide +kernel
theorem dX3_tellsEffect_21 : decode cX3_tellsEffect 21 = .ok (.aload_n 0, 1) := by decide +kernel
theorem dX3_tellsEffect_22 : decode cX3_tellsEffect 22 = .ok (.getfield 18, 3) := by decide +kernel
theorem dX3_tellsEffect_25 : decode cX3_tellsEffect 25 = .ok (.aload_n 0, 1) := by decide +kernel
theorem dX3_tellsEffect_26 : decode cX3_tellsEffect 26 = .ok (.getfield 28, 3) := by decide +kernel
theorem dX3_tellsEffect_29 : decode cX3_tellsEffect 29 = .ok (.iaload, 1) := by decide +kernel
theorem dX3_tellsEffect_30 : decode cX3_tellsEffect 30 = .ok (.if_icmp .ne 5, 3) := by decide +kernel
theorem dX3_tellsEffect_33 : decode cX3_tellsEffect 33 = .ok (.iconst 0, 1) := by decide +kernel
theorem dX3_tellsEffect_34 : decode cX3_tellsEffect 34 = .ok (.ireturn, 1) := by decide +kernel
theorem dX3_tellsEffect_35 : decode cX3_tellsEffect 35 = .ok (.aload_n 0, 1) := by decide +kernel
theorem dX3_tellsEffect_36 : decode cX3_tellsEffect 36 = .ok (.getfield 21, 3) := by decide +kernel
theorem dX3_tellsEffect_39 : decode cX3_tellsEffect 39 = .ok (.aload_n 0, 1) := by decide +kernel
theorem dX3_tellsEffect_40 : decode cX3_tellsEffect 40 = .ok (.getfield 28, 3) := by decide +kernel
theorem dX3_tellsEffect_43 : decode cX3_tellsEffect 43 = .ok (.iload_n 1, 1) := by decide +kernel
theorem dX3_tellsEffect_44 : decode cX3_tellsEffect 44 = .ok (.iastore, 1) := by decide +kernel
theorem dX3_tellsEffect_45 : decode cX3_tellsEffect 45 = .ok (.aload_n 0, 1) := by decide +kernel
theorem dX3_tellsEffect_46 : decode cX3_tellsEffect 46 = .ok (.dup, 1) := by decide +kernel
theorem dX3_tellsEffect_47 : decode cX3_tellsEffect 47 = .ok (.getfield 28, 3) := by decide +kernel
theorem dX3_tellsEffect_50 : decode cX3_tellsEffect 50 = .ok (.iconst 1, 1) := by decide +kernel
theorem dX3_tellsEffect_51 : decode cX3_tellsEffect 51 = .ok (.iadd, 1) := by decide +kernel
theorem dX3_tellsEffect_52 : decode cX3_tellsEffect 52 = .ok (.putfield 28, 3) := by decide +kernel
theorem dX3_tellsEffect_55 : decode cX3_tellsEffect 55 = .ok (.aload_n 0, 1) := by decide +kernel
theorem dX3_tellsEffect_56 : decode cX3_tellsEffect 56 = .ok (.iconst 5, 1) := by decide +kernel
theorem dX3_tellsEffect_57 : decode cX3_tellsEffect 57 = .ok (.putfield 31, 3) := by decide +kernel
theorem dX3_tellsEffect_60 : decode cX3_tellsEffect 60 = .ok (.iconst 1, 1) := by decide +kernel
theorem dX3_tellsEffect_61 : decode cX3_tellsEffect 61 = .ok (.ireturn, 1) := by decide +kernel
theorem dX4_init_0 : decode cX4_init 0 = .ok (.aload_n 0, 1) := by decide +kernel
theorem dX4_init_1 : decode cX4_init 1 = .ok (.invokespecial 3, 3) := by decide +kernel
theorem dX4_init_4 : decode cX4_init 4 = .ok (.aload_n 0, 1) := by decide +kernel
theorem dX4_init_5 : decode cX4_init 5 = .ok (.bipush 6, 2) := by decide +kernel
theorem dX4_init_7 : decode cX4_init 7 = .ok (.newarray .int, 2) := by decide +kernel
theorem dX4_init_9 : decode cX4_init 9 = .ok (.putfield 9, 3) := by decide +kernel
theorem dX4_init_12 : decode cX4_init 12 = .ok (.aload_n 0, 1) := by decide +kernel
theorem dX4_init_13 : decode cX4_init 13 = .ok (.bipush 6, 2) := by decide +kernel
theorem dX4_init_15 : decode cX4_init 15 = .ok (.newarray .int, 2) := by decide +kernel
theorem dX4_init_17 : decode cX4_init 17 = .ok (.putfield 15, 3) := by decide +kernel
theorem dX4_init_20 : decode cX4_init 20 = .ok (.aload_n 0, 1) := by decide +kernel
theorem dX4_init_21 : decode cX4_init 21 = .ok (.bipush 64, 2) := by decide +kernel
theorem dX4_init_23 : decode cX4_init 23 = .ok (.newarray .int, 2) := by decide +kernel
theorem dX4_init_25 : decode cX4_init 25 = .ok (.putfield 18, 3) := by decide +kernel
theorem dX4_init_28 : decode cX4_init 28 = .ok (.aload_n 0, 1) := by decide +kernel
theorem dX4_init_29 : decode cX4_init 29 = .ok (.bipush 64, 2) := by decide +kernel
theorem dX4_init_31 : decode cX4_init 31 = .ok (.newarray .int, 2) := by decide +kernel
theorem dX4_init_33 : decode cX4_init 33 = .ok (.putfield 21, 3) := by decide +kernel
theorem dX4_init_36 : decode cX4_init 36 = .ok (.aload_n 0, 1) := by decide +kernel
theorem dX4_init_37 : decode cX4_init 37 = .ok (.bipush 6, 2) := by decide +kernel
theorem dX4_init_39 : decode cX4_init 39 = .ok (.newarray .int, 2) := by decide +kernel
theorem dX4_init_41 : decode cX4_init 41 = .ok (.putfield 24, 3) := by decide +kernel
theorem dX4_init_44 : decode cX4_init 44 = .ok (.aload_n 0, 1) := by decide +kernel
theorem dX4_init_45 : decode cX4_init 45 = .ok (.sipush 1216, 3) := by decide +kernel
theorem dX4_init_48 : decode cX4_init 48 = .ok (.newarray .int, 2) := by decide +kernel
theorem dX4_init_50 : decode cX4_init 50 = .ok (.putfield 27, 3) := by decide +kernel
theorem dX4_init_53 : decode cX4_init 53 = .ok (.return_, 1) := by decide +kernel
theorem dX4_isThing_0 : decode cX4_isThing 0 = .ok (.iload_n 1, 1) := by decide +kernel
theorem dX4_isThing_1 : decode cX4_isThing 1 = .ok (.ifCond .lt 21, 3) := by decide +kernel
theorem dX4_isThing_4 : decode cX4_isThing 4 = .ok (.iload_n 1, 1) := by decide +kernel
theorem dX4_isThing_5 : decode cX4_isThing 5 = .ok (.aload_n 0, 1) := by decide +kernel
theorem dX4_isThing_6 : decode cX4_isThing 6 = .ok (.getfield 30, 3) := by decide +kernel
theorem dX4_isThing_9 : decode cX4_isThing 9 = .ok (.if_icmp .ge 13, 3) := by decide +kernel
theorem dX4_isThing_12 : decode cX4_isThing 12 = .ok (.iload_n 1, 1) := by decide +kernel
theorem dX4_isThing_13 : decode cX4_isThing 13 = .ok (.bipush 6, 2) := by decide +kernel
theorem dX4_isThing_15 : decode cX4_isThing 15 = .ok (.if_icmp .ge 7, 3) := by decide +kernel
theorem dX4_isThing_18 : decode cX4_isThing 18 = .ok (.iconst 1, 1) := by decide +kernel
theorem dX4_isThing_19 : decode cX4_isThing 19 = .ok (.goto 4, 3) := by decide +kernel
theorem dX4_isThing_22 : decode cX4_isThing 22 = .ok (.iconst 0, 1) := by decide +kernel
theorem dX4_isThing_23 : decode cX4_isThing 23 = .ok (.ireturn, 1) := by decide +kernel
set_option maxRecDepth 20000 in
theorem ggX4_isSet_X4_allThings : GoodIn wsX4_isSet wsX4_allThings := goodIn_r _ [5, 6, 7, 8, 4, 9, 10, 11, 12, 13, 14, 15, 16, 17, 18, 19] (by decide +kernel) (by decide +kernel)
set_option maxRecDepth 20000 in
theorem gX4_isSet_X4_allThings : GoodIn wsX4_isSet (wsV RX4 34 RX4 yX4_allThings wsX4_allThings) := goodIn_app (goodIn_of _ (by decide +kernel)) ggX4_isSet_X4_allThings
theorem dX4_isSet_0 : decode cX4_isSet 0 = .ok (.iload_n 1, 1) := by decide +kernel
theorem dX4_isSet_1 : decode cX4_isSet 1 = .ok (.aload_n 0, 1) := by decide +kernel
theorem dX4_isSet_2 : decode cX4_isSet 2 = .ok (.invokevirtual 34, 3) := by decide +kernel
theorem dX4_isSet_5 : decode cX4_isSet 5 = .ok (.iconst (-1), 1) := by decide +kernel
theorem dX4_isSet_6 : decode cX4_isSet 6 = .ok (.ixor, 1) := by decide +kernel
theorem dX4_isSet_7 : decode cX4_isSet 7 = .ok (.iand, 1) := by decide +kernel
theorem dX4_isSet_8 : decode cX4_isSet 8 = .ok (.ifCond .ne 7, 3) := by decide +kernel
theorem dX4_isSet_11 : decode cX4_isSet 11 = .ok (.iconst 1, 1) := by decide +kernel
theorem dX4_isSet_12 : decode cX4_isSet 12 = .ok (.goto 4, 3) := by decide +kernel
theorem dX4_isSet_15 : decode cX4_isSet 15 = .ok (.iconst 0, 1) := by decide +kernel
theorem dX4_isSet_16 : decode cX4_isSet 16 = .ok (.ireturn, 1) := by decide +kernel
theorem dX4_isCase_0 : decode cX4_isCase 0 = .ok (.iload_n 1, 1) := by decide +kernel
theorem dX4_isCase_1 : decode cX4_isCase 1 = .ok (.ifCond .lt 26, 3) := by decide +kernel
theorem dX4_isCase_4 : decode cX4_isCase 4 = .ok (.iload_n 1, 1) := by decide +kernel
theorem dX4_isCase_5 : decode cX4_isCase 5 = .ok (.bipush 64, 2) := by decide +kernel
theorem dX4_isCase_7 : decode cX4_isCase 7 = .ok (.if_icmp .ge 20, 3) := by decide +kernel
theorem dX4_isCase_10 : decode cX4_isCase 10 = .ok (.aload_n 0, 1) := by decide +kernel
theorem dX4_isCase_11 : decode cX4_isCase 11 = .ok (.getfield 38, 3) := by decide +kernel
theorem dX4_isCase_14 : decode cX4_isCase 14 = .ok (.iload_n 1, 1) := by decide +kernel
theorem dX4_isCase_15 : decode cX4_isCase 15 = .ok (.lshr, 1) := by decide +kernel
theorem dX4_isCase_16 : decode cX4_isCase 16 = .ok (.lconst 1, 1) := by decide +kernel
theorem dX4_isCase_17 : decode cX4_isCase 17 = .ok (.land, 1) := by decide +kernel
theorem dX4_isCase_18 : decode cX4_isCase 18 = .ok (.lconst 1, 1) := by decide +kernel
theorem dX4_isCase_19 : decode cX4_isCase 19 = .ok (.lcmp, 1) := by decide +kernel
theorem dX4_isCase_20 : decode cX4_isCase 20 = .ok (.ifCond .ne 7, 3) := by decide +kernel
theorem dX4_isCase_23 : decode cX4_isCase 23 = .ok (.iconst 1, 1) := by decide +kernel
theorem dX4_isCase_24 : decode cX4_isCase 24 = .ok (.goto 4, 3) := by decide +kernel
theorem dX4_isCase_27 : decode cX4_isCase 27 = .ok (.iconst 0, 1) := by decide +kernel
theorem dX4_isCase_28 : decode cX4_isCase 28 = .ok (.ireturn, 1) := by decide +kernel
theorem dX4_sets_0 : decode cX4_sets 0 = .ok (.iconst 1, 1) := by decide +kernel
theorem dX4_sets_1 : decode cX4_sets 1 = .ok (.aload_n 0, 1) := by decide +kernel
theorem dX4_sets_2 : decode cX4_sets 2 = .ok (.getfield 30, 3) := by decide +kernel
theorem dX4_sets_5 : decode cX4_sets 5 = .ok (.ishl, 1) := by decide +kernel
theorem dX4_sets_6 : decode cX4_sets 6 = .ok (.ireturn, 1) := by decide +kernel
set_option maxRecDepth 20000 in
theorem ggX4_allThings_X4_sets : GoodIn wsX4_allThings wsX4_sets := goodIn_r _ [5, 6, 7, 8, 9, 10, 11, 12, 13, 14, 15] (by decide +kernel) (by decide +kernel)
set_option maxRecDepth 20000 in
theorem gX4_allThings_X4_sets : GoodIn wsX4_allThings (wsV RX4 42 RX4 yX4_sets wsX4_sets) := goodIn_app (goodIn_of _ (by decide +kernel)) ggX4_allThings_X4_sets
theorem dX4_allThings_0 : decode cX4_allThings 0 = .ok (.aload_n 0, 1) := by decide +kernel
theorem dX4_allThings_1 : decode cX4_allThings 1 = .ok (.invokevirtual 42, 3) := by decide +kernel
theorem dX4_allThings_4 : decode cX4_allThings 4 = .ok (.iconst 1, 1) := by decide +kernel
theorem dX4_allThings_5 : decode cX4_allThings 5 = .ok (.isub, 1) := by decide +kernel
theorem dX4_allThings_6 : decode cX4_allThings 6 = .ok (.ireturn, 1) := by decide +kernel
set_option maxRecDepth 20000 in
theorem ggX4_build_X4_findCases : GoodIn wsX4_build wsX4_findCases := goodIn_r _ [11, 12, 13, 14, 15, 16, 17, 18, 10, 19, 2, 20, 21, 22, 23, 24, 25, 26, 27, 28, 29, 30, 31, 32, 33, 5, 57, 58, 59, 60, 61, 62, 63, 64, 65, 50, 51, 52, 53, 54, 55, 56] (by decide +kernel) (by decide +kernel)
set_option maxRecDepth 20000 in
theorem gX4_build_X4_findCases : GoodIn wsX4_build (wsV RX4 50 RX4 yX4_findCases wsX4_findCases) := goodIn_app (goodIn_of _ (by decide +kernel)) ggX4_build_X4_findCases
set_option maxRecDepth 20000 in
theorem ggX4_build_X4_orderThings : GoodIn wsX4_build wsX4_orderThings := goodIn_r _ [37, 2, 3, 38, 57, 58, 59, 60, 61, 62, 63, 64, 65] (by decide +kernel) (by decide +kernel)
set_option maxRecDepth 20000 in
theorem gX4_build_X4_orderThings : GoodIn wsX4_build (wsV RX4 54 RX4 yX4_orderThings wsX4_orderThings) := goodIn_app (goodIn_of _ (by decide +kernel)) ggX4_build_X4_orderThings
set_option maxRecDepth 20000 in
theorem ggX4_build_X4_sets : GoodIn wsX4_build wsX4_sets := goodIn_r _ [19, 2, 57, 58, 59, 60, 61, 62, 63, 64, 65] (by decide +kernel) (by decide +kernel)
set_option maxRecDepth 20000 in
theorem gX4_build_X4_sets : GoodIn wsX4_build (wsV RX4 42 RX4 yX4_sets wsX4_sets) := goodIn_app (goodIn_of _ (by decide +kernel)) ggX4_build_X4_sets
set_option maxRecDepth 20000 in
theorem ggX4_build_X4_fillCalls : GoodIn wsX4_build wsX4_fillCalls := goodIn_r _ [42, 2, 38, 3, 27, 28, 29, 43, 44, 45, 46, 47, 10, 48, 49, 57, 58, 59, 60, 61, 62, 63, 64, 65] (by decide +kernel) (by decide +kernel)
set_option maxRecDepth 20000 in
theorem gX4_build_X4_fillCalls : GoodIn wsX4_build (wsV RX4 57 RX4 yX4_fillCalls wsX4_fillCalls) := goodIn_app (goodIn_of _ (by decide +kernel)) ggX4_build_X4_fillCalls
theorem dX4_build_0 : decode cX4_build 0 = .ok (.aload_n 0, 1) := by decide +kernel
theorem dX4_build_1 : decode cX4_build 1 = .ok (.aload_n 1, 1) := by decide +kernel
theorem dX4_build_2 : decode cX4_build 2 = .ok (.getfield 45, 3) := by decide +kernel
theorem dX4_build_5 : decode cX4_build 5 = .ok (.putfield 30, 3) := by decide +kernel
theorem dX4_build_8 : decode cX4_build 8 = .ok (.iconst 0, 1) := by decide +kernel
theorem dX4_build_9 : decode cX4_build 9 = .ok (.istore_n 2, 1) := by decide +kernel
theorem dX4_build_10 : decode cX4_build 10 = .ok (.iload_n 2, 1) := by decide +kernel
theorem dX4_build_11 : decode cX4_build 11 = .ok (.aload_n 0, 1) := by decide +kernel
theorem dX4_build_12 : decode cX4_build 12 = .ok (.getfield 30, 3) := by decide +kernel
theorem dX4_build_15 : decode cX4_build 15 = .ok (.if_icmp .ge 39, 3) := by decide +kernel
theorem dX4_build_18 : decode cX4_build 18 = .ok (.iload_n 2, 1) := by decide +kernel
theorem dX4_build_19 : decode cX4_build 19 = .ok (.bipush 6, 2) := by decide +kernel
theorem dX4_build_21 : decode cX4_build 21 = .ok (.if_icmp .ge 33, 3) := by decide +kernel
theorem dX4_build_24 : decode cX4_build 24 = .ok (.aload_n 0, 1) := by decide +kernel
theorem dX4_build_25 : decode cX4_build 25 = .ok (.getfield 9, 3) := by decide +kernel
theorem dX4_build_28 : decode cX4_build 28 = .ok (.iload_n 2, 1) := by decide +kernel
theorem dX4_build_29 : decode cX4_build 29 = .ok (.aload_n 1, 1) := by decide +kernel
theorem dX4_build_30 : decode cX4_build 30 = .ok (.getfield 48, 3) := by decide +kernel
theorem dX4_build_33 : decode cX4_build 33 = .ok (.iload_n 2, 1) := by decide +kernel
theorem dX4_build_34 : decode cX4_build 34 = .ok (.iaload, 1) := by decide +kernel
theorem dX4_build_35 : decode cX4_build 35 = .ok (.iastore, 1) := by decide +kernel
theorem dX4_build_36 : decode cX4_build 36 = .ok (.aload_n 0, 1) := by decide +kernel
theorem dX4_build_37 : decode cX4_build 37 = .ok (.getfield 15, 3) := by decide +kernel
theorem dX4_build_40 : decode cX4_build 40 = .ok (.iload_n 2, 1) := by decide +kernel
theorem dX4_build_41 : decode cX4_build 41 = .ok (.aload_n 1, 1) := by decide +kernel
theorem dX4_build_42 : decode cX4_build 42 = .ok (.getfield 49, 3) := by decide +kernel
theorem dX4_build_45 : decode cX4_build 45 = .ok (.iload_n 2, 1) := by decide +kernel
theorem dX4_build_46 : decode cX4_build 46 = .ok (.iaload, 1) := by decide +kernel
theorem dX4_build_47 : decode cX4_build 47 = .ok (.iastore, 1) := by decide +kernel
theorem dX4_build_48 : decode cX4_build 48 = .ok (.iinc 2 1, 3) := by decide +kernel
theorem dX4_build_51 : decode cX4_build 51 = .ok (.goto (-41), 3) := by decide +kernel
theorem dX4_build_54 : decode cX4_build 54 = .ok (.aload_n 0, 1) := by decide +kernel
theorem dX4_build_55 : decode cX4_build 55 = .ok (.aload_n 1, 1) := by decide +kernel
theorem dX4_build_56 : decode cX4_build 56 = .ok (.invokevirtual 50, 3) := by decide +kernel
theorem dX4_build_59 : decode cX4_build 59 = .ok (.aload_n 0, 1) := by decide +kernel
theorem dX4_build_60 : decode cX4_build 60 = .ok (.invokevirtual 54, 3) := by decide +kernel
theorem dX4_build_63 : decode cX4_build 63 = .ok (.iconst 0, 1) := by decide +kernel
theorem dX4_build_64 : decode cX4_build 64 = .ok (.istore_n 2, 1) := by decide +kernel
theorem dX4_build_65 : decode cX4_build 65 = .ok (.iload_n 2, 1) := by decide +kernel
theorem dX4_build_66 : decode cX4_build 66 = .ok (.aload_n 0, 1) := by decide +kernel
theorem dX4_build_67 : decode cX4_build 67 = .ok (.invokevirtual 42, 3) := by decide +kernel
theorem dX4_build_70 : decode cX4_build 70 = .ok (.if_icmp .ge 20, 3) := by decide +kernel
theorem dX4_build_73 : decode cX4_build 73 = .ok (.iload_n 2, 1) := by decide +kernel
theorem dX4_build_74 : decode cX4_build 74 = .ok (.bipush 64, 2) := by decide +kernel
theorem dX4_build_76 : decode cX4_build 76 = .ok (.if_icmp .ge 14, 3) := by decide +kernel
theorem dX4_build_79 : decode cX4_build 79 = .ok (.aload_n 0, 1) := by decide +kernel
theorem dX4_build_80 : decode cX4_build 80 = .ok (.iload_n 2, 1) := by decide +kernel
theorem dX4_build_81 : decode cX4_build 81 = .ok (.invokevirtual 57, 3) := by decide +kernel
theorem dX4_build_84 : decode cX4_build 84 = .ok (.iinc 2 1, 3) := by decide +kernel
theorem dX4_build_87 : decode cX4_build 87 = .ok (.goto (-22), 3) := by decide +kernel
theorem dX4_build_90 : decode cX4_build 90 = .ok (.return_, 1) := by decide +kernel
set_option maxRecDepth 20000 in
theorem ggX4_callIn_X5_isBreath : GoodIn wsX4_callIn wsX5_isBreath := goodIn_r _ [4] (by decide +kernel) (by decide +kernel)
set_option maxRecDepth 20000 in
theorem gX4_callIn_X5_isBreath_n61 : GoodIn wsX4_callIn (wsX5_isBreath) := ggX4_callIn_X5_isBreath
theorem dX4_callIn_0 : decode cX4_callIn 0 = .ok (.iload_n 3, 1) := by decide +kernel
theorem dX4_callIn_1 : decode cX4_callIn 1 = .ok (.invokestatic 61, 3) := by decide +kernel
theorem dX4_callIn_4 : decode cX4_callIn 4 = .ok (.ifCond .eq 24, 3) := by decide +kernel
theorem dX4_callIn_7 : decode cX4_callIn 7 = .ok (.aload_n 0, 1) := by decide +kernel
theorem dX4_callIn_8 : decode cX4_callIn 8 = .ok (.getfield 27, 3) := by decide +kernel
theorem dX4_callIn_11 : decode cX4_callIn 11 = .ok (.iload_n 3, 1) := by decide +kernel
theorem dX4_callIn_12 : decode cX4_callIn 12 = .ok (.bipush 64, 2) := by decide +kernel
theorem dX4_callIn_14 : decode cX4_callIn 14 = .ok (.imul, 1) := by decide +kernel
theorem dX4_callIn_15 : decode cX4_callIn 15 = .ok (.iload_n 2, 1) := by decide +kernel
theorem dX4_callIn_16 : decode cX4_callIn 16 = .ok (.iload_n 1, 1) := by decide +kernel
theorem dX4_callIn_17 : decode cX4_callIn 17 = .ok (.iconst (-1), 1) := by decide +kernel
theorem dX4_callIn_18 : decode cX4_callIn 18 = .ok (.ixor, 1) := by decide +kernel
theorem dX4_callIn_19 : decode cX4_callIn 19 = .ok (.iand, 1) := by decide +kernel
theorem dX4_callIn_20 : decode cX4_callIn 20 = .ok (.bipush 63, 2) := by decide +kernel
theorem dX4_callIn_22 : decode cX4_callIn 22 = .ok (.iand, 1) := by decide +kernel
theorem dX4_callIn_23 : decode cX4_callIn 23 = .ok (.iadd, 1) := by decide +kernel
theorem dX4_callIn_24 : decode cX4_callIn 24 = .ok (.iaload, 1) := by decide +kernel
theorem dX4_callIn_25 : decode cX4_callIn 25 = .ok (.goto 4, 3) := by decide +kernel
theorem dX4_callIn_28 : decode cX4_callIn 28 = .ok (.iconst 0, 1) := by decide +kernel
theorem dX4_callIn_29 : decode cX4_callIn 29 = .ok (.ireturn, 1) := by decide +kernel
set_option maxRecDepth 20000 in
theorem ggX4_wordsIn_X5_has : GoodIn wsX4_wordsIn wsX5_has := goodIn_r _ [5] (by decide +kernel) (by decide +kernel)
set_option maxRecDepth 20000 in
theorem gX4_wordsIn_X5_has_n65 : GoodIn wsX4_wordsIn (wsX5_has) := ggX4_wordsIn_X5_has
set_option maxRecDepth 20000 in
theorem ggX4_wordsIn_X5_wordsOfKind : GoodIn wsX4_wordsIn wsX5_wordsOfKind := goodIn_r _ [7] (by decide +kernel) (by decide +kernel)
set_option maxRecDepth 20000 in
theorem gX4_wordsIn_X5_wordsOfKind_n69 : GoodIn wsX4_wordsIn (wsX5_wordsOfKind) := ggX4_wordsIn_X5_wordsOfKind
theorem dX4_wordsIn_0 : decode cX4_wordsIn 0 = .ok (.iconst 0, 1) := by decide +kernel
theorem dX4_wordsIn_1 : decode cX4_wordsIn 1 = .ok (.istore_n 2, 1) := by decide +kernel
theorem dX4_wordsIn_2 : decode cX4_wordsIn 2 = .ok (.iconst 0, 1) := by decide +kernel
theorem dX4_wordsIn_3 : decode cX4_wordsIn 3 = .ok (.istore_n 3, 1) := by decide +kernel
theorem dX4_wordsIn_4 : decode cX4_wordsIn 4 = .ok (.iload_n 3, 1) := by decide +kernel
theorem dX4_wordsIn_5 : decode cX4_wordsIn 5 = .ok (.aload_n 0, 1) := by decide +kernel
theorem dX4_wordsIn_6 : decode cX4_wordsIn 6 = .ok (.getfield 30, 3) := by decide +kernel
theorem dX4_wordsIn_9 : decode cX4_wordsIn 9 = .ok (.if_icmp .ge 35, 3) := by decide +kernel
theorem dX4_wordsIn_12 : decode cX4_wordsIn 12 = .ok (.iload_n 3, 1) := by decide +kernel
theorem dX4_wordsIn_13 : decode cX4_wordsIn 13 = .ok (.bipush 6, 2) := by decide +kernel
theorem dX4_wordsIn_15 : decode cX4_wordsIn 15 = .ok (.if_icmp .ge 29, 3) := by decide +kernel
theorem dX4_wordsIn_18 : decode cX4_wordsIn 18 = .ok (.iload_n 1, 1) := by decide +kernel
theorem dX4_wordsIn_19 : decode cX4_wordsIn 19 = .ok (.iload_n 3, 1) := by decide +kernel
theorem dX4_wordsIn_20 : decode cX4_wordsIn 20 = .ok (.invokestatic 65, 3) := by decide +kernel
theorem dX4_wordsIn_23 : decode cX4_wordsIn 23 = .ok (.ifCond .eq 15, 3) := by decide +kernel
theorem dX4_wordsIn_26 : decode cX4_wordsIn 26 = .ok (.iload_n 2, 1) := by decide +kernel
theorem dX4_wordsIn_27 : decode cX4_wordsIn 27 = .ok (.aload_n 0, 1) := by decide +kernel
theorem dX4_wordsIn_28 : decode cX4_wordsIn 28 = .ok (.getfield 9, 3) := by decide +kernel
theorem dX4_wordsIn_31 : decode cX4_wordsIn 31 = .ok (.iload_n 3, 1) := by decide +kernel
theorem dX4_wordsIn_32 : decode cX4_wordsIn 32 = .ok (.iaload, 1) := by decide +kernel
theorem dX4_wordsIn_33 : decode cX4_wordsIn 33 = .ok (.invokestatic 69, 3) := by decide +kernel
theorem dX4_wordsIn_36 : decode cX4_wordsIn 36 = .ok (.iadd, 1) := by decide +kernel
theorem dX4_wordsIn_37 : decode cX4_wordsIn 37 = .ok (.istore_n 2, 1) := by decide +kernel
theorem dX4_wordsIn_38 : decode cX4_wordsIn 38 = .ok (.iinc 3 1, 3) := by decide +kernel
theorem dX4_wordsIn_41 : decode cX4_wordsIn 41 = .ok (.goto (-37), 3) := by decide +kernel
theorem dX4_wordsIn_44 : decode cX4_wordsIn 44 = .ok (.iload_n 2, 1) := by decide +kernel
