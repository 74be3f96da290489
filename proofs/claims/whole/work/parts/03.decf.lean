set_option maxRecDepth 20000 in
theorem gX6_wordsOf_X6_isIn : GoodIn wsX6_wordsOf (va_wsS RX6 150 yX6_isIn wsX6_isIn) := goodIn_app (goodIn_of _ (by decide +kernel)) ggX6_wordsOf_X6_isIn
theorem dX6_wordsOf_0 : decode cX6_wordsOf 0 = .ok (.iconst 0, 1) := by decide +kernel
theorem dX6_wordsOf_1 : decode cX6_wordsOf 1 = .ok (.istore_n 2, 1) := by decide +kernel
theorem dX6_wordsOf_2 : decode cX6_wordsOf 2 = .ok (.iconst 0, 1) := by decide +kernel
theorem dX6_wordsOf_3 : decode cX6_wordsOf 3 = .ok (.istore_n 3, 1) := by decide +kernel
theorem dX6_wordsOf_4 : decode cX6_wordsOf 4 = .ok (.iload_n 3, 1) := by decide +kernel
theorem dX6_wordsOf_5 : decode cX6_wordsOf 5 = .ok (.aload_n 0, 1) := by decide +kernel
theorem dX6_wordsOf_6 : decode cX6_wordsOf 6 = .ok (.getfield 98, 3) := by decide +kernel
theorem dX6_wordsOf_9 : decode cX6_wordsOf 9 = .ok (.if_icmp .ge 32, 3) := by decide +kernel
theorem dX6_wordsOf_12 : decode cX6_wordsOf 12 = .ok (.iload_n 2, 1) := by decide +kernel
theorem dX6_wordsOf_13 : decode cX6_wordsOf 13 = .ok (.iload_n 1, 1) := by decide +kernel
theorem dX6_wordsOf_14 : decode cX6_wordsOf 14 = .ok (.iload_n 3, 1) := by decide +kernel
theorem dX6_wordsOf_15 : decode cX6_wordsOf 15 = .ok (.invokestatic 150, 3) := by decide +kernel
theorem dX6_wordsOf_18 : decode cX6_wordsOf 18 = .ok (.ifCond .eq 14, 3) := by decide +kernel
theorem dX6_wordsOf_21 : decode cX6_wordsOf 21 = .ok (.aload_n 0, 1) := by decide +kernel
theorem dX6_wordsOf_22 : decode cX6_wordsOf 22 = .ok (.getfield 7, 3) := by decide +kernel
theorem dX6_wordsOf_25 : decode cX6_wordsOf 25 = .ok (.iload_n 3, 1) := by decide +kernel
theorem dX6_wordsOf_26 : decode cX6_wordsOf 26 = .ok (.iaload, 1) := by decide +kernel
theorem dX6_wordsOf_27 : decode cX6_wordsOf 27 = .ok (.iconst 1, 1) := by decide +kernel
theorem dX6_wordsOf_28 : decode cX6_wordsOf 28 = .ok (.iadd, 1) := by decide +kernel
theorem dX6_wordsOf_29 : decode cX6_wordsOf 29 = .ok (.goto 4, 3) := by decide +kernel
theorem dX6_wordsOf_32 : decode cX6_wordsOf 32 = .ok (.iconst 0, 1) := by decide +kernel
theorem dX6_wordsOf_33 : decode cX6_wordsOf 33 = .ok (.iadd, 1) := by decide +kernel
theorem dX6_wordsOf_34 : decode cX6_wordsOf 34 = .ok (.istore_n 2, 1) := by decide +kernel
theorem dX6_wordsOf_35 : decode cX6_wordsOf 35 = .ok (.iinc 3 1, 3) := by decide +kernel
theorem dX6_wordsOf_38 : decode cX6_wordsOf 38 = .ok (.goto (-34), 3) := by decide +kernel
theorem dX6_wordsOf_41 : decode cX6_wordsOf 41 = .ok (.iload_n 2, 1) := by decide +kernel
theorem dX6_wordsOf_42 : decode cX6_wordsOf 42 = .ok (.ireturn, 1) := by decide +kernel
set_option maxRecDepth 20000 in
theorem ggX6_words_X6_noHour : GoodIn wsX6_words wsX6_noHour := goodIn_r _ [5, 6, 7, 8, 4, 9] (by decide +kernel) (by decide +kernel)
set_option maxRecDepth 20000 in
theorem gX6_words_X6_noHour : GoodIn wsX6_words (va_wsS RX6 159 yX6_noHour wsX6_noHour) := goodIn_app (goodIn_of _ (by decide +kernel)) ggX6_words_X6_noHour
set_option maxRecDepth 20000 in
theorem ggX6_words_X6_in : GoodIn wsX6_words wsX6_in := goodIn_r _ [9] (by decide +kernel) (by decide +kernel)
set_option maxRecDepth 20000 in
theorem gX6_words_X6_in : GoodIn wsX6_words (va_wsS RX6 87 yX6_in wsX6_in) := goodIn_app (goodIn_of _ (by decide +kernel)) ggX6_words_X6_in
set_option maxRecDepth 20000 in
theorem ggX6_words_X6_lost : GoodIn wsX6_words wsX6_lost := goodIn_r _ [12, 13] (by decide +kernel) (by decide +kernel)
set_option maxRecDepth 20000 in
theorem gX6_words_X6_lost : GoodIn wsX6_words (va_wsS RX6 73 yX6_lost wsX6_lost) := goodIn_app (goodIn_of _ (by decide +kernel)) ggX6_words_X6_lost
set_option maxRecDepth 20000 in
theorem ggX6_words_X6_all : GoodIn wsX6_words wsX6_all := goodIn_r _ [17, 1, 55, 56, 57, 58, 59, 60, 61, 62, 63, 64, 65, 66, 67, 68, 69, 70, 71, 72, 73, 74, 75, 76, 77, 78, 79, 80, 81] (by decide +kernel) (by decide +kernel)
set_option maxRecDepth 20000 in
theorem gX6_words_X6_all : GoodIn wsX6_words (wsV RX6 103 RX6 yX6_all wsX6_all) := goodIn_app (goodIn_of _ (by decide +kernel)) ggX6_words_X6_all
set_option maxRecDepth 20000 in
theorem ggX6_words_X6_isCase : GoodIn wsX6_words wsX6_isCase := goodIn_r _ [21, 1, 22, 23, 24, 25, 26, 27, 4, 28, 14, 15, 16, 17, 7, 8, 9, 29, 30, 31, 55, 56, 57, 58, 59, 60, 61, 62, 63, 64, 65, 66, 67, 68, 69, 70, 71, 72, 73, 74, 75, 76, 77, 78, 79, 80, 81] (by decide +kernel) (by decide +kernel)
set_option maxRecDepth 20000 in
theorem gX6_words_X6_isCase : GoodIn wsX6_words (wsV RX6 153 RX6 yX6_isCase wsX6_isCase) := goodIn_app (goodIn_of _ (by decide +kernel)) ggX6_words_X6_isCase
set_option maxRecDepth 20000 in
theorem ggX6_words_X6_weightOf : GoodIn wsX6_words wsX6_weightOf := goodIn_r _ [35, 1, 36, 29, 30, 4, 31, 55, 56, 57, 58, 59, 60, 61, 62, 63, 64, 65, 66, 67, 68, 69, 70, 71, 72, 73, 74, 75, 76, 77, 78, 79, 80, 81] (by decide +kernel) (by decide +kernel)
set_option maxRecDepth 20000 in
theorem gX6_words_X6_weightOf : GoodIn wsX6_words (wsV RX6 156 RX6 yX6_weightOf wsX6_weightOf) := goodIn_app (goodIn_of _ (by decide +kernel)) ggX6_words_X6_weightOf
set_option maxRecDepth 20000 in
theorem ggX6_words_X6_calledIn : GoodIn wsX6_words wsX6_calledIn := goodIn_r _ [40, 41, 42, 43, 44, 45, 4, 46, 1, 47, 29, 30, 31, 55, 56, 57, 58, 59, 60, 61, 62, 63, 64, 65, 66, 67, 68, 69, 70, 71, 72, 73, 74, 75, 76, 77, 78, 79, 80, 81] (by decide +kernel) (by decide +kernel)
set_option maxRecDepth 20000 in
theorem gX6_words_X6_calledIn : GoodIn wsX6_words (wsV RX6 168 RX6 yX6_calledIn wsX6_calledIn) := goodIn_app (goodIn_of _ (by decide +kernel)) ggX6_words_X6_calledIn
set_option maxRecDepth 20000 in
theorem ggX6_words_X6_wordsOf : GoodIn wsX6_words wsX6_wordsOf := goodIn_r _ [51, 1, 47, 29, 30, 4, 31, 55, 56, 57, 58, 59, 60, 61, 62, 63, 64, 65, 66, 67, 68, 69, 70, 71, 72, 73, 74, 75, 76, 77, 78, 79, 80, 81] (by decide +kernel) (by decide +kernel)
set_option maxRecDepth 20000 in
theorem gX6_words_X6_wordsOf : GoodIn wsX6_words (wsV RX6 187 RX6 yX6_wordsOf wsX6_wordsOf) := goodIn_app (goodIn_of _ (by decide +kernel)) ggX6_words_X6_wordsOf
set_option maxRecDepth 20000 in
theorem ggX6_words_X6_told : GoodIn wsX6_words wsX6_told := goodIn_r _ [54] (by decide +kernel) (by decide +kernel)
set_option maxRecDepth 20000 in
theorem gX6_words_X6_told : GoodIn wsX6_words (va_wsS RX6 174 yX6_told wsX6_told) := goodIn_app (goodIn_of _ (by decide +kernel)) ggX6_words_X6_told
theorem dX6_words_0 : decode cX6_words 0 = .ok (.iload_n 1, 1) := by decide +kernel
theorem dX6_words_1 : decode cX6_words 1 = .ok (.invokestatic 159, 3) := by decide +kernel
theorem dX6_words_4 : decode cX6_words 4 = .ok (.ifCond .ne 20, 3) := by decide +kernel
theorem dX6_words_7 : decode cX6_words 7 = .ok (.iload_n 2, 1) := by decide +kernel
theorem dX6_words_8 : decode cX6_words 8 = .ok (.i2l, 1) := by decide +kernel
theorem dX6_words_9 : decode cX6_words 9 = .ok (.lconst 0, 1) := by decide +kernel
theorem dX6_words_10 : decode cX6_words 10 = .ok (.lconst 1, 1) := by decide +kernel
theorem dX6_words_11 : decode cX6_words 11 = .ok (.invokestatic 87, 3) := by decide +kernel
theorem dX6_words_14 : decode cX6_words 14 = .ok (.ifCond .eq 10, 3) := by decide +kernel
theorem dX6_words_17 : decode cX6_words 17 = .ok (.aload_n 0, 1) := by decide +kernel
theorem dX6_words_18 : decode cX6_words 18 = .ok (.getfield 98, 3) := by decide +kernel
theorem dX6_words_21 : decode cX6_words 21 = .ok (.ifCond .ne 7, 3) := by decide +kernel
theorem dX6_words_24 : decode cX6_words 24 = .ok (.invokestatic 73, 3) := by decide +kernel
theorem dX6_words_27 : decode cX6_words 27 = .ok (.lreturn, 1) := by decide +kernel
theorem dX6_words_28 : decode cX6_words 28 = .ok (.lconst 0, 1) := by decide +kernel
theorem dX6_words_29 : decode cX6_words 29 = .ok (.lstore_n 3, 1) := by decide +kernel
theorem dX6_words_30 : decode cX6_words 30 = .ok (.lconst 0, 1) := by decide +kernel
theorem dX6_words_31 : decode cX6_words 31 = .ok (.lstore 5, 2) := by decide +kernel
theorem dX6_words_33 : decode cX6_words 33 = .ok (.iconst 0, 1) := by decide +kernel
theorem dX6_words_34 : decode cX6_words 34 = .ok (.istore 7, 2) := by decide +kernel
theorem dX6_words_36 : decode cX6_words 36 = .ok (.iload 7, 2) := by decide +kernel
theorem dX6_words_38 : decode cX6_words 38 = .ok (.aload_n 0, 1) := by decide +kernel
theorem dX6_words_39 : decode cX6_words 39 = .ok (.invokevirtual 103, 3) := by decide +kernel
theorem dX6_words_42 : decode cX6_words 42 = .ok (.if_icmp .gt 53, 3) := by decide +kernel
theorem dX6_words_45 : decode cX6_words 45 = .ok (.aload_n 0, 1) := by decide +kernel
theorem dX6_words_46 : decode cX6_words 46 = .ok (.iload 7, 2) := by decide +kernel
theorem dX6_words_48 : decode cX6_words 48 = .ok (.invokevirtual 153, 3) := by decide +kernel
theorem dX6_words_51 : decode cX6_words 51 = .ok (.ifCond .eq 38, 3) := by decide +kernel
theorem dX6_words_54 : decode cX6_words 54 = .ok (.lload 5, 2) := by decide +kernel
theorem dX6_words_56 : decode cX6_words 56 = .ok (.aload_n 0, 1) := by decide +kernel
theorem dX6_words_57 : decode cX6_words 57 = .ok (.iload 7, 2) := by decide +kernel
theorem dX6_words_59 : decode cX6_words 59 = .ok (.invokevirtual 156, 3) := by decide +kernel
theorem dX6_words_62 : decode cX6_words 62 = .ok (.i2l, 1) := by decide +kernel
theorem dX6_words_63 : decode cX6_words 63 = .ok (.ladd, 1) := by decide +kernel
theorem dX6_words_64 : decode cX6_words 64 = .ok (.lstore 5, 2) := by decide +kernel
theorem dX6_words_66 : decode cX6_words 66 = .ok (.lload_n 3, 1) := by decide +kernel
theorem dX6_words_67 : decode cX6_words 67 = .ok (.aload_n 0, 1) := by decide +kernel
theorem dX6_words_68 : decode cX6_words 68 = .ok (.iload 7, 2) := by decide +kernel
theorem dX6_words_70 : decode cX6_words 70 = .ok (.invokevirtual 156, 3) := by decide +kernel
theorem dX6_words_73 : decode cX6_words 73 = .ok (.i2l, 1) := by decide +kernel
theorem dX6_words_74 : decode cX6_words 74 = .ok (.aload_n 0, 1) := by decide +kernel
theorem dX6_words_75 : decode cX6_words 75 = .ok (.aload_n 0, 1) := by decide +kernel
theorem dX6_words_76 : decode cX6_words 76 = .ok (.iload 7, 2) := by decide +kernel
theorem dX6_words_78 : decode cX6_words 78 = .ok (.iload_n 1, 1) := by decide +kernel
theorem dX6_words_79 : decode cX6_words 79 = .ok (.invokevirtual 168, 3) := by decide +kernel
theorem dX6_words_82 : decode cX6_words 82 = .ok (.invokevirtual 187, 3) := by decide +kernel
theorem dX6_words_85 : decode cX6_words 85 = .ok (.i2l, 1) := by decide +kernel
theorem dX6_words_86 : decode cX6_words 86 = .ok (.lmul, 1) := by decide +kernel
theorem dX6_words_87 : decode cX6_words 87 = .ok (.ladd, 1) := by decide +kernel
theorem dX6_words_88 : decode cX6_words 88 = .ok (.lstore_n 3, 1) := by decide +kernel
theorem dX6_words_89 : decode cX6_words 89 = .ok (.iinc 7 1, 3) := by decide +kernel
theorem dX6_words_92 : decode cX6_words 92 = .ok (.goto (-56), 3) := by decide +kernel
theorem dX6_words_95 : decode cX6_words 95 = .ok (.lload_n 3, 1) := by decide +kernel
theorem dX6_words_96 : decode cX6_words 96 = .ok (.lload 5, 2) := by decide +kernel
theorem dX6_words_98 : decode cX6_words 98 = .ok (.iload_n 2, 1) := by decide +kernel
theorem dX6_words_99 : decode cX6_words 99 = .ok (.invokestatic 174, 3) := by decide +kernel
theorem dX6_words_102 : decode cX6_words 102 = .ok (.lreturn, 1) := by decide +kernel
set_option maxRecDepth 20000 in
theorem ggX6_isKnown_X6_namedBy : GoodIn wsX6_isKnown wsX6_namedBy := goodIn_r _ [5, 6, 7, 8, 9, 4, 10, 29, 30, 31, 32, 33, 34, 35, 36, 37, 38, 39, 40, 41, 42, 43, 44, 45, 46, 47, 48, 49, 50, 51, 52, 53, 54, 55] (by decide +kernel) (by decide +kernel)
set_option maxRecDepth 20000 in
theorem gX6_isKnown_X6_namedBy : GoodIn wsX6_isKnown (wsV RX6 164 RX6 yX6_namedBy wsX6_namedBy) := goodIn_app (goodIn_of _ (by decide +kernel)) ggX6_isKnown_X6_namedBy
set_option maxRecDepth 20000 in
theorem ggX6_isKnown_X6_all : GoodIn wsX6_isKnown wsX6_all := goodIn_r _ [14, 6, 29, 30, 31, 32, 33, 34, 35, 36, 37, 38, 39, 40, 41, 42, 43, 44, 45, 46, 47, 48, 49, 50, 51, 52, 53, 54, 55] (by decide +kernel) (by decide +kernel)
set_option maxRecDepth 20000 in
theorem gX6_isKnown_X6_all : GoodIn wsX6_isKnown (wsV RX6 103 RX6 yX6_all wsX6_all) := goodIn_app (goodIn_of _ (by decide +kernel)) ggX6_isKnown_X6_all
set_option maxRecDepth 20000 in
theorem ggX6_isKnown_X6_isCase : GoodIn wsX6_isKnown wsX6_isCase := goodIn_r _ [18, 6, 19, 20, 21, 22, 23, 24, 4, 25, 11, 12, 13, 14, 26, 27, 28, 8, 9, 10, 29, 30, 31, 32, 33, 34, 35, 36, 37, 38, 39, 40, 41, 42, 43, 44, 45, 46, 47, 48, 49, 50, 51, 52, 53, 54, 55] (by decide +kernel) (by decide +kernel)
set_option maxRecDepth 20000 in
theorem gX6_isKnown_X6_isCase : GoodIn wsX6_isKnown (wsV RX6 153 RX6 yX6_isCase wsX6_isCase) := goodIn_app (goodIn_of _ (by decide +kernel)) ggX6_isKnown_X6_isCase
set_option maxRecDepth 20000 in
theorem ggX6_isKnown_X6_isIn : GoodIn wsX6_isKnown wsX6_isIn := goodIn_r _ [10] (by decide +kernel) (by decide +kernel)
set_option maxRecDepth 20000 in
theorem gX6_isKnown_X6_isIn : GoodIn wsX6_isKnown (va_wsS RX6 150 yX6_isIn wsX6_isIn) := goodIn_app (goodIn_of _ (by decide +kernel)) ggX6_isKnown_X6_isIn
theorem dX6_isKnown_0 : decode cX6_isKnown 0 = .ok (.aload_n 0, 1) := by decide +kernel
theorem dX6_isKnown_1 : decode cX6_isKnown 1 = .ok (.iload_n 1, 1) := by decide +kernel
theorem dX6_isKnown_2 : decode cX6_isKnown 2 = .ok (.iload 4, 2) := by decide +kernel
theorem dX6_isKnown_4 : decode cX6_isKnown 4 = .ok (.iload 5, 2) := by decide +kernel
theorem dX6_isKnown_6 : decode cX6_isKnown 6 = .ok (.invokevirtual 164, 3) := by decide +kernel
theorem dX6_isKnown_9 : decode cX6_isKnown 9 = .ok (.istore 6, 2) := by decide +kernel
theorem dX6_isKnown_11 : decode cX6_isKnown 11 = .ok (.iconst 1, 1) := by decide +kernel
theorem dX6_isKnown_12 : decode cX6_isKnown 12 = .ok (.istore 7, 2) := by decide +kernel
theorem dX6_isKnown_14 : decode cX6_isKnown 14 = .ok (.iconst 0, 1) := by decide +kernel
theorem dX6_isKnown_15 : decode cX6_isKnown 15 = .ok (.istore 8, 2) := by decide +kernel
theorem dX6_isKnown_17 : decode cX6_isKnown 17 = .ok (.iload 8, 2) := by decide +kernel
theorem dX6_isKnown_19 : decode cX6_isKnown 19 = .ok (.aload_n 0, 1) := by decide +kernel
theorem dX6_isKnown_20 : decode cX6_isKnown 20 = .ok (.invokevirtual 103, 3) := by decide +kernel
theorem dX6_isKnown_23 : decode cX6_isKnown 23 = .ok (.if_icmp .gt 80, 3) := by decide +kernel
theorem dX6_isKnown_26 : decode cX6_isKnown 26 = .ok (.iload 7, 2) := by decide +kernel
theorem dX6_isKnown_28 : decode cX6_isKnown 28 = .ok (.ifCond .eq 75, 3) := by decide +kernel
theorem dX6_isKnown_31 : decode cX6_isKnown 31 = .ok (.aload_n 0, 1) := by decide +kernel
theorem dX6_isKnown_32 : decode cX6_isKnown 32 = .ok (.iload 8, 2) := by decide +kernel
theorem dX6_isKnown_34 : decode cX6_isKnown 34 = .ok (.invokevirtual 153, 3) := by decide +kernel
theorem dX6_isKnown_37 : decode cX6_isKnown 37 = .ok (.ifCond .eq 31, 3) := by decide +kernel
theorem dX6_isKnown_40 : decode cX6_isKnown 40 = .ok (.iload_n 1, 1) := by decide +kernel
theorem dX6_isKnown_41 : decode cX6_isKnown 41 = .ok (.iload 8, 2) := by decide +kernel
theorem dX6_isKnown_43 : decode cX6_isKnown 43 = .ok (.ixor, 1) := by decide +kernel
theorem dX6_isKnown_44 : decode cX6_isKnown 44 = .ok (.iload_n 2, 1) := by decide +kernel
theorem dX6_isKnown_45 : decode cX6_isKnown 45 = .ok (.iand, 1) := by decide +kernel
theorem dX6_isKnown_46 : decode cX6_isKnown 46 = .ok (.ifCond .ne 22, 3) := by decide +kernel
theorem dX6_isKnown_49 : decode cX6_isKnown 49 = .ok (.aload_n 0, 1) := by decide +kernel
theorem dX6_isKnown_50 : decode cX6_isKnown 50 = .ok (.iload 8, 2) := by decide +kernel
theorem dX6_isKnown_52 : decode cX6_isKnown 52 = .ok (.iload 4, 2) := by decide +kernel
theorem dX6_isKnown_54 : decode cX6_isKnown 54 = .ok (.iload 5, 2) := by decide +kernel
theorem dX6_isKnown_56 : decode cX6_isKnown 56 = .ok (.invokevirtual 164, 3) := by decide +kernel
theorem dX6_isKnown_59 : decode cX6_isKnown 59 = .ok (.iload 6, 2) := by decide +kernel
theorem dX6_isKnown_61 : decode cX6_isKnown 61 = .ok (.if_icmp .ne 7, 3) := by decide +kernel
theorem dX6_isKnown_64 : decode cX6_isKnown 64 = .ok (.iconst 1, 1) := by decide +kernel
theorem dX6_isKnown_65 : decode cX6_isKnown 65 = .ok (.goto 4, 3) := by decide +kernel
theorem dX6_isKnown_68 : decode cX6_isKnown 68 = .ok (.iconst 0, 1) := by decide +kernel
theorem dX6_isKnown_69 : decode cX6_isKnown 69 = .ok (.istore 9, 2) := by decide +kernel
theorem dX6_isKnown_71 : decode cX6_isKnown 71 = .ok (.iload 9, 2) := by decide +kernel
theorem dX6_isKnown_73 : decode cX6_isKnown 73 = .ok (.ifCond .eq 17, 3) := by decide +kernel
theorem dX6_isKnown_76 : decode cX6_isKnown 76 = .ok (.iload 8, 2) := by decide +kernel
theorem dX6_isKnown_78 : decode cX6_isKnown 78 = .ok (.iload_n 3, 1) := by decide +kernel
theorem dX6_isKnown_79 : decode cX6_isKnown 79 = .ok (.invokestatic 150, 3) := by decide +kernel
theorem dX6_isKnown_82 : decode cX6_isKnown 82 = .ok (.iload_n 1, 1) := by decide +kernel
theorem dX6_isKnown_83 : decode cX6_isKnown 83 = .ok (.iload_n 3, 1) := by decide +kernel
theorem dX6_isKnown_84 : decode cX6_isKnown 84 = .ok (.invokestatic 150, 3) := by decide +kernel
theorem dX6_isKnown_87 : decode cX6_isKnown 87 = .ok (.if_icmp .ne 7, 3) := by decide +kernel
theorem dX6_isKnown_90 : decode cX6_isKnown 90 = .ok (.iconst 1, 1) := by decide +kernel
theorem dX6_isKnown_91 : decode cX6_isKnown 91 = .ok (.goto 4, 3) := by decide +kernel
theorem dX6_isKnown_94 : decode cX6_isKnown 94 = .ok (.iconst 0, 1) := by decide +kernel
theorem dX6_isKnown_95 : decode cX6_isKnown 95 = .ok (.istore 7, 2) := by decide +kernel
theorem dX6_isKnown_97 : decode cX6_isKnown 97 = .ok (.iinc 8 1, 3) := by decide +kernel
theorem dX6_isKnown_100 : decode cX6_isKnown 100 = .ok (.goto (-83), 3) := by decide +kernel
theorem dX6_isKnown_103 : decode cX6_isKnown 103 = .ok (.iload 7, 2) := by decide +kernel
theorem dX6_isKnown_105 : decode cX6_isKnown 105 = .ok (.ireturn, 1) := by decide +kernel
set_option maxRecDepth 20000 in
theorem ggX6_secret_X6_isCase : GoodIn wsX6_secret wsX6_isCase := goodIn_r _ [6, 7, 8, 9, 10, 11, 12, 13, 5, 14, 15, 16, 17, 18, 19, 20, 21, 22, 23, 24, 42, 43, 44, 45, 46, 47, 48, 49, 50, 51, 52, 53, 54, 55, 56, 57, 58, 59, 60, 61, 62, 63, 64, 65, 66, 67, 68] (by decide +kernel) (by decide +kernel)
set_option maxRecDepth 20000 in
theorem gX6_secret_X6_isCase : GoodIn wsX6_secret (wsV RX6 153 RX6 yX6_isCase wsX6_isCase) := goodIn_app (goodIn_of _ (by decide +kernel)) ggX6_secret_X6_isCase
set_option maxRecDepth 20000 in
theorem ggX6_secret_X6_noThing : GoodIn wsX6_secret wsX6_noThing := goodIn_r _ [28, 7, 19, 20, 5, 21, 42, 43, 44, 45, 46, 47, 48, 49, 50, 51, 52, 53, 54, 55, 56, 57, 58, 59, 60, 61, 62, 63, 64, 65, 66, 67, 68] (by decide +kernel) (by decide +kernel)
set_option maxRecDepth 20000 in
theorem gX6_secret_X6_noThing : GoodIn wsX6_secret (wsV RX6 144 RX6 yX6_noThing wsX6_noThing) := goodIn_app (goodIn_of _ (by decide +kernel)) ggX6_secret_X6_noThing
set_option maxRecDepth 20000 in
theorem ggX6_secret_X6_noHour : GoodIn wsX6_secret wsX6_noHour := goodIn_r _ [31, 32, 19, 20, 5, 21] (by decide +kernel) (by decide +kernel)
set_option maxRecDepth 20000 in
theorem gX6_secret_X6_noHour : GoodIn wsX6_secret (va_wsS RX6 159 yX6_noHour wsX6_noHour) := goodIn_app (goodIn_of _ (by decide +kernel)) ggX6_secret_X6_noHour
set_option maxRecDepth 20000 in
theorem ggX6_secret_X6_isOfThings : GoodIn wsX6_secret wsX6_isOfThings := goodIn_r _ [14, 15, 16, 17, 5, 18, 7, 19, 20, 21, 42, 43, 44, 45, 46, 47, 48, 49, 50, 51, 52, 53, 54, 55, 56, 57, 58, 59, 60, 61, 62, 63, 64, 65, 66, 67, 68] (by decide +kernel) (by decide +kernel)
set_option maxRecDepth 20000 in
theorem gX6_secret_X6_isOfThings : GoodIn wsX6_secret (wsV RX6 147 RX6 yX6_isOfThings wsX6_isOfThings) := goodIn_app (goodIn_of _ (by decide +kernel)) ggX6_secret_X6_isOfThings
set_option maxRecDepth 20000 in
theorem ggX6_secret_X6_all : GoodIn wsX6_secret wsX6_all := goodIn_r _ [18, 7, 42, 43, 44, 45, 46, 47, 48, 49, 50, 51, 52, 53, 54, 55, 56, 57, 58, 59, 60, 61, 62, 63, 64, 65, 66, 67, 68] (by decide +kernel) (by decide +kernel)
set_option maxRecDepth 20000 in
theorem gX6_secret_X6_all : GoodIn wsX6_secret (wsV RX6 103 RX6 yX6_all wsX6_all) := goodIn_app (goodIn_of _ (by decide +kernel)) ggX6_secret_X6_all
set_option maxRecDepth 20000 in
theorem ggX6_secret_X6_isKnown : GoodIn wsX6_secret wsX6_isKnown := goodIn_r _ [36, 37, 38, 39, 5, 40, 7, 41, 22, 23, 24, 15, 16, 17, 18, 2, 3, 4, 6, 8, 9, 10, 11, 12, 13, 14, 19, 20, 21, 42, 43, 44, 45, 46, 47, 48, 49, 50, 51, 52, 53, 54, 55, 56, 57, 58, 59, 60, 61, 62, 63, 64, 65, 66, 67, 68] (by decide +kernel) (by decide +kernel)
set_option maxRecDepth 20000 in
theorem gX6_secret_X6_isKnown : GoodIn wsX6_secret (wsV RX6 190 RX6 yX6_isKnown wsX6_isKnown) := goodIn_app (goodIn_of _ (by decide +kernel)) ggX6_secret_X6_isKnown
theorem dX6_secret_0 : decode cX6_secret 0 = .ok (.aload_n 0, 1) := by decide +kernel
theorem dX6_secret_1 : decode cX6_secret 1 = .ok (.iload_n 1, 1) := by decide +kernel
theorem dX6_secret_2 : decode cX6_secret 2 = .ok (.invokevirtual 153, 3) := by decide +kernel
theorem dX6_secret_5 : decode cX6_secret 5 = .ok (.ifCond .eq 19, 3) := by decide +kernel
theorem dX6_secret_8 : decode cX6_secret 8 = .ok (.aload_n 0, 1) := by decide +kernel
theorem dX6_secret_9 : decode cX6_secret 9 = .ok (.iload_n 3, 1) := by decide +kernel
theorem dX6_secret_10 : decode cX6_secret 10 = .ok (.invokevirtual 144, 3) := by decide +kernel
theorem dX6_secret_13 : decode cX6_secret 13 = .ok (.ifCond .ne 11, 3) := by decide +kernel
theorem dX6_secret_16 : decode cX6_secret 16 = .ok (.iload 4, 2) := by decide +kernel
theorem dX6_secret_18 : decode cX6_secret 18 = .ok (.invokestatic 159, 3) := by decide +kernel
theorem dX6_secret_21 : decode cX6_secret 21 = .ok (.ifCond .eq 5, 3) := by decide +kernel
theorem dX6_secret_24 : decode cX6_secret 24 = .ok (.iconst (-1), 1) := by decide +kernel
theorem dX6_secret_25 : decode cX6_secret 25 = .ok (.ireturn, 1) := by decide +kernel
theorem dX6_secret_26 : decode cX6_secret 26 = .ok (.aload_n 0, 1) := by decide +kernel
theorem dX6_secret_27 : decode cX6_secret 27 = .ok (.iload_n 2, 1) := by decide +kernel
theorem dX6_secret_28 : decode cX6_secret 28 = .ok (.invokevirtual 147, 3) := by decide +kernel
theorem dX6_secret_31 : decode cX6_secret 31 = .ok (.ifCond .ne 6, 3) := by decide +kernel
theorem dX6_secret_34 : decode cX6_secret 34 = .ok (.bipush (-2), 2) := by decide +kernel
theorem dX6_secret_36 : decode cX6_secret 36 = .ok (.ireturn, 1) := by decide +kernel
theorem dX6_secret_37 : decode cX6_secret 37 = .ok (.aload_n 0, 1) := by decide +kernel
theorem dX6_secret_38 : decode cX6_secret 38 = .ok (.getfield 25, 3) := by decide +kernel
theorem dX6_secret_41 : decode cX6_secret 41 = .ok (.iload 4, 2) := by decide +kernel
theorem dX6_secret_43 : decode cX6_secret 43 = .ok (.iaload, 1) := by decide +kernel
theorem dX6_secret_44 : decode cX6_secret 44 = .ok (.istore 5, 2) := by decide +kernel
theorem dX6_secret_46 : decode cX6_secret 46 = .ok (.iconst 0, 1) := by decide +kernel
theorem dX6_secret_47 : decode cX6_secret 47 = .ok (.istore 6, 2) := by decide +kernel
theorem dX6_secret_49 : decode cX6_secret 49 = .ok (.iload 6, 2) := by decide +kernel
theorem dX6_secret_51 : decode cX6_secret 51 = .ok (.aload_n 0, 1) := by decide +kernel
theorem dX6_secret_52 : decode cX6_secret 52 = .ok (.invokevirtual 103, 3) := by decide +kernel
theorem dX6_secret_55 : decode cX6_secret 55 = .ok (.if_icmp .gt 40, 3) := by decide +kernel
theorem dX6_secret_58 : decode cX6_secret 58 = .ok (.aload_n 0, 1) := by decide +kernel
theorem dX6_secret_59 : decode cX6_secret 59 = .ok (.iload_n 1, 1) := by decide +kernel
theorem dX6_secret_60 : decode cX6_secret 60 = .ok (.iload_n 2, 1) := by decide +kernel
theorem dX6_secret_61 : decode cX6_secret 61 = .ok (.iload_n 3, 1) := by decide +kernel
theorem dX6_secret_62 : decode cX6_secret 62 = .ok (.iload 6, 2) := by decide +kernel
theorem dX6_secret_64 : decode cX6_secret 64 = .ok (.iload 5, 2) := by decide +kernel
theorem dX6_secret_66 : decode cX6_secret 66 = .ok (.invokevirtual 190, 3) := by decide +kernel
theorem dX6_secret_69 : decode cX6_secret 69 = .ok (.ifCond .eq 20, 3) := by decide +kernel
theorem dX6_secret_72 : decode cX6_secret 72 = .ok (.aload_n 0, 1) := by decide +kernel
theorem dX6_secret_73 : decode cX6_secret 73 = .ok (.iload_n 1, 1) := by decide +kernel
theorem dX6_secret_74 : decode cX6_secret 74 = .ok (.iconst 0, 1) := by decide +kernel
theorem dX6_secret_75 : decode cX6_secret 75 = .ok (.iload_n 3, 1) := by decide +kernel
theorem dX6_secret_76 : decode cX6_secret 76 = .ok (.iload 6, 2) := by decide +kernel
theorem dX6_secret_78 : decode cX6_secret 78 = .ok (.iload 5, 2) := by decide +kernel
theorem dX6_secret_80 : decode cX6_secret 80 = .ok (.invokevirtual 190, 3) := by decide +kernel
theorem dX6_secret_83 : decode cX6_secret 83 = .ok (.ifCond .ne 6, 3) := by decide +kernel
theorem dX6_secret_86 : decode cX6_secret 86 = .ok (.iload 6, 2) := by decide +kernel
theorem dX6_secret_88 : decode cX6_secret 88 = .ok (.ireturn, 1) := by decide +kernel
theorem dX6_secret_89 : decode cX6_secret 89 = .ok (.iinc 6 1, 3) := by decide +kernel
theorem dX6_secret_92 : decode cX6_secret 92 = .ok (.goto (-43), 3) := by decide +kernel
theorem dX6_secret_95 : decode cX6_secret 95 = .ok (.bipush (-9), 2) := by decide +kernel
theorem dX6_secret_97 : decode cX6_secret 97 = .ok (.ireturn, 1) := by decide +kernel
set_option maxRecDepth 20000 in
theorem ggX6_isAlwaysKnown_X6_all : GoodIn wsX6_isAlwaysKnown wsX6_all := goodIn_r _ [5, 6, 33, 34, 35, 36, 37, 38, 39, 40, 41, 42, 43, 44, 45, 46, 47, 48, 49, 50, 51, 52, 53, 54, 55, 56, 57, 58, 59] (by decide +kernel) (by decide +kernel)
set_option maxRecDepth 20000 in
theorem gX6_isAlwaysKnown_X6_all : GoodIn wsX6_isAlwaysKnown (wsV RX6 103 RX6 yX6_all wsX6_all) := goodIn_app (goodIn_of _ (by decide +kernel)) ggX6_isAlwaysKnown_X6_all
set_option maxRecDepth 20000 in
theorem ggX6_isAlwaysKnown_X6_isCase : GoodIn wsX6_isAlwaysKnown wsX6_isCase := goodIn_r _ [10, 6, 11, 12, 13, 14, 15, 16, 4, 17, 1, 2, 3, 5, 18, 19, 20, 21, 22, 23, 33, 34, 35, 36, 37, 38, 39, 40, 41, 42, 43, 44, 45, 46, 47, 48, 49, 50, 51, 52, 53, 54, 55, 56, 57, 58, 59] (by decide +kernel) (by decide +kernel)
set_option maxRecDepth 20000 in
theorem gX6_isAlwaysKnown_X6_isCase : GoodIn wsX6_isAlwaysKnown (wsV RX6 153 RX6 yX6_isCase wsX6_isCase) := goodIn_app (goodIn_of _ (by decide +kernel)) ggX6_isAlwaysKnown_X6_isCase
set_option maxRecDepth 20000 in
theorem ggX6_isAlwaysKnown_X6_isKnown : GoodIn wsX6_isAlwaysKnown wsX6_isKnown := goodIn_r _ [27, 28, 29, 30, 4, 31, 6, 32, 21, 22, 23, 1, 2, 3, 5, 7, 8, 9, 10, 11, 12, 13, 14, 15, 16, 17, 18, 19, 20, 33, 34, 35, 36, 37, 38, 39, 40, 41, 42, 43, 44, 45, 46, 47, 48, 49, 50, 51, 52, 53, 54, 55, 56, 57, 58, 59] (by decide +kernel) (by decide +kernel)
set_option maxRecDepth 20000 in
theorem gX6_isAlwaysKnown_X6_isKnown : GoodIn wsX6_isAlwaysKnown (wsV RX6 190 RX6 yX6_isKnown wsX6_isKnown) := goodIn_app (goodIn_of _ (by decide +kernel)) ggX6_isAlwaysKnown_X6_isKnown
theorem dX6_isAlwaysKnown_0 : decode cX6_isAlwaysKnown 0 = .ok (.iconst 1, 1) := by decide +kernel
theorem dX6_isAlwaysKnown_1 : decode cX6_isAlwaysKnown 1 = .ok (.istore 4, 2) := by decide +kernel
theorem dX6_isAlwaysKnown_3 : decode cX6_isAlwaysKnown 3 = .ok (.iconst 0, 1) := by decide +kernel
theorem dX6_isAlwaysKnown_4 : decode cX6_isAlwaysKnown 4 = .ok (.istore 5, 2) := by decide +kernel
theorem dX6_isAlwaysKnown_6 : decode cX6_isAlwaysKnown 6 = .ok (.iload 5, 2) := by decide +kernel
theorem dX6_isAlwaysKnown_8 : decode cX6_isAlwaysKnown 8 = .ok (.aload_n 0, 1) := by decide +kernel
theorem dX6_isAlwaysKnown_9 : decode cX6_isAlwaysKnown 9 = .ok (.invokevirtual 103, 3) := by decide +kernel
theorem dX6_isAlwaysKnown_12 : decode cX6_isAlwaysKnown 12 = .ok (.if_icmp .gt 43, 3) := by decide +kernel
theorem dX6_isAlwaysKnown_15 : decode cX6_isAlwaysKnown 15 = .ok (.iload 4, 2) := by decide +kernel
theorem dX6_isAlwaysKnown_17 : decode cX6_isAlwaysKnown 17 = .ok (.ifCond .eq 38, 3) := by decide +kernel
theorem dX6_isAlwaysKnown_20 : decode cX6_isAlwaysKnown 20 = .ok (.aload_n 0, 1) := by decide +kernel
theorem dX6_isAlwaysKnown_21 : decode cX6_isAlwaysKnown 21 = .ok (.iload 5, 2) := by decide +kernel
theorem dX6_isAlwaysKnown_23 : decode cX6_isAlwaysKnown 23 = .ok (.invokevirtual 153, 3) := by decide +kernel
theorem dX6_isAlwaysKnown_26 : decode cX6_isAlwaysKnown 26 = .ok (.ifCond .eq 16, 3) := by decide +kernel
theorem dX6_isAlwaysKnown_29 : decode cX6_isAlwaysKnown 29 = .ok (.aload_n 0, 1) := by decide +kernel
theorem dX6_isAlwaysKnown_30 : decode cX6_isAlwaysKnown 30 = .ok (.iload 5, 2) := by decide +kernel
theorem dX6_isAlwaysKnown_32 : decode cX6_isAlwaysKnown 32 = .ok (.iconst 0, 1) := by decide +kernel
theorem dX6_isAlwaysKnown_33 : decode cX6_isAlwaysKnown 33 = .ok (.iload_n 1, 1) := by decide +kernel
theorem dX6_isAlwaysKnown_34 : decode cX6_isAlwaysKnown 34 = .ok (.iload_n 2, 1) := by decide +kernel
theorem dX6_isAlwaysKnown_35 : decode cX6_isAlwaysKnown 35 = .ok (.iload_n 3, 1) := by decide +kernel
theorem dX6_isAlwaysKnown_36 : decode cX6_isAlwaysKnown 36 = .ok (.invokevirtual 190, 3) := by decide +kernel
theorem dX6_isAlwaysKnown_39 : decode cX6_isAlwaysKnown 39 = .ok (.ifCond .eq 7, 3) := by decide +kernel
theorem dX6_isAlwaysKnown_42 : decode cX6_isAlwaysKnown 42 = .ok (.iconst 1, 1) := by decide +kernel
theorem dX6_isAlwaysKnown_43 : decode cX6_isAlwaysKnown 43 = .ok (.goto 4, 3) := by decide +kernel
theorem dX6_isAlwaysKnown_46 : decode cX6_isAlwaysKnown 46 = .ok (.iconst 0, 1) := by decide +kernel
theorem dX6_isAlwaysKnown_47 : decode cX6_isAlwaysKnown 47 = .ok (.istore 4, 2) := by decide +kernel
theorem dX6_isAlwaysKnown_49 : decode cX6_isAlwaysKnown 49 = .ok (.iinc 5 1, 3) := by decide +kernel
theorem dX6_isAlwaysKnown_52 : decode cX6_isAlwaysKnown 52 = .ok (.goto (-46), 3) := by decide +kernel
theorem dX6_isAlwaysKnown_55 : decode cX6_isAlwaysKnown 55 = .ok (.iload 4, 2) := by decide +kernel
theorem dX6_isAlwaysKnown_57 : decode cX6_isAlwaysKnown 57 = .ok (.ireturn, 1) := by decide +kernel
set_option maxRecDepth 20000 in
theorem ggX6_shortest_X6_noThing : GoodIn wsX6_shortest wsX6_noThing := goodIn_r _ [6, 7, 8, 9, 5, 10, 49, 50, 51, 52, 53, 54, 55, 56, 57, 58, 59, 60, 61, 62, 63, 64, 65, 66, 67, 68, 69, 70, 71, 72, 73, 74, 75] (by decide +kernel) (by decide +kernel)
set_option maxRecDepth 20000 in
theorem gX6_shortest_X6_noThing : GoodIn wsX6_shortest (wsV RX6 144 RX6 yX6_noThing wsX6_noThing) := goodIn_app (goodIn_of _ (by decide +kernel)) ggX6_shortest_X6_noThing
set_option maxRecDepth 20000 in
theorem ggX6_shortest_X6_noHour : GoodIn wsX6_shortest wsX6_noHour := goodIn_r _ [13, 14, 8, 9, 5, 10] (by decide +kernel) (by decide +kernel)
set_option maxRecDepth 20000 in
theorem gX6_shortest_X6_noHour : GoodIn wsX6_shortest (va_wsS RX6 159 yX6_noHour wsX6_noHour) := goodIn_app (goodIn_of _ (by decide +kernel)) ggX6_shortest_X6_noHour
set_option maxRecDepth 20000 in
theorem ggX6_shortest_X6_all : GoodIn wsX6_shortest wsX6_all := goodIn_r _ [18, 7, 49, 50, 51, 52, 53, 54, 55, 56, 57, 58, 59, 60, 61, 62, 63, 64, 65, 66, 67, 68, 69, 70, 71, 72, 73, 74, 75] (by decide +kernel) (by decide +kernel)
set_option maxRecDepth 20000 in
theorem gX6_shortest_X6_all : GoodIn wsX6_shortest (wsV RX6 103 RX6 yX6_all wsX6_all) := goodIn_app (goodIn_of _ (by decide +kernel)) ggX6_shortest_X6_all
set_option maxRecDepth 20000 in
theorem ggX6_shortest_X6_bits : GoodIn wsX6_shortest wsX6_bits := goodIn_r _ [21] (by decide +kernel) (by decide +kernel)
set_option maxRecDepth 20000 in
theorem gX6_shortest_X6_bits : GoodIn wsX6_shortest (va_wsS RX6 194 yX6_bits wsX6_bits) := goodIn_app (goodIn_of _ (by decide +kernel)) ggX6_shortest_X6_bits
set_option maxRecDepth 20000 in
theorem ggX6_shortest_X6_isAlwaysKnown : GoodIn wsX6_shortest wsX6_isAlwaysKnown := goodIn_r _ [25, 15, 16, 17, 5, 18, 7, 26, 27, 28, 29, 30, 31, 32, 33, 34, 35, 36, 8, 9, 10, 37, 38, 39, 40, 41, 42, 43, 44, 45, 46, 47, 48, 49, 50, 51, 52, 53, 54, 55, 56, 57, 58, 59, 60, 61, 62, 63, 64, 65, 66, 67, 68, 69, 70, 71, 72, 73, 74, 75] (by decide +kernel) (by decide +kernel)
set_option maxRecDepth 20000 in
theorem gX6_shortest_X6_isAlwaysKnown : GoodIn wsX6_shortest (wsV RX6 197 RX6 yX6_isAlwaysKnown wsX6_isAlwaysKnown) := goodIn_app (goodIn_of _ (by decide +kernel)) ggX6_shortest_X6_isAlwaysKnown
theorem dX6_shortest_0 : decode cX6_shortest 0 = .ok (.aload_n 0, 1) := by decide +kernel
theorem dX6_shortest_1 : decode cX6_shortest 1 = .ok (.iload_n 1, 1) := by decide +kernel
theorem dX6_shortest_2 : decode cX6_shortest 2 = .ok (.invokevirtual 144, 3) := by decide +kernel
theorem dX6_shortest_5 : decode cX6_shortest 5 = .ok (.ifCond .ne 10, 3) := by decide +kernel
theorem dX6_shortest_8 : decode cX6_shortest 8 = .ok (.iload_n 2, 1) := by decide +kernel
theorem dX6_shortest_9 : decode cX6_shortest 9 = .ok (.invokestatic 159, 3) := by decide +kernel
theorem dX6_shortest_12 : decode cX6_shortest 12 = .ok (.ifCond .eq 5, 3) := by decide +kernel
theorem dX6_shortest_15 : decode cX6_shortest 15 = .ok (.iconst (-1), 1) := by decide +kernel
theorem dX6_shortest_16 : decode cX6_shortest 16 = .ok (.ireturn, 1) := by decide +kernel
theorem dX6_shortest_17 : decode cX6_shortest 17 = .ok (.bipush (-9), 2) := by decide +kernel
theorem dX6_shortest_19 : decode cX6_shortest 19 = .ok (.istore_n 3, 1) := by decide +kernel
theorem dX6_shortest_20 : decode cX6_shortest 20 = .ok (.iconst 0, 1) := by decide +kernel
theorem dX6_shortest_21 : decode cX6_shortest 21 = .ok (.istore 4, 2) := by decide +kernel
theorem dX6_shortest_23 : decode cX6_shortest 23 = .ok (.iload 4, 2) := by decide +kernel
theorem dX6_shortest_25 : decode cX6_shortest 25 = .ok (.aload_n 0, 1) := by decide +kernel
theorem dX6_shortest_26 : decode cX6_shortest 26 = .ok (.invokevirtual 103, 3) := by decide +kernel
theorem dX6_shortest_29 : decode cX6_shortest 29 = .ok (.if_icmp .gt 60, 3) := by decide +kernel
theorem dX6_shortest_32 : decode cX6_shortest 32 = .ok (.iload_n 3, 1) := by decide +kernel
theorem dX6_shortest_33 : decode cX6_shortest 33 = .ok (.ifCond .lt 15, 3) := by decide +kernel
theorem dX6_shortest_36 : decode cX6_shortest 36 = .ok (.iload 4, 2) := by decide +kernel
theorem dX6_shortest_38 : decode cX6_shortest 38 = .ok (.invokestatic 194, 3) := by decide +kernel
theorem dX6_shortest_41 : decode cX6_shortest 41 = .ok (.iload_n 3, 1) := by decide +kernel
theorem dX6_shortest_42 : decode cX6_shortest 42 = .ok (.invokestatic 194, 3) := by decide +kernel
theorem dX6_shortest_45 : decode cX6_shortest 45 = .ok (.if_icmp .ge 7, 3) := by decide +kernel
theorem dX6_shortest_48 : decode cX6_shortest 48 = .ok (.iconst 1, 1) := by decide +kernel
theorem dX6_shortest_49 : decode cX6_shortest 49 = .ok (.goto 4, 3) := by decide +kernel
theorem dX6_shortest_52 : decode cX6_shortest 52 = .ok (.iconst 0, 1) := by decide +kernel
theorem dX6_shortest_53 : decode cX6_shortest 53 = .ok (.istore 5, 2) := by decide +kernel
theorem dX6_shortest_55 : decode cX6_shortest 55 = .ok (.iload 5, 2) := by decide +kernel
theorem dX6_shortest_57 : decode cX6_shortest 57 = .ok (.ifCond .eq 24, 3) := by decide +kernel
theorem dX6_shortest_60 : decode cX6_shortest 60 = .ok (.aload_n 0, 1) := by decide +kernel
theorem dX6_shortest_61 : decode cX6_shortest 61 = .ok (.iload_n 1, 1) := by decide +kernel
theorem dX6_shortest_62 : decode cX6_shortest 62 = .ok (.iload 4, 2) := by decide +kernel
theorem dX6_shortest_64 : decode cX6_shortest 64 = .ok (.aload_n 0, 1) := by decide +kernel
theorem dX6_shortest_65 : decode cX6_shortest 65 = .ok (.getfield 25, 3) := by decide +kernel
theorem dX6_shortest_68 : decode cX6_shortest 68 = .ok (.iload_n 2, 1) := by decide +kernel
theorem dX6_shortest_69 : decode cX6_shortest 69 = .ok (.iaload, 1) := by decide +kernel
theorem dX6_shortest_70 : decode cX6_shortest 70 = .ok (.invokevirtual 197, 3) := by decide +kernel
theorem dX6_shortest_73 : decode cX6_shortest 73 = .ok (.ifCond .eq 8, 3) := by decide +kernel
theorem dX6_shortest_76 : decode cX6_shortest 76 = .ok (.iload 4, 2) := by decide +kernel
theorem dX6_shortest_78 : decode cX6_shortest 78 = .ok (.goto 4, 3) := by decide +kernel
theorem dX6_shortest_81 : decode cX6_shortest 81 = .ok (.iload_n 3, 1) := by decide +kernel
theorem dX6_shortest_82 : decode cX6_shortest 82 = .ok (.istore_n 3, 1) := by decide +kernel
theorem dX6_shortest_83 : decode cX6_shortest 83 = .ok (.iinc 4 1, 3) := by decide +kernel
theorem dX6_shortest_86 : decode cX6_shortest 86 = .ok (.goto (-63), 3) := by decide +kernel
theorem dX6_shortest_89 : decode cX6_shortest 89 = .ok (.iload_n 3, 1) := by decide +kernel
theorem dX6_shortest_90 : decode cX6_shortest 90 = .ok (.ireturn, 1) := by decide +kernel
set_option maxRecDepth 20000 in
theorem ggX6_two_X6_noHour : GoodIn wsX6_two wsX6_noHour := goodIn_r _ [6, 7, 8, 9, 5, 10] (by decide +kernel) (by decide +kernel)
set_option maxRecDepth 20000 in
theorem gX6_two_X6_noHour : GoodIn wsX6_two (va_wsS RX6 159 yX6_noHour wsX6_noHour) := goodIn_app (goodIn_of _ (by decide +kernel)) ggX6_two_X6_noHour
set_option maxRecDepth 20000 in
theorem ggX6_two_X6_isOfThings : GoodIn wsX6_two wsX6_isOfThings := goodIn_r _ [14, 15, 16, 17, 5, 18, 1, 8, 9, 10, 34, 35, 36, 37, 38, 39, 40, 41, 42, 43, 44, 45, 46, 47, 48, 49, 50, 51, 52, 53, 54, 55, 56, 57, 58, 59, 60] (by decide +kernel) (by decide +kernel)
set_option maxRecDepth 20000 in
theorem gX6_two_X6_isOfThings : GoodIn wsX6_two (wsV RX6 147 RX6 yX6_isOfThings wsX6_isOfThings) := goodIn_app (goodIn_of _ (by decide +kernel)) ggX6_two_X6_isOfThings
set_option maxRecDepth 20000 in
theorem ggX6_two_X6_all : GoodIn wsX6_two wsX6_all := goodIn_r _ [18, 1, 34, 35, 36, 37, 38, 39, 40, 41, 42, 43, 44, 45, 46, 47, 48, 49, 50, 51, 52, 53, 54, 55, 56, 57, 58, 59, 60] (by decide +kernel) (by decide +kernel)
set_option maxRecDepth 20000 in
theorem gX6_two_X6_all : GoodIn wsX6_two (wsV RX6 103 RX6 yX6_all wsX6_all) := goodIn_app (goodIn_of _ (by decide +kernel)) ggX6_two_X6_all
set_option maxRecDepth 20000 in
theorem ggX6_two_X6_isCase : GoodIn wsX6_two wsX6_isCase := goodIn_r _ [22, 1, 23, 24, 25, 11, 12, 13, 5, 14, 15, 16, 17, 18, 8, 9, 10, 26, 27, 28, 34, 35, 36, 37, 38, 39, 40, 41, 42, 43, 44, 45, 46, 47, 48, 49, 50, 51, 52, 53, 54, 55, 56, 57, 58, 59, 60] (by decide +kernel) (by decide +kernel)
set_option maxRecDepth 20000 in
theorem gX6_two_X6_isCase : GoodIn wsX6_two (wsV RX6 153 RX6 yX6_isCase wsX6_isCase) := goodIn_app (goodIn_of _ (by decide +kernel)) ggX6_two_X6_isCase
set_option maxRecDepth 20000 in
theorem ggX6_two_X6_namedBy : GoodIn wsX6_two wsX6_namedBy := goodIn_r _ [32, 1, 33, 26, 27, 5, 28, 34, 35, 36, 37, 38, 39, 40, 41, 42, 43, 44, 45, 46, 47, 48, 49, 50, 51, 52, 53, 54, 55, 56, 57, 58, 59, 60] (by decide +kernel) (by decide +kernel)
set_option maxRecDepth 20000 in
theorem gX6_two_X6_namedBy : GoodIn wsX6_two (wsV RX6 164 RX6 yX6_namedBy wsX6_namedBy) := goodIn_app (goodIn_of _ (by decide +kernel)) ggX6_two_X6_namedBy
theorem dX6_two_0 : decode cX6_two 0 = .ok (.iload_n 3, 1) := by decide +kernel
theorem dX6_two_1 : decode cX6_two 1 = .ok (.invokestatic 159, 3) := by decide +kernel
theorem dX6_two_4 : decode cX6_two 4 = .ok (.ifCond .eq 5, 3) := by decide +kernel
theorem dX6_two_7 : decode cX6_two 7 = .ok (.iconst (-1), 1) := by decide +kernel
theorem dX6_two_8 : decode cX6_two 8 = .ok (.ireturn, 1) := by decide +kernel
theorem dX6_two_9 : decode cX6_two 9 = .ok (.aload_n 0, 1) := by decide +kernel
theorem dX6_two_10 : decode cX6_two 10 = .ok (.iload_n 1, 1) := by decide +kernel
theorem dX6_two_11 : decode cX6_two 11 = .ok (.invokevirtual 147, 3) := by decide +kernel
theorem dX6_two_14 : decode cX6_two 14 = .ok (.ifCond .eq 11, 3) := by decide +kernel
theorem dX6_two_17 : decode cX6_two 17 = .ok (.aload_n 0, 1) := by decide +kernel
theorem dX6_two_18 : decode cX6_two 18 = .ok (.iload_n 2, 1) := by decide +kernel
theorem dX6_two_19 : decode cX6_two 19 = .ok (.invokevirtual 147, 3) := by decide +kernel
theorem dX6_two_22 : decode cX6_two 22 = .ok (.ifCond .ne 6, 3) := by decide +kernel
theorem dX6_two_25 : decode cX6_two 25 = .ok (.bipush (-2), 2) := by decide +kernel
theorem dX6_two_27 : decode cX6_two 27 = .ok (.ireturn, 1) := by decide +kernel
theorem dX6_two_28 : decode cX6_two 28 = .ok (.aload_n 0, 1) := by decide +kernel
theorem dX6_two_29 : decode cX6_two 29 = .ok (.getfield 98, 3) := by decide +kernel
theorem dX6_two_32 : decode cX6_two 32 = .ok (.ifCond .ne 6, 3) := by decide +kernel
theorem dX6_two_35 : decode cX6_two 35 = .ok (.bipush (-3), 2) := by decide +kernel
theorem dX6_two_37 : decode cX6_two 37 = .ok (.ireturn, 1) := by decide +kernel
theorem dX6_two_38 : decode cX6_two 38 = .ok (.aload_n 0, 1) := by decide +kernel
theorem dX6_two_39 : decode cX6_two 39 = .ok (.getfield 25, 3) := by decide +kernel
theorem dX6_two_42 : decode cX6_two 42 = .ok (.iload_n 3, 1) := by decide +kernel
theorem dX6_two_43 : decode cX6_two 43 = .ok (.iaload, 1) := by decide +kernel
theorem dX6_two_44 : decode cX6_two 44 = .ok (.istore 4, 2) := by decide +kernel
theorem dX6_two_46 : decode cX6_two 46 = .ok (.iconst 0, 1) := by decide +kernel
theorem dX6_two_47 : decode cX6_two 47 = .ok (.istore 5, 2) := by decide +kernel
theorem dX6_two_49 : decode cX6_two 49 = .ok (.iconst 0, 1) := by decide +kernel
theorem dX6_two_50 : decode cX6_two 50 = .ok (.istore 6, 2) := by decide +kernel
theorem dX6_two_52 : decode cX6_two 52 = .ok (.iload 6, 2) := by decide +kernel
theorem dX6_two_54 : decode cX6_two 54 = .ok (.aload_n 0, 1) := by decide +kernel
theorem dX6_two_55 : decode cX6_two 55 = .ok (.invokevirtual 103, 3) := by decide +kernel
theorem dX6_two_58 : decode cX6_two 58 = .ok (.if_icmp .gt 111, 3) := by decide +kernel
theorem dX6_two_61 : decode cX6_two 61 = .ok (.aload_n 0, 1) := by decide +kernel
theorem dX6_two_62 : decode cX6_two 62 = .ok (.iload 6, 2) := by decide +kernel
theorem dX6_two_64 : decode cX6_two 64 = .ok (.invokevirtual 153, 3) := by decide +kernel
theorem dX6_two_67 : decode cX6_two 67 = .ok (.istore 7, 2) := by decide +kernel
theorem dX6_two_69 : decode cX6_two 69 = .ok (.iconst 0, 1) := by decide +kernel
theorem dX6_two_70 : decode cX6_two 70 = .ok (.istore 8, 2) := by decide +kernel
theorem dX6_two_72 : decode cX6_two 72 = .ok (.iload 8, 2) := by decide +kernel
theorem dX6_two_74 : decode cX6_two 74 = .ok (.iload 6, 2) := by decide +kernel
theorem dX6_two_76 : decode cX6_two 76 = .ok (.if_icmp .ge 72, 3) := by decide +kernel
theorem dX6_two_79 : decode cX6_two 79 = .ok (.iload 7, 2) := by decide +kernel
theorem dX6_two_81 : decode cX6_two 81 = .ok (.ifCond .eq 67, 3) := by decide +kernel
theorem dX6_two_84 : decode cX6_two 84 = .ok (.aload_n 0, 1) := by decide +kernel
theorem dX6_two_85 : decode cX6_two 85 = .ok (.iload 8, 2) := by decide +kernel
theorem dX6_two_87 : decode cX6_two 87 = .ok (.invokevirtual 153, 3) := by decide +kernel
theorem dX6_two_90 : decode cX6_two 90 = .ok (.ifCond .eq 45, 3) := by decide +kernel
theorem dX6_two_93 : decode cX6_two 93 = .ok (.aload_n 0, 1) := by decide +kernel
theorem dX6_two_94 : decode cX6_two 94 = .ok (.iload 6, 2) := by decide +kernel
theorem dX6_two_96 : decode cX6_two 96 = .ok (.iload_n 1, 1) := by decide +kernel
theorem dX6_two_97 : decode cX6_two 97 = .ok (.iload 4, 2) := by decide +kernel
theorem dX6_two_99 : decode cX6_two 99 = .ok (.invokevirtual 164, 3) := by decide +kernel
theorem dX6_two_102 : decode cX6_two 102 = .ok (.aload_n 0, 1) := by decide +kernel
theorem dX6_two_103 : decode cX6_two 103 = .ok (.iload 8, 2) := by decide +kernel
theorem dX6_two_105 : decode cX6_two 105 = .ok (.iload_n 1, 1) := by decide +kernel
theorem dX6_two_106 : decode cX6_two 106 = .ok (.iload 4, 2) := by decide +kernel
theorem dX6_two_108 : decode cX6_two 108 = .ok (.invokevirtual 164, 3) := by decide +kernel
theorem dX6_two_111 : decode cX6_two 111 = .ok (.if_icmp .ne 24, 3) := by decide +kernel
theorem dX6_two_114 : decode cX6_two 114 = .ok (.aload_n 0, 1) := by decide +kernel
theorem dX6_two_115 : decode cX6_two 115 = .ok (.iload 6, 2) := by decide +kernel
theorem dX6_two_117 : decode cX6_two 117 = .ok (.iload_n 2, 1) := by decide +kernel
theorem dX6_two_118 : decode cX6_two 118 = .ok (.iload 4, 2) := by decide +kernel
theorem dX6_two_120 : decode cX6_two 120 = .ok (.invokevirtual 164, 3) := by decide +kernel
theorem dX6_two_123 : decode cX6_two 123 = .ok (.aload_n 0, 1) := by decide +kernel
theorem dX6_two_124 : decode cX6_two 124 = .ok (.iload 8, 2) := by decide +kernel
theorem dX6_two_126 : decode cX6_two 126 = .ok (.iload_n 2, 1) := by decide +kernel
theorem dX6_two_127 : decode cX6_two 127 = .ok (.iload 4, 2) := by decide +kernel
theorem dX6_two_129 : decode cX6_two 129 = .ok (.invokevirtual 164, 3) := by decide +kernel
theorem dX6_two_132 : decode cX6_two 132 = .ok (.if_icmp .eq 7, 3) := by decide +kernel
theorem dX6_two_135 : decode cX6_two 135 = .ok (.iconst 1, 1) := by decide +kernel
theorem dX6_two_136 : decode cX6_two 136 = .ok (.goto 4, 3) := by decide +kernel
theorem dX6_two_139 : decode cX6_two 139 = .ok (.iconst 0, 1) := by decide +kernel
theorem dX6_two_140 : decode cX6_two 140 = .ok (.istore 7, 2) := by decide +kernel
theorem dX6_two_142 : decode cX6_two 142 = .ok (.iinc 8 1, 3) := by decide +kernel
theorem dX6_two_145 : decode cX6_two 145 = .ok (.goto (-73), 3) := by decide +kernel
theorem dX6_two_148 : decode cX6_two 148 = .ok (.iload 5, 2) := by decide +kernel
theorem dX6_two_150 : decode cX6_two 150 = .ok (.iload 7, 2) := by decide +kernel
theorem dX6_two_152 : decode cX6_two 152 = .ok (.ifCond .eq 7, 3) := by decide +kernel
theorem dX6_two_155 : decode cX6_two 155 = .ok (.iconst 1, 1) := by decide +kernel
theorem dX6_two_156 : decode cX6_two 156 = .ok (.goto 4, 3) := by decide +kernel
theorem dX6_two_159 : decode cX6_two 159 = .ok (.iconst 0, 1) := by decide +kernel
theorem dX6_two_160 : decode cX6_two 160 = .ok (.iadd, 1) := by decide +kernel
theorem dX6_two_161 : decode cX6_two 161 = .ok (.istore 5, 2) := by decide +kernel
theorem dX6_two_163 : decode cX6_two 163 = .ok (.iinc 6 1, 3) := by decide +kernel
theorem dX6_two_166 : decode cX6_two 166 = .ok (.goto (-114), 3) := by decide +kernel
theorem dX6_two_169 : decode cX6_two 169 = .ok (.iload 5, 2) := by decide +kernel
theorem dX6_two_171 : decode cX6_two 171 = .ok (.ireturn, 1) := by decide +kernel
set_option maxRecDepth 20000 in
theorem ggX6_reading_X6_isCase : GoodIn wsX6_reading wsX6_isCase := goodIn_r _ [9, 10, 11, 12, 13, 14, 15, 16, 8, 17, 18, 19, 20, 21, 22, 23, 24, 25, 26, 27, 32, 33, 34, 35, 36, 37, 38, 39, 40, 41, 42, 43, 44, 45, 46, 47, 48, 49, 50, 51, 52, 53, 54, 55, 56, 57, 58] (by decide +kernel) (by decide +kernel)
set_option maxRecDepth 20000 in
theorem gX6_reading_X6_isCase : GoodIn wsX6_reading (wsV RX6 153 RX6 yX6_isCase wsX6_isCase) := goodIn_app (goodIn_of _ (by decide +kernel)) ggX6_reading_X6_isCase
set_option maxRecDepth 20000 in
theorem ggX6_reading_X6_noHour : GoodIn wsX6_reading wsX6_noHour := goodIn_r _ [30, 31, 22, 23, 8, 24] (by decide +kernel) (by decide +kernel)
set_option maxRecDepth 20000 in
theorem gX6_reading_X6_noHour : GoodIn wsX6_reading (va_wsS RX6 159 yX6_noHour wsX6_noHour) := goodIn_app (goodIn_of _ (by decide +kernel)) ggX6_reading_X6_noHour
set_option maxRecDepth 20000 in
theorem ggX6_reading_X6_isOfThings : GoodIn wsX6_reading wsX6_isOfThings := goodIn_r _ [17, 18, 19, 20, 8, 21, 10, 22, 23, 24, 32, 33, 34, 35, 36, 37, 38, 39, 40, 41, 42, 43, 44, 45, 46, 47, 48, 49, 50, 51, 52, 53, 54, 55, 56, 57, 58] (by decide +kernel) (by decide +kernel)
set_option maxRecDepth 20000 in
theorem gX6_reading_X6_isOfThings : GoodIn wsX6_reading (wsV RX6 147 RX6 yX6_isOfThings wsX6_isOfThings) := goodIn_app (goodIn_of _ (by decide +kernel)) ggX6_reading_X6_isOfThings
theorem dX6_reading_0 : decode cX6_reading 0 = .ok (.aload_n 0, 1) := by decide +kernel
theorem dX6_reading_1 : decode cX6_reading 1 = .ok (.iload_n 1, 1) := by decide +kernel
theorem dX6_reading_2 : decode cX6_reading 2 = .ok (.invokevirtual 153, 3) := by decide +kernel
theorem dX6_reading_5 : decode cX6_reading 5 = .ok (.ifCond .eq 10, 3) := by decide +kernel
theorem dX6_reading_8 : decode cX6_reading 8 = .ok (.iload_n 2, 1) := by decide +kernel
theorem dX6_reading_9 : decode cX6_reading 9 = .ok (.invokestatic 159, 3) := by decide +kernel
theorem dX6_reading_12 : decode cX6_reading 12 = .ok (.ifCond .eq 5, 3) := by decide +kernel
theorem dX6_reading_15 : decode cX6_reading 15 = .ok (.iconst (-1), 1) := by decide +kernel
theorem dX6_reading_16 : decode cX6_reading 16 = .ok (.ireturn, 1) := by decide +kernel
theorem dX6_reading_17 : decode cX6_reading 17 = .ok (.aload_n 0, 1) := by decide +kernel
theorem dX6_reading_18 : decode cX6_reading 18 = .ok (.iload_n 3, 1) := by decide +kernel
theorem dX6_reading_19 : decode cX6_reading 19 = .ok (.invokevirtual 147, 3) := by decide +kernel
theorem dX6_reading_22 : decode cX6_reading 22 = .ok (.ifCond .ne 6, 3) := by decide +kernel
theorem dX6_reading_25 : decode cX6_reading 25 = .ok (.bipush (-2), 2) := by decide +kernel
theorem dX6_reading_27 : decode cX6_reading 27 = .ok (.ireturn, 1) := by decide +kernel
theorem dX6_reading_28 : decode cX6_reading 28 = .ok (.aload_n 0, 1) := by decide +kernel
theorem dX6_reading_29 : decode cX6_reading 29 = .ok (.getfield 141, 3) := by decide +kernel
theorem dX6_reading_32 : decode cX6_reading 32 = .ok (.bipush 8, 2) := by decide +kernel
theorem dX6_reading_34 : decode cX6_reading 34 = .ok (.if_icmp .ne 6, 3) := by decide +kernel
theorem dX6_reading_37 : decode cX6_reading 37 = .ok (.bipush (-4), 2) := by decide +kernel
theorem dX6_reading_39 : decode cX6_reading 39 = .ok (.ireturn, 1) := by decide +kernel
theorem dX6_reading_40 : decode cX6_reading 40 = .ok (.aload_n 0, 1) := by decide +kernel
theorem dX6_reading_41 : decode cX6_reading 41 = .ok (.getfield 43, 3) := by decide +kernel
theorem dX6_reading_44 : decode cX6_reading 44 = .ok (.aload_n 0, 1) := by decide +kernel
theorem dX6_reading_45 : decode cX6_reading 45 = .ok (.getfield 141, 3) := by decide +kernel
theorem dX6_reading_48 : decode cX6_reading 48 = .ok (.iload_n 1, 1) := by decide +kernel
theorem dX6_reading_49 : decode cX6_reading 49 = .ok (.iastore, 1) := by decide +kernel
theorem dX6_reading_50 : decode cX6_reading 50 = .ok (.aload_n 0, 1) := by decide +kernel
theorem dX6_reading_51 : decode cX6_reading 51 = .ok (.getfield 46, 3) := by decide +kernel
theorem dX6_reading_54 : decode cX6_reading 54 = .ok (.aload_n 0, 1) := by decide +kernel
theorem dX6_reading_55 : decode cX6_reading 55 = .ok (.getfield 141, 3) := by decide +kernel
theorem dX6_reading_58 : decode cX6_reading 58 = .ok (.iload_n 2, 1) := by decide +kernel
theorem dX6_reading_59 : decode cX6_reading 59 = .ok (.iastore, 1) := by decide +kernel
theorem dX6_reading_60 : decode cX6_reading 60 = .ok (.aload_n 0, 1) := by decide +kernel
theorem dX6_reading_61 : decode cX6_reading 61 = .ok (.getfield 49, 3) := by decide +kernel
theorem dX6_reading_64 : decode cX6_reading 64 = .ok (.aload_n 0, 1) := by decide +kernel
theorem dX6_reading_65 : decode cX6_reading 65 = .ok (.getfield 141, 3) := by decide +kernel
theorem dX6_reading_68 : decode cX6_reading 68 = .ok (.iload_n 3, 1) := by decide +kernel
theorem dX6_reading_69 : decode cX6_reading 69 = .ok (.iastore, 1) := by decide +kernel
theorem dX6_reading_70 : decode cX6_reading 70 = .ok (.aload_n 0, 1) := by decide +kernel
theorem dX6_reading_71 : decode cX6_reading 71 = .ok (.dup, 1) := by decide +kernel
theorem dX6_reading_72 : decode cX6_reading 72 = .ok (.getfield 141, 3) := by decide +kernel
theorem dX6_reading_75 : decode cX6_reading 75 = .ok (.iconst 1, 1) := by decide +kernel
theorem dX6_reading_76 : decode cX6_reading 76 = .ok (.iadd, 1) := by decide +kernel
theorem dX6_reading_77 : decode cX6_reading 77 = .ok (.putfield 141, 3) := by decide +kernel
theorem dX6_reading_80 : decode cX6_reading 80 = .ok (.aload_n 0, 1) := by decide +kernel
theorem dX6_reading_81 : decode cX6_reading 81 = .ok (.getfield 141, 3) := by decide +kernel
theorem dX6_reading_84 : decode cX6_reading 84 = .ok (.iconst 1, 1) := by decide +kernel
theorem dX6_reading_85 : decode cX6_reading 85 = .ok (.isub, 1) := by decide +kernel
theorem dX6_reading_86 : decode cX6_reading 86 = .ok (.ireturn, 1) := by decide +kernel
set_option maxRecDepth 20000 in
theorem ggX6_back_X6_in : GoodIn wsX6_back wsX6_in := goodIn_r _ [5] (by decide +kernel) (by decide +kernel)
set_option maxRecDepth 20000 in
theorem gX6_back_X6_in : GoodIn wsX6_back (va_wsS RX6 87 yX6_in wsX6_in) := goodIn_app (goodIn_of _ (by decide +kernel)) ggX6_back_X6_in
theorem dX6_back_0 : decode cX6_back 0 = .ok (.iload_n 1, 1) := by decide +kernel
theorem dX6_back_1 : decode cX6_back 1 = .ok (.i2l, 1) := by decide +kernel
theorem dX6_back_2 : decode cX6_back 2 = .ok (.lconst 0, 1) := by decide +kernel
theorem dX6_back_3 : decode cX6_back 3 = .ok (.aload_n 0, 1) := by decide +kernel
theorem dX6_back_4 : decode cX6_back 4 = .ok (.getfield 141, 3) := by decide +kernel
theorem dX6_back_7 : decode cX6_back 7 = .ok (.i2l, 1) := by decide +kernel
theorem dX6_back_8 : decode cX6_back 8 = .ok (.invokestatic 87, 3) := by decide +kernel
theorem dX6_back_11 : decode cX6_back 11 = .ok (.ifCond .ne 6, 3) := by decide +kernel
theorem dX6_back_14 : decode cX6_back 14 = .ok (.bipush (-2), 2) := by decide +kernel
theorem dX6_back_16 : decode cX6_back 16 = .ok (.ireturn, 1) := by decide +kernel
theorem dX6_back_17 : decode cX6_back 17 = .ok (.aload_n 0, 1) := by decide +kernel
theorem dX6_back_18 : decode cX6_back 18 = .ok (.dup, 1) := by decide +kernel
theorem dX6_back_19 : decode cX6_back 19 = .ok (.getfield 141, 3) := by decide +kernel
theorem dX6_back_22 : decode cX6_back 22 = .ok (.iload_n 1, 1) := by decide +kernel
theorem dX6_back_23 : decode cX6_back 23 = .ok (.isub, 1) := by decide +kernel
theorem dX6_back_24 : decode cX6_back 24 = .ok (.putfield 141, 3) := by decide +kernel
theorem dX6_back_27 : decode cX6_back 27 = .ok (.aload_n 0, 1) := by decide +kernel
theorem dX6_back_28 : decode cX6_back 28 = .ok (.getfield 141, 3) := by decide +kernel
theorem dX6_back_31 : decode cX6_back 31 = .ok (.ireturn, 1) := by decide +kernel
set_option maxRecDepth 20000 in
theorem ggX6_isRule_X6_namedBy : GoodIn wsX6_isRule wsX6_namedBy := goodIn_r _ [10, 11, 12, 13, 14, 9, 15, 16, 17, 18, 19, 20, 21, 22, 23, 24, 25, 26, 27, 28, 29, 30, 31, 32, 33, 34, 35, 36, 37, 38, 39, 40, 41, 42] (by decide +kernel) (by decide +kernel)
set_option maxRecDepth 20000 in
theorem gX6_isRule_X6_namedBy : GoodIn wsX6_isRule (wsV RX6 164 RX6 yX6_namedBy wsX6_namedBy) := goodIn_app (goodIn_of _ (by decide +kernel)) ggX6_isRule_X6_namedBy
theorem dX6_isRule_0 : decode cX6_isRule 0 = .ok (.iconst 1, 1) := by decide +kernel
theorem dX6_isRule_1 : decode cX6_isRule 1 = .ok (.istore_n 3, 1) := by decide +kernel
theorem dX6_isRule_2 : decode cX6_isRule 2 = .ok (.iconst 0, 1) := by decide +kernel
theorem dX6_isRule_3 : decode cX6_isRule 3 = .ok (.istore 4, 2) := by decide +kernel
theorem dX6_isRule_5 : decode cX6_isRule 5 = .ok (.iload 4, 2) := by decide +kernel
theorem dX6_isRule_7 : decode cX6_isRule 7 = .ok (.aload_n 0, 1) := by decide +kernel
theorem dX6_isRule_8 : decode cX6_isRule 8 = .ok (.getfield 141, 3) := by decide +kernel
theorem dX6_isRule_11 : decode cX6_isRule 11 = .ok (.if_icmp .ge 58, 3) := by decide +kernel
theorem dX6_isRule_14 : decode cX6_isRule 14 = .ok (.iload_n 3, 1) := by decide +kernel
theorem dX6_isRule_15 : decode cX6_isRule 15 = .ok (.ifCond .eq 46, 3) := by decide +kernel
theorem dX6_isRule_18 : decode cX6_isRule 18 = .ok (.aload_n 0, 1) := by decide +kernel
theorem dX6_isRule_19 : decode cX6_isRule 19 = .ok (.getfield 46, 3) := by decide +kernel
theorem dX6_isRule_22 : decode cX6_isRule 22 = .ok (.iload 4, 2) := by decide +kernel
theorem dX6_isRule_24 : decode cX6_isRule 24 = .ok (.iaload, 1) := by decide +kernel
theorem dX6_isRule_25 : decode cX6_isRule 25 = .ok (.iload_n 2, 1) := by decide +kernel
theorem dX6_isRule_26 : decode cX6_isRule 26 = .ok (.if_icmp .ne 31, 3) := by decide +kernel
theorem dX6_isRule_29 : decode cX6_isRule 29 = .ok (.aload_n 0, 1) := by decide +kernel
theorem dX6_isRule_30 : decode cX6_isRule 30 = .ok (.aload_n 0, 1) := by decide +kernel
theorem dX6_isRule_31 : decode cX6_isRule 31 = .ok (.getfield 43, 3) := by decide +kernel
theorem dX6_isRule_34 : decode cX6_isRule 34 = .ok (.iload 4, 2) := by decide +kernel
theorem dX6_isRule_36 : decode cX6_isRule 36 = .ok (.iaload, 1) := by decide +kernel
theorem dX6_isRule_37 : decode cX6_isRule 37 = .ok (.iload_n 1, 1) := by decide +kernel
theorem dX6_isRule_38 : decode cX6_isRule 38 = .ok (.aload_n 0, 1) := by decide +kernel
theorem dX6_isRule_39 : decode cX6_isRule 39 = .ok (.getfield 25, 3) := by decide +kernel
theorem dX6_isRule_42 : decode cX6_isRule 42 = .ok (.iload_n 2, 1) := by decide +kernel
theorem dX6_isRule_43 : decode cX6_isRule 43 = .ok (.iaload, 1) := by decide +kernel
theorem dX6_isRule_44 : decode cX6_isRule 44 = .ok (.invokevirtual 164, 3) := by decide +kernel
theorem dX6_isRule_47 : decode cX6_isRule 47 = .ok (.aload_n 0, 1) := by decide +kernel
theorem dX6_isRule_48 : decode cX6_isRule 48 = .ok (.getfield 49, 3) := by decide +kernel
theorem dX6_isRule_51 : decode cX6_isRule 51 = .ok (.iload 4, 2) := by decide +kernel
theorem dX6_isRule_53 : decode cX6_isRule 53 = .ok (.iaload, 1) := by decide +kernel
theorem dX6_isRule_54 : decode cX6_isRule 54 = .ok (.if_icmp .ne 7, 3) := by decide +kernel
theorem dX6_isRule_57 : decode cX6_isRule 57 = .ok (.iconst 1, 1) := by decide +kernel
theorem dX6_isRule_58 : decode cX6_isRule 58 = .ok (.goto 4, 3) := by decide +kernel
theorem dX6_isRule_61 : decode cX6_isRule 61 = .ok (.iconst 0, 1) := by decide +kernel
theorem dX6_isRule_62 : decode cX6_isRule 62 = .ok (.istore_n 3, 1) := by decide +kernel
theorem dX6_isRule_63 : decode cX6_isRule 63 = .ok (.iinc 4 1, 3) := by decide +kernel
theorem dX6_isRule_66 : decode cX6_isRule 66 = .ok (.goto (-61), 3) := by decide +kernel
theorem dX6_isRule_69 : decode cX6_isRule 69 = .ok (.iload_n 3, 1) := by decide +kernel
theorem dX6_isRule_70 : decode cX6_isRule 70 = .ok (.ireturn, 1) := by decide +kernel
set_option maxRecDepth 20000 in
theorem ggX6_rules_X6_noHour : GoodIn wsX6_rules wsX6_noHour := goodIn_r _ [5, 6, 7, 8, 4, 9] (by decide +kernel) (by decide +kernel)
set_option maxRecDepth 20000 in
theorem gX6_rules_X6_noHour : GoodIn wsX6_rules (va_wsS RX6 159 yX6_noHour wsX6_noHour) := goodIn_app (goodIn_of _ (by decide +kernel)) ggX6_rules_X6_noHour
set_option maxRecDepth 20000 in
theorem ggX6_rules_X6_all : GoodIn wsX6_rules wsX6_all := goodIn_r _ [13, 1, 31, 32, 33, 34, 35, 36, 37, 38, 39, 40, 41, 42, 43, 44, 45, 46, 47, 48, 49, 50, 51, 52, 53, 54, 55, 56, 57] (by decide +kernel) (by decide +kernel)
set_option maxRecDepth 20000 in
theorem gX6_rules_X6_all : GoodIn wsX6_rules (wsV RX6 103 RX6 yX6_all wsX6_all) := goodIn_app (goodIn_of _ (by decide +kernel)) ggX6_rules_X6_all
set_option maxRecDepth 20000 in
theorem ggX6_rules_X6_isRule : GoodIn wsX6_rules wsX6_isRule := goodIn_r _ [17, 18, 19, 20, 21, 22, 23, 24, 25, 4, 26, 1, 27, 28, 29, 30, 31, 32, 33, 34, 35, 36, 37, 38, 39, 40, 41, 42, 43, 44, 45, 46, 47, 48, 49, 50, 51, 52, 53, 54, 55, 56, 57] (by decide +kernel) (by decide +kernel)
set_option maxRecDepth 20000 in
theorem gX6_rules_X6_isRule : GoodIn wsX6_rules (wsV RX6 200 RX6 yX6_isRule wsX6_isRule) := goodIn_app (goodIn_of _ (by decide +kernel)) ggX6_rules_X6_isRule
theorem dX6_rules_0 : decode cX6_rules 0 = .ok (.iload_n 1, 1) := by decide +kernel
theorem dX6_rules_1 : decode cX6_rules 1 = .ok (.invokestatic 159, 3) := by decide +kernel
theorem dX6_rules_4 : decode cX6_rules 4 = .ok (.ifCond .ne 8, 3) := by decide +kernel
theorem dX6_rules_7 : decode cX6_rules 7 = .ok (.iload_n 2, 1) := by decide +kernel
theorem dX6_rules_8 : decode cX6_rules 8 = .ok (.iconst (-1), 1) := by decide +kernel
theorem dX6_rules_9 : decode cX6_rules 9 = .ok (.if_icmp .ge 5, 3) := by decide +kernel
theorem dX6_rules_12 : decode cX6_rules 12 = .ok (.iconst (-1), 1) := by decide +kernel
theorem dX6_rules_13 : decode cX6_rules 13 = .ok (.ireturn, 1) := by decide +kernel
theorem dX6_rules_14 : decode cX6_rules 14 = .ok (.aload_n 0, 1) := by decide +kernel
theorem dX6_rules_15 : decode cX6_rules 15 = .ok (.getfield 98, 3) := by decide +kernel
theorem dX6_rules_18 : decode cX6_rules 18 = .ok (.ifCond .ne 6, 3) := by decide +kernel
theorem dX6_rules_21 : decode cX6_rules 21 = .ok (.bipush (-3), 2) := by decide +kernel
theorem dX6_rules_23 : decode cX6_rules 23 = .ok (.ireturn, 1) := by decide +kernel
theorem dX6_rules_24 : decode cX6_rules 24 = .ok (.iconst 0, 1) := by decide +kernel
theorem dX6_rules_25 : decode cX6_rules 25 = .ok (.istore_n 3, 1) := by decide +kernel
theorem dX6_rules_26 : decode cX6_rules 26 = .ok (.iconst 0, 1) := by decide +kernel
theorem dX6_rules_27 : decode cX6_rules 27 = .ok (.istore 4, 2) := by decide +kernel
theorem dX6_rules_29 : decode cX6_rules 29 = .ok (.iload 4, 2) := by decide +kernel
theorem dX6_rules_31 : decode cX6_rules 31 = .ok (.aload_n 0, 1) := by decide +kernel
theorem dX6_rules_32 : decode cX6_rules 32 = .ok (.invokevirtual 103, 3) := by decide +kernel
theorem dX6_rules_35 : decode cX6_rules 35 = .ok (.if_icmp .gt 30, 3) := by decide +kernel
theorem dX6_rules_38 : decode cX6_rules 38 = .ok (.aload_n 0, 1) := by decide +kernel
theorem dX6_rules_39 : decode cX6_rules 39 = .ok (.iload 4, 2) := by decide +kernel
theorem dX6_rules_41 : decode cX6_rules 41 = .ok (.iload_n 1, 1) := by decide +kernel
theorem dX6_rules_42 : decode cX6_rules 42 = .ok (.invokevirtual 200, 3) := by decide +kernel
theorem dX6_rules_45 : decode cX6_rules 45 = .ok (.ifCond .eq 14, 3) := by decide +kernel
theorem dX6_rules_48 : decode cX6_rules 48 = .ok (.iload_n 3, 1) := by decide +kernel
theorem dX6_rules_49 : decode cX6_rules 49 = .ok (.iload_n 2, 1) := by decide +kernel
theorem dX6_rules_50 : decode cX6_rules 50 = .ok (.if_icmp .ne 6, 3) := by decide +kernel
theorem dX6_rules_53 : decode cX6_rules 53 = .ok (.iload 4, 2) := by decide +kernel
theorem dX6_rules_55 : decode cX6_rules 55 = .ok (.ireturn, 1) := by decide +kernel
theorem dX6_rules_56 : decode cX6_rules 56 = .ok (.iinc 3 1, 3) := by decide +kernel
theorem dX6_rules_59 : decode cX6_rules 59 = .ok (.iinc 4 1, 3) := by decide +kernel
theorem dX6_rules_62 : decode cX6_rules 62 = .ok (.goto (-33), 3) := by decide +kernel
theorem dX6_rules_65 : decode cX6_rules 65 = .ok (.iload_n 2, 1) := by decide +kernel
theorem dX6_rules_66 : decode cX6_rules 66 = .ok (.ifCond .ge 7, 3) := by decide +kernel
theorem dX6_rules_69 : decode cX6_rules 69 = .ok (.iload_n 3, 1) := by decide +kernel
theorem dX6_rules_70 : decode cX6_rules 70 = .ok (.goto 5, 3) := by decide +kernel
theorem dX6_rules_73 : decode cX6_rules 73 = .ok (.bipush (-9), 2) := by decide +kernel
theorem dX6_rules_75 : decode cX6_rules 75 = .ok (.ireturn, 1) := by decide +kernel
set_option maxRecDepth 20000 in
theorem ggX6_night_X6_barred : GoodIn wsX6_night wsX6_barred := goodIn_r _ [10, 11, 12, 13, 14, 15, 9, 16, 17, 18, 19, 20, 21, 22, 23, 24, 25, 26, 27, 28, 29, 30, 31, 32, 69, 70, 71, 72, 73, 74, 75, 76, 77, 78, 79, 80, 81, 82, 83, 84, 85, 86, 87, 88, 89, 90, 91, 92, 93, 94, 95] (by decide +kernel) (by decide +kernel)
set_option maxRecDepth 20000 in
theorem gX6_night_X6_barred : GoodIn wsX6_night (wsV RX6 131 RX6 yX6_barred wsX6_barred) := goodIn_app (goodIn_of _ (by decide +kernel)) ggX6_night_X6_barred
set_option maxRecDepth 20000 in
theorem ggX6_night_X6_refused : GoodIn wsX6_night wsX6_refused := goodIn_r _ [24, 25, 69, 70, 71, 72, 73, 74, 75, 76, 77, 78, 79, 80, 81, 82, 83, 84, 85, 86, 87, 88, 89, 90, 91, 92, 93, 94, 95] (by decide +kernel) (by decide +kernel)
set_option maxRecDepth 20000 in
theorem gX6_night_X6_refused : GoodIn wsX6_night (wsV RX6 81 RX6 yX6_refused wsX6_refused) := goodIn_app (goodIn_of _ (by decide +kernel)) ggX6_night_X6_refused
set_option maxRecDepth 20000 in
theorem ggX6_night_X6_in : GoodIn wsX6_night wsX6_in := goodIn_r _ [20] (by decide +kernel) (by decide +kernel)
set_option maxRecDepth 20000 in
theorem gX6_night_X6_in : GoodIn wsX6_night (va_wsS RX6 87 yX6_in wsX6_in) := goodIn_app (goodIn_of _ (by decide +kernel)) ggX6_night_X6_in
set_option maxRecDepth 20000 in
theorem ggX6_night_X6_partsBy : GoodIn wsX6_night wsX6_partsBy := goodIn_r _ [36, 37, 38, 39, 9, 40, 1, 41, 42, 43, 44, 45, 46, 47, 48, 49, 50, 51, 18, 19, 20, 52, 53, 54, 55, 56, 57, 58, 59, 60, 61, 62, 63, 5, 64, 65, 66, 67, 68, 69, 70, 71, 72, 73, 74, 75, 76, 77, 78, 79, 80, 81, 82, 83, 84, 85, 86, 87, 88, 89, 90, 91, 92, 93, 94, 95] (by decide +kernel) (by decide +kernel)
set_option maxRecDepth 20000 in
theorem gX6_night_X6_partsBy : GoodIn wsX6_night (wsV RX6 184 RX6 yX6_partsBy wsX6_partsBy) := goodIn_app (goodIn_of _ (by decide +kernel)) ggX6_night_X6_partsBy
theorem dX6_night_0 : decode cX6_night 0 = .ok (.aload_n 0, 1) := by decide +kernel
theorem dX6_night_1 : decode cX6_night 1 = .ok (.iload_n 1, 1) := by decide +kernel
theorem dX6_night_2 : decode cX6_night 2 = .ok (.iload_n 2, 1) := by decide +kernel
theorem dX6_night_3 : decode cX6_night 3 = .ok (.iload_n 3, 1) := by decide +kernel
theorem dX6_night_4 : decode cX6_night 4 = .ok (.iload 4, 2) := by decide +kernel
theorem dX6_night_6 : decode cX6_night 6 = .ok (.i2l, 1) := by decide +kernel
theorem dX6_night_7 : decode cX6_night 7 = .ok (.invokevirtual 131, 3) := by decide +kernel
theorem dX6_night_10 : decode cX6_night 10 = .ok (.istore 5, 2) := by decide +kernel
theorem dX6_night_12 : decode cX6_night 12 = .ok (.iload 5, 2) := by decide +kernel
theorem dX6_night_14 : decode cX6_night 14 = .ok (.ifCond .ge 6, 3) := by decide +kernel
theorem dX6_night_17 : decode cX6_night 17 = .ok (.iload 5, 2) := by decide +kernel
theorem dX6_night_19 : decode cX6_night 19 = .ok (.ireturn, 1) := by decide +kernel
theorem dX6_night_20 : decode cX6_night 20 = .ok (.aload_n 0, 1) := by decide +kernel
theorem dX6_night_21 : decode cX6_night 21 = .ok (.getfield 98, 3) := by decide +kernel
theorem dX6_night_24 : decode cX6_night 24 = .ok (.ifCond .ne 10, 3) := by decide +kernel
theorem dX6_night_27 : decode cX6_night 27 = .ok (.aload_n 0, 1) := by decide +kernel
theorem dX6_night_28 : decode cX6_night 28 = .ok (.bipush (-3), 2) := by decide +kernel
theorem dX6_night_30 : decode cX6_night 30 = .ok (.invokevirtual 81, 3) := by decide +kernel
theorem dX6_night_33 : decode cX6_night 33 = .ok (.ireturn, 1) := by decide +kernel
theorem dX6_night_34 : decode cX6_night 34 = .ok (.iload 4, 2) := by decide +kernel
theorem dX6_night_36 : decode cX6_night 36 = .ok (.bipush 6, 2) := by decide +kernel
theorem dX6_night_38 : decode cX6_night 38 = .ok (.if_icmp .gt 7, 3) := by decide +kernel
theorem dX6_night_41 : decode cX6_night 41 = .ok (.iconst 1, 1) := by decide +kernel
theorem dX6_night_42 : decode cX6_night 42 = .ok (.goto 4, 3) := by decide +kernel
theorem dX6_night_45 : decode cX6_night 45 = .ok (.iconst 0, 1) := by decide +kernel
theorem dX6_night_46 : decode cX6_night 46 = .ok (.istore 6, 2) := by decide +kernel
theorem dX6_night_48 : decode cX6_night 48 = .ok (.iconst 0, 1) := by decide +kernel
theorem dX6_night_49 : decode cX6_night 49 = .ok (.istore 7, 2) := by decide +kernel
theorem dX6_night_51 : decode cX6_night 51 = .ok (.iload 7, 2) := by decide +kernel
theorem dX6_night_53 : decode cX6_night 53 = .ok (.iload 4, 2) := by decide +kernel
theorem dX6_night_55 : decode cX6_night 55 = .ok (.if_icmp .ge 38, 3) := by decide +kernel
theorem dX6_night_58 : decode cX6_night 58 = .ok (.iload 6, 2) := by decide +kernel
theorem dX6_night_60 : decode cX6_night 60 = .ok (.ifCond .eq 33, 3) := by decide +kernel
theorem dX6_night_63 : decode cX6_night 63 = .ok (.aload_n 0, 1) := by decide +kernel
theorem dX6_night_64 : decode cX6_night 64 = .ok (.getfield 61, 3) := by decide +kernel
theorem dX6_night_67 : decode cX6_night 67 = .ok (.bipush 60, 2) := by decide +kernel
theorem dX6_night_69 : decode cX6_night 69 = .ok (.iload_n 1, 1) := by decide +kernel
theorem dX6_night_70 : decode cX6_night 70 = .ok (.imul, 1) := by decide +kernel
theorem dX6_night_71 : decode cX6_night 71 = .ok (.iload_n 3, 1) := by decide +kernel
theorem dX6_night_72 : decode cX6_night 72 = .ok (.iadd, 1) := by decide +kernel
theorem dX6_night_73 : decode cX6_night 73 = .ok (.iload 7, 2) := by decide +kernel
theorem dX6_night_75 : decode cX6_night 75 = .ok (.iadd, 1) := by decide +kernel
theorem dX6_night_76 : decode cX6_night 76 = .ok (.iaload, 1) := by decide +kernel
theorem dX6_night_77 : decode cX6_night 77 = .ok (.i2l, 1) := by decide +kernel
theorem dX6_night_78 : decode cX6_night 78 = .ok (.lconst 0, 1) := by decide +kernel
theorem dX6_night_79 : decode cX6_night 79 = .ok (.ldc2_w 162, 3) := by decide +kernel
theorem dX6_night_82 : decode cX6_night 82 = .ok (.invokestatic 87, 3) := by decide +kernel
theorem dX6_night_85 : decode cX6_night 85 = .ok (.istore 6, 2) := by decide +kernel
theorem dX6_night_87 : decode cX6_night 87 = .ok (.iinc 7 1, 3) := by decide +kernel
theorem dX6_night_90 : decode cX6_night 90 = .ok (.goto (-39), 3) := by decide +kernel
theorem dX6_night_93 : decode cX6_night 93 = .ok (.iload 6, 2) := by decide +kernel
theorem dX6_night_95 : decode cX6_night 95 = .ok (.ifCond .ne 10, 3) := by decide +kernel
theorem dX6_night_98 : decode cX6_night 98 = .ok (.aload_n 0, 1) := by decide +kernel
theorem dX6_night_99 : decode cX6_night 99 = .ok (.bipush (-2), 2) := by decide +kernel
theorem dX6_night_101 : decode cX6_night 101 = .ok (.invokevirtual 81, 3) := by decide +kernel
theorem dX6_night_104 : decode cX6_night 104 = .ok (.ireturn, 1) := by decide +kernel
theorem dX6_night_105 : decode cX6_night 105 = .ok (.iconst 0, 1) := by decide +kernel
theorem dX6_night_106 : decode cX6_night 106 = .ok (.istore 7, 2) := by decide +kernel
theorem dX6_night_108 : decode cX6_night 108 = .ok (.iload 7, 2) := by decide +kernel
theorem dX6_night_110 : decode cX6_night 110 = .ok (.iload 4, 2) := by decide +kernel
theorem dX6_night_112 : decode cX6_night 112 = .ok (.if_icmp .ge 44, 3) := by decide +kernel
theorem dX6_night_115 : decode cX6_night 115 = .ok (.aload_n 0, 1) := by decide +kernel
theorem dX6_night_116 : decode cX6_night 116 = .ok (.getfield 52, 3) := by decide +kernel
theorem dX6_night_119 : decode cX6_night 119 = .ok (.iload 7, 2) := by decide +kernel
theorem dX6_night_121 : decode cX6_night 121 = .ok (.aload_n 0, 1) := by decide +kernel
theorem dX6_night_122 : decode cX6_night 122 = .ok (.getfield 25, 3) := by decide +kernel
theorem dX6_night_125 : decode cX6_night 125 = .ok (.iload 7, 2) := by decide +kernel
theorem dX6_night_127 : decode cX6_night 127 = .ok (.iaload, 1) := by decide +kernel
theorem dX6_night_128 : decode cX6_night 128 = .ok (.iastore, 1) := by decide +kernel
theorem dX6_night_129 : decode cX6_night 129 = .ok (.aload_n 0, 1) := by decide +kernel
theorem dX6_night_130 : decode cX6_night 130 = .ok (.getfield 25, 3) := by decide +kernel
theorem dX6_night_133 : decode cX6_night 133 = .ok (.iload 7, 2) := by decide +kernel
theorem dX6_night_135 : decode cX6_night 135 = .ok (.aload_n 0, 1) := by decide +kernel
theorem dX6_night_136 : decode cX6_night 136 = .ok (.getfield 61, 3) := by decide +kernel
theorem dX6_night_139 : decode cX6_night 139 = .ok (.bipush 60, 2) := by decide +kernel
theorem dX6_night_141 : decode cX6_night 141 = .ok (.iload_n 1, 1) := by decide +kernel
theorem dX6_night_142 : decode cX6_night 142 = .ok (.imul, 1) := by decide +kernel
theorem dX6_night_143 : decode cX6_night 143 = .ok (.iload_n 3, 1) := by decide +kernel
theorem dX6_night_144 : decode cX6_night 144 = .ok (.iadd, 1) := by decide +kernel
theorem dX6_night_145 : decode cX6_night 145 = .ok (.iload 7, 2) := by decide +kernel
theorem dX6_night_147 : decode cX6_night 147 = .ok (.iadd, 1) := by decide +kernel
theorem dX6_night_148 : decode cX6_night 148 = .ok (.iaload, 1) := by decide +kernel
theorem dX6_night_149 : decode cX6_night 149 = .ok (.iastore, 1) := by decide +kernel
theorem dX6_night_150 : decode cX6_night 150 = .ok (.iinc 7 1, 3) := by decide +kernel
theorem dX6_night_153 : decode cX6_night 153 = .ok (.goto (-45), 3) := by decide +kernel
theorem dX6_night_156 : decode cX6_night 156 = .ok (.aload_n 0, 1) := by decide +kernel
theorem dX6_night_157 : decode cX6_night 157 = .ok (.iload 4, 2) := by decide +kernel
theorem dX6_night_159 : decode cX6_night 159 = .ok (.invokevirtual 184, 3) := by decide +kernel
theorem dX6_night_162 : decode cX6_night 162 = .ok (.istore 7, 2) := by decide +kernel
theorem dX6_night_164 : decode cX6_night 164 = .ok (.iconst 0, 1) := by decide +kernel
theorem dX6_night_165 : decode cX6_night 165 = .ok (.istore 8, 2) := by decide +kernel
theorem dX6_night_167 : decode cX6_night 167 = .ok (.iload 8, 2) := by decide +kernel
theorem dX6_night_169 : decode cX6_night 169 = .ok (.iload 4, 2) := by decide +kernel
theorem dX6_night_171 : decode cX6_night 171 = .ok (.if_icmp .ge 23, 3) := by decide +kernel
theorem dX6_night_174 : decode cX6_night 174 = .ok (.aload_n 0, 1) := by decide +kernel
theorem dX6_night_175 : decode cX6_night 175 = .ok (.getfield 25, 3) := by decide +kernel
theorem dX6_night_178 : decode cX6_night 178 = .ok (.iload 8, 2) := by decide +kernel
theorem dX6_night_180 : decode cX6_night 180 = .ok (.aload_n 0, 1) := by decide +kernel
theorem dX6_night_181 : decode cX6_night 181 = .ok (.getfield 52, 3) := by decide +kernel
theorem dX6_night_184 : decode cX6_night 184 = .ok (.iload 8, 2) := by decide +kernel
theorem dX6_night_186 : decode cX6_night 186 = .ok (.iaload, 1) := by decide +kernel
theorem dX6_night_187 : decode cX6_night 187 = .ok (.iastore, 1) := by decide +kernel
theorem dX6_night_188 : decode cX6_night 188 = .ok (.iinc 8 1, 3) := by decide +kernel
theorem dX6_night_191 : decode cX6_night 191 = .ok (.goto (-24), 3) := by decide +kernel
theorem dX6_night_194 : decode cX6_night 194 = .ok (.aload_n 0, 1) := by decide +kernel
theorem dX6_night_195 : decode cX6_night 195 = .ok (.iload 7, 2) := by decide +kernel
theorem dX6_night_197 : decode cX6_night 197 = .ok (.invokevirtual 81, 3) := by decide +kernel
theorem dX6_night_200 : decode cX6_night 200 = .ok (.ireturn, 1) := by decide +kernel
set_option maxRecDepth 20000 in
theorem ggX6_noSheet_X6_in : GoodIn wsX6_noSheet wsX6_in := goodIn_r _ [5] (by decide +kernel) (by decide +kernel)
set_option maxRecDepth 20000 in
theorem gX6_noSheet_X6_in : GoodIn wsX6_noSheet (va_wsS RX6 87 yX6_in wsX6_in) := goodIn_app (goodIn_of _ (by decide +kernel)) ggX6_noSheet_X6_in
theorem dX6_noSheet_0 : decode cX6_noSheet 0 = .ok (.iload_n 0, 1) := by decide +kernel
theorem dX6_noSheet_1 : decode cX6_noSheet 1 = .ok (.i2l, 1) := by decide +kernel
theorem dX6_noSheet_2 : decode cX6_noSheet 2 = .ok (.lconst 0, 1) := by decide +kernel
theorem dX6_noSheet_3 : decode cX6_noSheet 3 = .ok (.ldc2_w 203, 3) := by decide +kernel
theorem dX6_noSheet_6 : decode cX6_noSheet 6 = .ok (.invokestatic 87, 3) := by decide +kernel
theorem dX6_noSheet_9 : decode cX6_noSheet 9 = .ok (.ifCond .ne 7, 3) := by decide +kernel
theorem dX6_noSheet_12 : decode cX6_noSheet 12 = .ok (.iconst 1, 1) := by decide +kernel
theorem dX6_noSheet_13 : decode cX6_noSheet 13 = .ok (.goto 4, 3) := by decide +kernel
theorem dX6_noSheet_16 : decode cX6_noSheet 16 = .ok (.iconst 0, 1) := by decide +kernel
theorem dX6_noSheet_17 : decode cX6_noSheet 17 = .ok (.ireturn, 1) := by decide +kernel
set_option maxRecDepth 20000 in
theorem ggX6_sheet_X6_noSheet : GoodIn wsX6_sheet wsX6_noSheet := goodIn_r _ [8, 9, 10, 11, 7, 12] (by decide +kernel) (by decide +kernel)
set_option maxRecDepth 20000 in
theorem gX6_sheet_X6_noSheet : GoodIn wsX6_sheet (va_wsS RX6 77 yX6_noSheet wsX6_noSheet) := goodIn_app (goodIn_of _ (by decide +kernel)) ggX6_sheet_X6_noSheet
set_option maxRecDepth 20000 in
theorem ggX6_sheet_X6_refused : GoodIn wsX6_sheet wsX6_refused := goodIn_r _ [16, 17, 22, 23, 24, 25, 26, 27, 28, 29, 30, 31, 32, 33, 34, 35, 36, 37, 38, 39, 40, 41, 42, 43, 44, 45, 46, 47, 48] (by decide +kernel) (by decide +kernel)
set_option maxRecDepth 20000 in
theorem gX6_sheet_X6_refused : GoodIn wsX6_sheet (wsV RX6 81 RX6 yX6_refused wsX6_refused) := goodIn_app (goodIn_of _ (by decide +kernel)) ggX6_sheet_X6_refused
set_option maxRecDepth 20000 in
theorem ggX6_sheet_X6_in : GoodIn wsX6_sheet wsX6_in := goodIn_r _ [12] (by decide +kernel) (by decide +kernel)
set_option maxRecDepth 20000 in
theorem gX6_sheet_X6_in : GoodIn wsX6_sheet (va_wsS RX6 87 yX6_in wsX6_in) := goodIn_app (goodIn_of _ (by decide +kernel)) ggX6_sheet_X6_in
set_option maxRecDepth 20000 in
theorem ggX6_sheet_X6_failed : GoodIn wsX6_sheet wsX6_failed := goodIn_r _ [21, 17, 22, 23, 24, 25, 26, 27, 28, 29, 30, 31, 32, 33, 34, 35, 36, 37, 38, 39, 40, 41, 42, 43, 44, 45, 46, 47, 48] (by decide +kernel) (by decide +kernel)
set_option maxRecDepth 20000 in
theorem gX6_sheet_X6_failed : GoodIn wsX6_sheet (wsV RX6 91 RX6 yX6_failed wsX6_failed) := goodIn_app (goodIn_of _ (by decide +kernel)) ggX6_sheet_X6_failed
theorem dX6_sheet_0 : decode cX6_sheet 0 = .ok (.iload_n 1, 1) := by decide +kernel
theorem dX6_sheet_1 : decode cX6_sheet 1 = .ok (.invokestatic 77, 3) := by decide +kernel
theorem dX6_sheet_4 : decode cX6_sheet 4 = .ok (.ifCond .eq 9, 3) := by decide +kernel
theorem dX6_sheet_7 : decode cX6_sheet 7 = .ok (.aload_n 0, 1) := by decide +kernel
theorem dX6_sheet_8 : decode cX6_sheet 8 = .ok (.iconst (-1), 1) := by decide +kernel
theorem dX6_sheet_9 : decode cX6_sheet 9 = .ok (.invokevirtual 81, 3) := by decide +kernel
theorem dX6_sheet_12 : decode cX6_sheet 12 = .ok (.ireturn, 1) := by decide +kernel
theorem dX6_sheet_13 : decode cX6_sheet 13 = .ok (.iload_n 2, 1) := by decide +kernel
theorem dX6_sheet_14 : decode cX6_sheet 14 = .ok (.i2l, 1) := by decide +kernel
theorem dX6_sheet_15 : decode cX6_sheet 15 = .ok (.lconst 0, 1) := by decide +kernel
theorem dX6_sheet_16 : decode cX6_sheet 16 = .ok (.ldc2_w 85, 3) := by decide +kernel
theorem dX6_sheet_19 : decode cX6_sheet 19 = .ok (.invokestatic 87, 3) := by decide +kernel
theorem dX6_sheet_22 : decode cX6_sheet 22 = .ok (.ifCond .eq 9, 3) := by decide +kernel
theorem dX6_sheet_25 : decode cX6_sheet 25 = .ok (.iload_n 3, 1) := by decide +kernel
theorem dX6_sheet_26 : decode cX6_sheet 26 = .ok (.bipush 60, 2) := by decide +kernel
theorem dX6_sheet_28 : decode cX6_sheet 28 = .ok (.if_icmp .le 10, 3) := by decide +kernel
theorem dX6_sheet_31 : decode cX6_sheet 31 = .ok (.aload_n 0, 1) := by decide +kernel
theorem dX6_sheet_32 : decode cX6_sheet 32 = .ok (.bipush (-2), 2) := by decide +kernel
theorem dX6_sheet_34 : decode cX6_sheet 34 = .ok (.invokevirtual 81, 3) := by decide +kernel
theorem dX6_sheet_37 : decode cX6_sheet 37 = .ok (.ireturn, 1) := by decide +kernel
theorem dX6_sheet_38 : decode cX6_sheet 38 = .ok (.iload_n 3, 1) := by decide +kernel
theorem dX6_sheet_39 : decode cX6_sheet 39 = .ok (.ifCond .ge 9, 3) := by decide +kernel
theorem dX6_sheet_42 : decode cX6_sheet 42 = .ok (.aload_n 0, 1) := by decide +kernel
theorem dX6_sheet_43 : decode cX6_sheet 43 = .ok (.iconst 4, 1) := by decide +kernel
theorem dX6_sheet_44 : decode cX6_sheet 44 = .ok (.invokevirtual 91, 3) := by decide +kernel
theorem dX6_sheet_47 : decode cX6_sheet 47 = .ok (.ireturn, 1) := by decide +kernel
theorem dX6_sheet_48 : decode cX6_sheet 48 = .ok (.aload_n 0, 1) := by decide +kernel
theorem dX6_sheet_49 : decode cX6_sheet 49 = .ok (.getfield 55, 3) := by decide +kernel
theorem dX6_sheet_52 : decode cX6_sheet 52 = .ok (.iload_n 1, 1) := by decide +kernel
theorem dX6_sheet_53 : decode cX6_sheet 53 = .ok (.iload_n 3, 1) := by decide +kernel
theorem dX6_sheet_54 : decode cX6_sheet 54 = .ok (.iastore, 1) := by decide +kernel
theorem dX6_sheet_55 : decode cX6_sheet 55 = .ok (.aload_n 0, 1) := by decide +kernel
theorem dX6_sheet_56 : decode cX6_sheet 56 = .ok (.getfield 58, 3) := by decide +kernel
theorem dX6_sheet_59 : decode cX6_sheet 59 = .ok (.iload_n 1, 1) := by decide +kernel
theorem dX6_sheet_60 : decode cX6_sheet 60 = .ok (.iload_n 2, 1) := by decide +kernel
theorem dX6_sheet_61 : decode cX6_sheet 61 = .ok (.iastore, 1) := by decide +kernel
theorem dX6_sheet_62 : decode cX6_sheet 62 = .ok (.iconst 0, 1) := by decide +kernel
theorem dX6_sheet_63 : decode cX6_sheet 63 = .ok (.istore 4, 2) := by decide +kernel
theorem dX6_sheet_65 : decode cX6_sheet 65 = .ok (.iload 4, 2) := by decide +kernel
theorem dX6_sheet_67 : decode cX6_sheet 67 = .ok (.iload_n 3, 1) := by decide +kernel
theorem dX6_sheet_68 : decode cX6_sheet 68 = .ok (.if_icmp .ge 22, 3) := by decide +kernel
theorem dX6_sheet_71 : decode cX6_sheet 71 = .ok (.aload_n 0, 1) := by decide +kernel
theorem dX6_sheet_72 : decode cX6_sheet 72 = .ok (.getfield 61, 3) := by decide +kernel
theorem dX6_sheet_75 : decode cX6_sheet 75 = .ok (.bipush 60, 2) := by decide +kernel
theorem dX6_sheet_77 : decode cX6_sheet 77 = .ok (.iload_n 1, 1) := by decide +kernel
theorem dX6_sheet_78 : decode cX6_sheet 78 = .ok (.imul, 1) := by decide +kernel
theorem dX6_sheet_79 : decode cX6_sheet 79 = .ok (.iload 4, 2) := by decide +kernel
theorem dX6_sheet_81 : decode cX6_sheet 81 = .ok (.iadd, 1) := by decide +kernel
theorem dX6_sheet_82 : decode cX6_sheet 82 = .ok (.iconst 0, 1) := by decide +kernel
theorem dX6_sheet_83 : decode cX6_sheet 83 = .ok (.iastore, 1) := by decide +kernel
theorem dX6_sheet_84 : decode cX6_sheet 84 = .ok (.iinc 4 1, 3) := by decide +kernel
theorem dX6_sheet_87 : decode cX6_sheet 87 = .ok (.goto (-22), 3) := by decide +kernel
theorem dX6_sheet_90 : decode cX6_sheet 90 = .ok (.aload_n 0, 1) := by decide +kernel
theorem dX6_sheet_91 : decode cX6_sheet 91 = .ok (.iconst 1, 1) := by decide +kernel
theorem dX6_sheet_92 : decode cX6_sheet 92 = .ok (.invokevirtual 81, 3) := by decide +kernel
theorem dX6_sheet_95 : decode cX6_sheet 95 = .ok (.ireturn, 1) := by decide +kernel
set_option maxRecDepth 20000 in
theorem ggX6_lose_X6_noSheet : GoodIn wsX6_lose wsX6_noSheet := goodIn_r _ [5, 6, 7, 8, 4, 9] (by decide +kernel) (by decide +kernel)
set_option maxRecDepth 20000 in
theorem gX6_lose_X6_noSheet : GoodIn wsX6_lose (va_wsS RX6 77 yX6_noSheet wsX6_noSheet) := goodIn_app (goodIn_of _ (by decide +kernel)) ggX6_lose_X6_noSheet
theorem dX6_lose_0 : decode cX6_lose 0 = .ok (.iload_n 1, 1) := by decide +kernel
theorem dX6_lose_1 : decode cX6_lose 1 = .ok (.invokestatic 77, 3) := by decide +kernel
theorem dX6_lose_4 : decode cX6_lose 4 = .ok (.ifCond .eq 5, 3) := by decide +kernel
theorem dX6_lose_7 : decode cX6_lose 7 = .ok (.iconst (-1), 1) := by decide +kernel
theorem dX6_lose_8 : decode cX6_lose 8 = .ok (.ireturn, 1) := by decide +kernel
theorem dX6_lose_9 : decode cX6_lose 9 = .ok (.aload_n 0, 1) := by decide +kernel
theorem dX6_lose_10 : decode cX6_lose 10 = .ok (.getfield 55, 3) := by decide +kernel
theorem dX6_lose_13 : decode cX6_lose 13 = .ok (.iload_n 1, 1) := by decide +kernel
theorem dX6_lose_14 : decode cX6_lose 14 = .ok (.iaload, 1) := by decide +kernel
theorem dX6_lose_15 : decode cX6_lose 15 = .ok (.ifCond .ge 7, 3) := by decide +kernel
theorem dX6_lose_18 : decode cX6_lose 18 = .ok (.iconst 0, 1) := by decide +kernel
theorem dX6_lose_19 : decode cX6_lose 19 = .ok (.goto 4, 3) := by decide +kernel
theorem dX6_lose_22 : decode cX6_lose 22 = .ok (.iconst 1, 1) := by decide +kernel
theorem dX6_lose_23 : decode cX6_lose 23 = .ok (.istore_n 2, 1) := by decide +kernel
theorem dX6_lose_24 : decode cX6_lose 24 = .ok (.aload_n 0, 1) := by decide +kernel
theorem dX6_lose_25 : decode cX6_lose 25 = .ok (.getfield 55, 3) := by decide +kernel
theorem dX6_lose_28 : decode cX6_lose 28 = .ok (.iload_n 1, 1) := by decide +kernel
theorem dX6_lose_29 : decode cX6_lose 29 = .ok (.iconst (-1), 1) := by decide +kernel
theorem dX6_lose_30 : decode cX6_lose 30 = .ok (.iastore, 1) := by decide +kernel
theorem dX6_lose_31 : decode cX6_lose 31 = .ok (.iload_n 2, 1) := by decide +kernel
theorem dX6_lose_32 : decode cX6_lose 32 = .ok (.ireturn, 1) := by decide +kernel
set_option maxRecDepth 20000 in
theorem ggX6_noCell_X6_in : GoodIn wsX6_noCell wsX6_in := goodIn_r _ [5] (by decide +kernel) (by decide +kernel)
set_option maxRecDepth 20000 in
theorem gX6_noCell_X6_in : GoodIn wsX6_noCell (va_wsS RX6 87 yX6_in wsX6_in) := goodIn_app (goodIn_of _ (by decide +kernel)) ggX6_noCell_X6_in
theorem dX6_noCell_0 : decode cX6_noCell 0 = .ok (.aload_n 0, 1) := by decide +kernel
theorem dX6_noCell_1 : decode cX6_noCell 1 = .ok (.getfield 55, 3) := by decide +kernel
theorem dX6_noCell_4 : decode cX6_noCell 4 = .ok (.iload_n 1, 1) := by decide +kernel
theorem dX6_noCell_5 : decode cX6_noCell 5 = .ok (.iaload, 1) := by decide +kernel
theorem dX6_noCell_6 : decode cX6_noCell 6 = .ok (.ifCond .ge 7, 3) := by decide +kernel
theorem dX6_noCell_9 : decode cX6_noCell 9 = .ok (.iconst 1, 1) := by decide +kernel
theorem dX6_noCell_10 : decode cX6_noCell 10 = .ok (.goto 26, 3) := by decide +kernel
theorem dX6_noCell_13 : decode cX6_noCell 13 = .ok (.iload_n 2, 1) := by decide +kernel
theorem dX6_noCell_14 : decode cX6_noCell 14 = .ok (.i2l, 1) := by decide +kernel
theorem dX6_noCell_15 : decode cX6_noCell 15 = .ok (.lconst 0, 1) := by decide +kernel
theorem dX6_noCell_16 : decode cX6_noCell 16 = .ok (.aload_n 0, 1) := by decide +kernel
theorem dX6_noCell_17 : decode cX6_noCell 17 = .ok (.getfield 55, 3) := by decide +kernel
theorem dX6_noCell_20 : decode cX6_noCell 20 = .ok (.iload_n 1, 1) := by decide +kernel
theorem dX6_noCell_21 : decode cX6_noCell 21 = .ok (.iaload, 1) := by decide +kernel
theorem dX6_noCell_22 : decode cX6_noCell 22 = .ok (.i2l, 1) := by decide +kernel
theorem dX6_noCell_23 : decode cX6_noCell 23 = .ok (.lconst 1, 1) := by decide +kernel
theorem dX6_noCell_24 : decode cX6_noCell 24 = .ok (.lsub, 1) := by decide +kernel
theorem dX6_noCell_25 : decode cX6_noCell 25 = .ok (.invokestatic 87, 3) := by decide +kernel
theorem dX6_noCell_28 : decode cX6_noCell 28 = .ok (.ifCond .eq 7, 3) := by decide +kernel
theorem dX6_noCell_31 : decode cX6_noCell 31 = .ok (.iconst 0, 1) := by decide +kernel
theorem dX6_noCell_32 : decode cX6_noCell 32 = .ok (.goto 4, 3) := by decide +kernel
theorem dX6_noCell_35 : decode cX6_noCell 35 = .ok (.iconst 3, 1) := by decide +kernel
theorem dX6_noCell_36 : decode cX6_noCell 36 = .ok (.ireturn, 1) := by decide +kernel
set_option maxRecDepth 20000 in
theorem ggX6_put_X6_noSheet : GoodIn wsX6_put wsX6_noSheet := goodIn_r _ [6, 7, 8, 9, 5, 10] (by decide +kernel) (by decide +kernel)
set_option maxRecDepth 20000 in
theorem gX6_put_X6_noSheet : GoodIn wsX6_put (va_wsS RX6 77 yX6_noSheet wsX6_noSheet) := goodIn_app (goodIn_of _ (by decide +kernel)) ggX6_put_X6_noSheet
set_option maxRecDepth 20000 in
theorem ggX6_put_X6_refused : GoodIn wsX6_put wsX6_refused := goodIn_r _ [14, 15, 25, 26, 27, 28, 29, 30, 31, 32, 33, 34, 35, 36, 37, 38, 39, 40, 41, 42, 43, 44, 45, 46, 47, 48, 49, 50, 51] (by decide +kernel) (by decide +kernel)
set_option maxRecDepth 20000 in
theorem gX6_put_X6_refused : GoodIn wsX6_put (wsV RX6 81 RX6 yX6_refused wsX6_refused) := goodIn_app (goodIn_of _ (by decide +kernel)) ggX6_put_X6_refused
set_option maxRecDepth 20000 in
theorem ggX6_put_X6_noCell : GoodIn wsX6_put wsX6_noCell := goodIn_r _ [19, 20, 8, 9, 5, 10, 25, 26, 27, 28, 29, 30, 31, 32, 33, 34, 35, 36, 37, 38, 39, 40, 41, 42, 43, 44, 45, 46, 47, 48, 49, 50, 51] (by decide +kernel) (by decide +kernel)
set_option maxRecDepth 20000 in
theorem gX6_put_X6_noCell : GoodIn wsX6_put (wsV RX6 205 RX6 yX6_noCell wsX6_noCell) := goodIn_app (goodIn_of _ (by decide +kernel)) ggX6_put_X6_noCell
set_option maxRecDepth 20000 in
theorem ggX6_put_X6_failed : GoodIn wsX6_put wsX6_failed := goodIn_r _ [24, 15, 25, 26, 27, 28, 29, 30, 31, 32, 33, 34, 35, 36, 37, 38, 39, 40, 41, 42, 43, 44, 45, 46, 47, 48, 49, 50, 51] (by decide +kernel) (by decide +kernel)
set_option maxRecDepth 20000 in
theorem gX6_put_X6_failed : GoodIn wsX6_put (wsV RX6 91 RX6 yX6_failed wsX6_failed) := goodIn_app (goodIn_of _ (by decide +kernel)) ggX6_put_X6_failed
theorem dX6_put_0 : decode cX6_put 0 = .ok (.iload_n 1, 1) := by decide +kernel
theorem dX6_put_1 : decode cX6_put 1 = .ok (.invokestatic 77, 3) := by decide +kernel
theorem dX6_put_4 : decode cX6_put 4 = .ok (.ifCond .eq 9, 3) := by decide +kernel
theorem dX6_put_7 : decode cX6_put 7 = .ok (.aload_n 0, 1) := by decide +kernel
theorem dX6_put_8 : decode cX6_put 8 = .ok (.iconst (-1), 1) := by decide +kernel
theorem dX6_put_9 : decode cX6_put 9 = .ok (.invokevirtual 81, 3) := by decide +kernel
theorem dX6_put_12 : decode cX6_put 12 = .ok (.ireturn, 1) := by decide +kernel
theorem dX6_put_13 : decode cX6_put 13 = .ok (.aload_n 0, 1) := by decide +kernel
theorem dX6_put_14 : decode cX6_put 14 = .ok (.iload_n 1, 1) := by decide +kernel
theorem dX6_put_15 : decode cX6_put 15 = .ok (.iload_n 2, 1) := by decide +kernel
theorem dX6_put_16 : decode cX6_put 16 = .ok (.invokevirtual 205, 3) := by decide +kernel
theorem dX6_put_19 : decode cX6_put 19 = .ok (.ifCond .le 14, 3) := by decide +kernel
theorem dX6_put_22 : decode cX6_put 22 = .ok (.aload_n 0, 1) := by decide +kernel
theorem dX6_put_23 : decode cX6_put 23 = .ok (.aload_n 0, 1) := by decide +kernel
theorem dX6_put_24 : decode cX6_put 24 = .ok (.iload_n 1, 1) := by decide +kernel
theorem dX6_put_25 : decode cX6_put 25 = .ok (.iload_n 2, 1) := by decide +kernel
theorem dX6_put_26 : decode cX6_put 26 = .ok (.invokevirtual 205, 3) := by decide +kernel
theorem dX6_put_29 : decode cX6_put 29 = .ok (.invokevirtual 91, 3) := by decide +kernel
theorem dX6_put_32 : decode cX6_put 32 = .ok (.ireturn, 1) := by decide +kernel
theorem dX6_put_33 : decode cX6_put 33 = .ok (.aload_n 0, 1) := by decide +kernel
theorem dX6_put_34 : decode cX6_put 34 = .ok (.getfield 61, 3) := by decide +kernel
theorem dX6_put_37 : decode cX6_put 37 = .ok (.bipush 60, 2) := by decide +kernel
theorem dX6_put_39 : decode cX6_put 39 = .ok (.iload_n 1, 1) := by decide +kernel
theorem dX6_put_40 : decode cX6_put 40 = .ok (.imul, 1) := by decide +kernel
theorem dX6_put_41 : decode cX6_put 41 = .ok (.iload_n 2, 1) := by decide +kernel
theorem dX6_put_42 : decode cX6_put 42 = .ok (.iadd, 1) := by decide +kernel
theorem dX6_put_43 : decode cX6_put 43 = .ok (.aload_n 0, 1) := by decide +kernel
theorem dX6_put_44 : decode cX6_put 44 = .ok (.getfield 58, 3) := by decide +kernel
theorem dX6_put_47 : decode cX6_put 47 = .ok (.iload_n 1, 1) := by decide +kernel
theorem dX6_put_48 : decode cX6_put 48 = .ok (.iaload, 1) := by decide +kernel
theorem dX6_put_49 : decode cX6_put 49 = .ok (.ifCond .ne 8, 3) := by decide +kernel
theorem dX6_put_52 : decode cX6_put 52 = .ok (.iload_n 3, 1) := by decide +kernel
theorem dX6_put_53 : decode cX6_put 53 = .ok (.i2b, 1) := by decide +kernel
theorem dX6_put_54 : decode cX6_put 54 = .ok (.goto 19, 3) := by decide +kernel
theorem dX6_put_57 : decode cX6_put 57 = .ok (.aload_n 0, 1) := by decide +kernel
theorem dX6_put_58 : decode cX6_put 58 = .ok (.getfield 58, 3) := by decide +kernel
theorem dX6_put_61 : decode cX6_put 61 = .ok (.iload_n 1, 1) := by decide +kernel
theorem dX6_put_62 : decode cX6_put 62 = .ok (.iaload, 1) := by decide +kernel
theorem dX6_put_63 : decode cX6_put 63 = .ok (.iconst 1, 1) := by decide +kernel
theorem dX6_put_64 : decode cX6_put 64 = .ok (.if_icmp .ne 8, 3) := by decide +kernel
theorem dX6_put_67 : decode cX6_put 67 = .ok (.iload_n 3, 1) := by decide +kernel
theorem dX6_put_68 : decode cX6_put 68 = .ok (.i2s, 1) := by decide +kernel
theorem dX6_put_69 : decode cX6_put 69 = .ok (.goto 4, 3) := by decide +kernel
theorem dX6_put_72 : decode cX6_put 72 = .ok (.iload_n 3, 1) := by decide +kernel
theorem dX6_put_73 : decode cX6_put 73 = .ok (.iastore, 1) := by decide +kernel
theorem dX6_put_74 : decode cX6_put 74 = .ok (.aload_n 0, 1) := by decide +kernel
theorem dX6_put_75 : decode cX6_put 75 = .ok (.iconst 1, 1) := by decide +kernel
theorem dX6_put_76 : decode cX6_put 76 = .ok (.invokevirtual 81, 3) := by decide +kernel
theorem dX6_put_79 : decode cX6_put 79 = .ok (.ireturn, 1) := by decide +kernel
set_option maxRecDepth 20000 in
theorem ggX6_cell_X6_noSheet : GoodIn wsX6_cell wsX6_noSheet := goodIn_r _ [9, 10, 11, 12, 8, 13] (by decide +kernel) (by decide +kernel)
set_option maxRecDepth 20000 in
theorem gX6_cell_X6_noSheet : GoodIn wsX6_cell (va_wsS RX6 77 yX6_noSheet wsX6_noSheet) := goodIn_app (goodIn_of _ (by decide +kernel)) ggX6_cell_X6_noSheet
set_option maxRecDepth 20000 in
theorem ggX6_cell_X6_in : GoodIn wsX6_cell wsX6_in := goodIn_r _ [13] (by decide +kernel) (by decide +kernel)
set_option maxRecDepth 20000 in
theorem gX6_cell_X6_in : GoodIn wsX6_cell (va_wsS RX6 87 yX6_in wsX6_in) := goodIn_app (goodIn_of _ (by decide +kernel)) ggX6_cell_X6_in
