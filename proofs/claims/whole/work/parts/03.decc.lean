theorem dX5_secret_46 : decode cX5_secret 46 = .ok (.iconst 0, 1) := by decide +kernel
theorem dX5_secret_47 : decode cX5_secret 47 = .ok (.istore 5, 2) := by decide +kernel
theorem dX5_secret_49 : decode cX5_secret 49 = .ok (.iload 5, 2) := by decide +kernel
theorem dX5_secret_51 : decode cX5_secret 51 = .ok (.aload_n 0, 1) := by decide +kernel
theorem dX5_secret_52 : decode cX5_secret 52 = .ok (.getfield 28, 3) := by decide +kernel
theorem dX5_secret_55 : decode cX5_secret 55 = .ok (.invokevirtual 158, 3) := by decide +kernel
theorem dX5_secret_58 : decode cX5_secret 58 = .ok (.if_icmp .ge 31, 3) := by decide +kernel
theorem dX5_secret_61 : decode cX5_secret 61 = .ok (.aload_n 0, 1) := by decide +kernel
theorem dX5_secret_62 : decode cX5_secret 62 = .ok (.iload_n 1, 1) := by decide +kernel
theorem dX5_secret_63 : decode cX5_secret 63 = .ok (.iload_n 2, 1) := by decide +kernel
theorem dX5_secret_64 : decode cX5_secret 64 = .ok (.iload_n 3, 1) := by decide +kernel
theorem dX5_secret_65 : decode cX5_secret 65 = .ok (.iload 5, 2) := by decide +kernel
theorem dX5_secret_67 : decode cX5_secret 67 = .ok (.aload_n 0, 1) := by decide +kernel
theorem dX5_secret_68 : decode cX5_secret 68 = .ok (.getfield 50, 3) := by decide +kernel
theorem dX5_secret_71 : decode cX5_secret 71 = .ok (.iload 4, 2) := by decide +kernel
theorem dX5_secret_73 : decode cX5_secret 73 = .ok (.iaload, 1) := by decide +kernel
theorem dX5_secret_74 : decode cX5_secret 74 = .ok (.invokevirtual 171, 3) := by decide +kernel
theorem dX5_secret_77 : decode cX5_secret 77 = .ok (.ifCond .eq 6, 3) := by decide +kernel
theorem dX5_secret_80 : decode cX5_secret 80 = .ok (.iload 5, 2) := by decide +kernel
theorem dX5_secret_82 : decode cX5_secret 82 = .ok (.ireturn, 1) := by decide +kernel
theorem dX5_secret_83 : decode cX5_secret 83 = .ok (.iinc 5 1, 3) := by decide +kernel
theorem dX5_secret_86 : decode cX5_secret 86 = .ok (.goto (-37), 3) := by decide +kernel
theorem dX5_secret_89 : decode cX5_secret 89 = .ok (.bipush (-9), 2) := by decide +kernel
theorem dX5_secret_91 : decode cX5_secret 91 = .ok (.ireturn, 1) := by decide +kernel
set_option maxRecDepth 20000 in
theorem ggX5_shortest_X4_isThing : GoodIn wsX5_shortest wsX4_isThing := goodIn_r _ [7, 8, 50, 51, 52, 53, 54, 55, 56, 57, 58] (by decide +kernel) (by decide +kernel)
set_option maxRecDepth 20000 in
theorem gX5_shortest_X4_isThing : GoodIn wsX5_shortest (wsV RX5 84 RX4 yX4_isThing wsX4_isThing) := goodIn_app (goodIn_of _ (by decide +kernel)) ggX5_shortest_X4_isThing
set_option maxRecDepth 20000 in
theorem ggX5_shortest_X5_isHour : GoodIn wsX5_shortest wsX5_isHour := goodIn_r _ [12] (by decide +kernel) (by decide +kernel)
set_option maxRecDepth 20000 in
theorem gX5_shortest_X5_isHour : GoodIn wsX5_shortest (va_wsS RX5 112 yX5_isHour wsX5_isHour) := goodIn_app (goodIn_of _ (by decide +kernel)) ggX5_shortest_X5_isHour
set_option maxRecDepth 20000 in
theorem ggX5_shortest_X4_sets : GoodIn wsX5_shortest wsX4_sets := goodIn_r _ [16, 8, 50, 51, 52, 53, 54, 55, 56, 57, 58] (by decide +kernel) (by decide +kernel)
set_option maxRecDepth 20000 in
theorem gX5_shortest_X4_sets : GoodIn wsX5_shortest (wsV RX5 158 RX4 yX4_sets wsX4_sets) := goodIn_app (goodIn_of _ (by decide +kernel)) ggX5_shortest_X4_sets
set_option maxRecDepth 20000 in
theorem ggX5_shortest_J6_bitCount_0f7a4 : GoodIn wsX5_shortest wsJ6_bitCount_0f7a4 := goodIn_r _ [20, 21, 22, 23] (by decide +kernel) (by decide +kernel)
set_option maxRecDepth 20000 in
theorem gX5_shortest_J6_bitCount_0f7a4 : GoodIn wsX5_shortest (va_wsS RX5 175 yJ6_bitCount_0f7a4 wsJ6_bitCount_0f7a4) := goodIn_app (goodIn_of _ (by decide +kernel)) ggX5_shortest_J6_bitCount_0f7a4
set_option maxRecDepth 20000 in
theorem ggX5_shortest_X5_tells : GoodIn wsX5_shortest wsX5_tells := goodIn_r _ [27, 1, 28, 29, 30, 31, 32, 6, 33, 34, 35, 11, 36, 37, 38, 39, 40, 41, 42, 43, 44, 45, 46, 47, 48, 49, 50, 51, 52, 53, 54, 55, 56, 57, 58] (by decide +kernel) (by decide +kernel)
set_option maxRecDepth 20000 in
theorem gX5_shortest_X5_tells : GoodIn wsX5_shortest (wsV RX5 180 RX5 yX5_tells wsX5_tells) := goodIn_app (goodIn_of _ (by decide +kernel)) ggX5_shortest_X5_tells
theorem dX5_shortest_0 : decode cX5_shortest 0 = .ok (.aload_n 0, 1) := by decide +kernel
theorem dX5_shortest_1 : decode cX5_shortest 1 = .ok (.getfield 28, 3) := by decide +kernel
theorem dX5_shortest_4 : decode cX5_shortest 4 = .ok (.iload_n 1, 1) := by decide +kernel
theorem dX5_shortest_5 : decode cX5_shortest 5 = .ok (.invokevirtual 84, 3) := by decide +kernel
theorem dX5_shortest_8 : decode cX5_shortest 8 = .ok (.ifCond .eq 10, 3) := by decide +kernel
theorem dX5_shortest_11 : decode cX5_shortest 11 = .ok (.iload_n 2, 1) := by decide +kernel
theorem dX5_shortest_12 : decode cX5_shortest 12 = .ok (.invokestatic 112, 3) := by decide +kernel
theorem dX5_shortest_15 : decode cX5_shortest 15 = .ok (.ifCond .ne 5, 3) := by decide +kernel
theorem dX5_shortest_18 : decode cX5_shortest 18 = .ok (.iconst (-1), 1) := by decide +kernel
theorem dX5_shortest_19 : decode cX5_shortest 19 = .ok (.ireturn, 1) := by decide +kernel
theorem dX5_shortest_20 : decode cX5_shortest 20 = .ok (.bipush (-9), 2) := by decide +kernel
theorem dX5_shortest_22 : decode cX5_shortest 22 = .ok (.istore_n 3, 1) := by decide +kernel
theorem dX5_shortest_23 : decode cX5_shortest 23 = .ok (.bipush 7, 2) := by decide +kernel
theorem dX5_shortest_25 : decode cX5_shortest 25 = .ok (.istore 4, 2) := by decide +kernel
theorem dX5_shortest_27 : decode cX5_shortest 27 = .ok (.iconst 0, 1) := by decide +kernel
theorem dX5_shortest_28 : decode cX5_shortest 28 = .ok (.istore 5, 2) := by decide +kernel
theorem dX5_shortest_30 : decode cX5_shortest 30 = .ok (.iload 5, 2) := by decide +kernel
theorem dX5_shortest_32 : decode cX5_shortest 32 = .ok (.aload_n 0, 1) := by decide +kernel
theorem dX5_shortest_33 : decode cX5_shortest 33 = .ok (.getfield 28, 3) := by decide +kernel
theorem dX5_shortest_36 : decode cX5_shortest 36 = .ok (.invokevirtual 158, 3) := by decide +kernel
theorem dX5_shortest_39 : decode cX5_shortest 39 = .ok (.if_icmp .ge 46, 3) := by decide +kernel
theorem dX5_shortest_42 : decode cX5_shortest 42 = .ok (.iload 5, 2) := by decide +kernel
theorem dX5_shortest_44 : decode cX5_shortest 44 = .ok (.invokestatic 175, 3) := by decide +kernel
theorem dX5_shortest_47 : decode cX5_shortest 47 = .ok (.istore 6, 2) := by decide +kernel
theorem dX5_shortest_49 : decode cX5_shortest 49 = .ok (.iload 6, 2) := by decide +kernel
theorem dX5_shortest_51 : decode cX5_shortest 51 = .ok (.iload 4, 2) := by decide +kernel
theorem dX5_shortest_53 : decode cX5_shortest 53 = .ok (.if_icmp .ge 26, 3) := by decide +kernel
theorem dX5_shortest_56 : decode cX5_shortest 56 = .ok (.aload_n 0, 1) := by decide +kernel
theorem dX5_shortest_57 : decode cX5_shortest 57 = .ok (.iload_n 1, 1) := by decide +kernel
theorem dX5_shortest_58 : decode cX5_shortest 58 = .ok (.iload 5, 2) := by decide +kernel
theorem dX5_shortest_60 : decode cX5_shortest 60 = .ok (.aload_n 0, 1) := by decide +kernel
theorem dX5_shortest_61 : decode cX5_shortest 61 = .ok (.getfield 50, 3) := by decide +kernel
theorem dX5_shortest_64 : decode cX5_shortest 64 = .ok (.iload_n 2, 1) := by decide +kernel
theorem dX5_shortest_65 : decode cX5_shortest 65 = .ok (.iaload, 1) := by decide +kernel
theorem dX5_shortest_66 : decode cX5_shortest 66 = .ok (.invokevirtual 180, 3) := by decide +kernel
theorem dX5_shortest_69 : decode cX5_shortest 69 = .ok (.ifCond .eq 10, 3) := by decide +kernel
theorem dX5_shortest_72 : decode cX5_shortest 72 = .ok (.iload 5, 2) := by decide +kernel
theorem dX5_shortest_74 : decode cX5_shortest 74 = .ok (.istore_n 3, 1) := by decide +kernel
theorem dX5_shortest_75 : decode cX5_shortest 75 = .ok (.iload 6, 2) := by decide +kernel
theorem dX5_shortest_77 : decode cX5_shortest 77 = .ok (.istore 4, 2) := by decide +kernel
theorem dX5_shortest_79 : decode cX5_shortest 79 = .ok (.iinc 5 1, 3) := by decide +kernel
theorem dX5_shortest_82 : decode cX5_shortest 82 = .ok (.goto (-52), 3) := by decide +kernel
theorem dX5_shortest_85 : decode cX5_shortest 85 = .ok (.iload_n 3, 1) := by decide +kernel
theorem dX5_shortest_86 : decode cX5_shortest 86 = .ok (.ireturn, 1) := by decide +kernel
set_option maxRecDepth 20000 in
theorem ggX5_two_X5_isHour : GoodIn wsX5_two wsX5_isHour := goodIn_r _ [7] (by decide +kernel) (by decide +kernel)
set_option maxRecDepth 20000 in
theorem gX5_two_X5_isHour : GoodIn wsX5_two (va_wsS RX5 112 yX5_isHour wsX5_isHour) := goodIn_app (goodIn_of _ (by decide +kernel)) ggX5_two_X5_isHour
set_option maxRecDepth 20000 in
theorem ggX5_two_X4_isSet : GoodIn wsX5_two wsX4_isSet := goodIn_r _ [12, 13, 14, 15, 11, 16, 17, 18, 19, 20, 21, 71, 72, 73, 74, 75, 76, 77, 78, 79] (by decide +kernel) (by decide +kernel)
set_option maxRecDepth 20000 in
theorem gX5_two_X4_isSet : GoodIn wsX5_two (wsV RX5 168 RX4 yX4_isSet wsX4_isSet) := goodIn_app (goodIn_of _ (by decide +kernel)) ggX5_two_X4_isSet
set_option maxRecDepth 20000 in
theorem ggX5_two_X5_hasTown : GoodIn wsX5_two wsX5_hasTown := goodIn_r _ [25, 1, 26, 61, 62, 63, 64, 65, 66, 67, 68, 69, 70, 71, 72, 73, 74, 75, 76, 77, 78, 79] (by decide +kernel) (by decide +kernel)
set_option maxRecDepth 20000 in
theorem gX5_two_X5_hasTown : GoodIn wsX5_two (wsV RX5 118 RX5 yX5_hasTown wsX5_hasTown) := goodIn_app (goodIn_of _ (by decide +kernel)) ggX5_two_X5_hasTown
set_option maxRecDepth 20000 in
theorem ggX5_two_X0_begin : GoodIn wsX5_two wsX0_begin := goodIn_r _ [31, 32, 33, 34, 35, 36, 37, 38, 71, 72, 73, 74, 75, 76, 77, 78, 79, 80, 81, 82, 83, 84] (by decide +kernel) (by decide +kernel)
set_option maxRecDepth 20000 in
theorem gX5_two_X0_begin : GoodIn wsX5_two (wsV RX5 184 RX0 yX0_begin wsX0_begin) := goodIn_app (goodIn_of _ (by decide +kernel)) ggX5_two_X0_begin
set_option maxRecDepth 20000 in
theorem ggX5_two_X0_splitBy : GoodIn wsX5_two wsX0_splitBy := goodIn_r _ [42, 37, 38, 43, 44, 45, 46, 11, 47, 48, 49, 6, 50, 80, 81, 82, 83, 84, 71, 72, 73, 74, 75, 76, 77, 78, 79] (by decide +kernel) (by decide +kernel)
set_option maxRecDepth 20000 in
theorem gX5_two_X0_splitBy : GoodIn wsX5_two (wsV RX5 188 RX0 yX0_splitBy wsX0_splitBy) := goodIn_app (goodIn_of _ (by decide +kernel)) ggX5_two_X0_splitBy
set_option maxRecDepth 20000 in
theorem ggX5_two_X0_number : GoodIn wsX5_two wsX0_number := goodIn_r _ [54, 55, 37, 56, 57, 58, 59, 30, 60, 38, 80, 81, 82, 83, 84] (by decide +kernel) (by decide +kernel)
set_option maxRecDepth 20000 in
theorem gX5_two_X0_number : GoodIn wsX5_two (wsV RX5 155 RX0 yX0_number wsX0_number) := goodIn_app (goodIn_of _ (by decide +kernel)) ggX5_two_X0_number
theorem dX5_two_0 : decode cX5_two 0 = .ok (.iload_n 3, 1) := by decide +kernel
theorem dX5_two_1 : decode cX5_two 1 = .ok (.invokestatic 112, 3) := by decide +kernel
theorem dX5_two_4 : decode cX5_two 4 = .ok (.ifCond .ne 5, 3) := by decide +kernel
theorem dX5_two_7 : decode cX5_two 7 = .ok (.iconst (-1), 1) := by decide +kernel
theorem dX5_two_8 : decode cX5_two 8 = .ok (.ireturn, 1) := by decide +kernel
theorem dX5_two_9 : decode cX5_two 9 = .ok (.aload_n 0, 1) := by decide +kernel
theorem dX5_two_10 : decode cX5_two 10 = .ok (.getfield 28, 3) := by decide +kernel
theorem dX5_two_13 : decode cX5_two 13 = .ok (.iload_n 1, 1) := by decide +kernel
theorem dX5_two_14 : decode cX5_two 14 = .ok (.invokevirtual 168, 3) := by decide +kernel
theorem dX5_two_17 : decode cX5_two 17 = .ok (.ifCond .eq 14, 3) := by decide +kernel
theorem dX5_two_20 : decode cX5_two 20 = .ok (.aload_n 0, 1) := by decide +kernel
theorem dX5_two_21 : decode cX5_two 21 = .ok (.getfield 28, 3) := by decide +kernel
theorem dX5_two_24 : decode cX5_two 24 = .ok (.iload_n 2, 1) := by decide +kernel
theorem dX5_two_25 : decode cX5_two 25 = .ok (.invokevirtual 168, 3) := by decide +kernel
theorem dX5_two_28 : decode cX5_two 28 = .ok (.ifCond .ne 6, 3) := by decide +kernel
theorem dX5_two_31 : decode cX5_two 31 = .ok (.bipush (-2), 2) := by decide +kernel
theorem dX5_two_33 : decode cX5_two 33 = .ok (.ireturn, 1) := by decide +kernel
theorem dX5_two_34 : decode cX5_two 34 = .ok (.aload_n 0, 1) := by decide +kernel
theorem dX5_two_35 : decode cX5_two 35 = .ok (.invokevirtual 118, 3) := by decide +kernel
theorem dX5_two_38 : decode cX5_two 38 = .ok (.ifCond .ne 6, 3) := by decide +kernel
theorem dX5_two_41 : decode cX5_two 41 = .ok (.bipush (-3), 2) := by decide +kernel
theorem dX5_two_43 : decode cX5_two 43 = .ok (.ireturn, 1) := by decide +kernel
theorem dX5_two_44 : decode cX5_two 44 = .ok (.aload_n 0, 1) := by decide +kernel
theorem dX5_two_45 : decode cX5_two 45 = .ok (.getfield 35, 3) := by decide +kernel
theorem dX5_two_48 : decode cX5_two 48 = .ok (.aload_n 0, 1) := by decide +kernel
theorem dX5_two_49 : decode cX5_two 49 = .ok (.getfield 28, 3) := by decide +kernel
theorem dX5_two_52 : decode cX5_two 52 = .ok (.invokevirtual 184, 3) := by decide +kernel
theorem dX5_two_55 : decode cX5_two 55 = .ok (.aload_n 0, 1) := by decide +kernel
theorem dX5_two_56 : decode cX5_two 56 = .ok (.getfield 35, 3) := by decide +kernel
theorem dX5_two_59 : decode cX5_two 59 = .ok (.aload_n 0, 1) := by decide +kernel
theorem dX5_two_60 : decode cX5_two 60 = .ok (.getfield 28, 3) := by decide +kernel
theorem dX5_two_63 : decode cX5_two 63 = .ok (.iload_n 1, 1) := by decide +kernel
theorem dX5_two_64 : decode cX5_two 64 = .ok (.aload_n 0, 1) := by decide +kernel
theorem dX5_two_65 : decode cX5_two 65 = .ok (.getfield 50, 3) := by decide +kernel
theorem dX5_two_68 : decode cX5_two 68 = .ok (.iload_n 3, 1) := by decide +kernel
theorem dX5_two_69 : decode cX5_two 69 = .ok (.iaload, 1) := by decide +kernel
theorem dX5_two_70 : decode cX5_two 70 = .ok (.invokevirtual 188, 3) := by decide +kernel
theorem dX5_two_73 : decode cX5_two 73 = .ok (.aload_n 0, 1) := by decide +kernel
theorem dX5_two_74 : decode cX5_two 74 = .ok (.getfield 35, 3) := by decide +kernel
theorem dX5_two_77 : decode cX5_two 77 = .ok (.aload_n 0, 1) := by decide +kernel
theorem dX5_two_78 : decode cX5_two 78 = .ok (.getfield 28, 3) := by decide +kernel
theorem dX5_two_81 : decode cX5_two 81 = .ok (.iload_n 2, 1) := by decide +kernel
theorem dX5_two_82 : decode cX5_two 82 = .ok (.aload_n 0, 1) := by decide +kernel
theorem dX5_two_83 : decode cX5_two 83 = .ok (.getfield 50, 3) := by decide +kernel
theorem dX5_two_86 : decode cX5_two 86 = .ok (.iload_n 3, 1) := by decide +kernel
theorem dX5_two_87 : decode cX5_two 87 = .ok (.iaload, 1) := by decide +kernel
theorem dX5_two_88 : decode cX5_two 88 = .ok (.invokevirtual 188, 3) := by decide +kernel
theorem dX5_two_91 : decode cX5_two 91 = .ok (.aload_n 0, 1) := by decide +kernel
theorem dX5_two_92 : decode cX5_two 92 = .ok (.getfield 35, 3) := by decide +kernel
theorem dX5_two_95 : decode cX5_two 95 = .ok (.invokevirtual 155, 3) := by decide +kernel
theorem dX5_two_98 : decode cX5_two 98 = .ok (.ireturn, 1) := by decide +kernel
set_option maxRecDepth 20000 in
theorem ggX5_reading_X4_isCase : GoodIn wsX5_reading wsX4_isCase := goodIn_r _ [8, 9, 50, 51, 52, 53, 54, 55, 56, 57, 58] (by decide +kernel) (by decide +kernel)
set_option maxRecDepth 20000 in
theorem gX5_reading_X4_isCase : GoodIn wsX5_reading (wsV RX5 102 RX4 yX4_isCase wsX4_isCase) := goodIn_app (goodIn_of _ (by decide +kernel)) ggX5_reading_X4_isCase
set_option maxRecDepth 20000 in
theorem ggX5_reading_X5_isHour : GoodIn wsX5_reading wsX5_isHour := goodIn_r _ [13] (by decide +kernel) (by decide +kernel)
set_option maxRecDepth 20000 in
theorem gX5_reading_X5_isHour : GoodIn wsX5_reading (va_wsS RX5 112 yX5_isHour wsX5_isHour) := goodIn_app (goodIn_of _ (by decide +kernel)) ggX5_reading_X5_isHour
set_option maxRecDepth 20000 in
theorem ggX5_reading_X4_isSet : GoodIn wsX5_reading wsX4_isSet := goodIn_r _ [17, 18, 19, 20, 7, 21, 22, 23, 24, 25, 26, 50, 51, 52, 53, 54, 55, 56, 57, 58] (by decide +kernel) (by decide +kernel)
set_option maxRecDepth 20000 in
theorem gX5_reading_X4_isSet : GoodIn wsX5_reading (wsV RX5 168 RX4 yX4_isSet wsX4_isSet) := goodIn_app (goodIn_of _ (by decide +kernel)) ggX5_reading_X4_isSet
set_option maxRecDepth 20000 in
theorem ggX5_reading_X1_take : GoodIn wsX5_reading wsX1_take := goodIn_r _ [31, 32, 33, 34, 35, 46, 47, 48, 49] (by decide +kernel) (by decide +kernel)
set_option maxRecDepth 20000 in
theorem gX5_reading_X1_take : GoodIn wsX5_reading (wsV RX5 192 RX1 yX1_take wsX1_take) := goodIn_app (goodIn_of _ (by decide +kernel)) ggX5_reading_X1_take
theorem dX5_reading_0 : decode cX5_reading 0 = .ok (.aload_n 0, 1) := by decide +kernel
theorem dX5_reading_1 : decode cX5_reading 1 = .ok (.getfield 28, 3) := by decide +kernel
theorem dX5_reading_4 : decode cX5_reading 4 = .ok (.iload_n 1, 1) := by decide +kernel
theorem dX5_reading_5 : decode cX5_reading 5 = .ok (.invokevirtual 102, 3) := by decide +kernel
theorem dX5_reading_8 : decode cX5_reading 8 = .ok (.ifCond .eq 10, 3) := by decide +kernel
theorem dX5_reading_11 : decode cX5_reading 11 = .ok (.iload_n 2, 1) := by decide +kernel
theorem dX5_reading_12 : decode cX5_reading 12 = .ok (.invokestatic 112, 3) := by decide +kernel
theorem dX5_reading_15 : decode cX5_reading 15 = .ok (.ifCond .ne 5, 3) := by decide +kernel
theorem dX5_reading_18 : decode cX5_reading 18 = .ok (.iconst (-1), 1) := by decide +kernel
theorem dX5_reading_19 : decode cX5_reading 19 = .ok (.ireturn, 1) := by decide +kernel
theorem dX5_reading_20 : decode cX5_reading 20 = .ok (.aload_n 0, 1) := by decide +kernel
theorem dX5_reading_21 : decode cX5_reading 21 = .ok (.getfield 28, 3) := by decide +kernel
theorem dX5_reading_24 : decode cX5_reading 24 = .ok (.iload_n 3, 1) := by decide +kernel
theorem dX5_reading_25 : decode cX5_reading 25 = .ok (.invokevirtual 168, 3) := by decide +kernel
theorem dX5_reading_28 : decode cX5_reading 28 = .ok (.ifCond .ne 6, 3) := by decide +kernel
theorem dX5_reading_31 : decode cX5_reading 31 = .ok (.bipush (-2), 2) := by decide +kernel
theorem dX5_reading_33 : decode cX5_reading 33 = .ok (.ireturn, 1) := by decide +kernel
theorem dX5_reading_34 : decode cX5_reading 34 = .ok (.aload_n 0, 1) := by decide +kernel
theorem dX5_reading_35 : decode cX5_reading 35 = .ok (.getfield 42, 3) := by decide +kernel
theorem dX5_reading_38 : decode cX5_reading 38 = .ok (.getfield 78, 3) := by decide +kernel
theorem dX5_reading_41 : decode cX5_reading 41 = .ok (.bipush 8, 2) := by decide +kernel
theorem dX5_reading_43 : decode cX5_reading 43 = .ok (.if_icmp .lt 6, 3) := by decide +kernel
theorem dX5_reading_46 : decode cX5_reading 46 = .ok (.bipush (-4), 2) := by decide +kernel
theorem dX5_reading_48 : decode cX5_reading 48 = .ok (.ireturn, 1) := by decide +kernel
theorem dX5_reading_49 : decode cX5_reading 49 = .ok (.aload_n 0, 1) := by decide +kernel
theorem dX5_reading_50 : decode cX5_reading 50 = .ok (.getfield 42, 3) := by decide +kernel
theorem dX5_reading_53 : decode cX5_reading 53 = .ok (.iload_n 1, 1) := by decide +kernel
theorem dX5_reading_54 : decode cX5_reading 54 = .ok (.iload_n 2, 1) := by decide +kernel
theorem dX5_reading_55 : decode cX5_reading 55 = .ok (.iload_n 3, 1) := by decide +kernel
theorem dX5_reading_56 : decode cX5_reading 56 = .ok (.invokevirtual 192, 3) := by decide +kernel
theorem dX5_reading_59 : decode cX5_reading 59 = .ok (.ireturn, 1) := by decide +kernel
theorem dX5_back_0 : decode cX5_back 0 = .ok (.iload_n 1, 1) := by decide +kernel
theorem dX5_back_1 : decode cX5_back 1 = .ok (.ifCond .lt 14, 3) := by decide +kernel
theorem dX5_back_4 : decode cX5_back 4 = .ok (.iload_n 1, 1) := by decide +kernel
theorem dX5_back_5 : decode cX5_back 5 = .ok (.aload_n 0, 1) := by decide +kernel
theorem dX5_back_6 : decode cX5_back 6 = .ok (.getfield 42, 3) := by decide +kernel
theorem dX5_back_9 : decode cX5_back 9 = .ok (.getfield 78, 3) := by decide +kernel
theorem dX5_back_12 : decode cX5_back 12 = .ok (.if_icmp .le 6, 3) := by decide +kernel
theorem dX5_back_15 : decode cX5_back 15 = .ok (.bipush (-2), 2) := by decide +kernel
theorem dX5_back_17 : decode cX5_back 17 = .ok (.ireturn, 1) := by decide +kernel
theorem dX5_back_18 : decode cX5_back 18 = .ok (.aload_n 0, 1) := by decide +kernel
theorem dX5_back_19 : decode cX5_back 19 = .ok (.getfield 42, 3) := by decide +kernel
theorem dX5_back_22 : decode cX5_back 22 = .ok (.dup, 1) := by decide +kernel
theorem dX5_back_23 : decode cX5_back 23 = .ok (.getfield 78, 3) := by decide +kernel
theorem dX5_back_26 : decode cX5_back 26 = .ok (.iload_n 1, 1) := by decide +kernel
theorem dX5_back_27 : decode cX5_back 27 = .ok (.isub, 1) := by decide +kernel
theorem dX5_back_28 : decode cX5_back 28 = .ok (.putfield 78, 3) := by decide +kernel
theorem dX5_back_31 : decode cX5_back 31 = .ok (.aload_n 0, 1) := by decide +kernel
theorem dX5_back_32 : decode cX5_back 32 = .ok (.getfield 42, 3) := by decide +kernel
theorem dX5_back_35 : decode cX5_back 35 = .ok (.getfield 78, 3) := by decide +kernel
theorem dX5_back_38 : decode cX5_back 38 = .ok (.ireturn, 1) := by decide +kernel
set_option maxRecDepth 20000 in
theorem ggX5_rules_X5_isHour : GoodIn wsX5_rules wsX5_isHour := goodIn_r _ [7] (by decide +kernel) (by decide +kernel)
set_option maxRecDepth 20000 in
theorem gX5_rules_X5_isHour : GoodIn wsX5_rules (va_wsS RX5 112 yX5_isHour wsX5_isHour) := goodIn_app (goodIn_of _ (by decide +kernel)) ggX5_rules_X5_isHour
set_option maxRecDepth 20000 in
theorem ggX5_rules_X5_hasTown : GoodIn wsX5_rules wsX5_hasTown := goodIn_r _ [11, 1, 12, 35, 36, 37, 38, 39, 40, 41, 42, 43, 44, 45, 46, 47, 48, 49, 50, 51, 52, 53] (by decide +kernel) (by decide +kernel)
set_option maxRecDepth 20000 in
theorem gX5_rules_X5_hasTown : GoodIn wsX5_rules (wsV RX5 118 RX5 yX5_hasTown wsX5_hasTown) := goodIn_app (goodIn_of _ (by decide +kernel)) ggX5_rules_X5_hasTown
set_option maxRecDepth 20000 in
theorem ggX5_rules_X4_sets : GoodIn wsX5_rules wsX4_sets := goodIn_r _ [17, 18, 45, 46, 47, 48, 49, 50, 51, 52, 53] (by decide +kernel) (by decide +kernel)
set_option maxRecDepth 20000 in
theorem gX5_rules_X4_sets : GoodIn wsX5_rules (wsV RX5 158 RX4 yX4_sets wsX4_sets) := goodIn_app (goodIn_of _ (by decide +kernel)) ggX5_rules_X4_sets
set_option maxRecDepth 20000 in
theorem ggX5_rules_X1_allow : GoodIn wsX5_rules wsX1_allow := goodIn_r _ [23, 24, 25, 26, 27, 28, 29, 30, 16, 31, 32, 33, 6, 34, 54, 55, 56, 57, 45, 46, 47, 48, 49, 50, 51, 52, 53] (by decide +kernel) (by decide +kernel)
set_option maxRecDepth 20000 in
theorem gX5_rules_X1_allow : GoodIn wsX5_rules (wsV RX5 196 RX1 yX1_allow wsX1_allow) := goodIn_app (goodIn_of _ (by decide +kernel)) ggX5_rules_X1_allow
theorem dX5_rules_0 : decode cX5_rules 0 = .ok (.iload_n 1, 1) := by decide +kernel
theorem dX5_rules_1 : decode cX5_rules 1 = .ok (.invokestatic 112, 3) := by decide +kernel
theorem dX5_rules_4 : decode cX5_rules 4 = .ok (.ifCond .eq 8, 3) := by decide +kernel
theorem dX5_rules_7 : decode cX5_rules 7 = .ok (.iload_n 2, 1) := by decide +kernel
theorem dX5_rules_8 : decode cX5_rules 8 = .ok (.iconst (-1), 1) := by decide +kernel
theorem dX5_rules_9 : decode cX5_rules 9 = .ok (.if_icmp .ge 5, 3) := by decide +kernel
theorem dX5_rules_12 : decode cX5_rules 12 = .ok (.iconst (-1), 1) := by decide +kernel
theorem dX5_rules_13 : decode cX5_rules 13 = .ok (.ireturn, 1) := by decide +kernel
theorem dX5_rules_14 : decode cX5_rules 14 = .ok (.aload_n 0, 1) := by decide +kernel
theorem dX5_rules_15 : decode cX5_rules 15 = .ok (.invokevirtual 118, 3) := by decide +kernel
theorem dX5_rules_18 : decode cX5_rules 18 = .ok (.ifCond .ne 6, 3) := by decide +kernel
theorem dX5_rules_21 : decode cX5_rules 21 = .ok (.bipush (-3), 2) := by decide +kernel
theorem dX5_rules_23 : decode cX5_rules 23 = .ok (.ireturn, 1) := by decide +kernel
theorem dX5_rules_24 : decode cX5_rules 24 = .ok (.iconst 0, 1) := by decide +kernel
theorem dX5_rules_25 : decode cX5_rules 25 = .ok (.istore_n 3, 1) := by decide +kernel
theorem dX5_rules_26 : decode cX5_rules 26 = .ok (.iconst 0, 1) := by decide +kernel
theorem dX5_rules_27 : decode cX5_rules 27 = .ok (.istore 4, 2) := by decide +kernel
theorem dX5_rules_29 : decode cX5_rules 29 = .ok (.iload 4, 2) := by decide +kernel
theorem dX5_rules_31 : decode cX5_rules 31 = .ok (.aload_n 0, 1) := by decide +kernel
theorem dX5_rules_32 : decode cX5_rules 32 = .ok (.getfield 28, 3) := by decide +kernel
theorem dX5_rules_35 : decode cX5_rules 35 = .ok (.invokevirtual 158, 3) := by decide +kernel
theorem dX5_rules_38 : decode cX5_rules 38 = .ok (.if_icmp .ge 43, 3) := by decide +kernel
theorem dX5_rules_41 : decode cX5_rules 41 = .ok (.aload_n 0, 1) := by decide +kernel
theorem dX5_rules_42 : decode cX5_rules 42 = .ok (.getfield 42, 3) := by decide +kernel
theorem dX5_rules_45 : decode cX5_rules 45 = .ok (.aload_n 0, 1) := by decide +kernel
theorem dX5_rules_46 : decode cX5_rules 46 = .ok (.getfield 28, 3) := by decide +kernel
theorem dX5_rules_49 : decode cX5_rules 49 = .ok (.iload 4, 2) := by decide +kernel
theorem dX5_rules_51 : decode cX5_rules 51 = .ok (.iload_n 1, 1) := by decide +kernel
theorem dX5_rules_52 : decode cX5_rules 52 = .ok (.aload_n 0, 1) := by decide +kernel
theorem dX5_rules_53 : decode cX5_rules 53 = .ok (.getfield 50, 3) := by decide +kernel
theorem dX5_rules_56 : decode cX5_rules 56 = .ok (.iload_n 1, 1) := by decide +kernel
theorem dX5_rules_57 : decode cX5_rules 57 = .ok (.iaload, 1) := by decide +kernel
theorem dX5_rules_58 : decode cX5_rules 58 = .ok (.invokevirtual 196, 3) := by decide +kernel
theorem dX5_rules_61 : decode cX5_rules 61 = .ok (.ifCond .eq 14, 3) := by decide +kernel
theorem dX5_rules_64 : decode cX5_rules 64 = .ok (.iload_n 3, 1) := by decide +kernel
theorem dX5_rules_65 : decode cX5_rules 65 = .ok (.iload_n 2, 1) := by decide +kernel
theorem dX5_rules_66 : decode cX5_rules 66 = .ok (.if_icmp .ne 6, 3) := by decide +kernel
theorem dX5_rules_69 : decode cX5_rules 69 = .ok (.iload 4, 2) := by decide +kernel
theorem dX5_rules_71 : decode cX5_rules 71 = .ok (.ireturn, 1) := by decide +kernel
theorem dX5_rules_72 : decode cX5_rules 72 = .ok (.iinc 3 1, 3) := by decide +kernel
theorem dX5_rules_75 : decode cX5_rules 75 = .ok (.iinc 4 1, 3) := by decide +kernel
theorem dX5_rules_78 : decode cX5_rules 78 = .ok (.goto (-49), 3) := by decide +kernel
theorem dX5_rules_81 : decode cX5_rules 81 = .ok (.iload_n 2, 1) := by decide +kernel
theorem dX5_rules_82 : decode cX5_rules 82 = .ok (.iconst (-1), 1) := by decide +kernel
theorem dX5_rules_83 : decode cX5_rules 83 = .ok (.if_icmp .ne 7, 3) := by decide +kernel
theorem dX5_rules_86 : decode cX5_rules 86 = .ok (.iload_n 3, 1) := by decide +kernel
theorem dX5_rules_87 : decode cX5_rules 87 = .ok (.goto 5, 3) := by decide +kernel
theorem dX5_rules_90 : decode cX5_rules 90 = .ok (.bipush (-9), 2) := by decide +kernel
theorem dX5_rules_92 : decode cX5_rules 92 = .ok (.ireturn, 1) := by decide +kernel
set_option maxRecDepth 20000 in
theorem ggX5_night_X5_refusalOfCells : GoodIn wsX5_night wsX5_refusalOfCells := goodIn_r _ [9, 10, 4, 11, 12, 13, 14, 15, 16, 17, 8, 18, 19, 20, 21, 22, 23, 24, 25, 26, 27, 28, 29, 30, 31, 32, 33, 34, 35, 36, 91, 92, 93, 94, 95, 96, 97, 98, 99, 100, 101, 102, 103] (by decide +kernel) (by decide +kernel)
set_option maxRecDepth 20000 in
theorem gX5_night_X5_refusalOfCells : GoodIn wsX5_night (wsV RX5 66 RX5 yX5_refusalOfCells wsX5_refusalOfCells) := goodIn_app (goodIn_of _ (by decide +kernel)) ggX5_night_X5_refusalOfCells
set_option maxRecDepth 20000 in
theorem ggX5_night_X5_hasTown : GoodIn wsX5_night wsX5_hasTown := goodIn_r _ [40, 2, 41, 91, 92, 93, 94, 95, 96, 97, 98, 99, 100, 104, 105, 106, 107, 108, 109, 110, 111, 112] (by decide +kernel) (by decide +kernel)
set_option maxRecDepth 20000 in
theorem gX5_night_X5_hasTown : GoodIn wsX5_night (wsV RX5 118 RX5 yX5_hasTown wsX5_hasTown) := goodIn_app (goodIn_of _ (by decide +kernel)) ggX5_night_X5_hasTown
set_option maxRecDepth 20000 in
theorem ggX5_night_X5_areBreaths : GoodIn wsX5_night wsX5_areBreaths := goodIn_r _ [45, 4, 46, 47, 48, 14, 49, 50, 51, 52, 53, 54, 36, 55, 56, 8, 57, 91, 92, 93, 94, 95, 96, 97, 98, 99, 100, 101, 102, 103] (by decide +kernel) (by decide +kernel)
set_option maxRecDepth 20000 in
theorem gX5_night_X5_areBreaths : GoodIn wsX5_night (wsV RX5 200 RX5 yX5_areBreaths wsX5_areBreaths) := goodIn_app (goodIn_of _ (by decide +kernel)) ggX5_night_X5_areBreaths
set_option maxRecDepth 20000 in
theorem ggX5_night_X0_begin : GoodIn wsX5_night wsX0_begin := goodIn_r _ [62, 63, 64, 65, 66, 67, 68, 69, 104, 105, 106, 107, 108, 109, 110, 111, 112, 113, 114, 115, 116, 117] (by decide +kernel) (by decide +kernel)
set_option maxRecDepth 20000 in
theorem gX5_night_X0_begin : GoodIn wsX5_night (wsV RX5 184 RX0 yX0_begin wsX0_begin) := goodIn_app (goodIn_of _ (by decide +kernel)) ggX5_night_X0_begin
set_option maxRecDepth 20000 in
theorem ggX5_night_X2_at : GoodIn wsX5_night wsX2_at := goodIn_r _ [49, 50, 51, 52, 53, 14, 54, 36, 101, 102, 103] (by decide +kernel) (by decide +kernel)
set_option maxRecDepth 20000 in
theorem gX5_night_X2_at : GoodIn wsX5_night (wsV RX5 203 RX2 yX2_at wsX2_at) := goodIn_app (goodIn_of _ (by decide +kernel)) ggX5_night_X2_at
set_option maxRecDepth 20000 in
theorem ggX5_night_X0_splitBy : GoodIn wsX5_night wsX0_splitBy := goodIn_r _ [73, 68, 69, 74, 75, 76, 77, 78, 79, 80, 56, 8, 57, 113, 114, 115, 116, 117, 104, 105, 106, 107, 108, 109, 110, 111, 112] (by decide +kernel) (by decide +kernel)
set_option maxRecDepth 20000 in
theorem gX5_night_X0_splitBy : GoodIn wsX5_night (wsV RX5 188 RX0 yX0_splitBy wsX0_splitBy) := goodIn_app (goodIn_of _ (by decide +kernel)) ggX5_night_X0_splitBy
set_option maxRecDepth 20000 in
theorem ggX5_night_X0_number : GoodIn wsX5_night wsX0_number := goodIn_r _ [84, 85, 68, 86, 87, 88, 89, 61, 90, 69, 113, 114, 115, 116, 117] (by decide +kernel) (by decide +kernel)
set_option maxRecDepth 20000 in
theorem gX5_night_X0_number : GoodIn wsX5_night (wsV RX5 155 RX0 yX0_number wsX0_number) := goodIn_app (goodIn_of _ (by decide +kernel)) ggX5_night_X0_number
theorem dX5_night_0 : decode cX5_night 0 = .ok (.aload_n 0, 1) := by decide +kernel
theorem dX5_night_1 : decode cX5_night 1 = .ok (.iload_n 1, 1) := by decide +kernel
theorem dX5_night_2 : decode cX5_night 2 = .ok (.iload_n 2, 1) := by decide +kernel
theorem dX5_night_3 : decode cX5_night 3 = .ok (.iload_n 3, 1) := by decide +kernel
theorem dX5_night_4 : decode cX5_night 4 = .ok (.iload 4, 2) := by decide +kernel
theorem dX5_night_6 : decode cX5_night 6 = .ok (.invokevirtual 66, 3) := by decide +kernel
theorem dX5_night_9 : decode cX5_night 9 = .ok (.istore 5, 2) := by decide +kernel
theorem dX5_night_11 : decode cX5_night 11 = .ok (.iload 5, 2) := by decide +kernel
theorem dX5_night_13 : decode cX5_night 13 = .ok (.ifCond .eq 6, 3) := by decide +kernel
theorem dX5_night_16 : decode cX5_night 16 = .ok (.iload 5, 2) := by decide +kernel
theorem dX5_night_18 : decode cX5_night 18 = .ok (.ireturn, 1) := by decide +kernel
theorem dX5_night_19 : decode cX5_night 19 = .ok (.aload_n 0, 1) := by decide +kernel
theorem dX5_night_20 : decode cX5_night 20 = .ok (.invokevirtual 118, 3) := by decide +kernel
theorem dX5_night_23 : decode cX5_night 23 = .ok (.ifCond .ne 6, 3) := by decide +kernel
theorem dX5_night_26 : decode cX5_night 26 = .ok (.bipush (-3), 2) := by decide +kernel
theorem dX5_night_28 : decode cX5_night 28 = .ok (.ireturn, 1) := by decide +kernel
theorem dX5_night_29 : decode cX5_night 29 = .ok (.iload 4, 2) := by decide +kernel
theorem dX5_night_31 : decode cX5_night 31 = .ok (.bipush 6, 2) := by decide +kernel
theorem dX5_night_33 : decode cX5_night 33 = .ok (.if_icmp .gt 14, 3) := by decide +kernel
theorem dX5_night_36 : decode cX5_night 36 = .ok (.aload_n 0, 1) := by decide +kernel
theorem dX5_night_37 : decode cX5_night 37 = .ok (.iload_n 1, 1) := by decide +kernel
theorem dX5_night_38 : decode cX5_night 38 = .ok (.iload_n 3, 1) := by decide +kernel
theorem dX5_night_39 : decode cX5_night 39 = .ok (.iload 4, 2) := by decide +kernel
theorem dX5_night_41 : decode cX5_night 41 = .ok (.invokevirtual 200, 3) := by decide +kernel
theorem dX5_night_44 : decode cX5_night 44 = .ok (.ifCond .ne 6, 3) := by decide +kernel
theorem dX5_night_47 : decode cX5_night 47 = .ok (.bipush (-2), 2) := by decide +kernel
theorem dX5_night_49 : decode cX5_night 49 = .ok (.ireturn, 1) := by decide +kernel
theorem dX5_night_50 : decode cX5_night 50 = .ok (.aload_n 0, 1) := by decide +kernel
theorem dX5_night_51 : decode cX5_night 51 = .ok (.getfield 35, 3) := by decide +kernel
theorem dX5_night_54 : decode cX5_night 54 = .ok (.aload_n 0, 1) := by decide +kernel
theorem dX5_night_55 : decode cX5_night 55 = .ok (.getfield 28, 3) := by decide +kernel
theorem dX5_night_58 : decode cX5_night 58 = .ok (.invokevirtual 184, 3) := by decide +kernel
theorem dX5_night_61 : decode cX5_night 61 = .ok (.iconst 0, 1) := by decide +kernel
theorem dX5_night_62 : decode cX5_night 62 = .ok (.istore 6, 2) := by decide +kernel
theorem dX5_night_64 : decode cX5_night 64 = .ok (.iload 6, 2) := by decide +kernel
theorem dX5_night_66 : decode cX5_night 66 = .ok (.iload 4, 2) := by decide +kernel
theorem dX5_night_68 : decode cX5_night 68 = .ok (.if_icmp .ge 46, 3) := by decide +kernel
theorem dX5_night_71 : decode cX5_night 71 = .ok (.iload 6, 2) := by decide +kernel
theorem dX5_night_73 : decode cX5_night 73 = .ok (.bipush 6, 2) := by decide +kernel
theorem dX5_night_75 : decode cX5_night 75 = .ok (.if_icmp .ge 39, 3) := by decide +kernel
theorem dX5_night_78 : decode cX5_night 78 = .ok (.aload_n 0, 1) := by decide +kernel
theorem dX5_night_79 : decode cX5_night 79 = .ok (.getfield 35, 3) := by decide +kernel
theorem dX5_night_82 : decode cX5_night 82 = .ok (.aload_n 0, 1) := by decide +kernel
theorem dX5_night_83 : decode cX5_night 83 = .ok (.getfield 28, 3) := by decide +kernel
theorem dX5_night_86 : decode cX5_night 86 = .ok (.aload_n 0, 1) := by decide +kernel
theorem dX5_night_87 : decode cX5_night 87 = .ok (.getfield 46, 3) := by decide +kernel
theorem dX5_night_90 : decode cX5_night 90 = .ok (.iload 6, 2) := by decide +kernel
theorem dX5_night_92 : decode cX5_night 92 = .ok (.iaload, 1) := by decide +kernel
theorem dX5_night_93 : decode cX5_night 93 = .ok (.aload_n 0, 1) := by decide +kernel
theorem dX5_night_94 : decode cX5_night 94 = .ok (.getfield 12, 3) := by decide +kernel
theorem dX5_night_97 : decode cX5_night 97 = .ok (.iload_n 1, 1) := by decide +kernel
theorem dX5_night_98 : decode cX5_night 98 = .ok (.iload_n 3, 1) := by decide +kernel
theorem dX5_night_99 : decode cX5_night 99 = .ok (.iload 6, 2) := by decide +kernel
theorem dX5_night_101 : decode cX5_night 101 = .ok (.iadd, 1) := by decide +kernel
theorem dX5_night_102 : decode cX5_night 102 = .ok (.invokevirtual 203, 3) := by decide +kernel
theorem dX5_night_105 : decode cX5_night 105 = .ok (.invokevirtual 188, 3) := by decide +kernel
theorem dX5_night_108 : decode cX5_night 108 = .ok (.iinc 6 1, 3) := by decide +kernel
theorem dX5_night_111 : decode cX5_night 111 = .ok (.goto (-47), 3) := by decide +kernel
theorem dX5_night_114 : decode cX5_night 114 = .ok (.aload_n 0, 1) := by decide +kernel
theorem dX5_night_115 : decode cX5_night 115 = .ok (.getfield 35, 3) := by decide +kernel
theorem dX5_night_118 : decode cX5_night 118 = .ok (.invokevirtual 155, 3) := by decide +kernel
theorem dX5_night_121 : decode cX5_night 121 = .ok (.ireturn, 1) := by decide +kernel
set_option maxRecDepth 20000 in
theorem ggX5_sheet_X2_isSheet : GoodIn wsX5_sheet wsX2_isSheet := goodIn_r _ [7] (by decide +kernel) (by decide +kernel)
set_option maxRecDepth 20000 in
theorem gX5_sheet_X2_isSheet : GoodIn wsX5_sheet (wsV RX5 206 RX2 yX2_isSheet wsX2_isSheet) := goodIn_app (goodIn_of _ (by decide +kernel)) ggX5_sheet_X2_isSheet
set_option maxRecDepth 20000 in
theorem ggX5_sheet_X5_isLane : GoodIn wsX5_sheet wsX5_isLane := goodIn_r _ [11] (by decide +kernel) (by decide +kernel)
set_option maxRecDepth 20000 in
theorem gX5_sheet_X5_isLane : GoodIn wsX5_sheet (va_wsS RX5 209 yX5_isLane wsX5_isLane) := goodIn_app (goodIn_of _ (by decide +kernel)) ggX5_sheet_X5_isLane
set_option maxRecDepth 20000 in
theorem ggX5_sheet_X5_faulted : GoodIn wsX5_sheet wsX5_faulted := goodIn_r _ [15, 1, 23, 24, 25, 26, 27, 28, 29, 30, 31, 32] (by decide +kernel) (by decide +kernel)
set_option maxRecDepth 20000 in
theorem gX5_sheet_X5_faulted : GoodIn wsX5_sheet (wsV RX5 212 RX5 yX5_faulted wsX5_faulted) := goodIn_app (goodIn_of _ (by decide +kernel)) ggX5_sheet_X5_faulted
set_option maxRecDepth 20000 in
theorem ggX5_sheet_X2_renew : GoodIn wsX5_sheet wsX2_renew := goodIn_r _ [19, 20, 21, 22, 33, 34, 35] (by decide +kernel) (by decide +kernel)
set_option maxRecDepth 20000 in
theorem gX5_sheet_X2_renew : GoodIn wsX5_sheet (wsV RX5 215 RX2 yX2_renew wsX2_renew) := goodIn_app (goodIn_of _ (by decide +kernel)) ggX5_sheet_X2_renew
theorem dX5_sheet_0 : decode cX5_sheet 0 = .ok (.aload_n 0, 1) := by decide +kernel
theorem dX5_sheet_1 : decode cX5_sheet 1 = .ok (.iconst 0, 1) := by decide +kernel
theorem dX5_sheet_2 : decode cX5_sheet 2 = .ok (.putfield 60, 3) := by decide +kernel
theorem dX5_sheet_5 : decode cX5_sheet 5 = .ok (.aload_n 0, 1) := by decide +kernel
theorem dX5_sheet_6 : decode cX5_sheet 6 = .ok (.getfield 12, 3) := by decide +kernel
theorem dX5_sheet_9 : decode cX5_sheet 9 = .ok (.iload_n 1, 1) := by decide +kernel
theorem dX5_sheet_10 : decode cX5_sheet 10 = .ok (.invokevirtual 206, 3) := by decide +kernel
theorem dX5_sheet_13 : decode cX5_sheet 13 = .ok (.ifCond .ne 5, 3) := by decide +kernel
theorem dX5_sheet_16 : decode cX5_sheet 16 = .ok (.iconst (-1), 1) := by decide +kernel
theorem dX5_sheet_17 : decode cX5_sheet 17 = .ok (.ireturn, 1) := by decide +kernel
theorem dX5_sheet_18 : decode cX5_sheet 18 = .ok (.iload_n 2, 1) := by decide +kernel
theorem dX5_sheet_19 : decode cX5_sheet 19 = .ok (.invokestatic 209, 3) := by decide +kernel
theorem dX5_sheet_22 : decode cX5_sheet 22 = .ok (.ifCond .eq 9, 3) := by decide +kernel
theorem dX5_sheet_25 : decode cX5_sheet 25 = .ok (.iload_n 3, 1) := by decide +kernel
theorem dX5_sheet_26 : decode cX5_sheet 26 = .ok (.bipush 60, 2) := by decide +kernel
theorem dX5_sheet_28 : decode cX5_sheet 28 = .ok (.if_icmp .le 6, 3) := by decide +kernel
theorem dX5_sheet_31 : decode cX5_sheet 31 = .ok (.bipush (-2), 2) := by decide +kernel
theorem dX5_sheet_33 : decode cX5_sheet 33 = .ok (.ireturn, 1) := by decide +kernel
theorem dX5_sheet_34 : decode cX5_sheet 34 = .ok (.iload_n 3, 1) := by decide +kernel
theorem dX5_sheet_35 : decode cX5_sheet 35 = .ok (.ifCond .ge 9, 3) := by decide +kernel
theorem dX5_sheet_38 : decode cX5_sheet 38 = .ok (.aload_n 0, 1) := by decide +kernel
theorem dX5_sheet_39 : decode cX5_sheet 39 = .ok (.iconst 4, 1) := by decide +kernel
theorem dX5_sheet_40 : decode cX5_sheet 40 = .ok (.invokevirtual 212, 3) := by decide +kernel
theorem dX5_sheet_43 : decode cX5_sheet 43 = .ok (.ireturn, 1) := by decide +kernel
theorem dX5_sheet_44 : decode cX5_sheet 44 = .ok (.aload_n 0, 1) := by decide +kernel
theorem dX5_sheet_45 : decode cX5_sheet 45 = .ok (.getfield 12, 3) := by decide +kernel
theorem dX5_sheet_48 : decode cX5_sheet 48 = .ok (.iload_n 1, 1) := by decide +kernel
theorem dX5_sheet_49 : decode cX5_sheet 49 = .ok (.iload_n 2, 1) := by decide +kernel
theorem dX5_sheet_50 : decode cX5_sheet 50 = .ok (.iload_n 3, 1) := by decide +kernel
theorem dX5_sheet_51 : decode cX5_sheet 51 = .ok (.invokevirtual 215, 3) := by decide +kernel
theorem dX5_sheet_54 : decode cX5_sheet 54 = .ok (.iconst 1, 1) := by decide +kernel
theorem dX5_sheet_55 : decode cX5_sheet 55 = .ok (.ireturn, 1) := by decide +kernel
set_option maxRecDepth 20000 in
theorem ggX5_lose_X2_isSheet : GoodIn wsX5_lose wsX2_isSheet := goodIn_r _ [6] (by decide +kernel) (by decide +kernel)
set_option maxRecDepth 20000 in
theorem gX5_lose_X2_isSheet : GoodIn wsX5_lose (wsV RX5 206 RX2 yX2_isSheet wsX2_isSheet) := goodIn_app (goodIn_of _ (by decide +kernel)) ggX5_lose_X2_isSheet
set_option maxRecDepth 20000 in
theorem ggX5_lose_X2_hasRow : GoodIn wsX5_lose wsX2_hasRow := goodIn_r _ [10, 11, 27, 28, 29] (by decide +kernel) (by decide +kernel)
set_option maxRecDepth 20000 in
theorem gX5_lose_X2_hasRow : GoodIn wsX5_lose (wsV RX5 219 RX2 yX2_hasRow wsX2_hasRow) := goodIn_app (goodIn_of _ (by decide +kernel)) ggX5_lose_X2_hasRow
set_option maxRecDepth 20000 in
theorem ggX5_lose_X2_drop : GoodIn wsX5_lose wsX2_drop := goodIn_r _ [15, 11, 16, 27, 28, 29] (by decide +kernel) (by decide +kernel)
set_option maxRecDepth 20000 in
theorem gX5_lose_X2_drop : GoodIn wsX5_lose (wsV RX5 222 RX2 yX2_drop wsX2_drop) := goodIn_app (goodIn_of _ (by decide +kernel)) ggX5_lose_X2_drop
theorem dX5_lose_0 : decode cX5_lose 0 = .ok (.aload_n 0, 1) := by decide +kernel
theorem dX5_lose_1 : decode cX5_lose 1 = .ok (.getfield 12, 3) := by decide +kernel
theorem dX5_lose_4 : decode cX5_lose 4 = .ok (.iload_n 1, 1) := by decide +kernel
theorem dX5_lose_5 : decode cX5_lose 5 = .ok (.invokevirtual 206, 3) := by decide +kernel
theorem dX5_lose_8 : decode cX5_lose 8 = .ok (.ifCond .ne 5, 3) := by decide +kernel
theorem dX5_lose_11 : decode cX5_lose 11 = .ok (.iconst (-1), 1) := by decide +kernel
theorem dX5_lose_12 : decode cX5_lose 12 = .ok (.ireturn, 1) := by decide +kernel
theorem dX5_lose_13 : decode cX5_lose 13 = .ok (.aload_n 0, 1) := by decide +kernel
theorem dX5_lose_14 : decode cX5_lose 14 = .ok (.getfield 12, 3) := by decide +kernel
theorem dX5_lose_17 : decode cX5_lose 17 = .ok (.iload_n 1, 1) := by decide +kernel
theorem dX5_lose_18 : decode cX5_lose 18 = .ok (.invokevirtual 219, 3) := by decide +kernel
theorem dX5_lose_21 : decode cX5_lose 21 = .ok (.ifCond .eq 7, 3) := by decide +kernel
theorem dX5_lose_24 : decode cX5_lose 24 = .ok (.iconst 1, 1) := by decide +kernel
theorem dX5_lose_25 : decode cX5_lose 25 = .ok (.goto 4, 3) := by decide +kernel
theorem dX5_lose_28 : decode cX5_lose 28 = .ok (.iconst 0, 1) := by decide +kernel
theorem dX5_lose_29 : decode cX5_lose 29 = .ok (.istore_n 2, 1) := by decide +kernel
theorem dX5_lose_30 : decode cX5_lose 30 = .ok (.aload_n 0, 1) := by decide +kernel
theorem dX5_lose_31 : decode cX5_lose 31 = .ok (.getfield 12, 3) := by decide +kernel
theorem dX5_lose_34 : decode cX5_lose 34 = .ok (.iload_n 1, 1) := by decide +kernel
theorem dX5_lose_35 : decode cX5_lose 35 = .ok (.invokevirtual 222, 3) := by decide +kernel
theorem dX5_lose_38 : decode cX5_lose 38 = .ok (.iload_n 2, 1) := by decide +kernel
theorem dX5_lose_39 : decode cX5_lose 39 = .ok (.ireturn, 1) := by decide +kernel
set_option maxRecDepth 20000 in
theorem ggX5_put_X2_isSheet : GoodIn wsX5_put wsX2_isSheet := goodIn_r _ [7] (by decide +kernel) (by decide +kernel)
set_option maxRecDepth 20000 in
theorem gX5_put_X2_isSheet : GoodIn wsX5_put (wsV RX5 206 RX2 yX2_isSheet wsX2_isSheet) := goodIn_app (goodIn_of _ (by decide +kernel)) ggX5_put_X2_isSheet
set_option maxRecDepth 20000 in
theorem ggX5_put_X2_hasRow : GoodIn wsX5_put wsX2_hasRow := goodIn_r _ [11, 12, 38, 39, 40] (by decide +kernel) (by decide +kernel)
set_option maxRecDepth 20000 in
theorem gX5_put_X2_hasRow : GoodIn wsX5_put (wsV RX5 219 RX2 yX2_hasRow wsX2_hasRow) := goodIn_app (goodIn_of _ (by decide +kernel)) ggX5_put_X2_hasRow
set_option maxRecDepth 20000 in
theorem ggX5_put_X5_faulted : GoodIn wsX5_put wsX5_faulted := goodIn_r _ [17, 1, 28, 29, 30, 31, 32, 33, 34, 35, 36, 37] (by decide +kernel) (by decide +kernel)
set_option maxRecDepth 20000 in
theorem gX5_put_X5_faulted : GoodIn wsX5_put (wsV RX5 212 RX5 yX5_faulted wsX5_faulted) := goodIn_app (goodIn_of _ (by decide +kernel)) ggX5_put_X5_faulted
set_option maxRecDepth 20000 in
theorem ggX5_put_X2_isCell : GoodIn wsX5_put wsX2_isCell := goodIn_r _ [21, 22, 38, 39, 40] (by decide +kernel) (by decide +kernel)
set_option maxRecDepth 20000 in
theorem gX5_put_X2_isCell : GoodIn wsX5_put (wsV RX5 225 RX2 yX2_isCell wsX2_isCell) := goodIn_app (goodIn_of _ (by decide +kernel)) ggX5_put_X2_isCell
set_option maxRecDepth 20000 in
theorem ggX5_put_X2_write : GoodIn wsX5_put wsX2_write := goodIn_r _ [26, 12, 27, 38, 39, 40] (by decide +kernel) (by decide +kernel)
set_option maxRecDepth 20000 in
theorem gX5_put_X2_write : GoodIn wsX5_put (wsV RX5 228 RX2 yX2_write wsX2_write) := goodIn_app (goodIn_of _ (by decide +kernel)) ggX5_put_X2_write
theorem dX5_put_0 : decode cX5_put 0 = .ok (.aload_n 0, 1) := by decide +kernel
theorem dX5_put_1 : decode cX5_put 1 = .ok (.iconst 0, 1) := by decide +kernel
theorem dX5_put_2 : decode cX5_put 2 = .ok (.putfield 60, 3) := by decide +kernel
theorem dX5_put_5 : decode cX5_put 5 = .ok (.aload_n 0, 1) := by decide +kernel
theorem dX5_put_6 : decode cX5_put 6 = .ok (.getfield 12, 3) := by decide +kernel
theorem dX5_put_9 : decode cX5_put 9 = .ok (.iload_n 1, 1) := by decide +kernel
theorem dX5_put_10 : decode cX5_put 10 = .ok (.invokevirtual 206, 3) := by decide +kernel
theorem dX5_put_13 : decode cX5_put 13 = .ok (.ifCond .ne 5, 3) := by decide +kernel
theorem dX5_put_16 : decode cX5_put 16 = .ok (.iconst (-1), 1) := by decide +kernel
theorem dX5_put_17 : decode cX5_put 17 = .ok (.ireturn, 1) := by decide +kernel
theorem dX5_put_18 : decode cX5_put 18 = .ok (.aload_n 0, 1) := by decide +kernel
theorem dX5_put_19 : decode cX5_put 19 = .ok (.getfield 12, 3) := by decide +kernel
theorem dX5_put_22 : decode cX5_put 22 = .ok (.iload_n 1, 1) := by decide +kernel
theorem dX5_put_23 : decode cX5_put 23 = .ok (.invokevirtual 219, 3) := by decide +kernel
theorem dX5_put_26 : decode cX5_put 26 = .ok (.ifCond .ne 9, 3) := by decide +kernel
theorem dX5_put_29 : decode cX5_put 29 = .ok (.aload_n 0, 1) := by decide +kernel
theorem dX5_put_30 : decode cX5_put 30 = .ok (.iconst 1, 1) := by decide +kernel
theorem dX5_put_31 : decode cX5_put 31 = .ok (.invokevirtual 212, 3) := by decide +kernel
theorem dX5_put_34 : decode cX5_put 34 = .ok (.ireturn, 1) := by decide +kernel
theorem dX5_put_35 : decode cX5_put 35 = .ok (.aload_n 0, 1) := by decide +kernel
theorem dX5_put_36 : decode cX5_put 36 = .ok (.getfield 12, 3) := by decide +kernel
theorem dX5_put_39 : decode cX5_put 39 = .ok (.iload_n 1, 1) := by decide +kernel
theorem dX5_put_40 : decode cX5_put 40 = .ok (.iload_n 2, 1) := by decide +kernel
theorem dX5_put_41 : decode cX5_put 41 = .ok (.invokevirtual 225, 3) := by decide +kernel
theorem dX5_put_44 : decode cX5_put 44 = .ok (.ifCond .ne 9, 3) := by decide +kernel
theorem dX5_put_47 : decode cX5_put 47 = .ok (.aload_n 0, 1) := by decide +kernel
theorem dX5_put_48 : decode cX5_put 48 = .ok (.iconst 3, 1) := by decide +kernel
theorem dX5_put_49 : decode cX5_put 49 = .ok (.invokevirtual 212, 3) := by decide +kernel
theorem dX5_put_52 : decode cX5_put 52 = .ok (.ireturn, 1) := by decide +kernel
theorem dX5_put_53 : decode cX5_put 53 = .ok (.aload_n 0, 1) := by decide +kernel
theorem dX5_put_54 : decode cX5_put 54 = .ok (.getfield 12, 3) := by decide +kernel
theorem dX5_put_57 : decode cX5_put 57 = .ok (.iload_n 1, 1) := by decide +kernel
theorem dX5_put_58 : decode cX5_put 58 = .ok (.iload_n 2, 1) := by decide +kernel
theorem dX5_put_59 : decode cX5_put 59 = .ok (.iload_n 3, 1) := by decide +kernel
theorem dX5_put_60 : decode cX5_put 60 = .ok (.invokevirtual 228, 3) := by decide +kernel
theorem dX5_put_63 : decode cX5_put 63 = .ok (.iconst 1, 1) := by decide +kernel
theorem dX5_put_64 : decode cX5_put 64 = .ok (.ireturn, 1) := by decide +kernel
set_option maxRecDepth 20000 in
theorem ggX5_cell_X2_isSheet : GoodIn wsX5_cell wsX2_isSheet := goodIn_r _ [8] (by decide +kernel) (by decide +kernel)
set_option maxRecDepth 20000 in
theorem gX5_cell_X2_isSheet : GoodIn wsX5_cell (wsV RX5 206 RX2 yX2_isSheet wsX2_isSheet) := goodIn_app (goodIn_of _ (by decide +kernel)) ggX5_cell_X2_isSheet
set_option maxRecDepth 20000 in
theorem ggX5_cell_X5_isLane : GoodIn wsX5_cell wsX5_isLane := goodIn_r _ [12] (by decide +kernel) (by decide +kernel)
set_option maxRecDepth 20000 in
theorem gX5_cell_X5_isLane : GoodIn wsX5_cell (va_wsS RX5 209 yX5_isLane wsX5_isLane) := goodIn_app (goodIn_of _ (by decide +kernel)) ggX5_cell_X5_isLane
set_option maxRecDepth 20000 in
theorem ggX5_cell_X2_mayBeOfLane : GoodIn wsX5_cell wsX2_mayBeOfLane := goodIn_r _ [16, 17, 47, 48, 49] (by decide +kernel) (by decide +kernel)
set_option maxRecDepth 20000 in
theorem gX5_cell_X2_mayBeOfLane : GoodIn wsX5_cell (wsV RX5 231 RX2 yX2_mayBeOfLane wsX2_mayBeOfLane) := goodIn_app (goodIn_of _ (by decide +kernel)) ggX5_cell_X2_mayBeOfLane
set_option maxRecDepth 20000 in
theorem ggX5_cell_X5_faulted : GoodIn wsX5_cell wsX5_faulted := goodIn_r _ [21, 1, 37, 38, 39, 40, 41, 42, 43, 44, 45, 46] (by decide +kernel) (by decide +kernel)
set_option maxRecDepth 20000 in
theorem gX5_cell_X5_faulted : GoodIn wsX5_cell (wsV RX5 212 RX5 yX5_faulted wsX5_faulted) := goodIn_app (goodIn_of _ (by decide +kernel)) ggX5_cell_X5_faulted
set_option maxRecDepth 20000 in
theorem ggX5_cell_X2_hasRow : GoodIn wsX5_cell wsX2_hasRow := goodIn_r _ [25, 17, 47, 48, 49] (by decide +kernel) (by decide +kernel)
set_option maxRecDepth 20000 in
theorem gX5_cell_X2_hasRow : GoodIn wsX5_cell (wsV RX5 219 RX2 yX2_hasRow wsX2_hasRow) := goodIn_app (goodIn_of _ (by decide +kernel)) ggX5_cell_X2_hasRow
set_option maxRecDepth 20000 in
theorem ggX5_cell_X2_isCell : GoodIn wsX5_cell wsX2_isCell := goodIn_r _ [29, 30, 47, 48, 49] (by decide +kernel) (by decide +kernel)
set_option maxRecDepth 20000 in
theorem gX5_cell_X2_isCell : GoodIn wsX5_cell (wsV RX5 225 RX2 yX2_isCell wsX2_isCell) := goodIn_app (goodIn_of _ (by decide +kernel)) ggX5_cell_X2_isCell
set_option maxRecDepth 20000 in
theorem ggX5_cell_X2_at : GoodIn wsX5_cell wsX2_at := goodIn_r _ [34, 35, 36, 27, 28, 7, 29, 30, 47, 48, 49] (by decide +kernel) (by decide +kernel)
set_option maxRecDepth 20000 in
theorem gX5_cell_X2_at : GoodIn wsX5_cell (wsV RX5 203 RX2 yX2_at wsX2_at) := goodIn_app (goodIn_of _ (by decide +kernel)) ggX5_cell_X2_at
theorem dX5_cell_0 : decode cX5_cell 0 = .ok (.aload_n 0, 1) := by decide +kernel
theorem dX5_cell_1 : decode cX5_cell 1 = .ok (.iconst 0, 1) := by decide +kernel
theorem dX5_cell_2 : decode cX5_cell 2 = .ok (.putfield 60, 3) := by decide +kernel
theorem dX5_cell_5 : decode cX5_cell 5 = .ok (.aload_n 0, 1) := by decide +kernel
theorem dX5_cell_6 : decode cX5_cell 6 = .ok (.getfield 12, 3) := by decide +kernel
theorem dX5_cell_9 : decode cX5_cell 9 = .ok (.iload_n 1, 1) := by decide +kernel
theorem dX5_cell_10 : decode cX5_cell 10 = .ok (.invokevirtual 206, 3) := by decide +kernel
theorem dX5_cell_13 : decode cX5_cell 13 = .ok (.ifCond .eq 10, 3) := by decide +kernel
theorem dX5_cell_16 : decode cX5_cell 16 = .ok (.iload_n 3, 1) := by decide +kernel
theorem dX5_cell_17 : decode cX5_cell 17 = .ok (.invokestatic 209, 3) := by decide +kernel
theorem dX5_cell_20 : decode cX5_cell 20 = .ok (.ifCond .ne 7, 3) := by decide +kernel
theorem dX5_cell_23 : decode cX5_cell 23 = .ok (.ldc2_w 141, 3) := by decide +kernel
theorem dX5_cell_26 : decode cX5_cell 26 = .ok (.lreturn, 1) := by decide +kernel
theorem dX5_cell_27 : decode cX5_cell 27 = .ok (.aload_n 0, 1) := by decide +kernel
theorem dX5_cell_28 : decode cX5_cell 28 = .ok (.getfield 12, 3) := by decide +kernel
theorem dX5_cell_31 : decode cX5_cell 31 = .ok (.iload_n 1, 1) := by decide +kernel
theorem dX5_cell_32 : decode cX5_cell 32 = .ok (.iload_n 3, 1) := by decide +kernel
theorem dX5_cell_33 : decode cX5_cell 33 = .ok (.invokevirtual 231, 3) := by decide +kernel
theorem dX5_cell_36 : decode cX5_cell 36 = .ok (.ifCond .ne 13, 3) := by decide +kernel
theorem dX5_cell_39 : decode cX5_cell 39 = .ok (.aload_n 0, 1) := by decide +kernel
theorem dX5_cell_40 : decode cX5_cell 40 = .ok (.iconst 2, 1) := by decide +kernel
theorem dX5_cell_41 : decode cX5_cell 41 = .ok (.invokevirtual 212, 3) := by decide +kernel
theorem dX5_cell_44 : decode cX5_cell 44 = .ok (.pop, 1) := by decide +kernel
theorem dX5_cell_45 : decode cX5_cell 45 = .ok (.ldc2_w 141, 3) := by decide +kernel
theorem dX5_cell_48 : decode cX5_cell 48 = .ok (.lreturn, 1) := by decide +kernel
theorem dX5_cell_49 : decode cX5_cell 49 = .ok (.aload_n 0, 1) := by decide +kernel
theorem dX5_cell_50 : decode cX5_cell 50 = .ok (.getfield 12, 3) := by decide +kernel
theorem dX5_cell_53 : decode cX5_cell 53 = .ok (.iload_n 1, 1) := by decide +kernel
theorem dX5_cell_54 : decode cX5_cell 54 = .ok (.invokevirtual 219, 3) := by decide +kernel
theorem dX5_cell_57 : decode cX5_cell 57 = .ok (.ifCond .ne 13, 3) := by decide +kernel
theorem dX5_cell_60 : decode cX5_cell 60 = .ok (.aload_n 0, 1) := by decide +kernel
theorem dX5_cell_61 : decode cX5_cell 61 = .ok (.iconst 1, 1) := by decide +kernel
theorem dX5_cell_62 : decode cX5_cell 62 = .ok (.invokevirtual 212, 3) := by decide +kernel
theorem dX5_cell_65 : decode cX5_cell 65 = .ok (.pop, 1) := by decide +kernel
theorem dX5_cell_66 : decode cX5_cell 66 = .ok (.ldc2_w 141, 3) := by decide +kernel
theorem dX5_cell_69 : decode cX5_cell 69 = .ok (.lreturn, 1) := by decide +kernel
theorem dX5_cell_70 : decode cX5_cell 70 = .ok (.aload_n 0, 1) := by decide +kernel
theorem dX5_cell_71 : decode cX5_cell 71 = .ok (.getfield 12, 3) := by decide +kernel
theorem dX5_cell_74 : decode cX5_cell 74 = .ok (.iload_n 1, 1) := by decide +kernel
theorem dX5_cell_75 : decode cX5_cell 75 = .ok (.iload_n 2, 1) := by decide +kernel
theorem dX5_cell_76 : decode cX5_cell 76 = .ok (.invokevirtual 225, 3) := by decide +kernel
theorem dX5_cell_79 : decode cX5_cell 79 = .ok (.ifCond .ne 13, 3) := by decide +kernel
theorem dX5_cell_82 : decode cX5_cell 82 = .ok (.aload_n 0, 1) := by decide +kernel
theorem dX5_cell_83 : decode cX5_cell 83 = .ok (.iconst 3, 1) := by decide +kernel
theorem dX5_cell_84 : decode cX5_cell 84 = .ok (.invokevirtual 212, 3) := by decide +kernel
theorem dX5_cell_87 : decode cX5_cell 87 = .ok (.pop, 1) := by decide +kernel
theorem dX5_cell_88 : decode cX5_cell 88 = .ok (.ldc2_w 141, 3) := by decide +kernel
theorem dX5_cell_91 : decode cX5_cell 91 = .ok (.lreturn, 1) := by decide +kernel
theorem dX5_cell_92 : decode cX5_cell 92 = .ok (.aload_n 0, 1) := by decide +kernel
theorem dX5_cell_93 : decode cX5_cell 93 = .ok (.getfield 12, 3) := by decide +kernel
theorem dX5_cell_96 : decode cX5_cell 96 = .ok (.iload_n 1, 1) := by decide +kernel
theorem dX5_cell_97 : decode cX5_cell 97 = .ok (.iload_n 2, 1) := by decide +kernel
theorem dX5_cell_98 : decode cX5_cell 98 = .ok (.invokevirtual 203, 3) := by decide +kernel
theorem dX5_cell_101 : decode cX5_cell 101 = .ok (.i2l, 1) := by decide +kernel
theorem dX5_cell_102 : decode cX5_cell 102 = .ok (.lreturn, 1) := by decide +kernel
set_option maxRecDepth 20000 in
theorem ggX5_copy_X2_isSheet : GoodIn wsX5_copy wsX2_isSheet := goodIn_r _ [8] (by decide +kernel) (by decide +kernel)
set_option maxRecDepth 20000 in
theorem gX5_copy_X2_isSheet : GoodIn wsX5_copy (wsV RX5 206 RX2 yX2_isSheet wsX2_isSheet) := goodIn_app (goodIn_of _ (by decide +kernel)) ggX5_copy_X2_isSheet
set_option maxRecDepth 20000 in
theorem ggX5_copy_X2_hasRow : GoodIn wsX5_copy wsX2_hasRow := goodIn_r _ [12, 13, 43, 44, 45] (by decide +kernel) (by decide +kernel)
set_option maxRecDepth 20000 in
theorem gX5_copy_X2_hasRow : GoodIn wsX5_copy (wsV RX5 219 RX2 yX2_hasRow wsX2_hasRow) := goodIn_app (goodIn_of _ (by decide +kernel)) ggX5_copy_X2_hasRow
set_option maxRecDepth 20000 in
theorem ggX5_copy_X5_faulted : GoodIn wsX5_copy wsX5_faulted := goodIn_r _ [18, 1, 33, 34, 35, 36, 37, 38, 39, 40, 41, 42] (by decide +kernel) (by decide +kernel)
set_option maxRecDepth 20000 in
theorem gX5_copy_X5_faulted : GoodIn wsX5_copy (wsV RX5 212 RX5 yX5_faulted wsX5_faulted) := goodIn_app (goodIn_of _ (by decide +kernel)) ggX5_copy_X5_faulted
set_option maxRecDepth 20000 in
theorem ggX5_copy_X2_hasCells : GoodIn wsX5_copy wsX2_hasCells := goodIn_r _ [22, 23, 43, 44, 45] (by decide +kernel) (by decide +kernel)
set_option maxRecDepth 20000 in
theorem gX5_copy_X2_hasCells : GoodIn wsX5_copy (wsV RX5 237 RX2 yX2_hasCells wsX2_hasCells) := goodIn_app (goodIn_of _ (by decide +kernel)) ggX5_copy_X2_hasCells
set_option maxRecDepth 20000 in
theorem ggX5_copy_X2_move : GoodIn wsX5_copy wsX2_move := goodIn_r _ [27, 28, 29, 30, 31, 32, 43, 44, 45] (by decide +kernel) (by decide +kernel)
set_option maxRecDepth 20000 in
theorem gX5_copy_X2_move : GoodIn wsX5_copy (wsV RX5 240 RX2 yX2_move wsX2_move) := goodIn_app (goodIn_of _ (by decide +kernel)) ggX5_copy_X2_move
theorem dX5_copy_0 : decode cX5_copy 0 = .ok (.aload_n 0, 1) := by decide +kernel
theorem dX5_copy_1 : decode cX5_copy 1 = .ok (.iconst 0, 1) := by decide +kernel
theorem dX5_copy_2 : decode cX5_copy 2 = .ok (.putfield 60, 3) := by decide +kernel
theorem dX5_copy_5 : decode cX5_copy 5 = .ok (.aload_n 0, 1) := by decide +kernel
theorem dX5_copy_6 : decode cX5_copy 6 = .ok (.getfield 12, 3) := by decide +kernel
theorem dX5_copy_9 : decode cX5_copy 9 = .ok (.iload_n 1, 1) := by decide +kernel
theorem dX5_copy_10 : decode cX5_copy 10 = .ok (.invokevirtual 206, 3) := by decide +kernel
theorem dX5_copy_13 : decode cX5_copy 13 = .ok (.ifCond .eq 14, 3) := by decide +kernel
theorem dX5_copy_16 : decode cX5_copy 16 = .ok (.aload_n 0, 1) := by decide +kernel
theorem dX5_copy_17 : decode cX5_copy 17 = .ok (.getfield 12, 3) := by decide +kernel
theorem dX5_copy_20 : decode cX5_copy 20 = .ok (.iload_n 3, 1) := by decide +kernel
theorem dX5_copy_21 : decode cX5_copy 21 = .ok (.invokevirtual 206, 3) := by decide +kernel
theorem dX5_copy_24 : decode cX5_copy 24 = .ok (.ifCond .ne 5, 3) := by decide +kernel
theorem dX5_copy_27 : decode cX5_copy 27 = .ok (.iconst (-1), 1) := by decide +kernel
theorem dX5_copy_28 : decode cX5_copy 28 = .ok (.ireturn, 1) := by decide +kernel
theorem dX5_copy_29 : decode cX5_copy 29 = .ok (.aload_n 0, 1) := by decide +kernel
theorem dX5_copy_30 : decode cX5_copy 30 = .ok (.getfield 12, 3) := by decide +kernel
theorem dX5_copy_33 : decode cX5_copy 33 = .ok (.iload_n 1, 1) := by decide +kernel
theorem dX5_copy_34 : decode cX5_copy 34 = .ok (.invokevirtual 219, 3) := by decide +kernel
theorem dX5_copy_37 : decode cX5_copy 37 = .ok (.ifCond .eq 14, 3) := by decide +kernel
theorem dX5_copy_40 : decode cX5_copy 40 = .ok (.aload_n 0, 1) := by decide +kernel
theorem dX5_copy_41 : decode cX5_copy 41 = .ok (.getfield 12, 3) := by decide +kernel
theorem dX5_copy_44 : decode cX5_copy 44 = .ok (.iload_n 3, 1) := by decide +kernel
theorem dX5_copy_45 : decode cX5_copy 45 = .ok (.invokevirtual 219, 3) := by decide +kernel
theorem dX5_copy_48 : decode cX5_copy 48 = .ok (.ifCond .ne 9, 3) := by decide +kernel
theorem dX5_copy_51 : decode cX5_copy 51 = .ok (.aload_n 0, 1) := by decide +kernel
theorem dX5_copy_52 : decode cX5_copy 52 = .ok (.iconst 1, 1) := by decide +kernel
theorem dX5_copy_53 : decode cX5_copy 53 = .ok (.invokevirtual 212, 3) := by decide +kernel
theorem dX5_copy_56 : decode cX5_copy 56 = .ok (.ireturn, 1) := by decide +kernel
theorem dX5_copy_57 : decode cX5_copy 57 = .ok (.aload_n 0, 1) := by decide +kernel
theorem dX5_copy_58 : decode cX5_copy 58 = .ok (.getfield 12, 3) := by decide +kernel
theorem dX5_copy_61 : decode cX5_copy 61 = .ok (.getfield 234, 3) := by decide +kernel
theorem dX5_copy_64 : decode cX5_copy 64 = .ok (.iload_n 1, 1) := by decide +kernel
theorem dX5_copy_65 : decode cX5_copy 65 = .ok (.iaload, 1) := by decide +kernel
theorem dX5_copy_66 : decode cX5_copy 66 = .ok (.aload_n 0, 1) := by decide +kernel
theorem dX5_copy_67 : decode cX5_copy 67 = .ok (.getfield 12, 3) := by decide +kernel
theorem dX5_copy_70 : decode cX5_copy 70 = .ok (.getfield 234, 3) := by decide +kernel
theorem dX5_copy_73 : decode cX5_copy 73 = .ok (.iload_n 3, 1) := by decide +kernel
theorem dX5_copy_74 : decode cX5_copy 74 = .ok (.iaload, 1) := by decide +kernel
theorem dX5_copy_75 : decode cX5_copy 75 = .ok (.if_icmp .eq 9, 3) := by decide +kernel
theorem dX5_copy_78 : decode cX5_copy 78 = .ok (.aload_n 0, 1) := by decide +kernel
theorem dX5_copy_79 : decode cX5_copy 79 = .ok (.iconst 2, 1) := by decide +kernel
theorem dX5_copy_80 : decode cX5_copy 80 = .ok (.invokevirtual 212, 3) := by decide +kernel
theorem dX5_copy_83 : decode cX5_copy 83 = .ok (.ireturn, 1) := by decide +kernel
theorem dX5_copy_84 : decode cX5_copy 84 = .ok (.aload_n 0, 1) := by decide +kernel
theorem dX5_copy_85 : decode cX5_copy 85 = .ok (.getfield 12, 3) := by decide +kernel
theorem dX5_copy_88 : decode cX5_copy 88 = .ok (.iload_n 1, 1) := by decide +kernel
theorem dX5_copy_89 : decode cX5_copy 89 = .ok (.iload_n 2, 1) := by decide +kernel
theorem dX5_copy_90 : decode cX5_copy 90 = .ok (.iload 5, 2) := by decide +kernel
theorem dX5_copy_92 : decode cX5_copy 92 = .ok (.invokevirtual 237, 3) := by decide +kernel
theorem dX5_copy_95 : decode cX5_copy 95 = .ok (.ifCond .eq 18, 3) := by decide +kernel
theorem dX5_copy_98 : decode cX5_copy 98 = .ok (.aload_n 0, 1) := by decide +kernel
theorem dX5_copy_99 : decode cX5_copy 99 = .ok (.getfield 12, 3) := by decide +kernel
theorem dX5_copy_102 : decode cX5_copy 102 = .ok (.iload_n 3, 1) := by decide +kernel
theorem dX5_copy_103 : decode cX5_copy 103 = .ok (.iload 4, 2) := by decide +kernel
theorem dX5_copy_105 : decode cX5_copy 105 = .ok (.iload 5, 2) := by decide +kernel
theorem dX5_copy_107 : decode cX5_copy 107 = .ok (.invokevirtual 237, 3) := by decide +kernel
theorem dX5_copy_110 : decode cX5_copy 110 = .ok (.ifCond .ne 9, 3) := by decide +kernel
theorem dX5_copy_113 : decode cX5_copy 113 = .ok (.aload_n 0, 1) := by decide +kernel
theorem dX5_copy_114 : decode cX5_copy 114 = .ok (.iconst 3, 1) := by decide +kernel
theorem dX5_copy_115 : decode cX5_copy 115 = .ok (.invokevirtual 212, 3) := by decide +kernel
theorem dX5_copy_118 : decode cX5_copy 118 = .ok (.ireturn, 1) := by decide +kernel
theorem dX5_copy_119 : decode cX5_copy 119 = .ok (.aload_n 0, 1) := by decide +kernel
theorem dX5_copy_120 : decode cX5_copy 120 = .ok (.getfield 12, 3) := by decide +kernel
theorem dX5_copy_123 : decode cX5_copy 123 = .ok (.iload_n 1, 1) := by decide +kernel
theorem dX5_copy_124 : decode cX5_copy 124 = .ok (.iload_n 2, 1) := by decide +kernel
theorem dX5_copy_125 : decode cX5_copy 125 = .ok (.iload_n 3, 1) := by decide +kernel
theorem dX5_copy_126 : decode cX5_copy 126 = .ok (.iload 4, 2) := by decide +kernel
theorem dX5_copy_128 : decode cX5_copy 128 = .ok (.iload 5, 2) := by decide +kernel
theorem dX5_copy_130 : decode cX5_copy 130 = .ok (.invokevirtual 240, 3) := by decide +kernel
theorem dX5_copy_133 : decode cX5_copy 133 = .ok (.iload 5, 2) := by decide +kernel
theorem dX5_copy_135 : decode cX5_copy 135 = .ok (.ireturn, 1) := by decide +kernel
set_option maxRecDepth 20000 in
theorem ggX5_tell_X4_isThing : GoodIn wsX5_tell wsX4_isThing := goodIn_r _ [8, 9, 38, 39, 40, 41, 42, 43, 44, 45, 46] (by decide +kernel) (by decide +kernel)
set_option maxRecDepth 20000 in
theorem gX5_tell_X4_isThing : GoodIn wsX5_tell (wsV RX5 84 RX4 yX4_isThing wsX4_isThing) := goodIn_app (goodIn_of _ (by decide +kernel)) ggX5_tell_X4_isThing
set_option maxRecDepth 20000 in
theorem ggX5_tell_X5_tellDreaded : GoodIn wsX5_tell wsX5_tellDreaded := goodIn_r _ [14, 15, 16, 17, 13, 18, 19, 20, 21, 22, 23, 24, 25, 26, 27, 28, 29, 30, 31, 32, 33, 34, 35, 36, 37] (by decide +kernel) (by decide +kernel)
set_option maxRecDepth 20000 in
theorem gX5_tell_X5_tellDreaded : GoodIn wsX5_tell (wsV RX5 244 RX5 yX5_tellDreaded wsX5_tellDreaded) := goodIn_app (goodIn_of _ (by decide +kernel)) ggX5_tell_X5_tellDreaded
set_option maxRecDepth 20000 in
theorem ggX5_tell_X5_tellLong : GoodIn wsX5_tell wsX5_tellLong := goodIn_r _ [23, 15, 16, 17, 13, 18, 19, 24, 25, 26, 27, 28, 29, 30, 31, 32, 33, 34, 35, 36, 37] (by decide +kernel) (by decide +kernel)
set_option maxRecDepth 20000 in
theorem gX5_tell_X5_tellLong : GoodIn wsX5_tell (wsV RX5 247 RX5 yX5_tellLong wsX5_tellLong) := goodIn_app (goodIn_of _ (by decide +kernel)) ggX5_tell_X5_tellLong
set_option maxRecDepth 20000 in
theorem ggX5_tell_X5_tellThing : GoodIn wsX5_tell wsX5_tellThing := goodIn_r _ [27, 15, 16, 17, 13, 18, 19, 28, 29, 30, 31, 32, 33, 34, 35, 36, 37] (by decide +kernel) (by decide +kernel)
set_option maxRecDepth 20000 in
theorem gX5_tell_X5_tellThing : GoodIn wsX5_tell (wsV RX5 250 RX5 yX5_tellThing wsX5_tellThing) := goodIn_app (goodIn_of _ (by decide +kernel)) ggX5_tell_X5_tellThing
theorem dX5_tell_0 : decode cX5_tell 0 = .ok (.aload_n 0, 1) := by decide +kernel
theorem dX5_tell_1 : decode cX5_tell 1 = .ok (.getfield 28, 3) := by decide +kernel
theorem dX5_tell_4 : decode cX5_tell 4 = .ok (.iload_n 1, 1) := by decide +kernel
theorem dX5_tell_5 : decode cX5_tell 5 = .ok (.invokevirtual 84, 3) := by decide +kernel
theorem dX5_tell_8 : decode cX5_tell 8 = .ok (.ifCond .ne 5, 3) := by decide +kernel
theorem dX5_tell_11 : decode cX5_tell 11 = .ok (.iconst (-1), 1) := by decide +kernel
theorem dX5_tell_12 : decode cX5_tell 12 = .ok (.ireturn, 1) := by decide +kernel
theorem dX5_tell_13 : decode cX5_tell 13 = .ok (.aload_n 0, 1) := by decide +kernel
theorem dX5_tell_14 : decode cX5_tell 14 = .ok (.getfield 28, 3) := by decide +kernel
theorem dX5_tell_17 : decode cX5_tell 17 = .ok (.getfield 88, 3) := by decide +kernel
theorem dX5_tell_20 : decode cX5_tell 20 = .ok (.iload_n 1, 1) := by decide +kernel
theorem dX5_tell_21 : decode cX5_tell 21 = .ok (.iaload, 1) := by decide +kernel
theorem dX5_tell_22 : decode cX5_tell 22 = .ok (.istore_n 2, 1) := by decide +kernel
theorem dX5_tell_23 : decode cX5_tell 23 = .ok (.iload_n 2, 1) := by decide +kernel
theorem dX5_tell_24 : decode cX5_tell 24 = .ok (.iconst 2, 1) := by decide +kernel
theorem dX5_tell_25 : decode cX5_tell 25 = .ok (.if_icmp .ne 17, 3) := by decide +kernel
theorem dX5_tell_28 : decode cX5_tell 28 = .ok (.aload_n 0, 1) := by decide +kernel
theorem dX5_tell_29 : decode cX5_tell 29 = .ok (.aload_n 0, 1) := by decide +kernel
theorem dX5_tell_30 : decode cX5_tell 30 = .ok (.getfield 28, 3) := by decide +kernel
theorem dX5_tell_33 : decode cX5_tell 33 = .ok (.getfield 91, 3) := by decide +kernel
theorem dX5_tell_36 : decode cX5_tell 36 = .ok (.iload_n 1, 1) := by decide +kernel
theorem dX5_tell_37 : decode cX5_tell 37 = .ok (.iaload, 1) := by decide +kernel
theorem dX5_tell_38 : decode cX5_tell 38 = .ok (.invokevirtual 244, 3) := by decide +kernel
theorem dX5_tell_41 : decode cX5_tell 41 = .ok (.ireturn, 1) := by decide +kernel
theorem dX5_tell_42 : decode cX5_tell 42 = .ok (.iload_n 2, 1) := by decide +kernel
theorem dX5_tell_43 : decode cX5_tell 43 = .ok (.iconst 1, 1) := by decide +kernel
theorem dX5_tell_44 : decode cX5_tell 44 = .ok (.if_icmp .ne 19, 3) := by decide +kernel
theorem dX5_tell_47 : decode cX5_tell 47 = .ok (.aload_n 0, 1) := by decide +kernel
theorem dX5_tell_48 : decode cX5_tell 48 = .ok (.aload_n 0, 1) := by decide +kernel
theorem dX5_tell_49 : decode cX5_tell 49 = .ok (.getfield 28, 3) := by decide +kernel
theorem dX5_tell_52 : decode cX5_tell 52 = .ok (.getfield 91, 3) := by decide +kernel
theorem dX5_tell_55 : decode cX5_tell 55 = .ok (.iload_n 1, 1) := by decide +kernel
theorem dX5_tell_56 : decode cX5_tell 56 = .ok (.iaload, 1) := by decide +kernel
theorem dX5_tell_57 : decode cX5_tell 57 = .ok (.invokevirtual 247, 3) := by decide +kernel
theorem dX5_tell_60 : decode cX5_tell 60 = .ok (.goto 16, 3) := by decide +kernel
theorem dX5_tell_63 : decode cX5_tell 63 = .ok (.aload_n 0, 1) := by decide +kernel
theorem dX5_tell_64 : decode cX5_tell 64 = .ok (.aload_n 0, 1) := by decide +kernel
theorem dX5_tell_65 : decode cX5_tell 65 = .ok (.getfield 28, 3) := by decide +kernel
theorem dX5_tell_68 : decode cX5_tell 68 = .ok (.getfield 91, 3) := by decide +kernel
theorem dX5_tell_71 : decode cX5_tell 71 = .ok (.iload_n 1, 1) := by decide +kernel
theorem dX5_tell_72 : decode cX5_tell 72 = .ok (.iaload, 1) := by decide +kernel
theorem dX5_tell_73 : decode cX5_tell 73 = .ok (.invokevirtual 250, 3) := by decide +kernel
theorem dX5_tell_76 : decode cX5_tell 76 = .ok (.ireturn, 1) := by decide +kernel
set_option maxRecDepth 20000 in
theorem ggX5_fear_X4_isThing : GoodIn wsX5_fear wsX4_isThing := goodIn_r _ [7, 8, 33, 34, 35, 36, 37, 38, 39, 40, 41] (by decide +kernel) (by decide +kernel)
set_option maxRecDepth 20000 in
theorem gX5_fear_X4_isThing : GoodIn wsX5_fear (wsV RX5 84 RX4 yX4_isThing wsX4_isThing) := goodIn_app (goodIn_of _ (by decide +kernel)) ggX5_fear_X4_isThing
set_option maxRecDepth 20000 in
theorem ggX5_fear_X5_fearDreaded : GoodIn wsX5_fear wsX5_fearDreaded := goodIn_r _ [13, 14, 15, 16, 12, 17, 18, 23, 24, 25, 26, 27, 28, 29, 30, 31, 32] (by decide +kernel) (by decide +kernel)
set_option maxRecDepth 20000 in
theorem gX5_fear_X5_fearDreaded : GoodIn wsX5_fear (wsV RX5 253 RX5 yX5_fearDreaded wsX5_fearDreaded) := goodIn_app (goodIn_of _ (by decide +kernel)) ggX5_fear_X5_fearDreaded
set_option maxRecDepth 20000 in
theorem ggX5_fear_X5_fearLent : GoodIn wsX5_fear wsX5_fearLent := goodIn_r _ [22, 14, 15, 16, 12, 17, 18, 23, 24, 25, 26, 27, 28, 29, 30, 31, 32] (by decide +kernel) (by decide +kernel)
set_option maxRecDepth 20000 in
theorem gX5_fear_X5_fearLent : GoodIn wsX5_fear (wsV RX5 256 RX5 yX5_fearLent wsX5_fearLent) := goodIn_app (goodIn_of _ (by decide +kernel)) ggX5_fear_X5_fearLent
theorem dX5_fear_0 : decode cX5_fear 0 = .ok (.aload_n 0, 1) := by decide +kernel
theorem dX5_fear_1 : decode cX5_fear 1 = .ok (.getfield 28, 3) := by decide +kernel
theorem dX5_fear_4 : decode cX5_fear 4 = .ok (.iload_n 1, 1) := by decide +kernel
theorem dX5_fear_5 : decode cX5_fear 5 = .ok (.invokevirtual 84, 3) := by decide +kernel
theorem dX5_fear_8 : decode cX5_fear 8 = .ok (.ifCond .ne 5, 3) := by decide +kernel
theorem dX5_fear_11 : decode cX5_fear 11 = .ok (.iconst (-1), 1) := by decide +kernel
theorem dX5_fear_12 : decode cX5_fear 12 = .ok (.ireturn, 1) := by decide +kernel
theorem dX5_fear_13 : decode cX5_fear 13 = .ok (.aload_n 0, 1) := by decide +kernel
theorem dX5_fear_14 : decode cX5_fear 14 = .ok (.getfield 28, 3) := by decide +kernel
theorem dX5_fear_17 : decode cX5_fear 17 = .ok (.getfield 88, 3) := by decide +kernel
theorem dX5_fear_20 : decode cX5_fear 20 = .ok (.iload_n 1, 1) := by decide +kernel
theorem dX5_fear_21 : decode cX5_fear 21 = .ok (.iaload, 1) := by decide +kernel
theorem dX5_fear_22 : decode cX5_fear 22 = .ok (.iconst 2, 1) := by decide +kernel
theorem dX5_fear_23 : decode cX5_fear 23 = .ok (.if_icmp .ne 10, 3) := by decide +kernel
theorem dX5_fear_26 : decode cX5_fear 26 = .ok (.aload_n 0, 1) := by decide +kernel
theorem dX5_fear_27 : decode cX5_fear 27 = .ok (.invokevirtual 253, 3) := by decide +kernel
theorem dX5_fear_30 : decode cX5_fear 30 = .ok (.goto 8, 3) := by decide +kernel
theorem dX5_fear_33 : decode cX5_fear 33 = .ok (.aload_n 0, 1) := by decide +kernel
theorem dX5_fear_34 : decode cX5_fear 34 = .ok (.iload_n 1, 1) := by decide +kernel
theorem dX5_fear_35 : decode cX5_fear 35 = .ok (.invokevirtual 256, 3) := by decide +kernel
theorem dX5_fear_38 : decode cX5_fear 38 = .ok (.ireturn, 1) := by decide +kernel
set_option maxRecDepth 20000 in
theorem ggX5_as_X4_isThing : GoodIn wsX5_as wsX4_isThing := goodIn_r _ [8, 9, 25, 26, 27, 28, 29, 30, 31, 32, 33] (by decide +kernel) (by decide +kernel)
set_option maxRecDepth 20000 in
theorem gX5_as_X4_isThing : GoodIn wsX5_as (wsV RX5 84 RX4 yX4_isThing wsX4_isThing) := goodIn_app (goodIn_of _ (by decide +kernel)) ggX5_as_X4_isThing
set_option maxRecDepth 20000 in
theorem ggX5_as_X5_faulted : GoodIn wsX5_as wsX5_faulted := goodIn_r _ [14, 1, 15, 16, 17, 18, 19, 20, 21, 22, 23, 24] (by decide +kernel) (by decide +kernel)
set_option maxRecDepth 20000 in
theorem gX5_as_X5_faulted : GoodIn wsX5_as (wsV RX5 212 RX5 yX5_faulted wsX5_faulted) := goodIn_app (goodIn_of _ (by decide +kernel)) ggX5_as_X5_faulted
theorem dX5_as_0 : decode cX5_as 0 = .ok (.aload_n 0, 1) := by decide +kernel
theorem dX5_as_1 : decode cX5_as 1 = .ok (.iconst 0, 1) := by decide +kernel
theorem dX5_as_2 : decode cX5_as 2 = .ok (.putfield 60, 3) := by decide +kernel
theorem dX5_as_5 : decode cX5_as 5 = .ok (.aload_n 0, 1) := by decide +kernel
theorem dX5_as_6 : decode cX5_as 6 = .ok (.getfield 28, 3) := by decide +kernel
theorem dX5_as_9 : decode cX5_as 9 = .ok (.iload_n 1, 1) := by decide +kernel
theorem dX5_as_10 : decode cX5_as 10 = .ok (.invokevirtual 84, 3) := by decide +kernel
theorem dX5_as_13 : decode cX5_as 13 = .ok (.ifCond .ne 5, 3) := by decide +kernel
theorem dX5_as_16 : decode cX5_as 16 = .ok (.iconst (-1), 1) := by decide +kernel
theorem dX5_as_17 : decode cX5_as 17 = .ok (.ireturn, 1) := by decide +kernel
theorem dX5_as_18 : decode cX5_as 18 = .ok (.iload_n 2, 1) := by decide +kernel
theorem dX5_as_19 : decode cX5_as 19 = .ok (.ifCond .lt 8, 3) := by decide +kernel
theorem dX5_as_22 : decode cX5_as 22 = .ok (.iload_n 2, 1) := by decide +kernel
theorem dX5_as_23 : decode cX5_as 23 = .ok (.iconst 3, 1) := by decide +kernel
theorem dX5_as_24 : decode cX5_as 24 = .ok (.if_icmp .lt 6, 3) := by decide +kernel
theorem dX5_as_27 : decode cX5_as 27 = .ok (.bipush (-2), 2) := by decide +kernel
theorem dX5_as_29 : decode cX5_as 29 = .ok (.ireturn, 1) := by decide +kernel
theorem dX5_as_30 : decode cX5_as 30 = .ok (.aload_n 0, 1) := by decide +kernel
theorem dX5_as_31 : decode cX5_as 31 = .ok (.getfield 28, 3) := by decide +kernel
theorem dX5_as_34 : decode cX5_as 34 = .ok (.getfield 88, 3) := by decide +kernel
theorem dX5_as_37 : decode cX5_as 37 = .ok (.iload_n 1, 1) := by decide +kernel
theorem dX5_as_38 : decode cX5_as 38 = .ok (.iaload, 1) := by decide +kernel
theorem dX5_as_39 : decode cX5_as 39 = .ok (.iload_n 2, 1) := by decide +kernel
theorem dX5_as_40 : decode cX5_as 40 = .ok (.if_icmp .lt 7, 3) := by decide +kernel
theorem dX5_as_43 : decode cX5_as 43 = .ok (.iconst 1, 1) := by decide +kernel
theorem dX5_as_44 : decode cX5_as 44 = .ok (.goto 8, 3) := by decide +kernel
theorem dX5_as_47 : decode cX5_as 47 = .ok (.aload_n 0, 1) := by decide +kernel
theorem dX5_as_48 : decode cX5_as 48 = .ok (.iconst 2, 1) := by decide +kernel
theorem dX5_as_49 : decode cX5_as 49 = .ok (.invokevirtual 212, 3) := by decide +kernel
theorem dX5_as_52 : decode cX5_as 52 = .ok (.ireturn, 1) := by decide +kernel
theorem dX5_trace_0 : decode cX5_trace 0 = .ok (.aload_n 0, 1) := by decide +kernel
theorem dX5_trace_1 : decode cX5_trace 1 = .ok (.getfield 56, 3) := by decide +kernel
theorem dX5_trace_4 : decode cX5_trace 4 = .ok (.ireturn, 1) := by decide +kernel
theorem dX5_fault_0 : decode cX5_fault 0 = .ok (.aload_n 0, 1) := by decide +kernel
theorem dX5_fault_1 : decode cX5_fault 1 = .ok (.getfield 60, 3) := by decide +kernel
theorem dX5_fault_4 : decode cX5_fault 4 = .ok (.ireturn, 1) := by decide +kernel
set_option maxRecDepth 20000 in
theorem ggX5_many_X5_countHeard : GoodIn wsX5_many wsX5_countHeard := goodIn_r _ [10, 11, 12, 13, 14, 15, 16, 17, 18, 19, 20, 21] (by decide +kernel) (by decide +kernel)
set_option maxRecDepth 20000 in
theorem gX5_many_X5_countHeard : GoodIn wsX5_many (wsV RX5 259 RX5 yX5_countHeard wsX5_countHeard) := goodIn_app (goodIn_of _ (by decide +kernel)) ggX5_many_X5_countHeard
theorem dX5_many_0 : decode cX5_many 0 = .ok (.iload_n 1, 1) := by decide +kernel
theorem dX5_many_1 : decode cX5_many 1 = .ok (.ifCond .ne 11, 3) := by decide +kernel
theorem dX5_many_4 : decode cX5_many 4 = .ok (.aload_n 0, 1) := by decide +kernel
theorem dX5_many_5 : decode cX5_many 5 = .ok (.getfield 28, 3) := by decide +kernel
theorem dX5_many_8 : decode cX5_many 8 = .ok (.getfield 81, 3) := by decide +kernel
theorem dX5_many_11 : decode cX5_many 11 = .ok (.ireturn, 1) := by decide +kernel
theorem dX5_many_12 : decode cX5_many 12 = .ok (.iload_n 1, 1) := by decide +kernel
theorem dX5_many_13 : decode cX5_many 13 = .ok (.iconst 1, 1) := by decide +kernel
theorem dX5_many_14 : decode cX5_many 14 = .ok (.if_icmp .ne 11, 3) := by decide +kernel
theorem dX5_many_17 : decode cX5_many 17 = .ok (.aload_n 0, 1) := by decide +kernel
theorem dX5_many_18 : decode cX5_many 18 = .ok (.getfield 28, 3) := by decide +kernel
theorem dX5_many_21 : decode cX5_many 21 = .ok (.getfield 125, 3) := by decide +kernel
theorem dX5_many_24 : decode cX5_many 24 = .ok (.ireturn, 1) := by decide +kernel
theorem dX5_many_25 : decode cX5_many 25 = .ok (.iload_n 1, 1) := by decide +kernel
theorem dX5_many_26 : decode cX5_many 26 = .ok (.iconst 2, 1) := by decide +kernel
theorem dX5_many_27 : decode cX5_many 27 = .ok (.if_icmp .ne 8, 3) := by decide +kernel
theorem dX5_many_30 : decode cX5_many 30 = .ok (.aload_n 0, 1) := by decide +kernel
theorem dX5_many_31 : decode cX5_many 31 = .ok (.invokevirtual 259, 3) := by decide +kernel
theorem dX5_many_34 : decode cX5_many 34 = .ok (.ireturn, 1) := by decide +kernel
theorem dX5_many_35 : decode cX5_many 35 = .ok (.iload_n 1, 1) := by decide +kernel
theorem dX5_many_36 : decode cX5_many 36 = .ok (.iconst 3, 1) := by decide +kernel
theorem dX5_many_37 : decode cX5_many 37 = .ok (.if_icmp .ne 13, 3) := by decide +kernel
theorem dX5_many_40 : decode cX5_many 40 = .ok (.aload_n 0, 1) := by decide +kernel
theorem dX5_many_41 : decode cX5_many 41 = .ok (.getfield 42, 3) := by decide +kernel
theorem dX5_many_44 : decode cX5_many 44 = .ok (.getfield 78, 3) := by decide +kernel
theorem dX5_many_47 : decode cX5_many 47 = .ok (.goto 5, 3) := by decide +kernel
theorem dX5_many_50 : decode cX5_many 50 = .ok (.bipush (-2), 2) := by decide +kernel
theorem dX5_many_52 : decode cX5_many 52 = .ok (.ireturn, 1) := by decide +kernel
theorem dX5_isHour_0 : decode cX5_isHour 0 = .ok (.iload_n 0, 1) := by decide +kernel
theorem dX5_isHour_1 : decode cX5_isHour 1 = .ok (.ifCond .lt 13, 3) := by decide +kernel
theorem dX5_isHour_4 : decode cX5_isHour 4 = .ok (.iload_n 0, 1) := by decide +kernel
theorem dX5_isHour_5 : decode cX5_isHour 5 = .ok (.bipush 6, 2) := by decide +kernel
theorem dX5_isHour_7 : decode cX5_isHour 7 = .ok (.if_icmp .ge 7, 3) := by decide +kernel
theorem dX5_isHour_10 : decode cX5_isHour 10 = .ok (.iconst 1, 1) := by decide +kernel
theorem dX5_isHour_11 : decode cX5_isHour 11 = .ok (.goto 4, 3) := by decide +kernel
theorem dX5_isHour_14 : decode cX5_isHour 14 = .ok (.iconst 0, 1) := by decide +kernel
theorem dX5_isHour_15 : decode cX5_isHour 15 = .ok (.ireturn, 1) := by decide +kernel
theorem dX5_isBreath_0 : decode cX5_isBreath 0 = .ok (.iload_n 0, 1) := by decide +kernel
theorem dX5_isBreath_1 : decode cX5_isBreath 1 = .ok (.ifCond .lt 13, 3) := by decide +kernel
theorem dX5_isBreath_4 : decode cX5_isBreath 4 = .ok (.iload_n 0, 1) := by decide +kernel
theorem dX5_isBreath_5 : decode cX5_isBreath 5 = .ok (.bipush 18, 2) := by decide +kernel
theorem dX5_isBreath_7 : decode cX5_isBreath 7 = .ok (.if_icmp .gt 7, 3) := by decide +kernel
theorem dX5_isBreath_10 : decode cX5_isBreath 10 = .ok (.iconst 1, 1) := by decide +kernel
theorem dX5_isBreath_11 : decode cX5_isBreath 11 = .ok (.goto 4, 3) := by decide +kernel
theorem dX5_isBreath_14 : decode cX5_isBreath 14 = .ok (.iconst 0, 1) := by decide +kernel
theorem dX5_isBreath_15 : decode cX5_isBreath 15 = .ok (.ireturn, 1) := by decide +kernel
theorem dX5_isLane_0 : decode cX5_isLane 0 = .ok (.iload_n 0, 1) := by decide +kernel
theorem dX5_isLane_1 : decode cX5_isLane 1 = .ok (.ifCond .lt 12, 3) := by decide +kernel
theorem dX5_isLane_4 : decode cX5_isLane 4 = .ok (.iload_n 0, 1) := by decide +kernel
theorem dX5_isLane_5 : decode cX5_isLane 5 = .ok (.iconst 3, 1) := by decide +kernel
theorem dX5_isLane_6 : decode cX5_isLane 6 = .ok (.if_icmp .ge 7, 3) := by decide +kernel
theorem dX5_isLane_9 : decode cX5_isLane 9 = .ok (.iconst 1, 1) := by decide +kernel
theorem dX5_isLane_10 : decode cX5_isLane 10 = .ok (.goto 4, 3) := by decide +kernel
theorem dX5_isLane_13 : decode cX5_isLane 13 = .ok (.iconst 0, 1) := by decide +kernel
theorem dX5_isLane_14 : decode cX5_isLane 14 = .ok (.ireturn, 1) := by decide +kernel
theorem dX5_isHalfOfShare_0 : decode cX5_isHalfOfShare 0 = .ok (.iload_n 0, 1) := by decide +kernel
theorem dX5_isHalfOfShare_1 : decode cX5_isHalfOfShare 1 = .ok (.ifCond .eq 8, 3) := by decide +kernel
theorem dX5_isHalfOfShare_4 : decode cX5_isHalfOfShare 4 = .ok (.iload_n 0, 1) := by decide +kernel
theorem dX5_isHalfOfShare_5 : decode cX5_isHalfOfShare 5 = .ok (.iconst 1, 1) := by decide +kernel
theorem dX5_isHalfOfShare_6 : decode cX5_isHalfOfShare 6 = .ok (.if_icmp .ne 7, 3) := by decide +kernel
theorem dX5_isHalfOfShare_9 : decode cX5_isHalfOfShare 9 = .ok (.iconst 1, 1) := by decide +kernel
theorem dX5_isHalfOfShare_10 : decode cX5_isHalfOfShare 10 = .ok (.goto 4, 3) := by decide +kernel
theorem dX5_isHalfOfShare_13 : decode cX5_isHalfOfShare 13 = .ok (.iconst 0, 1) := by decide +kernel
theorem dX5_isHalfOfShare_14 : decode cX5_isHalfOfShare 14 = .ok (.ireturn, 1) := by decide +kernel
theorem dX5_has_0 : decode cX5_has 0 = .ok (.iload_n 0, 1) := by decide +kernel
theorem dX5_has_1 : decode cX5_has 1 = .ok (.iload_n 1, 1) := by decide +kernel
theorem dX5_has_2 : decode cX5_has 2 = .ok (.ishr, 1) := by decide +kernel
theorem dX5_has_3 : decode cX5_has 3 = .ok (.iconst 1, 1) := by decide +kernel
theorem dX5_has_4 : decode cX5_has 4 = .ok (.iand, 1) := by decide +kernel
theorem dX5_has_5 : decode cX5_has 5 = .ok (.iconst 1, 1) := by decide +kernel
theorem dX5_has_6 : decode cX5_has 6 = .ok (.if_icmp .ne 7, 3) := by decide +kernel
theorem dX5_has_9 : decode cX5_has 9 = .ok (.iconst 1, 1) := by decide +kernel
theorem dX5_has_10 : decode cX5_has 10 = .ok (.goto 4, 3) := by decide +kernel
theorem dX5_has_13 : decode cX5_has 13 = .ok (.iconst 0, 1) := by decide +kernel
theorem dX5_has_14 : decode cX5_has 14 = .ok (.ireturn, 1) := by decide +kernel
theorem dX5_wordsOfKind_0 : decode cX5_wordsOfKind 0 = .ok (.iload_n 0, 1) := by decide +kernel
theorem dX5_wordsOfKind_1 : decode cX5_wordsOfKind 1 = .ok (.iconst 1, 1) := by decide +kernel
theorem dX5_wordsOfKind_2 : decode cX5_wordsOfKind 2 = .ok (.iadd, 1) := by decide +kernel
theorem dX5_wordsOfKind_3 : decode cX5_wordsOfKind 3 = .ok (.ireturn, 1) := by decide +kernel
theorem dX5_hasTown_0 : decode cX5_hasTown 0 = .ok (.aload_n 0, 1) := by decide +kernel
theorem dX5_hasTown_1 : decode cX5_hasTown 1 = .ok (.getfield 28, 3) := by decide +kernel
theorem dX5_hasTown_4 : decode cX5_hasTown 4 = .ok (.getfield 81, 3) := by decide +kernel
theorem dX5_hasTown_7 : decode cX5_hasTown 7 = .ok (.ifCond .le 7, 3) := by decide +kernel
theorem dX5_hasTown_10 : decode cX5_hasTown 10 = .ok (.iconst 1, 1) := by decide +kernel
theorem dX5_hasTown_11 : decode cX5_hasTown 11 = .ok (.goto 4, 3) := by decide +kernel
theorem dX5_hasTown_14 : decode cX5_hasTown 14 = .ok (.iconst 0, 1) := by decide +kernel
theorem dX5_hasTown_15 : decode cX5_hasTown 15 = .ok (.ireturn, 1) := by decide +kernel
theorem dX5_makeHoursAnew_0 : decode cX5_makeHoursAnew 0 = .ok (.iconst 0, 1) := by decide +kernel
theorem dX5_makeHoursAnew_1 : decode cX5_makeHoursAnew 1 = .ok (.istore_n 1, 1) := by decide +kernel
theorem dX5_makeHoursAnew_2 : decode cX5_makeHoursAnew 2 = .ok (.iload_n 1, 1) := by decide +kernel
theorem dX5_makeHoursAnew_3 : decode cX5_makeHoursAnew 3 = .ok (.bipush 6, 2) := by decide +kernel
theorem dX5_makeHoursAnew_5 : decode cX5_makeHoursAnew 5 = .ok (.if_icmp .ge 32, 3) := by decide +kernel
theorem dX5_makeHoursAnew_8 : decode cX5_makeHoursAnew 8 = .ok (.aload_n 0, 1) := by decide +kernel
theorem dX5_makeHoursAnew_9 : decode cX5_makeHoursAnew 9 = .ok (.getfield 46, 3) := by decide +kernel
theorem dX5_makeHoursAnew_12 : decode cX5_makeHoursAnew 12 = .ok (.iload_n 1, 1) := by decide +kernel
theorem dX5_makeHoursAnew_13 : decode cX5_makeHoursAnew 13 = .ok (.iconst 0, 1) := by decide +kernel
theorem dX5_makeHoursAnew_14 : decode cX5_makeHoursAnew 14 = .ok (.iastore, 1) := by decide +kernel
theorem dX5_makeHoursAnew_15 : decode cX5_makeHoursAnew 15 = .ok (.aload_n 0, 1) := by decide +kernel
theorem dX5_makeHoursAnew_16 : decode cX5_makeHoursAnew 16 = .ok (.getfield 50, 3) := by decide +kernel
theorem dX5_makeHoursAnew_19 : decode cX5_makeHoursAnew 19 = .ok (.iload_n 1, 1) := by decide +kernel
theorem dX5_makeHoursAnew_20 : decode cX5_makeHoursAnew 20 = .ok (.bipush 9, 2) := by decide +kernel
theorem dX5_makeHoursAnew_22 : decode cX5_makeHoursAnew 22 = .ok (.iastore, 1) := by decide +kernel
theorem dX5_makeHoursAnew_23 : decode cX5_makeHoursAnew 23 = .ok (.aload_n 0, 1) := by decide +kernel
theorem dX5_makeHoursAnew_24 : decode cX5_makeHoursAnew 24 = .ok (.getfield 53, 3) := by decide +kernel
theorem dX5_makeHoursAnew_27 : decode cX5_makeHoursAnew 27 = .ok (.iload_n 1, 1) := by decide +kernel
theorem dX5_makeHoursAnew_28 : decode cX5_makeHoursAnew 28 = .ok (.bipush (-9), 2) := by decide +kernel
theorem dX5_makeHoursAnew_30 : decode cX5_makeHoursAnew 30 = .ok (.iastore, 1) := by decide +kernel
theorem dX5_makeHoursAnew_31 : decode cX5_makeHoursAnew 31 = .ok (.iinc 1 1, 3) := by decide +kernel
theorem dX5_makeHoursAnew_34 : decode cX5_makeHoursAnew 34 = .ok (.goto (-32), 3) := by decide +kernel
theorem dX5_makeHoursAnew_37 : decode cX5_makeHoursAnew 37 = .ok (.return_, 1) := by decide +kernel
theorem dX5_faulted_0 : decode cX5_faulted 0 = .ok (.aload_n 0, 1) := by decide +kernel
theorem dX5_faulted_1 : decode cX5_faulted 1 = .ok (.iload_n 1, 1) := by decide +kernel
theorem dX5_faulted_2 : decode cX5_faulted 2 = .ok (.putfield 60, 3) := by decide +kernel
theorem dX5_faulted_5 : decode cX5_faulted 5 = .ok (.bipush (-10), 2) := by decide +kernel
theorem dX5_faulted_7 : decode cX5_faulted 7 = .ok (.iload_n 1, 1) := by decide +kernel
theorem dX5_faulted_8 : decode cX5_faulted 8 = .ok (.isub, 1) := by decide +kernel
theorem dX5_faulted_9 : decode cX5_faulted 9 = .ok (.ireturn, 1) := by decide +kernel
set_option maxRecDepth 20000 in
theorem ggX5_refusalOfSet_X5_isHour : GoodIn wsX5_refusalOfSet wsX5_isHour := goodIn_r _ [5] (by decide +kernel) (by decide +kernel)
set_option maxRecDepth 20000 in
theorem gX5_refusalOfSet_X5_isHour : GoodIn wsX5_refusalOfSet (va_wsS RX5 112 yX5_isHour wsX5_isHour) := goodIn_app (goodIn_of _ (by decide +kernel)) ggX5_refusalOfSet_X5_isHour
set_option maxRecDepth 20000 in
theorem ggX5_refusalOfSet_X4_isSet : GoodIn wsX5_refusalOfSet wsX4_isSet := goodIn_r _ [10, 11, 12, 13, 9, 14, 15, 16, 17, 18, 19, 35, 36, 37, 38, 39, 40, 41, 42, 43] (by decide +kernel) (by decide +kernel)
set_option maxRecDepth 20000 in
theorem gX5_refusalOfSet_X4_isSet : GoodIn wsX5_refusalOfSet (wsV RX5 168 RX4 yX4_isSet wsX4_isSet) := goodIn_app (goodIn_of _ (by decide +kernel)) ggX5_refusalOfSet_X4_isSet
set_option maxRecDepth 20000 in
theorem ggX5_refusalOfSet_X5_hasTown : GoodIn wsX5_refusalOfSet wsX5_hasTown := goodIn_r _ [23, 1, 24, 25, 26, 27, 28, 29, 30, 31, 32, 33, 34, 35, 36, 37, 38, 39, 40, 41, 42, 43] (by decide +kernel) (by decide +kernel)
set_option maxRecDepth 20000 in
theorem gX5_refusalOfSet_X5_hasTown : GoodIn wsX5_refusalOfSet (wsV RX5 118 RX5 yX5_hasTown wsX5_hasTown) := goodIn_app (goodIn_of _ (by decide +kernel)) ggX5_refusalOfSet_X5_hasTown
theorem dX5_refusalOfSet_0 : decode cX5_refusalOfSet 0 = .ok (.iload_n 1, 1) := by decide +kernel
theorem dX5_refusalOfSet_1 : decode cX5_refusalOfSet 1 = .ok (.invokestatic 112, 3) := by decide +kernel
theorem dX5_refusalOfSet_4 : decode cX5_refusalOfSet 4 = .ok (.ifCond .ne 5, 3) := by decide +kernel
theorem dX5_refusalOfSet_7 : decode cX5_refusalOfSet 7 = .ok (.iconst (-1), 1) := by decide +kernel
theorem dX5_refusalOfSet_8 : decode cX5_refusalOfSet 8 = .ok (.ireturn, 1) := by decide +kernel
theorem dX5_refusalOfSet_9 : decode cX5_refusalOfSet 9 = .ok (.aload_n 0, 1) := by decide +kernel
theorem dX5_refusalOfSet_10 : decode cX5_refusalOfSet 10 = .ok (.getfield 28, 3) := by decide +kernel
theorem dX5_refusalOfSet_13 : decode cX5_refusalOfSet 13 = .ok (.iload_n 2, 1) := by decide +kernel
theorem dX5_refusalOfSet_14 : decode cX5_refusalOfSet 14 = .ok (.invokevirtual 168, 3) := by decide +kernel
theorem dX5_refusalOfSet_17 : decode cX5_refusalOfSet 17 = .ok (.ifCond .ne 6, 3) := by decide +kernel
theorem dX5_refusalOfSet_20 : decode cX5_refusalOfSet 20 = .ok (.bipush (-2), 2) := by decide +kernel
theorem dX5_refusalOfSet_22 : decode cX5_refusalOfSet 22 = .ok (.ireturn, 1) := by decide +kernel
theorem dX5_refusalOfSet_23 : decode cX5_refusalOfSet 23 = .ok (.aload_n 0, 1) := by decide +kernel
theorem dX5_refusalOfSet_24 : decode cX5_refusalOfSet 24 = .ok (.invokevirtual 118, 3) := by decide +kernel
theorem dX5_refusalOfSet_27 : decode cX5_refusalOfSet 27 = .ok (.ifCond .eq 7, 3) := by decide +kernel
theorem dX5_refusalOfSet_30 : decode cX5_refusalOfSet 30 = .ok (.iconst 0, 1) := by decide +kernel
theorem dX5_refusalOfSet_31 : decode cX5_refusalOfSet 31 = .ok (.goto 5, 3) := by decide +kernel
theorem dX5_refusalOfSet_34 : decode cX5_refusalOfSet 34 = .ok (.bipush (-3), 2) := by decide +kernel
theorem dX5_refusalOfSet_36 : decode cX5_refusalOfSet 36 = .ok (.ireturn, 1) := by decide +kernel
set_option maxRecDepth 20000 in
theorem ggX5_refusalOfCells_X2_isSheet : GoodIn wsX5_refusalOfCells wsX2_isSheet := goodIn_r _ [7] (by decide +kernel) (by decide +kernel)
set_option maxRecDepth 20000 in
theorem gX5_refusalOfCells_X2_isSheet : GoodIn wsX5_refusalOfCells (wsV RX5 206 RX2 yX2_isSheet wsX2_isSheet) := goodIn_app (goodIn_of _ (by decide +kernel)) ggX5_refusalOfCells_X2_isSheet
set_option maxRecDepth 20000 in
theorem ggX5_refusalOfCells_X5_isLane : GoodIn wsX5_refusalOfCells wsX5_isLane := goodIn_r _ [11] (by decide +kernel) (by decide +kernel)
set_option maxRecDepth 20000 in
theorem gX5_refusalOfCells_X5_isLane : GoodIn wsX5_refusalOfCells (va_wsS RX5 209 yX5_isLane wsX5_isLane) := goodIn_app (goodIn_of _ (by decide +kernel)) ggX5_refusalOfCells_X5_isLane
set_option maxRecDepth 20000 in
theorem ggX5_refusalOfCells_X2_mayBeOfLane : GoodIn wsX5_refusalOfCells wsX2_mayBeOfLane := goodIn_r _ [15, 16, 40, 41, 42] (by decide +kernel) (by decide +kernel)
set_option maxRecDepth 20000 in
theorem gX5_refusalOfCells_X2_mayBeOfLane : GoodIn wsX5_refusalOfCells (wsV RX5 231 RX2 yX2_mayBeOfLane wsX2_mayBeOfLane) := goodIn_app (goodIn_of _ (by decide +kernel)) ggX5_refusalOfCells_X2_mayBeOfLane
set_option maxRecDepth 20000 in
theorem ggX5_refusalOfCells_X5_faulted : GoodIn wsX5_refusalOfCells wsX5_faulted := goodIn_r _ [20, 1, 30, 31, 32, 33, 34, 35, 36, 37, 38, 39] (by decide +kernel) (by decide +kernel)
