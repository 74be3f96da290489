theorem dX6_readsTown_23 : decode cX6_readsTown 23 = .ok (.if_icmp .ne 7, 3) := by decide +kernel
theorem dX6_readsTown_26 : decode cX6_readsTown 26 = .ok (.iconst 1, 1) := by decide +kernel
theorem dX6_readsTown_27 : decode cX6_readsTown 27 = .ok (.goto 4, 3) := by decide +kernel
theorem dX6_readsTown_30 : decode cX6_readsTown 30 = .ok (.iconst 0, 1) := by decide +kernel
theorem dX6_readsTown_31 : decode cX6_readsTown 31 = .ok (.istore_n 3, 1) := by decide +kernel
theorem dX6_readsTown_32 : decode cX6_readsTown 32 = .ok (.aload_n 0, 1) := by decide +kernel
theorem dX6_readsTown_33 : decode cX6_readsTown 33 = .ok (.dup, 1) := by decide +kernel
theorem dX6_readsTown_34 : decode cX6_readsTown 34 = .ok (.getfield 107, 3) := by decide +kernel
theorem dX6_readsTown_37 : decode cX6_readsTown 37 = .ok (.iload_n 3, 1) := by decide +kernel
theorem dX6_readsTown_38 : decode cX6_readsTown 38 = .ok (.ifCond .eq 7, 3) := by decide +kernel
theorem dX6_readsTown_41 : decode cX6_readsTown 41 = .ok (.iconst 1, 1) := by decide +kernel
theorem dX6_readsTown_42 : decode cX6_readsTown 42 = .ok (.goto 4, 3) := by decide +kernel
theorem dX6_readsTown_45 : decode cX6_readsTown 45 = .ok (.iconst 0, 1) := by decide +kernel
theorem dX6_readsTown_46 : decode cX6_readsTown 46 = .ok (.iadd, 1) := by decide +kernel
theorem dX6_readsTown_47 : decode cX6_readsTown 47 = .ok (.putfield 107, 3) := by decide +kernel
theorem dX6_readsTown_50 : decode cX6_readsTown 50 = .ok (.iload_n 3, 1) := by decide +kernel
theorem dX6_readsTown_51 : decode cX6_readsTown 51 = .ok (.ifCond .eq 40, 3) := by decide +kernel
theorem dX6_readsTown_54 : decode cX6_readsTown 54 = .ok (.aload_n 0, 1) := by decide +kernel
theorem dX6_readsTown_55 : decode cX6_readsTown 55 = .ok (.getfield 114, 3) := by decide +kernel
theorem dX6_readsTown_58 : decode cX6_readsTown 58 = .ok (.iconst 2, 1) := by decide +kernel
theorem dX6_readsTown_59 : decode cX6_readsTown 59 = .ok (.if_icmp .lt 22, 3) := by decide +kernel
theorem dX6_readsTown_62 : decode cX6_readsTown 62 = .ok (.aload_n 0, 1) := by decide +kernel
theorem dX6_readsTown_63 : decode cX6_readsTown 63 = .ok (.getfield 107, 3) := by decide +kernel
theorem dX6_readsTown_66 : decode cX6_readsTown 66 = .ok (.iload_n 2, 1) := by decide +kernel
theorem dX6_readsTown_67 : decode cX6_readsTown 67 = .ok (.if_icmp .ge 24, 3) := by decide +kernel
theorem dX6_readsTown_70 : decode cX6_readsTown 70 = .ok (.aload_n 0, 1) := by decide +kernel
theorem dX6_readsTown_71 : decode cX6_readsTown 71 = .ok (.iload_n 1, 1) := by decide +kernel
theorem dX6_readsTown_72 : decode cX6_readsTown 72 = .ok (.iload_n 2, 1) := by decide +kernel
theorem dX6_readsTown_73 : decode cX6_readsTown 73 = .ok (.invokevirtual 110, 3) := by decide +kernel
theorem dX6_readsTown_76 : decode cX6_readsTown 76 = .ok (.bipush 59, 2) := by decide +kernel
theorem dX6_readsTown_78 : decode cX6_readsTown 78 = .ok (.if_icmp .eq 13, 3) := by decide +kernel
theorem dX6_readsTown_81 : decode cX6_readsTown 81 = .ok (.aload_n 0, 1) := by decide +kernel
theorem dX6_readsTown_82 : decode cX6_readsTown 82 = .ok (.iload_n 1, 1) := by decide +kernel
theorem dX6_readsTown_83 : decode cX6_readsTown 83 = .ok (.iload_n 2, 1) := by decide +kernel
theorem dX6_readsTown_84 : decode cX6_readsTown 84 = .ok (.invokevirtual 124, 3) := by decide +kernel
theorem dX6_readsTown_87 : decode cX6_readsTown 87 = .ok (.istore_n 3, 1) := by decide +kernel
theorem dX6_readsTown_88 : decode cX6_readsTown 88 = .ok (.goto (-38), 3) := by decide +kernel
theorem dX6_readsTown_91 : decode cX6_readsTown 91 = .ok (.iload_n 3, 1) := by decide +kernel
theorem dX6_readsTown_92 : decode cX6_readsTown 92 = .ok (.ifCond .eq 21, 3) := by decide +kernel
theorem dX6_readsTown_95 : decode cX6_readsTown 95 = .ok (.aload_n 0, 1) := by decide +kernel
theorem dX6_readsTown_96 : decode cX6_readsTown 96 = .ok (.getfield 107, 3) := by decide +kernel
theorem dX6_readsTown_99 : decode cX6_readsTown 99 = .ok (.iload_n 2, 1) := by decide +kernel
theorem dX6_readsTown_100 : decode cX6_readsTown 100 = .ok (.if_icmp .ge 13, 3) := by decide +kernel
theorem dX6_readsTown_103 : decode cX6_readsTown 103 = .ok (.aload_n 0, 1) := by decide +kernel
theorem dX6_readsTown_104 : decode cX6_readsTown 104 = .ok (.iload_n 1, 1) := by decide +kernel
theorem dX6_readsTown_105 : decode cX6_readsTown 105 = .ok (.iload_n 2, 1) := by decide +kernel
theorem dX6_readsTown_106 : decode cX6_readsTown 106 = .ok (.invokevirtual 128, 3) := by decide +kernel
theorem dX6_readsTown_109 : decode cX6_readsTown 109 = .ok (.istore_n 3, 1) := by decide +kernel
theorem dX6_readsTown_110 : decode cX6_readsTown 110 = .ok (.goto (-19), 3) := by decide +kernel
theorem dX6_readsTown_113 : decode cX6_readsTown 113 = .ok (.iload_n 3, 1) := by decide +kernel
theorem dX6_readsTown_114 : decode cX6_readsTown 114 = .ok (.ireturn, 1) := by decide +kernel
set_option maxRecDepth 20000 in
theorem ggX6_town_X6_barred : GoodIn wsX6_town wsX6_barred := goodIn_r _ [22, 23, 24, 25, 26, 27, 21, 28, 29, 30, 31, 32, 33, 34, 35, 36, 37, 38, 39, 40, 41, 42, 43, 44, 66, 67, 68, 69, 70, 71, 72, 73, 74, 75, 76, 77, 78, 79, 80, 81, 82, 83, 84, 85, 86, 87, 88, 89, 90, 91, 92] (by decide +kernel) (by decide +kernel)
set_option maxRecDepth 20000 in
theorem gX6_town_X6_barred : GoodIn wsX6_town (wsV RX6 131 RX6 yX6_barred wsX6_barred) := goodIn_app (goodIn_of _ (by decide +kernel)) ggX6_town_X6_barred
set_option maxRecDepth 20000 in
theorem ggX6_town_X6_readsTown : GoodIn wsX6_town wsX6_readsTown := goodIn_r _ [48, 1, 2, 4, 49, 50, 51, 21, 52, 53, 54, 55, 56, 57, 7, 9, 58, 59, 60, 61, 30, 31, 32, 62, 63, 64, 65, 11, 13, 66, 67, 68, 69, 70, 71, 72, 73, 74, 75, 76, 77, 78, 79, 80, 81, 82, 83, 84, 85, 86, 87, 88, 89, 90, 91, 92] (by decide +kernel) (by decide +kernel)
set_option maxRecDepth 20000 in
theorem gX6_town_X6_readsTown : GoodIn wsX6_town (wsV RX6 135 RX6 yX6_readsTown wsX6_readsTown) := goodIn_app (goodIn_of _ (by decide +kernel)) ggX6_town_X6_readsTown
set_option maxRecDepth 20000 in
theorem ggX6_town_X6_refused : GoodIn wsX6_town wsX6_refused := goodIn_r _ [36, 37, 66, 67, 68, 69, 70, 71, 72, 73, 74, 75, 76, 77, 78, 79, 80, 81, 82, 83, 84, 85, 86, 87, 88, 89, 90, 91, 92] (by decide +kernel) (by decide +kernel)
set_option maxRecDepth 20000 in
theorem gX6_town_X6_refused : GoodIn wsX6_town (wsV RX6 81 RX6 yX6_refused wsX6_refused) := goodIn_app (goodIn_of _ (by decide +kernel)) ggX6_town_X6_refused
theorem dX6_town_0 : decode cX6_town 0 = .ok (.aload_n 0, 1) := by decide +kernel
theorem dX6_town_1 : decode cX6_town 1 = .ok (.iload_n 1, 1) := by decide +kernel
theorem dX6_town_2 : decode cX6_town 2 = .ok (.iload_n 2, 1) := by decide +kernel
theorem dX6_town_3 : decode cX6_town 3 = .ok (.iload_n 3, 1) := by decide +kernel
theorem dX6_town_4 : decode cX6_town 4 = .ok (.iload 4, 2) := by decide +kernel
theorem dX6_town_6 : decode cX6_town 6 = .ok (.i2l, 1) := by decide +kernel
theorem dX6_town_7 : decode cX6_town 7 = .ok (.invokevirtual 131, 3) := by decide +kernel
theorem dX6_town_10 : decode cX6_town 10 = .ok (.istore 5, 2) := by decide +kernel
theorem dX6_town_12 : decode cX6_town 12 = .ok (.iload 5, 2) := by decide +kernel
theorem dX6_town_14 : decode cX6_town 14 = .ok (.ifCond .ge 6, 3) := by decide +kernel
theorem dX6_town_17 : decode cX6_town 17 = .ok (.iload 5, 2) := by decide +kernel
theorem dX6_town_19 : decode cX6_town 19 = .ok (.ireturn, 1) := by decide +kernel
theorem dX6_town_20 : decode cX6_town 20 = .ok (.aload_n 0, 1) := by decide +kernel
theorem dX6_town_21 : decode cX6_town 21 = .ok (.bipush 60, 2) := by decide +kernel
theorem dX6_town_23 : decode cX6_town 23 = .ok (.iload_n 1, 1) := by decide +kernel
theorem dX6_town_24 : decode cX6_town 24 = .ok (.imul, 1) := by decide +kernel
theorem dX6_town_25 : decode cX6_town 25 = .ok (.iload_n 3, 1) := by decide +kernel
theorem dX6_town_26 : decode cX6_town 26 = .ok (.iadd, 1) := by decide +kernel
theorem dX6_town_27 : decode cX6_town 27 = .ok (.iload 4, 2) := by decide +kernel
theorem dX6_town_29 : decode cX6_town 29 = .ok (.invokevirtual 135, 3) := by decide +kernel
theorem dX6_town_32 : decode cX6_town 32 = .ok (.ifCond .ne 15, 3) := by decide +kernel
theorem dX6_town_35 : decode cX6_town 35 = .ok (.aload_n 0, 1) := by decide +kernel
theorem dX6_town_36 : decode cX6_town 36 = .ok (.bipush (-100), 2) := by decide +kernel
theorem dX6_town_38 : decode cX6_town 38 = .ok (.aload_n 0, 1) := by decide +kernel
theorem dX6_town_39 : decode cX6_town 39 = .ok (.getfield 107, 3) := by decide +kernel
theorem dX6_town_42 : decode cX6_town 42 = .ok (.isub, 1) := by decide +kernel
theorem dX6_town_43 : decode cX6_town 43 = .ok (.invokevirtual 81, 3) := by decide +kernel
theorem dX6_town_46 : decode cX6_town 46 = .ok (.ireturn, 1) := by decide +kernel
theorem dX6_town_47 : decode cX6_town 47 = .ok (.aload_n 0, 1) := by decide +kernel
theorem dX6_town_48 : decode cX6_town 48 = .ok (.aload_n 0, 1) := by decide +kernel
theorem dX6_town_49 : decode cX6_town 49 = .ok (.getfield 114, 3) := by decide +kernel
theorem dX6_town_52 : decode cX6_town 52 = .ok (.putfield 98, 3) := by decide +kernel
theorem dX6_town_55 : decode cX6_town 55 = .ok (.aload_n 0, 1) := by decide +kernel
theorem dX6_town_56 : decode cX6_town 56 = .ok (.aload_n 0, 1) := by decide +kernel
theorem dX6_town_57 : decode cX6_town 57 = .ok (.getfield 121, 3) := by decide +kernel
theorem dX6_town_60 : decode cX6_town 60 = .ok (.putfield 138, 3) := by decide +kernel
theorem dX6_town_63 : decode cX6_town 63 = .ok (.iconst 0, 1) := by decide +kernel
theorem dX6_town_64 : decode cX6_town 64 = .ok (.istore 6, 2) := by decide +kernel
theorem dX6_town_66 : decode cX6_town 66 = .ok (.iload 6, 2) := by decide +kernel
theorem dX6_town_68 : decode cX6_town 68 = .ok (.aload_n 0, 1) := by decide +kernel
theorem dX6_town_69 : decode cX6_town 69 = .ok (.getfield 98, 3) := by decide +kernel
theorem dX6_town_72 : decode cX6_town 72 = .ok (.if_icmp .ge 37, 3) := by decide +kernel
theorem dX6_town_75 : decode cX6_town 75 = .ok (.aload_n 0, 1) := by decide +kernel
theorem dX6_town_76 : decode cX6_town 76 = .ok (.getfield 7, 3) := by decide +kernel
theorem dX6_town_79 : decode cX6_town 79 = .ok (.iload 6, 2) := by decide +kernel
theorem dX6_town_81 : decode cX6_town 81 = .ok (.aload_n 0, 1) := by decide +kernel
theorem dX6_town_82 : decode cX6_town 82 = .ok (.getfield 31, 3) := by decide +kernel
theorem dX6_town_85 : decode cX6_town 85 = .ok (.iload 6, 2) := by decide +kernel
theorem dX6_town_87 : decode cX6_town 87 = .ok (.iaload, 1) := by decide +kernel
theorem dX6_town_88 : decode cX6_town 88 = .ok (.iastore, 1) := by decide +kernel
theorem dX6_town_89 : decode cX6_town 89 = .ok (.aload_n 0, 1) := by decide +kernel
theorem dX6_town_90 : decode cX6_town 90 = .ok (.getfield 13, 3) := by decide +kernel
theorem dX6_town_93 : decode cX6_town 93 = .ok (.iload 6, 2) := by decide +kernel
theorem dX6_town_95 : decode cX6_town 95 = .ok (.aload_n 0, 1) := by decide +kernel
theorem dX6_town_96 : decode cX6_town 96 = .ok (.getfield 34, 3) := by decide +kernel
theorem dX6_town_99 : decode cX6_town 99 = .ok (.iload 6, 2) := by decide +kernel
theorem dX6_town_101 : decode cX6_town 101 = .ok (.iaload, 1) := by decide +kernel
theorem dX6_town_102 : decode cX6_town 102 = .ok (.iastore, 1) := by decide +kernel
theorem dX6_town_103 : decode cX6_town 103 = .ok (.iinc 6 1, 3) := by decide +kernel
theorem dX6_town_106 : decode cX6_town 106 = .ok (.goto (-40), 3) := by decide +kernel
theorem dX6_town_109 : decode cX6_town 109 = .ok (.iconst 0, 1) := by decide +kernel
theorem dX6_town_110 : decode cX6_town 110 = .ok (.istore 6, 2) := by decide +kernel
theorem dX6_town_112 : decode cX6_town 112 = .ok (.iload 6, 2) := by decide +kernel
theorem dX6_town_114 : decode cX6_town 114 = .ok (.aload_n 0, 1) := by decide +kernel
theorem dX6_town_115 : decode cX6_town 115 = .ok (.getfield 138, 3) := by decide +kernel
theorem dX6_town_118 : decode cX6_town 118 = .ok (.if_icmp .ge 37, 3) := by decide +kernel
theorem dX6_town_121 : decode cX6_town 121 = .ok (.aload_n 0, 1) := by decide +kernel
theorem dX6_town_122 : decode cX6_town 122 = .ok (.getfield 16, 3) := by decide +kernel
theorem dX6_town_125 : decode cX6_town 125 = .ok (.iload 6, 2) := by decide +kernel
theorem dX6_town_127 : decode cX6_town 127 = .ok (.aload_n 0, 1) := by decide +kernel
theorem dX6_town_128 : decode cX6_town 128 = .ok (.getfield 37, 3) := by decide +kernel
theorem dX6_town_131 : decode cX6_town 131 = .ok (.iload 6, 2) := by decide +kernel
theorem dX6_town_133 : decode cX6_town 133 = .ok (.iaload, 1) := by decide +kernel
theorem dX6_town_134 : decode cX6_town 134 = .ok (.iastore, 1) := by decide +kernel
theorem dX6_town_135 : decode cX6_town 135 = .ok (.aload_n 0, 1) := by decide +kernel
theorem dX6_town_136 : decode cX6_town 136 = .ok (.getfield 19, 3) := by decide +kernel
theorem dX6_town_139 : decode cX6_town 139 = .ok (.iload 6, 2) := by decide +kernel
theorem dX6_town_141 : decode cX6_town 141 = .ok (.aload_n 0, 1) := by decide +kernel
theorem dX6_town_142 : decode cX6_town 142 = .ok (.getfield 40, 3) := by decide +kernel
theorem dX6_town_145 : decode cX6_town 145 = .ok (.iload 6, 2) := by decide +kernel
theorem dX6_town_147 : decode cX6_town 147 = .ok (.iaload, 1) := by decide +kernel
theorem dX6_town_148 : decode cX6_town 148 = .ok (.iastore, 1) := by decide +kernel
theorem dX6_town_149 : decode cX6_town 149 = .ok (.iinc 6 1, 3) := by decide +kernel
theorem dX6_town_152 : decode cX6_town 152 = .ok (.goto (-40), 3) := by decide +kernel
theorem dX6_town_155 : decode cX6_town 155 = .ok (.iconst 0, 1) := by decide +kernel
theorem dX6_town_156 : decode cX6_town 156 = .ok (.istore 6, 2) := by decide +kernel
theorem dX6_town_158 : decode cX6_town 158 = .ok (.iload 6, 2) := by decide +kernel
theorem dX6_town_160 : decode cX6_town 160 = .ok (.bipush 6, 2) := by decide +kernel
theorem dX6_town_162 : decode cX6_town 162 = .ok (.if_icmp .ge 35, 3) := by decide +kernel
theorem dX6_town_165 : decode cX6_town 165 = .ok (.aload_n 0, 1) := by decide +kernel
theorem dX6_town_166 : decode cX6_town 166 = .ok (.getfield 22, 3) := by decide +kernel
theorem dX6_town_169 : decode cX6_town 169 = .ok (.iload 6, 2) := by decide +kernel
theorem dX6_town_171 : decode cX6_town 171 = .ok (.iconst 0, 1) := by decide +kernel
theorem dX6_town_172 : decode cX6_town 172 = .ok (.iastore, 1) := by decide +kernel
theorem dX6_town_173 : decode cX6_town 173 = .ok (.aload_n 0, 1) := by decide +kernel
theorem dX6_town_174 : decode cX6_town 174 = .ok (.getfield 25, 3) := by decide +kernel
theorem dX6_town_177 : decode cX6_town 177 = .ok (.iload 6, 2) := by decide +kernel
theorem dX6_town_179 : decode cX6_town 179 = .ok (.bipush 9, 2) := by decide +kernel
theorem dX6_town_181 : decode cX6_town 181 = .ok (.iastore, 1) := by decide +kernel
theorem dX6_town_182 : decode cX6_town 182 = .ok (.aload_n 0, 1) := by decide +kernel
theorem dX6_town_183 : decode cX6_town 183 = .ok (.getfield 28, 3) := by decide +kernel
theorem dX6_town_186 : decode cX6_town 186 = .ok (.iload 6, 2) := by decide +kernel
theorem dX6_town_188 : decode cX6_town 188 = .ok (.bipush (-9), 2) := by decide +kernel
theorem dX6_town_190 : decode cX6_town 190 = .ok (.iastore, 1) := by decide +kernel
theorem dX6_town_191 : decode cX6_town 191 = .ok (.iinc 6 1, 3) := by decide +kernel
theorem dX6_town_194 : decode cX6_town 194 = .ok (.goto (-36), 3) := by decide +kernel
theorem dX6_town_197 : decode cX6_town 197 = .ok (.aload_n 0, 1) := by decide +kernel
theorem dX6_town_198 : decode cX6_town 198 = .ok (.iconst 0, 1) := by decide +kernel
theorem dX6_town_199 : decode cX6_town 199 = .ok (.putfield 141, 3) := by decide +kernel
theorem dX6_town_202 : decode cX6_town 202 = .ok (.aload_n 0, 1) := by decide +kernel
theorem dX6_town_203 : decode cX6_town 203 = .ok (.aload_n 0, 1) := by decide +kernel
theorem dX6_town_204 : decode cX6_town 204 = .ok (.getfield 98, 3) := by decide +kernel
theorem dX6_town_207 : decode cX6_town 207 = .ok (.invokevirtual 81, 3) := by decide +kernel
theorem dX6_town_210 : decode cX6_town 210 = .ok (.ireturn, 1) := by decide +kernel
set_option maxRecDepth 20000 in
theorem ggX6_ofThing_X6_noThing : GoodIn wsX6_ofThing wsX6_noThing := goodIn_r _ [7, 8, 9, 10, 6, 11, 12, 13, 14, 15, 16, 17, 18, 19, 20, 21, 22, 23, 24, 25, 26, 27, 28, 29, 30, 31, 32, 33, 34, 35, 36, 37, 38] (by decide +kernel) (by decide +kernel)
set_option maxRecDepth 20000 in
theorem gX6_ofThing_X6_noThing : GoodIn wsX6_ofThing (wsV RX6 144 RX6 yX6_noThing wsX6_noThing) := goodIn_app (goodIn_of _ (by decide +kernel)) ggX6_ofThing_X6_noThing
theorem dX6_ofThing_0 : decode cX6_ofThing 0 = .ok (.aload_n 0, 1) := by decide +kernel
theorem dX6_ofThing_1 : decode cX6_ofThing 1 = .ok (.iload_n 1, 1) := by decide +kernel
theorem dX6_ofThing_2 : decode cX6_ofThing 2 = .ok (.invokevirtual 144, 3) := by decide +kernel
theorem dX6_ofThing_5 : decode cX6_ofThing 5 = .ok (.ifCond .eq 5, 3) := by decide +kernel
theorem dX6_ofThing_8 : decode cX6_ofThing 8 = .ok (.iconst (-1), 1) := by decide +kernel
theorem dX6_ofThing_9 : decode cX6_ofThing 9 = .ok (.ireturn, 1) := by decide +kernel
theorem dX6_ofThing_10 : decode cX6_ofThing 10 = .ok (.iload_n 2, 1) := by decide +kernel
theorem dX6_ofThing_11 : decode cX6_ofThing 11 = .ok (.ifCond .ne 12, 3) := by decide +kernel
theorem dX6_ofThing_14 : decode cX6_ofThing 14 = .ok (.aload_n 0, 1) := by decide +kernel
theorem dX6_ofThing_15 : decode cX6_ofThing 15 = .ok (.getfield 7, 3) := by decide +kernel
theorem dX6_ofThing_18 : decode cX6_ofThing 18 = .ok (.iload_n 1, 1) := by decide +kernel
theorem dX6_ofThing_19 : decode cX6_ofThing 19 = .ok (.iaload, 1) := by decide +kernel
theorem dX6_ofThing_20 : decode cX6_ofThing 20 = .ok (.goto 35, 3) := by decide +kernel
theorem dX6_ofThing_23 : decode cX6_ofThing 23 = .ok (.iload_n 2, 1) := by decide +kernel
theorem dX6_ofThing_24 : decode cX6_ofThing 24 = .ok (.iconst 1, 1) := by decide +kernel
theorem dX6_ofThing_25 : decode cX6_ofThing 25 = .ok (.if_icmp .ne 12, 3) := by decide +kernel
theorem dX6_ofThing_28 : decode cX6_ofThing 28 = .ok (.aload_n 0, 1) := by decide +kernel
theorem dX6_ofThing_29 : decode cX6_ofThing 29 = .ok (.getfield 13, 3) := by decide +kernel
theorem dX6_ofThing_32 : decode cX6_ofThing 32 = .ok (.iload_n 1, 1) := by decide +kernel
theorem dX6_ofThing_33 : decode cX6_ofThing 33 = .ok (.iaload, 1) := by decide +kernel
theorem dX6_ofThing_34 : decode cX6_ofThing 34 = .ok (.goto 21, 3) := by decide +kernel
theorem dX6_ofThing_37 : decode cX6_ofThing 37 = .ok (.iload_n 2, 1) := by decide +kernel
theorem dX6_ofThing_38 : decode cX6_ofThing 38 = .ok (.iconst 2, 1) := by decide +kernel
theorem dX6_ofThing_39 : decode cX6_ofThing 39 = .ok (.if_icmp .ne 14, 3) := by decide +kernel
theorem dX6_ofThing_42 : decode cX6_ofThing 42 = .ok (.aload_n 0, 1) := by decide +kernel
theorem dX6_ofThing_43 : decode cX6_ofThing 43 = .ok (.getfield 7, 3) := by decide +kernel
theorem dX6_ofThing_46 : decode cX6_ofThing 46 = .ok (.iload_n 1, 1) := by decide +kernel
theorem dX6_ofThing_47 : decode cX6_ofThing 47 = .ok (.iaload, 1) := by decide +kernel
theorem dX6_ofThing_48 : decode cX6_ofThing 48 = .ok (.iconst 1, 1) := by decide +kernel
theorem dX6_ofThing_49 : decode cX6_ofThing 49 = .ok (.iadd, 1) := by decide +kernel
theorem dX6_ofThing_50 : decode cX6_ofThing 50 = .ok (.goto 5, 3) := by decide +kernel
theorem dX6_ofThing_53 : decode cX6_ofThing 53 = .ok (.bipush (-2), 2) := by decide +kernel
theorem dX6_ofThing_55 : decode cX6_ofThing 55 = .ok (.ireturn, 1) := by decide +kernel
set_option maxRecDepth 20000 in
theorem ggX6_isCase_X6_isOfThings : GoodIn wsX6_isCase wsX6_isOfThings := goodIn_r _ [9, 10, 11, 12, 8, 13, 1, 14, 15, 16, 20, 21, 22, 23, 24, 25, 26, 27, 28, 29, 30, 31, 32, 33, 34, 35, 36, 37, 38, 39, 40, 41, 42, 43, 44, 45, 46] (by decide +kernel) (by decide +kernel)
set_option maxRecDepth 20000 in
theorem gX6_isCase_X6_isOfThings : GoodIn wsX6_isCase (wsV RX6 147 RX6 yX6_isOfThings wsX6_isOfThings) := goodIn_app (goodIn_of _ (by decide +kernel)) ggX6_isCase_X6_isOfThings
set_option maxRecDepth 20000 in
theorem ggX6_isCase_X6_isIn : GoodIn wsX6_isCase wsX6_isIn := goodIn_r _ [19] (by decide +kernel) (by decide +kernel)
set_option maxRecDepth 20000 in
theorem gX6_isCase_X6_isIn : GoodIn wsX6_isCase (va_wsS RX6 150 yX6_isIn wsX6_isIn) := goodIn_app (goodIn_of _ (by decide +kernel)) ggX6_isCase_X6_isIn
theorem dX6_isCase_0 : decode cX6_isCase 0 = .ok (.aload_n 0, 1) := by decide +kernel
theorem dX6_isCase_1 : decode cX6_isCase 1 = .ok (.getfield 98, 3) := by decide +kernel
theorem dX6_isCase_4 : decode cX6_isCase 4 = .ok (.ifCond .le 15, 3) := by decide +kernel
theorem dX6_isCase_7 : decode cX6_isCase 7 = .ok (.aload_n 0, 1) := by decide +kernel
theorem dX6_isCase_8 : decode cX6_isCase 8 = .ok (.iload_n 1, 1) := by decide +kernel
theorem dX6_isCase_9 : decode cX6_isCase 9 = .ok (.invokevirtual 147, 3) := by decide +kernel
theorem dX6_isCase_12 : decode cX6_isCase 12 = .ok (.ifCond .eq 7, 3) := by decide +kernel
theorem dX6_isCase_15 : decode cX6_isCase 15 = .ok (.iconst 1, 1) := by decide +kernel
theorem dX6_isCase_16 : decode cX6_isCase 16 = .ok (.goto 4, 3) := by decide +kernel
theorem dX6_isCase_19 : decode cX6_isCase 19 = .ok (.iconst 0, 1) := by decide +kernel
theorem dX6_isCase_20 : decode cX6_isCase 20 = .ok (.istore_n 2, 1) := by decide +kernel
theorem dX6_isCase_21 : decode cX6_isCase 21 = .ok (.iconst 0, 1) := by decide +kernel
theorem dX6_isCase_22 : decode cX6_isCase 22 = .ok (.istore_n 3, 1) := by decide +kernel
theorem dX6_isCase_23 : decode cX6_isCase 23 = .ok (.iload_n 3, 1) := by decide +kernel
theorem dX6_isCase_24 : decode cX6_isCase 24 = .ok (.aload_n 0, 1) := by decide +kernel
theorem dX6_isCase_25 : decode cX6_isCase 25 = .ok (.getfield 138, 3) := by decide +kernel
theorem dX6_isCase_28 : decode cX6_isCase 28 = .ok (.if_icmp .ge 45, 3) := by decide +kernel
theorem dX6_isCase_31 : decode cX6_isCase 31 = .ok (.iload_n 2, 1) := by decide +kernel
theorem dX6_isCase_32 : decode cX6_isCase 32 = .ok (.ifCond .eq 41, 3) := by decide +kernel
theorem dX6_isCase_35 : decode cX6_isCase 35 = .ok (.iload_n 1, 1) := by decide +kernel
theorem dX6_isCase_36 : decode cX6_isCase 36 = .ok (.aload_n 0, 1) := by decide +kernel
theorem dX6_isCase_37 : decode cX6_isCase 37 = .ok (.getfield 16, 3) := by decide +kernel
theorem dX6_isCase_40 : decode cX6_isCase 40 = .ok (.iload_n 3, 1) := by decide +kernel
theorem dX6_isCase_41 : decode cX6_isCase 41 = .ok (.iaload, 1) := by decide +kernel
theorem dX6_isCase_42 : decode cX6_isCase 42 = .ok (.invokestatic 150, 3) := by decide +kernel
theorem dX6_isCase_45 : decode cX6_isCase 45 = .ok (.ifCond .eq 16, 3) := by decide +kernel
theorem dX6_isCase_48 : decode cX6_isCase 48 = .ok (.iload_n 1, 1) := by decide +kernel
theorem dX6_isCase_49 : decode cX6_isCase 49 = .ok (.aload_n 0, 1) := by decide +kernel
theorem dX6_isCase_50 : decode cX6_isCase 50 = .ok (.getfield 19, 3) := by decide +kernel
theorem dX6_isCase_53 : decode cX6_isCase 53 = .ok (.iload_n 3, 1) := by decide +kernel
theorem dX6_isCase_54 : decode cX6_isCase 54 = .ok (.iaload, 1) := by decide +kernel
theorem dX6_isCase_55 : decode cX6_isCase 55 = .ok (.invokestatic 150, 3) := by decide +kernel
theorem dX6_isCase_58 : decode cX6_isCase 58 = .ok (.ifCond .eq 7, 3) := by decide +kernel
theorem dX6_isCase_61 : decode cX6_isCase 61 = .ok (.iconst 1, 1) := by decide +kernel
theorem dX6_isCase_62 : decode cX6_isCase 62 = .ok (.goto 4, 3) := by decide +kernel
theorem dX6_isCase_65 : decode cX6_isCase 65 = .ok (.iconst 0, 1) := by decide +kernel
theorem dX6_isCase_66 : decode cX6_isCase 66 = .ok (.istore_n 2, 1) := by decide +kernel
theorem dX6_isCase_67 : decode cX6_isCase 67 = .ok (.iinc 3 1, 3) := by decide +kernel
theorem dX6_isCase_70 : decode cX6_isCase 70 = .ok (.goto (-47), 3) := by decide +kernel
theorem dX6_isCase_73 : decode cX6_isCase 73 = .ok (.iload_n 2, 1) := by decide +kernel
theorem dX6_isCase_74 : decode cX6_isCase 74 = .ok (.ireturn, 1) := by decide +kernel
set_option maxRecDepth 20000 in
theorem ggX6_cases_X6_isCase : GoodIn wsX6_cases wsX6_isCase := goodIn_r _ [5, 6, 7, 8, 9, 10, 11, 12, 4, 13, 14, 15, 16, 17, 18, 19, 20, 21, 22, 23, 24, 25, 26, 27, 28, 29, 30, 31, 32, 33, 34, 35, 36, 37, 38, 39, 40, 41, 42, 43, 44, 45, 46, 47, 48, 49, 50] (by decide +kernel) (by decide +kernel)
set_option maxRecDepth 20000 in
theorem gX6_cases_X6_isCase : GoodIn wsX6_cases (wsV RX6 153 RX6 yX6_isCase wsX6_isCase) := goodIn_app (goodIn_of _ (by decide +kernel)) ggX6_cases_X6_isCase
theorem dX6_cases_0 : decode cX6_cases 0 = .ok (.lconst 0, 1) := by decide +kernel
theorem dX6_cases_1 : decode cX6_cases 1 = .ok (.lstore_n 1, 1) := by decide +kernel
theorem dX6_cases_2 : decode cX6_cases 2 = .ok (.iconst 0, 1) := by decide +kernel
theorem dX6_cases_3 : decode cX6_cases 3 = .ok (.istore_n 3, 1) := by decide +kernel
theorem dX6_cases_4 : decode cX6_cases 4 = .ok (.iload_n 3, 1) := by decide +kernel
theorem dX6_cases_5 : decode cX6_cases 5 = .ok (.bipush 64, 2) := by decide +kernel
theorem dX6_cases_7 : decode cX6_cases 7 = .ok (.if_icmp .ge 27, 3) := by decide +kernel
theorem dX6_cases_10 : decode cX6_cases 10 = .ok (.lload_n 1, 1) := by decide +kernel
theorem dX6_cases_11 : decode cX6_cases 11 = .ok (.aload_n 0, 1) := by decide +kernel
theorem dX6_cases_12 : decode cX6_cases 12 = .ok (.iload_n 3, 1) := by decide +kernel
theorem dX6_cases_13 : decode cX6_cases 13 = .ok (.invokevirtual 153, 3) := by decide +kernel
theorem dX6_cases_16 : decode cX6_cases 16 = .ok (.ifCond .eq 9, 3) := by decide +kernel
theorem dX6_cases_19 : decode cX6_cases 19 = .ok (.lconst 1, 1) := by decide +kernel
theorem dX6_cases_20 : decode cX6_cases 20 = .ok (.iload_n 3, 1) := by decide +kernel
theorem dX6_cases_21 : decode cX6_cases 21 = .ok (.lshl, 1) := by decide +kernel
theorem dX6_cases_22 : decode cX6_cases 22 = .ok (.goto 4, 3) := by decide +kernel
theorem dX6_cases_25 : decode cX6_cases 25 = .ok (.lconst 0, 1) := by decide +kernel
theorem dX6_cases_26 : decode cX6_cases 26 = .ok (.lor, 1) := by decide +kernel
theorem dX6_cases_27 : decode cX6_cases 27 = .ok (.lstore_n 1, 1) := by decide +kernel
theorem dX6_cases_28 : decode cX6_cases 28 = .ok (.iinc 3 1, 3) := by decide +kernel
theorem dX6_cases_31 : decode cX6_cases 31 = .ok (.goto (-27), 3) := by decide +kernel
theorem dX6_cases_34 : decode cX6_cases 34 = .ok (.lload_n 1, 1) := by decide +kernel
theorem dX6_cases_35 : decode cX6_cases 35 = .ok (.lreturn, 1) := by decide +kernel
set_option maxRecDepth 20000 in
theorem ggX6_weightOf_X6_isIn : GoodIn wsX6_weightOf wsX6_isIn := goodIn_r _ [6] (by decide +kernel) (by decide +kernel)
set_option maxRecDepth 20000 in
theorem gX6_weightOf_X6_isIn : GoodIn wsX6_weightOf (va_wsS RX6 150 yX6_isIn wsX6_isIn) := goodIn_app (goodIn_of _ (by decide +kernel)) ggX6_weightOf_X6_isIn
theorem dX6_weightOf_0 : decode cX6_weightOf 0 = .ok (.iconst 1, 1) := by decide +kernel
theorem dX6_weightOf_1 : decode cX6_weightOf 1 = .ok (.istore_n 2, 1) := by decide +kernel
theorem dX6_weightOf_2 : decode cX6_weightOf 2 = .ok (.iconst 0, 1) := by decide +kernel
theorem dX6_weightOf_3 : decode cX6_weightOf 3 = .ok (.istore_n 3, 1) := by decide +kernel
theorem dX6_weightOf_4 : decode cX6_weightOf 4 = .ok (.iload_n 3, 1) := by decide +kernel
theorem dX6_weightOf_5 : decode cX6_weightOf 5 = .ok (.aload_n 0, 1) := by decide +kernel
theorem dX6_weightOf_6 : decode cX6_weightOf 6 = .ok (.getfield 98, 3) := by decide +kernel
theorem dX6_weightOf_9 : decode cX6_weightOf 9 = .ok (.if_icmp .ge 38, 3) := by decide +kernel
theorem dX6_weightOf_12 : decode cX6_weightOf 12 = .ok (.iload_n 2, 1) := by decide +kernel
theorem dX6_weightOf_13 : decode cX6_weightOf 13 = .ok (.iload_n 1, 1) := by decide +kernel
theorem dX6_weightOf_14 : decode cX6_weightOf 14 = .ok (.iload_n 3, 1) := by decide +kernel
theorem dX6_weightOf_15 : decode cX6_weightOf 15 = .ok (.invokestatic 150, 3) := by decide +kernel
theorem dX6_weightOf_18 : decode cX6_weightOf 18 = .ok (.ifCond .eq 12, 3) := by decide +kernel
theorem dX6_weightOf_21 : decode cX6_weightOf 21 = .ok (.aload_n 0, 1) := by decide +kernel
theorem dX6_weightOf_22 : decode cX6_weightOf 22 = .ok (.getfield 13, 3) := by decide +kernel
theorem dX6_weightOf_25 : decode cX6_weightOf 25 = .ok (.iload_n 3, 1) := by decide +kernel
theorem dX6_weightOf_26 : decode cX6_weightOf 26 = .ok (.iaload, 1) := by decide +kernel
theorem dX6_weightOf_27 : decode cX6_weightOf 27 = .ok (.goto 12, 3) := by decide +kernel
theorem dX6_weightOf_30 : decode cX6_weightOf 30 = .ok (.bipush 10, 2) := by decide +kernel
theorem dX6_weightOf_32 : decode cX6_weightOf 32 = .ok (.aload_n 0, 1) := by decide +kernel
theorem dX6_weightOf_33 : decode cX6_weightOf 33 = .ok (.getfield 13, 3) := by decide +kernel
theorem dX6_weightOf_36 : decode cX6_weightOf 36 = .ok (.iload_n 3, 1) := by decide +kernel
theorem dX6_weightOf_37 : decode cX6_weightOf 37 = .ok (.iaload, 1) := by decide +kernel
theorem dX6_weightOf_38 : decode cX6_weightOf 38 = .ok (.isub, 1) := by decide +kernel
theorem dX6_weightOf_39 : decode cX6_weightOf 39 = .ok (.imul, 1) := by decide +kernel
theorem dX6_weightOf_40 : decode cX6_weightOf 40 = .ok (.istore_n 2, 1) := by decide +kernel
theorem dX6_weightOf_41 : decode cX6_weightOf 41 = .ok (.iinc 3 1, 3) := by decide +kernel
theorem dX6_weightOf_44 : decode cX6_weightOf 44 = .ok (.goto (-40), 3) := by decide +kernel
theorem dX6_weightOf_47 : decode cX6_weightOf 47 = .ok (.iload_n 2, 1) := by decide +kernel
theorem dX6_weightOf_48 : decode cX6_weightOf 48 = .ok (.ireturn, 1) := by decide +kernel
set_option maxRecDepth 20000 in
theorem ggX6_weight_X6_isCase : GoodIn wsX6_weight wsX6_isCase := goodIn_r _ [5, 6, 7, 8, 9, 10, 11, 12, 4, 13, 14, 15, 16, 17, 18, 19, 20, 21, 22, 23, 29, 30, 31, 32, 33, 34, 35, 36, 37, 38, 39, 40, 41, 42, 43, 44, 45, 46, 47, 48, 49, 50, 51, 52, 53, 54, 55] (by decide +kernel) (by decide +kernel)
set_option maxRecDepth 20000 in
theorem gX6_weight_X6_isCase : GoodIn wsX6_weight (wsV RX6 153 RX6 yX6_isCase wsX6_isCase) := goodIn_app (goodIn_of _ (by decide +kernel)) ggX6_weight_X6_isCase
set_option maxRecDepth 20000 in
theorem ggX6_weight_X6_weightOf : GoodIn wsX6_weight wsX6_weightOf := goodIn_r _ [27, 6, 28, 21, 22, 4, 23, 29, 30, 31, 32, 33, 34, 35, 36, 37, 38, 39, 40, 41, 42, 43, 44, 45, 46, 47, 48, 49, 50, 51, 52, 53, 54, 55] (by decide +kernel) (by decide +kernel)
set_option maxRecDepth 20000 in
theorem gX6_weight_X6_weightOf : GoodIn wsX6_weight (wsV RX6 156 RX6 yX6_weightOf wsX6_weightOf) := goodIn_app (goodIn_of _ (by decide +kernel)) ggX6_weight_X6_weightOf
theorem dX6_weight_0 : decode cX6_weight 0 = .ok (.aload_n 0, 1) := by decide +kernel
theorem dX6_weight_1 : decode cX6_weight 1 = .ok (.iload_n 1, 1) := by decide +kernel
theorem dX6_weight_2 : decode cX6_weight 2 = .ok (.invokevirtual 153, 3) := by decide +kernel
theorem dX6_weight_5 : decode cX6_weight 5 = .ok (.ifCond .eq 11, 3) := by decide +kernel
theorem dX6_weight_8 : decode cX6_weight 8 = .ok (.aload_n 0, 1) := by decide +kernel
theorem dX6_weight_9 : decode cX6_weight 9 = .ok (.iload_n 1, 1) := by decide +kernel
theorem dX6_weight_10 : decode cX6_weight 10 = .ok (.invokevirtual 156, 3) := by decide +kernel
theorem dX6_weight_13 : decode cX6_weight 13 = .ok (.goto 4, 3) := by decide +kernel
theorem dX6_weight_16 : decode cX6_weight 16 = .ok (.iconst (-1), 1) := by decide +kernel
theorem dX6_weight_17 : decode cX6_weight 17 = .ok (.ireturn, 1) := by decide +kernel
set_option maxRecDepth 20000 in
theorem ggX6_list_X6_noHour : GoodIn wsX6_list wsX6_noHour := goodIn_r _ [6, 7, 8, 9, 5, 10] (by decide +kernel) (by decide +kernel)
set_option maxRecDepth 20000 in
theorem gX6_list_X6_noHour : GoodIn wsX6_list (va_wsS RX6 159 yX6_noHour wsX6_noHour) := goodIn_app (goodIn_of _ (by decide +kernel)) ggX6_list_X6_noHour
set_option maxRecDepth 20000 in
theorem ggX6_list_X6_isOfThings : GoodIn wsX6_list wsX6_isOfThings := goodIn_r _ [14, 15, 16, 17, 5, 18, 1, 8, 9, 10, 19, 20, 21, 22, 23, 24, 25, 26, 27, 28, 29, 30, 31, 32, 33, 34, 35, 36, 37, 38, 39, 40, 41, 42, 43, 44, 45] (by decide +kernel) (by decide +kernel)
set_option maxRecDepth 20000 in
theorem gX6_list_X6_isOfThings : GoodIn wsX6_list (wsV RX6 147 RX6 yX6_isOfThings wsX6_isOfThings) := goodIn_app (goodIn_of _ (by decide +kernel)) ggX6_list_X6_isOfThings
theorem dX6_list_0 : decode cX6_list 0 = .ok (.iload_n 1, 1) := by decide +kernel
theorem dX6_list_1 : decode cX6_list 1 = .ok (.invokestatic 159, 3) := by decide +kernel
theorem dX6_list_4 : decode cX6_list 4 = .ok (.ifCond .eq 5, 3) := by decide +kernel
theorem dX6_list_7 : decode cX6_list 7 = .ok (.iconst (-1), 1) := by decide +kernel
theorem dX6_list_8 : decode cX6_list 8 = .ok (.ireturn, 1) := by decide +kernel
theorem dX6_list_9 : decode cX6_list 9 = .ok (.aload_n 0, 1) := by decide +kernel
theorem dX6_list_10 : decode cX6_list 10 = .ok (.iload_n 2, 1) := by decide +kernel
theorem dX6_list_11 : decode cX6_list 11 = .ok (.invokevirtual 147, 3) := by decide +kernel
theorem dX6_list_14 : decode cX6_list 14 = .ok (.ifCond .ne 6, 3) := by decide +kernel
theorem dX6_list_17 : decode cX6_list 17 = .ok (.bipush (-2), 2) := by decide +kernel
theorem dX6_list_19 : decode cX6_list 19 = .ok (.ireturn, 1) := by decide +kernel
theorem dX6_list_20 : decode cX6_list 20 = .ok (.aload_n 0, 1) := by decide +kernel
theorem dX6_list_21 : decode cX6_list 21 = .ok (.getfield 98, 3) := by decide +kernel
theorem dX6_list_24 : decode cX6_list 24 = .ok (.ifCond .ne 6, 3) := by decide +kernel
theorem dX6_list_27 : decode cX6_list 27 = .ok (.bipush (-3), 2) := by decide +kernel
theorem dX6_list_29 : decode cX6_list 29 = .ok (.ireturn, 1) := by decide +kernel
theorem dX6_list_30 : decode cX6_list 30 = .ok (.aload_n 0, 1) := by decide +kernel
theorem dX6_list_31 : decode cX6_list 31 = .ok (.getfield 22, 3) := by decide +kernel
theorem dX6_list_34 : decode cX6_list 34 = .ok (.iload_n 1, 1) := by decide +kernel
theorem dX6_list_35 : decode cX6_list 35 = .ok (.iaload, 1) := by decide +kernel
theorem dX6_list_36 : decode cX6_list 36 = .ok (.istore_n 3, 1) := by decide +kernel
theorem dX6_list_37 : decode cX6_list 37 = .ok (.aload_n 0, 1) := by decide +kernel
theorem dX6_list_38 : decode cX6_list 38 = .ok (.getfield 22, 3) := by decide +kernel
theorem dX6_list_41 : decode cX6_list 41 = .ok (.iload_n 1, 1) := by decide +kernel
theorem dX6_list_42 : decode cX6_list 42 = .ok (.iload_n 2, 1) := by decide +kernel
theorem dX6_list_43 : decode cX6_list 43 = .ok (.iastore, 1) := by decide +kernel
theorem dX6_list_44 : decode cX6_list 44 = .ok (.iload_n 3, 1) := by decide +kernel
theorem dX6_list_45 : decode cX6_list 45 = .ok (.ireturn, 1) := by decide +kernel
set_option maxRecDepth 20000 in
theorem ggX6_breath_X6_noHour : GoodIn wsX6_breath wsX6_noHour := goodIn_r _ [7, 8, 9, 10, 6, 11] (by decide +kernel) (by decide +kernel)
set_option maxRecDepth 20000 in
theorem gX6_breath_X6_noHour : GoodIn wsX6_breath (va_wsS RX6 159 yX6_noHour wsX6_noHour) := goodIn_app (goodIn_of _ (by decide +kernel)) ggX6_breath_X6_noHour
set_option maxRecDepth 20000 in
theorem ggX6_breath_X6_in : GoodIn wsX6_breath wsX6_in := goodIn_r _ [11] (by decide +kernel) (by decide +kernel)
set_option maxRecDepth 20000 in
theorem gX6_breath_X6_in : GoodIn wsX6_breath (va_wsS RX6 87 yX6_in wsX6_in) := goodIn_app (goodIn_of _ (by decide +kernel)) ggX6_breath_X6_in
theorem dX6_breath_0 : decode cX6_breath 0 = .ok (.iload_n 1, 1) := by decide +kernel
theorem dX6_breath_1 : decode cX6_breath 1 = .ok (.invokestatic 159, 3) := by decide +kernel
theorem dX6_breath_4 : decode cX6_breath 4 = .ok (.ifCond .eq 5, 3) := by decide +kernel
theorem dX6_breath_7 : decode cX6_breath 7 = .ok (.iconst (-1), 1) := by decide +kernel
theorem dX6_breath_8 : decode cX6_breath 8 = .ok (.ireturn, 1) := by decide +kernel
theorem dX6_breath_9 : decode cX6_breath 9 = .ok (.iload_n 2, 1) := by decide +kernel
theorem dX6_breath_10 : decode cX6_breath 10 = .ok (.i2l, 1) := by decide +kernel
theorem dX6_breath_11 : decode cX6_breath 11 = .ok (.lconst 0, 1) := by decide +kernel
theorem dX6_breath_12 : decode cX6_breath 12 = .ok (.ldc2_w 162, 3) := by decide +kernel
theorem dX6_breath_15 : decode cX6_breath 15 = .ok (.invokestatic 87, 3) := by decide +kernel
theorem dX6_breath_18 : decode cX6_breath 18 = .ok (.ifCond .ne 6, 3) := by decide +kernel
theorem dX6_breath_21 : decode cX6_breath 21 = .ok (.bipush (-2), 2) := by decide +kernel
theorem dX6_breath_23 : decode cX6_breath 23 = .ok (.ireturn, 1) := by decide +kernel
theorem dX6_breath_24 : decode cX6_breath 24 = .ok (.aload_n 0, 1) := by decide +kernel
theorem dX6_breath_25 : decode cX6_breath 25 = .ok (.getfield 98, 3) := by decide +kernel
theorem dX6_breath_28 : decode cX6_breath 28 = .ok (.ifCond .ne 6, 3) := by decide +kernel
theorem dX6_breath_31 : decode cX6_breath 31 = .ok (.bipush (-3), 2) := by decide +kernel
theorem dX6_breath_33 : decode cX6_breath 33 = .ok (.ireturn, 1) := by decide +kernel
theorem dX6_breath_34 : decode cX6_breath 34 = .ok (.aload_n 0, 1) := by decide +kernel
theorem dX6_breath_35 : decode cX6_breath 35 = .ok (.getfield 25, 3) := by decide +kernel
theorem dX6_breath_38 : decode cX6_breath 38 = .ok (.iload_n 1, 1) := by decide +kernel
theorem dX6_breath_39 : decode cX6_breath 39 = .ok (.iaload, 1) := by decide +kernel
theorem dX6_breath_40 : decode cX6_breath 40 = .ok (.istore_n 3, 1) := by decide +kernel
theorem dX6_breath_41 : decode cX6_breath 41 = .ok (.aload_n 0, 1) := by decide +kernel
theorem dX6_breath_42 : decode cX6_breath 42 = .ok (.getfield 25, 3) := by decide +kernel
theorem dX6_breath_45 : decode cX6_breath 45 = .ok (.iload_n 1, 1) := by decide +kernel
theorem dX6_breath_46 : decode cX6_breath 46 = .ok (.iload_n 2, 1) := by decide +kernel
theorem dX6_breath_47 : decode cX6_breath 47 = .ok (.iastore, 1) := by decide +kernel
theorem dX6_breath_48 : decode cX6_breath 48 = .ok (.iload_n 3, 1) := by decide +kernel
theorem dX6_breath_49 : decode cX6_breath 49 = .ok (.ireturn, 1) := by decide +kernel
set_option maxRecDepth 20000 in
theorem ggX6_namedBy_X6_isIn : GoodIn wsX6_namedBy wsX6_isIn := goodIn_r _ [6] (by decide +kernel) (by decide +kernel)
set_option maxRecDepth 20000 in
theorem gX6_namedBy_X6_isIn : GoodIn wsX6_namedBy (va_wsS RX6 150 yX6_isIn wsX6_isIn) := goodIn_app (goodIn_of _ (by decide +kernel)) ggX6_namedBy_X6_isIn
theorem dX6_namedBy_0 : decode cX6_namedBy 0 = .ok (.iconst 0, 1) := by decide +kernel
theorem dX6_namedBy_1 : decode cX6_namedBy 1 = .ok (.istore 4, 2) := by decide +kernel
theorem dX6_namedBy_3 : decode cX6_namedBy 3 = .ok (.iconst 0, 1) := by decide +kernel
theorem dX6_namedBy_4 : decode cX6_namedBy 4 = .ok (.istore 5, 2) := by decide +kernel
theorem dX6_namedBy_6 : decode cX6_namedBy 6 = .ok (.iconst 1, 1) := by decide +kernel
theorem dX6_namedBy_7 : decode cX6_namedBy 7 = .ok (.istore 6, 2) := by decide +kernel
theorem dX6_namedBy_9 : decode cX6_namedBy 9 = .ok (.iconst 0, 1) := by decide +kernel
theorem dX6_namedBy_10 : decode cX6_namedBy 10 = .ok (.istore 7, 2) := by decide +kernel
theorem dX6_namedBy_12 : decode cX6_namedBy 12 = .ok (.iload 7, 2) := by decide +kernel
theorem dX6_namedBy_14 : decode cX6_namedBy 14 = .ok (.iconst 2, 1) := by decide +kernel
theorem dX6_namedBy_15 : decode cX6_namedBy 15 = .ok (.if_icmp .ge 145, 3) := by decide +kernel
theorem dX6_namedBy_18 : decode cX6_namedBy 18 = .ok (.iconst 0, 1) := by decide +kernel
theorem dX6_namedBy_19 : decode cX6_namedBy 19 = .ok (.istore 8, 2) := by decide +kernel
theorem dX6_namedBy_21 : decode cX6_namedBy 21 = .ok (.iload 8, 2) := by decide +kernel
theorem dX6_namedBy_23 : decode cX6_namedBy 23 = .ok (.aload_n 0, 1) := by decide +kernel
theorem dX6_namedBy_24 : decode cX6_namedBy 24 = .ok (.getfield 98, 3) := by decide +kernel
theorem dX6_namedBy_27 : decode cX6_namedBy 27 = .ok (.if_icmp .ge 127, 3) := by decide +kernel
theorem dX6_namedBy_30 : decode cX6_namedBy 30 = .ok (.iload_n 2, 1) := by decide +kernel
theorem dX6_namedBy_31 : decode cX6_namedBy 31 = .ok (.iload 8, 2) := by decide +kernel
theorem dX6_namedBy_33 : decode cX6_namedBy 33 = .ok (.invokestatic 150, 3) := by decide +kernel
theorem dX6_namedBy_36 : decode cX6_namedBy 36 = .ok (.ifCond .eq 45, 3) := by decide +kernel
theorem dX6_namedBy_39 : decode cX6_namedBy 39 = .ok (.iload_n 1, 1) := by decide +kernel
theorem dX6_namedBy_40 : decode cX6_namedBy 40 = .ok (.iload 8, 2) := by decide +kernel
theorem dX6_namedBy_42 : decode cX6_namedBy 42 = .ok (.invokestatic 150, 3) := by decide +kernel
theorem dX6_namedBy_45 : decode cX6_namedBy 45 = .ok (.ifCond .ne 36, 3) := by decide +kernel
theorem dX6_namedBy_48 : decode cX6_namedBy 48 = .ok (.aload_n 0, 1) := by decide +kernel
theorem dX6_namedBy_49 : decode cX6_namedBy 49 = .ok (.getfield 7, 3) := by decide +kernel
theorem dX6_namedBy_52 : decode cX6_namedBy 52 = .ok (.iload 8, 2) := by decide +kernel
theorem dX6_namedBy_54 : decode cX6_namedBy 54 = .ok (.iaload, 1) := by decide +kernel
theorem dX6_namedBy_55 : decode cX6_namedBy 55 = .ok (.iconst 2, 1) := by decide +kernel
theorem dX6_namedBy_56 : decode cX6_namedBy 56 = .ok (.if_icmp .ne 7, 3) := by decide +kernel
theorem dX6_namedBy_59 : decode cX6_namedBy 59 = .ok (.iconst 1, 1) := by decide +kernel
theorem dX6_namedBy_60 : decode cX6_namedBy 60 = .ok (.goto 4, 3) := by decide +kernel
theorem dX6_namedBy_63 : decode cX6_namedBy 63 = .ok (.iconst 0, 1) := by decide +kernel
theorem dX6_namedBy_64 : decode cX6_namedBy 64 = .ok (.iload 7, 2) := by decide +kernel
theorem dX6_namedBy_66 : decode cX6_namedBy 66 = .ok (.ifCond .ne 7, 3) := by decide +kernel
theorem dX6_namedBy_69 : decode cX6_namedBy 69 = .ok (.iconst 1, 1) := by decide +kernel
theorem dX6_namedBy_70 : decode cX6_namedBy 70 = .ok (.goto 4, 3) := by decide +kernel
theorem dX6_namedBy_73 : decode cX6_namedBy 73 = .ok (.iconst 0, 1) := by decide +kernel
theorem dX6_namedBy_74 : decode cX6_namedBy 74 = .ok (.if_icmp .ne 7, 3) := by decide +kernel
theorem dX6_namedBy_77 : decode cX6_namedBy 77 = .ok (.iconst 1, 1) := by decide +kernel
theorem dX6_namedBy_78 : decode cX6_namedBy 78 = .ok (.goto 4, 3) := by decide +kernel
theorem dX6_namedBy_81 : decode cX6_namedBy 81 = .ok (.iconst 0, 1) := by decide +kernel
theorem dX6_namedBy_82 : decode cX6_namedBy 82 = .ok (.istore 9, 2) := by decide +kernel
theorem dX6_namedBy_84 : decode cX6_namedBy 84 = .ok (.iload 4, 2) := by decide +kernel
theorem dX6_namedBy_86 : decode cX6_namedBy 86 = .ok (.iload 9, 2) := by decide +kernel
theorem dX6_namedBy_88 : decode cX6_namedBy 88 = .ok (.ifCond .eq 15, 3) := by decide +kernel
theorem dX6_namedBy_91 : decode cX6_namedBy 91 = .ok (.aload_n 0, 1) := by decide +kernel
theorem dX6_namedBy_92 : decode cX6_namedBy 92 = .ok (.getfield 7, 3) := by decide +kernel
theorem dX6_namedBy_95 : decode cX6_namedBy 95 = .ok (.iload 8, 2) := by decide +kernel
theorem dX6_namedBy_97 : decode cX6_namedBy 97 = .ok (.iaload, 1) := by decide +kernel
theorem dX6_namedBy_98 : decode cX6_namedBy 98 = .ok (.iconst 1, 1) := by decide +kernel
theorem dX6_namedBy_99 : decode cX6_namedBy 99 = .ok (.iadd, 1) := by decide +kernel
theorem dX6_namedBy_100 : decode cX6_namedBy 100 = .ok (.goto 4, 3) := by decide +kernel
theorem dX6_namedBy_103 : decode cX6_namedBy 103 = .ok (.iconst 0, 1) := by decide +kernel
theorem dX6_namedBy_104 : decode cX6_namedBy 104 = .ok (.iadd, 1) := by decide +kernel
theorem dX6_namedBy_105 : decode cX6_namedBy 105 = .ok (.istore 4, 2) := by decide +kernel
theorem dX6_namedBy_107 : decode cX6_namedBy 107 = .ok (.iload 6, 2) := by decide +kernel
theorem dX6_namedBy_109 : decode cX6_namedBy 109 = .ok (.ifCond .eq 13, 3) := by decide +kernel
theorem dX6_namedBy_112 : decode cX6_namedBy 112 = .ok (.iload 4, 2) := by decide +kernel
theorem dX6_namedBy_114 : decode cX6_namedBy 114 = .ok (.iload_n 3, 1) := by decide +kernel
theorem dX6_namedBy_115 : decode cX6_namedBy 115 = .ok (.if_icmp .gt 7, 3) := by decide +kernel
theorem dX6_namedBy_118 : decode cX6_namedBy 118 = .ok (.iconst 1, 1) := by decide +kernel
theorem dX6_namedBy_119 : decode cX6_namedBy 119 = .ok (.goto 4, 3) := by decide +kernel
theorem dX6_namedBy_122 : decode cX6_namedBy 122 = .ok (.iconst 0, 1) := by decide +kernel
theorem dX6_namedBy_123 : decode cX6_namedBy 123 = .ok (.istore 6, 2) := by decide +kernel
theorem dX6_namedBy_125 : decode cX6_namedBy 125 = .ok (.iload 5, 2) := by decide +kernel
theorem dX6_namedBy_127 : decode cX6_namedBy 127 = .ok (.iload 9, 2) := by decide +kernel
theorem dX6_namedBy_129 : decode cX6_namedBy 129 = .ok (.ifCond .eq 15, 3) := by decide +kernel
theorem dX6_namedBy_132 : decode cX6_namedBy 132 = .ok (.iload 6, 2) := by decide +kernel
theorem dX6_namedBy_134 : decode cX6_namedBy 134 = .ok (.ifCond .eq 10, 3) := by decide +kernel
theorem dX6_namedBy_137 : decode cX6_namedBy 137 = .ok (.iconst 1, 1) := by decide +kernel
theorem dX6_namedBy_138 : decode cX6_namedBy 138 = .ok (.iload 8, 2) := by decide +kernel
theorem dX6_namedBy_140 : decode cX6_namedBy 140 = .ok (.ishl, 1) := by decide +kernel
theorem dX6_namedBy_141 : decode cX6_namedBy 141 = .ok (.goto 4, 3) := by decide +kernel
theorem dX6_namedBy_144 : decode cX6_namedBy 144 = .ok (.iconst 0, 1) := by decide +kernel
theorem dX6_namedBy_145 : decode cX6_namedBy 145 = .ok (.ior, 1) := by decide +kernel
theorem dX6_namedBy_146 : decode cX6_namedBy 146 = .ok (.istore 5, 2) := by decide +kernel
theorem dX6_namedBy_148 : decode cX6_namedBy 148 = .ok (.iinc 8 1, 3) := by decide +kernel
theorem dX6_namedBy_151 : decode cX6_namedBy 151 = .ok (.goto (-130), 3) := by decide +kernel
theorem dX6_namedBy_154 : decode cX6_namedBy 154 = .ok (.iinc 7 1, 3) := by decide +kernel
theorem dX6_namedBy_157 : decode cX6_namedBy 157 = .ok (.goto (-145), 3) := by decide +kernel
theorem dX6_namedBy_160 : decode cX6_namedBy 160 = .ok (.iload 5, 2) := by decide +kernel
theorem dX6_namedBy_162 : decode cX6_namedBy 162 = .ok (.ireturn, 1) := by decide +kernel
set_option maxRecDepth 20000 in
theorem ggX6_calledIn_X6_namedBy : GoodIn wsX6_calledIn wsX6_namedBy := goodIn_r _ [7, 8, 9, 10, 11, 6, 12, 13, 14, 15, 16, 17, 18, 19, 20, 21, 22, 23, 24, 25, 26, 27, 28, 29, 30, 31, 32, 33, 34, 35, 36, 37, 38, 39] (by decide +kernel) (by decide +kernel)
set_option maxRecDepth 20000 in
theorem gX6_calledIn_X6_namedBy : GoodIn wsX6_calledIn (wsV RX6 164 RX6 yX6_namedBy wsX6_namedBy) := goodIn_app (goodIn_of _ (by decide +kernel)) ggX6_calledIn_X6_namedBy
theorem dX6_calledIn_0 : decode cX6_calledIn 0 = .ok (.aload_n 0, 1) := by decide +kernel
theorem dX6_calledIn_1 : decode cX6_calledIn 1 = .ok (.iload_n 1, 1) := by decide +kernel
theorem dX6_calledIn_2 : decode cX6_calledIn 2 = .ok (.aload_n 0, 1) := by decide +kernel
theorem dX6_calledIn_3 : decode cX6_calledIn 3 = .ok (.getfield 22, 3) := by decide +kernel
theorem dX6_calledIn_6 : decode cX6_calledIn 6 = .ok (.iload_n 2, 1) := by decide +kernel
theorem dX6_calledIn_7 : decode cX6_calledIn 7 = .ok (.iaload, 1) := by decide +kernel
theorem dX6_calledIn_8 : decode cX6_calledIn 8 = .ok (.aload_n 0, 1) := by decide +kernel
theorem dX6_calledIn_9 : decode cX6_calledIn 9 = .ok (.getfield 25, 3) := by decide +kernel
theorem dX6_calledIn_12 : decode cX6_calledIn 12 = .ok (.iload_n 2, 1) := by decide +kernel
theorem dX6_calledIn_13 : decode cX6_calledIn 13 = .ok (.iaload, 1) := by decide +kernel
theorem dX6_calledIn_14 : decode cX6_calledIn 14 = .ok (.invokevirtual 164, 3) := by decide +kernel
theorem dX6_calledIn_17 : decode cX6_calledIn 17 = .ok (.ireturn, 1) := by decide +kernel
set_option maxRecDepth 20000 in
theorem ggX6_called_X6_isCase : GoodIn wsX6_called wsX6_isCase := goodIn_r _ [5, 6, 7, 8, 9, 10, 11, 12, 4, 13, 14, 15, 16, 17, 18, 19, 20, 21, 22, 23, 39, 40, 41, 42, 43, 44, 45, 46, 47, 48, 49, 50, 51, 52, 53, 54, 55, 56, 57, 58, 59, 60, 61, 62, 63, 64, 65] (by decide +kernel) (by decide +kernel)
set_option maxRecDepth 20000 in
theorem gX6_called_X6_isCase : GoodIn wsX6_called (wsV RX6 153 RX6 yX6_isCase wsX6_isCase) := goodIn_app (goodIn_of _ (by decide +kernel)) ggX6_called_X6_isCase
set_option maxRecDepth 20000 in
theorem ggX6_called_X6_noHour : GoodIn wsX6_called wsX6_noHour := goodIn_r _ [26, 27, 18, 19, 4, 20] (by decide +kernel) (by decide +kernel)
set_option maxRecDepth 20000 in
theorem gX6_called_X6_noHour : GoodIn wsX6_called (va_wsS RX6 159 yX6_noHour wsX6_noHour) := goodIn_app (goodIn_of _ (by decide +kernel)) ggX6_called_X6_noHour
set_option maxRecDepth 20000 in
theorem ggX6_called_X6_calledIn : GoodIn wsX6_called wsX6_calledIn := goodIn_r _ [31, 32, 33, 34, 35, 36, 4, 37, 6, 38, 21, 22, 23, 39, 40, 41, 42, 43, 44, 45, 46, 47, 48, 49, 50, 51, 52, 53, 54, 55, 56, 57, 58, 59, 60, 61, 62, 63, 64, 65] (by decide +kernel) (by decide +kernel)
set_option maxRecDepth 20000 in
theorem gX6_called_X6_calledIn : GoodIn wsX6_called (wsV RX6 168 RX6 yX6_calledIn wsX6_calledIn) := goodIn_app (goodIn_of _ (by decide +kernel)) ggX6_called_X6_calledIn
theorem dX6_called_0 : decode cX6_called 0 = .ok (.aload_n 0, 1) := by decide +kernel
theorem dX6_called_1 : decode cX6_called 1 = .ok (.iload_n 1, 1) := by decide +kernel
theorem dX6_called_2 : decode cX6_called 2 = .ok (.invokevirtual 153, 3) := by decide +kernel
theorem dX6_called_5 : decode cX6_called 5 = .ok (.ifCond .eq 10, 3) := by decide +kernel
theorem dX6_called_8 : decode cX6_called 8 = .ok (.iload_n 2, 1) := by decide +kernel
theorem dX6_called_9 : decode cX6_called 9 = .ok (.invokestatic 159, 3) := by decide +kernel
theorem dX6_called_12 : decode cX6_called 12 = .ok (.ifCond .eq 7, 3) := by decide +kernel
theorem dX6_called_15 : decode cX6_called 15 = .ok (.iconst (-1), 1) := by decide +kernel
theorem dX6_called_16 : decode cX6_called 16 = .ok (.goto 9, 3) := by decide +kernel
theorem dX6_called_19 : decode cX6_called 19 = .ok (.aload_n 0, 1) := by decide +kernel
theorem dX6_called_20 : decode cX6_called 20 = .ok (.iload_n 1, 1) := by decide +kernel
theorem dX6_called_21 : decode cX6_called 21 = .ok (.iload_n 2, 1) := by decide +kernel
theorem dX6_called_22 : decode cX6_called 22 = .ok (.invokevirtual 168, 3) := by decide +kernel
theorem dX6_called_25 : decode cX6_called 25 = .ok (.ireturn, 1) := by decide +kernel
set_option maxRecDepth 20000 in
theorem ggX6_hear_X6_noHour : GoodIn wsX6_hear wsX6_noHour := goodIn_r _ [6, 7, 8, 9, 5, 10] (by decide +kernel) (by decide +kernel)
set_option maxRecDepth 20000 in
theorem gX6_hear_X6_noHour : GoodIn wsX6_hear (va_wsS RX6 159 yX6_noHour wsX6_noHour) := goodIn_app (goodIn_of _ (by decide +kernel)) ggX6_hear_X6_noHour
set_option maxRecDepth 20000 in
theorem ggX6_hear_X6_isOfThings : GoodIn wsX6_hear wsX6_isOfThings := goodIn_r _ [14, 15, 16, 17, 5, 18, 1, 8, 9, 10, 19, 20, 21, 22, 23, 24, 25, 26, 27, 28, 29, 30, 31, 32, 33, 34, 35, 36, 37, 38, 39, 40, 41, 42, 43, 44, 45] (by decide +kernel) (by decide +kernel)
set_option maxRecDepth 20000 in
theorem gX6_hear_X6_isOfThings : GoodIn wsX6_hear (wsV RX6 147 RX6 yX6_isOfThings wsX6_isOfThings) := goodIn_app (goodIn_of _ (by decide +kernel)) ggX6_hear_X6_isOfThings
theorem dX6_hear_0 : decode cX6_hear 0 = .ok (.iload_n 1, 1) := by decide +kernel
theorem dX6_hear_1 : decode cX6_hear 1 = .ok (.invokestatic 159, 3) := by decide +kernel
theorem dX6_hear_4 : decode cX6_hear 4 = .ok (.ifCond .eq 5, 3) := by decide +kernel
theorem dX6_hear_7 : decode cX6_hear 7 = .ok (.iconst (-1), 1) := by decide +kernel
theorem dX6_hear_8 : decode cX6_hear 8 = .ok (.ireturn, 1) := by decide +kernel
theorem dX6_hear_9 : decode cX6_hear 9 = .ok (.iload_n 2, 1) := by decide +kernel
theorem dX6_hear_10 : decode cX6_hear 10 = .ok (.bipush (-9), 2) := by decide +kernel
theorem dX6_hear_12 : decode cX6_hear 12 = .ok (.if_icmp .eq 14, 3) := by decide +kernel
theorem dX6_hear_15 : decode cX6_hear 15 = .ok (.aload_n 0, 1) := by decide +kernel
theorem dX6_hear_16 : decode cX6_hear 16 = .ok (.iload_n 2, 1) := by decide +kernel
theorem dX6_hear_17 : decode cX6_hear 17 = .ok (.invokevirtual 147, 3) := by decide +kernel
theorem dX6_hear_20 : decode cX6_hear 20 = .ok (.ifCond .ne 6, 3) := by decide +kernel
theorem dX6_hear_23 : decode cX6_hear 23 = .ok (.bipush (-2), 2) := by decide +kernel
theorem dX6_hear_25 : decode cX6_hear 25 = .ok (.ireturn, 1) := by decide +kernel
theorem dX6_hear_26 : decode cX6_hear 26 = .ok (.aload_n 0, 1) := by decide +kernel
theorem dX6_hear_27 : decode cX6_hear 27 = .ok (.getfield 98, 3) := by decide +kernel
theorem dX6_hear_30 : decode cX6_hear 30 = .ok (.ifCond .ne 6, 3) := by decide +kernel
theorem dX6_hear_33 : decode cX6_hear 33 = .ok (.bipush (-3), 2) := by decide +kernel
theorem dX6_hear_35 : decode cX6_hear 35 = .ok (.ireturn, 1) := by decide +kernel
theorem dX6_hear_36 : decode cX6_hear 36 = .ok (.aload_n 0, 1) := by decide +kernel
theorem dX6_hear_37 : decode cX6_hear 37 = .ok (.getfield 28, 3) := by decide +kernel
theorem dX6_hear_40 : decode cX6_hear 40 = .ok (.iload_n 1, 1) := by decide +kernel
theorem dX6_hear_41 : decode cX6_hear 41 = .ok (.iaload, 1) := by decide +kernel
theorem dX6_hear_42 : decode cX6_hear 42 = .ok (.istore_n 3, 1) := by decide +kernel
theorem dX6_hear_43 : decode cX6_hear 43 = .ok (.aload_n 0, 1) := by decide +kernel
theorem dX6_hear_44 : decode cX6_hear 44 = .ok (.getfield 28, 3) := by decide +kernel
theorem dX6_hear_47 : decode cX6_hear 47 = .ok (.iload_n 1, 1) := by decide +kernel
theorem dX6_hear_48 : decode cX6_hear 48 = .ok (.iload_n 2, 1) := by decide +kernel
theorem dX6_hear_49 : decode cX6_hear 49 = .ok (.iastore, 1) := by decide +kernel
theorem dX6_hear_50 : decode cX6_hear 50 = .ok (.iload_n 3, 1) := by decide +kernel
theorem dX6_hear_51 : decode cX6_hear 51 = .ok (.ireturn, 1) := by decide +kernel
set_option maxRecDepth 20000 in
theorem ggX6_isThought_X6_isCase : GoodIn wsX6_isThought wsX6_isCase := goodIn_r _ [6, 7, 8, 9, 10, 11, 12, 13, 5, 14, 15, 16, 17, 18, 19, 20, 21, 22, 23, 24, 36, 37, 38, 39, 40, 41, 42, 43, 44, 45, 46, 47, 48, 49, 50, 51, 52, 53, 54, 55, 56, 57, 58, 59, 60, 61, 62] (by decide +kernel) (by decide +kernel)
set_option maxRecDepth 20000 in
theorem gX6_isThought_X6_isCase : GoodIn wsX6_isThought (wsV RX6 153 RX6 yX6_isCase wsX6_isCase) := goodIn_app (goodIn_of _ (by decide +kernel)) ggX6_isThought_X6_isCase
set_option maxRecDepth 20000 in
theorem ggX6_isThought_X6_calledIn : GoodIn wsX6_isThought wsX6_calledIn := goodIn_r _ [28, 29, 30, 31, 32, 33, 5, 34, 7, 35, 22, 23, 24, 36, 37, 38, 39, 40, 41, 42, 43, 44, 45, 46, 47, 48, 49, 50, 51, 52, 53, 54, 55, 56, 57, 58, 59, 60, 61, 62] (by decide +kernel) (by decide +kernel)
set_option maxRecDepth 20000 in
theorem gX6_isThought_X6_calledIn : GoodIn wsX6_isThought (wsV RX6 168 RX6 yX6_calledIn wsX6_calledIn) := goodIn_app (goodIn_of _ (by decide +kernel)) ggX6_isThought_X6_calledIn
theorem dX6_isThought_0 : decode cX6_isThought 0 = .ok (.aload_n 0, 1) := by decide +kernel
theorem dX6_isThought_1 : decode cX6_isThought 1 = .ok (.iload_n 1, 1) := by decide +kernel
theorem dX6_isThought_2 : decode cX6_isThought 2 = .ok (.invokevirtual 153, 3) := by decide +kernel
theorem dX6_isThought_5 : decode cX6_isThought 5 = .ok (.istore_n 2, 1) := by decide +kernel
theorem dX6_isThought_6 : decode cX6_isThought 6 = .ok (.iconst 0, 1) := by decide +kernel
theorem dX6_isThought_7 : decode cX6_isThought 7 = .ok (.istore_n 3, 1) := by decide +kernel
theorem dX6_isThought_8 : decode cX6_isThought 8 = .ok (.iload_n 3, 1) := by decide +kernel
theorem dX6_isThought_9 : decode cX6_isThought 9 = .ok (.bipush 6, 2) := by decide +kernel
theorem dX6_isThought_11 : decode cX6_isThought 11 = .ok (.if_icmp .ge 43, 3) := by decide +kernel
theorem dX6_isThought_14 : decode cX6_isThought 14 = .ok (.iload_n 2, 1) := by decide +kernel
theorem dX6_isThought_15 : decode cX6_isThought 15 = .ok (.ifCond .eq 39, 3) := by decide +kernel
theorem dX6_isThought_18 : decode cX6_isThought 18 = .ok (.aload_n 0, 1) := by decide +kernel
theorem dX6_isThought_19 : decode cX6_isThought 19 = .ok (.getfield 28, 3) := by decide +kernel
theorem dX6_isThought_22 : decode cX6_isThought 22 = .ok (.iload_n 3, 1) := by decide +kernel
theorem dX6_isThought_23 : decode cX6_isThought 23 = .ok (.iaload, 1) := by decide +kernel
theorem dX6_isThought_24 : decode cX6_isThought 24 = .ok (.ifCond .lt 18, 3) := by decide +kernel
theorem dX6_isThought_27 : decode cX6_isThought 27 = .ok (.aload_n 0, 1) := by decide +kernel
theorem dX6_isThought_28 : decode cX6_isThought 28 = .ok (.iload_n 1, 1) := by decide +kernel
theorem dX6_isThought_29 : decode cX6_isThought 29 = .ok (.iload_n 3, 1) := by decide +kernel
theorem dX6_isThought_30 : decode cX6_isThought 30 = .ok (.invokevirtual 168, 3) := by decide +kernel
theorem dX6_isThought_33 : decode cX6_isThought 33 = .ok (.aload_n 0, 1) := by decide +kernel
theorem dX6_isThought_34 : decode cX6_isThought 34 = .ok (.getfield 28, 3) := by decide +kernel
theorem dX6_isThought_37 : decode cX6_isThought 37 = .ok (.iload_n 3, 1) := by decide +kernel
theorem dX6_isThought_38 : decode cX6_isThought 38 = .ok (.iaload, 1) := by decide +kernel
theorem dX6_isThought_39 : decode cX6_isThought 39 = .ok (.if_icmp .ne 7, 3) := by decide +kernel
theorem dX6_isThought_42 : decode cX6_isThought 42 = .ok (.iconst 1, 1) := by decide +kernel
theorem dX6_isThought_43 : decode cX6_isThought 43 = .ok (.goto 4, 3) := by decide +kernel
theorem dX6_isThought_46 : decode cX6_isThought 46 = .ok (.iconst 0, 1) := by decide +kernel
theorem dX6_isThought_47 : decode cX6_isThought 47 = .ok (.istore_n 2, 1) := by decide +kernel
theorem dX6_isThought_48 : decode cX6_isThought 48 = .ok (.iinc 3 1, 3) := by decide +kernel
theorem dX6_isThought_51 : decode cX6_isThought 51 = .ok (.goto (-43), 3) := by decide +kernel
theorem dX6_isThought_54 : decode cX6_isThought 54 = .ok (.iload_n 2, 1) := by decide +kernel
theorem dX6_isThought_55 : decode cX6_isThought 55 = .ok (.ireturn, 1) := by decide +kernel
set_option maxRecDepth 20000 in
theorem ggX6_thought_X6_isThought : GoodIn wsX6_thought wsX6_isThought := goodIn_r _ [5, 6, 7, 8, 9, 4, 10, 11, 12, 13, 14, 15, 16, 17, 18, 19, 20, 21, 22, 23, 24, 25, 26, 27, 28, 29, 30, 31, 32, 33, 34, 35, 36, 37, 38, 39, 40, 41, 42, 43, 44, 45, 46, 47, 48, 49, 50, 51, 52, 53, 54, 55, 56, 57, 58, 59, 60, 61, 62, 63, 64, 65, 66] (by decide +kernel) (by decide +kernel)
set_option maxRecDepth 20000 in
theorem gX6_thought_X6_isThought : GoodIn wsX6_thought (wsV RX6 171 RX6 yX6_isThought wsX6_isThought) := goodIn_app (goodIn_of _ (by decide +kernel)) ggX6_thought_X6_isThought
theorem dX6_thought_0 : decode cX6_thought 0 = .ok (.lconst 0, 1) := by decide +kernel
theorem dX6_thought_1 : decode cX6_thought 1 = .ok (.lstore_n 1, 1) := by decide +kernel
theorem dX6_thought_2 : decode cX6_thought 2 = .ok (.iconst 0, 1) := by decide +kernel
theorem dX6_thought_3 : decode cX6_thought 3 = .ok (.istore_n 3, 1) := by decide +kernel
theorem dX6_thought_4 : decode cX6_thought 4 = .ok (.iload_n 3, 1) := by decide +kernel
theorem dX6_thought_5 : decode cX6_thought 5 = .ok (.bipush 64, 2) := by decide +kernel
theorem dX6_thought_7 : decode cX6_thought 7 = .ok (.if_icmp .ge 27, 3) := by decide +kernel
theorem dX6_thought_10 : decode cX6_thought 10 = .ok (.lload_n 1, 1) := by decide +kernel
theorem dX6_thought_11 : decode cX6_thought 11 = .ok (.aload_n 0, 1) := by decide +kernel
theorem dX6_thought_12 : decode cX6_thought 12 = .ok (.iload_n 3, 1) := by decide +kernel
theorem dX6_thought_13 : decode cX6_thought 13 = .ok (.invokevirtual 171, 3) := by decide +kernel
theorem dX6_thought_16 : decode cX6_thought 16 = .ok (.ifCond .eq 9, 3) := by decide +kernel
theorem dX6_thought_19 : decode cX6_thought 19 = .ok (.lconst 1, 1) := by decide +kernel
theorem dX6_thought_20 : decode cX6_thought 20 = .ok (.iload_n 3, 1) := by decide +kernel
theorem dX6_thought_21 : decode cX6_thought 21 = .ok (.lshl, 1) := by decide +kernel
theorem dX6_thought_22 : decode cX6_thought 22 = .ok (.goto 4, 3) := by decide +kernel
theorem dX6_thought_25 : decode cX6_thought 25 = .ok (.lconst 0, 1) := by decide +kernel
theorem dX6_thought_26 : decode cX6_thought 26 = .ok (.lor, 1) := by decide +kernel
theorem dX6_thought_27 : decode cX6_thought 27 = .ok (.lstore_n 1, 1) := by decide +kernel
theorem dX6_thought_28 : decode cX6_thought 28 = .ok (.iinc 3 1, 3) := by decide +kernel
theorem dX6_thought_31 : decode cX6_thought 31 = .ok (.goto (-27), 3) := by decide +kernel
theorem dX6_thought_34 : decode cX6_thought 34 = .ok (.lload_n 1, 1) := by decide +kernel
theorem dX6_thought_35 : decode cX6_thought 35 = .ok (.lreturn, 1) := by decide +kernel
set_option maxRecDepth 20000 in
theorem ggX6_sure_X6_in : GoodIn wsX6_sure wsX6_in := goodIn_r _ [5] (by decide +kernel) (by decide +kernel)
set_option maxRecDepth 20000 in
theorem gX6_sure_X6_in : GoodIn wsX6_sure (va_wsS RX6 87 yX6_in wsX6_in) := goodIn_app (goodIn_of _ (by decide +kernel)) ggX6_sure_X6_in
set_option maxRecDepth 20000 in
theorem ggX6_sure_X6_all : GoodIn wsX6_sure wsX6_all := goodIn_r _ [9, 1, 40, 41, 42, 43, 44, 45, 46, 47, 48, 49, 50, 51, 52, 53, 54, 55, 56, 57, 58, 59, 60, 61, 62, 63, 64, 65, 66] (by decide +kernel) (by decide +kernel)
set_option maxRecDepth 20000 in
theorem gX6_sure_X6_all : GoodIn wsX6_sure (wsV RX6 103 RX6 yX6_all wsX6_all) := goodIn_app (goodIn_of _ (by decide +kernel)) ggX6_sure_X6_all
set_option maxRecDepth 20000 in
theorem ggX6_sure_X6_isThought : GoodIn wsX6_sure wsX6_isThought := goodIn_r _ [13, 14, 15, 16, 17, 4, 18, 1, 19, 20, 21, 22, 23, 24, 25, 6, 7, 8, 9, 2, 3, 5, 26, 27, 28, 29, 30, 31, 32, 33, 34, 35, 36, 37, 38, 39, 40, 41, 42, 43, 44, 45, 46, 47, 48, 49, 50, 51, 52, 53, 54, 55, 56, 57, 58, 59, 60, 61, 62, 63, 64, 65, 66] (by decide +kernel) (by decide +kernel)
set_option maxRecDepth 20000 in
theorem gX6_sure_X6_isThought : GoodIn wsX6_sure (wsV RX6 171 RX6 yX6_isThought wsX6_isThought) := goodIn_app (goodIn_of _ (by decide +kernel)) ggX6_sure_X6_isThought
theorem dX6_sure_0 : decode cX6_sure 0 = .ok (.iload_n 1, 1) := by decide +kernel
theorem dX6_sure_1 : decode cX6_sure 1 = .ok (.i2l, 1) := by decide +kernel
theorem dX6_sure_2 : decode cX6_sure 2 = .ok (.lconst 0, 1) := by decide +kernel
theorem dX6_sure_3 : decode cX6_sure 3 = .ok (.lconst 1, 1) := by decide +kernel
theorem dX6_sure_4 : decode cX6_sure 4 = .ok (.invokestatic 87, 3) := by decide +kernel
theorem dX6_sure_7 : decode cX6_sure 7 = .ok (.ifCond .ne 6, 3) := by decide +kernel
theorem dX6_sure_10 : decode cX6_sure 10 = .ok (.bipush (-2), 2) := by decide +kernel
theorem dX6_sure_12 : decode cX6_sure 12 = .ok (.ireturn, 1) := by decide +kernel
theorem dX6_sure_13 : decode cX6_sure 13 = .ok (.aload_n 0, 1) := by decide +kernel
theorem dX6_sure_14 : decode cX6_sure 14 = .ok (.getfield 98, 3) := by decide +kernel
theorem dX6_sure_17 : decode cX6_sure 17 = .ok (.ifCond .ne 6, 3) := by decide +kernel
theorem dX6_sure_20 : decode cX6_sure 20 = .ok (.bipush (-3), 2) := by decide +kernel
theorem dX6_sure_22 : decode cX6_sure 22 = .ok (.ireturn, 1) := by decide +kernel
theorem dX6_sure_23 : decode cX6_sure 23 = .ok (.aload_n 0, 1) := by decide +kernel
theorem dX6_sure_24 : decode cX6_sure 24 = .ok (.invokevirtual 103, 3) := by decide +kernel
theorem dX6_sure_27 : decode cX6_sure 27 = .ok (.istore_n 2, 1) := by decide +kernel
theorem dX6_sure_28 : decode cX6_sure 28 = .ok (.iconst 0, 1) := by decide +kernel
theorem dX6_sure_29 : decode cX6_sure 29 = .ok (.istore_n 3, 1) := by decide +kernel
theorem dX6_sure_30 : decode cX6_sure 30 = .ok (.iload_n 3, 1) := by decide +kernel
theorem dX6_sure_31 : decode cX6_sure 31 = .ok (.aload_n 0, 1) := by decide +kernel
theorem dX6_sure_32 : decode cX6_sure 32 = .ok (.invokevirtual 103, 3) := by decide +kernel
theorem dX6_sure_35 : decode cX6_sure 35 = .ok (.if_icmp .gt 31, 3) := by decide +kernel
theorem dX6_sure_38 : decode cX6_sure 38 = .ok (.aload_n 0, 1) := by decide +kernel
theorem dX6_sure_39 : decode cX6_sure 39 = .ok (.iload_n 3, 1) := by decide +kernel
theorem dX6_sure_40 : decode cX6_sure 40 = .ok (.invokevirtual 171, 3) := by decide +kernel
theorem dX6_sure_43 : decode cX6_sure 43 = .ok (.ifCond .eq 17, 3) := by decide +kernel
theorem dX6_sure_46 : decode cX6_sure 46 = .ok (.iload_n 2, 1) := by decide +kernel
theorem dX6_sure_47 : decode cX6_sure 47 = .ok (.iload_n 1, 1) := by decide +kernel
theorem dX6_sure_48 : decode cX6_sure 48 = .ok (.ifCond .ne 7, 3) := by decide +kernel
theorem dX6_sure_51 : decode cX6_sure 51 = .ok (.iload_n 3, 1) := by decide +kernel
theorem dX6_sure_52 : decode cX6_sure 52 = .ok (.goto 6, 3) := by decide +kernel
theorem dX6_sure_55 : decode cX6_sure 55 = .ok (.iload_n 3, 1) := by decide +kernel
theorem dX6_sure_56 : decode cX6_sure 56 = .ok (.iconst (-1), 1) := by decide +kernel
theorem dX6_sure_57 : decode cX6_sure 57 = .ok (.ixor, 1) := by decide +kernel
theorem dX6_sure_58 : decode cX6_sure 58 = .ok (.iand, 1) := by decide +kernel
theorem dX6_sure_59 : decode cX6_sure 59 = .ok (.istore_n 2, 1) := by decide +kernel
theorem dX6_sure_60 : decode cX6_sure 60 = .ok (.iinc 3 1, 3) := by decide +kernel
theorem dX6_sure_63 : decode cX6_sure 63 = .ok (.goto (-33), 3) := by decide +kernel
theorem dX6_sure_66 : decode cX6_sure 66 = .ok (.iload_n 2, 1) := by decide +kernel
theorem dX6_sure_67 : decode cX6_sure 67 = .ok (.ireturn, 1) := by decide +kernel
set_option maxRecDepth 20000 in
theorem ggX6_chance_X6_noThing : GoodIn wsX6_chance wsX6_noThing := goodIn_r _ [5, 6, 7, 8, 4, 9, 56, 57, 58, 59, 60, 61, 62, 63, 64, 65, 66, 67, 68, 69, 70, 71, 72, 73, 74, 75, 76, 77, 78, 79, 80, 81, 82] (by decide +kernel) (by decide +kernel)
set_option maxRecDepth 20000 in
theorem gX6_chance_X6_noThing : GoodIn wsX6_chance (wsV RX6 144 RX6 yX6_noThing wsX6_noThing) := goodIn_app (goodIn_of _ (by decide +kernel)) ggX6_chance_X6_noThing
set_option maxRecDepth 20000 in
theorem ggX6_chance_X6_in : GoodIn wsX6_chance wsX6_in := goodIn_r _ [9] (by decide +kernel) (by decide +kernel)
set_option maxRecDepth 20000 in
theorem gX6_chance_X6_in : GoodIn wsX6_chance (va_wsS RX6 87 yX6_in wsX6_in) := goodIn_app (goodIn_of _ (by decide +kernel)) ggX6_chance_X6_in
set_option maxRecDepth 20000 in
theorem ggX6_chance_X6_lost : GoodIn wsX6_chance wsX6_lost := goodIn_r _ [12, 13] (by decide +kernel) (by decide +kernel)
set_option maxRecDepth 20000 in
theorem gX6_chance_X6_lost : GoodIn wsX6_chance (va_wsS RX6 73 yX6_lost wsX6_lost) := goodIn_app (goodIn_of _ (by decide +kernel)) ggX6_chance_X6_lost
set_option maxRecDepth 20000 in
theorem ggX6_chance_X6_all : GoodIn wsX6_chance wsX6_all := goodIn_r _ [17, 6, 56, 57, 58, 59, 60, 61, 62, 63, 64, 65, 66, 67, 68, 69, 70, 71, 72, 73, 74, 75, 76, 77, 78, 79, 80, 81, 82] (by decide +kernel) (by decide +kernel)
set_option maxRecDepth 20000 in
theorem gX6_chance_X6_all : GoodIn wsX6_chance (wsV RX6 103 RX6 yX6_all wsX6_all) := goodIn_app (goodIn_of _ (by decide +kernel)) ggX6_chance_X6_all
set_option maxRecDepth 20000 in
theorem ggX6_chance_X6_isThought : GoodIn wsX6_chance wsX6_isThought := goodIn_r _ [21, 22, 23, 24, 25, 4, 26, 6, 27, 28, 29, 30, 31, 32, 33, 14, 15, 16, 17, 7, 8, 9, 34, 35, 36, 37, 38, 39, 40, 41, 42, 43, 44, 45, 46, 47, 56, 57, 58, 59, 60, 61, 62, 63, 64, 65, 66, 67, 68, 69, 70, 71, 72, 73, 74, 75, 76, 77, 78, 79, 80, 81, 82] (by decide +kernel) (by decide +kernel)
set_option maxRecDepth 20000 in
theorem gX6_chance_X6_isThought : GoodIn wsX6_chance (wsV RX6 171 RX6 yX6_isThought wsX6_isThought) := goodIn_app (goodIn_of _ (by decide +kernel)) ggX6_chance_X6_isThought
set_option maxRecDepth 20000 in
theorem ggX6_chance_X6_weightOf : GoodIn wsX6_chance wsX6_weightOf := goodIn_r _ [51, 6, 52, 34, 35, 4, 36, 56, 57, 58, 59, 60, 61, 62, 63, 64, 65, 66, 67, 68, 69, 70, 71, 72, 73, 74, 75, 76, 77, 78, 79, 80, 81, 82] (by decide +kernel) (by decide +kernel)
set_option maxRecDepth 20000 in
theorem gX6_chance_X6_weightOf : GoodIn wsX6_chance (wsV RX6 156 RX6 yX6_weightOf wsX6_weightOf) := goodIn_app (goodIn_of _ (by decide +kernel)) ggX6_chance_X6_weightOf
set_option maxRecDepth 20000 in
theorem ggX6_chance_X6_isIn : GoodIn wsX6_chance wsX6_isIn := goodIn_r _ [36] (by decide +kernel) (by decide +kernel)
set_option maxRecDepth 20000 in
theorem gX6_chance_X6_isIn : GoodIn wsX6_chance (va_wsS RX6 150 yX6_isIn wsX6_isIn) := goodIn_app (goodIn_of _ (by decide +kernel)) ggX6_chance_X6_isIn
set_option maxRecDepth 20000 in
theorem ggX6_chance_X6_told : GoodIn wsX6_chance wsX6_told := goodIn_r _ [55] (by decide +kernel) (by decide +kernel)
set_option maxRecDepth 20000 in
theorem gX6_chance_X6_told : GoodIn wsX6_chance (va_wsS RX6 174 yX6_told wsX6_told) := goodIn_app (goodIn_of _ (by decide +kernel)) ggX6_chance_X6_told
theorem dX6_chance_0 : decode cX6_chance 0 = .ok (.aload_n 0, 1) := by decide +kernel
theorem dX6_chance_1 : decode cX6_chance 1 = .ok (.iload_n 1, 1) := by decide +kernel
theorem dX6_chance_2 : decode cX6_chance 2 = .ok (.invokevirtual 144, 3) := by decide +kernel
theorem dX6_chance_5 : decode cX6_chance 5 = .ok (.ifCond .ne 13, 3) := by decide +kernel
theorem dX6_chance_8 : decode cX6_chance 8 = .ok (.iload_n 2, 1) := by decide +kernel
theorem dX6_chance_9 : decode cX6_chance 9 = .ok (.i2l, 1) := by decide +kernel
theorem dX6_chance_10 : decode cX6_chance 10 = .ok (.lconst 0, 1) := by decide +kernel
theorem dX6_chance_11 : decode cX6_chance 11 = .ok (.lconst 1, 1) := by decide +kernel
theorem dX6_chance_12 : decode cX6_chance 12 = .ok (.invokestatic 87, 3) := by decide +kernel
theorem dX6_chance_15 : decode cX6_chance 15 = .ok (.ifCond .ne 7, 3) := by decide +kernel
theorem dX6_chance_18 : decode cX6_chance 18 = .ok (.invokestatic 73, 3) := by decide +kernel
theorem dX6_chance_21 : decode cX6_chance 21 = .ok (.lreturn, 1) := by decide +kernel
theorem dX6_chance_22 : decode cX6_chance 22 = .ok (.lconst 0, 1) := by decide +kernel
theorem dX6_chance_23 : decode cX6_chance 23 = .ok (.lstore_n 3, 1) := by decide +kernel
theorem dX6_chance_24 : decode cX6_chance 24 = .ok (.lconst 0, 1) := by decide +kernel
theorem dX6_chance_25 : decode cX6_chance 25 = .ok (.lstore 5, 2) := by decide +kernel
theorem dX6_chance_27 : decode cX6_chance 27 = .ok (.iconst 0, 1) := by decide +kernel
theorem dX6_chance_28 : decode cX6_chance 28 = .ok (.istore 7, 2) := by decide +kernel
theorem dX6_chance_30 : decode cX6_chance 30 = .ok (.iload 7, 2) := by decide +kernel
theorem dX6_chance_32 : decode cX6_chance 32 = .ok (.aload_n 0, 1) := by decide +kernel
theorem dX6_chance_33 : decode cX6_chance 33 = .ok (.invokevirtual 103, 3) := by decide +kernel
theorem dX6_chance_36 : decode cX6_chance 36 = .ok (.if_icmp .gt 53, 3) := by decide +kernel
theorem dX6_chance_39 : decode cX6_chance 39 = .ok (.aload_n 0, 1) := by decide +kernel
theorem dX6_chance_40 : decode cX6_chance 40 = .ok (.iload 7, 2) := by decide +kernel
theorem dX6_chance_42 : decode cX6_chance 42 = .ok (.invokevirtual 171, 3) := by decide +kernel
theorem dX6_chance_45 : decode cX6_chance 45 = .ok (.ifCond .eq 38, 3) := by decide +kernel
theorem dX6_chance_48 : decode cX6_chance 48 = .ok (.lload 5, 2) := by decide +kernel
theorem dX6_chance_50 : decode cX6_chance 50 = .ok (.aload_n 0, 1) := by decide +kernel
theorem dX6_chance_51 : decode cX6_chance 51 = .ok (.iload 7, 2) := by decide +kernel
theorem dX6_chance_53 : decode cX6_chance 53 = .ok (.invokevirtual 156, 3) := by decide +kernel
theorem dX6_chance_56 : decode cX6_chance 56 = .ok (.i2l, 1) := by decide +kernel
theorem dX6_chance_57 : decode cX6_chance 57 = .ok (.ladd, 1) := by decide +kernel
theorem dX6_chance_58 : decode cX6_chance 58 = .ok (.lstore 5, 2) := by decide +kernel
theorem dX6_chance_60 : decode cX6_chance 60 = .ok (.lload_n 3, 1) := by decide +kernel
theorem dX6_chance_61 : decode cX6_chance 61 = .ok (.iload 7, 2) := by decide +kernel
theorem dX6_chance_63 : decode cX6_chance 63 = .ok (.iload_n 1, 1) := by decide +kernel
theorem dX6_chance_64 : decode cX6_chance 64 = .ok (.invokestatic 150, 3) := by decide +kernel
theorem dX6_chance_67 : decode cX6_chance 67 = .ok (.ifCond .eq 13, 3) := by decide +kernel
theorem dX6_chance_70 : decode cX6_chance 70 = .ok (.aload_n 0, 1) := by decide +kernel
theorem dX6_chance_71 : decode cX6_chance 71 = .ok (.iload 7, 2) := by decide +kernel
theorem dX6_chance_73 : decode cX6_chance 73 = .ok (.invokevirtual 156, 3) := by decide +kernel
theorem dX6_chance_76 : decode cX6_chance 76 = .ok (.i2l, 1) := by decide +kernel
theorem dX6_chance_77 : decode cX6_chance 77 = .ok (.goto 4, 3) := by decide +kernel
theorem dX6_chance_80 : decode cX6_chance 80 = .ok (.lconst 0, 1) := by decide +kernel
theorem dX6_chance_81 : decode cX6_chance 81 = .ok (.ladd, 1) := by decide +kernel
theorem dX6_chance_82 : decode cX6_chance 82 = .ok (.lstore_n 3, 1) := by decide +kernel
theorem dX6_chance_83 : decode cX6_chance 83 = .ok (.iinc 7 1, 3) := by decide +kernel
theorem dX6_chance_86 : decode cX6_chance 86 = .ok (.goto (-56), 3) := by decide +kernel
theorem dX6_chance_89 : decode cX6_chance 89 = .ok (.lload 5, 2) := by decide +kernel
theorem dX6_chance_91 : decode cX6_chance 91 = .ok (.lconst 0, 1) := by decide +kernel
theorem dX6_chance_92 : decode cX6_chance 92 = .ok (.lcmp, 1) := by decide +kernel
theorem dX6_chance_93 : decode cX6_chance 93 = .ok (.ifCond .ne 8, 3) := by decide +kernel
theorem dX6_chance_96 : decode cX6_chance 96 = .ok (.iload_n 2, 1) := by decide +kernel
theorem dX6_chance_97 : decode cX6_chance 97 = .ok (.i2l, 1) := by decide +kernel
theorem dX6_chance_98 : decode cX6_chance 98 = .ok (.goto 10, 3) := by decide +kernel
theorem dX6_chance_101 : decode cX6_chance 101 = .ok (.lload_n 3, 1) := by decide +kernel
theorem dX6_chance_102 : decode cX6_chance 102 = .ok (.lload 5, 2) := by decide +kernel
theorem dX6_chance_104 : decode cX6_chance 104 = .ok (.iload_n 2, 1) := by decide +kernel
theorem dX6_chance_105 : decode cX6_chance 105 = .ok (.invokestatic 174, 3) := by decide +kernel
theorem dX6_chance_108 : decode cX6_chance 108 = .ok (.lreturn, 1) := by decide +kernel
set_option maxRecDepth 20000 in
theorem ggX6_areAlike_X6_calledIn : GoodIn wsX6_areAlike wsX6_calledIn := goodIn_r _ [5, 6, 7, 8, 9, 10, 4, 11, 12, 13, 14, 15, 16, 17, 18, 19, 20, 21, 22, 23, 24, 25, 26, 27, 28, 29, 30, 31, 32, 33, 34, 35, 36, 37, 38, 39, 40, 41, 42, 43] (by decide +kernel) (by decide +kernel)
set_option maxRecDepth 20000 in
theorem gX6_areAlike_X6_calledIn : GoodIn wsX6_areAlike (wsV RX6 168 RX6 yX6_calledIn wsX6_calledIn) := goodIn_app (goodIn_of _ (by decide +kernel)) ggX6_areAlike_X6_calledIn
theorem dX6_areAlike_0 : decode cX6_areAlike 0 = .ok (.iconst 1, 1) := by decide +kernel
theorem dX6_areAlike_1 : decode cX6_areAlike 1 = .ok (.istore 4, 2) := by decide +kernel
theorem dX6_areAlike_3 : decode cX6_areAlike 3 = .ok (.iconst 0, 1) := by decide +kernel
theorem dX6_areAlike_4 : decode cX6_areAlike 4 = .ok (.istore 5, 2) := by decide +kernel
theorem dX6_areAlike_6 : decode cX6_areAlike 6 = .ok (.iload 5, 2) := by decide +kernel
theorem dX6_areAlike_8 : decode cX6_areAlike 8 = .ok (.iload_n 3, 1) := by decide +kernel
theorem dX6_areAlike_9 : decode cX6_areAlike 9 = .ok (.if_icmp .ge 38, 3) := by decide +kernel
theorem dX6_areAlike_12 : decode cX6_areAlike 12 = .ok (.iload 4, 2) := by decide +kernel
theorem dX6_areAlike_14 : decode cX6_areAlike 14 = .ok (.ifCond .eq 33, 3) := by decide +kernel
theorem dX6_areAlike_17 : decode cX6_areAlike 17 = .ok (.aload_n 0, 1) := by decide +kernel
theorem dX6_areAlike_18 : decode cX6_areAlike 18 = .ok (.iload_n 1, 1) := by decide +kernel
theorem dX6_areAlike_19 : decode cX6_areAlike 19 = .ok (.iload 5, 2) := by decide +kernel
theorem dX6_areAlike_21 : decode cX6_areAlike 21 = .ok (.invokevirtual 168, 3) := by decide +kernel
theorem dX6_areAlike_24 : decode cX6_areAlike 24 = .ok (.aload_n 0, 1) := by decide +kernel
theorem dX6_areAlike_25 : decode cX6_areAlike 25 = .ok (.iload_n 2, 1) := by decide +kernel
theorem dX6_areAlike_26 : decode cX6_areAlike 26 = .ok (.iload 5, 2) := by decide +kernel
theorem dX6_areAlike_28 : decode cX6_areAlike 28 = .ok (.invokevirtual 168, 3) := by decide +kernel
theorem dX6_areAlike_31 : decode cX6_areAlike 31 = .ok (.if_icmp .ne 7, 3) := by decide +kernel
theorem dX6_areAlike_34 : decode cX6_areAlike 34 = .ok (.iconst 1, 1) := by decide +kernel
theorem dX6_areAlike_35 : decode cX6_areAlike 35 = .ok (.goto 4, 3) := by decide +kernel
theorem dX6_areAlike_38 : decode cX6_areAlike 38 = .ok (.iconst 0, 1) := by decide +kernel
theorem dX6_areAlike_39 : decode cX6_areAlike 39 = .ok (.istore 4, 2) := by decide +kernel
theorem dX6_areAlike_41 : decode cX6_areAlike 41 = .ok (.iinc 5 1, 3) := by decide +kernel
theorem dX6_areAlike_44 : decode cX6_areAlike 44 = .ok (.goto (-38), 3) := by decide +kernel
theorem dX6_areAlike_47 : decode cX6_areAlike 47 = .ok (.iload 4, 2) := by decide +kernel
theorem dX6_areAlike_49 : decode cX6_areAlike 49 = .ok (.ireturn, 1) := by decide +kernel
set_option maxRecDepth 20000 in
theorem ggX6_partsBy_X6_all : GoodIn wsX6_partsBy wsX6_all := goodIn_r _ [5, 6, 39, 40, 41, 42, 43, 44, 45, 46, 47, 48, 49, 50, 51, 52, 53, 54, 55, 56, 57, 58, 59, 60, 61, 62, 63, 64, 65] (by decide +kernel) (by decide +kernel)
set_option maxRecDepth 20000 in
theorem gX6_partsBy_X6_all : GoodIn wsX6_partsBy (wsV RX6 103 RX6 yX6_all wsX6_all) := goodIn_app (goodIn_of _ (by decide +kernel)) ggX6_partsBy_X6_all
set_option maxRecDepth 20000 in
theorem ggX6_partsBy_X6_isCase : GoodIn wsX6_partsBy wsX6_isCase := goodIn_r _ [10, 6, 11, 12, 13, 14, 15, 16, 4, 17, 1, 2, 3, 5, 18, 19, 20, 21, 22, 23, 39, 40, 41, 42, 43, 44, 45, 46, 47, 48, 49, 50, 51, 52, 53, 54, 55, 56, 57, 58, 59, 60, 61, 62, 63, 64, 65] (by decide +kernel) (by decide +kernel)
set_option maxRecDepth 20000 in
theorem gX6_partsBy_X6_isCase : GoodIn wsX6_partsBy (wsV RX6 153 RX6 yX6_isCase wsX6_isCase) := goodIn_app (goodIn_of _ (by decide +kernel)) ggX6_partsBy_X6_isCase
set_option maxRecDepth 20000 in
theorem ggX6_partsBy_X6_areAlike : GoodIn wsX6_partsBy wsX6_areAlike := goodIn_r _ [27, 28, 29, 30, 4, 31, 32, 33, 34, 35, 36, 37, 6, 38, 21, 22, 23, 39, 40, 41, 42, 43, 44, 45, 46, 47, 48, 49, 50, 51, 52, 53, 54, 55, 56, 57, 58, 59, 60, 61, 62, 63, 64, 65] (by decide +kernel) (by decide +kernel)
set_option maxRecDepth 20000 in
theorem gX6_partsBy_X6_areAlike : GoodIn wsX6_partsBy (wsV RX6 178 RX6 yX6_areAlike wsX6_areAlike) := goodIn_app (goodIn_of _ (by decide +kernel)) ggX6_partsBy_X6_areAlike
theorem dX6_partsBy_0 : decode cX6_partsBy 0 = .ok (.iconst 0, 1) := by decide +kernel
theorem dX6_partsBy_1 : decode cX6_partsBy 1 = .ok (.istore_n 2, 1) := by decide +kernel
theorem dX6_partsBy_2 : decode cX6_partsBy 2 = .ok (.iconst 0, 1) := by decide +kernel
theorem dX6_partsBy_3 : decode cX6_partsBy 3 = .ok (.istore_n 3, 1) := by decide +kernel
theorem dX6_partsBy_4 : decode cX6_partsBy 4 = .ok (.iload_n 3, 1) := by decide +kernel
theorem dX6_partsBy_5 : decode cX6_partsBy 5 = .ok (.aload_n 0, 1) := by decide +kernel
theorem dX6_partsBy_6 : decode cX6_partsBy 6 = .ok (.invokevirtual 103, 3) := by decide +kernel
theorem dX6_partsBy_9 : decode cX6_partsBy 9 = .ok (.if_icmp .gt 76, 3) := by decide +kernel
theorem dX6_partsBy_12 : decode cX6_partsBy 12 = .ok (.aload_n 0, 1) := by decide +kernel
theorem dX6_partsBy_13 : decode cX6_partsBy 13 = .ok (.iload_n 3, 1) := by decide +kernel
theorem dX6_partsBy_14 : decode cX6_partsBy 14 = .ok (.invokevirtual 153, 3) := by decide +kernel
theorem dX6_partsBy_17 : decode cX6_partsBy 17 = .ok (.istore 4, 2) := by decide +kernel
theorem dX6_partsBy_19 : decode cX6_partsBy 19 = .ok (.iconst 0, 1) := by decide +kernel
theorem dX6_partsBy_20 : decode cX6_partsBy 20 = .ok (.istore 5, 2) := by decide +kernel
theorem dX6_partsBy_22 : decode cX6_partsBy 22 = .ok (.iload 5, 2) := by decide +kernel
theorem dX6_partsBy_24 : decode cX6_partsBy 24 = .ok (.iload_n 3, 1) := by decide +kernel
theorem dX6_partsBy_25 : decode cX6_partsBy 25 = .ok (.if_icmp .ge 41, 3) := by decide +kernel
theorem dX6_partsBy_28 : decode cX6_partsBy 28 = .ok (.iload 4, 2) := by decide +kernel
theorem dX6_partsBy_30 : decode cX6_partsBy 30 = .ok (.ifCond .eq 36, 3) := by decide +kernel
theorem dX6_partsBy_33 : decode cX6_partsBy 33 = .ok (.aload_n 0, 1) := by decide +kernel
theorem dX6_partsBy_34 : decode cX6_partsBy 34 = .ok (.iload 5, 2) := by decide +kernel
theorem dX6_partsBy_36 : decode cX6_partsBy 36 = .ok (.invokevirtual 153, 3) := by decide +kernel
theorem dX6_partsBy_39 : decode cX6_partsBy 39 = .ok (.ifCond .eq 14, 3) := by decide +kernel
theorem dX6_partsBy_42 : decode cX6_partsBy 42 = .ok (.aload_n 0, 1) := by decide +kernel
theorem dX6_partsBy_43 : decode cX6_partsBy 43 = .ok (.iload_n 3, 1) := by decide +kernel
theorem dX6_partsBy_44 : decode cX6_partsBy 44 = .ok (.iload 5, 2) := by decide +kernel
theorem dX6_partsBy_46 : decode cX6_partsBy 46 = .ok (.iload_n 1, 1) := by decide +kernel
theorem dX6_partsBy_47 : decode cX6_partsBy 47 = .ok (.invokevirtual 178, 3) := by decide +kernel
theorem dX6_partsBy_50 : decode cX6_partsBy 50 = .ok (.ifCond .ne 7, 3) := by decide +kernel
theorem dX6_partsBy_53 : decode cX6_partsBy 53 = .ok (.iconst 1, 1) := by decide +kernel
theorem dX6_partsBy_54 : decode cX6_partsBy 54 = .ok (.goto 4, 3) := by decide +kernel
theorem dX6_partsBy_57 : decode cX6_partsBy 57 = .ok (.iconst 0, 1) := by decide +kernel
theorem dX6_partsBy_58 : decode cX6_partsBy 58 = .ok (.istore 4, 2) := by decide +kernel
theorem dX6_partsBy_60 : decode cX6_partsBy 60 = .ok (.iinc 5 1, 3) := by decide +kernel
theorem dX6_partsBy_63 : decode cX6_partsBy 63 = .ok (.goto (-41), 3) := by decide +kernel
theorem dX6_partsBy_66 : decode cX6_partsBy 66 = .ok (.iload_n 2, 1) := by decide +kernel
theorem dX6_partsBy_67 : decode cX6_partsBy 67 = .ok (.iload 4, 2) := by decide +kernel
theorem dX6_partsBy_69 : decode cX6_partsBy 69 = .ok (.ifCond .eq 7, 3) := by decide +kernel
theorem dX6_partsBy_72 : decode cX6_partsBy 72 = .ok (.iconst 1, 1) := by decide +kernel
theorem dX6_partsBy_73 : decode cX6_partsBy 73 = .ok (.goto 4, 3) := by decide +kernel
theorem dX6_partsBy_76 : decode cX6_partsBy 76 = .ok (.iconst 0, 1) := by decide +kernel
theorem dX6_partsBy_77 : decode cX6_partsBy 77 = .ok (.iadd, 1) := by decide +kernel
theorem dX6_partsBy_78 : decode cX6_partsBy 78 = .ok (.istore_n 2, 1) := by decide +kernel
theorem dX6_partsBy_79 : decode cX6_partsBy 79 = .ok (.iinc 3 1, 3) := by decide +kernel
theorem dX6_partsBy_82 : decode cX6_partsBy 82 = .ok (.goto (-78), 3) := by decide +kernel
theorem dX6_partsBy_85 : decode cX6_partsBy 85 = .ok (.iload_n 2, 1) := by decide +kernel
theorem dX6_partsBy_86 : decode cX6_partsBy 86 = .ok (.ireturn, 1) := by decide +kernel
set_option maxRecDepth 20000 in
theorem ggX6_parts_X6_in : GoodIn wsX6_parts wsX6_in := goodIn_r _ [6] (by decide +kernel) (by decide +kernel)
set_option maxRecDepth 20000 in
theorem gX6_parts_X6_in : GoodIn wsX6_parts (va_wsS RX6 87 yX6_in wsX6_in) := goodIn_app (goodIn_of _ (by decide +kernel)) ggX6_parts_X6_in
set_option maxRecDepth 20000 in
theorem ggX6_parts_X6_partsBy : GoodIn wsX6_parts wsX6_partsBy := goodIn_r _ [10, 11, 12, 13, 5, 14, 2, 15, 16, 17, 18, 19, 20, 21, 22, 23, 24, 25, 3, 4, 6, 26, 27, 28, 29, 30, 31, 32, 33, 34, 35, 36, 37, 38, 39, 40, 41, 42, 43, 44, 45, 46, 47, 48, 49, 50, 51, 52, 53, 54, 55, 56, 57, 58, 59, 60, 61, 62, 63, 64, 65, 66, 67, 68, 69, 70] (by decide +kernel) (by decide +kernel)
set_option maxRecDepth 20000 in
theorem gX6_parts_X6_partsBy : GoodIn wsX6_parts (wsV RX6 184 RX6 yX6_partsBy wsX6_partsBy) := goodIn_app (goodIn_of _ (by decide +kernel)) ggX6_parts_X6_partsBy
theorem dX6_parts_0 : decode cX6_parts 0 = .ok (.iload_n 1, 1) := by decide +kernel
theorem dX6_parts_1 : decode cX6_parts 1 = .ok (.i2l, 1) := by decide +kernel
theorem dX6_parts_2 : decode cX6_parts 2 = .ok (.lconst 0, 1) := by decide +kernel
theorem dX6_parts_3 : decode cX6_parts 3 = .ok (.ldc2_w 182, 3) := by decide +kernel
theorem dX6_parts_6 : decode cX6_parts 6 = .ok (.invokestatic 87, 3) := by decide +kernel
theorem dX6_parts_9 : decode cX6_parts 9 = .ok (.ifCond .ne 6, 3) := by decide +kernel
theorem dX6_parts_12 : decode cX6_parts 12 = .ok (.bipush (-2), 2) := by decide +kernel
theorem dX6_parts_14 : decode cX6_parts 14 = .ok (.ireturn, 1) := by decide +kernel
theorem dX6_parts_15 : decode cX6_parts 15 = .ok (.aload_n 0, 1) := by decide +kernel
theorem dX6_parts_16 : decode cX6_parts 16 = .ok (.getfield 98, 3) := by decide +kernel
theorem dX6_parts_19 : decode cX6_parts 19 = .ok (.ifCond .ne 8, 3) := by decide +kernel
theorem dX6_parts_22 : decode cX6_parts 22 = .ok (.bipush (-3), 2) := by decide +kernel
theorem dX6_parts_24 : decode cX6_parts 24 = .ok (.goto 8, 3) := by decide +kernel
theorem dX6_parts_27 : decode cX6_parts 27 = .ok (.aload_n 0, 1) := by decide +kernel
theorem dX6_parts_28 : decode cX6_parts 28 = .ok (.iload_n 1, 1) := by decide +kernel
theorem dX6_parts_29 : decode cX6_parts 29 = .ok (.invokevirtual 184, 3) := by decide +kernel
theorem dX6_parts_32 : decode cX6_parts 32 = .ok (.ireturn, 1) := by decide +kernel
set_option maxRecDepth 20000 in
theorem ggX6_best_X6_noHour : GoodIn wsX6_best wsX6_noHour := goodIn_r _ [6, 7, 8, 9, 5, 10] (by decide +kernel) (by decide +kernel)
set_option maxRecDepth 20000 in
theorem gX6_best_X6_noHour : GoodIn wsX6_best (va_wsS RX6 159 yX6_noHour wsX6_noHour) := goodIn_app (goodIn_of _ (by decide +kernel)) ggX6_best_X6_noHour
set_option maxRecDepth 20000 in
theorem ggX6_best_X6_in : GoodIn wsX6_best wsX6_in := goodIn_r _ [10] (by decide +kernel) (by decide +kernel)
set_option maxRecDepth 20000 in
theorem gX6_best_X6_in : GoodIn wsX6_best (va_wsS RX6 87 yX6_in wsX6_in) := goodIn_app (goodIn_of _ (by decide +kernel)) ggX6_best_X6_in
set_option maxRecDepth 20000 in
theorem ggX6_best_X6_all : GoodIn wsX6_best wsX6_all := goodIn_r _ [14, 1, 47, 48, 49, 50, 51, 52, 53, 54, 55, 56, 57, 58, 59, 60, 61, 62, 63, 64, 65, 66, 67, 68, 69, 70, 71, 72, 73] (by decide +kernel) (by decide +kernel)
set_option maxRecDepth 20000 in
theorem gX6_best_X6_all : GoodIn wsX6_best (wsV RX6 103 RX6 yX6_all wsX6_all) := goodIn_app (goodIn_of _ (by decide +kernel)) ggX6_best_X6_all
set_option maxRecDepth 20000 in
theorem ggX6_best_X6_partsBy : GoodIn wsX6_best wsX6_partsBy := goodIn_r _ [18, 11, 12, 13, 5, 14, 1, 19, 20, 21, 22, 23, 24, 25, 26, 27, 28, 29, 8, 9, 10, 30, 31, 32, 33, 34, 35, 36, 37, 38, 39, 40, 2, 41, 42, 43, 44, 45, 46, 47, 48, 49, 50, 51, 52, 53, 54, 55, 56, 57, 58, 59, 60, 61, 62, 63, 64, 65, 66, 67, 68, 69, 70, 71, 72, 73] (by decide +kernel) (by decide +kernel)
set_option maxRecDepth 20000 in
theorem gX6_best_X6_partsBy : GoodIn wsX6_best (wsV RX6 184 RX6 yX6_partsBy wsX6_partsBy) := goodIn_app (goodIn_of _ (by decide +kernel)) ggX6_best_X6_partsBy
theorem dX6_best_0 : decode cX6_best 0 = .ok (.iload_n 1, 1) := by decide +kernel
theorem dX6_best_1 : decode cX6_best 1 = .ok (.invokestatic 159, 3) := by decide +kernel
theorem dX6_best_4 : decode cX6_best 4 = .ok (.ifCond .eq 5, 3) := by decide +kernel
theorem dX6_best_7 : decode cX6_best 7 = .ok (.iconst (-1), 1) := by decide +kernel
theorem dX6_best_8 : decode cX6_best 8 = .ok (.ireturn, 1) := by decide +kernel
theorem dX6_best_9 : decode cX6_best 9 = .ok (.iload_n 2, 1) := by decide +kernel
theorem dX6_best_10 : decode cX6_best 10 = .ok (.i2l, 1) := by decide +kernel
theorem dX6_best_11 : decode cX6_best 11 = .ok (.lconst 0, 1) := by decide +kernel
theorem dX6_best_12 : decode cX6_best 12 = .ok (.lconst 1, 1) := by decide +kernel
theorem dX6_best_13 : decode cX6_best 13 = .ok (.invokestatic 87, 3) := by decide +kernel
theorem dX6_best_16 : decode cX6_best 16 = .ok (.ifCond .ne 6, 3) := by decide +kernel
theorem dX6_best_19 : decode cX6_best 19 = .ok (.bipush (-2), 2) := by decide +kernel
theorem dX6_best_21 : decode cX6_best 21 = .ok (.ireturn, 1) := by decide +kernel
theorem dX6_best_22 : decode cX6_best 22 = .ok (.aload_n 0, 1) := by decide +kernel
theorem dX6_best_23 : decode cX6_best 23 = .ok (.getfield 98, 3) := by decide +kernel
theorem dX6_best_26 : decode cX6_best 26 = .ok (.ifCond .ne 6, 3) := by decide +kernel
theorem dX6_best_29 : decode cX6_best 29 = .ok (.bipush (-3), 2) := by decide +kernel
theorem dX6_best_31 : decode cX6_best 31 = .ok (.ireturn, 1) := by decide +kernel
theorem dX6_best_32 : decode cX6_best 32 = .ok (.aload_n 0, 1) := by decide +kernel
theorem dX6_best_33 : decode cX6_best 33 = .ok (.getfield 22, 3) := by decide +kernel
theorem dX6_best_36 : decode cX6_best 36 = .ok (.iload_n 1, 1) := by decide +kernel
theorem dX6_best_37 : decode cX6_best 37 = .ok (.iaload, 1) := by decide +kernel
theorem dX6_best_38 : decode cX6_best 38 = .ok (.istore_n 3, 1) := by decide +kernel
theorem dX6_best_39 : decode cX6_best 39 = .ok (.iconst 0, 1) := by decide +kernel
theorem dX6_best_40 : decode cX6_best 40 = .ok (.istore 4, 2) := by decide +kernel
theorem dX6_best_42 : decode cX6_best 42 = .ok (.iconst 0, 1) := by decide +kernel
theorem dX6_best_43 : decode cX6_best 43 = .ok (.istore 5, 2) := by decide +kernel
theorem dX6_best_45 : decode cX6_best 45 = .ok (.iconst 0, 1) := by decide +kernel
theorem dX6_best_46 : decode cX6_best 46 = .ok (.istore 6, 2) := by decide +kernel
theorem dX6_best_48 : decode cX6_best 48 = .ok (.iload 6, 2) := by decide +kernel
theorem dX6_best_50 : decode cX6_best 50 = .ok (.aload_n 0, 1) := by decide +kernel
theorem dX6_best_51 : decode cX6_best 51 = .ok (.invokevirtual 103, 3) := by decide +kernel
theorem dX6_best_54 : decode cX6_best 54 = .ok (.if_icmp .gt 58, 3) := by decide +kernel
theorem dX6_best_57 : decode cX6_best 57 = .ok (.aload_n 0, 1) := by decide +kernel
theorem dX6_best_58 : decode cX6_best 58 = .ok (.getfield 22, 3) := by decide +kernel
theorem dX6_best_61 : decode cX6_best 61 = .ok (.iload_n 1, 1) := by decide +kernel
theorem dX6_best_62 : decode cX6_best 62 = .ok (.iload 6, 2) := by decide +kernel
theorem dX6_best_64 : decode cX6_best 64 = .ok (.iastore, 1) := by decide +kernel
theorem dX6_best_65 : decode cX6_best 65 = .ok (.aload_n 0, 1) := by decide +kernel
theorem dX6_best_66 : decode cX6_best 66 = .ok (.iload_n 1, 1) := by decide +kernel
theorem dX6_best_67 : decode cX6_best 67 = .ok (.iconst 1, 1) := by decide +kernel
theorem dX6_best_68 : decode cX6_best 68 = .ok (.iadd, 1) := by decide +kernel
theorem dX6_best_69 : decode cX6_best 69 = .ok (.invokevirtual 184, 3) := by decide +kernel
theorem dX6_best_72 : decode cX6_best 72 = .ok (.istore 7, 2) := by decide +kernel
theorem dX6_best_74 : decode cX6_best 74 = .ok (.iload 7, 2) := by decide +kernel
theorem dX6_best_76 : decode cX6_best 76 = .ok (.iload 5, 2) := by decide +kernel
theorem dX6_best_78 : decode cX6_best 78 = .ok (.if_icmp .le 8, 3) := by decide +kernel
theorem dX6_best_81 : decode cX6_best 81 = .ok (.iload 6, 2) := by decide +kernel
theorem dX6_best_83 : decode cX6_best 83 = .ok (.goto 5, 3) := by decide +kernel
theorem dX6_best_86 : decode cX6_best 86 = .ok (.iload 4, 2) := by decide +kernel
theorem dX6_best_88 : decode cX6_best 88 = .ok (.istore 4, 2) := by decide +kernel
theorem dX6_best_90 : decode cX6_best 90 = .ok (.iload 7, 2) := by decide +kernel
theorem dX6_best_92 : decode cX6_best 92 = .ok (.iload 5, 2) := by decide +kernel
theorem dX6_best_94 : decode cX6_best 94 = .ok (.if_icmp .le 8, 3) := by decide +kernel
theorem dX6_best_97 : decode cX6_best 97 = .ok (.iload 7, 2) := by decide +kernel
theorem dX6_best_99 : decode cX6_best 99 = .ok (.goto 5, 3) := by decide +kernel
theorem dX6_best_102 : decode cX6_best 102 = .ok (.iload 5, 2) := by decide +kernel
theorem dX6_best_104 : decode cX6_best 104 = .ok (.istore 5, 2) := by decide +kernel
theorem dX6_best_106 : decode cX6_best 106 = .ok (.iinc 6 1, 3) := by decide +kernel
theorem dX6_best_109 : decode cX6_best 109 = .ok (.goto (-61), 3) := by decide +kernel
theorem dX6_best_112 : decode cX6_best 112 = .ok (.aload_n 0, 1) := by decide +kernel
theorem dX6_best_113 : decode cX6_best 113 = .ok (.getfield 22, 3) := by decide +kernel
theorem dX6_best_116 : decode cX6_best 116 = .ok (.iload_n 1, 1) := by decide +kernel
theorem dX6_best_117 : decode cX6_best 117 = .ok (.iload_n 3, 1) := by decide +kernel
theorem dX6_best_118 : decode cX6_best 118 = .ok (.iastore, 1) := by decide +kernel
theorem dX6_best_119 : decode cX6_best 119 = .ok (.iload_n 2, 1) := by decide +kernel
theorem dX6_best_120 : decode cX6_best 120 = .ok (.ifCond .ne 8, 3) := by decide +kernel
theorem dX6_best_123 : decode cX6_best 123 = .ok (.iload 4, 2) := by decide +kernel
theorem dX6_best_125 : decode cX6_best 125 = .ok (.goto 5, 3) := by decide +kernel
theorem dX6_best_128 : decode cX6_best 128 = .ok (.iload 5, 2) := by decide +kernel
theorem dX6_best_130 : decode cX6_best 130 = .ok (.ireturn, 1) := by decide +kernel
set_option maxRecDepth 20000 in
theorem ggX6_wordsOf_X6_isIn : GoodIn wsX6_wordsOf wsX6_isIn := goodIn_r _ [6] (by decide +kernel) (by decide +kernel)
