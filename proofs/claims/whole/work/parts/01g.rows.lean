theorem dX6_longest_0 : decode cX6_longest 0 = .ok (.aload_n 0, 1) := by decide +kernel
theorem dX6_longest_1 : decode cX6_longest 1 = .ok (.iconst 0, 1) := by decide +kernel
theorem dX6_longest_2 : decode cX6_longest 2 = .ok (.putfield 35, 3) := by decide +kernel
theorem dX6_longest_5 : decode cX6_longest 5 = .ok (.iload_n 1, 1) := by decide +kernel
theorem dX6_longest_6 : decode cX6_longest 6 = .ok (.iconst 1, 1) := by decide +kernel
theorem dX6_longest_7 : decode cX6_longest 7 = .ok (.bipush 9, 2) := by decide +kernel
theorem dX6_longest_9 : decode cX6_longest 9 = .ok (.invokestatic 38, 3) := by decide +kernel
theorem dX6_longest_12 : decode cX6_longest 12 = .ok (.ifCond .eq 13, 3) := by decide +kernel
theorem dX6_longest_15 : decode cX6_longest 15 = .ok (.iload_n 2, 1) := by decide +kernel
theorem dX6_longest_16 : decode cX6_longest 16 = .ok (.iconst 1, 1) := by decide +kernel
theorem dX6_longest_17 : decode cX6_longest 17 = .ok (.bipush 20, 2) := by decide +kernel
theorem dX6_longest_19 : decode cX6_longest 19 = .ok (.invokestatic 38, 3) := by decide +kernel
theorem dX6_longest_22 : decode cX6_longest 22 = .ok (.ifCond .ne 9, 3) := by decide +kernel
theorem dX6_longest_25 : decode cX6_longest 25 = .ok (.aload_n 0, 1) := by decide +kernel
theorem dX6_longest_26 : decode cX6_longest 26 = .ok (.iconst 1, 1) := by decide +kernel
theorem dX6_longest_27 : decode cX6_longest 27 = .ok (.invokevirtual 43, 3) := by decide +kernel
theorem dX6_longest_30 : decode cX6_longest 30 = .ok (.ireturn, 1) := by decide +kernel
theorem dX6_longest_31 : decode cX6_longest 31 = .ok (.iconst 0, 1) := by decide +kernel
theorem dX6_longest_32 : decode cX6_longest 32 = .ok (.istore_n 3, 1) := by decide +kernel
theorem dX6_longest_33 : decode cX6_longest 33 = .ok (.iconst 0, 1) := by decide +kernel
theorem dX6_longest_34 : decode cX6_longest 34 = .ok (.istore 4, 2) := by decide +kernel
theorem dX6_longest_36 : decode cX6_longest 36 = .ok (.iconst 1, 1) := by decide +kernel
theorem dX6_longest_37 : decode cX6_longest 37 = .ok (.istore 5, 2) := by decide +kernel
theorem dX6_longest_39 : decode cX6_longest 39 = .ok (.iload 5, 2) := by decide +kernel
theorem dX6_longest_41 : decode cX6_longest 41 = .ok (.bipush 6, 2) := by decide +kernel
theorem dX6_longest_43 : decode cX6_longest 43 = .ok (.if_icmp .gt 31, 3) := by decide +kernel
theorem dX6_longest_46 : decode cX6_longest 46 = .ok (.bipush 10, 2) := by decide +kernel
theorem dX6_longest_48 : decode cX6_longest 48 = .ok (.iload 4, 2) := by decide +kernel
theorem dX6_longest_50 : decode cX6_longest 50 = .ok (.imul, 1) := by decide +kernel
theorem dX6_longest_51 : decode cX6_longest 51 = .ok (.iload_n 1, 1) := by decide +kernel
theorem dX6_longest_52 : decode cX6_longest 52 = .ok (.iadd, 1) := by decide +kernel
theorem dX6_longest_53 : decode cX6_longest 53 = .ok (.istore 4, 2) := by decide +kernel
theorem dX6_longest_55 : decode cX6_longest 55 = .ok (.aload_n 0, 1) := by decide +kernel
theorem dX6_longest_56 : decode cX6_longest 56 = .ok (.iload 4, 2) := by decide +kernel
theorem dX6_longest_58 : decode cX6_longest 58 = .ok (.iload_n 2, 1) := by decide +kernel
theorem dX6_longest_59 : decode cX6_longest 59 = .ok (.invokevirtual 111, 3) := by decide +kernel
theorem dX6_longest_62 : decode cX6_longest 62 = .ok (.ifCond .eq 6, 3) := by decide +kernel
theorem dX6_longest_65 : decode cX6_longest 65 = .ok (.iload 5, 2) := by decide +kernel
theorem dX6_longest_67 : decode cX6_longest 67 = .ok (.istore_n 3, 1) := by decide +kernel
theorem dX6_longest_68 : decode cX6_longest 68 = .ok (.iinc 5 1, 3) := by decide +kernel
theorem dX6_longest_71 : decode cX6_longest 71 = .ok (.goto (-32), 3) := by decide +kernel
theorem dX6_longest_74 : decode cX6_longest 74 = .ok (.iload_n 3, 1) := by decide +kernel
theorem dX6_longest_75 : decode cX6_longest 75 = .ok (.ireturn, 1) := by decide +kernel
set_option maxRecDepth 20000 in
theorem ggX6_quickest_X6_isWord : GoodIn wsX6_quickest wsX6_isWord := goodIn_r _ [5, 6, 7, 8, 4, 9] (by decide +kernel) (by decide +kernel)
set_option maxRecDepth 20000 in
theorem gX6_quickest_X6_isWord : GoodIn wsX6_quickest (va_wsS RX6 77 yX6_isWord wsX6_isWord) := goodIn_app (goodIn_of _ (by decide +kernel)) ggX6_quickest_X6_isWord
set_option maxRecDepth 20000 in
theorem ggX6_quickest_X6_no : GoodIn wsX6_quickest wsX6_no := goodIn_r _ [13, 1, 85, 86, 87, 88, 89, 90, 91, 92, 93, 94] (by decide +kernel) (by decide +kernel)
set_option maxRecDepth 20000 in
theorem gX6_quickest_X6_no : GoodIn wsX6_quickest (wsV RX6 43 RX6 yX6_no wsX6_no) := goodIn_app (goodIn_of _ (by decide +kernel)) ggX6_quickest_X6_no
set_option maxRecDepth 20000 in
theorem ggX6_quickest_X6_comes : GoodIn wsX6_quickest wsX6_comes := goodIn_r _ [17, 18, 19, 20, 21, 22, 23, 24, 25, 26, 27, 28, 29, 30, 31, 32, 33, 34, 35, 36, 37, 38, 39, 40, 41, 42, 43, 44, 45, 46, 47, 48, 49, 50, 51, 52, 53, 54, 55, 56, 57, 58, 59, 60, 61, 62, 63, 64, 65, 66, 67, 68, 69, 4, 70, 71, 72, 73, 74, 75, 76, 77, 78, 79, 80, 81, 82, 83, 84, 85, 86, 87, 88, 89, 90, 91, 92, 93, 94, 95, 96, 97, 98, 99, 100, 101, 102, 103, 104, 105, 106, 107, 108, 109, 110, 111, 112, 113, 114, 115] (by decide +kernel) (by decide +kernel)
set_option maxRecDepth 20000 in
theorem gX6_quickest_X6_comes : GoodIn wsX6_quickest (wsV RX6 111 RX6 yX6_comes wsX6_comes) := goodIn_app (goodIn_of _ (by decide +kernel)) ggX6_quickest_X6_comes
theorem dX6_quickest_0 : decode cX6_quickest 0 = .ok (.aload_n 0, 1) := by decide +kernel
theorem dX6_quickest_1 : decode cX6_quickest 1 = .ok (.iconst 0, 1) := by decide +kernel
theorem dX6_quickest_2 : decode cX6_quickest 2 = .ok (.putfield 35, 3) := by decide +kernel
theorem dX6_quickest_5 : decode cX6_quickest 5 = .ok (.iload_n 1, 1) := by decide +kernel
theorem dX6_quickest_6 : decode cX6_quickest 6 = .ok (.invokestatic 77, 3) := by decide +kernel
theorem dX6_quickest_9 : decode cX6_quickest 9 = .ok (.ifCond .ne 9, 3) := by decide +kernel
theorem dX6_quickest_12 : decode cX6_quickest 12 = .ok (.aload_n 0, 1) := by decide +kernel
theorem dX6_quickest_13 : decode cX6_quickest 13 = .ok (.iconst 1, 1) := by decide +kernel
theorem dX6_quickest_14 : decode cX6_quickest 14 = .ok (.invokevirtual 43, 3) := by decide +kernel
theorem dX6_quickest_17 : decode cX6_quickest 17 = .ok (.ireturn, 1) := by decide +kernel
theorem dX6_quickest_18 : decode cX6_quickest 18 = .ok (.iconst 1, 1) := by decide +kernel
theorem dX6_quickest_19 : decode cX6_quickest 19 = .ok (.istore_n 2, 1) := by decide +kernel
theorem dX6_quickest_20 : decode cX6_quickest 20 = .ok (.iload_n 2, 1) := by decide +kernel
theorem dX6_quickest_21 : decode cX6_quickest 21 = .ok (.bipush 20, 2) := by decide +kernel
theorem dX6_quickest_23 : decode cX6_quickest 23 = .ok (.if_icmp .gt 20, 3) := by decide +kernel
theorem dX6_quickest_26 : decode cX6_quickest 26 = .ok (.aload_n 0, 1) := by decide +kernel
theorem dX6_quickest_27 : decode cX6_quickest 27 = .ok (.iload_n 1, 1) := by decide +kernel
theorem dX6_quickest_28 : decode cX6_quickest 28 = .ok (.iload_n 2, 1) := by decide +kernel
theorem dX6_quickest_29 : decode cX6_quickest 29 = .ok (.invokevirtual 111, 3) := by decide +kernel
theorem dX6_quickest_32 : decode cX6_quickest 32 = .ok (.ifCond .eq 5, 3) := by decide +kernel
theorem dX6_quickest_35 : decode cX6_quickest 35 = .ok (.iload_n 2, 1) := by decide +kernel
theorem dX6_quickest_36 : decode cX6_quickest 36 = .ok (.ireturn, 1) := by decide +kernel
theorem dX6_quickest_37 : decode cX6_quickest 37 = .ok (.iinc 2 1, 3) := by decide +kernel
theorem dX6_quickest_40 : decode cX6_quickest 40 = .ok (.goto (-20), 3) := by decide +kernel
theorem dX6_quickest_43 : decode cX6_quickest 43 = .ok (.iconst (-1), 1) := by decide +kernel
theorem dX6_quickest_44 : decode cX6_quickest 44 = .ok (.ireturn, 1) := by decide +kernel
set_option maxRecDepth 20000 in
theorem ggX6_shortest_X6_isOpen : GoodIn wsX6_shortest wsX6_isOpen := goodIn_r _ [13, 14, 4, 15, 16, 17, 18, 19, 20, 21, 22, 23, 24] (by decide +kernel) (by decide +kernel)
set_option maxRecDepth 20000 in
theorem gX6_shortest_X6_isOpen : GoodIn wsX6_shortest (wsV RX6 67 RX6 yX6_isOpen wsX6_isOpen) := goodIn_app (goodIn_of _ (by decide +kernel)) ggX6_shortest_X6_isOpen
theorem dX6_shortest_0 : decode cX6_shortest 0 = .ok (.bipush 120, 2) := by decide +kernel
theorem dX6_shortest_2 : decode cX6_shortest 2 = .ok (.istore 4, 2) := by decide +kernel
theorem dX6_shortest_4 : decode cX6_shortest 4 = .ok (.bipush 12, 2) := by decide +kernel
theorem dX6_shortest_6 : decode cX6_shortest 6 = .ok (.newarray .int, 2) := by decide +kernel
theorem dX6_shortest_8 : decode cX6_shortest 8 = .ok (.astore 5, 2) := by decide +kernel
theorem dX6_shortest_10 : decode cX6_shortest 10 = .ok (.iconst 0, 1) := by decide +kernel
theorem dX6_shortest_11 : decode cX6_shortest 11 = .ok (.istore 6, 2) := by decide +kernel
theorem dX6_shortest_13 : decode cX6_shortest 13 = .ok (.iload 6, 2) := by decide +kernel
theorem dX6_shortest_15 : decode cX6_shortest 15 = .ok (.bipush 12, 2) := by decide +kernel
theorem dX6_shortest_17 : decode cX6_shortest 17 = .ok (.if_icmp .ge 26, 3) := by decide +kernel
theorem dX6_shortest_20 : decode cX6_shortest 20 = .ok (.aload 5, 2) := by decide +kernel
theorem dX6_shortest_22 : decode cX6_shortest 22 = .ok (.iload 6, 2) := by decide +kernel
theorem dX6_shortest_24 : decode cX6_shortest 24 = .ok (.iload 6, 2) := by decide +kernel
theorem dX6_shortest_26 : decode cX6_shortest 26 = .ok (.iload_n 1, 1) := by decide +kernel
theorem dX6_shortest_27 : decode cX6_shortest 27 = .ok (.if_icmp .ne 7, 3) := by decide +kernel
theorem dX6_shortest_30 : decode cX6_shortest 30 = .ok (.iconst 0, 1) := by decide +kernel
theorem dX6_shortest_31 : decode cX6_shortest 31 = .ok (.goto 5, 3) := by decide +kernel
theorem dX6_shortest_34 : decode cX6_shortest 34 = .ok (.iload 4, 2) := by decide +kernel
theorem dX6_shortest_36 : decode cX6_shortest 36 = .ok (.iastore, 1) := by decide +kernel
theorem dX6_shortest_37 : decode cX6_shortest 37 = .ok (.iinc 6 1, 3) := by decide +kernel
theorem dX6_shortest_40 : decode cX6_shortest 40 = .ok (.goto (-27), 3) := by decide +kernel
theorem dX6_shortest_43 : decode cX6_shortest 43 = .ok (.iconst 1, 1) := by decide +kernel
theorem dX6_shortest_44 : decode cX6_shortest 44 = .ok (.istore 6, 2) := by decide +kernel
theorem dX6_shortest_46 : decode cX6_shortest 46 = .ok (.iload 6, 2) := by decide +kernel
theorem dX6_shortest_48 : decode cX6_shortest 48 = .ok (.aload_n 0, 1) := by decide +kernel
theorem dX6_shortest_49 : decode cX6_shortest 49 = .ok (.getfield 9, 3) := by decide +kernel
theorem dX6_shortest_52 : decode cX6_shortest 52 = .ok (.if_icmp .ge 124, 3) := by decide +kernel
theorem dX6_shortest_55 : decode cX6_shortest 55 = .ok (.iconst 0, 1) := by decide +kernel
theorem dX6_shortest_56 : decode cX6_shortest 56 = .ok (.istore 7, 2) := by decide +kernel
theorem dX6_shortest_58 : decode cX6_shortest 58 = .ok (.iload 7, 2) := by decide +kernel
theorem dX6_shortest_60 : decode cX6_shortest 60 = .ok (.aload_n 0, 1) := by decide +kernel
theorem dX6_shortest_61 : decode cX6_shortest 61 = .ok (.getfield 57, 3) := by decide +kernel
theorem dX6_shortest_64 : decode cX6_shortest 64 = .ok (.if_icmp .ge 106, 3) := by decide +kernel
theorem dX6_shortest_67 : decode cX6_shortest 67 = .ok (.aload_n 0, 1) := by decide +kernel
theorem dX6_shortest_68 : decode cX6_shortest 68 = .ok (.iload 7, 2) := by decide +kernel
theorem dX6_shortest_70 : decode cX6_shortest 70 = .ok (.iload_n 3, 1) := by decide +kernel
theorem dX6_shortest_71 : decode cX6_shortest 71 = .ok (.invokevirtual 67, 3) := by decide +kernel
theorem dX6_shortest_74 : decode cX6_shortest 74 = .ok (.ifCond .ne 6, 3) := by decide +kernel
theorem dX6_shortest_77 : decode cX6_shortest 77 = .ok (.goto 87, 3) := by decide +kernel
theorem dX6_shortest_80 : decode cX6_shortest 80 = .ok (.aload_n 0, 1) := by decide +kernel
theorem dX6_shortest_81 : decode cX6_shortest 81 = .ok (.getfield 20, 3) := by decide +kernel
theorem dX6_shortest_84 : decode cX6_shortest 84 = .ok (.iconst 4, 1) := by decide +kernel
theorem dX6_shortest_85 : decode cX6_shortest 85 = .ok (.iload 7, 2) := by decide +kernel
theorem dX6_shortest_87 : decode cX6_shortest 87 = .ok (.imul, 1) := by decide +kernel
theorem dX6_shortest_88 : decode cX6_shortest 88 = .ok (.iaload, 1) := by decide +kernel
theorem dX6_shortest_89 : decode cX6_shortest 89 = .ok (.istore 8, 2) := by decide +kernel
theorem dX6_shortest_91 : decode cX6_shortest 91 = .ok (.aload_n 0, 1) := by decide +kernel
theorem dX6_shortest_92 : decode cX6_shortest 92 = .ok (.getfield 20, 3) := by decide +kernel
theorem dX6_shortest_95 : decode cX6_shortest 95 = .ok (.iconst 4, 1) := by decide +kernel
theorem dX6_shortest_96 : decode cX6_shortest 96 = .ok (.iload 7, 2) := by decide +kernel
theorem dX6_shortest_98 : decode cX6_shortest 98 = .ok (.imul, 1) := by decide +kernel
theorem dX6_shortest_99 : decode cX6_shortest 99 = .ok (.iconst 1, 1) := by decide +kernel
theorem dX6_shortest_100 : decode cX6_shortest 100 = .ok (.iadd, 1) := by decide +kernel
theorem dX6_shortest_101 : decode cX6_shortest 101 = .ok (.iaload, 1) := by decide +kernel
theorem dX6_shortest_102 : decode cX6_shortest 102 = .ok (.istore 9, 2) := by decide +kernel
theorem dX6_shortest_104 : decode cX6_shortest 104 = .ok (.aload 5, 2) := by decide +kernel
theorem dX6_shortest_106 : decode cX6_shortest 106 = .ok (.iload 8, 2) := by decide +kernel
theorem dX6_shortest_108 : decode cX6_shortest 108 = .ok (.aload 5, 2) := by decide +kernel
theorem dX6_shortest_110 : decode cX6_shortest 110 = .ok (.iload 8, 2) := by decide +kernel
theorem dX6_shortest_112 : decode cX6_shortest 112 = .ok (.iaload, 1) := by decide +kernel
theorem dX6_shortest_113 : decode cX6_shortest 113 = .ok (.aload 5, 2) := by decide +kernel
theorem dX6_shortest_115 : decode cX6_shortest 115 = .ok (.iload 9, 2) := by decide +kernel
theorem dX6_shortest_117 : decode cX6_shortest 117 = .ok (.iaload, 1) := by decide +kernel
theorem dX6_shortest_118 : decode cX6_shortest 118 = .ok (.aload_n 0, 1) := by decide +kernel
theorem dX6_shortest_119 : decode cX6_shortest 119 = .ok (.getfield 20, 3) := by decide +kernel
theorem dX6_shortest_122 : decode cX6_shortest 122 = .ok (.iconst 4, 1) := by decide +kernel
theorem dX6_shortest_123 : decode cX6_shortest 123 = .ok (.iload 7, 2) := by decide +kernel
theorem dX6_shortest_125 : decode cX6_shortest 125 = .ok (.imul, 1) := by decide +kernel
theorem dX6_shortest_126 : decode cX6_shortest 126 = .ok (.iconst 2, 1) := by decide +kernel
theorem dX6_shortest_127 : decode cX6_shortest 127 = .ok (.iadd, 1) := by decide +kernel
theorem dX6_shortest_128 : decode cX6_shortest 128 = .ok (.iaload, 1) := by decide +kernel
theorem dX6_shortest_129 : decode cX6_shortest 129 = .ok (.iadd, 1) := by decide +kernel
theorem dX6_shortest_130 : decode cX6_shortest 130 = .ok (.invokestatic 124, 3) := by decide +kernel
theorem dX6_shortest_133 : decode cX6_shortest 133 = .ok (.iastore, 1) := by decide +kernel
theorem dX6_shortest_134 : decode cX6_shortest 134 = .ok (.aload 5, 2) := by decide +kernel
theorem dX6_shortest_136 : decode cX6_shortest 136 = .ok (.iload 9, 2) := by decide +kernel
theorem dX6_shortest_138 : decode cX6_shortest 138 = .ok (.aload 5, 2) := by decide +kernel
theorem dX6_shortest_140 : decode cX6_shortest 140 = .ok (.iload 9, 2) := by decide +kernel
theorem dX6_shortest_142 : decode cX6_shortest 142 = .ok (.iaload, 1) := by decide +kernel
theorem dX6_shortest_143 : decode cX6_shortest 143 = .ok (.aload 5, 2) := by decide +kernel
theorem dX6_shortest_145 : decode cX6_shortest 145 = .ok (.iload 8, 2) := by decide +kernel
theorem dX6_shortest_147 : decode cX6_shortest 147 = .ok (.iaload, 1) := by decide +kernel
theorem dX6_shortest_148 : decode cX6_shortest 148 = .ok (.aload_n 0, 1) := by decide +kernel
theorem dX6_shortest_149 : decode cX6_shortest 149 = .ok (.getfield 20, 3) := by decide +kernel
theorem dX6_shortest_152 : decode cX6_shortest 152 = .ok (.iconst 4, 1) := by decide +kernel
theorem dX6_shortest_153 : decode cX6_shortest 153 = .ok (.iload 7, 2) := by decide +kernel
theorem dX6_shortest_155 : decode cX6_shortest 155 = .ok (.imul, 1) := by decide +kernel
theorem dX6_shortest_156 : decode cX6_shortest 156 = .ok (.iconst 2, 1) := by decide +kernel
theorem dX6_shortest_157 : decode cX6_shortest 157 = .ok (.iadd, 1) := by decide +kernel
theorem dX6_shortest_158 : decode cX6_shortest 158 = .ok (.iaload, 1) := by decide +kernel
theorem dX6_shortest_159 : decode cX6_shortest 159 = .ok (.iadd, 1) := by decide +kernel
theorem dX6_shortest_160 : decode cX6_shortest 160 = .ok (.invokestatic 124, 3) := by decide +kernel
theorem dX6_shortest_163 : decode cX6_shortest 163 = .ok (.iastore, 1) := by decide +kernel
theorem dX6_shortest_164 : decode cX6_shortest 164 = .ok (.iinc 7 1, 3) := by decide +kernel
theorem dX6_shortest_167 : decode cX6_shortest 167 = .ok (.goto (-109), 3) := by decide +kernel
theorem dX6_shortest_170 : decode cX6_shortest 170 = .ok (.iinc 6 1, 3) := by decide +kernel
theorem dX6_shortest_173 : decode cX6_shortest 173 = .ok (.goto (-127), 3) := by decide +kernel
theorem dX6_shortest_176 : decode cX6_shortest 176 = .ok (.aload 5, 2) := by decide +kernel
theorem dX6_shortest_178 : decode cX6_shortest 178 = .ok (.iload_n 2, 1) := by decide +kernel
theorem dX6_shortest_179 : decode cX6_shortest 179 = .ok (.iaload, 1) := by decide +kernel
theorem dX6_shortest_180 : decode cX6_shortest 180 = .ok (.iload 4, 2) := by decide +kernel
theorem dX6_shortest_182 : decode cX6_shortest 182 = .ok (.if_icmp .ge 10, 3) := by decide +kernel
theorem dX6_shortest_185 : decode cX6_shortest 185 = .ok (.aload 5, 2) := by decide +kernel
theorem dX6_shortest_187 : decode cX6_shortest 187 = .ok (.iload_n 2, 1) := by decide +kernel
theorem dX6_shortest_188 : decode cX6_shortest 188 = .ok (.iaload, 1) := by decide +kernel
theorem dX6_shortest_189 : decode cX6_shortest 189 = .ok (.goto 4, 3) := by decide +kernel
theorem dX6_shortest_192 : decode cX6_shortest 192 = .ok (.iconst (-1), 1) := by decide +kernel
theorem dX6_shortest_193 : decode cX6_shortest 193 = .ok (.ireturn, 1) := by decide +kernel
set_option maxRecDepth 20000 in
theorem ggX6_way_X6_isChamber : GoodIn wsX6_way wsX6_isChamber := goodIn_r _ [7, 8, 9, 10, 6, 11, 32, 33, 34, 35, 36, 37, 38, 39, 40, 41] (by decide +kernel) (by decide +kernel)
set_option maxRecDepth 20000 in
theorem gX6_way_X6_isChamber : GoodIn wsX6_way (wsV RX6 53 RX6 yX6_isChamber wsX6_isChamber) := goodIn_app (goodIn_of _ (by decide +kernel)) ggX6_way_X6_isChamber
set_option maxRecDepth 20000 in
theorem ggX6_way_X6_shortest : GoodIn wsX6_way wsX6_shortest := goodIn_r _ [15, 16, 8, 17, 18, 19, 20, 21, 22, 23, 24, 25, 6, 26, 27, 32, 33, 34, 35, 36, 37, 38, 39, 40, 41] (by decide +kernel) (by decide +kernel)
set_option maxRecDepth 20000 in
theorem gX6_way_X6_shortest : GoodIn wsX6_way (wsV RX6 129 RX6 yX6_shortest wsX6_shortest) := goodIn_app (goodIn_of _ (by decide +kernel)) ggX6_way_X6_shortest
set_option maxRecDepth 20000 in
theorem ggX6_way_X6_no : GoodIn wsX6_way wsX6_no := goodIn_r _ [31, 1, 32, 33, 34, 35, 36, 37, 38, 39, 40, 41] (by decide +kernel) (by decide +kernel)
set_option maxRecDepth 20000 in
theorem gX6_way_X6_no : GoodIn wsX6_way (wsV RX6 43 RX6 yX6_no wsX6_no) := goodIn_app (goodIn_of _ (by decide +kernel)) ggX6_way_X6_no
theorem dX6_way_0 : decode cX6_way 0 = .ok (.aload_n 0, 1) := by decide +kernel
theorem dX6_way_1 : decode cX6_way 1 = .ok (.iconst 0, 1) := by decide +kernel
theorem dX6_way_2 : decode cX6_way 2 = .ok (.putfield 35, 3) := by decide +kernel
theorem dX6_way_5 : decode cX6_way 5 = .ok (.aload_n 0, 1) := by decide +kernel
theorem dX6_way_6 : decode cX6_way 6 = .ok (.iload_n 1, 1) := by decide +kernel
theorem dX6_way_7 : decode cX6_way 7 = .ok (.invokevirtual 53, 3) := by decide +kernel
theorem dX6_way_10 : decode cX6_way 10 = .ok (.ifCond .eq 24, 3) := by decide +kernel
theorem dX6_way_13 : decode cX6_way 13 = .ok (.aload_n 0, 1) := by decide +kernel
theorem dX6_way_14 : decode cX6_way 14 = .ok (.iload_n 2, 1) := by decide +kernel
theorem dX6_way_15 : decode cX6_way 15 = .ok (.invokevirtual 53, 3) := by decide +kernel
theorem dX6_way_18 : decode cX6_way 18 = .ok (.ifCond .eq 16, 3) := by decide +kernel
theorem dX6_way_21 : decode cX6_way 21 = .ok (.aload_n 0, 1) := by decide +kernel
theorem dX6_way_22 : decode cX6_way 22 = .ok (.iload_n 1, 1) := by decide +kernel
theorem dX6_way_23 : decode cX6_way 23 = .ok (.iload_n 2, 1) := by decide +kernel
theorem dX6_way_24 : decode cX6_way 24 = .ok (.aload_n 0, 1) := by decide +kernel
theorem dX6_way_25 : decode cX6_way 25 = .ok (.getfield 60, 3) := by decide +kernel
theorem dX6_way_28 : decode cX6_way 28 = .ok (.invokevirtual 129, 3) := by decide +kernel
theorem dX6_way_31 : decode cX6_way 31 = .ok (.goto 8, 3) := by decide +kernel
theorem dX6_way_34 : decode cX6_way 34 = .ok (.aload_n 0, 1) := by decide +kernel
theorem dX6_way_35 : decode cX6_way 35 = .ok (.iconst 1, 1) := by decide +kernel
theorem dX6_way_36 : decode cX6_way 36 = .ok (.invokevirtual 43, 3) := by decide +kernel
theorem dX6_way_39 : decode cX6_way 39 = .ok (.ireturn, 1) := by decide +kernel
set_option maxRecDepth 20000 in
theorem ggX6_highest_X6_isChamber : GoodIn wsX6_highest wsX6_isChamber := goodIn_r _ [6, 7, 8, 9, 5, 10, 31, 32, 33, 34, 35, 36, 37, 38, 39, 40] (by decide +kernel) (by decide +kernel)
set_option maxRecDepth 20000 in
theorem gX6_highest_X6_isChamber : GoodIn wsX6_highest (wsV RX6 53 RX6 yX6_isChamber wsX6_isChamber) := goodIn_app (goodIn_of _ (by decide +kernel)) ggX6_highest_X6_isChamber
set_option maxRecDepth 20000 in
theorem ggX6_highest_X6_no : GoodIn wsX6_highest wsX6_no := goodIn_r _ [14, 1, 31, 32, 33, 34, 35, 36, 37, 38, 39, 40] (by decide +kernel) (by decide +kernel)
set_option maxRecDepth 20000 in
theorem gX6_highest_X6_no : GoodIn wsX6_highest (wsV RX6 43 RX6 yX6_no wsX6_no) := goodIn_app (goodIn_of _ (by decide +kernel)) ggX6_highest_X6_no
set_option maxRecDepth 20000 in
theorem ggX6_highest_X6_shortest : GoodIn wsX6_highest wsX6_shortest := goodIn_r _ [18, 19, 7, 20, 21, 22, 23, 24, 25, 26, 27, 28, 5, 29, 30, 31, 32, 33, 34, 35, 36, 37, 38, 39, 40] (by decide +kernel) (by decide +kernel)
set_option maxRecDepth 20000 in
theorem gX6_highest_X6_shortest : GoodIn wsX6_highest (wsV RX6 129 RX6 yX6_shortest wsX6_shortest) := goodIn_app (goodIn_of _ (by decide +kernel)) ggX6_highest_X6_shortest
theorem dX6_highest_0 : decode cX6_highest 0 = .ok (.aload_n 0, 1) := by decide +kernel
theorem dX6_highest_1 : decode cX6_highest 1 = .ok (.iconst 0, 1) := by decide +kernel
theorem dX6_highest_2 : decode cX6_highest 2 = .ok (.putfield 35, 3) := by decide +kernel
theorem dX6_highest_5 : decode cX6_highest 5 = .ok (.aload_n 0, 1) := by decide +kernel
theorem dX6_highest_6 : decode cX6_highest 6 = .ok (.iload_n 1, 1) := by decide +kernel
theorem dX6_highest_7 : decode cX6_highest 7 = .ok (.invokevirtual 53, 3) := by decide +kernel
theorem dX6_highest_10 : decode cX6_highest 10 = .ok (.ifCond .ne 9, 3) := by decide +kernel
theorem dX6_highest_13 : decode cX6_highest 13 = .ok (.aload_n 0, 1) := by decide +kernel
theorem dX6_highest_14 : decode cX6_highest 14 = .ok (.iconst 1, 1) := by decide +kernel
theorem dX6_highest_15 : decode cX6_highest 15 = .ok (.invokevirtual 43, 3) := by decide +kernel
theorem dX6_highest_18 : decode cX6_highest 18 = .ok (.ireturn, 1) := by decide +kernel
theorem dX6_highest_19 : decode cX6_highest 19 = .ok (.bipush 30, 2) := by decide +kernel
theorem dX6_highest_21 : decode cX6_highest 21 = .ok (.istore_n 2, 1) := by decide +kernel
theorem dX6_highest_22 : decode cX6_highest 22 = .ok (.iload_n 2, 1) := by decide +kernel
theorem dX6_highest_23 : decode cX6_highest 23 = .ok (.ifCond .lt 20, 3) := by decide +kernel
theorem dX6_highest_26 : decode cX6_highest 26 = .ok (.aload_n 0, 1) := by decide +kernel
theorem dX6_highest_27 : decode cX6_highest 27 = .ok (.iconst 0, 1) := by decide +kernel
theorem dX6_highest_28 : decode cX6_highest 28 = .ok (.iload_n 1, 1) := by decide +kernel
theorem dX6_highest_29 : decode cX6_highest 29 = .ok (.iload_n 2, 1) := by decide +kernel
theorem dX6_highest_30 : decode cX6_highest 30 = .ok (.invokevirtual 129, 3) := by decide +kernel
theorem dX6_highest_33 : decode cX6_highest 33 = .ok (.iconst (-1), 1) := by decide +kernel
theorem dX6_highest_34 : decode cX6_highest 34 = .ok (.if_icmp .ne 9, 3) := by decide +kernel
theorem dX6_highest_37 : decode cX6_highest 37 = .ok (.iinc 2 (-1), 3) := by decide +kernel
theorem dX6_highest_40 : decode cX6_highest 40 = .ok (.goto (-18), 3) := by decide +kernel
theorem dX6_highest_43 : decode cX6_highest 43 = .ok (.iload_n 2, 1) := by decide +kernel
theorem dX6_highest_44 : decode cX6_highest 44 = .ok (.ireturn, 1) := by decide +kernel
theorem dX6_mean_0 : decode cX6_mean 0 = .ok (.aload_n 0, 1) := by decide +kernel
theorem dX6_mean_1 : decode cX6_mean 1 = .ok (.iconst 0, 1) := by decide +kernel
theorem dX6_mean_2 : decode cX6_mean 2 = .ok (.putfield 35, 3) := by decide +kernel
theorem dX6_mean_5 : decode cX6_mean 5 = .ok (.iconst 0, 1) := by decide +kernel
theorem dX6_mean_6 : decode cX6_mean 6 = .ok (.istore_n 1, 1) := by decide +kernel
theorem dX6_mean_7 : decode cX6_mean 7 = .ok (.iconst 0, 1) := by decide +kernel
theorem dX6_mean_8 : decode cX6_mean 8 = .ok (.istore_n 2, 1) := by decide +kernel
theorem dX6_mean_9 : decode cX6_mean 9 = .ok (.iload_n 2, 1) := by decide +kernel
theorem dX6_mean_10 : decode cX6_mean 10 = .ok (.aload_n 0, 1) := by decide +kernel
theorem dX6_mean_11 : decode cX6_mean 11 = .ok (.getfield 28, 3) := by decide +kernel
theorem dX6_mean_14 : decode cX6_mean 14 = .ok (.getfield 90, 3) := by decide +kernel
theorem dX6_mean_17 : decode cX6_mean 17 = .ok (.if_icmp .ge 25, 3) := by decide +kernel
theorem dX6_mean_20 : decode cX6_mean 20 = .ok (.iload_n 1, 1) := by decide +kernel
theorem dX6_mean_21 : decode cX6_mean 21 = .ok (.aload_n 0, 1) := by decide +kernel
theorem dX6_mean_22 : decode cX6_mean 22 = .ok (.getfield 28, 3) := by decide +kernel
theorem dX6_mean_25 : decode cX6_mean 25 = .ok (.getfield 93, 3) := by decide +kernel
theorem dX6_mean_28 : decode cX6_mean 28 = .ok (.iconst 5, 1) := by decide +kernel
theorem dX6_mean_29 : decode cX6_mean 29 = .ok (.iload_n 2, 1) := by decide +kernel
theorem dX6_mean_30 : decode cX6_mean 30 = .ok (.imul, 1) := by decide +kernel
theorem dX6_mean_31 : decode cX6_mean 31 = .ok (.iconst 3, 1) := by decide +kernel
theorem dX6_mean_32 : decode cX6_mean 32 = .ok (.iadd, 1) := by decide +kernel
theorem dX6_mean_33 : decode cX6_mean 33 = .ok (.iaload, 1) := by decide +kernel
theorem dX6_mean_34 : decode cX6_mean 34 = .ok (.iadd, 1) := by decide +kernel
theorem dX6_mean_35 : decode cX6_mean 35 = .ok (.istore_n 1, 1) := by decide +kernel
theorem dX6_mean_36 : decode cX6_mean 36 = .ok (.iinc 2 1, 3) := by decide +kernel
theorem dX6_mean_39 : decode cX6_mean 39 = .ok (.goto (-30), 3) := by decide +kernel
theorem dX6_mean_42 : decode cX6_mean 42 = .ok (.aload_n 0, 1) := by decide +kernel
theorem dX6_mean_43 : decode cX6_mean 43 = .ok (.getfield 28, 3) := by decide +kernel
theorem dX6_mean_46 : decode cX6_mean 46 = .ok (.getfield 90, 3) := by decide +kernel
theorem dX6_mean_49 : decode cX6_mean 49 = .ok (.ifCond .ne 7, 3) := by decide +kernel
theorem dX6_mean_52 : decode cX6_mean 52 = .ok (.dconst 0, 1) := by decide +kernel
theorem dX6_mean_53 : decode cX6_mean 53 = .ok (.goto 14, 3) := by decide +kernel
theorem dX6_mean_56 : decode cX6_mean 56 = .ok (.iload_n 1, 1) := by decide +kernel
theorem dX6_mean_57 : decode cX6_mean 57 = .ok (.i2d, 1) := by decide +kernel
theorem dX6_mean_58 : decode cX6_mean 58 = .ok (.aload_n 0, 1) := by decide +kernel
theorem dX6_mean_59 : decode cX6_mean 59 = .ok (.getfield 28, 3) := by decide +kernel
theorem dX6_mean_62 : decode cX6_mean 62 = .ok (.getfield 90, 3) := by decide +kernel
theorem dX6_mean_65 : decode cX6_mean 65 = .ok (.i2d, 1) := by decide +kernel
theorem dX6_mean_66 : decode cX6_mean 66 = .ok (.ddiv, 1) := by decide +kernel
theorem dX6_mean_67 : decode cX6_mean 67 = .ok (.dreturn, 1) := by decide +kernel
set_option maxRecDepth 20000 in
theorem ggX6_digest_X6_counted : GoodIn wsX6_digest wsX6_counted := goodIn_r _ [11, 4, 5, 12, 13, 14, 15, 6, 16, 17, 18, 10, 19, 20, 40, 41, 42, 43, 44, 45, 46, 47, 48, 49, 50, 51, 52, 53, 54, 55, 56, 57, 58, 59, 60, 61, 62, 63, 64, 65, 66, 67, 68, 69, 70] (by decide +kernel) (by decide +kernel)
set_option maxRecDepth 20000 in
theorem gX6_digest_X6_counted : GoodIn wsX6_digest (wsV RX6 109 RX6 yX6_counted wsX6_counted) := goodIn_app (goodIn_of _ (by decide +kernel)) ggX6_digest_X6_counted
set_option maxRecDepth 20000 in
theorem ggX6_digest_X6_chamberTold : GoodIn wsX6_digest wsX6_chamberTold := goodIn_r _ [24, 13, 5, 12, 25, 26, 27, 10, 28, 20, 16, 17, 18, 19, 40, 41, 42, 43, 44, 45, 46, 47, 48, 49] (by decide +kernel) (by decide +kernel)
set_option maxRecDepth 20000 in
theorem gX6_digest_X6_chamberTold : GoodIn wsX6_digest (wsV RX6 70 RX6 yX6_chamberTold wsX6_chamberTold) := goodIn_app (goodIn_of _ (by decide +kernel)) ggX6_digest_X6_chamberTold
set_option maxRecDepth 20000 in
theorem ggX6_digest_X6_passageTold : GoodIn wsX6_digest wsX6_passageTold := goodIn_r _ [32, 20, 12, 16, 17, 18, 10, 19, 13, 40, 41, 42, 43, 44, 45, 46, 47, 48, 49] (by decide +kernel) (by decide +kernel)
set_option maxRecDepth 20000 in
theorem gX6_digest_X6_passageTold : GoodIn wsX6_digest (wsV RX6 74 RX6 yX6_passageTold wsX6_passageTold) := goodIn_app (goodIn_of _ (by decide +kernel)) ggX6_digest_X6_passageTold
set_option maxRecDepth 20000 in
theorem ggX6_digest_X5_isInOrder : GoodIn wsX6_digest wsX5_isInOrder := goodIn_r _ [37, 38, 39, 50, 51, 52, 53, 54, 55, 56, 57, 58, 59, 60, 61, 62, 63, 64, 65, 66, 67, 68, 69, 70] (by decide +kernel) (by decide +kernel)
set_option maxRecDepth 20000 in
theorem gX6_digest_X5_isInOrder : GoodIn wsX6_digest (wsV RX6 96 RX5 yX5_isInOrder wsX5_isInOrder) := goodIn_app (goodIn_of _ (by decide +kernel)) ggX6_digest_X5_isInOrder
theorem dX6_digest_0 : decode cX6_digest 0 = .ok (.aload_n 0, 1) := by decide +kernel
theorem dX6_digest_1 : decode cX6_digest 1 = .ok (.iconst 0, 1) := by decide +kernel
theorem dX6_digest_2 : decode cX6_digest 2 = .ok (.putfield 35, 3) := by decide +kernel
theorem dX6_digest_5 : decode cX6_digest 5 = .ok (.ldc2_w 133, 3) := by decide +kernel
theorem dX6_digest_8 : decode cX6_digest 8 = .ok (.lstore_n 1, 1) := by decide +kernel
theorem dX6_digest_9 : decode cX6_digest 9 = .ok (.iconst 0, 1) := by decide +kernel
theorem dX6_digest_10 : decode cX6_digest 10 = .ok (.istore_n 3, 1) := by decide +kernel
theorem dX6_digest_11 : decode cX6_digest 11 = .ok (.iload_n 3, 1) := by decide +kernel
theorem dX6_digest_12 : decode cX6_digest 12 = .ok (.bipush 10, 2) := by decide +kernel
theorem dX6_digest_14 : decode cX6_digest 14 = .ok (.if_icmp .ge 22, 3) := by decide +kernel
theorem dX6_digest_17 : decode cX6_digest 17 = .ok (.lload_n 1, 1) := by decide +kernel
theorem dX6_digest_18 : decode cX6_digest 18 = .ok (.ldc2_w 135, 3) := by decide +kernel
theorem dX6_digest_21 : decode cX6_digest 21 = .ok (.lmul, 1) := by decide +kernel
theorem dX6_digest_22 : decode cX6_digest 22 = .ok (.aload_n 0, 1) := by decide +kernel
theorem dX6_digest_23 : decode cX6_digest 23 = .ok (.iload_n 3, 1) := by decide +kernel
theorem dX6_digest_24 : decode cX6_digest 24 = .ok (.invokevirtual 109, 3) := by decide +kernel
theorem dX6_digest_27 : decode cX6_digest 27 = .ok (.i2l, 1) := by decide +kernel
theorem dX6_digest_28 : decode cX6_digest 28 = .ok (.ladd, 1) := by decide +kernel
theorem dX6_digest_29 : decode cX6_digest 29 = .ok (.lstore_n 1, 1) := by decide +kernel
theorem dX6_digest_30 : decode cX6_digest 30 = .ok (.iinc 3 1, 3) := by decide +kernel
theorem dX6_digest_33 : decode cX6_digest 33 = .ok (.goto (-22), 3) := by decide +kernel
theorem dX6_digest_36 : decode cX6_digest 36 = .ok (.iconst 0, 1) := by decide +kernel
theorem dX6_digest_37 : decode cX6_digest 37 = .ok (.istore_n 3, 1) := by decide +kernel
theorem dX6_digest_38 : decode cX6_digest 38 = .ok (.iload_n 3, 1) := by decide +kernel
theorem dX6_digest_39 : decode cX6_digest 39 = .ok (.aload_n 0, 1) := by decide +kernel
theorem dX6_digest_40 : decode cX6_digest 40 = .ok (.getfield 9, 3) := by decide +kernel
theorem dX6_digest_43 : decode cX6_digest 43 = .ok (.if_icmp .ge 40, 3) := by decide +kernel
theorem dX6_digest_46 : decode cX6_digest 46 = .ok (.iconst 0, 1) := by decide +kernel
theorem dX6_digest_47 : decode cX6_digest 47 = .ok (.istore 4, 2) := by decide +kernel
theorem dX6_digest_49 : decode cX6_digest 49 = .ok (.iload 4, 2) := by decide +kernel
theorem dX6_digest_51 : decode cX6_digest 51 = .ok (.bipush 7, 2) := by decide +kernel
theorem dX6_digest_53 : decode cX6_digest 53 = .ok (.if_icmp .ge 24, 3) := by decide +kernel
theorem dX6_digest_56 : decode cX6_digest 56 = .ok (.lload_n 1, 1) := by decide +kernel
theorem dX6_digest_57 : decode cX6_digest 57 = .ok (.ldc2_w 135, 3) := by decide +kernel
theorem dX6_digest_60 : decode cX6_digest 60 = .ok (.lmul, 1) := by decide +kernel
theorem dX6_digest_61 : decode cX6_digest 61 = .ok (.aload_n 0, 1) := by decide +kernel
theorem dX6_digest_62 : decode cX6_digest 62 = .ok (.iload_n 3, 1) := by decide +kernel
theorem dX6_digest_63 : decode cX6_digest 63 = .ok (.iload 4, 2) := by decide +kernel
theorem dX6_digest_65 : decode cX6_digest 65 = .ok (.invokevirtual 70, 3) := by decide +kernel
theorem dX6_digest_68 : decode cX6_digest 68 = .ok (.i2l, 1) := by decide +kernel
theorem dX6_digest_69 : decode cX6_digest 69 = .ok (.ladd, 1) := by decide +kernel
theorem dX6_digest_70 : decode cX6_digest 70 = .ok (.lstore_n 1, 1) := by decide +kernel
theorem dX6_digest_71 : decode cX6_digest 71 = .ok (.iinc 4 1, 3) := by decide +kernel
theorem dX6_digest_74 : decode cX6_digest 74 = .ok (.goto (-25), 3) := by decide +kernel
theorem dX6_digest_77 : decode cX6_digest 77 = .ok (.iinc 3 1, 3) := by decide +kernel
theorem dX6_digest_80 : decode cX6_digest 80 = .ok (.goto (-42), 3) := by decide +kernel
theorem dX6_digest_83 : decode cX6_digest 83 = .ok (.iconst 0, 1) := by decide +kernel
theorem dX6_digest_84 : decode cX6_digest 84 = .ok (.istore_n 3, 1) := by decide +kernel
theorem dX6_digest_85 : decode cX6_digest 85 = .ok (.iload_n 3, 1) := by decide +kernel
theorem dX6_digest_86 : decode cX6_digest 86 = .ok (.aload_n 0, 1) := by decide +kernel
theorem dX6_digest_87 : decode cX6_digest 87 = .ok (.getfield 57, 3) := by decide +kernel
theorem dX6_digest_90 : decode cX6_digest 90 = .ok (.if_icmp .ge 39, 3) := by decide +kernel
theorem dX6_digest_93 : decode cX6_digest 93 = .ok (.iconst 0, 1) := by decide +kernel
theorem dX6_digest_94 : decode cX6_digest 94 = .ok (.istore 4, 2) := by decide +kernel
theorem dX6_digest_96 : decode cX6_digest 96 = .ok (.iload 4, 2) := by decide +kernel
theorem dX6_digest_98 : decode cX6_digest 98 = .ok (.iconst 5, 1) := by decide +kernel
theorem dX6_digest_99 : decode cX6_digest 99 = .ok (.if_icmp .ge 24, 3) := by decide +kernel
theorem dX6_digest_102 : decode cX6_digest 102 = .ok (.lload_n 1, 1) := by decide +kernel
theorem dX6_digest_103 : decode cX6_digest 103 = .ok (.ldc2_w 135, 3) := by decide +kernel
theorem dX6_digest_106 : decode cX6_digest 106 = .ok (.lmul, 1) := by decide +kernel
theorem dX6_digest_107 : decode cX6_digest 107 = .ok (.aload_n 0, 1) := by decide +kernel
theorem dX6_digest_108 : decode cX6_digest 108 = .ok (.iload_n 3, 1) := by decide +kernel
theorem dX6_digest_109 : decode cX6_digest 109 = .ok (.iload 4, 2) := by decide +kernel
theorem dX6_digest_111 : decode cX6_digest 111 = .ok (.invokevirtual 74, 3) := by decide +kernel
theorem dX6_digest_114 : decode cX6_digest 114 = .ok (.i2l, 1) := by decide +kernel
theorem dX6_digest_115 : decode cX6_digest 115 = .ok (.ladd, 1) := by decide +kernel
theorem dX6_digest_116 : decode cX6_digest 116 = .ok (.lstore_n 1, 1) := by decide +kernel
theorem dX6_digest_117 : decode cX6_digest 117 = .ok (.iinc 4 1, 3) := by decide +kernel
theorem dX6_digest_120 : decode cX6_digest 120 = .ok (.goto (-24), 3) := by decide +kernel
theorem dX6_digest_123 : decode cX6_digest 123 = .ok (.iinc 3 1, 3) := by decide +kernel
theorem dX6_digest_126 : decode cX6_digest 126 = .ok (.goto (-41), 3) := by decide +kernel
theorem dX6_digest_129 : decode cX6_digest 129 = .ok (.iconst 0, 1) := by decide +kernel
theorem dX6_digest_130 : decode cX6_digest 130 = .ok (.istore_n 3, 1) := by decide +kernel
theorem dX6_digest_131 : decode cX6_digest 131 = .ok (.iload_n 3, 1) := by decide +kernel
theorem dX6_digest_132 : decode cX6_digest 132 = .ok (.iconst 5, 1) := by decide +kernel
theorem dX6_digest_133 : decode cX6_digest 133 = .ok (.aload_n 0, 1) := by decide +kernel
theorem dX6_digest_134 : decode cX6_digest 134 = .ok (.getfield 28, 3) := by decide +kernel
theorem dX6_digest_137 : decode cX6_digest 137 = .ok (.getfield 90, 3) := by decide +kernel
theorem dX6_digest_140 : decode cX6_digest 140 = .ok (.imul, 1) := by decide +kernel
theorem dX6_digest_141 : decode cX6_digest 141 = .ok (.if_icmp .ge 26, 3) := by decide +kernel
theorem dX6_digest_144 : decode cX6_digest 144 = .ok (.lload_n 1, 1) := by decide +kernel
theorem dX6_digest_145 : decode cX6_digest 145 = .ok (.ldc2_w 135, 3) := by decide +kernel
theorem dX6_digest_148 : decode cX6_digest 148 = .ok (.lmul, 1) := by decide +kernel
theorem dX6_digest_149 : decode cX6_digest 149 = .ok (.aload_n 0, 1) := by decide +kernel
theorem dX6_digest_150 : decode cX6_digest 150 = .ok (.getfield 28, 3) := by decide +kernel
theorem dX6_digest_153 : decode cX6_digest 153 = .ok (.getfield 93, 3) := by decide +kernel
theorem dX6_digest_156 : decode cX6_digest 156 = .ok (.iload_n 3, 1) := by decide +kernel
theorem dX6_digest_157 : decode cX6_digest 157 = .ok (.iaload, 1) := by decide +kernel
theorem dX6_digest_158 : decode cX6_digest 158 = .ok (.i2l, 1) := by decide +kernel
theorem dX6_digest_159 : decode cX6_digest 159 = .ok (.ladd, 1) := by decide +kernel
theorem dX6_digest_160 : decode cX6_digest 160 = .ok (.lstore_n 1, 1) := by decide +kernel
theorem dX6_digest_161 : decode cX6_digest 161 = .ok (.iinc 3 1, 3) := by decide +kernel
theorem dX6_digest_164 : decode cX6_digest 164 = .ok (.goto (-33), 3) := by decide +kernel
theorem dX6_digest_167 : decode cX6_digest 167 = .ok (.lload_n 1, 1) := by decide +kernel
theorem dX6_digest_168 : decode cX6_digest 168 = .ok (.ldc2_w 135, 3) := by decide +kernel
theorem dX6_digest_171 : decode cX6_digest 171 = .ok (.lmul, 1) := by decide +kernel
theorem dX6_digest_172 : decode cX6_digest 172 = .ok (.aload_n 0, 1) := by decide +kernel
theorem dX6_digest_173 : decode cX6_digest 173 = .ok (.getfield 28, 3) := by decide +kernel
theorem dX6_digest_176 : decode cX6_digest 176 = .ok (.invokevirtual 96, 3) := by decide +kernel
theorem dX6_digest_179 : decode cX6_digest 179 = .ok (.ifCond .eq 7, 3) := by decide +kernel
theorem dX6_digest_182 : decode cX6_digest 182 = .ok (.iconst 1, 1) := by decide +kernel
theorem dX6_digest_183 : decode cX6_digest 183 = .ok (.goto 4, 3) := by decide +kernel
theorem dX6_digest_186 : decode cX6_digest 186 = .ok (.iconst 0, 1) := by decide +kernel
theorem dX6_digest_187 : decode cX6_digest 187 = .ok (.i2l, 1) := by decide +kernel
theorem dX6_digest_188 : decode cX6_digest 188 = .ok (.ladd, 1) := by decide +kernel
theorem dX6_digest_189 : decode cX6_digest 189 = .ok (.lreturn, 1) := by decide +kernel
theorem dJ9_max_7cf53_0 : decode cJ9_max_7cf53 0 = .ok (.iload_n 0, 1) := by decide +kernel
theorem dJ9_max_7cf53_1 : decode cJ9_max_7cf53 1 = .ok (.iload_n 1, 1) := by decide +kernel
theorem dJ9_max_7cf53_2 : decode cJ9_max_7cf53 2 = .ok (.if_icmp .lt 7, 3) := by decide +kernel
theorem dJ9_max_7cf53_5 : decode cJ9_max_7cf53 5 = .ok (.iload_n 0, 1) := by decide +kernel
theorem dJ9_max_7cf53_6 : decode cJ9_max_7cf53 6 = .ok (.goto 4, 3) := by decide +kernel
theorem dJ9_max_7cf53_9 : decode cJ9_max_7cf53 9 = .ok (.iload_n 1, 1) := by decide +kernel
theorem dJ9_max_7cf53_10 : decode cJ9_max_7cf53 10 = .ok (.ireturn, 1) := by decide +kernel
theorem dJ9_min_7cf53_0 : decode cJ9_min_7cf53 0 = .ok (.iload_n 0, 1) := by decide +kernel
theorem dJ9_min_7cf53_1 : decode cJ9_min_7cf53 1 = .ok (.iload_n 1, 1) := by decide +kernel
theorem dJ9_min_7cf53_2 : decode cJ9_min_7cf53 2 = .ok (.if_icmp .gt 7, 3) := by decide +kernel
theorem dJ9_min_7cf53_5 : decode cJ9_min_7cf53 5 = .ok (.iload_n 0, 1) := by decide +kernel
theorem dJ9_min_7cf53_6 : decode cJ9_min_7cf53 6 = .ok (.goto 4, 3) := by decide +kernel
theorem dJ9_min_7cf53_9 : decode cJ9_min_7cf53 9 = .ok (.iload_n 1, 1) := by decide +kernel
theorem dJ9_min_7cf53_10 : decode cJ9_min_7cf53 10 = .ok (.ireturn, 1) := by decide +kernel
theorem dJ7_fill_53178_0 : decode cJ7_fill_53178 0 = .ok (.iconst 0, 1) := by decide +kernel
theorem dJ7_fill_53178_1 : decode cJ7_fill_53178 1 = .ok (.istore_n 2, 1) := by decide +kernel
theorem dJ7_fill_53178_2 : decode cJ7_fill_53178 2 = .ok (.aload_n 0, 1) := by decide +kernel
theorem dJ7_fill_53178_3 : decode cJ7_fill_53178 3 = .ok (.arraylength, 1) := by decide +kernel
theorem dJ7_fill_53178_4 : decode cJ7_fill_53178 4 = .ok (.istore_n 3, 1) := by decide +kernel
theorem dJ7_fill_53178_5 : decode cJ7_fill_53178 5 = .ok (.iload_n 2, 1) := by decide +kernel
theorem dJ7_fill_53178_6 : decode cJ7_fill_53178 6 = .ok (.iload_n 3, 1) := by decide +kernel
theorem dJ7_fill_53178_7 : decode cJ7_fill_53178 7 = .ok (.if_icmp .ge 13, 3) := by decide +kernel
theorem dJ7_fill_53178_10 : decode cJ7_fill_53178 10 = .ok (.aload_n 0, 1) := by decide +kernel
theorem dJ7_fill_53178_11 : decode cJ7_fill_53178 11 = .ok (.iload_n 2, 1) := by decide +kernel
theorem dJ7_fill_53178_12 : decode cJ7_fill_53178 12 = .ok (.iload_n 1, 1) := by decide +kernel
theorem dJ7_fill_53178_13 : decode cJ7_fill_53178 13 = .ok (.iastore, 1) := by decide +kernel
theorem dJ7_fill_53178_14 : decode cJ7_fill_53178 14 = .ok (.iinc 2 1, 3) := by decide +kernel
theorem dJ7_fill_53178_17 : decode cJ7_fill_53178 17 = .ok (.goto (-12), 3) := by decide +kernel
theorem dJ7_fill_53178_20 : decode cJ7_fill_53178 20 = .ok (.return_, 1) := by decide +kernel
set_option maxRecDepth 20000 in
theorem ggL_addChamber_X4_addChamber : GoodIn wsL_addChamber wsX4_addChamber := goodIn_ca (goodIn_ca (goodIn_r _ [7, 8, 9, 10, 11, 12, 6, 13, 14, 15, 16, 17, 18, 19, 20, 21, 22, 23, 24, 25, 26, 27, 28, 29, 30, 31, 32, 33, 34, 35, 36, 37, 38, 39, 40, 41, 42, 43, 44, 45, 46, 47, 48, 49] (by decide +kernel) (by decide +kernel)) (goodIn_sub (fun _ h => List.mem_cons_of_mem _ (List.mem_append_left _ (List.mem_append_right _ h))) (by decide +kernel))) (goodIn_sub (fun _ h => List.mem_cons_of_mem _ (List.mem_append_right _ h)) (by decide +kernel))
set_option maxRecDepth 20000 in
theorem gL_addChamber_X4_addChamber : GoodIn wsL_addChamber (wsV RL 7 RX4 yX4_addChamber wsX4_addChamber) := goodIn_app (goodIn_of _ (by decide +kernel)) ggL_addChamber_X4_addChamber
theorem dL_addChamber_0 : decode cL_addChamber 0 = .ok (.aload 4, 2) := by decide +kernel
theorem dL_addChamber_2 : decode cL_addChamber 2 = .ok (.iconst 0, 1) := by decide +kernel
theorem dL_addChamber_3 : decode cL_addChamber 3 = .ok (.aload_n 0, 1) := by decide +kernel
theorem dL_addChamber_4 : decode cL_addChamber 4 = .ok (.iload_n 1, 1) := by decide +kernel
theorem dL_addChamber_5 : decode cL_addChamber 5 = .ok (.iload_n 2, 1) := by decide +kernel
theorem dL_addChamber_6 : decode cL_addChamber 6 = .ok (.iload_n 3, 1) := by decide +kernel
theorem dL_addChamber_7 : decode cL_addChamber 7 = .ok (.invokevirtual 7, 3) := by decide +kernel
theorem dL_addChamber_10 : decode cL_addChamber 10 = .ok (.i2l, 1) := by decide +kernel
theorem dL_addChamber_11 : decode cL_addChamber 11 = .ok (.lastore, 1) := by decide +kernel
theorem dL_addChamber_12 : decode cL_addChamber 12 = .ok (.goto 11, 3) := by decide +kernel
theorem dL_addChamber_15 : decode cL_addChamber 15 = .ok (.astore 5, 2) := by decide +kernel
theorem dL_addChamber_17 : decode cL_addChamber 17 = .ok (.iconst 1, 1) := by decide +kernel
theorem dL_addChamber_18 : decode cL_addChamber 18 = .ok (.ireturn, 1) := by decide +kernel
theorem dL_addChamber_19 : decode cL_addChamber 19 = .ok (.astore 5, 2) := by decide +kernel
theorem dL_addChamber_21 : decode cL_addChamber 21 = .ok (.iconst 2, 1) := by decide +kernel
theorem dL_addChamber_22 : decode cL_addChamber 22 = .ok (.ireturn, 1) := by decide +kernel
theorem dL_addChamber_23 : decode cL_addChamber 23 = .ok (.iconst 0, 1) := by decide +kernel
theorem dL_addChamber_24 : decode cL_addChamber 24 = .ok (.ireturn, 1) := by decide +kernel
set_option maxRecDepth 20000 in
theorem ggL_addPassage_X4_addPassage : GoodIn wsL_addPassage wsX4_addPassage := goodIn_ca (goodIn_ca (goodIn_ca (goodIn_r _ [8, 9, 10, 11, 12, 13, 14, 15, 16, 17, 18, 7, 19, 20, 21, 22, 23, 24, 25, 26, 27, 28, 29, 30, 31, 32, 33, 34, 35, 36, 37, 38, 39, 40, 41, 42, 43, 44, 45, 46, 47, 48, 49, 50, 51, 52, 53, 54, 55, 56, 57, 58, 59, 60, 61, 62, 63, 64, 65, 66, 67] (by decide +kernel) (by decide +kernel)) (goodIn_sub (fun _ h => List.mem_cons_of_mem _ (List.mem_append_left _ (List.mem_append_left _ (List.mem_append_right _ h)))) (by decide +kernel))) (goodIn_sub (fun _ h => List.mem_cons_of_mem _ (List.mem_append_left _ (List.mem_append_right _ h))) (by decide +kernel))) (goodIn_sub (fun _ h => List.mem_cons_of_mem _ (List.mem_append_right _ h)) (by decide +kernel))
set_option maxRecDepth 20000 in
theorem gL_addPassage_X4_addPassage : GoodIn wsL_addPassage (wsV RL 17 RX4 yX4_addPassage wsX4_addPassage) := goodIn_app (goodIn_of _ (by decide +kernel)) ggL_addPassage_X4_addPassage
theorem dL_addPassage_0 : decode cL_addPassage 0 = .ok (.aload 5, 2) := by decide +kernel
theorem dL_addPassage_2 : decode cL_addPassage 2 = .ok (.iconst 0, 1) := by decide +kernel
theorem dL_addPassage_3 : decode cL_addPassage 3 = .ok (.aload_n 0, 1) := by decide +kernel
theorem dL_addPassage_4 : decode cL_addPassage 4 = .ok (.iload_n 1, 1) := by decide +kernel
theorem dL_addPassage_5 : decode cL_addPassage 5 = .ok (.iload_n 2, 1) := by decide +kernel
theorem dL_addPassage_6 : decode cL_addPassage 6 = .ok (.iload_n 3, 1) := by decide +kernel
theorem dL_addPassage_7 : decode cL_addPassage 7 = .ok (.iload 4, 2) := by decide +kernel
theorem dL_addPassage_9 : decode cL_addPassage 9 = .ok (.invokevirtual 17, 3) := by decide +kernel
theorem dL_addPassage_12 : decode cL_addPassage 12 = .ok (.i2l, 1) := by decide +kernel
theorem dL_addPassage_13 : decode cL_addPassage 13 = .ok (.lastore, 1) := by decide +kernel
theorem dL_addPassage_14 : decode cL_addPassage 14 = .ok (.goto 15, 3) := by decide +kernel
theorem dL_addPassage_17 : decode cL_addPassage 17 = .ok (.astore 6, 2) := by decide +kernel
theorem dL_addPassage_19 : decode cL_addPassage 19 = .ok (.iconst 1, 1) := by decide +kernel
theorem dL_addPassage_20 : decode cL_addPassage 20 = .ok (.ireturn, 1) := by decide +kernel
theorem dL_addPassage_21 : decode cL_addPassage 21 = .ok (.astore 6, 2) := by decide +kernel
theorem dL_addPassage_23 : decode cL_addPassage 23 = .ok (.iconst 2, 1) := by decide +kernel
theorem dL_addPassage_24 : decode cL_addPassage 24 = .ok (.ireturn, 1) := by decide +kernel
theorem dL_addPassage_25 : decode cL_addPassage 25 = .ok (.astore 6, 2) := by decide +kernel
theorem dL_addPassage_27 : decode cL_addPassage 27 = .ok (.iconst 3, 1) := by decide +kernel
theorem dL_addPassage_28 : decode cL_addPassage 28 = .ok (.ireturn, 1) := by decide +kernel
theorem dL_addPassage_29 : decode cL_addPassage 29 = .ok (.iconst 0, 1) := by decide +kernel
theorem dL_addPassage_30 : decode cL_addPassage 30 = .ok (.ireturn, 1) := by decide +kernel
set_option maxRecDepth 20000 in
theorem ggL_setWater_X4_setWater : GoodIn wsL_setWater wsX4_setWater := goodIn_ca (goodIn_r _ [6, 7, 8, 9, 5, 10, 11, 12, 13, 14, 15, 16, 17, 18, 19, 20, 21, 22, 23, 24, 25, 26, 27, 28, 29, 30, 31, 32, 33, 34, 35, 36, 37] (by decide +kernel) (by decide +kernel)) (goodIn_sub (fun _ h => List.mem_cons_of_mem _ (List.mem_append_right _ h)) (by decide +kernel))
set_option maxRecDepth 20000 in
theorem gL_setWater_X4_setWater : GoodIn wsL_setWater (wsV RL 23 RX4 yX4_setWater wsX4_setWater) := goodIn_app (goodIn_of _ (by decide +kernel)) ggL_setWater_X4_setWater
theorem dL_setWater_0 : decode cL_setWater 0 = .ok (.aload_n 2, 1) := by decide +kernel
theorem dL_setWater_1 : decode cL_setWater 1 = .ok (.iconst 0, 1) := by decide +kernel
theorem dL_setWater_2 : decode cL_setWater 2 = .ok (.aload_n 0, 1) := by decide +kernel
theorem dL_setWater_3 : decode cL_setWater 3 = .ok (.iload_n 1, 1) := by decide +kernel
theorem dL_setWater_4 : decode cL_setWater 4 = .ok (.invokevirtual 23, 3) := by decide +kernel
theorem dL_setWater_7 : decode cL_setWater 7 = .ok (.i2l, 1) := by decide +kernel
theorem dL_setWater_8 : decode cL_setWater 8 = .ok (.lastore, 1) := by decide +kernel
theorem dL_setWater_9 : decode cL_setWater 9 = .ok (.goto 6, 3) := by decide +kernel
theorem dL_setWater_12 : decode cL_setWater 12 = .ok (.astore_n 3, 1) := by decide +kernel
theorem dL_setWater_13 : decode cL_setWater 13 = .ok (.iconst 1, 1) := by decide +kernel
theorem dL_setWater_14 : decode cL_setWater 14 = .ok (.ireturn, 1) := by decide +kernel
theorem dL_setWater_15 : decode cL_setWater 15 = .ok (.iconst 0, 1) := by decide +kernel
theorem dL_setWater_16 : decode cL_setWater 16 = .ok (.ireturn, 1) := by decide +kernel
set_option maxRecDepth 20000 in
theorem ggL_setBats_X4_setBats : GoodIn wsL_setBats wsX4_setBats := goodIn_ca (goodIn_ca (goodIn_r _ [7, 8, 9, 10, 11, 12, 13, 14, 15, 6, 16, 17, 18, 19, 20, 21, 22, 23, 24, 25, 26, 27, 28, 29, 30, 31, 32, 33, 34, 35, 36, 37, 38, 39, 40, 41, 42, 43, 44, 45, 46, 47, 48, 49] (by decide +kernel) (by decide +kernel)) (goodIn_sub (fun _ h => List.mem_cons_of_mem _ (List.mem_append_left _ (List.mem_append_right _ h))) (by decide +kernel))) (goodIn_sub (fun _ h => List.mem_cons_of_mem _ (List.mem_append_right _ h)) (by decide +kernel))
set_option maxRecDepth 20000 in
theorem gL_setBats_X4_setBats : GoodIn wsL_setBats (wsV RL 27 RX4 yX4_setBats wsX4_setBats) := goodIn_app (goodIn_of _ (by decide +kernel)) ggL_setBats_X4_setBats
theorem dL_setBats_0 : decode cL_setBats 0 = .ok (.aload_n 3, 1) := by decide +kernel
theorem dL_setBats_1 : decode cL_setBats 1 = .ok (.iconst 0, 1) := by decide +kernel
theorem dL_setBats_2 : decode cL_setBats 2 = .ok (.aload_n 0, 1) := by decide +kernel
theorem dL_setBats_3 : decode cL_setBats 3 = .ok (.iload_n 1, 1) := by decide +kernel
theorem dL_setBats_4 : decode cL_setBats 4 = .ok (.iload_n 2, 1) := by decide +kernel
theorem dL_setBats_5 : decode cL_setBats 5 = .ok (.invokevirtual 27, 3) := by decide +kernel
theorem dL_setBats_8 : decode cL_setBats 8 = .ok (.i2l, 1) := by decide +kernel
theorem dL_setBats_9 : decode cL_setBats 9 = .ok (.lastore, 1) := by decide +kernel
theorem dL_setBats_10 : decode cL_setBats 10 = .ok (.goto 11, 3) := by decide +kernel
theorem dL_setBats_13 : decode cL_setBats 13 = .ok (.astore 4, 2) := by decide +kernel
theorem dL_setBats_15 : decode cL_setBats 15 = .ok (.iconst 1, 1) := by decide +kernel
theorem dL_setBats_16 : decode cL_setBats 16 = .ok (.ireturn, 1) := by decide +kernel
theorem dL_setBats_17 : decode cL_setBats 17 = .ok (.astore 4, 2) := by decide +kernel
theorem dL_setBats_19 : decode cL_setBats 19 = .ok (.iconst 2, 1) := by decide +kernel
theorem dL_setBats_20 : decode cL_setBats 20 = .ok (.ireturn, 1) := by decide +kernel
theorem dL_setBats_21 : decode cL_setBats 21 = .ok (.iconst 0, 1) := by decide +kernel
theorem dL_setBats_22 : decode cL_setBats 22 = .ok (.ireturn, 1) := by decide +kernel
set_option maxRecDepth 20000 in
theorem ggL_setClapper_X4_setClapper : GoodIn wsL_setClapper wsX4_setClapper := goodIn_ca (goodIn_ca (goodIn_r _ [7, 8, 9, 10, 11, 12, 13, 14, 15, 6, 16, 17, 18, 19, 20, 21, 22, 23, 24, 25, 26, 27, 28, 29, 30, 31, 32, 33, 34, 35, 36, 37, 38, 39, 40, 41, 42, 43, 44, 45, 46, 47, 48, 49, 50, 51, 52, 53, 54, 55] (by decide +kernel) (by decide +kernel)) (goodIn_sub (fun _ h => List.mem_cons_of_mem _ (List.mem_append_left _ (List.mem_append_right _ h))) (by decide +kernel))) (goodIn_sub (fun _ h => List.mem_cons_of_mem _ (List.mem_append_right _ h)) (by decide +kernel))
set_option maxRecDepth 20000 in
theorem gL_setClapper_X4_setClapper : GoodIn wsL_setClapper (wsV RL 31 RX4 yX4_setClapper wsX4_setClapper) := goodIn_app (goodIn_of _ (by decide +kernel)) ggL_setClapper_X4_setClapper
theorem dL_setClapper_0 : decode cL_setClapper 0 = .ok (.aload 4, 2) := by decide +kernel
theorem dL_setClapper_2 : decode cL_setClapper 2 = .ok (.iconst 0, 1) := by decide +kernel
theorem dL_setClapper_3 : decode cL_setClapper 3 = .ok (.aload_n 0, 1) := by decide +kernel
theorem dL_setClapper_4 : decode cL_setClapper 4 = .ok (.iload_n 1, 1) := by decide +kernel
theorem dL_setClapper_5 : decode cL_setClapper 5 = .ok (.iload_n 2, 1) := by decide +kernel
theorem dL_setClapper_6 : decode cL_setClapper 6 = .ok (.iload_n 3, 1) := by decide +kernel
theorem dL_setClapper_7 : decode cL_setClapper 7 = .ok (.invokevirtual 31, 3) := by decide +kernel
theorem dL_setClapper_10 : decode cL_setClapper 10 = .ok (.i2l, 1) := by decide +kernel
theorem dL_setClapper_11 : decode cL_setClapper 11 = .ok (.lastore, 1) := by decide +kernel
theorem dL_setClapper_12 : decode cL_setClapper 12 = .ok (.goto 11, 3) := by decide +kernel
theorem dL_setClapper_15 : decode cL_setClapper 15 = .ok (.astore 5, 2) := by decide +kernel
theorem dL_setClapper_17 : decode cL_setClapper 17 = .ok (.iconst 1, 1) := by decide +kernel
theorem dL_setClapper_18 : decode cL_setClapper 18 = .ok (.ireturn, 1) := by decide +kernel
theorem dL_setClapper_19 : decode cL_setClapper 19 = .ok (.astore 5, 2) := by decide +kernel
theorem dL_setClapper_21 : decode cL_setClapper 21 = .ok (.iconst 2, 1) := by decide +kernel
theorem dL_setClapper_22 : decode cL_setClapper 22 = .ok (.ireturn, 1) := by decide +kernel
theorem dL_setClapper_23 : decode cL_setClapper 23 = .ok (.iconst 0, 1) := by decide +kernel
theorem dL_setClapper_24 : decode cL_setClapper 24 = .ok (.ireturn, 1) := by decide +kernel
set_option maxRecDepth 20000 in
theorem ggL_setEar_X4_setEar : GoodIn wsL_setEar wsX4_setEar := goodIn_ca (goodIn_r _ [6, 7, 8, 9, 5, 10, 11, 12, 13, 14, 15, 16, 17, 18, 19, 20, 21, 22] (by decide +kernel) (by decide +kernel)) (goodIn_sub (fun _ h => List.mem_cons_of_mem _ (List.mem_append_right _ h)) (by decide +kernel))
set_option maxRecDepth 20000 in
theorem gL_setEar_X4_setEar : GoodIn wsL_setEar (wsV RL 34 RX4 yX4_setEar wsX4_setEar) := goodIn_app (goodIn_of _ (by decide +kernel)) ggL_setEar_X4_setEar
theorem dL_setEar_0 : decode cL_setEar 0 = .ok (.aload_n 2, 1) := by decide +kernel
theorem dL_setEar_1 : decode cL_setEar 1 = .ok (.iconst 0, 1) := by decide +kernel
theorem dL_setEar_2 : decode cL_setEar 2 = .ok (.aload_n 0, 1) := by decide +kernel
theorem dL_setEar_3 : decode cL_setEar 3 = .ok (.iload_n 1, 1) := by decide +kernel
theorem dL_setEar_4 : decode cL_setEar 4 = .ok (.invokevirtual 34, 3) := by decide +kernel
theorem dL_setEar_7 : decode cL_setEar 7 = .ok (.i2l, 1) := by decide +kernel
theorem dL_setEar_8 : decode cL_setEar 8 = .ok (.lastore, 1) := by decide +kernel
theorem dL_setEar_9 : decode cL_setEar 9 = .ok (.goto 6, 3) := by decide +kernel
theorem dL_setEar_12 : decode cL_setEar 12 = .ok (.astore_n 3, 1) := by decide +kernel
theorem dL_setEar_13 : decode cL_setEar 13 = .ok (.iconst 1, 1) := by decide +kernel
theorem dL_setEar_14 : decode cL_setEar 14 = .ok (.ireturn, 1) := by decide +kernel
theorem dL_setEar_15 : decode cL_setEar 15 = .ok (.iconst 0, 1) := by decide +kernel
theorem dL_setEar_16 : decode cL_setEar 16 = .ok (.ireturn, 1) := by decide +kernel
set_option maxRecDepth 20000 in
theorem ggL_chamber_X4_chamber : GoodIn wsL_chamber wsX4_chamber := goodIn_ca (goodIn_r _ [6, 7, 8, 9, 10, 11, 12, 13, 14, 5, 15, 16, 17, 18, 19, 20, 21, 22, 23, 24, 25, 26, 27, 28, 29, 30, 31, 32, 33, 34, 35, 36, 37, 38, 39, 40, 41, 42, 43, 44, 45, 46, 47, 48, 49, 50, 51, 52, 53, 54, 55, 56, 57, 58, 59, 60, 61, 62, 63, 64, 65] (by decide +kernel) (by decide +kernel)) (goodIn_sub (fun _ h => List.mem_cons_of_mem _ (List.mem_append_right _ h)) (by decide +kernel))
set_option maxRecDepth 20000 in
theorem gL_chamber_X4_chamber : GoodIn wsL_chamber (wsV RL 37 RX4 yX4_chamber wsX4_chamber) := goodIn_app (goodIn_of _ (by decide +kernel)) ggL_chamber_X4_chamber
theorem dL_chamber_0 : decode cL_chamber 0 = .ok (.aload_n 3, 1) := by decide +kernel
theorem dL_chamber_1 : decode cL_chamber 1 = .ok (.iconst 0, 1) := by decide +kernel
theorem dL_chamber_2 : decode cL_chamber 2 = .ok (.aload_n 0, 1) := by decide +kernel
theorem dL_chamber_3 : decode cL_chamber 3 = .ok (.iload_n 1, 1) := by decide +kernel
theorem dL_chamber_4 : decode cL_chamber 4 = .ok (.iload_n 2, 1) := by decide +kernel
theorem dL_chamber_5 : decode cL_chamber 5 = .ok (.invokevirtual 37, 3) := by decide +kernel
theorem dL_chamber_8 : decode cL_chamber 8 = .ok (.i2l, 1) := by decide +kernel
theorem dL_chamber_9 : decode cL_chamber 9 = .ok (.lastore, 1) := by decide +kernel
theorem dL_chamber_10 : decode cL_chamber 10 = .ok (.goto 7, 3) := by decide +kernel
theorem dL_chamber_13 : decode cL_chamber 13 = .ok (.astore 4, 2) := by decide +kernel
theorem dL_chamber_15 : decode cL_chamber 15 = .ok (.iconst 1, 1) := by decide +kernel
theorem dL_chamber_16 : decode cL_chamber 16 = .ok (.ireturn, 1) := by decide +kernel
theorem dL_chamber_17 : decode cL_chamber 17 = .ok (.iconst 0, 1) := by decide +kernel
theorem dL_chamber_18 : decode cL_chamber 18 = .ok (.ireturn, 1) := by decide +kernel
set_option maxRecDepth 20000 in
theorem ggL_passage_X4_passage : GoodIn wsL_passage wsX4_passage := goodIn_ca (goodIn_r _ [6, 7, 8, 9, 10, 11, 12, 13, 14, 5, 15, 16, 17, 18, 19, 20, 21, 22, 23, 24, 25, 26, 27, 28, 29, 30, 31, 32, 33, 34, 35, 36, 37, 38, 39, 40, 41, 42, 43, 44, 45, 46, 47, 48, 49, 50, 51, 52, 53, 54, 55, 56, 57] (by decide +kernel) (by decide +kernel)) (goodIn_sub (fun _ h => List.mem_cons_of_mem _ (List.mem_append_right _ h)) (by decide +kernel))
set_option maxRecDepth 20000 in
theorem gL_passage_X4_passage : GoodIn wsL_passage (wsV RL 40 RX4 yX4_passage wsX4_passage) := goodIn_app (goodIn_of _ (by decide +kernel)) ggL_passage_X4_passage
theorem dL_passage_0 : decode cL_passage 0 = .ok (.aload_n 3, 1) := by decide +kernel
theorem dL_passage_1 : decode cL_passage 1 = .ok (.iconst 0, 1) := by decide +kernel
theorem dL_passage_2 : decode cL_passage 2 = .ok (.aload_n 0, 1) := by decide +kernel
theorem dL_passage_3 : decode cL_passage 3 = .ok (.iload_n 1, 1) := by decide +kernel
theorem dL_passage_4 : decode cL_passage 4 = .ok (.iload_n 2, 1) := by decide +kernel
theorem dL_passage_5 : decode cL_passage 5 = .ok (.invokevirtual 40, 3) := by decide +kernel
theorem dL_passage_8 : decode cL_passage 8 = .ok (.i2l, 1) := by decide +kernel
theorem dL_passage_9 : decode cL_passage 9 = .ok (.lastore, 1) := by decide +kernel
theorem dL_passage_10 : decode cL_passage 10 = .ok (.goto 7, 3) := by decide +kernel
theorem dL_passage_13 : decode cL_passage 13 = .ok (.astore 4, 2) := by decide +kernel
theorem dL_passage_15 : decode cL_passage 15 = .ok (.iconst 1, 1) := by decide +kernel
theorem dL_passage_16 : decode cL_passage 16 = .ok (.ireturn, 1) := by decide +kernel
theorem dL_passage_17 : decode cL_passage 17 = .ok (.iconst 0, 1) := by decide +kernel
theorem dL_passage_18 : decode cL_passage 18 = .ok (.ireturn, 1) := by decide +kernel
set_option maxRecDepth 20000 in
theorem ggL_say_X4_say : GoodIn wsL_say wsX4_say := goodIn_ca (goodIn_r _ [6, 7, 8, 9, 10, 11, 12, 13, 5, 14, 15, 16, 17, 18, 19, 20, 21, 22, 23, 24, 25, 26, 27, 28, 29, 30, 31, 32, 33, 34, 35, 36, 37, 38, 39, 40, 41, 42, 43, 44, 45, 46, 47, 48, 49, 50, 51, 52, 53, 54, 55, 56, 57, 58, 59, 60, 61, 62, 63, 64, 65, 66, 67, 68, 69, 70, 71, 72, 73, 74, 75, 76, 77, 78, 79, 80, 81, 82, 83, 84, 85, 86, 87, 88, 89, 90, 91, 92, 93, 94, 95, 96, 97, 98, 99, 100, 101, 102, 103, 104, 105, 106, 107, 108, 109, 110, 111, 112, 113, 114, 115, 116, 117, 118, 119, 120, 121, 122, 123, 124, 125, 126, 127, 128, 129, 130, 131, 132, 133, 134, 135, 136, 137, 138, 139, 140, 141, 142, 143, 144, 145, 146, 147, 148, 149, 150, 151, 152, 153, 154, 155, 156, 157, 158, 159, 160, 161, 162, 163, 164, 165, 166, 167, 168, 169, 170, 171, 172, 173, 174, 175, 176, 177, 178, 179, 180, 181, 182, 183, 184, 185, 186, 187, 188, 189, 190, 191, 192, 193, 194, 195, 196, 197, 198, 199, 200, 201, 202] (by decide +kernel) (by decide +kernel)) (goodIn_sub (fun _ h => List.mem_cons_of_mem _ (List.mem_append_right _ h)) (by decide +kernel))
set_option maxRecDepth 20000 in
theorem gL_say_X4_say : GoodIn wsL_say (wsV RL 43 RX4 yX4_say wsX4_say) := goodIn_app (goodIn_of _ (by decide +kernel)) ggL_say_X4_say
theorem dL_say_0 : decode cL_say 0 = .ok (.aload_n 3, 1) := by decide +kernel
theorem dL_say_1 : decode cL_say 1 = .ok (.iconst 0, 1) := by decide +kernel
theorem dL_say_2 : decode cL_say 2 = .ok (.aload_n 0, 1) := by decide +kernel
theorem dL_say_3 : decode cL_say 3 = .ok (.iload_n 1, 1) := by decide +kernel
theorem dL_say_4 : decode cL_say 4 = .ok (.iload_n 2, 1) := by decide +kernel
theorem dL_say_5 : decode cL_say 5 = .ok (.invokevirtual 43, 3) := by decide +kernel
theorem dL_say_8 : decode cL_say 8 = .ok (.i2l, 1) := by decide +kernel
theorem dL_say_9 : decode cL_say 9 = .ok (.lastore, 1) := by decide +kernel
theorem dL_say_10 : decode cL_say 10 = .ok (.goto 7, 3) := by decide +kernel
theorem dL_say_13 : decode cL_say 13 = .ok (.astore 4, 2) := by decide +kernel
theorem dL_say_15 : decode cL_say 15 = .ok (.iconst 1, 1) := by decide +kernel
theorem dL_say_16 : decode cL_say 16 = .ok (.ireturn, 1) := by decide +kernel
theorem dL_say_17 : decode cL_say 17 = .ok (.iconst 0, 1) := by decide +kernel
theorem dL_say_18 : decode cL_say 18 = .ok (.ireturn, 1) := by decide +kernel
set_option maxRecDepth 20000 in
theorem ggL_heard_X4_heard : GoodIn wsL_heard wsX4_heard := goodIn_ca (goodIn_r _ [6, 7, 8, 9, 5, 10, 11, 12, 13, 14, 15, 16, 17, 18, 19, 20, 21, 22, 23, 24, 25, 26, 27, 28, 29, 30, 31, 32, 33, 34, 35, 36] (by decide +kernel) (by decide +kernel)) (goodIn_sub (fun _ h => List.mem_cons_of_mem _ (List.mem_append_right _ h)) (by decide +kernel))
set_option maxRecDepth 20000 in
theorem gL_heard_X4_heard : GoodIn wsL_heard (wsV RL 46 RX4 yX4_heard wsX4_heard) := goodIn_app (goodIn_of _ (by decide +kernel)) ggL_heard_X4_heard
theorem dL_heard_0 : decode cL_heard 0 = .ok (.aload_n 3, 1) := by decide +kernel
theorem dL_heard_1 : decode cL_heard 1 = .ok (.iconst 0, 1) := by decide +kernel
theorem dL_heard_2 : decode cL_heard 2 = .ok (.aload_n 0, 1) := by decide +kernel
theorem dL_heard_3 : decode cL_heard 3 = .ok (.iload_n 1, 1) := by decide +kernel
theorem dL_heard_4 : decode cL_heard 4 = .ok (.iload_n 2, 1) := by decide +kernel
theorem dL_heard_5 : decode cL_heard 5 = .ok (.invokevirtual 46, 3) := by decide +kernel
theorem dL_heard_8 : decode cL_heard 8 = .ok (.i2l, 1) := by decide +kernel
theorem dL_heard_9 : decode cL_heard 9 = .ok (.lastore, 1) := by decide +kernel
theorem dL_heard_10 : decode cL_heard 10 = .ok (.goto 7, 3) := by decide +kernel
theorem dL_heard_13 : decode cL_heard 13 = .ok (.astore 4, 2) := by decide +kernel
theorem dL_heard_15 : decode cL_heard 15 = .ok (.iconst 1, 1) := by decide +kernel
theorem dL_heard_16 : decode cL_heard 16 = .ok (.ireturn, 1) := by decide +kernel
theorem dL_heard_17 : decode cL_heard 17 = .ok (.iconst 0, 1) := by decide +kernel
theorem dL_heard_18 : decode cL_heard 18 = .ok (.ireturn, 1) := by decide +kernel
set_option maxRecDepth 20000 in
theorem ggL_first_X4_first : GoodIn wsL_first wsX4_first := goodIn_ca (goodIn_r _ [6, 7, 8, 9, 5, 10, 11, 12, 13, 14, 15, 16, 17, 18, 19, 20, 21, 22, 23, 24, 25, 26, 27, 28, 29, 30] (by decide +kernel) (by decide +kernel)) (goodIn_sub (fun _ h => List.mem_cons_of_mem _ (List.mem_append_right _ h)) (by decide +kernel))
set_option maxRecDepth 20000 in
theorem gL_first_X4_first : GoodIn wsL_first (wsV RL 49 RX4 yX4_first wsX4_first) := goodIn_app (goodIn_of _ (by decide +kernel)) ggL_first_X4_first
theorem dL_first_0 : decode cL_first 0 = .ok (.aload_n 2, 1) := by decide +kernel
theorem dL_first_1 : decode cL_first 1 = .ok (.iconst 0, 1) := by decide +kernel
theorem dL_first_2 : decode cL_first 2 = .ok (.aload_n 0, 1) := by decide +kernel
theorem dL_first_3 : decode cL_first 3 = .ok (.iload_n 1, 1) := by decide +kernel
theorem dL_first_4 : decode cL_first 4 = .ok (.invokevirtual 49, 3) := by decide +kernel
theorem dL_first_7 : decode cL_first 7 = .ok (.i2l, 1) := by decide +kernel
theorem dL_first_8 : decode cL_first 8 = .ok (.lastore, 1) := by decide +kernel
theorem dL_first_9 : decode cL_first 9 = .ok (.goto 6, 3) := by decide +kernel
theorem dL_first_12 : decode cL_first 12 = .ok (.astore_n 3, 1) := by decide +kernel
theorem dL_first_13 : decode cL_first 13 = .ok (.iconst 1, 1) := by decide +kernel
theorem dL_first_14 : decode cL_first 14 = .ok (.ireturn, 1) := by decide +kernel
theorem dL_first_15 : decode cL_first 15 = .ok (.iconst 0, 1) := by decide +kernel
theorem dL_first_16 : decode cL_first 16 = .ok (.ireturn, 1) := by decide +kernel
set_option maxRecDepth 20000 in
theorem ggL_count_X4_count : GoodIn wsL_count wsX4_count := goodIn_ca (goodIn_r _ [6, 7, 8, 5, 9, 10, 11, 12, 13, 14, 15, 16, 17, 18, 19, 20, 21, 22, 23, 24, 25, 26, 27, 28, 29, 30, 31, 32, 33, 34, 35, 36, 37, 38, 39, 40, 41, 42, 43, 44, 45, 46, 47, 48, 49, 50, 51, 52, 53, 54, 55, 56, 57, 58, 59, 60, 61, 62, 63, 64, 65, 66, 67, 68, 69, 70, 71, 72, 73] (by decide +kernel) (by decide +kernel)) (goodIn_sub (fun _ h => List.mem_cons_of_mem _ (List.mem_append_right _ h)) (by decide +kernel))
set_option maxRecDepth 20000 in
theorem gL_count_X4_count : GoodIn wsL_count (wsV RL 52 RX4 yX4_count wsX4_count) := goodIn_app (goodIn_of _ (by decide +kernel)) ggL_count_X4_count
theorem dL_count_0 : decode cL_count 0 = .ok (.aload_n 2, 1) := by decide +kernel
theorem dL_count_1 : decode cL_count 1 = .ok (.iconst 0, 1) := by decide +kernel
theorem dL_count_2 : decode cL_count 2 = .ok (.aload_n 0, 1) := by decide +kernel
theorem dL_count_3 : decode cL_count 3 = .ok (.iload_n 1, 1) := by decide +kernel
theorem dL_count_4 : decode cL_count 4 = .ok (.invokevirtual 52, 3) := by decide +kernel
theorem dL_count_7 : decode cL_count 7 = .ok (.i2l, 1) := by decide +kernel
theorem dL_count_8 : decode cL_count 8 = .ok (.lastore, 1) := by decide +kernel
theorem dL_count_9 : decode cL_count 9 = .ok (.goto 6, 3) := by decide +kernel
theorem dL_count_12 : decode cL_count 12 = .ok (.astore_n 3, 1) := by decide +kernel
theorem dL_count_13 : decode cL_count 13 = .ok (.iconst 1, 1) := by decide +kernel
theorem dL_count_14 : decode cL_count 14 = .ok (.ireturn, 1) := by decide +kernel
theorem dL_count_15 : decode cL_count 15 = .ok (.iconst 0, 1) := by decide +kernel
theorem dL_count_16 : decode cL_count 16 = .ok (.ireturn, 1) := by decide +kernel
set_option maxRecDepth 20000 in
theorem ggL_would_X4_would : GoodIn wsL_would wsX4_would := goodIn_ca (goodIn_ca (goodIn_r _ [7, 8, 9, 10, 11, 12, 6, 13, 14, 15, 16, 17, 18, 19, 20, 21, 22, 23, 24, 25, 26, 27, 28, 29, 30, 31, 32, 33, 34, 35, 36, 37, 38, 39, 40, 41, 42, 43, 44, 45, 46, 47, 48, 49, 50, 51, 52, 53, 54, 55, 56, 57, 58, 59, 60, 61, 62, 63, 64, 65, 66, 67, 68, 69, 70, 71, 72, 73, 74, 75, 76, 77, 78, 79, 80, 81, 82, 83, 84, 85, 86, 87, 88, 89, 90, 91, 92, 93, 94, 95, 96, 97, 98, 99, 100, 101, 102, 103, 104, 105, 106, 107, 108, 109, 110, 111, 112, 113, 114, 115, 116, 117, 118, 119, 120, 121, 122, 123, 124, 125, 126, 127, 128, 129, 130, 131, 132, 133, 134, 135, 136, 137, 138, 139, 140, 141, 142, 143, 144, 145, 146, 147, 148, 149, 150, 151, 152, 153, 154, 155, 156, 157, 158, 159, 160, 161, 162, 163, 164, 165, 166, 167, 168, 169, 170, 171, 172, 173, 174, 175, 176, 177, 178, 179, 180, 181, 182, 183, 184, 185, 186, 187, 188, 189, 190, 191, 192, 193, 194, 195, 196, 197, 198, 199, 200, 201, 202, 203, 204, 205, 206, 207, 208, 209, 210] (by decide +kernel) (by decide +kernel)) (goodIn_sub (fun _ h => List.mem_cons_of_mem _ (List.mem_append_left _ (List.mem_append_right _ h))) (by decide +kernel))) (goodIn_sub (fun _ h => List.mem_cons_of_mem _ (List.mem_append_right _ h)) (by decide +kernel))
set_option maxRecDepth 20000 in
theorem gL_would_X4_would : GoodIn wsL_would (wsV RL 55 RX4 yX4_would wsX4_would) := goodIn_app (goodIn_of _ (by decide +kernel)) ggL_would_X4_would
theorem dL_would_0 : decode cL_would 0 = .ok (.aload 4, 2) := by decide +kernel
theorem dL_would_2 : decode cL_would 2 = .ok (.iconst 0, 1) := by decide +kernel
theorem dL_would_3 : decode cL_would 3 = .ok (.aload_n 0, 1) := by decide +kernel
theorem dL_would_4 : decode cL_would 4 = .ok (.iload_n 1, 1) := by decide +kernel
theorem dL_would_5 : decode cL_would 5 = .ok (.iload_n 2, 1) := by decide +kernel
theorem dL_would_6 : decode cL_would 6 = .ok (.iload_n 3, 1) := by decide +kernel
theorem dL_would_7 : decode cL_would 7 = .ok (.invokevirtual 55, 3) := by decide +kernel
theorem dL_would_10 : decode cL_would 10 = .ok (.i2l, 1) := by decide +kernel
theorem dL_would_11 : decode cL_would 11 = .ok (.lastore, 1) := by decide +kernel
theorem dL_would_12 : decode cL_would 12 = .ok (.goto 11, 3) := by decide +kernel
theorem dL_would_15 : decode cL_would 15 = .ok (.astore 5, 2) := by decide +kernel
theorem dL_would_17 : decode cL_would 17 = .ok (.iconst 1, 1) := by decide +kernel
theorem dL_would_18 : decode cL_would 18 = .ok (.ireturn, 1) := by decide +kernel
theorem dL_would_19 : decode cL_would 19 = .ok (.astore 5, 2) := by decide +kernel
theorem dL_would_21 : decode cL_would 21 = .ok (.iconst 2, 1) := by decide +kernel
theorem dL_would_22 : decode cL_would 22 = .ok (.ireturn, 1) := by decide +kernel
theorem dL_would_23 : decode cL_would 23 = .ok (.iconst 0, 1) := by decide +kernel
theorem dL_would_24 : decode cL_would 24 = .ok (.ireturn, 1) := by decide +kernel
set_option maxRecDepth 20000 in
theorem ggL_advise_X4_advise : GoodIn wsL_advise wsX4_advise := goodIn_ca (goodIn_r _ [6, 7, 8, 9, 5, 10, 11, 12, 13, 14, 15, 16, 17, 18, 19, 20, 21, 22, 23, 24, 25, 26, 27, 28, 29, 30, 31, 32, 33, 34, 35, 36, 37, 38, 39, 40, 41, 42, 43, 44, 45, 46, 47, 48, 49, 50, 51, 52, 53, 54, 55, 56, 57, 58, 59, 60, 61, 62, 63, 64, 65, 66, 67, 68, 69, 70, 71, 72, 73, 74, 75, 76, 77, 78, 79, 80, 81, 82, 83, 84, 85, 86, 87, 88, 89, 90, 91, 92, 93, 94, 95, 96, 97, 98, 99, 100, 101, 102, 103, 104, 105, 106, 107, 108, 109, 110, 111, 112, 113, 114, 115, 116, 117, 118, 119, 120, 121, 122, 123, 124, 125, 126, 127, 128, 129, 130, 131, 132, 133, 134, 135, 136, 137, 138, 139, 140, 141, 142, 143, 144, 145, 146, 147, 148, 149, 150, 151, 152, 153, 154, 155, 156, 157, 158, 159, 160, 161, 162, 163, 164, 165, 166, 167, 168, 169, 170, 171, 172, 173, 174, 175, 176, 177, 178, 179, 180, 181, 182, 183, 184, 185, 186, 187, 188, 189, 190, 191, 192, 193, 194, 195, 196, 197, 198, 199, 200, 201, 202, 203, 204, 205, 206, 207, 208, 209, 210, 211, 212, 213, 214, 215] (by decide +kernel) (by decide +kernel)) (goodIn_sub (fun _ h => List.mem_cons_of_mem _ (List.mem_append_right _ h)) (by decide +kernel))
set_option maxRecDepth 20000 in
theorem gL_advise_X4_advise : GoodIn wsL_advise (wsV RL 58 RX4 yX4_advise wsX4_advise) := goodIn_app (goodIn_of _ (by decide +kernel)) ggL_advise_X4_advise
theorem dL_advise_0 : decode cL_advise 0 = .ok (.aload 5, 2) := by decide +kernel
theorem dL_advise_2 : decode cL_advise 2 = .ok (.iconst 0, 1) := by decide +kernel
theorem dL_advise_3 : decode cL_advise 3 = .ok (.aload_n 0, 1) := by decide +kernel
theorem dL_advise_4 : decode cL_advise 4 = .ok (.iload_n 1, 1) := by decide +kernel
theorem dL_advise_5 : decode cL_advise 5 = .ok (.iload_n 2, 1) := by decide +kernel
theorem dL_advise_6 : decode cL_advise 6 = .ok (.iload_n 3, 1) := by decide +kernel
theorem dL_advise_7 : decode cL_advise 7 = .ok (.iload 4, 2) := by decide +kernel
theorem dL_advise_9 : decode cL_advise 9 = .ok (.invokevirtual 58, 3) := by decide +kernel
theorem dL_advise_12 : decode cL_advise 12 = .ok (.i2l, 1) := by decide +kernel
theorem dL_advise_13 : decode cL_advise 13 = .ok (.lastore, 1) := by decide +kernel
theorem dL_advise_14 : decode cL_advise 14 = .ok (.goto 7, 3) := by decide +kernel
theorem dL_advise_17 : decode cL_advise 17 = .ok (.astore 6, 2) := by decide +kernel
theorem dL_advise_19 : decode cL_advise 19 = .ok (.iconst 1, 1) := by decide +kernel
theorem dL_advise_20 : decode cL_advise 20 = .ok (.ireturn, 1) := by decide +kernel
theorem dL_advise_21 : decode cL_advise 21 = .ok (.iconst 0, 1) := by decide +kernel
theorem dL_advise_22 : decode cL_advise 22 = .ok (.ireturn, 1) := by decide +kernel
set_option maxRecDepth 20000 in
theorem ggL_longest_X4_longest : GoodIn wsL_longest wsX4_longest := goodIn_ca (goodIn_r _ [6, 7, 8, 5, 9, 10, 11, 12, 13, 14, 15, 16, 17, 18, 19, 20, 21, 22, 23, 24, 25, 26, 27, 28, 29, 30, 31, 32, 33, 34, 35, 36, 37, 38, 39, 40, 41, 42, 43, 44, 45, 46, 47, 48, 49, 50, 51, 52, 53, 54, 55, 56, 57, 58, 59, 60, 61, 62, 63, 64, 65, 66, 67, 68, 69, 70, 71, 72, 73, 74, 75, 76, 77, 78, 79, 80, 81, 82, 83, 84, 85, 86, 87, 88, 89, 90, 91, 92, 93, 94, 95, 96, 97, 98, 99, 100, 101, 102, 103, 104, 105, 106, 107, 108, 109, 110, 111, 112, 113, 114, 115, 116, 117, 118, 119, 120, 121, 122, 123, 124, 125, 126, 127, 128, 129, 130, 131, 132, 133, 134, 135, 136, 137, 138, 139, 140, 141, 142, 143, 144, 145, 146, 147, 148, 149, 150, 151, 152, 153, 154, 155, 156, 157, 158, 159, 160, 161, 162, 163, 164, 165, 166, 167, 168, 169, 170, 171, 172, 173, 174, 175, 176, 177, 178, 179, 180, 181, 182, 183, 184, 185, 186, 187, 188, 189, 190, 191, 192, 193, 194, 195, 196, 197, 198, 199, 200, 201] (by decide +kernel) (by decide +kernel)) (goodIn_sub (fun _ h => List.mem_cons_of_mem _ (List.mem_append_right _ h)) (by decide +kernel))
set_option maxRecDepth 20000 in
theorem gL_longest_X4_longest : GoodIn wsL_longest (wsV RL 61 RX4 yX4_longest wsX4_longest) := goodIn_app (goodIn_of _ (by decide +kernel)) ggL_longest_X4_longest
theorem dL_longest_0 : decode cL_longest 0 = .ok (.aload_n 3, 1) := by decide +kernel
theorem dL_longest_1 : decode cL_longest 1 = .ok (.iconst 0, 1) := by decide +kernel
theorem dL_longest_2 : decode cL_longest 2 = .ok (.aload_n 0, 1) := by decide +kernel
theorem dL_longest_3 : decode cL_longest 3 = .ok (.iload_n 1, 1) := by decide +kernel
theorem dL_longest_4 : decode cL_longest 4 = .ok (.iload_n 2, 1) := by decide +kernel
theorem dL_longest_5 : decode cL_longest 5 = .ok (.invokevirtual 61, 3) := by decide +kernel
theorem dL_longest_8 : decode cL_longest 8 = .ok (.i2l, 1) := by decide +kernel
theorem dL_longest_9 : decode cL_longest 9 = .ok (.lastore, 1) := by decide +kernel
theorem dL_longest_10 : decode cL_longest 10 = .ok (.goto 7, 3) := by decide +kernel
theorem dL_longest_13 : decode cL_longest 13 = .ok (.astore 4, 2) := by decide +kernel
theorem dL_longest_15 : decode cL_longest 15 = .ok (.iconst 1, 1) := by decide +kernel
theorem dL_longest_16 : decode cL_longest 16 = .ok (.ireturn, 1) := by decide +kernel
theorem dL_longest_17 : decode cL_longest 17 = .ok (.iconst 0, 1) := by decide +kernel
theorem dL_longest_18 : decode cL_longest 18 = .ok (.ireturn, 1) := by decide +kernel
set_option maxRecDepth 20000 in
theorem ggL_quickest_X4_quickest : GoodIn wsL_quickest wsX4_quickest := goodIn_ca (goodIn_r _ [6, 7, 8, 5, 9, 10, 11, 12, 13, 14, 15, 16, 17, 18, 19, 20, 21, 22, 23, 24, 25, 26, 27, 28, 29, 30, 31, 32, 33, 34, 35, 36, 37, 38, 39, 40, 41, 42, 43, 44, 45, 46, 47, 48, 49, 50, 51, 52, 53, 54, 55, 56, 57, 58, 59, 60, 61, 62, 63, 64, 65, 66, 67, 68, 69, 70, 71, 72, 73, 74, 75, 76, 77, 78, 79, 80, 81, 82, 83, 84, 85, 86, 87, 88, 89, 90, 91, 92, 93, 94, 95, 96, 97, 98, 99, 100, 101, 102, 103, 104, 105, 106, 107, 108, 109, 110, 111, 112, 113, 114, 115, 116, 117, 118, 119, 120, 121, 122, 123, 124, 125, 126, 127, 128, 129, 130, 131, 132, 133, 134, 135, 136, 137, 138, 139, 140, 141, 142, 143, 144, 145, 146, 147, 148, 149, 150, 151, 152, 153, 154, 155, 156, 157, 158, 159, 160, 161, 162, 163, 164, 165, 166, 167, 168, 169, 170, 171, 172, 173, 174, 175, 176, 177, 178, 179, 180, 181, 182, 183, 184, 185, 186, 187, 188, 189, 190, 191, 192, 193, 194, 195, 196, 197, 198, 199, 200, 201, 202, 203, 204, 205] (by decide +kernel) (by decide +kernel)) (goodIn_sub (fun _ h => List.mem_cons_of_mem _ (List.mem_append_right _ h)) (by decide +kernel))
set_option maxRecDepth 20000 in
theorem gL_quickest_X4_quickest : GoodIn wsL_quickest (wsV RL 64 RX4 yX4_quickest wsX4_quickest) := goodIn_app (goodIn_of _ (by decide +kernel)) ggL_quickest_X4_quickest
theorem dL_quickest_0 : decode cL_quickest 0 = .ok (.aload_n 2, 1) := by decide +kernel
theorem dL_quickest_1 : decode cL_quickest 1 = .ok (.iconst 0, 1) := by decide +kernel
theorem dL_quickest_2 : decode cL_quickest 2 = .ok (.aload_n 0, 1) := by decide +kernel
theorem dL_quickest_3 : decode cL_quickest 3 = .ok (.iload_n 1, 1) := by decide +kernel
theorem dL_quickest_4 : decode cL_quickest 4 = .ok (.invokevirtual 64, 3) := by decide +kernel
theorem dL_quickest_7 : decode cL_quickest 7 = .ok (.i2l, 1) := by decide +kernel
theorem dL_quickest_8 : decode cL_quickest 8 = .ok (.lastore, 1) := by decide +kernel
theorem dL_quickest_9 : decode cL_quickest 9 = .ok (.goto 6, 3) := by decide +kernel
theorem dL_quickest_12 : decode cL_quickest 12 = .ok (.astore_n 3, 1) := by decide +kernel
theorem dL_quickest_13 : decode cL_quickest 13 = .ok (.iconst 1, 1) := by decide +kernel
theorem dL_quickest_14 : decode cL_quickest 14 = .ok (.ireturn, 1) := by decide +kernel
theorem dL_quickest_15 : decode cL_quickest 15 = .ok (.iconst 0, 1) := by decide +kernel
theorem dL_quickest_16 : decode cL_quickest 16 = .ok (.ireturn, 1) := by decide +kernel
set_option maxRecDepth 20000 in
theorem ggL_way_X4_way : GoodIn wsL_way wsX4_way := goodIn_ca (goodIn_r _ [6, 7, 8, 9, 10, 11, 12, 13, 14, 5, 15, 16, 17, 18, 19, 20, 21, 22, 23, 24, 25, 26, 27, 28, 29, 30, 31, 32, 33, 34, 35, 36, 37, 38, 39, 40, 41, 42, 43, 44, 45, 46, 47, 48, 49, 50, 51, 52, 53, 54, 55, 56, 57, 58, 59, 60, 61, 62, 63, 64, 65] (by decide +kernel) (by decide +kernel)) (goodIn_sub (fun _ h => List.mem_cons_of_mem _ (List.mem_append_right _ h)) (by decide +kernel))
set_option maxRecDepth 20000 in
theorem gL_way_X4_way : GoodIn wsL_way (wsV RL 67 RX4 yX4_way wsX4_way) := goodIn_app (goodIn_of _ (by decide +kernel)) ggL_way_X4_way
theorem dL_way_0 : decode cL_way 0 = .ok (.aload_n 3, 1) := by decide +kernel
theorem dL_way_1 : decode cL_way 1 = .ok (.iconst 0, 1) := by decide +kernel
theorem dL_way_2 : decode cL_way 2 = .ok (.aload_n 0, 1) := by decide +kernel
theorem dL_way_3 : decode cL_way 3 = .ok (.iload_n 1, 1) := by decide +kernel
theorem dL_way_4 : decode cL_way 4 = .ok (.iload_n 2, 1) := by decide +kernel
theorem dL_way_5 : decode cL_way 5 = .ok (.invokevirtual 67, 3) := by decide +kernel
theorem dL_way_8 : decode cL_way 8 = .ok (.i2l, 1) := by decide +kernel
theorem dL_way_9 : decode cL_way 9 = .ok (.lastore, 1) := by decide +kernel
theorem dL_way_10 : decode cL_way 10 = .ok (.goto 7, 3) := by decide +kernel
theorem dL_way_13 : decode cL_way 13 = .ok (.astore 4, 2) := by decide +kernel
theorem dL_way_15 : decode cL_way 15 = .ok (.iconst 1, 1) := by decide +kernel
theorem dL_way_16 : decode cL_way 16 = .ok (.ireturn, 1) := by decide +kernel
theorem dL_way_17 : decode cL_way 17 = .ok (.iconst 0, 1) := by decide +kernel
theorem dL_way_18 : decode cL_way 18 = .ok (.ireturn, 1) := by decide +kernel
set_option maxRecDepth 20000 in
theorem ggL_highest_X4_highest : GoodIn wsL_highest wsX4_highest := goodIn_ca (goodIn_r _ [6, 7, 8, 9, 10, 11, 12, 13, 14, 5, 15, 16, 17, 18, 19, 20, 21, 22, 23, 24, 25, 26, 27, 28, 29, 30, 31, 32, 33, 34, 35, 36, 37, 38, 39, 40, 41, 42, 43, 44, 45, 46, 47, 48, 49, 50, 51, 52, 53, 54, 55, 56, 57, 58, 59, 60, 61, 62, 63, 64, 65, 66] (by decide +kernel) (by decide +kernel)) (goodIn_sub (fun _ h => List.mem_cons_of_mem _ (List.mem_append_right _ h)) (by decide +kernel))
set_option maxRecDepth 20000 in
theorem gL_highest_X4_highest : GoodIn wsL_highest (wsV RL 70 RX4 yX4_highest wsX4_highest) := goodIn_app (goodIn_of _ (by decide +kernel)) ggL_highest_X4_highest
theorem dL_highest_0 : decode cL_highest 0 = .ok (.aload_n 2, 1) := by decide +kernel
theorem dL_highest_1 : decode cL_highest 1 = .ok (.iconst 0, 1) := by decide +kernel
theorem dL_highest_2 : decode cL_highest 2 = .ok (.aload_n 0, 1) := by decide +kernel
theorem dL_highest_3 : decode cL_highest 3 = .ok (.iload_n 1, 1) := by decide +kernel
theorem dL_highest_4 : decode cL_highest 4 = .ok (.invokevirtual 70, 3) := by decide +kernel
theorem dL_highest_7 : decode cL_highest 7 = .ok (.i2l, 1) := by decide +kernel
theorem dL_highest_8 : decode cL_highest 8 = .ok (.lastore, 1) := by decide +kernel
theorem dL_highest_9 : decode cL_highest 9 = .ok (.goto 6, 3) := by decide +kernel
theorem dL_highest_12 : decode cL_highest 12 = .ok (.astore_n 3, 1) := by decide +kernel
theorem dL_highest_13 : decode cL_highest 13 = .ok (.iconst 1, 1) := by decide +kernel
theorem dL_highest_14 : decode cL_highest 14 = .ok (.ireturn, 1) := by decide +kernel
theorem dL_highest_15 : decode cL_highest 15 = .ok (.iconst 0, 1) := by decide +kernel
theorem dL_highest_16 : decode cL_highest 16 = .ok (.ireturn, 1) := by decide +kernel
