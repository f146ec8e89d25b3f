theorem dX4_advise_35 : decode cX4_advise 35 = .ok (.getfield 53, 3) := by decide +kernel
theorem dX4_advise_38 : decode cX4_advise 38 = .ok (.if_icmp .ge 74, 3) := by decide +kernel
theorem dX4_advise_41 : decode cX4_advise 41 = .ok (.aload_n 0, 1) := by decide +kernel
theorem dX4_advise_42 : decode cX4_advise 42 = .ok (.getfield 12, 3) := by decide +kernel
theorem dX4_advise_45 : decode cX4_advise 45 = .ok (.getfield 90, 3) := by decide +kernel
theorem dX4_advise_48 : decode cX4_advise 48 = .ok (.iload 5, 2) := by decide +kernel
theorem dX4_advise_50 : decode cX4_advise 50 = .ok (.iaload, 1) := by decide +kernel
theorem dX4_advise_51 : decode cX4_advise 51 = .ok (.istore 6, 2) := by decide +kernel
theorem dX4_advise_53 : decode cX4_advise 53 = .ok (.aload_n 0, 1) := by decide +kernel
theorem dX4_advise_54 : decode cX4_advise 54 = .ok (.getfield 12, 3) := by decide +kernel
theorem dX4_advise_57 : decode cX4_advise 57 = .ok (.getfield 144, 3) := by decide +kernel
theorem dX4_advise_60 : decode cX4_advise 60 = .ok (.iload 5, 2) := by decide +kernel
theorem dX4_advise_62 : decode cX4_advise 62 = .ok (.iaload, 1) := by decide +kernel
theorem dX4_advise_63 : decode cX4_advise 63 = .ok (.istore 7, 2) := by decide +kernel
theorem dX4_advise_65 : decode cX4_advise 65 = .ok (.aload_n 0, 1) := by decide +kernel
theorem dX4_advise_66 : decode cX4_advise 66 = .ok (.getfield 12, 3) := by decide +kernel
theorem dX4_advise_69 : decode cX4_advise 69 = .ok (.iload 5, 2) := by decide +kernel
theorem dX4_advise_71 : decode cX4_advise 71 = .ok (.iload_n 3, 1) := by decide +kernel
theorem dX4_advise_72 : decode cX4_advise 72 = .ok (.iload 4, 2) := by decide +kernel
theorem dX4_advise_74 : decode cX4_advise 74 = .ok (.invokevirtual 93, 3) := by decide +kernel
theorem dX4_advise_77 : decode cX4_advise 77 = .ok (.aload_n 0, 1) := by decide +kernel
theorem dX4_advise_78 : decode cX4_advise 78 = .ok (.iload_n 1, 1) := by decide +kernel
theorem dX4_advise_79 : decode cX4_advise 79 = .ok (.iload_n 2, 1) := by decide +kernel
theorem dX4_advise_80 : decode cX4_advise 80 = .ok (.invokevirtual 147, 3) := by decide +kernel
theorem dX4_advise_83 : decode cX4_advise 83 = .ok (.istore 8, 2) := by decide +kernel
theorem dX4_advise_85 : decode cX4_advise 85 = .ok (.aload_n 0, 1) := by decide +kernel
theorem dX4_advise_86 : decode cX4_advise 86 = .ok (.getfield 12, 3) := by decide +kernel
theorem dX4_advise_89 : decode cX4_advise 89 = .ok (.iload 5, 2) := by decide +kernel
theorem dX4_advise_91 : decode cX4_advise 91 = .ok (.iload 6, 2) := by decide +kernel
theorem dX4_advise_93 : decode cX4_advise 93 = .ok (.iload 7, 2) := by decide +kernel
theorem dX4_advise_95 : decode cX4_advise 95 = .ok (.invokevirtual 93, 3) := by decide +kernel
theorem dX4_advise_98 : decode cX4_advise 98 = .ok (.iload 8, 2) := by decide +kernel
theorem dX4_advise_100 : decode cX4_advise 100 = .ok (.ifCond .eq 6, 3) := by decide +kernel
theorem dX4_advise_103 : decode cX4_advise 103 = .ok (.iload 5, 2) := by decide +kernel
theorem dX4_advise_105 : decode cX4_advise 105 = .ok (.ireturn, 1) := by decide +kernel
theorem dX4_advise_106 : decode cX4_advise 106 = .ok (.iinc 5 1, 3) := by decide +kernel
theorem dX4_advise_109 : decode cX4_advise 109 = .ok (.goto (-80), 3) := by decide +kernel
theorem dX4_advise_112 : decode cX4_advise 112 = .ok (.iconst (-1), 1) := by decide +kernel
theorem dX4_advise_113 : decode cX4_advise 113 = .ok (.ireturn, 1) := by decide +kernel
set_option maxRecDepth 20000 in
theorem ggX4_longest_X4_isWithin : GoodIn wsX4_longest wsX4_isWithin := goodIn_r _ [4] (by decide +kernel) (by decide +kernel)
set_option maxRecDepth 20000 in
theorem gX4_longest_X4_isWithin : GoodIn wsX4_longest (va_wsS RX4 45 yX4_isWithin wsX4_isWithin) := goodIn_app (goodIn_of _ (by decide +kernel)) ggX4_longest_X4_isWithin
set_option maxRecDepth 20000 in
theorem ggX4_longest_X4_requireArgument : GoodIn wsX4_longest wsX4_requireArgument := goodIn_ca (goodIn_r _ [7, 8, 9] (by decide +kernel) (by decide +kernel)) (goodIn_sub (fun _ h => List.mem_cons_of_mem _ (List.mem_append_right _ h)) (by decide +kernel))
set_option maxRecDepth 20000 in
theorem gX4_longest_X4_requireArgument : GoodIn wsX4_longest (va_wsS RX4 49 yX4_requireArgument wsX4_requireArgument) := goodIn_app (goodIn_of _ (by decide +kernel)) ggX4_longest_X4_requireArgument
set_option maxRecDepth 20000 in
theorem ggX4_longest_X4_wouldComeInOrder : GoodIn wsX4_longest wsX4_wouldComeInOrder := goodIn_r _ [13, 14, 15, 16, 17, 18, 19, 20, 21, 22, 23, 3, 24, 25, 26, 27, 28, 29, 30, 31, 32, 33, 34, 35, 36, 37, 38, 39, 40, 41, 42, 43, 44, 45, 46, 47, 48, 49, 50, 51, 52, 53, 54, 55, 56, 57, 58, 59, 60, 61, 62, 63, 64, 65, 66, 67, 68, 69, 70, 71, 72, 73, 74, 75, 76, 77, 78, 79, 80, 81, 82, 83, 84, 85, 86, 87, 88, 89, 90, 91, 92, 93, 94, 95, 96, 97, 98, 99, 100, 101, 102, 103, 104, 105, 2, 4, 106, 107, 108, 109, 110, 111, 112, 113, 114, 115, 116, 117, 118, 119, 120, 121, 122, 123, 124, 125, 126, 127, 128, 129, 130, 131, 132, 133, 134, 135, 136, 137, 138, 139, 140, 141, 142, 143, 144, 145, 146, 147, 148, 149, 150, 151, 152, 153, 154, 155, 156, 157, 158, 159, 160, 161, 162, 163, 164, 165, 166, 167, 168, 169, 170, 171, 172, 173, 174, 175, 176, 177, 178, 179, 180, 181, 182, 183, 184, 185, 186, 187, 188, 189, 190, 191, 192, 193, 194, 195, 196] (by decide +kernel) (by decide +kernel)
set_option maxRecDepth 20000 in
theorem gX4_longest_X4_wouldComeInOrder : GoodIn wsX4_longest (wsV RX4 147 RX4 yX4_wouldComeInOrder wsX4_wouldComeInOrder) := goodIn_app (goodIn_of _ (by decide +kernel)) ggX4_longest_X4_wouldComeInOrder
theorem dX4_longest_0 : decode cX4_longest 0 = .ok (.iload_n 1, 1) := by decide +kernel
theorem dX4_longest_1 : decode cX4_longest 1 = .ok (.iconst 1, 1) := by decide +kernel
theorem dX4_longest_2 : decode cX4_longest 2 = .ok (.bipush 9, 2) := by decide +kernel
theorem dX4_longest_4 : decode cX4_longest 4 = .ok (.invokestatic 45, 3) := by decide +kernel
theorem dX4_longest_7 : decode cX4_longest 7 = .ok (.invokestatic 49, 3) := by decide +kernel
theorem dX4_longest_10 : decode cX4_longest 10 = .ok (.iload_n 2, 1) := by decide +kernel
theorem dX4_longest_11 : decode cX4_longest 11 = .ok (.iconst 1, 1) := by decide +kernel
theorem dX4_longest_12 : decode cX4_longest 12 = .ok (.bipush 20, 2) := by decide +kernel
theorem dX4_longest_14 : decode cX4_longest 14 = .ok (.invokestatic 45, 3) := by decide +kernel
theorem dX4_longest_17 : decode cX4_longest 17 = .ok (.invokestatic 49, 3) := by decide +kernel
theorem dX4_longest_20 : decode cX4_longest 20 = .ok (.iconst 0, 1) := by decide +kernel
theorem dX4_longest_21 : decode cX4_longest 21 = .ok (.istore_n 3, 1) := by decide +kernel
theorem dX4_longest_22 : decode cX4_longest 22 = .ok (.iconst 0, 1) := by decide +kernel
theorem dX4_longest_23 : decode cX4_longest 23 = .ok (.istore 4, 2) := by decide +kernel
theorem dX4_longest_25 : decode cX4_longest 25 = .ok (.iconst 1, 1) := by decide +kernel
theorem dX4_longest_26 : decode cX4_longest 26 = .ok (.istore 5, 2) := by decide +kernel
theorem dX4_longest_28 : decode cX4_longest 28 = .ok (.iload 5, 2) := by decide +kernel
theorem dX4_longest_30 : decode cX4_longest 30 = .ok (.bipush 6, 2) := by decide +kernel
theorem dX4_longest_32 : decode cX4_longest 32 = .ok (.if_icmp .gt 29, 3) := by decide +kernel
theorem dX4_longest_35 : decode cX4_longest 35 = .ok (.iload_n 3, 1) := by decide +kernel
theorem dX4_longest_36 : decode cX4_longest 36 = .ok (.bipush 10, 2) := by decide +kernel
theorem dX4_longest_38 : decode cX4_longest 38 = .ok (.imul, 1) := by decide +kernel
theorem dX4_longest_39 : decode cX4_longest 39 = .ok (.iload_n 1, 1) := by decide +kernel
theorem dX4_longest_40 : decode cX4_longest 40 = .ok (.iadd, 1) := by decide +kernel
theorem dX4_longest_41 : decode cX4_longest 41 = .ok (.istore_n 3, 1) := by decide +kernel
theorem dX4_longest_42 : decode cX4_longest 42 = .ok (.aload_n 0, 1) := by decide +kernel
theorem dX4_longest_43 : decode cX4_longest 43 = .ok (.iload_n 3, 1) := by decide +kernel
theorem dX4_longest_44 : decode cX4_longest 44 = .ok (.iload_n 2, 1) := by decide +kernel
theorem dX4_longest_45 : decode cX4_longest 45 = .ok (.invokevirtual 147, 3) := by decide +kernel
theorem dX4_longest_48 : decode cX4_longest 48 = .ok (.ifCond .eq 7, 3) := by decide +kernel
theorem dX4_longest_51 : decode cX4_longest 51 = .ok (.iload 5, 2) := by decide +kernel
theorem dX4_longest_53 : decode cX4_longest 53 = .ok (.istore 4, 2) := by decide +kernel
theorem dX4_longest_55 : decode cX4_longest 55 = .ok (.iinc 5 1, 3) := by decide +kernel
theorem dX4_longest_58 : decode cX4_longest 58 = .ok (.goto (-30), 3) := by decide +kernel
theorem dX4_longest_61 : decode cX4_longest 61 = .ok (.iload 4, 2) := by decide +kernel
theorem dX4_longest_63 : decode cX4_longest 63 = .ok (.ireturn, 1) := by decide +kernel
set_option maxRecDepth 20000 in
theorem ggX4_quickest_X4_isWord : GoodIn wsX4_quickest wsX4_isWord := goodIn_r _ [4, 5, 6, 7, 3, 8] (by decide +kernel) (by decide +kernel)
set_option maxRecDepth 20000 in
theorem gX4_quickest_X4_isWord : GoodIn wsX4_quickest (va_wsS RX4 151 yX4_isWord wsX4_isWord) := goodIn_app (goodIn_of _ (by decide +kernel)) ggX4_quickest_X4_isWord
set_option maxRecDepth 20000 in
theorem ggX4_quickest_X4_requireArgument : GoodIn wsX4_quickest wsX4_requireArgument := goodIn_ca (goodIn_r _ [11, 12, 13] (by decide +kernel) (by decide +kernel)) (goodIn_sub (fun _ h => List.mem_cons_of_mem _ (List.mem_append_right _ h)) (by decide +kernel))
set_option maxRecDepth 20000 in
theorem gX4_quickest_X4_requireArgument : GoodIn wsX4_quickest (va_wsS RX4 49 yX4_requireArgument wsX4_requireArgument) := goodIn_app (goodIn_of _ (by decide +kernel)) ggX4_quickest_X4_requireArgument
set_option maxRecDepth 20000 in
theorem ggX4_quickest_X4_wouldComeInOrder : GoodIn wsX4_quickest wsX4_wouldComeInOrder := goodIn_r _ [17, 18, 19, 20, 21, 22, 23, 24, 25, 26, 27, 3, 28, 29, 30, 31, 32, 33, 34, 35, 36, 37, 38, 39, 40, 41, 42, 43, 44, 45, 46, 47, 48, 49, 50, 51, 52, 53, 54, 55, 56, 57, 58, 59, 60, 61, 62, 63, 64, 65, 66, 67, 68, 69, 70, 71, 72, 73, 74, 75, 76, 77, 78, 79, 80, 81, 82, 83, 84, 85, 86, 87, 88, 89, 90, 91, 92, 93, 94, 95, 96, 97, 98, 99, 100, 101, 102, 103, 104, 105, 106, 107, 108, 109, 7, 8, 110, 111, 112, 113, 114, 115, 116, 117, 118, 119, 120, 121, 122, 123, 124, 125, 126, 127, 128, 129, 130, 131, 132, 133, 134, 135, 136, 137, 138, 139, 140, 141, 142, 143, 144, 145, 146, 147, 148, 149, 150, 151, 152, 153, 154, 155, 156, 157, 158, 159, 160, 161, 162, 163, 164, 165, 166, 167, 168, 169, 170, 171, 172, 173, 174, 175, 176, 177, 178, 179, 180, 181, 182, 183, 184, 185, 186, 187, 188, 189, 190, 191, 192, 193, 194, 195, 196, 197, 198, 199, 200] (by decide +kernel) (by decide +kernel)
set_option maxRecDepth 20000 in
theorem gX4_quickest_X4_wouldComeInOrder : GoodIn wsX4_quickest (wsV RX4 147 RX4 yX4_wouldComeInOrder wsX4_wouldComeInOrder) := goodIn_app (goodIn_of _ (by decide +kernel)) ggX4_quickest_X4_wouldComeInOrder
theorem dX4_quickest_0 : decode cX4_quickest 0 = .ok (.iload_n 1, 1) := by decide +kernel
theorem dX4_quickest_1 : decode cX4_quickest 1 = .ok (.invokestatic 151, 3) := by decide +kernel
theorem dX4_quickest_4 : decode cX4_quickest 4 = .ok (.invokestatic 49, 3) := by decide +kernel
theorem dX4_quickest_7 : decode cX4_quickest 7 = .ok (.iconst 1, 1) := by decide +kernel
theorem dX4_quickest_8 : decode cX4_quickest 8 = .ok (.istore_n 2, 1) := by decide +kernel
theorem dX4_quickest_9 : decode cX4_quickest 9 = .ok (.iload_n 2, 1) := by decide +kernel
theorem dX4_quickest_10 : decode cX4_quickest 10 = .ok (.bipush 20, 2) := by decide +kernel
theorem dX4_quickest_12 : decode cX4_quickest 12 = .ok (.if_icmp .gt 20, 3) := by decide +kernel
theorem dX4_quickest_15 : decode cX4_quickest 15 = .ok (.aload_n 0, 1) := by decide +kernel
theorem dX4_quickest_16 : decode cX4_quickest 16 = .ok (.iload_n 1, 1) := by decide +kernel
theorem dX4_quickest_17 : decode cX4_quickest 17 = .ok (.iload_n 2, 1) := by decide +kernel
theorem dX4_quickest_18 : decode cX4_quickest 18 = .ok (.invokevirtual 147, 3) := by decide +kernel
theorem dX4_quickest_21 : decode cX4_quickest 21 = .ok (.ifCond .eq 5, 3) := by decide +kernel
theorem dX4_quickest_24 : decode cX4_quickest 24 = .ok (.iload_n 2, 1) := by decide +kernel
theorem dX4_quickest_25 : decode cX4_quickest 25 = .ok (.ireturn, 1) := by decide +kernel
theorem dX4_quickest_26 : decode cX4_quickest 26 = .ok (.iinc 2 1, 3) := by decide +kernel
theorem dX4_quickest_29 : decode cX4_quickest 29 = .ok (.goto (-20), 3) := by decide +kernel
theorem dX4_quickest_32 : decode cX4_quickest 32 = .ok (.iconst (-1), 1) := by decide +kernel
theorem dX4_quickest_33 : decode cX4_quickest 33 = .ok (.ireturn, 1) := by decide +kernel
set_option maxRecDepth 20000 in
theorem ggX4_way_X0_hasChamber : GoodIn wsX4_way wsX0_hasChamber := goodIn_r _ [6, 7, 8, 9, 10, 46, 47, 48, 49, 50, 51, 52, 53, 54, 55, 56, 57, 58, 59, 60] (by decide +kernel) (by decide +kernel)
set_option maxRecDepth 20000 in
theorem gX4_way_X0_hasChamber : GoodIn wsX4_way (wsV RX4 67 RX0 yX0_hasChamber wsX0_hasChamber) := goodIn_app (goodIn_of _ (by decide +kernel)) ggX4_way_X0_hasChamber
set_option maxRecDepth 20000 in
theorem ggX4_way_X4_requireIndex : GoodIn wsX4_way wsX4_requireIndex := goodIn_ca (goodIn_r _ [13, 14, 15] (by decide +kernel) (by decide +kernel)) (goodIn_sub (fun _ h => List.mem_cons_of_mem _ (List.mem_append_right _ h)) (by decide +kernel))
set_option maxRecDepth 20000 in
theorem gX4_way_X4_requireIndex : GoodIn wsX4_way (va_wsS RX4 71 yX4_requireIndex wsX4_requireIndex) := goodIn_app (goodIn_of _ (by decide +kernel)) ggX4_way_X4_requireIndex
set_option maxRecDepth 20000 in
theorem ggX4_way_X0_shortestWay : GoodIn wsX4_way wsX0_shortestWay := goodIn_r _ [19, 20, 7, 21, 22, 23, 24, 25, 26, 27, 28, 29, 30, 31, 5, 32, 33, 34, 35, 36, 37, 38, 46, 47, 48, 49, 50, 51, 52, 53, 54, 55, 56, 57, 58, 59, 60] (by decide +kernel) (by decide +kernel)
set_option maxRecDepth 20000 in
theorem gX4_way_X0_shortestWay : GoodIn wsX4_way (wsV RX4 154 RX0 yX0_shortestWay wsX0_shortestWay) := goodIn_app (goodIn_of _ (by decide +kernel)) ggX4_way_X0_shortestWay
theorem dX4_way_0 : decode cX4_way 0 = .ok (.aload_n 0, 1) := by decide +kernel
theorem dX4_way_1 : decode cX4_way 1 = .ok (.getfield 12, 3) := by decide +kernel
theorem dX4_way_4 : decode cX4_way 4 = .ok (.iload_n 1, 1) := by decide +kernel
theorem dX4_way_5 : decode cX4_way 5 = .ok (.invokevirtual 67, 3) := by decide +kernel
theorem dX4_way_8 : decode cX4_way 8 = .ok (.invokestatic 71, 3) := by decide +kernel
theorem dX4_way_11 : decode cX4_way 11 = .ok (.aload_n 0, 1) := by decide +kernel
theorem dX4_way_12 : decode cX4_way 12 = .ok (.getfield 12, 3) := by decide +kernel
theorem dX4_way_15 : decode cX4_way 15 = .ok (.iload_n 2, 1) := by decide +kernel
theorem dX4_way_16 : decode cX4_way 16 = .ok (.invokevirtual 67, 3) := by decide +kernel
theorem dX4_way_19 : decode cX4_way 19 = .ok (.invokestatic 71, 3) := by decide +kernel
theorem dX4_way_22 : decode cX4_way 22 = .ok (.aload_n 0, 1) := by decide +kernel
theorem dX4_way_23 : decode cX4_way 23 = .ok (.getfield 12, 3) := by decide +kernel
theorem dX4_way_26 : decode cX4_way 26 = .ok (.iload_n 1, 1) := by decide +kernel
theorem dX4_way_27 : decode cX4_way 27 = .ok (.iload_n 2, 1) := by decide +kernel
theorem dX4_way_28 : decode cX4_way 28 = .ok (.invokevirtual 154, 3) := by decide +kernel
theorem dX4_way_31 : decode cX4_way 31 = .ok (.ireturn, 1) := by decide +kernel
set_option maxRecDepth 20000 in
theorem ggX4_highest_X0_hasChamber : GoodIn wsX4_highest wsX0_hasChamber := goodIn_r _ [6, 7, 8, 9, 10, 47, 48, 49, 50, 51, 52, 53, 54, 55, 56, 57, 58, 59, 60, 61] (by decide +kernel) (by decide +kernel)
set_option maxRecDepth 20000 in
theorem gX4_highest_X0_hasChamber : GoodIn wsX4_highest (wsV RX4 67 RX0 yX0_hasChamber wsX0_hasChamber) := goodIn_app (goodIn_of _ (by decide +kernel)) ggX4_highest_X0_hasChamber
set_option maxRecDepth 20000 in
theorem ggX4_highest_X4_requireIndex : GoodIn wsX4_highest wsX4_requireIndex := goodIn_ca (goodIn_r _ [13, 14, 15] (by decide +kernel) (by decide +kernel)) (goodIn_sub (fun _ h => List.mem_cons_of_mem _ (List.mem_append_right _ h)) (by decide +kernel))
set_option maxRecDepth 20000 in
theorem gX4_highest_X4_requireIndex : GoodIn wsX4_highest (va_wsS RX4 71 yX4_requireIndex wsX4_requireIndex) := goodIn_app (goodIn_of _ (by decide +kernel)) ggX4_highest_X4_requireIndex
set_option maxRecDepth 20000 in
theorem ggX4_highest_X0_highestWater : GoodIn wsX4_highest wsX0_highestWater := goodIn_r _ [19, 20, 7, 21, 22, 23, 24, 25, 26, 27, 28, 29, 30, 5, 31, 32, 33, 34, 35, 36, 37, 38, 39, 47, 48, 49, 50, 51, 52, 53, 54, 55, 56, 57, 58, 59, 60, 61] (by decide +kernel) (by decide +kernel)
set_option maxRecDepth 20000 in
theorem gX4_highest_X0_highestWater : GoodIn wsX4_highest (wsV RX4 157 RX0 yX0_highestWater wsX0_highestWater) := goodIn_app (goodIn_of _ (by decide +kernel)) ggX4_highest_X0_highestWater
theorem dX4_highest_0 : decode cX4_highest 0 = .ok (.aload_n 0, 1) := by decide +kernel
theorem dX4_highest_1 : decode cX4_highest 1 = .ok (.getfield 12, 3) := by decide +kernel
theorem dX4_highest_4 : decode cX4_highest 4 = .ok (.iload_n 1, 1) := by decide +kernel
theorem dX4_highest_5 : decode cX4_highest 5 = .ok (.invokevirtual 67, 3) := by decide +kernel
theorem dX4_highest_8 : decode cX4_highest 8 = .ok (.invokestatic 71, 3) := by decide +kernel
theorem dX4_highest_11 : decode cX4_highest 11 = .ok (.aload_n 0, 1) := by decide +kernel
theorem dX4_highest_12 : decode cX4_highest 12 = .ok (.getfield 12, 3) := by decide +kernel
theorem dX4_highest_15 : decode cX4_highest 15 = .ok (.iload_n 1, 1) := by decide +kernel
theorem dX4_highest_16 : decode cX4_highest 16 = .ok (.invokevirtual 157, 3) := by decide +kernel
theorem dX4_highest_19 : decode cX4_highest 19 = .ok (.ireturn, 1) := by decide +kernel
set_option maxRecDepth 20000 in
theorem ggX4_mean_X2_meanStrength : GoodIn wsX4_mean wsX2_meanStrength := goodIn_r _ [6, 7, 8, 9, 10, 5, 11, 12, 20, 21, 22, 23, 24, 25, 26, 27] (by decide +kernel) (by decide +kernel)
set_option maxRecDepth 20000 in
theorem gX4_mean_X2_meanStrength : GoodIn wsX4_mean (wsV RX4 160 RX2 yX2_meanStrength wsX2_meanStrength) := goodIn_app (goodIn_of _ (by decide +kernel)) ggX4_mean_X2_meanStrength
theorem dX4_mean_0 : decode cX4_mean 0 = .ok (.aload_n 0, 1) := by decide +kernel
theorem dX4_mean_1 : decode cX4_mean 1 = .ok (.getfield 28, 3) := by decide +kernel
theorem dX4_mean_4 : decode cX4_mean 4 = .ok (.invokevirtual 160, 3) := by decide +kernel
theorem dX4_mean_7 : decode cX4_mean 7 = .ok (.dreturn, 1) := by decide +kernel
set_option maxRecDepth 20000 in
theorem ggX4_digest_X4_countFact : GoodIn wsX4_digest wsX4_countFact := goodIn_r _ [9, 3, 10, 11, 12, 4, 13, 14, 15, 16, 17, 18, 19, 20, 21, 22, 23, 24, 25, 26, 27, 28, 29, 30, 31, 32, 64, 65, 66, 67, 68, 69, 70, 71, 72, 73, 74, 75, 76, 77, 78, 79, 80, 81, 82, 83, 84, 85, 86, 87, 88, 89, 90, 91, 92, 93] (by decide +kernel) (by decide +kernel)
set_option maxRecDepth 20000 in
theorem gX4_digest_X4_countFact : GoodIn wsX4_digest (wsV RX4 134 RX4 yX4_countFact wsX4_countFact) := goodIn_app (goodIn_of _ (by decide +kernel)) ggX4_digest_X4_countFact
set_option maxRecDepth 20000 in
theorem ggX4_digest_X0_chamberFact : GoodIn wsX4_digest wsX0_chamberFact := goodIn_r _ [36, 37, 23, 38, 32, 39, 40, 41, 42, 43, 16, 44, 45, 19, 20, 21, 22, 24, 25, 26, 71, 72, 73, 74, 75, 76, 77, 78, 79, 80, 81, 82, 83, 84, 85] (by decide +kernel) (by decide +kernel)
set_option maxRecDepth 20000 in
theorem gX4_digest_X0_chamberFact : GoodIn wsX4_digest (wsV RX4 97 RX0 yX0_chamberFact wsX0_chamberFact) := goodIn_app (goodIn_of _ (by decide +kernel)) ggX4_digest_X0_chamberFact
set_option maxRecDepth 20000 in
theorem ggX4_digest_X0_passageFact : GoodIn wsX4_digest wsX0_passageFact := goodIn_r _ [49, 24, 26, 50, 51, 19, 20, 21, 16, 22, 23, 25, 71, 72, 73, 74, 75, 76, 77, 78, 79, 80, 81, 82, 83, 84, 85] (by decide +kernel) (by decide +kernel)
set_option maxRecDepth 20000 in
theorem gX4_digest_X0_passageFact : GoodIn wsX4_digest (wsV RX4 104 RX0 yX0_passageFact wsX0_passageFact) := goodIn_app (goodIn_of _ (by decide +kernel)) ggX4_digest_X0_passageFact
set_option maxRecDepth 20000 in
theorem ggX4_digest_X2_heardFact : GoodIn wsX4_digest wsX2_heardFact := goodIn_r _ [56, 57, 86, 87, 88, 89, 90, 91, 92, 93] (by decide +kernel) (by decide +kernel)
set_option maxRecDepth 20000 in
theorem gX4_digest_X2_heardFact : GoodIn wsX4_digest (wsV RX4 121 RX2 yX2_heardFact wsX2_heardFact) := goodIn_app (goodIn_of _ (by decide +kernel)) ggX4_digest_X2_heardFact
set_option maxRecDepth 20000 in
theorem ggX4_digest_X2_cameInOrder : GoodIn wsX4_digest wsX2_cameInOrder := goodIn_r _ [61, 62, 63, 86, 87, 88, 89, 90, 91, 92, 93] (by decide +kernel) (by decide +kernel)
set_option maxRecDepth 20000 in
theorem gX4_digest_X2_cameInOrder : GoodIn wsX4_digest (wsV RX4 124 RX2 yX2_cameInOrder wsX2_cameInOrder) := goodIn_app (goodIn_of _ (by decide +kernel)) ggX4_digest_X2_cameInOrder
theorem dX4_digest_0 : decode cX4_digest 0 = .ok (.ldc2_w 164, 3) := by decide +kernel
theorem dX4_digest_3 : decode cX4_digest 3 = .ok (.lstore_n 1, 1) := by decide +kernel
theorem dX4_digest_4 : decode cX4_digest 4 = .ok (.iconst 0, 1) := by decide +kernel
theorem dX4_digest_5 : decode cX4_digest 5 = .ok (.istore_n 3, 1) := by decide +kernel
theorem dX4_digest_6 : decode cX4_digest 6 = .ok (.iload_n 3, 1) := by decide +kernel
theorem dX4_digest_7 : decode cX4_digest 7 = .ok (.bipush 10, 2) := by decide +kernel
theorem dX4_digest_9 : decode cX4_digest 9 = .ok (.if_icmp .ge 22, 3) := by decide +kernel
theorem dX4_digest_12 : decode cX4_digest 12 = .ok (.lload_n 1, 1) := by decide +kernel
theorem dX4_digest_13 : decode cX4_digest 13 = .ok (.ldc2_w 166, 3) := by decide +kernel
theorem dX4_digest_16 : decode cX4_digest 16 = .ok (.lmul, 1) := by decide +kernel
theorem dX4_digest_17 : decode cX4_digest 17 = .ok (.aload_n 0, 1) := by decide +kernel
theorem dX4_digest_18 : decode cX4_digest 18 = .ok (.iload_n 3, 1) := by decide +kernel
theorem dX4_digest_19 : decode cX4_digest 19 = .ok (.invokevirtual 134, 3) := by decide +kernel
theorem dX4_digest_22 : decode cX4_digest 22 = .ok (.i2l, 1) := by decide +kernel
theorem dX4_digest_23 : decode cX4_digest 23 = .ok (.ladd, 1) := by decide +kernel
theorem dX4_digest_24 : decode cX4_digest 24 = .ok (.lstore_n 1, 1) := by decide +kernel
theorem dX4_digest_25 : decode cX4_digest 25 = .ok (.iinc 3 1, 3) := by decide +kernel
theorem dX4_digest_28 : decode cX4_digest 28 = .ok (.goto (-22), 3) := by decide +kernel
theorem dX4_digest_31 : decode cX4_digest 31 = .ok (.iconst 0, 1) := by decide +kernel
theorem dX4_digest_32 : decode cX4_digest 32 = .ok (.istore_n 3, 1) := by decide +kernel
theorem dX4_digest_33 : decode cX4_digest 33 = .ok (.iload_n 3, 1) := by decide +kernel
theorem dX4_digest_34 : decode cX4_digest 34 = .ok (.aload_n 0, 1) := by decide +kernel
theorem dX4_digest_35 : decode cX4_digest 35 = .ok (.getfield 12, 3) := by decide +kernel
theorem dX4_digest_38 : decode cX4_digest 38 = .ok (.getfield 53, 3) := by decide +kernel
theorem dX4_digest_41 : decode cX4_digest 41 = .ok (.if_icmp .ge 43, 3) := by decide +kernel
theorem dX4_digest_44 : decode cX4_digest 44 = .ok (.iconst 0, 1) := by decide +kernel
theorem dX4_digest_45 : decode cX4_digest 45 = .ok (.istore 4, 2) := by decide +kernel
theorem dX4_digest_47 : decode cX4_digest 47 = .ok (.iload 4, 2) := by decide +kernel
theorem dX4_digest_49 : decode cX4_digest 49 = .ok (.bipush 7, 2) := by decide +kernel
theorem dX4_digest_51 : decode cX4_digest 51 = .ok (.if_icmp .ge 27, 3) := by decide +kernel
theorem dX4_digest_54 : decode cX4_digest 54 = .ok (.lload_n 1, 1) := by decide +kernel
theorem dX4_digest_55 : decode cX4_digest 55 = .ok (.ldc2_w 166, 3) := by decide +kernel
theorem dX4_digest_58 : decode cX4_digest 58 = .ok (.lmul, 1) := by decide +kernel
theorem dX4_digest_59 : decode cX4_digest 59 = .ok (.aload_n 0, 1) := by decide +kernel
theorem dX4_digest_60 : decode cX4_digest 60 = .ok (.getfield 12, 3) := by decide +kernel
theorem dX4_digest_63 : decode cX4_digest 63 = .ok (.iload_n 3, 1) := by decide +kernel
theorem dX4_digest_64 : decode cX4_digest 64 = .ok (.iload 4, 2) := by decide +kernel
theorem dX4_digest_66 : decode cX4_digest 66 = .ok (.invokevirtual 97, 3) := by decide +kernel
theorem dX4_digest_69 : decode cX4_digest 69 = .ok (.i2l, 1) := by decide +kernel
theorem dX4_digest_70 : decode cX4_digest 70 = .ok (.ladd, 1) := by decide +kernel
theorem dX4_digest_71 : decode cX4_digest 71 = .ok (.lstore_n 1, 1) := by decide +kernel
theorem dX4_digest_72 : decode cX4_digest 72 = .ok (.iinc 4 1, 3) := by decide +kernel
theorem dX4_digest_75 : decode cX4_digest 75 = .ok (.goto (-28), 3) := by decide +kernel
theorem dX4_digest_78 : decode cX4_digest 78 = .ok (.iinc 3 1, 3) := by decide +kernel
theorem dX4_digest_81 : decode cX4_digest 81 = .ok (.goto (-48), 3) := by decide +kernel
theorem dX4_digest_84 : decode cX4_digest 84 = .ok (.iconst 0, 1) := by decide +kernel
theorem dX4_digest_85 : decode cX4_digest 85 = .ok (.istore_n 3, 1) := by decide +kernel
theorem dX4_digest_86 : decode cX4_digest 86 = .ok (.iload_n 3, 1) := by decide +kernel
theorem dX4_digest_87 : decode cX4_digest 87 = .ok (.aload_n 0, 1) := by decide +kernel
theorem dX4_digest_88 : decode cX4_digest 88 = .ok (.getfield 12, 3) := by decide +kernel
theorem dX4_digest_91 : decode cX4_digest 91 = .ok (.getfield 74, 3) := by decide +kernel
theorem dX4_digest_94 : decode cX4_digest 94 = .ok (.if_icmp .ge 42, 3) := by decide +kernel
theorem dX4_digest_97 : decode cX4_digest 97 = .ok (.iconst 0, 1) := by decide +kernel
theorem dX4_digest_98 : decode cX4_digest 98 = .ok (.istore 4, 2) := by decide +kernel
theorem dX4_digest_100 : decode cX4_digest 100 = .ok (.iload 4, 2) := by decide +kernel
theorem dX4_digest_102 : decode cX4_digest 102 = .ok (.iconst 5, 1) := by decide +kernel
theorem dX4_digest_103 : decode cX4_digest 103 = .ok (.if_icmp .ge 27, 3) := by decide +kernel
theorem dX4_digest_106 : decode cX4_digest 106 = .ok (.lload_n 1, 1) := by decide +kernel
theorem dX4_digest_107 : decode cX4_digest 107 = .ok (.ldc2_w 166, 3) := by decide +kernel
theorem dX4_digest_110 : decode cX4_digest 110 = .ok (.lmul, 1) := by decide +kernel
theorem dX4_digest_111 : decode cX4_digest 111 = .ok (.aload_n 0, 1) := by decide +kernel
theorem dX4_digest_112 : decode cX4_digest 112 = .ok (.getfield 12, 3) := by decide +kernel
theorem dX4_digest_115 : decode cX4_digest 115 = .ok (.iload_n 3, 1) := by decide +kernel
theorem dX4_digest_116 : decode cX4_digest 116 = .ok (.iload 4, 2) := by decide +kernel
theorem dX4_digest_118 : decode cX4_digest 118 = .ok (.invokevirtual 104, 3) := by decide +kernel
theorem dX4_digest_121 : decode cX4_digest 121 = .ok (.i2l, 1) := by decide +kernel
theorem dX4_digest_122 : decode cX4_digest 122 = .ok (.ladd, 1) := by decide +kernel
theorem dX4_digest_123 : decode cX4_digest 123 = .ok (.lstore_n 1, 1) := by decide +kernel
theorem dX4_digest_124 : decode cX4_digest 124 = .ok (.iinc 4 1, 3) := by decide +kernel
theorem dX4_digest_127 : decode cX4_digest 127 = .ok (.goto (-27), 3) := by decide +kernel
theorem dX4_digest_130 : decode cX4_digest 130 = .ok (.iinc 3 1, 3) := by decide +kernel
theorem dX4_digest_133 : decode cX4_digest 133 = .ok (.goto (-47), 3) := by decide +kernel
theorem dX4_digest_136 : decode cX4_digest 136 = .ok (.iconst 0, 1) := by decide +kernel
theorem dX4_digest_137 : decode cX4_digest 137 = .ok (.istore_n 3, 1) := by decide +kernel
theorem dX4_digest_138 : decode cX4_digest 138 = .ok (.iload_n 3, 1) := by decide +kernel
theorem dX4_digest_139 : decode cX4_digest 139 = .ok (.aload_n 0, 1) := by decide +kernel
theorem dX4_digest_140 : decode cX4_digest 140 = .ok (.getfield 28, 3) := by decide +kernel
theorem dX4_digest_143 : decode cX4_digest 143 = .ok (.getfield 118, 3) := by decide +kernel
theorem dX4_digest_146 : decode cX4_digest 146 = .ok (.if_icmp .ge 42, 3) := by decide +kernel
theorem dX4_digest_149 : decode cX4_digest 149 = .ok (.iconst 0, 1) := by decide +kernel
theorem dX4_digest_150 : decode cX4_digest 150 = .ok (.istore 4, 2) := by decide +kernel
theorem dX4_digest_152 : decode cX4_digest 152 = .ok (.iload 4, 2) := by decide +kernel
theorem dX4_digest_154 : decode cX4_digest 154 = .ok (.iconst 5, 1) := by decide +kernel
theorem dX4_digest_155 : decode cX4_digest 155 = .ok (.if_icmp .ge 27, 3) := by decide +kernel
theorem dX4_digest_158 : decode cX4_digest 158 = .ok (.lload_n 1, 1) := by decide +kernel
theorem dX4_digest_159 : decode cX4_digest 159 = .ok (.ldc2_w 166, 3) := by decide +kernel
theorem dX4_digest_162 : decode cX4_digest 162 = .ok (.lmul, 1) := by decide +kernel
theorem dX4_digest_163 : decode cX4_digest 163 = .ok (.aload_n 0, 1) := by decide +kernel
theorem dX4_digest_164 : decode cX4_digest 164 = .ok (.getfield 28, 3) := by decide +kernel
theorem dX4_digest_167 : decode cX4_digest 167 = .ok (.iload_n 3, 1) := by decide +kernel
theorem dX4_digest_168 : decode cX4_digest 168 = .ok (.iload 4, 2) := by decide +kernel
theorem dX4_digest_170 : decode cX4_digest 170 = .ok (.invokevirtual 121, 3) := by decide +kernel
theorem dX4_digest_173 : decode cX4_digest 173 = .ok (.i2l, 1) := by decide +kernel
theorem dX4_digest_174 : decode cX4_digest 174 = .ok (.ladd, 1) := by decide +kernel
theorem dX4_digest_175 : decode cX4_digest 175 = .ok (.lstore_n 1, 1) := by decide +kernel
theorem dX4_digest_176 : decode cX4_digest 176 = .ok (.iinc 4 1, 3) := by decide +kernel
theorem dX4_digest_179 : decode cX4_digest 179 = .ok (.goto (-27), 3) := by decide +kernel
theorem dX4_digest_182 : decode cX4_digest 182 = .ok (.iinc 3 1, 3) := by decide +kernel
theorem dX4_digest_185 : decode cX4_digest 185 = .ok (.goto (-47), 3) := by decide +kernel
theorem dX4_digest_188 : decode cX4_digest 188 = .ok (.lload_n 1, 1) := by decide +kernel
theorem dX4_digest_189 : decode cX4_digest 189 = .ok (.ldc2_w 166, 3) := by decide +kernel
theorem dX4_digest_192 : decode cX4_digest 192 = .ok (.lmul, 1) := by decide +kernel
theorem dX4_digest_193 : decode cX4_digest 193 = .ok (.aload_n 0, 1) := by decide +kernel
theorem dX4_digest_194 : decode cX4_digest 194 = .ok (.getfield 28, 3) := by decide +kernel
theorem dX4_digest_197 : decode cX4_digest 197 = .ok (.invokevirtual 124, 3) := by decide +kernel
theorem dX4_digest_200 : decode cX4_digest 200 = .ok (.ifCond .eq 7, 3) := by decide +kernel
theorem dX4_digest_203 : decode cX4_digest 203 = .ok (.iconst 1, 1) := by decide +kernel
theorem dX4_digest_204 : decode cX4_digest 204 = .ok (.goto 4, 3) := by decide +kernel
theorem dX4_digest_207 : decode cX4_digest 207 = .ok (.iconst 0, 1) := by decide +kernel
theorem dX4_digest_208 : decode cX4_digest 208 = .ok (.i2l, 1) := by decide +kernel
theorem dX4_digest_209 : decode cX4_digest 209 = .ok (.ladd, 1) := by decide +kernel
theorem dX4_digest_210 : decode cX4_digest 210 = .ok (.lreturn, 1) := by decide +kernel
set_option maxRecDepth 20000 in
theorem ggX4_countFact_X0_openPassages : GoodIn wsX4_countFact wsX0_openPassages := goodIn_r _ [10, 11, 12, 13, 14, 9, 15, 16, 17, 18, 19, 33, 34, 35, 36, 37, 38, 39, 40, 41, 42, 43, 44, 45, 46, 47] (by decide +kernel) (by decide +kernel)
set_option maxRecDepth 20000 in
theorem gX4_countFact_X0_openPassages : GoodIn wsX4_countFact (wsV RX4 168 RX0 yX0_openPassages wsX0_openPassages) := goodIn_app (goodIn_of _ (by decide +kernel)) ggX4_countFact_X0_openPassages
set_option maxRecDepth 20000 in
theorem ggX4_countFact_X0_clappers : GoodIn wsX4_countFact wsX0_clappers := goodIn_r _ [23, 24, 25, 33, 34, 35, 36, 37, 38, 39, 40, 41, 42, 43, 44, 45, 46, 47] (by decide +kernel) (by decide +kernel)
set_option maxRecDepth 20000 in
theorem gX4_countFact_X0_clappers : GoodIn wsX4_countFact (wsV RX4 172 RX0 yX0_clappers wsX0_clappers) := goodIn_app (goodIn_of _ (by decide +kernel)) ggX4_countFact_X0_clappers
theorem dX4_countFact_0 : decode cX4_countFact 0 = .ok (.iload_n 1, 1) := by decide +kernel
theorem dX4_countFact_1 : decode cX4_countFact 1 = .ok (.tableswitch 114 0 8 #[51, 59, 67, 75, 83, 91, 96, 101, 106], 51) := by decide +kernel
theorem dX4_countFact_52 : decode cX4_countFact 52 = .ok (.aload_n 0, 1) := by decide +kernel
theorem dX4_countFact_53 : decode cX4_countFact 53 = .ok (.getfield 12, 3) := by decide +kernel
theorem dX4_countFact_56 : decode cX4_countFact 56 = .ok (.getfield 53, 3) := by decide +kernel
theorem dX4_countFact_59 : decode cX4_countFact 59 = .ok (.ireturn, 1) := by decide +kernel
theorem dX4_countFact_60 : decode cX4_countFact 60 = .ok (.aload_n 0, 1) := by decide +kernel
theorem dX4_countFact_61 : decode cX4_countFact 61 = .ok (.getfield 12, 3) := by decide +kernel
theorem dX4_countFact_64 : decode cX4_countFact 64 = .ok (.getfield 74, 3) := by decide +kernel
theorem dX4_countFact_67 : decode cX4_countFact 67 = .ok (.ireturn, 1) := by decide +kernel
theorem dX4_countFact_68 : decode cX4_countFact 68 = .ok (.aload_n 0, 1) := by decide +kernel
theorem dX4_countFact_69 : decode cX4_countFact 69 = .ok (.getfield 12, 3) := by decide +kernel
theorem dX4_countFact_72 : decode cX4_countFact 72 = .ok (.invokevirtual 168, 3) := by decide +kernel
theorem dX4_countFact_75 : decode cX4_countFact 75 = .ok (.ireturn, 1) := by decide +kernel
theorem dX4_countFact_76 : decode cX4_countFact 76 = .ok (.aload_n 0, 1) := by decide +kernel
theorem dX4_countFact_77 : decode cX4_countFact 77 = .ok (.getfield 12, 3) := by decide +kernel
theorem dX4_countFact_80 : decode cX4_countFact 80 = .ok (.invokevirtual 172, 3) := by decide +kernel
theorem dX4_countFact_83 : decode cX4_countFact 83 = .ok (.ireturn, 1) := by decide +kernel
theorem dX4_countFact_84 : decode cX4_countFact 84 = .ok (.aload_n 0, 1) := by decide +kernel
theorem dX4_countFact_85 : decode cX4_countFact 85 = .ok (.getfield 12, 3) := by decide +kernel
theorem dX4_countFact_88 : decode cX4_countFact 88 = .ok (.getfield 83, 3) := by decide +kernel
theorem dX4_countFact_91 : decode cX4_countFact 91 = .ok (.ireturn, 1) := by decide +kernel
theorem dX4_countFact_92 : decode cX4_countFact 92 = .ok (.aload_n 0, 1) := by decide +kernel
theorem dX4_countFact_93 : decode cX4_countFact 93 = .ok (.getfield 35, 3) := by decide +kernel
theorem dX4_countFact_96 : decode cX4_countFact 96 = .ok (.ireturn, 1) := by decide +kernel
theorem dX4_countFact_97 : decode cX4_countFact 97 = .ok (.aload_n 0, 1) := by decide +kernel
theorem dX4_countFact_98 : decode cX4_countFact 98 = .ok (.getfield 39, 3) := by decide +kernel
theorem dX4_countFact_101 : decode cX4_countFact 101 = .ok (.ireturn, 1) := by decide +kernel
theorem dX4_countFact_102 : decode cX4_countFact 102 = .ok (.aload_n 0, 1) := by decide +kernel
theorem dX4_countFact_103 : decode cX4_countFact 103 = .ok (.getfield 42, 3) := by decide +kernel
theorem dX4_countFact_106 : decode cX4_countFact 106 = .ok (.ireturn, 1) := by decide +kernel
theorem dX4_countFact_107 : decode cX4_countFact 107 = .ok (.aload_n 0, 1) := by decide +kernel
theorem dX4_countFact_108 : decode cX4_countFact 108 = .ok (.getfield 28, 3) := by decide +kernel
theorem dX4_countFact_111 : decode cX4_countFact 111 = .ok (.getfield 118, 3) := by decide +kernel
theorem dX4_countFact_114 : decode cX4_countFact 114 = .ok (.ireturn, 1) := by decide +kernel
theorem dX4_countFact_115 : decode cX4_countFact 115 = .ok (.aload_n 0, 1) := by decide +kernel
theorem dX4_countFact_116 : decode cX4_countFact 116 = .ok (.getfield 28, 3) := by decide +kernel
theorem dX4_countFact_119 : decode cX4_countFact 119 = .ok (.getfield 115, 3) := by decide +kernel
theorem dX4_countFact_122 : decode cX4_countFact 122 = .ok (.ireturn, 1) := by decide +kernel
set_option maxRecDepth 20000 in
theorem ggX4_wouldComeInOrder_X3_runThrough : GoodIn wsX4_wouldComeInOrder wsX3_runThrough := goodIn_r _ [8, 9, 10, 11, 12, 13, 14, 15, 16, 17, 18, 19, 20, 21, 22, 23, 24, 25, 26, 27, 28, 29, 30, 31, 7, 32, 33, 34, 35, 36, 37, 38, 39, 40, 41, 42, 43, 44, 45, 46, 47, 48, 49, 50, 51, 52, 53, 54, 55, 56, 57, 58, 59, 60, 61, 62, 63, 64, 65, 66, 67, 68, 69, 70, 71, 72, 73, 74, 75, 76, 77, 78, 79, 80, 81, 82, 83, 84, 85, 86, 87, 88, 89, 90, 91, 92, 93, 94, 95, 96, 97, 98, 99, 100, 101, 102, 103, 104, 105, 106, 107, 108, 109, 110, 111, 112, 113, 114, 115, 116, 117, 118, 119, 120, 121, 122, 123, 124, 125, 126, 127, 128, 129, 130, 131, 132, 133, 134, 135, 136, 137, 138, 139, 140, 141, 142, 143, 155, 156, 157, 158, 159, 160, 161, 162, 163, 164, 165, 166, 167, 168, 169, 170, 171, 172, 173, 174, 175, 176, 177, 178, 179, 180, 181, 182, 183, 184, 185, 186] (by decide +kernel) (by decide +kernel)
set_option maxRecDepth 20000 in
theorem gX4_wouldComeInOrder_X3_runThrough : GoodIn wsX4_wouldComeInOrder (wsV RX4 111 RX3 yX3_runThrough wsX3_runThrough) := goodIn_app (goodIn_of _ (by decide +kernel)) ggX4_wouldComeInOrder_X3_runThrough
set_option maxRecDepth 20000 in
theorem ggX4_wouldComeInOrder_X2_cameInOrder : GoodIn wsX4_wouldComeInOrder wsX2_cameInOrder := goodIn_r _ [147, 18, 22, 162, 163, 164, 165, 166, 167, 168, 169] (by decide +kernel) (by decide +kernel)
set_option maxRecDepth 20000 in
theorem gX4_wouldComeInOrder_X2_cameInOrder : GoodIn wsX4_wouldComeInOrder (wsV RX4 124 RX2 yX2_cameInOrder wsX2_cameInOrder) := goodIn_app (goodIn_of _ (by decide +kernel)) ggX4_wouldComeInOrder_X2_cameInOrder
theorem dX4_wouldComeInOrder_0 : decode cX4_wouldComeInOrder 0 = .ok (.aload_n 0, 1) := by decide +kernel
theorem dX4_wouldComeInOrder_1 : decode cX4_wouldComeInOrder 1 = .ok (.getfield 21, 3) := by decide +kernel
theorem dX4_wouldComeInOrder_4 : decode cX4_wouldComeInOrder 4 = .ok (.iload_n 1, 1) := by decide +kernel
theorem dX4_wouldComeInOrder_5 : decode cX4_wouldComeInOrder 5 = .ok (.iload_n 2, 1) := by decide +kernel
theorem dX4_wouldComeInOrder_6 : decode cX4_wouldComeInOrder 6 = .ok (.aload_n 0, 1) := by decide +kernel
theorem dX4_wouldComeInOrder_7 : decode cX4_wouldComeInOrder 7 = .ok (.getfield 35, 3) := by decide +kernel
theorem dX4_wouldComeInOrder_10 : decode cX4_wouldComeInOrder 10 = .ok (.aload_n 0, 1) := by decide +kernel
theorem dX4_wouldComeInOrder_11 : decode cX4_wouldComeInOrder 11 = .ok (.getfield 32, 3) := by decide +kernel
theorem dX4_wouldComeInOrder_14 : decode cX4_wouldComeInOrder 14 = .ok (.invokevirtual 111, 3) := by decide +kernel
theorem dX4_wouldComeInOrder_17 : decode cX4_wouldComeInOrder 17 = .ok (.aload_n 0, 1) := by decide +kernel
theorem dX4_wouldComeInOrder_18 : decode cX4_wouldComeInOrder 18 = .ok (.getfield 32, 3) := by decide +kernel
theorem dX4_wouldComeInOrder_21 : decode cX4_wouldComeInOrder 21 = .ok (.invokevirtual 124, 3) := by decide +kernel
theorem dX4_wouldComeInOrder_24 : decode cX4_wouldComeInOrder 24 = .ok (.ireturn, 1) := by decide +kernel
theorem dX4_isWithin_0 : decode cX4_isWithin 0 = .ok (.iload_n 1, 1) := by decide +kernel
theorem dX4_isWithin_1 : decode cX4_isWithin 1 = .ok (.iload_n 0, 1) := by decide +kernel
theorem dX4_isWithin_2 : decode cX4_isWithin 2 = .ok (.if_icmp .gt 12, 3) := by decide +kernel
theorem dX4_isWithin_5 : decode cX4_isWithin 5 = .ok (.iload_n 0, 1) := by decide +kernel
theorem dX4_isWithin_6 : decode cX4_isWithin 6 = .ok (.iload_n 2, 1) := by decide +kernel
theorem dX4_isWithin_7 : decode cX4_isWithin 7 = .ok (.if_icmp .gt 7, 3) := by decide +kernel
theorem dX4_isWithin_10 : decode cX4_isWithin 10 = .ok (.iconst 1, 1) := by decide +kernel
theorem dX4_isWithin_11 : decode cX4_isWithin 11 = .ok (.goto 4, 3) := by decide +kernel
theorem dX4_isWithin_14 : decode cX4_isWithin 14 = .ok (.iconst 0, 1) := by decide +kernel
theorem dX4_isWithin_15 : decode cX4_isWithin 15 = .ok (.ireturn, 1) := by decide +kernel
set_option maxRecDepth 20000 in
theorem ggX4_isWord_X4_isWithin : GoodIn wsX4_isWord wsX4_isWithin := goodIn_r _ [5] (by decide +kernel) (by decide +kernel)
set_option maxRecDepth 20000 in
theorem gX4_isWord_X4_isWithin : GoodIn wsX4_isWord (va_wsS RX4 45 yX4_isWithin wsX4_isWithin) := goodIn_app (goodIn_of _ (by decide +kernel)) ggX4_isWord_X4_isWithin
theorem dX4_isWord_0 : decode cX4_isWord 0 = .ok (.iload_n 0, 1) := by decide +kernel
theorem dX4_isWord_1 : decode cX4_isWord 1 = .ok (.iconst 1, 1) := by decide +kernel
theorem dX4_isWord_2 : decode cX4_isWord 2 = .ok (.ldc 175, 2) := by decide +kernel
theorem dX4_isWord_4 : decode cX4_isWord 4 = .ok (.invokestatic 45, 3) := by decide +kernel
theorem dX4_isWord_7 : decode cX4_isWord 7 = .ok (.ifCond .ne 5, 3) := by decide +kernel
theorem dX4_isWord_10 : decode cX4_isWord 10 = .ok (.iconst 0, 1) := by decide +kernel
theorem dX4_isWord_11 : decode cX4_isWord 11 = .ok (.ireturn, 1) := by decide +kernel
theorem dX4_isWord_12 : decode cX4_isWord 12 = .ok (.iload_n 0, 1) := by decide +kernel
theorem dX4_isWord_13 : decode cX4_isWord 13 = .ok (.istore_n 1, 1) := by decide +kernel
theorem dX4_isWord_14 : decode cX4_isWord 14 = .ok (.iload_n 1, 1) := by decide +kernel
theorem dX4_isWord_15 : decode cX4_isWord 15 = .ok (.ifCond .le 20, 3) := by decide +kernel
theorem dX4_isWord_18 : decode cX4_isWord 18 = .ok (.iload_n 1, 1) := by decide +kernel
theorem dX4_isWord_19 : decode cX4_isWord 19 = .ok (.bipush 10, 2) := by decide +kernel
theorem dX4_isWord_21 : decode cX4_isWord 21 = .ok (.irem, 1) := by decide +kernel
theorem dX4_isWord_22 : decode cX4_isWord 22 = .ok (.ifCond .ne 5, 3) := by decide +kernel
theorem dX4_isWord_25 : decode cX4_isWord 25 = .ok (.iconst 0, 1) := by decide +kernel
theorem dX4_isWord_26 : decode cX4_isWord 26 = .ok (.ireturn, 1) := by decide +kernel
theorem dX4_isWord_27 : decode cX4_isWord 27 = .ok (.iload_n 1, 1) := by decide +kernel
theorem dX4_isWord_28 : decode cX4_isWord 28 = .ok (.bipush 10, 2) := by decide +kernel
theorem dX4_isWord_30 : decode cX4_isWord 30 = .ok (.idiv, 1) := by decide +kernel
theorem dX4_isWord_31 : decode cX4_isWord 31 = .ok (.istore_n 1, 1) := by decide +kernel
theorem dX4_isWord_32 : decode cX4_isWord 32 = .ok (.goto (-18), 3) := by decide +kernel
theorem dX4_isWord_35 : decode cX4_isWord 35 = .ok (.iconst 1, 1) := by decide +kernel
theorem dX4_isWord_36 : decode cX4_isWord 36 = .ok (.ireturn, 1) := by decide +kernel
theorem dX4_placesOf_0 : decode cX4_placesOf 0 = .ok (.iconst 0, 1) := by decide +kernel
theorem dX4_placesOf_1 : decode cX4_placesOf 1 = .ok (.istore_n 1, 1) := by decide +kernel
theorem dX4_placesOf_2 : decode cX4_placesOf 2 = .ok (.iload_n 0, 1) := by decide +kernel
theorem dX4_placesOf_3 : decode cX4_placesOf 3 = .ok (.istore_n 2, 1) := by decide +kernel
theorem dX4_placesOf_4 : decode cX4_placesOf 4 = .ok (.iload_n 2, 1) := by decide +kernel
theorem dX4_placesOf_5 : decode cX4_placesOf 5 = .ok (.ifCond .le 20, 3) := by decide +kernel
theorem dX4_placesOf_8 : decode cX4_placesOf 8 = .ok (.iload_n 1, 1) := by decide +kernel
theorem dX4_placesOf_9 : decode cX4_placesOf 9 = .ok (.bipush 6, 2) := by decide +kernel
theorem dX4_placesOf_11 : decode cX4_placesOf 11 = .ok (.if_icmp .ge 14, 3) := by decide +kernel
theorem dX4_placesOf_14 : decode cX4_placesOf 14 = .ok (.iinc 1 1, 3) := by decide +kernel
theorem dX4_placesOf_17 : decode cX4_placesOf 17 = .ok (.iload_n 2, 1) := by decide +kernel
theorem dX4_placesOf_18 : decode cX4_placesOf 18 = .ok (.bipush 10, 2) := by decide +kernel
theorem dX4_placesOf_20 : decode cX4_placesOf 20 = .ok (.idiv, 1) := by decide +kernel
theorem dX4_placesOf_21 : decode cX4_placesOf 21 = .ok (.istore_n 2, 1) := by decide +kernel
theorem dX4_placesOf_22 : decode cX4_placesOf 22 = .ok (.goto (-18), 3) := by decide +kernel
theorem dX4_placesOf_25 : decode cX4_placesOf 25 = .ok (.iload_n 1, 1) := by decide +kernel
theorem dX4_placesOf_26 : decode cX4_placesOf 26 = .ok (.ireturn, 1) := by decide +kernel
theorem dX4_requireIndex_0 : decode cX4_requireIndex 0 = .ok (.iload_n 0, 1) := by decide +kernel
theorem dX4_requireIndex_1 : decode cX4_requireIndex 1 = .ok (.ifCond .ne 13, 3) := by decide +kernel
theorem dX4_requireIndex_4 : decode cX4_requireIndex 4 = .ok (.new 176, 3) := by decide +kernel
theorem dX4_requireIndex_7 : decode cX4_requireIndex 7 = .ok (.dup, 1) := by decide +kernel
theorem dX4_requireIndex_8 : decode cX4_requireIndex 8 = .ok (.ldc 178, 2) := by decide +kernel
theorem dX4_requireIndex_10 : decode cX4_requireIndex 10 = .ok (.invokespecial 180, 3) := by decide +kernel
theorem dX4_requireIndex_13 : decode cX4_requireIndex 13 = .ok (.athrow, 1) := by decide +kernel
theorem dX4_requireIndex_14 : decode cX4_requireIndex 14 = .ok (.return_, 1) := by decide +kernel
theorem dX4_requireArgument_0 : decode cX4_requireArgument 0 = .ok (.iload_n 0, 1) := by decide +kernel
theorem dX4_requireArgument_1 : decode cX4_requireArgument 1 = .ok (.ifCond .ne 13, 3) := by decide +kernel
theorem dX4_requireArgument_4 : decode cX4_requireArgument 4 = .ok (.new 181, 3) := by decide +kernel
theorem dX4_requireArgument_7 : decode cX4_requireArgument 7 = .ok (.dup, 1) := by decide +kernel
theorem dX4_requireArgument_8 : decode cX4_requireArgument 8 = .ok (.ldc 183, 2) := by decide +kernel
theorem dX4_requireArgument_10 : decode cX4_requireArgument 10 = .ok (.invokespecial 185, 3) := by decide +kernel
theorem dX4_requireArgument_13 : decode cX4_requireArgument 13 = .ok (.athrow, 1) := by decide +kernel
theorem dX4_requireArgument_14 : decode cX4_requireArgument 14 = .ok (.return_, 1) := by decide +kernel
set_option maxRecDepth 20000 in
theorem ggX4_requireWordAndBeat_X4_isWord : GoodIn wsX4_requireWordAndBeat wsX4_isWord := goodIn_r _ [4, 5, 6, 7, 3, 8] (by decide +kernel) (by decide +kernel)
set_option maxRecDepth 20000 in
theorem gX4_requireWordAndBeat_X4_isWord : GoodIn wsX4_requireWordAndBeat (va_wsS RX4 151 yX4_isWord wsX4_isWord) := goodIn_app (goodIn_of _ (by decide +kernel)) ggX4_requireWordAndBeat_X4_isWord
set_option maxRecDepth 20000 in
theorem ggX4_requireWordAndBeat_X4_requireArgument : GoodIn wsX4_requireWordAndBeat wsX4_requireArgument := goodIn_ca (goodIn_r _ [11, 12, 13] (by decide +kernel) (by decide +kernel)) (goodIn_sub (fun _ h => List.mem_cons_of_mem _ (List.mem_append_right _ h)) (by decide +kernel))
set_option maxRecDepth 20000 in
theorem gX4_requireWordAndBeat_X4_requireArgument : GoodIn wsX4_requireWordAndBeat (va_wsS RX4 49 yX4_requireArgument wsX4_requireArgument) := goodIn_app (goodIn_of _ (by decide +kernel)) ggX4_requireWordAndBeat_X4_requireArgument
set_option maxRecDepth 20000 in
theorem ggX4_requireWordAndBeat_X4_isWithin : GoodIn wsX4_requireWordAndBeat wsX4_isWithin := goodIn_r _ [8] (by decide +kernel) (by decide +kernel)
set_option maxRecDepth 20000 in
theorem gX4_requireWordAndBeat_X4_isWithin : GoodIn wsX4_requireWordAndBeat (va_wsS RX4 45 yX4_isWithin wsX4_isWithin) := goodIn_app (goodIn_of _ (by decide +kernel)) ggX4_requireWordAndBeat_X4_isWithin
theorem dX4_requireWordAndBeat_0 : decode cX4_requireWordAndBeat 0 = .ok (.iload_n 0, 1) := by decide +kernel
theorem dX4_requireWordAndBeat_1 : decode cX4_requireWordAndBeat 1 = .ok (.invokestatic 151, 3) := by decide +kernel
theorem dX4_requireWordAndBeat_4 : decode cX4_requireWordAndBeat 4 = .ok (.invokestatic 49, 3) := by decide +kernel
theorem dX4_requireWordAndBeat_7 : decode cX4_requireWordAndBeat 7 = .ok (.iload_n 1, 1) := by decide +kernel
theorem dX4_requireWordAndBeat_8 : decode cX4_requireWordAndBeat 8 = .ok (.iconst 1, 1) := by decide +kernel
theorem dX4_requireWordAndBeat_9 : decode cX4_requireWordAndBeat 9 = .ok (.bipush 20, 2) := by decide +kernel
theorem dX4_requireWordAndBeat_11 : decode cX4_requireWordAndBeat 11 = .ok (.invokestatic 45, 3) := by decide +kernel
theorem dX4_requireWordAndBeat_14 : decode cX4_requireWordAndBeat 14 = .ok (.invokestatic 49, 3) := by decide +kernel
theorem dX4_requireWordAndBeat_17 : decode cX4_requireWordAndBeat 17 = .ok (.return_, 1) := by decide +kernel
theorem dJ9_max_7cf53_0 : decode cJ9_max_7cf53 0 = .ok (.iload_n 0, 1) := by decide +kernel
theorem dJ9_max_7cf53_1 : decode cJ9_max_7cf53 1 = .ok (.iload_n 1, 1) := by decide +kernel
theorem dJ9_max_7cf53_2 : decode cJ9_max_7cf53 2 = .ok (.if_icmp .lt 7, 3) := by decide +kernel
theorem dJ9_max_7cf53_5 : decode cJ9_max_7cf53 5 = .ok (.iload_n 0, 1) := by decide +kernel
theorem dJ9_max_7cf53_6 : decode cJ9_max_7cf53 6 = .ok (.goto 4, 3) := by decide +kernel
theorem dJ9_max_7cf53_9 : decode cJ9_max_7cf53 9 = .ok (.iload_n 1, 1) := by decide +kernel
theorem dJ9_max_7cf53_10 : decode cJ9_max_7cf53 10 = .ok (.ireturn, 1) := by decide +kernel
theorem dJ9_min_7cf53_0 : decode cJ9_min_7cf53 0 = .ok (.iload_n 0, 1) := by decide +kernel
theorem dJ9_min_7cf53_1 : decode cJ9_min_7cf53 1 = .ok (.iload_n 1, 1) := by decide +kernel
theorem dJ9_min_7cf53_2 : decode cJ9_min_7cf53 2 = .ok (.if_icmp .gt 7, 3) := by decide +kernel
theorem dJ9_min_7cf53_5 : decode cJ9_min_7cf53 5 = .ok (.iload_n 0, 1) := by decide +kernel
theorem dJ9_min_7cf53_6 : decode cJ9_min_7cf53 6 = .ok (.goto 4, 3) := by decide +kernel
theorem dJ9_min_7cf53_9 : decode cJ9_min_7cf53 9 = .ok (.iload_n 1, 1) := by decide +kernel
theorem dJ9_min_7cf53_10 : decode cJ9_min_7cf53 10 = .ok (.ireturn, 1) := by decide +kernel
theorem dJ7_fill_53178_0 : decode cJ7_fill_53178 0 = .ok (.iconst 0, 1) := by decide +kernel
theorem dJ7_fill_53178_1 : decode cJ7_fill_53178 1 = .ok (.istore_n 2, 1) := by decide +kernel
theorem dJ7_fill_53178_2 : decode cJ7_fill_53178 2 = .ok (.aload_n 0, 1) := by decide +kernel
theorem dJ7_fill_53178_3 : decode cJ7_fill_53178 3 = .ok (.arraylength, 1) := by decide +kernel
theorem dJ7_fill_53178_4 : decode cJ7_fill_53178 4 = .ok (.istore_n 3, 1) := by decide +kernel
theorem dJ7_fill_53178_5 : decode cJ7_fill_53178 5 = .ok (.iload_n 2, 1) := by decide +kernel
theorem dJ7_fill_53178_6 : decode cJ7_fill_53178 6 = .ok (.iload_n 3, 1) := by decide +kernel
theorem dJ7_fill_53178_7 : decode cJ7_fill_53178 7 = .ok (.if_icmp .ge 13, 3) := by decide +kernel
theorem dJ7_fill_53178_10 : decode cJ7_fill_53178 10 = .ok (.aload_n 0, 1) := by decide +kernel
theorem dJ7_fill_53178_11 : decode cJ7_fill_53178 11 = .ok (.iload_n 2, 1) := by decide +kernel
theorem dJ7_fill_53178_12 : decode cJ7_fill_53178 12 = .ok (.iload_n 1, 1) := by decide +kernel
theorem dJ7_fill_53178_13 : decode cJ7_fill_53178 13 = .ok (.iastore, 1) := by decide +kernel
theorem dJ7_fill_53178_14 : decode cJ7_fill_53178 14 = .ok (.iinc 2 1, 3) := by decide +kernel
theorem dJ7_fill_53178_17 : decode cJ7_fill_53178 17 = .ok (.goto (-12), 3) := by decide +kernel
theorem dJ7_fill_53178_20 : decode cJ7_fill_53178 20 = .ok (.return_, 1) := by decide +kernel
theorem dL_below_0 : decode cL_below 0 = .ok (.iload_n 0, 1) := by decide +kernel
theorem dL_below_1 : decode cL_below 1 = .ok (.ldc 7, 2) := by decide +kernel
theorem dL_below_3 : decode cL_below 3 = .ok (.iand, 1) := by decide +kernel
theorem dL_below_4 : decode cL_below 4 = .ok (.iload_n 1, 1) := by decide +kernel
theorem dL_below_5 : decode cL_below 5 = .ok (.irem, 1) := by decide +kernel
theorem dL_below_6 : decode cL_below 6 = .ok (.ireturn, 1) := by decide +kernel
theorem dL_cell_0 : decode cL_cell 0 = .ok (.iload_n 1, 1) := by decide +kernel
theorem dL_cell_1 : decode cL_cell 1 = .ok (.aload_n 0, 1) := by decide +kernel
theorem dL_cell_2 : decode cL_cell 2 = .ok (.arraylength, 1) := by decide +kernel
theorem dL_cell_3 : decode cL_cell 3 = .ok (.if_icmp .ge 9, 3) := by decide +kernel
theorem dL_cell_6 : decode cL_cell 6 = .ok (.aload_n 0, 1) := by decide +kernel
theorem dL_cell_7 : decode cL_cell 7 = .ok (.iload_n 1, 1) := by decide +kernel
theorem dL_cell_8 : decode cL_cell 8 = .ok (.iaload, 1) := by decide +kernel
theorem dL_cell_9 : decode cL_cell 9 = .ok (.goto 9, 3) := by decide +kernel
theorem dL_cell_12 : decode cL_cell 12 = .ok (.ldc 8, 2) := by decide +kernel
theorem dL_cell_14 : decode cL_cell 14 = .ok (.iload_n 1, 1) := by decide +kernel
theorem dL_cell_15 : decode cL_cell 15 = .ok (.iconst 3, 1) := by decide +kernel
theorem dL_cell_16 : decode cL_cell 16 = .ok (.iadd, 1) := by decide +kernel
theorem dL_cell_17 : decode cL_cell 17 = .ok (.imul, 1) := by decide +kernel
theorem dL_cell_18 : decode cL_cell 18 = .ok (.ireturn, 1) := by decide +kernel
theorem dL_cave_0 : decode cL_cave 0 = .ok (.new 9, 3) := by decide +kernel
theorem dL_cave_3 : decode cL_cave 3 = .ok (.dup, 1) := by decide +kernel
theorem dL_cave_4 : decode cL_cave 4 = .ok (.invokespecial 11, 3) := by decide +kernel
theorem dL_cave_7 : decode cL_cave 7 = .ok (.astore_n 1, 1) := by decide +kernel
theorem dL_cave_8 : decode cL_cave 8 = .ok (.iconst 2, 1) := by decide +kernel
theorem dL_cave_9 : decode cL_cave 9 = .ok (.aload_n 0, 1) := by decide +kernel
theorem dL_cave_10 : decode cL_cave 10 = .ok (.iconst 0, 1) := by decide +kernel
theorem dL_cave_11 : decode cL_cave 11 = .ok (.invokestatic 12, 3) := by decide +kernel
theorem dL_cave_14 : decode cL_cave 14 = .ok (.bipush 11, 2) := by decide +kernel
theorem dL_cave_16 : decode cL_cave 16 = .ok (.invokestatic 18, 3) := by decide +kernel
theorem dL_cave_19 : decode cL_cave 19 = .ok (.iadd, 1) := by decide +kernel
theorem dL_cave_20 : decode cL_cave 20 = .ok (.istore_n 2, 1) := by decide +kernel
theorem dL_cave_21 : decode cL_cave 21 = .ok (.iconst 1, 1) := by decide +kernel
theorem dL_cave_22 : decode cL_cave 22 = .ok (.istore_n 3, 1) := by decide +kernel
theorem dL_cave_23 : decode cL_cave 23 = .ok (.iload_n 3, 1) := by decide +kernel
theorem dL_cave_24 : decode cL_cave 24 = .ok (.iload_n 2, 1) := by decide +kernel
theorem dL_cave_25 : decode cL_cave 25 = .ok (.if_icmp .ge 99, 3) := by decide +kernel
theorem dL_cave_28 : decode cL_cave 28 = .ok (.aload_n 0, 1) := by decide +kernel
theorem dL_cave_29 : decode cL_cave 29 = .ok (.iconst 1, 1) := by decide +kernel
theorem dL_cave_30 : decode cL_cave 30 = .ok (.iload_n 3, 1) := by decide +kernel
theorem dL_cave_31 : decode cL_cave 31 = .ok (.iconst 4, 1) := by decide +kernel
theorem dL_cave_32 : decode cL_cave 32 = .ok (.irem, 1) := by decide +kernel
theorem dL_cave_33 : decode cL_cave 33 = .ok (.iadd, 1) := by decide +kernel
theorem dL_cave_34 : decode cL_cave 34 = .ok (.invokestatic 12, 3) := by decide +kernel
theorem dL_cave_37 : decode cL_cave 37 = .ok (.iload_n 3, 1) := by decide +kernel
theorem dL_cave_38 : decode cL_cave 38 = .ok (.iconst 4, 1) := by decide +kernel
theorem dL_cave_39 : decode cL_cave 39 = .ok (.idiv, 1) := by decide +kernel
theorem dL_cave_40 : decode cL_cave 40 = .ok (.bipush 8, 2) := by decide +kernel
theorem dL_cave_42 : decode cL_cave 42 = .ok (.imul, 1) := by decide +kernel
theorem dL_cave_43 : decode cL_cave 43 = .ok (.ishr, 1) := by decide +kernel
theorem dL_cave_44 : decode cL_cave 44 = .ok (.istore 4, 2) := by decide +kernel
theorem dL_cave_46 : decode cL_cave 46 = .ok (.aload_n 1, 1) := by decide +kernel
theorem dL_cave_47 : decode cL_cave 47 = .ok (.bipush 100, 2) := by decide +kernel
theorem dL_cave_49 : decode cL_cave 49 = .ok (.iload 4, 2) := by decide +kernel
theorem dL_cave_51 : decode cL_cave 51 = .ok (.bipush 6, 2) := by decide +kernel
theorem dL_cave_53 : decode cL_cave 53 = .ok (.invokestatic 18, 3) := by decide +kernel
theorem dL_cave_56 : decode cL_cave 56 = .ok (.iload 4, 2) := by decide +kernel
theorem dL_cave_58 : decode cL_cave 58 = .ok (.iconst 3, 1) := by decide +kernel
theorem dL_cave_59 : decode cL_cave 59 = .ok (.ishr, 1) := by decide +kernel
theorem dL_cave_60 : decode cL_cave 60 = .ok (.bipush 20, 2) := by decide +kernel
theorem dL_cave_62 : decode cL_cave 62 = .ok (.invokestatic 18, 3) := by decide +kernel
theorem dL_cave_65 : decode cL_cave 65 = .ok (.imul, 1) := by decide +kernel
theorem dL_cave_66 : decode cL_cave 66 = .ok (.isub, 1) := by decide +kernel
theorem dL_cave_67 : decode cL_cave 67 = .ok (.bipush 30, 2) := by decide +kernel
theorem dL_cave_69 : decode cL_cave 69 = .ok (.iload 4, 2) := by decide +kernel
theorem dL_cave_71 : decode cL_cave 71 = .ok (.iconst 5, 1) := by decide +kernel
theorem dL_cave_72 : decode cL_cave 72 = .ok (.ishr, 1) := by decide +kernel
theorem dL_cave_73 : decode cL_cave 73 = .ok (.iconst 4, 1) := by decide +kernel
theorem dL_cave_74 : decode cL_cave 74 = .ok (.invokestatic 18, 3) := by decide +kernel
theorem dL_cave_77 : decode cL_cave 77 = .ok (.iload 4, 2) := by decide +kernel
theorem dL_cave_79 : decode cL_cave 79 = .ok (.bipush 7, 2) := by decide +kernel
theorem dL_cave_81 : decode cL_cave 81 = .ok (.ishr, 1) := by decide +kernel
theorem dL_cave_82 : decode cL_cave 82 = .ok (.bipush 10, 2) := by decide +kernel
theorem dL_cave_84 : decode cL_cave 84 = .ok (.invokestatic 18, 3) := by decide +kernel
theorem dL_cave_87 : decode cL_cave 87 = .ok (.imul, 1) := by decide +kernel
theorem dL_cave_88 : decode cL_cave 88 = .ok (.isub, 1) := by decide +kernel
theorem dL_cave_89 : decode cL_cave 89 = .ok (.iload 4, 2) := by decide +kernel
theorem dL_cave_91 : decode cL_cave 91 = .ok (.iconst 2, 1) := by decide +kernel
theorem dL_cave_92 : decode cL_cave 92 = .ok (.ishr, 1) := by decide +kernel
theorem dL_cave_93 : decode cL_cave 93 = .ok (.iconst 3, 1) := by decide +kernel
theorem dL_cave_94 : decode cL_cave 94 = .ok (.invokestatic 18, 3) := by decide +kernel
theorem dL_cave_97 : decode cL_cave 97 = .ok (.ifCond .ne 16, 3) := by decide +kernel
theorem dL_cave_100 : decode cL_cave 100 = .ok (.iload 4, 2) := by decide +kernel
theorem dL_cave_102 : decode cL_cave 102 = .ok (.bipush 6, 2) := by decide +kernel
theorem dL_cave_104 : decode cL_cave 104 = .ok (.ishr, 1) := by decide +kernel
theorem dL_cave_105 : decode cL_cave 105 = .ok (.bipush 21, 2) := by decide +kernel
theorem dL_cave_107 : decode cL_cave 107 = .ok (.invokestatic 18, 3) := by decide +kernel
theorem dL_cave_110 : decode cL_cave 110 = .ok (.goto 4, 3) := by decide +kernel
theorem dL_cave_113 : decode cL_cave 113 = .ok (.iconst 0, 1) := by decide +kernel
theorem dL_cave_114 : decode cL_cave 114 = .ok (.invokevirtual 22, 3) := by decide +kernel
theorem dL_cave_117 : decode cL_cave 117 = .ok (.pop, 1) := by decide +kernel
theorem dL_cave_118 : decode cL_cave 118 = .ok (.iinc 3 1, 3) := by decide +kernel
theorem dL_cave_121 : decode cL_cave 121 = .ok (.goto (-98), 3) := by decide +kernel
theorem dL_cave_124 : decode cL_cave 124 = .ok (.iload_n 2, 1) := by decide +kernel
theorem dL_cave_125 : decode cL_cave 125 = .ok (.iconst 1, 1) := by decide +kernel
theorem dL_cave_126 : decode cL_cave 126 = .ok (.isub, 1) := by decide +kernel
theorem dL_cave_127 : decode cL_cave 127 = .ok (.aload_n 0, 1) := by decide +kernel
theorem dL_cave_128 : decode cL_cave 128 = .ok (.iconst 5, 1) := by decide +kernel
theorem dL_cave_129 : decode cL_cave 129 = .ok (.invokestatic 12, 3) := by decide +kernel
theorem dL_cave_132 : decode cL_cave 132 = .ok (.bipush 19, 2) := by decide +kernel
theorem dL_cave_134 : decode cL_cave 134 = .ok (.iload_n 2, 1) := by decide +kernel
theorem dL_cave_135 : decode cL_cave 135 = .ok (.isub, 1) := by decide +kernel
theorem dL_cave_136 : decode cL_cave 136 = .ok (.iconst 1, 1) := by decide +kernel
theorem dL_cave_137 : decode cL_cave 137 = .ok (.iadd, 1) := by decide +kernel
theorem dL_cave_138 : decode cL_cave 138 = .ok (.invokestatic 18, 3) := by decide +kernel
theorem dL_cave_141 : decode cL_cave 141 = .ok (.iadd, 1) := by decide +kernel
theorem dL_cave_142 : decode cL_cave 142 = .ok (.istore_n 3, 1) := by decide +kernel
theorem dL_cave_143 : decode cL_cave 143 = .ok (.iconst 0, 1) := by decide +kernel
theorem dL_cave_144 : decode cL_cave 144 = .ok (.istore 4, 2) := by decide +kernel
theorem dL_cave_146 : decode cL_cave 146 = .ok (.iload 4, 2) := by decide +kernel
theorem dL_cave_148 : decode cL_cave 148 = .ok (.iload_n 3, 1) := by decide +kernel
theorem dL_cave_149 : decode cL_cave 149 = .ok (.if_icmp .ge 125, 3) := by decide +kernel
theorem dL_cave_152 : decode cL_cave 152 = .ok (.aload_n 0, 1) := by decide +kernel
theorem dL_cave_153 : decode cL_cave 153 = .ok (.bipush 6, 2) := by decide +kernel
theorem dL_cave_155 : decode cL_cave 155 = .ok (.iload 4, 2) := by decide +kernel
theorem dL_cave_157 : decode cL_cave 157 = .ok (.iconst 5, 1) := by decide +kernel
theorem dL_cave_158 : decode cL_cave 158 = .ok (.irem, 1) := by decide +kernel
theorem dL_cave_159 : decode cL_cave 159 = .ok (.iadd, 1) := by decide +kernel
theorem dL_cave_160 : decode cL_cave 160 = .ok (.invokestatic 12, 3) := by decide +kernel
theorem dL_cave_163 : decode cL_cave 163 = .ok (.iload 4, 2) := by decide +kernel
theorem dL_cave_165 : decode cL_cave 165 = .ok (.iconst 5, 1) := by decide +kernel
theorem dL_cave_166 : decode cL_cave 166 = .ok (.idiv, 1) := by decide +kernel
theorem dL_cave_167 : decode cL_cave 167 = .ok (.bipush 6, 2) := by decide +kernel
theorem dL_cave_169 : decode cL_cave 169 = .ok (.imul, 1) := by decide +kernel
theorem dL_cave_170 : decode cL_cave 170 = .ok (.ishr, 1) := by decide +kernel
theorem dL_cave_171 : decode cL_cave 171 = .ok (.istore 5, 2) := by decide +kernel
theorem dL_cave_173 : decode cL_cave 173 = .ok (.iload 4, 2) := by decide +kernel
theorem dL_cave_175 : decode cL_cave 175 = .ok (.iload_n 2, 1) := by decide +kernel
theorem dL_cave_176 : decode cL_cave 176 = .ok (.iconst 1, 1) := by decide +kernel
theorem dL_cave_177 : decode cL_cave 177 = .ok (.isub, 1) := by decide +kernel
theorem dL_cave_178 : decode cL_cave 178 = .ok (.if_icmp .ge 10, 3) := by decide +kernel
theorem dL_cave_181 : decode cL_cave 181 = .ok (.iload 4, 2) := by decide +kernel
theorem dL_cave_183 : decode cL_cave 183 = .ok (.iconst 1, 1) := by decide +kernel
theorem dL_cave_184 : decode cL_cave 184 = .ok (.iadd, 1) := by decide +kernel
theorem dL_cave_185 : decode cL_cave 185 = .ok (.goto 11, 3) := by decide +kernel
theorem dL_cave_188 : decode cL_cave 188 = .ok (.iload 5, 2) := by decide +kernel
theorem dL_cave_190 : decode cL_cave 190 = .ok (.iconst 1, 1) := by decide +kernel
theorem dL_cave_191 : decode cL_cave 191 = .ok (.ishr, 1) := by decide +kernel
theorem dL_cave_192 : decode cL_cave 192 = .ok (.iload_n 2, 1) := by decide +kernel
theorem dL_cave_193 : decode cL_cave 193 = .ok (.invokestatic 18, 3) := by decide +kernel
theorem dL_cave_196 : decode cL_cave 196 = .ok (.istore 6, 2) := by decide +kernel
theorem dL_cave_198 : decode cL_cave 198 = .ok (.iload 4, 2) := by decide +kernel
theorem dL_cave_200 : decode cL_cave 200 = .ok (.iload_n 2, 1) := by decide +kernel
theorem dL_cave_201 : decode cL_cave 201 = .ok (.iconst 1, 1) := by decide +kernel
theorem dL_cave_202 : decode cL_cave 202 = .ok (.isub, 1) := by decide +kernel
theorem dL_cave_203 : decode cL_cave 203 = .ok (.if_icmp .ge 17, 3) := by decide +kernel
theorem dL_cave_206 : decode cL_cave 206 = .ok (.iload 5, 2) := by decide +kernel
theorem dL_cave_208 : decode cL_cave 208 = .ok (.iconst 3, 1) := by decide +kernel
theorem dL_cave_209 : decode cL_cave 209 = .ok (.ishr, 1) := by decide +kernel
theorem dL_cave_210 : decode cL_cave 210 = .ok (.iload 4, 2) := by decide +kernel
theorem dL_cave_212 : decode cL_cave 212 = .ok (.iconst 1, 1) := by decide +kernel
theorem dL_cave_213 : decode cL_cave 213 = .ok (.iadd, 1) := by decide +kernel
theorem dL_cave_214 : decode cL_cave 214 = .ok (.invokestatic 18, 3) := by decide +kernel
theorem dL_cave_217 : decode cL_cave 217 = .ok (.goto 21, 3) := by decide +kernel
theorem dL_cave_220 : decode cL_cave 220 = .ok (.iload 6, 2) := by decide +kernel
theorem dL_cave_222 : decode cL_cave 222 = .ok (.iconst 1, 1) := by decide +kernel
theorem dL_cave_223 : decode cL_cave 223 = .ok (.iadd, 1) := by decide +kernel
theorem dL_cave_224 : decode cL_cave 224 = .ok (.iload 5, 2) := by decide +kernel
theorem dL_cave_226 : decode cL_cave 226 = .ok (.bipush 7, 2) := by decide +kernel
theorem dL_cave_228 : decode cL_cave 228 = .ok (.ishr, 1) := by decide +kernel
theorem dL_cave_229 : decode cL_cave 229 = .ok (.iload_n 2, 1) := by decide +kernel
theorem dL_cave_230 : decode cL_cave 230 = .ok (.iconst 1, 1) := by decide +kernel
theorem dL_cave_231 : decode cL_cave 231 = .ok (.isub, 1) := by decide +kernel
theorem dL_cave_232 : decode cL_cave 232 = .ok (.invokestatic 18, 3) := by decide +kernel
theorem dL_cave_235 : decode cL_cave 235 = .ok (.iadd, 1) := by decide +kernel
theorem dL_cave_236 : decode cL_cave 236 = .ok (.iload_n 2, 1) := by decide +kernel
theorem dL_cave_237 : decode cL_cave 237 = .ok (.irem, 1) := by decide +kernel
theorem dL_cave_238 : decode cL_cave 238 = .ok (.istore 7, 2) := by decide +kernel
theorem dL_cave_240 : decode cL_cave 240 = .ok (.aload_n 1, 1) := by decide +kernel
theorem dL_cave_241 : decode cL_cave 241 = .ok (.iload 6, 2) := by decide +kernel
theorem dL_cave_243 : decode cL_cave 243 = .ok (.iload 7, 2) := by decide +kernel
theorem dL_cave_245 : decode cL_cave 245 = .ok (.iconst 1, 1) := by decide +kernel
theorem dL_cave_246 : decode cL_cave 246 = .ok (.iload 5, 2) := by decide +kernel
theorem dL_cave_248 : decode cL_cave 248 = .ok (.iconst 2, 1) := by decide +kernel
theorem dL_cave_249 : decode cL_cave 249 = .ok (.ishr, 1) := by decide +kernel
theorem dL_cave_250 : decode cL_cave 250 = .ok (.bipush 9, 2) := by decide +kernel
theorem dL_cave_252 : decode cL_cave 252 = .ok (.invokestatic 18, 3) := by decide +kernel
theorem dL_cave_255 : decode cL_cave 255 = .ok (.iadd, 1) := by decide +kernel
theorem dL_cave_256 : decode cL_cave 256 = .ok (.iload 5, 2) := by decide +kernel
theorem dL_cave_258 : decode cL_cave 258 = .ok (.iconst 4, 1) := by decide +kernel
theorem dL_cave_259 : decode cL_cave 259 = .ok (.ishr, 1) := by decide +kernel
theorem dL_cave_260 : decode cL_cave 260 = .ok (.iconst 5, 1) := by decide +kernel
theorem dL_cave_261 : decode cL_cave 261 = .ok (.invokestatic 18, 3) := by decide +kernel
theorem dL_cave_264 : decode cL_cave 264 = .ok (.invokevirtual 26, 3) := by decide +kernel
theorem dL_cave_267 : decode cL_cave 267 = .ok (.pop, 1) := by decide +kernel
theorem dL_cave_268 : decode cL_cave 268 = .ok (.iinc 4 1, 3) := by decide +kernel
theorem dL_cave_271 : decode cL_cave 271 = .ok (.goto (-125), 3) := by decide +kernel
theorem dL_cave_274 : decode cL_cave 274 = .ok (.iconst 1, 1) := by decide +kernel
theorem dL_cave_275 : decode cL_cave 275 = .ok (.istore 4, 2) := by decide +kernel
theorem dL_cave_277 : decode cL_cave 277 = .ok (.iload 4, 2) := by decide +kernel
theorem dL_cave_279 : decode cL_cave 279 = .ok (.iload_n 2, 1) := by decide +kernel
theorem dL_cave_280 : decode cL_cave 280 = .ok (.if_icmp .ge 63, 3) := by decide +kernel
theorem dL_cave_283 : decode cL_cave 283 = .ok (.aload_n 0, 1) := by decide +kernel
theorem dL_cave_284 : decode cL_cave 284 = .ok (.bipush 11, 2) := by decide +kernel
theorem dL_cave_286 : decode cL_cave 286 = .ok (.invokestatic 12, 3) := by decide +kernel
theorem dL_cave_289 : decode cL_cave 289 = .ok (.iload 4, 2) := by decide +kernel
theorem dL_cave_291 : decode cL_cave 291 = .ok (.ishr, 1) := by decide +kernel
theorem dL_cave_292 : decode cL_cave 292 = .ok (.iconst 3, 1) := by decide +kernel
theorem dL_cave_293 : decode cL_cave 293 = .ok (.invokestatic 18, 3) := by decide +kernel
theorem dL_cave_296 : decode cL_cave 296 = .ok (.ifCond .ne 41, 3) := by decide +kernel
theorem dL_cave_299 : decode cL_cave 299 = .ok (.aload_n 1, 1) := by decide +kernel
theorem dL_cave_300 : decode cL_cave 300 = .ok (.iload 4, 2) := by decide +kernel
theorem dL_cave_302 : decode cL_cave 302 = .ok (.iconst 1, 1) := by decide +kernel
theorem dL_cave_303 : decode cL_cave 303 = .ok (.aload_n 0, 1) := by decide +kernel
theorem dL_cave_304 : decode cL_cave 304 = .ok (.bipush 12, 2) := by decide +kernel
theorem dL_cave_306 : decode cL_cave 306 = .ok (.invokestatic 12, 3) := by decide +kernel
theorem dL_cave_309 : decode cL_cave 309 = .ok (.iload 4, 2) := by decide +kernel
theorem dL_cave_311 : decode cL_cave 311 = .ok (.ishr, 1) := by decide +kernel
theorem dL_cave_312 : decode cL_cave 312 = .ok (.iconst 3, 1) := by decide +kernel
theorem dL_cave_313 : decode cL_cave 313 = .ok (.invokestatic 18, 3) := by decide +kernel
theorem dL_cave_316 : decode cL_cave 316 = .ok (.iadd, 1) := by decide +kernel
theorem dL_cave_317 : decode cL_cave 317 = .ok (.aload_n 0, 1) := by decide +kernel
theorem dL_cave_318 : decode cL_cave 318 = .ok (.bipush 12, 2) := by decide +kernel
theorem dL_cave_320 : decode cL_cave 320 = .ok (.invokestatic 12, 3) := by decide +kernel
theorem dL_cave_323 : decode cL_cave 323 = .ok (.iload 4, 2) := by decide +kernel
theorem dL_cave_325 : decode cL_cave 325 = .ok (.iconst 4, 1) := by decide +kernel
theorem dL_cave_326 : decode cL_cave 326 = .ok (.iadd, 1) := by decide +kernel
theorem dL_cave_327 : decode cL_cave 327 = .ok (.ishr, 1) := by decide +kernel
theorem dL_cave_328 : decode cL_cave 328 = .ok (.bipush 21, 2) := by decide +kernel
theorem dL_cave_330 : decode cL_cave 330 = .ok (.invokestatic 18, 3) := by decide +kernel
theorem dL_cave_333 : decode cL_cave 333 = .ok (.invokevirtual 30, 3) := by decide +kernel
theorem dL_cave_336 : decode cL_cave 336 = .ok (.pop, 1) := by decide +kernel
theorem dL_cave_337 : decode cL_cave 337 = .ok (.iinc 4 1, 3) := by decide +kernel
theorem dL_cave_340 : decode cL_cave 340 = .ok (.goto (-63), 3) := by decide +kernel
theorem dL_cave_343 : decode cL_cave 343 = .ok (.aload_n 1, 1) := by decide +kernel
theorem dL_cave_344 : decode cL_cave 344 = .ok (.aload_n 0, 1) := by decide +kernel
theorem dL_cave_345 : decode cL_cave 345 = .ok (.bipush 13, 2) := by decide +kernel
theorem dL_cave_347 : decode cL_cave 347 = .ok (.invokestatic 12, 3) := by decide +kernel
theorem dL_cave_350 : decode cL_cave 350 = .ok (.iconst 3, 1) := by decide +kernel
theorem dL_cave_351 : decode cL_cave 351 = .ok (.invokestatic 18, 3) := by decide +kernel
theorem dL_cave_354 : decode cL_cave 354 = .ok (.ifCond .ne 19, 3) := by decide +kernel
theorem dL_cave_357 : decode cL_cave 357 = .ok (.aload_n 0, 1) := by decide +kernel
theorem dL_cave_358 : decode cL_cave 358 = .ok (.bipush 13, 2) := by decide +kernel
theorem dL_cave_360 : decode cL_cave 360 = .ok (.invokestatic 12, 3) := by decide +kernel
theorem dL_cave_363 : decode cL_cave 363 = .ok (.iconst 4, 1) := by decide +kernel
theorem dL_cave_364 : decode cL_cave 364 = .ok (.ishr, 1) := by decide +kernel
theorem dL_cave_365 : decode cL_cave 365 = .ok (.bipush 31, 2) := by decide +kernel
theorem dL_cave_367 : decode cL_cave 367 = .ok (.invokestatic 18, 3) := by decide +kernel
theorem dL_cave_370 : decode cL_cave 370 = .ok (.goto 4, 3) := by decide +kernel
theorem dL_cave_373 : decode cL_cave 373 = .ok (.iconst 0, 1) := by decide +kernel
theorem dL_cave_374 : decode cL_cave 374 = .ok (.invokevirtual 33, 3) := by decide +kernel
theorem dL_cave_377 : decode cL_cave 377 = .ok (.pop, 1) := by decide +kernel
theorem dL_cave_378 : decode cL_cave 378 = .ok (.aload_n 1, 1) := by decide +kernel
theorem dL_cave_379 : decode cL_cave 379 = .ok (.iconst 1, 1) := by decide +kernel
theorem dL_cave_380 : decode cL_cave 380 = .ok (.aload_n 0, 1) := by decide +kernel
theorem dL_cave_381 : decode cL_cave 381 = .ok (.bipush 14, 2) := by decide +kernel
theorem dL_cave_383 : decode cL_cave 383 = .ok (.invokestatic 12, 3) := by decide +kernel
theorem dL_cave_386 : decode cL_cave 386 = .ok (.bipush 25, 2) := by decide +kernel
theorem dL_cave_388 : decode cL_cave 388 = .ok (.invokestatic 18, 3) := by decide +kernel
theorem dL_cave_391 : decode cL_cave 391 = .ok (.iadd, 1) := by decide +kernel
theorem dL_cave_392 : decode cL_cave 392 = .ok (.invokevirtual 37, 3) := by decide +kernel
theorem dL_cave_395 : decode cL_cave 395 = .ok (.pop, 1) := by decide +kernel
theorem dL_cave_396 : decode cL_cave 396 = .ok (.aload_n 1, 1) := by decide +kernel
theorem dL_cave_397 : decode cL_cave 397 = .ok (.areturn, 1) := by decide +kernel
set_option maxRecDepth 20000 in
theorem ggL_word_L_below : GoodIn wsL_word wsL_below := goodIn_r _ [4, 5] (by decide +kernel) (by decide +kernel)
set_option maxRecDepth 20000 in
theorem gL_word_L_below : GoodIn wsL_word (va_wsS RL 18 yL_below wsL_below) := goodIn_app (goodIn_of _ (by decide +kernel)) ggL_word_L_below
theorem dL_word_0 : decode cL_word 0 = .ok (.iconst 0, 1) := by decide +kernel
theorem dL_word_1 : decode cL_word 1 = .ok (.istore_n 1, 1) := by decide +kernel
theorem dL_word_2 : decode cL_word 2 = .ok (.iload_n 0, 1) := by decide +kernel
theorem dL_word_3 : decode cL_word 3 = .ok (.bipush 6, 2) := by decide +kernel
theorem dL_word_5 : decode cL_word 5 = .ok (.invokestatic 18, 3) := by decide +kernel
theorem dL_word_8 : decode cL_word 8 = .ok (.istore_n 2, 1) := by decide +kernel
theorem dL_word_9 : decode cL_word 9 = .ok (.iload_n 2, 1) := by decide +kernel
theorem dL_word_10 : decode cL_word 10 = .ok (.ifCond .lt 44, 3) := by decide +kernel
theorem dL_word_13 : decode cL_word 13 = .ok (.bipush 10, 2) := by decide +kernel
theorem dL_word_15 : decode cL_word 15 = .ok (.iload_n 1, 1) := by decide +kernel
theorem dL_word_16 : decode cL_word 16 = .ok (.imul, 1) := by decide +kernel
theorem dL_word_17 : decode cL_word 17 = .ok (.iconst 1, 1) := by decide +kernel
theorem dL_word_18 : decode cL_word 18 = .ok (.iadd, 1) := by decide +kernel
theorem dL_word_19 : decode cL_word 19 = .ok (.iload_n 0, 1) := by decide +kernel
theorem dL_word_20 : decode cL_word 20 = .ok (.iconst 3, 1) := by decide +kernel
theorem dL_word_21 : decode cL_word 21 = .ok (.iload_n 2, 1) := by decide +kernel
theorem dL_word_22 : decode cL_word 22 = .ok (.imul, 1) := by decide +kernel
theorem dL_word_23 : decode cL_word 23 = .ok (.iconst 2, 1) := by decide +kernel
theorem dL_word_24 : decode cL_word 24 = .ok (.iadd, 1) := by decide +kernel
theorem dL_word_25 : decode cL_word 25 = .ok (.ishr, 1) := by decide +kernel
theorem dL_word_26 : decode cL_word 26 = .ok (.iload_n 0, 1) := by decide +kernel
theorem dL_word_27 : decode cL_word 27 = .ok (.bipush 20, 2) := by decide +kernel
theorem dL_word_29 : decode cL_word 29 = .ok (.ishr, 1) := by decide +kernel
theorem dL_word_30 : decode cL_word 30 = .ok (.iconst 4, 1) := by decide +kernel
theorem dL_word_31 : decode cL_word 31 = .ok (.invokestatic 18, 3) := by decide +kernel
theorem dL_word_34 : decode cL_word 34 = .ok (.ifCond .ne 8, 3) := by decide +kernel
theorem dL_word_37 : decode cL_word 37 = .ok (.bipush 9, 2) := by decide +kernel
theorem dL_word_39 : decode cL_word 39 = .ok (.goto 4, 3) := by decide +kernel
theorem dL_word_42 : decode cL_word 42 = .ok (.iconst 3, 1) := by decide +kernel
theorem dL_word_43 : decode cL_word 43 = .ok (.invokestatic 18, 3) := by decide +kernel
theorem dL_word_46 : decode cL_word 46 = .ok (.iadd, 1) := by decide +kernel
theorem dL_word_47 : decode cL_word 47 = .ok (.istore_n 1, 1) := by decide +kernel
theorem dL_word_48 : decode cL_word 48 = .ok (.iinc 2 (-1), 3) := by decide +kernel
theorem dL_word_51 : decode cL_word 51 = .ok (.goto (-42), 3) := by decide +kernel
theorem dL_word_54 : decode cL_word 54 = .ok (.iload_n 1, 1) := by decide +kernel
theorem dL_word_55 : decode cL_word 55 = .ok (.ireturn, 1) := by decide +kernel
theorem dL_law_0 : decode cL_law 0 = .ok (.aload_n 0, 1) := by decide +kernel
theorem dL_law_1 : decode cL_law 1 = .ok (.invokestatic 40, 3) := by decide +kernel
theorem dL_law_4 : decode cL_law 4 = .ok (.astore_n 1, 1) := by decide +kernel
theorem dL_law_5 : decode cL_law 5 = .ok (.aload_n 1, 1) := by decide +kernel
theorem dL_law_6 : decode cL_law 6 = .ok (.iconst 0, 1) := by decide +kernel
theorem dL_law_7 : decode cL_law 7 = .ok (.invokevirtual 44, 3) := by decide +kernel
theorem dL_law_10 : decode cL_law 10 = .ok (.istore_n 2, 1) := by decide +kernel
theorem dL_law_11 : decode cL_law 11 = .ok (.aload_n 1, 1) := by decide +kernel
theorem dL_law_12 : decode cL_law 12 = .ok (.iconst 1, 1) := by decide +kernel
theorem dL_law_13 : decode cL_law 13 = .ok (.invokevirtual 44, 3) := by decide +kernel
theorem dL_law_16 : decode cL_law 16 = .ok (.istore_n 3, 1) := by decide +kernel
theorem dL_law_17 : decode cL_law 17 = .ok (.iconst 0, 1) := by decide +kernel
theorem dL_law_18 : decode cL_law 18 = .ok (.istore 4, 2) := by decide +kernel
theorem dL_law_20 : decode cL_law 20 = .ok (.iconst 0, 1) := by decide +kernel
theorem dL_law_21 : decode cL_law 21 = .ok (.istore 5, 2) := by decide +kernel
theorem dL_law_23 : decode cL_law 23 = .ok (.iload 5, 2) := by decide +kernel
theorem dL_law_25 : decode cL_law 25 = .ok (.bipush 24, 2) := by decide +kernel
theorem dL_law_27 : decode cL_law 27 = .ok (.if_icmp .ge 988, 3) := by decide +kernel
theorem dL_law_30 : decode cL_law 30 = .ok (.aload_n 0, 1) := by decide +kernel
theorem dL_law_31 : decode cL_law 31 = .ok (.iload 5, 2) := by decide +kernel
theorem dL_law_33 : decode cL_law 33 = .ok (.bipush 16, 2) := by decide +kernel
theorem dL_law_35 : decode cL_law 35 = .ok (.irem, 1) := by decide +kernel
theorem dL_law_36 : decode cL_law 36 = .ok (.invokestatic 12, 3) := by decide +kernel
theorem dL_law_39 : decode cL_law 39 = .ok (.iload 5, 2) := by decide +kernel
theorem dL_law_41 : decode cL_law 41 = .ok (.bipush 16, 2) := by decide +kernel
theorem dL_law_43 : decode cL_law 43 = .ok (.idiv, 1) := by decide +kernel
theorem dL_law_44 : decode cL_law 44 = .ok (.bipush 6, 2) := by decide +kernel
theorem dL_law_46 : decode cL_law 46 = .ok (.imul, 1) := by decide +kernel
theorem dL_law_47 : decode cL_law 47 = .ok (.ishr, 1) := by decide +kernel
theorem dL_law_48 : decode cL_law 48 = .ok (.istore 6, 2) := by decide +kernel
theorem dL_law_50 : decode cL_law 50 = .ok (.iload 6, 2) := by decide +kernel
theorem dL_law_52 : decode cL_law 52 = .ok (.iconst 3, 1) := by decide +kernel
theorem dL_law_53 : decode cL_law 53 = .ok (.ishr, 1) := by decide +kernel
theorem dL_law_54 : decode cL_law 54 = .ok (.iload_n 2, 1) := by decide +kernel
theorem dL_law_55 : decode cL_law 55 = .ok (.invokestatic 18, 3) := by decide +kernel
theorem dL_law_58 : decode cL_law 58 = .ok (.istore 7, 2) := by decide +kernel
theorem dL_law_60 : decode cL_law 60 = .ok (.iload 6, 2) := by decide +kernel
theorem dL_law_62 : decode cL_law 62 = .ok (.bipush 6, 2) := by decide +kernel
theorem dL_law_64 : decode cL_law 64 = .ok (.invokestatic 18, 3) := by decide +kernel
theorem dL_law_67 : decode cL_law 67 = .ok (.tableswitch 117 0 3 #[29, 46, 65, 98], 29) := by decide +kernel
theorem dL_law_96 : decode cL_law 96 = .ok (.aload_n 1, 1) := by decide +kernel
theorem dL_law_97 : decode cL_law 97 = .ok (.iload 6, 2) := by decide +kernel
theorem dL_law_99 : decode cL_law 99 = .ok (.iconst 5, 1) := by decide +kernel
theorem dL_law_100 : decode cL_law 100 = .ok (.ishr, 1) := by decide +kernel
theorem dL_law_101 : decode cL_law 101 = .ok (.bipush 31, 2) := by decide +kernel
theorem dL_law_103 : decode cL_law 103 = .ok (.invokestatic 18, 3) := by decide +kernel
theorem dL_law_106 : decode cL_law 106 = .ok (.invokevirtual 33, 3) := by decide +kernel
theorem dL_law_109 : decode cL_law 109 = .ok (.pop, 1) := by decide +kernel
theorem dL_law_110 : decode cL_law 110 = .ok (.goto 80, 3) := by decide +kernel
theorem dL_law_113 : decode cL_law 113 = .ok (.aload_n 1, 1) := by decide +kernel
theorem dL_law_114 : decode cL_law 114 = .ok (.iload 7, 2) := by decide +kernel
theorem dL_law_116 : decode cL_law 116 = .ok (.iload 6, 2) := by decide +kernel
theorem dL_law_118 : decode cL_law 118 = .ok (.iconst 5, 1) := by decide +kernel
theorem dL_law_119 : decode cL_law 119 = .ok (.ishr, 1) := by decide +kernel
theorem dL_law_120 : decode cL_law 120 = .ok (.bipush 21, 2) := by decide +kernel
theorem dL_law_122 : decode cL_law 122 = .ok (.invokestatic 18, 3) := by decide +kernel
theorem dL_law_125 : decode cL_law 125 = .ok (.invokevirtual 47, 3) := by decide +kernel
theorem dL_law_128 : decode cL_law 128 = .ok (.pop, 1) := by decide +kernel
theorem dL_law_129 : decode cL_law 129 = .ok (.goto 61, 3) := by decide +kernel
theorem dL_law_132 : decode cL_law 132 = .ok (.iload 7, 2) := by decide +kernel
theorem dL_law_134 : decode cL_law 134 = .ok (.ifCond .le 56, 3) := by decide +kernel
theorem dL_law_137 : decode cL_law 137 = .ok (.aload_n 1, 1) := by decide +kernel
theorem dL_law_138 : decode cL_law 138 = .ok (.iload 7, 2) := by decide +kernel
theorem dL_law_140 : decode cL_law 140 = .ok (.iload 6, 2) := by decide +kernel
theorem dL_law_142 : decode cL_law 142 = .ok (.iconst 5, 1) := by decide +kernel
theorem dL_law_143 : decode cL_law 143 = .ok (.ishr, 1) := by decide +kernel
theorem dL_law_144 : decode cL_law 144 = .ok (.iconst 4, 1) := by decide +kernel
theorem dL_law_145 : decode cL_law 145 = .ok (.invokestatic 18, 3) := by decide +kernel
theorem dL_law_148 : decode cL_law 148 = .ok (.iload 6, 2) := by decide +kernel
theorem dL_law_150 : decode cL_law 150 = .ok (.bipush 8, 2) := by decide +kernel
theorem dL_law_152 : decode cL_law 152 = .ok (.ishr, 1) := by decide +kernel
theorem dL_law_153 : decode cL_law 153 = .ok (.bipush 21, 2) := by decide +kernel
theorem dL_law_155 : decode cL_law 155 = .ok (.invokestatic 18, 3) := by decide +kernel
theorem dL_law_158 : decode cL_law 158 = .ok (.invokevirtual 30, 3) := by decide +kernel
theorem dL_law_161 : decode cL_law 161 = .ok (.pop, 1) := by decide +kernel
theorem dL_law_162 : decode cL_law 162 = .ok (.goto 28, 3) := by decide +kernel
theorem dL_law_165 : decode cL_law 165 = .ok (.aload_n 1, 1) := by decide +kernel
theorem dL_law_166 : decode cL_law 166 = .ok (.iconst 1, 1) := by decide +kernel
theorem dL_law_167 : decode cL_law 167 = .ok (.iload 6, 2) := by decide +kernel
theorem dL_law_169 : decode cL_law 169 = .ok (.iconst 5, 1) := by decide +kernel
theorem dL_law_170 : decode cL_law 170 = .ok (.ishr, 1) := by decide +kernel
theorem dL_law_171 : decode cL_law 171 = .ok (.bipush 50, 2) := by decide +kernel
theorem dL_law_173 : decode cL_law 173 = .ok (.invokestatic 18, 3) := by decide +kernel
theorem dL_law_176 : decode cL_law 176 = .ok (.iadd, 1) := by decide +kernel
theorem dL_law_177 : decode cL_law 177 = .ok (.invokevirtual 37, 3) := by decide +kernel
theorem dL_law_180 : decode cL_law 180 = .ok (.pop, 1) := by decide +kernel
theorem dL_law_181 : decode cL_law 181 = .ok (.goto 9, 3) := by decide +kernel
theorem dL_law_184 : decode cL_law 184 = .ok (.aload_n 1, 1) := by decide +kernel
theorem dL_law_185 : decode cL_law 185 = .ok (.iconst 0, 1) := by decide +kernel
theorem dL_law_186 : decode cL_law 186 = .ok (.invokevirtual 33, 3) := by decide +kernel
theorem dL_law_189 : decode cL_law 189 = .ok (.pop, 1) := by decide +kernel
theorem dL_law_190 : decode cL_law 190 = .ok (.iload 6, 2) := by decide +kernel
theorem dL_law_192 : decode cL_law 192 = .ok (.iconst 2, 1) := by decide +kernel
theorem dL_law_193 : decode cL_law 193 = .ok (.ishr, 1) := by decide +kernel
theorem dL_law_194 : decode cL_law 194 = .ok (.invokestatic 50, 3) := by decide +kernel
theorem dL_law_197 : decode cL_law 197 = .ok (.istore 8, 2) := by decide +kernel
theorem dL_law_199 : decode cL_law 199 = .ok (.iconst 1, 1) := by decide +kernel
theorem dL_law_200 : decode cL_law 200 = .ok (.iload 6, 2) := by decide +kernel
theorem dL_law_202 : decode cL_law 202 = .ok (.bipush 6, 2) := by decide +kernel
theorem dL_law_204 : decode cL_law 204 = .ok (.ishr, 1) := by decide +kernel
theorem dL_law_205 : decode cL_law 205 = .ok (.bipush 20, 2) := by decide +kernel
theorem dL_law_207 : decode cL_law 207 = .ok (.invokestatic 18, 3) := by decide +kernel
theorem dL_law_210 : decode cL_law 210 = .ok (.iadd, 1) := by decide +kernel
theorem dL_law_211 : decode cL_law 211 = .ok (.istore 9, 2) := by decide +kernel
theorem dL_law_213 : decode cL_law 213 = .ok (.aload_n 1, 1) := by decide +kernel
theorem dL_law_214 : decode cL_law 214 = .ok (.invokevirtual 53, 3) := by decide +kernel
theorem dL_law_217 : decode cL_law 217 = .ok (.lstore 10, 2) := by decide +kernel
theorem dL_law_219 : decode cL_law 219 = .ok (.aload_n 1, 1) := by decide +kernel
theorem dL_law_220 : decode cL_law 220 = .ok (.iload 8, 2) := by decide +kernel
theorem dL_law_222 : decode cL_law 222 = .ok (.iload 9, 2) := by decide +kernel
theorem dL_law_224 : decode cL_law 224 = .ok (.iconst 0, 1) := by decide +kernel
theorem dL_law_225 : decode cL_law 225 = .ok (.invokevirtual 57, 3) := by decide +kernel
theorem dL_law_228 : decode cL_law 228 = .ok (.istore 12, 2) := by decide +kernel
theorem dL_law_230 : decode cL_law 230 = .ok (.aload_n 1, 1) := by decide +kernel
theorem dL_law_231 : decode cL_law 231 = .ok (.iload 8, 2) := by decide +kernel
theorem dL_law_233 : decode cL_law 233 = .ok (.iload 9, 2) := by decide +kernel
theorem dL_law_235 : decode cL_law 235 = .ok (.iconst 1, 1) := by decide +kernel
theorem dL_law_236 : decode cL_law 236 = .ok (.iload 6, 2) := by decide +kernel
theorem dL_law_238 : decode cL_law 238 = .ok (.iconst 4, 1) := by decide +kernel
theorem dL_law_239 : decode cL_law 239 = .ok (.ishr, 1) := by decide +kernel
theorem dL_law_240 : decode cL_law 240 = .ok (.bipush 9, 2) := by decide +kernel
theorem dL_law_242 : decode cL_law 242 = .ok (.invokestatic 18, 3) := by decide +kernel
theorem dL_law_245 : decode cL_law 245 = .ok (.iadd, 1) := by decide +kernel
theorem dL_law_246 : decode cL_law 246 = .ok (.iload 6, 2) := by decide +kernel
theorem dL_law_248 : decode cL_law 248 = .ok (.bipush 7, 2) := by decide +kernel
theorem dL_law_250 : decode cL_law 250 = .ok (.ishr, 1) := by decide +kernel
theorem dL_law_251 : decode cL_law 251 = .ok (.bipush 21, 2) := by decide +kernel
theorem dL_law_253 : decode cL_law 253 = .ok (.invokestatic 18, 3) := by decide +kernel
theorem dL_law_256 : decode cL_law 256 = .ok (.invokevirtual 60, 3) := by decide +kernel
theorem dL_law_259 : decode cL_law 259 = .ok (.istore 13, 2) := by decide +kernel
theorem dL_law_261 : decode cL_law 261 = .ok (.iload 5, 2) := by decide +kernel
theorem dL_law_263 : decode cL_law 263 = .ok (.iconst 4, 1) := by decide +kernel
theorem dL_law_264 : decode cL_law 264 = .ok (.irem, 1) := by decide +kernel
theorem dL_law_265 : decode cL_law 265 = .ok (.ifCond .ne 12, 3) := by decide +kernel
theorem dL_law_268 : decode cL_law 268 = .ok (.aload_n 1, 1) := by decide +kernel
theorem dL_law_269 : decode cL_law 269 = .ok (.iload 8, 2) := by decide +kernel
theorem dL_law_271 : decode cL_law 271 = .ok (.invokevirtual 63, 3) := by decide +kernel
theorem dL_law_274 : decode cL_law 274 = .ok (.goto 4, 3) := by decide +kernel
theorem dL_law_277 : decode cL_law 277 = .ok (.iconst 0, 1) := by decide +kernel
theorem dL_law_278 : decode cL_law 278 = .ok (.istore 14, 2) := by decide +kernel
theorem dL_law_280 : decode cL_law 280 = .ok (.aload_n 1, 1) := by decide +kernel
theorem dL_law_281 : decode cL_law 281 = .ok (.iconst 1, 1) := by decide +kernel
theorem dL_law_282 : decode cL_law 282 = .ok (.iload 6, 2) := by decide +kernel
theorem dL_law_284 : decode cL_law 284 = .ok (.bipush 9, 2) := by decide +kernel
theorem dL_law_286 : decode cL_law 286 = .ok (.ishr, 1) := by decide +kernel
theorem dL_law_287 : decode cL_law 287 = .ok (.bipush 9, 2) := by decide +kernel
theorem dL_law_289 : decode cL_law 289 = .ok (.invokestatic 18, 3) := by decide +kernel
theorem dL_law_292 : decode cL_law 292 = .ok (.iadd, 1) := by decide +kernel
theorem dL_law_293 : decode cL_law 293 = .ok (.iload 9, 2) := by decide +kernel
theorem dL_law_295 : decode cL_law 295 = .ok (.invokevirtual 66, 3) := by decide +kernel
theorem dL_law_298 : decode cL_law 298 = .ok (.istore 15, 2) := by decide +kernel
theorem dL_law_300 : decode cL_law 300 = .ok (.aload_n 1, 1) := by decide +kernel
theorem dL_law_301 : decode cL_law 301 = .ok (.invokevirtual 53, 3) := by decide +kernel
theorem dL_law_304 : decode cL_law 304 = .ok (.lload 10, 2) := by decide +kernel
theorem dL_law_306 : decode cL_law 306 = .ok (.lcmp, 1) := by decide +kernel
theorem dL_law_307 : decode cL_law 307 = .ok (.ifCond .ne 33, 3) := by decide +kernel
theorem dL_law_310 : decode cL_law 310 = .ok (.iload 13, 2) := by decide +kernel
theorem dL_law_312 : decode cL_law 312 = .ok (.ifCond .eq 28, 3) := by decide +kernel
theorem dL_law_315 : decode cL_law 315 = .ok (.iload 13, 2) := by decide +kernel
theorem dL_law_317 : decode cL_law 317 = .ok (.iload_n 2, 1) := by decide +kernel
theorem dL_law_318 : decode cL_law 318 = .ok (.if_icmp .ge 22, 3) := by decide +kernel
theorem dL_law_321 : decode cL_law 321 = .ok (.iload 15, 2) := by decide +kernel
theorem dL_law_323 : decode cL_law 323 = .ok (.ifCond .lt 17, 3) := by decide +kernel
theorem dL_law_326 : decode cL_law 326 = .ok (.iload 15, 2) := by decide +kernel
theorem dL_law_328 : decode cL_law 328 = .ok (.bipush 6, 2) := by decide +kernel
theorem dL_law_330 : decode cL_law 330 = .ok (.if_icmp .gt 10, 3) := by decide +kernel
theorem dL_law_333 : decode cL_law 333 = .ok (.iload 14, 2) := by decide +kernel
theorem dL_law_335 : decode cL_law 335 = .ok (.bipush 20, 2) := by decide +kernel
theorem dL_law_337 : decode cL_law 337 = .ok (.if_icmp .le 5, 3) := by decide +kernel
theorem dL_law_340 : decode cL_law 340 = .ok (.iconst 0, 1) := by decide +kernel
theorem dL_law_341 : decode cL_law 341 = .ok (.ireturn, 1) := by decide +kernel
theorem dL_law_342 : decode cL_law 342 = .ok (.iconst 0, 1) := by decide +kernel
theorem dL_law_343 : decode cL_law 343 = .ok (.istore 16, 2) := by decide +kernel
theorem dL_law_345 : decode cL_law 345 = .ok (.bipush 99, 2) := by decide +kernel
theorem dL_law_347 : decode cL_law 347 = .ok (.istore 17, 2) := by decide +kernel
theorem dL_law_349 : decode cL_law 349 = .ok (.iconst 0, 1) := by decide +kernel
theorem dL_law_350 : decode cL_law 350 = .ok (.istore 18, 2) := by decide +kernel
theorem dL_law_352 : decode cL_law 352 = .ok (.iload 18, 2) := by decide +kernel
theorem dL_law_354 : decode cL_law 354 = .ok (.iload_n 3, 1) := by decide +kernel
theorem dL_law_355 : decode cL_law 355 = .ok (.if_icmp .ge 66, 3) := by decide +kernel
theorem dL_law_358 : decode cL_law 358 = .ok (.iload 16, 2) := by decide +kernel
theorem dL_law_360 : decode cL_law 360 = .ok (.aload_n 1, 1) := by decide +kernel
theorem dL_law_361 : decode cL_law 361 = .ok (.iload 18, 2) := by decide +kernel
theorem dL_law_363 : decode cL_law 363 = .ok (.iconst 4, 1) := by decide +kernel
theorem dL_law_364 : decode cL_law 364 = .ok (.invokevirtual 69, 3) := by decide +kernel
theorem dL_law_367 : decode cL_law 367 = .ok (.iadd, 1) := by decide +kernel
theorem dL_law_368 : decode cL_law 368 = .ok (.istore 16, 2) := by decide +kernel
theorem dL_law_370 : decode cL_law 370 = .ok (.aload_n 1, 1) := by decide +kernel
theorem dL_law_371 : decode cL_law 371 = .ok (.iload 18, 2) := by decide +kernel
theorem dL_law_373 : decode cL_law 373 = .ok (.iconst 4, 1) := by decide +kernel
theorem dL_law_374 : decode cL_law 374 = .ok (.invokevirtual 69, 3) := by decide +kernel
theorem dL_law_377 : decode cL_law 377 = .ok (.iconst 1, 1) := by decide +kernel
theorem dL_law_378 : decode cL_law 378 = .ok (.if_icmp .ne 37, 3) := by decide +kernel
theorem dL_law_381 : decode cL_law 381 = .ok (.aload_n 1, 1) := by decide +kernel
theorem dL_law_382 : decode cL_law 382 = .ok (.iload 18, 2) := by decide +kernel
theorem dL_law_384 : decode cL_law 384 = .ok (.iconst 0, 1) := by decide +kernel
theorem dL_law_385 : decode cL_law 385 = .ok (.invokevirtual 69, 3) := by decide +kernel
theorem dL_law_388 : decode cL_law 388 = .ok (.ifCond .eq 13, 3) := by decide +kernel
theorem dL_law_391 : decode cL_law 391 = .ok (.aload_n 1, 1) := by decide +kernel
theorem dL_law_392 : decode cL_law 392 = .ok (.iload 18, 2) := by decide +kernel
theorem dL_law_394 : decode cL_law 394 = .ok (.iconst 1, 1) := by decide +kernel
theorem dL_law_395 : decode cL_law 395 = .ok (.invokevirtual 69, 3) := by decide +kernel
theorem dL_law_398 : decode cL_law 398 = .ok (.ifCond .ne 17, 3) := by decide +kernel
theorem dL_law_401 : decode cL_law 401 = .ok (.iload 17, 2) := by decide +kernel
theorem dL_law_403 : decode cL_law 403 = .ok (.aload_n 1, 1) := by decide +kernel
theorem dL_law_404 : decode cL_law 404 = .ok (.iload 18, 2) := by decide +kernel
theorem dL_law_406 : decode cL_law 406 = .ok (.iconst 2, 1) := by decide +kernel
theorem dL_law_407 : decode cL_law 407 = .ok (.invokevirtual 69, 3) := by decide +kernel
theorem dL_law_410 : decode cL_law 410 = .ok (.invokestatic 72, 3) := by decide +kernel
theorem dL_law_413 : decode cL_law 413 = .ok (.istore 17, 2) := by decide +kernel
theorem dL_law_415 : decode cL_law 415 = .ok (.iinc 18 1, 3) := by decide +kernel
theorem dL_law_418 : decode cL_law 418 = .ok (.goto (-66), 3) := by decide +kernel
theorem dL_law_421 : decode cL_law 421 = .ok (.iload 16, 2) := by decide +kernel
theorem dL_law_423 : decode cL_law 423 = .ok (.aload_n 1, 1) := by decide +kernel
theorem dL_law_424 : decode cL_law 424 = .ok (.iconst 2, 1) := by decide +kernel
theorem dL_law_425 : decode cL_law 425 = .ok (.invokevirtual 44, 3) := by decide +kernel
theorem dL_law_428 : decode cL_law 428 = .ok (.if_icmp .eq 5, 3) := by decide +kernel
theorem dL_law_431 : decode cL_law 431 = .ok (.iconst 0, 1) := by decide +kernel
theorem dL_law_432 : decode cL_law 432 = .ok (.ireturn, 1) := by decide +kernel
theorem dL_law_433 : decode cL_law 433 = .ok (.iconst 0, 1) := by decide +kernel
theorem dL_law_434 : decode cL_law 434 = .ok (.istore 18, 2) := by decide +kernel
theorem dL_law_436 : decode cL_law 436 = .ok (.iload 18, 2) := by decide +kernel
theorem dL_law_438 : decode cL_law 438 = .ok (.iload_n 2, 1) := by decide +kernel
theorem dL_law_439 : decode cL_law 439 = .ok (.if_icmp .ge 82, 3) := by decide +kernel
theorem dL_law_442 : decode cL_law 442 = .ok (.aload_n 1, 1) := by decide +kernel
theorem dL_law_443 : decode cL_law 443 = .ok (.iconst 0, 1) := by decide +kernel
theorem dL_law_444 : decode cL_law 444 = .ok (.iload 18, 2) := by decide +kernel
theorem dL_law_446 : decode cL_law 446 = .ok (.invokevirtual 77, 3) := by decide +kernel
theorem dL_law_449 : decode cL_law 449 = .ok (.istore 19, 2) := by decide +kernel
theorem dL_law_451 : decode cL_law 451 = .ok (.iload 19, 2) := by decide +kernel
theorem dL_law_453 : decode cL_law 453 = .ok (.ifCond .lt 7, 3) := by decide +kernel
theorem dL_law_456 : decode cL_law 456 = .ok (.iconst 1, 1) := by decide +kernel
theorem dL_law_457 : decode cL_law 457 = .ok (.goto 4, 3) := by decide +kernel
theorem dL_law_460 : decode cL_law 460 = .ok (.iconst 0, 1) := by decide +kernel
theorem dL_law_461 : decode cL_law 461 = .ok (.aload_n 1, 1) := by decide +kernel
theorem dL_law_462 : decode cL_law 462 = .ok (.iload 18, 2) := by decide +kernel
theorem dL_law_464 : decode cL_law 464 = .ok (.invokevirtual 80, 3) := by decide +kernel
theorem dL_law_467 : decode cL_law 467 = .ok (.aload_n 1, 1) := by decide +kernel
theorem dL_law_468 : decode cL_law 468 = .ok (.iconst 4, 1) := by decide +kernel
theorem dL_law_469 : decode cL_law 469 = .ok (.invokevirtual 44, 3) := by decide +kernel
theorem dL_law_472 : decode cL_law 472 = .ok (.if_icmp .lt 7, 3) := by decide +kernel
theorem dL_law_475 : decode cL_law 475 = .ok (.iconst 1, 1) := by decide +kernel
theorem dL_law_476 : decode cL_law 476 = .ok (.goto 4, 3) := by decide +kernel
theorem dL_law_479 : decode cL_law 479 = .ok (.iconst 0, 1) := by decide +kernel
theorem dL_law_480 : decode cL_law 480 = .ok (.if_icmp .ne 33, 3) := by decide +kernel
theorem dL_law_483 : decode cL_law 483 = .ok (.aload_n 1, 1) := by decide +kernel
theorem dL_law_484 : decode cL_law 484 = .ok (.iload 18, 2) := by decide +kernel
theorem dL_law_486 : decode cL_law 486 = .ok (.bipush 6, 2) := by decide +kernel
theorem dL_law_488 : decode cL_law 488 = .ok (.invokevirtual 83, 3) := by decide +kernel
theorem dL_law_491 : decode cL_law 491 = .ok (.aload_n 1, 1) := by decide +kernel
theorem dL_law_492 : decode cL_law 492 = .ok (.iload 18, 2) := by decide +kernel
theorem dL_law_494 : decode cL_law 494 = .ok (.iconst 5, 1) := by decide +kernel
theorem dL_law_495 : decode cL_law 495 = .ok (.invokevirtual 83, 3) := by decide +kernel
theorem dL_law_498 : decode cL_law 498 = .ok (.if_icmp .gt 15, 3) := by decide +kernel
theorem dL_law_501 : decode cL_law 501 = .ok (.iload 19, 2) := by decide +kernel
theorem dL_law_503 : decode cL_law 503 = .ok (.ifCond .le 12, 3) := by decide +kernel
theorem dL_law_506 : decode cL_law 506 = .ok (.iload 19, 2) := by decide +kernel
theorem dL_law_508 : decode cL_law 508 = .ok (.iload 17, 2) := by decide +kernel
theorem dL_law_510 : decode cL_law 510 = .ok (.if_icmp .ge 5, 3) := by decide +kernel
